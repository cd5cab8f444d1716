-- the game: what a number is worth, sums of them, the turn that wins
def mp_mex (a b : Int32) : Int32 := if ¬ ((0 : Int) = a.toInt ∨ (0 : Int) = b.toInt) then 0 else if ¬ ((1 : Int) = a.toInt ∨ (1 : Int) = b.toInt) then 1 else 2
def mp_nimT : Nat → Nat → Int32
  | 0 => fun _ => 0
  | n + 1 => fun j => if j = n + 1 then mp_mex (mp_nimT n n) (mp_nimT n ((n + 1) / 2)) else mp_nimT n j
def mp_nim (n : Nat) : Int32 := mp_nimT n n
theorem mp_nimT_le : ∀ {m j : Nat}, j ≤ m → mp_nimT m j = mp_nim j := by
  intro m
  induction m with
  | zero => intro j hj; rw [show j = 0 by omega]; rfl
  | succ m ih =>
    intro j hj
    by_cases q : j = m + 1
    · rw [q]; rfl
    · show (if j = m + 1 then _ else mp_nimT m j) = _
      rw [if_neg q]; exact ih (by omega)
theorem mp_nim_s {n : Nat} : mp_nim (n + 1) = mp_mex (mp_nim n) (mp_nim ((n + 1) / 2)) := by
  show (if n + 1 = n + 1 then mp_mex (mp_nimT n n) (mp_nimT n ((n + 1) / 2)) else _) = _
  rw [if_pos rfl, mp_nimT_le (m := n) (j := (n + 1) / 2) (by omega)]
  rfl
theorem mp_nim_st {f g : Nat → Int32} {n n' : Int} {i v : Int32} (p : ∀ j : Nat, (j : Int) < n → f j = mp_nim j) (h : g = upd f i.toNatClampNeg v) (hi : i.toInt = n) (h1 : 1 ≤ n) (hv : v = mp_mex (f (n - 1).toNat) (f (n / 2).toNat)) (hn : n' = n + 1) : ∀ j : Nat, (j : Int) < n' → g j = mp_nim j := by
  intro j hj
  have e : i.toNatClampNeg = n.toNat := by simp only [Int32.toNatClampNeg]; omega
  rw [h, e]
  simp only [upd]
  by_cases q : j = n.toNat
  · rw [if_pos q, hv, p _ (by omega), p _ (by omega), q, show n.toNat = (n - 1).toNat + 1 by omega, mp_nim_s]
    congr 2
    omega
  · rw [if_neg q]; exact p j (by omega)
theorem mp_mex_0 {a b : Int32} (h1 : (0 : Int) ≠ a.toInt) (h2 : (0 : Int) ≠ b.toInt) : mp_mex a b = 0 := by
  unfold mp_mex; rw [if_pos (by omega)]
theorem mp_mex_1 {a b : Int32} (h0 : (0 : Int) = a.toInt ∨ (0 : Int) = b.toInt) (h1 : (1 : Int) ≠ a.toInt) (h2 : (1 : Int) ≠ b.toInt) : mp_mex a b = 1 := by
  unfold mp_mex; rw [if_neg (by omega), if_pos (by omega)]
theorem mp_mex_2 {a b : Int32} (h0 : (0 : Int) = a.toInt ∨ (0 : Int) = b.toInt) (h1 : (1 : Int) = a.toInt ∨ (1 : Int) = b.toInt) : mp_mex a b = 2 := by
  unfold mp_mex; rw [if_neg (by omega), if_neg (by omega)]
/-- the first n numbers taken together -/
def mp_xr (hp : Nat → Int32) : Nat → Int32
  | 0 => 0
  | n + 1 => mp_xr hp n ^^^ mp_nim (hp n).toInt.toNat
theorem mp_xr_s {hp : Nat → Int32} {x y : Int32} {n n' : Int} (h : x = mp_xr hp n.toNat) (hy : y = x ^^^ mp_nim (hp n.toNat).toInt.toNat) (h0 : 0 ≤ n ∧ n' = n + 1) : y = mp_xr hp n'.toNat := by
  rw [show n'.toNat = n.toNat + 1 by omega, hy, h]; rfl
theorem mp_xr_cong {f g : Nat → Int32} : ∀ {n : Nat}, (∀ j : Nat, j < n → f j = g j) → mp_xr f n = mp_xr g n
  | 0, _ => rfl
  | n + 1, h => by
    show mp_xr f n ^^^ _ = mp_xr g n ^^^ _
    rw [mp_xr_cong (fun j hj => h j (by omega)), h n (by omega)]
/-- the turn that wins, looked for from i on, k numbers more -/
def mp_tn (hp : Nat → Int32) (all : Int32) : Nat → Nat → Int
  | 0, _ => -1
  | k + 1, i => if 0 < (hp i).toInt ∧ (mp_nim ((hp i).toInt - 1).toNat).toInt = (all ^^^ mp_nim (hp i).toInt.toNat).toInt then (i : Int) else if 0 < (hp i).toInt ∧ (mp_nim ((hp i).toInt / 2).toNat).toInt = (all ^^^ mp_nim (hp i).toInt.toNat).toInt then 10 + (i : Int) else mp_tn hp all k (i + 1)
theorem mp_tn_cong {f g : Nat → Int32} {a : Int32} : ∀ {k i : Nat}, (∀ j : Nat, j < i + k → f j = g j) → mp_tn f a k i = mp_tn g a k i
  | 0, _, _ => rfl
  | k + 1, i, h => by
    show (if _ then _ else if _ then _ else mp_tn f a k (i + 1)) = (if _ then _ else if _ then _ else mp_tn g a k (i + 1))
    rw [mp_tn_cong (fun j hj => h j (by omega)), h i (by omega)]
theorem mp_c99_t {f : Nat → Int64} {slot i i' : Int} {z : Int64} (p : mp_c99 f slot i) (h : z = f (60 * slot + i).toNat) (h0 : 0 ≤ slot ∧ 0 ≤ i) (hz : 0 ≤ z.toInt ∧ z.toInt ≤ 99) (hn : i' = i + 1) : mp_c99 f slot i' := by
  intro j hj
  by_cases q : (j : Int) = i
  · rw [show 60 * slot.toNat + j = (60 * slot + i).toNat by omega, ← h]; exact hz
  · exact p j (by omega)
theorem mp_c99_no {f : Nat → Int64} {slot i n : Int} {z : Int64} (h : z = f (60 * slot + i).toNat) (h0 : 0 ≤ slot ∧ 0 ≤ i ∧ i < n) (hz : z.toInt < 0 ∨ 99 < z.toInt) : ¬ mp_c99 f slot n := by
  intro p
  have g := p i.toNat (by omega)
  rw [show 60 * slot.toNat + i.toNat = (60 * slot + i).toNat by omega, ← h] at g
  omega
theorem mp_hp_s {hp hp' : Nat → Int32} {f : Nat → Int64} {slot n n' : Int} {i v : Int32} {z : Int64} (p : ∀ j : Nat, (j : Int) < n → hp j = (f (60 * slot.toNat + j)).toInt32) (h : hp' = upd hp i.toNatClampNeg v) (hv : v = z.toInt32) (hz : z = f (60 * slot + n).toNat) (hi : i.toInt = n) (h0 : 0 ≤ slot ∧ 0 ≤ n) (hn : n' = n + 1) : ∀ j : Nat, (j : Int) < n' → hp' j = (f (60 * slot.toNat + j)).toInt32 := by
  intro j hj
  have e : i.toNatClampNeg = n.toNat := by simp only [Int32.toNatClampNeg]; omega
  rw [h, e]
  simp only [upd]
  by_cases q : j = n.toNat
  · rw [if_pos q, hv, hz, q, show 60 * slot.toNat + n.toNat = (60 * slot + n).toNat by omega]
  · rw [if_neg q]; exact p j (by omega)
section MPTN
variable {hp : Nat → Int32} {all : Int32} {n i i' R : Int}
theorem mp_tn_a (h : mp_tn hp all (n - i).toNat i.toNat = R) (hi : 0 ≤ i ∧ i < n) (c : 0 < (hp i.toNat).toInt ∧ (mp_nim ((hp i.toNat).toInt - 1).toNat).toInt = (all ^^^ mp_nim (hp i.toNat).toInt.toNat).toInt) : i = R := by
  rw [← h, show (n - i).toNat = (n - i - 1).toNat + 1 by omega]
  show i = if _ then _ else _
  rw [if_pos c]; omega
theorem mp_tn_b (h : mp_tn hp all (n - i).toNat i.toNat = R) (hi : 0 ≤ i ∧ i < n) (c : ¬ (0 < (hp i.toNat).toInt ∧ (mp_nim ((hp i.toNat).toInt - 1).toNat).toInt = (all ^^^ mp_nim (hp i.toNat).toInt.toNat).toInt)) (c2 : 0 < (hp i.toNat).toInt ∧ (mp_nim ((hp i.toNat).toInt / 2).toNat).toInt = (all ^^^ mp_nim (hp i.toNat).toInt.toNat).toInt) : 10 + i = R := by
  rw [← h, show (n - i).toNat = (n - i - 1).toNat + 1 by omega]
  show 10 + i = if _ then _ else _
  rw [if_neg c, if_pos c2]; omega
theorem mp_tn_c (h : mp_tn hp all (n - i).toNat i.toNat = R) (hi : 0 ≤ i ∧ i < n) (c : ¬ (0 < (hp i.toNat).toInt ∧ (mp_nim ((hp i.toNat).toInt - 1).toNat).toInt = (all ^^^ mp_nim (hp i.toNat).toInt.toNat).toInt)) (c2 : ¬ (0 < (hp i.toNat).toInt ∧ (mp_nim ((hp i.toNat).toInt / 2).toNat).toInt = (all ^^^ mp_nim (hp i.toNat).toInt.toNat).toInt)) (hn : i' = i + 1) : mp_tn hp all (n - i').toNat i'.toNat = R := by
  rw [← h, show (n - i).toNat = (n - i').toNat + 1 by omega, show i'.toNat = i.toNat + 1 by omega]
  show _ = if _ then _ else if _ then _ else _
  rw [if_neg c, if_neg c2]
theorem mp_tn_d (h : mp_tn hp all (n - i).toNat i.toNat = R) (hi : n ≤ i) : -1 = R := by
  rw [← h, show (n - i).toNat = 0 by omega]; rfl
end MPTN
theorem mp_mex_of {a b v : Int32} (h : v.toInt = 0 ∨ (v.toInt = 1 ∧ (a.toInt = 0 ∨ b.toInt = 0)) ∨ (v.toInt = 2 ∧ ((a.toInt = 0 ∧ b.toInt = 1) ∨ (a.toInt = 1 ∧ b.toInt = 0)))) (ha : v.toInt ≠ a.toInt) (hb : v.toInt ≠ b.toInt) : v = mp_mex a b := by
  have i0 : (0 : Int32).toInt = 0 := rfl
  have i1 : (1 : Int32).toInt = 1 := rfl
  have i2 : (2 : Int32).toInt = 2 := rfl
  rcases h with h | ⟨h, q⟩ | ⟨h, q⟩
  · rw [mp_mex_0 (by omega) (by omega)]; exact Int32.toInt_inj.mp (by omega)
  · rw [mp_mex_1 (by omega) (by omega) (by omega)]; exact Int32.toInt_inj.mp (by omega)
  · rw [mp_mex_2 (by omega) (by omega)]; exact Int32.toInt_inj.mp (by omega)
theorem mp_nim_z {f g : Nat → Int32} {i : Int32} {n : Int} (h : g = upd f i.toNatClampNeg 0) (hi : i.toInt = 0) (hn : n ≤ 1) : ∀ j : Nat, (j : Int) < n → g j = mp_nim j := by
  intro j hj
  rw [h, show i.toNatClampNeg = 0 by simp only [Int32.toNatClampNeg]; omega, show j = 0 by omega]
  rfl
section MPTZ
variable {hp : Nat → Int32} {all z o v0 v1 v2 : Int32} {n i i' R : Int}
theorem mp_tn_z (h : mp_tn hp all (n - i).toNat i.toNat = R) (hi : 0 ≤ i ∧ i < n) (hz : z = hp i.toNat) (c : z.toInt ≤ 0) (hn : i' = i + 1) : mp_tn hp all (n - i').toNat i'.toNat = R := by
  subst hz
  exact mp_tn_c h hi (fun q => by have := q.1; omega) (fun q => by have := q.1; omega) hn
theorem mp_tn_n (h : mp_tn hp all (n - i).toNat i.toNat = R) (hi : 0 ≤ i ∧ i < n) (hz : z = hp i.toNat) (ho : o = all ^^^ v0) (j0 : v0 = mp_nim z.toInt.toNat) (j1 : v1 = mp_nim (z.toInt - 1).toNat) (j2 : v2 = mp_nim (z.toInt / 2).toNat) (c1 : v1.toInt ≠ o.toInt) (c2 : v2.toInt ≠ o.toInt) (hn : i' = i + 1) : mp_tn hp all (n - i').toNat i'.toNat = R := by
  subst hz j0 ho j1 j2
  exact mp_tn_c h hi (fun q => c1 q.2) (fun q => c2 q.2) hn
theorem mp_tn_1 (h : mp_tn hp all (n - i).toNat i.toNat = R) (hi : 0 ≤ i ∧ i < n) (hz : z = hp i.toNat) (c : 0 < z.toInt) (ho : o = all ^^^ v0) (j0 : v0 = mp_nim z.toInt.toNat) (j1 : v1 = mp_nim (z.toInt - 1).toNat) (c1 : v1.toInt = o.toInt) : i = R := by
  subst hz j0 ho j1
  exact mp_tn_a h hi ⟨c, c1⟩
theorem mp_tn_2 (h : mp_tn hp all (n - i).toNat i.toNat = R) (hi : 0 ≤ i ∧ i < n) (hz : z = hp i.toNat) (c : 0 < z.toInt) (ho : o = all ^^^ v0) (j0 : v0 = mp_nim z.toInt.toNat) (j1 : v1 = mp_nim (z.toInt - 1).toNat) (j2 : v2 = mp_nim (z.toInt / 2).toNat) (c1 : v1.toInt ≠ o.toInt) (c2 : v2.toInt = o.toInt) : 10 + i = R := by
  subst hz j0 ho j1 j2
  exact mp_tn_b h hi (fun q => c1 q.2) ⟨c, c2⟩
end MPTZ
