-- numbers of the slots
def mp_ctw (v : Int64) (w : Int) : Int64 := if w = 0 then v.toInt32.toInt8.toInt32.toInt64 else if w = 1 then v.toInt32.toInt16.toInt32.toInt64 else if w = 2 then v.toInt32.toInt64 else v
section MPSN
variable {f g g' m m' : Nat → Int64} {o d k k' n : Nat}
theorem mp_ctw_0 {v r : Int64} {a b : Int32} {w : Int} (h1 : a = v.toInt32) (h2 : b = a.toInt8.toInt32) (h3 : r = b.toInt64) (hw : w = 0) : r = mp_ctw v w := by
  unfold mp_ctw; rw [if_pos hw, h3, h2, h1]
theorem mp_ctw_1 {v r : Int64} {a b : Int32} {w : Int} (h1 : a = v.toInt32) (h2 : b = a.toInt16.toInt32) (h3 : r = b.toInt64) (hw : w = 1) : r = mp_ctw v w := by
  unfold mp_ctw; rw [if_neg (by omega), if_pos hw, h3, h2, h1]
theorem mp_ctw_2 {v r : Int64} {a : Int32} {w : Int} (h1 : a = v.toInt32) (h3 : r = a.toInt64) (hw : w = 2) : r = mp_ctw v w := by
  unfold mp_ctw; rw [if_neg (by omega), if_neg (by omega), if_pos hw, h3, h1]
theorem mp_ctw_3 {v : Int64} {w : Int} (hw : w ≠ 0 ∧ w ≠ 1 ∧ w ≠ 2) : v = mp_ctw v w := by
  unfold mp_ctw; rw [if_neg hw.1, if_neg hw.2.1, if_neg hw.2.2]
def mp_zer (f : Nat → Int64) (o n : Nat) : Nat → Int64 := fun j => if o ≤ j ∧ j < o + n then 0 else f j
theorem mp_zer_0 (h : n = 0) : f = mp_zer f o n := by
  funext j; simp only [mp_zer]; rw [if_neg (by omega)]
theorem mp_zer_s {i : Int32} (h : g' = vp_updL g i.toNatClampNeg 0) (hg : g = mp_zer f o k) (hi : i.toInt = (o : Int) + (k : Int)) (hk : k' = k + 1) : g' = mp_zer f o k' := by
  have e : i.toNatClampNeg = o + k := by simp only [Int32.toNatClampNeg]; omega
  funext j
  rw [h, hg, hk, e]
  simp only [vp_updL, mp_zer]
  by_cases q : j = o + k
  · rw [if_pos q, if_pos (by omega)]
  · rw [if_neg q]
    by_cases q2 : o ≤ j ∧ j < o + k
    · rw [if_pos q2, if_pos (by omega)]
    · rw [if_neg q2, if_neg (by omega)]
/-- k numbers taken out, laid elsewhere -/
def mp_mov (f m : Nat → Int64) (o k : Nat) : Prop := ∀ j : Nat, j < k → m j = f (o + j)
theorem mp_mov_0 (h : k = 0) : mp_mov f m o k := fun j hj => absurd hj (by omega)
theorem mp_mov_s {i ia : Int32} {z : Int64} (h : m' = vp_updL m i.toNatClampNeg z) (hz : z = f ia.toNatClampNeg) (p : mp_mov f m o k) (hi : i.toInt = (k : Int)) (ha : ia.toInt = (o : Int) + (k : Int)) (hk : k' = k + 1) : mp_mov f m' o k' := by
  have e : i.toNatClampNeg = k := by simp only [Int32.toNatClampNeg]; omega
  have e2 : ia.toNatClampNeg = o + k := by simp only [Int32.toNatClampNeg]; omega
  intro j hj
  rw [h, e]
  simp only [vp_updL]
  by_cases q : j = k
  · rw [if_pos q, hz, e2, q]
  · rw [if_neg q]; exact p j (by omega)
def mp_pnm (f m : Nat → Int64) (d k : Nat) : Nat → Int64 := fun j => if d ≤ j ∧ j < d + k then m (j - d) else f j
theorem mp_pnm_0 (h : k = 0) : f = mp_pnm f m d k := by
  funext j; simp only [mp_pnm]; rw [if_neg (by omega)]
theorem mp_pnm_s {i ia : Int32} {z : Int64} (h : g' = vp_updL g i.toNatClampNeg z) (hz : z = m ia.toNatClampNeg) (p : g = mp_pnm f m d k) (hi : i.toInt = (d : Int) + (k : Int)) (ha : ia.toInt = (k : Int)) (hk : k' = k + 1) : g' = mp_pnm f m d k' := by
  have e : i.toNatClampNeg = d + k := by simp only [Int32.toNatClampNeg]; omega
  have e2 : ia.toNatClampNeg = k := by simp only [Int32.toNatClampNeg]; omega
  funext j
  rw [h, p, e, hz, e2, hk]
  simp only [vp_updL, mp_pnm]
  by_cases q : j = d + k
  · rw [if_pos q, if_pos (by omega)]
    congr 1; omega
  · rw [if_neg q]
    by_cases q2 : d ≤ j ∧ j < d + k
    · rw [if_pos q2, if_pos (by omega)]
    · rw [if_neg q2, if_neg (by omega)]
theorem mp_pnm_cpy (h1 : mp_mov f m o n) (h2 : g = mp_pnm f m d n) : g = va_cpy f f o d n := by
  funext j
  rw [h2]
  simp only [va_cpy, mp_pnm]
  by_cases q : d ≤ j ∧ j < d + n
  · rw [if_pos q, if_pos q]; exact h1 _ (by omega)
  · rw [if_neg q, if_neg q]
end MPSN
