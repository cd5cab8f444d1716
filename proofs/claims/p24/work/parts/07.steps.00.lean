-- steps outside the blocks, facts of compares, of contents
theorem mp_i2l {z : Int64} {x : Int32} (h : z = x.toInt64) : z.toInt = x.toInt := by rw [h, Int32.toInt_toInt64]
theorem mp_lc_lt {z : Int32} {x y : Int64} (h : z = lg_cmp x y) (c : z.toInt < 0) : x.toInt < y.toInt := by
  rw [h] at c
  exact Int64.lt_iff_toInt_lt.mp ((lg_cmp_lt x y).mp (mp_i32_lt.mpr (by rw [mp_t0]; exact c)))
theorem mp_lc_ge {z : Int32} {x y : Int64} (h : z = lg_cmp x y) (c : 0 ≤ z.toInt) : y.toInt ≤ x.toInt := by
  rw [h] at c
  exact Int64.le_iff_toInt_le.mp ((lg_cmp_ge x y).mp (mp_i32_le.mpr (by rw [mp_t0]; exact c)))
theorem mp_lc_gt {z : Int32} {x y : Int64} (h : z = lg_cmp x y) (c : 0 < z.toInt) : y.toInt < x.toInt := by
  rw [h] at c
  exact Int64.lt_iff_toInt_lt.mp ((lg_cmp_gt x y).mp (mp_i32_lt.mpr (by rw [mp_t0]; exact c)))
theorem mp_lc_le {z : Int32} {x y : Int64} (h : z = lg_cmp x y) (c : z.toInt ≤ 0) : x.toInt ≤ y.toInt := by
  rw [h] at c
  exact Int64.le_iff_toInt_le.mp ((lg_cmp_le x y).mp (mp_i32_le.mpr (by rw [mp_t0]; exact c)))
theorem mp_lc_eq {z : Int32} {x y : Int64} (h : z = lg_cmp x y) (c : z = 0) : x.toInt = y.toInt := by
  rw [h] at c
  rw [(lg_cmp_eq x y).mp c]
theorem mp_lc_ne {z : Int32} {x y : Int64} (h : z = lg_cmp x y) (c : z.toInt ≠ 0) : x.toInt ≠ y.toInt := by
  intro q
  apply c
  rw [h, (lg_cmp_eq x y).mpr (Int64.toInt_inj.mp q)]
  decide
theorem mp_at {α : Type} {f : Nat → α} {i : Int32} {k : Nat} {z c : α} (h : z = f i.toNatClampNeg) (hi : i.toNatClampNeg = k) (hk : f k = c) : z = c := by rw [h, hi, hk]
theorem mp_ata {α : Type} {f : Nat → α} {i : Int32} {N : Nat} {z c : α} (h : z = f i.toNatClampNeg) (p : ∀ j, j < N → f j = c) (h0 : 0 ≤ i.toInt) (h1 : i.toInt < N) : z = c := by
  rw [h]
  refine p _ ?_
  simp only [Int32.toNatClampNeg]
  omega
theorem mp_upds {f g : Nat → Int32} {i v : Int32} {k : Nat} (h : g = upd f i.toNatClampNeg v) (hi : i.toNatClampNeg = k) : g k = v := by
  rw [h, hi]; simp [upd]
theorem mp_updo {f g : Nat → Int32} {i v c : Int32} {k : Nat} (h : g = upd f i.toNatClampNeg v) (hk : f k = c) (hi : ¬ k = i.toNatClampNeg) : g k = c := by
  rw [h]; simp [upd, hi, hk]
theorem mp_updls {f g : Nat → Int64} {i : Int32} {v : Int64} {k : Nat} (h : g = vp_updL f i.toNatClampNeg v) (hi : i.toNatClampNeg = k) : g k = v := by
  rw [h, hi]; simp [vp_updL]
theorem mp_updlo {f g : Nat → Int64} {i : Int32} {v c : Int64} {k : Nat} (h : g = vp_updL f i.toNatClampNeg v) (hk : f k = c) (hi : ¬ k = i.toNatClampNeg) : g k = c := by
  rw [h]; simp [vp_updL, hi, hk]
theorem mp_updqs {f g : Nat → Option Nat} {i : Int32} {v : Option Nat} {k : Nat} (h : g = va_up f i.toNatClampNeg v) (hi : i.toNatClampNeg = k) : g k = v := by
  rw [h, hi]; simp [va_up]
theorem mp_updqo {f g : Nat → Option Nat} {i : Int32} {v c : Option Nat} {k : Nat} (h : g = va_up f i.toNatClampNeg v) (hk : f k = c) (hi : ¬ k = i.toNatClampNeg) : g k = c := by
  rw [h]; simp [va_up, hi, hk]
section MPS
variable {E : mp_E} {X : mp_X} {M : mp_M} {pc : Nat} {lv : List (Nat × Value)} {rest : List Value} {ws : va_W} {k n : Nat}
theorem mp_ifn_t (hF : mp_F E X M) {off : Int} {tgt : Nat} (hdg : decode M.2.1 pc = .ok (.ifnull off, 3)) (ht : (pc : Int) + off = (tgt : Int)) (kk : mp_W E X M.2.2.1 tgt lv rest ws k n) : mp_W E X M.2.2.1 pc lv (.null :: rest) ws k n := by
  intro H locs ls hP hD hS hl
  exact lv_ifnullN hF.1 hF.2.1 hdg ht (kk H locs ls hP hD hS hl)
theorem mp_ifn_f (hF : mp_F E X M) {off : Int} {a : Nat} (hdg : decode M.2.1 pc = .ok (.ifnull off, 3)) (kk : mp_W E X M.2.2.1 (pc + 3) lv rest ws k n) : mp_W E X M.2.2.1 pc lv (.ref a :: rest) ws k n := by
  intro H locs ls hP hD hS hl
  exact lv_ifnull hF.1 hF.2.1 hdg (kk H locs ls hP hD hS hl)
theorem mp_ifnn_t (hF : mp_F E X M) {off : Int} {tgt : Nat} {a : Nat} (hdg : decode M.2.1 pc = .ok (.ifnonnull off, 3)) (ht : (pc : Int) + off = (tgt : Int)) (kk : mp_W E X M.2.2.1 tgt lv rest ws k n) : mp_W E X M.2.2.1 pc lv (.ref a :: rest) ws k n := by
  intro H locs ls hP hD hS hl
  exact lv_ifnonnull hF.1 hF.2.1 hdg ht (kk H locs ls hP hD hS hl)
theorem mp_ifnn_f (hF : mp_F E X M) {off : Int} (hdg : decode M.2.1 pc = .ok (.ifnonnull off, 3)) (kk : mp_W E X M.2.2.1 (pc + 3) lv rest ws k n) : mp_W E X M.2.2.1 pc lv (.null :: rest) ws k n := by
  intro H locs ls hP hD hS hl
  exact lv_ifnonnullN hF.1 hF.2.1 hdg (kk H locs ls hP hD hS hl)
theorem mp_lushr (hF : mp_F E X M) {x : Int64} {y : Int32} (hdg : decode M.2.1 pc = .ok (.lushr, 1)) (kk : ∀ z : Int64, z = (x.toUInt64 >>> (y.toInt64.toUInt64 &&& Int64.toUInt64 63)).toInt64 → mp_W E X M.2.2.1 (pc + 1) lv (.long z :: rest) ws k n) : mp_W E X M.2.2.1 pc lv (.int y :: .long x :: rest) ws k n := by
  intro H locs ls hP hD hS hl
  exact lv_lushr hF.1 hF.2.1 hdg rfl (kk _ rfl H locs ls hP hD hS hl)
theorem mp_astq (hF : mp_F E X M) (q0 qk : Nat) {a v N : Nat} {f : Nat → Option Nat} {vs : List Value} (ha : ws[q0]? = some (a, .inl (E.2.2 4, N, .inr (.inr (.inr (.inr f)))))) (hv : ws[qk]? = some (v, .inr (7, vs))) {i : Int32} (hin : vp_in i N) (hdg : decode M.2.1 pc = .ok (.aastore, 1))
    (kk : ∀ g : Nat → Option Nat, g = va_up f i.toNatClampNeg (some v) → mp_W E X M.2.2.1 (pc + 1) lv rest (ws.set q0 (a, .inl (E.2.2 4, N, .inr (.inr (.inr (.inr g)))))) k n) : mp_W E X M.2.2.1 pc lv (.ref v :: .int i :: .ref a :: rest) ws k n := by
  intro H locs ls hP hD hS hl
  obtain ⟨hx, hb, hml, hown, hts, hK, hA, hlk, hR, hrt, hin', hN⟩ := hF
  exact va_astq (r := (RX7, TX7, _)) hx hb hK hP hD hS q0 4 qk 7 ha rfl hv rfl hin hdg (fun H1 locs1 hP hD hS => kk _ rfl H1 locs1 ls hP hD hS hl)
end MPS
-- ranges of contents
def mp_all (f : Nat → Int32) (n : Nat) (lo hi : Int) : Prop := ∀ j : Nat, j < n → lo ≤ (f j).toInt ∧ (f j).toInt ≤ hi
theorem mp_all_z {n : Nat} {lo hi : Int} (h : lo ≤ (0 : Int32).toInt ∧ (0 : Int32).toInt ≤ hi) : mp_all (fun _ => 0) n lo hi := fun _ _ => h
theorem mp_clamp {i : Int32} (h : 0 ≤ i.toInt) : ((i.toNatClampNeg : Nat) : Int) = i.toInt := by
  simp only [Int32.toNatClampNeg]; omega
theorem mp_all_ld {f : Nat → Int32} {n : Nat} {lo hi : Int} {i z : Int32} (h : z = f i.toNatClampNeg) (p : mp_all f n lo hi) (h0 : 0 ≤ i.toInt) (h1 : i.toInt < n) : lo ≤ z.toInt ∧ z.toInt ≤ hi := by
  rw [h]
  refine p _ ?_
  have := mp_clamp h0
  omega
theorem mp_all_st {f g : Nat → Int32} {n : Nat} {lo hi : Int} {i v : Int32} (h : g = upd f i.toNatClampNeg v) (p : mp_all f n lo hi) (h0 : lo ≤ v.toInt) (h1 : v.toInt ≤ hi) : mp_all g n lo hi := by
  intro j hj
  rw [h]
  by_cases q : j = i.toNatClampNeg
  · subst q; simp [upd]; exact ⟨h0, h1⟩
  · simp only [upd, if_neg q]; exact p j hj
theorem mp_all_cpy {f g g' : Nat → Int32} {n n0 : Nat} {lo hi : Int} {sp dp m : Nat} (h : g' = va_cpy f g sp dp m) (p0 : mp_all f n0 lo hi) (p1 : mp_all g n lo hi) (hm : sp + m ≤ n0) : mp_all g' n lo hi := by
  intro j hj
  rw [h]
  simp only [va_cpy]
  split
  · refine p0 _ ?_
    omega
  · exact p1 j hj
theorem mp_l2i {z : Int32} {x : Int64} (h : z = x.toInt32) (h0 : -2147483648 ≤ x.toInt) (h1 : x.toInt ≤ 2147483647) : z.toInt = x.toInt := by
  rw [h, Int64.toInt_toInt32, Int.bmod_def]; omega
theorem mp_shr0 {z x : Int32} (h : z = x >>> ((0 : Int32) &&& 31)) : z = x := by
  rw [h]
  have : ((0 : Int32) &&& 31) = 0 := by decide
  rw [this]
  apply Int32.toBitVec_inj.mp
  simp
section MPS2
variable {E : mp_E} {X : mp_X} {M : mp_M} {pc : Nat} {lv : List (Nat × Value)} {rest : List Value} {ws : va_W} {k n : Nat}
theorem mp_iushr (hF : mp_F E X M) {x y : Int32} (hdg : decode M.2.1 pc = .ok (.iushr, 1)) (kk : ∀ z : Int32, mp_W E X M.2.2.1 (pc + 1) lv (.int z :: rest) ws k n) : mp_W E X M.2.2.1 pc lv (.int y :: .int x :: rest) ws k n := by
  intro H locs ls hP hD hS hl
  exact lv_iushr hF.1 hF.2.1 hdg rfl (kk _ H locs ls hP hD hS hl)
end MPS2
-- acts: what they may hold; how many of them are moons
def mp_acts (f : Nat → Int32) : Prop := ∀ j : Nat, j < 60 → (f j).toInt = 200 ∨ (100 ≤ (f j).toInt ∧ (f j).toInt ≤ 109) ∨ (0 ≤ (f j).toInt ∧ (f j).toInt ≤ 55 ∧ (f j).toInt % 10 ≤ 5)
theorem mp_acts_z : mp_acts (fun _ => 0) := by
  intro j hj
  exact Or.inr (Or.inr (show 0 ≤ (0 : Int32).toInt ∧ (0 : Int32).toInt ≤ 55 ∧ (0 : Int32).toInt % 10 ≤ 5 by decide))
theorem mp_acts_ld {f : Nat → Int32} {i z : Int32} (h : z = f i.toNatClampNeg) (p : mp_acts f) (h0 : 0 ≤ i.toInt) (h1 : i.toInt < 60) : z.toInt = 200 ∨ (100 ≤ z.toInt ∧ z.toInt ≤ 109) ∨ (0 ≤ z.toInt ∧ z.toInt ≤ 55 ∧ z.toInt % 10 ≤ 5) := by
  rw [h]
  refine p _ ?_
  have := mp_clamp h0
  omega
theorem mp_acts_st {f g : Nat → Int32} {i v : Int32} (h : g = upd f i.toNatClampNeg v) (p : mp_acts f) (hv : v.toInt = 200 ∨ (100 ≤ v.toInt ∧ v.toInt ≤ 109) ∨ (0 ≤ v.toInt ∧ v.toInt ≤ 55 ∧ v.toInt % 10 ≤ 5)) : mp_acts g := by
  intro j hj
  rw [h]
  by_cases q : j = i.toNatClampNeg
  · subst q; simp only [upd, if_true]; exact hv
  · simp only [upd, if_neg q]; exact p j hj
theorem mp_acts_cpy {f g g' : Nat → Int32} {sp dp m : Nat} (h : g' = va_cpy f g sp dp m) (p0 : mp_acts f) (p1 : mp_acts g) (hm : sp + m ≤ 60) : mp_acts g' := by
  intro j hj
  rw [h]
  simp only [va_cpy]
  split
  · refine p0 _ ?_
    omega
  · exact p1 j hj
def mp_c200 (f : Nat → Int32) : Nat → Int
  | 0 => 0
  | n + 1 => mp_c200 f n + (if (f n).toInt = 200 then 1 else 0)
def mp_k200 (f : Nat → Int32) (n : Int) : Int := mp_c200 f n.toNat
theorem mp_k200_z {f : Nat → Int32} : mp_k200 f ((0 : Int32).toInt) = 0 := rfl
theorem mp_k200_0 {f : Nat → Int32} : mp_k200 f 0 = 0 := rfl
theorem mp_k200_eq {f : Nat → Int32} {a b : Int} (h : a = b) : mp_k200 f a = mp_k200 f b := by rw [h]
theorem mp_c200_mono {f : Nat → Int32} : ∀ {a b : Nat}, a ≤ b → mp_c200 f a ≤ mp_c200 f b := by
  intro a b h
  induction h with
  | refl => exact Int.le_refl _
  | step _ ih =>
    refine Int.le_trans ih ?_
    show _ ≤ _ + _
    split <;> omega
theorem mp_k200_mono {f : Nat → Int32} {a b : Int} (h : a ≤ b) : mp_k200 f a ≤ mp_k200 f b := mp_c200_mono (by omega)
theorem mp_c200_nn {f : Nat → Int32} (n : Nat) : 0 ≤ mp_c200 f n := mp_c200_mono (f := f) (Nat.zero_le n)
theorem mp_k200_nn {f : Nat → Int32} (n : Int) : 0 ≤ mp_k200 f n := mp_c200_nn _
theorem mp_k200_ld {f : Nat → Int32} {i z : Int32} (h : z = f i.toNatClampNeg) (h0 : 0 ≤ i.toInt) : (z.toInt = 200 ∧ mp_k200 f (i.toInt + 1) = mp_k200 f i.toInt + 1) ∨ (z.toInt ≠ 200 ∧ mp_k200 f (i.toInt + 1) = mp_k200 f i.toInt) := by
  have e : (i.toInt + 1).toNat = i.toInt.toNat + 1 := by omega
  have e2 : i.toNatClampNeg = i.toInt.toNat := rfl
  unfold mp_k200
  rw [e, h, e2]
  show (_ ∧ mp_c200 f i.toInt.toNat + _ = _) ∨ (_ ∧ mp_c200 f i.toInt.toNat + _ = _)
  by_cases q : (f i.toInt.toNat).toInt = 200
  · exact Or.inl ⟨q, by rw [if_pos q]⟩
  · exact Or.inr ⟨q, by rw [if_neg q]; omega⟩
theorem mp_c200_cong {f g : Nat → Int32} : ∀ {n : Nat}, (∀ j, j < n → f j = g j) → mp_c200 f n = mp_c200 g n
  | 0, _ => rfl
  | n + 1, h => by
    show mp_c200 f n + _ = mp_c200 g n + _
    rw [mp_c200_cong (fun j hj => h j (by omega)), h n (by omega)]
theorem mp_k200_st {f g : Nat → Int32} {i v : Int32} (h : g = upd f i.toNatClampNeg v) (h0 : 0 ≤ i.toInt) : (v.toInt = 200 ∧ mp_k200 g (i.toInt + 1) = mp_k200 f i.toInt + 1) ∨ (v.toInt ≠ 200 ∧ mp_k200 g (i.toInt + 1) = mp_k200 f i.toInt) := by
  have e : (i.toInt + 1).toNat = i.toInt.toNat + 1 := by omega
  have e2 : i.toNatClampNeg = i.toInt.toNat := rfl
  have e3 : mp_c200 g i.toInt.toNat = mp_c200 f i.toInt.toNat := mp_c200_cong (fun j hj => by rw [h, e2]; simp only [upd]; rw [if_neg (by omega)])
  have e4 : g i.toInt.toNat = v := by rw [h, e2]; simp [upd]
  unfold mp_k200
  rw [e]
  show (_ ∧ mp_c200 g i.toInt.toNat + _ = _) ∨ (_ ∧ mp_c200 g i.toInt.toNat + _ = _)
  rw [e3, e4]
  by_cases q : v.toInt = 200
  · exact Or.inl ⟨q, by rw [if_pos q]⟩
  · exact Or.inr ⟨q, by rw [if_neg q]; omega⟩
theorem mp_k200_cpy {f g g' : Nat → Int32} {sp dp m : Nat} {n : Int} (h : g' = va_cpy f g sp dp m) (h0 : sp = 0) (h1 : dp = 0) (h2 : m = 60) (hn : n ≤ 60) : mp_k200 g' n = mp_k200 f n := by
  refine mp_c200_cong (fun j hj => ?_)
  rw [h, h0, h1, h2]
  simp only [va_cpy]
  rw [if_pos (by omega)]
  simp
theorem mp_tinv_le {f : Nat → Int32} {a b tm cm : Int} (h : cm = tm + mp_k200 f b) (hc : cm ≤ 99) (hab : a ≤ b) : tm + mp_k200 f a ≤ 99 := by
  have := mp_k200_mono (f := f) hab
  omega
-- Math.min, Math.max
section MPM
variable {E : mp_E} {X : mp_X} {M : mp_M} {pc : Nat} {lv : List (Nat × Value)} {rest : List Value} {ws : va_W} {k n idx : Nat}
theorem mp_mmin (hF : mp_F E X M) (h1 : Jvm.Cond.methodLink M.1 idx Lib.Math.min.name ∈ mp_UT) (h2 : Jvm.Cond.static Lib.Math.min.name ∈ mp_UT) (h3 : Jvm.Cond.initialized "java/lang/Math" ∈ mp_UT) (h4 : Jvm.Cond.code Lib.Math.min.name Lib.Math.min.code 2 (some .int) ∈ mp_UT)
    (hroom : 1 ≤ M.2.2.2.1.1 ∧ (rest.map (fun v => v.category)).sum + 13 ≤ M.2.2.2.1.2.2.2 ∧ k ≤ M.2.2.2.1.2.1 ∧ n ≤ M.2.2.2.1.2.2.1) {x y : Int32} (hdg : decode M.2.1 pc = .ok (.invokestatic idx, 3)) (kk : ∀ z : Int32, (z.toInt = x.toInt ∨ z.toInt = y.toInt) → z.toInt ≤ x.toInt → z.toInt ≤ y.toInt → mp_W E X M.2.2.1 (pc + 3) lv (.int z :: rest) ws k n) : mp_W E X M.2.2.1 pc lv (.int y :: .int x :: rest) ws k n := by
  intro H locs ls hP hD hS hl
  obtain ⟨hx, hb, hml, hown, hts, hK, hA, hlk, hR, hrt, hin, hN⟩ := hF
  refine va_mmin hx hb (hml.trans hl.1.symm) hown (hts _ h1) (hts _ h2) (hts _ h3) (hts _ h4) (by rw [hR]; exact hroom.1) (by rw [hR]; exact hroom.2.1) (by rw [hR]; exact hroom.2.2.1) (by rw [hR]; exact hroom.2.2.2) hdg (kk _ ?_ ?_ ?_ H locs ls hP hD hS hl)
  · split
    · exact Or.inr rfl
    · exact Or.inl rfl
  · split
    · rename_i q; rw [mp_i32_lt] at q; omega
    · exact Int.le_refl _
  · split
    · exact Int.le_refl _
    · rename_i q; rw [mp_i32_lt] at q; omega
theorem mp_mmax (hF : mp_F E X M) (h1 : Jvm.Cond.methodLink M.1 idx Lib.Math.max.name ∈ mp_UT) (h2 : Jvm.Cond.static Lib.Math.max.name ∈ mp_UT) (h3 : Jvm.Cond.initialized "java/lang/Math" ∈ mp_UT) (h4 : Jvm.Cond.code Lib.Math.max.name Lib.Math.max.code 2 (some .int) ∈ mp_UT)
    (hroom : 1 ≤ M.2.2.2.1.1 ∧ (rest.map (fun v => v.category)).sum + 13 ≤ M.2.2.2.1.2.2.2 ∧ k ≤ M.2.2.2.1.2.1 ∧ n ≤ M.2.2.2.1.2.2.1) {x y : Int32} (hdg : decode M.2.1 pc = .ok (.invokestatic idx, 3)) (kk : ∀ z : Int32, (z.toInt = x.toInt ∨ z.toInt = y.toInt) → x.toInt ≤ z.toInt → y.toInt ≤ z.toInt → mp_W E X M.2.2.1 (pc + 3) lv (.int z :: rest) ws k n) : mp_W E X M.2.2.1 pc lv (.int y :: .int x :: rest) ws k n := by
  intro H locs ls hP hD hS hl
  obtain ⟨hx, hb, hml, hown, hts, hK, hA, hlk, hR, hrt, hin, hN⟩ := hF
  refine va_mmax hx hb (hml.trans hl.1.symm) hown (hts _ h1) (hts _ h2) (hts _ h3) (hts _ h4) (by rw [hR]; exact hroom.1) (by rw [hR]; exact hroom.2.1) (by rw [hR]; exact hroom.2.2.1) (by rw [hR]; exact hroom.2.2.2) hdg (kk _ ?_ ?_ ?_ H locs ls hP hD hS hl)
  · split
    · exact Or.inr rfl
    · exact Or.inl rfl
  · split
    · rename_i q; rw [mp_i32_lt] at q; omega
    · exact Int.le_refl _
  · split
    · exact Int.le_refl _
    · rename_i q; rw [mp_i32_lt] at q; omega
theorem mp_mminl (hF : mp_F E X M) (h1 : Jvm.Cond.methodLink M.1 idx Lib.MathLoose.min_long.x ∈ mp_UT) (h2 : Jvm.Cond.static Lib.MathLoose.min_long.x ∈ mp_UT) (h3 : Jvm.Cond.initialized "java/lang/Math" ∈ mp_UT) (h4 : Jvm.Cond.code Lib.MathLoose.min_long.x Lib.MathLoose.min_long.code 4 (some .long) ∈ mp_UT)
    (hroom : 1 ≤ M.2.2.2.1.1 ∧ (rest.map (fun v => v.category)).sum + 15 ≤ M.2.2.2.1.2.2.2 ∧ k ≤ M.2.2.2.1.2.1 ∧ n ≤ M.2.2.2.1.2.2.1) {x y : Int64} (hdg : decode M.2.1 pc = .ok (.invokestatic idx, 3)) (kk : ∀ z : Int64, z = (if y < x then y else x) → mp_W E X M.2.2.1 (pc + 3) lv (.long z :: rest) ws k n) : mp_W E X M.2.2.1 pc lv (.long y :: .long x :: rest) ws k n := by
  intro H locs ls hP hD hS hl
  obtain ⟨hx, hb, hml, hown, hts, hK, hA, hlk, hR, hrt, hin, hN⟩ := hF
  exact va_mmin_long hx hb (hml.trans hl.1.symm) hown (hts _ h1) (hts _ h2) (hts _ h3) (hts _ h4) (by rw [hR]; exact hroom.1) (by rw [hR]; exact hroom.2.1) (by rw [hR]; exact hroom.2.2.1) (by rw [hR]; exact hroom.2.2.2) hdg (kk _ rfl H locs ls hP hD hS hl)
theorem mp_mmaxl (hF : mp_F E X M) (h1 : Jvm.Cond.methodLink M.1 idx Lib.MathLoose.max_long.x ∈ mp_UT) (h2 : Jvm.Cond.static Lib.MathLoose.max_long.x ∈ mp_UT) (h3 : Jvm.Cond.initialized "java/lang/Math" ∈ mp_UT) (h4 : Jvm.Cond.code Lib.MathLoose.max_long.x Lib.MathLoose.max_long.code 4 (some .long) ∈ mp_UT)
    (hroom : 1 ≤ M.2.2.2.1.1 ∧ (rest.map (fun v => v.category)).sum + 15 ≤ M.2.2.2.1.2.2.2 ∧ k ≤ M.2.2.2.1.2.1 ∧ n ≤ M.2.2.2.1.2.2.1) {x y : Int64} (hdg : decode M.2.1 pc = .ok (.invokestatic idx, 3)) (kk : ∀ z : Int64, z = (if y < x then x else y) → mp_W E X M.2.2.1 (pc + 3) lv (.long z :: rest) ws k n) : mp_W E X M.2.2.1 pc lv (.long y :: .long x :: rest) ws k n := by
  intro H locs ls hP hD hS hl
  obtain ⟨hx, hb, hml, hown, hts, hK, hA, hlk, hR, hrt, hin, hN⟩ := hF
  exact va_mmax_long hx hb (hml.trans hl.1.symm) hown (hts _ h1) (hts _ h2) (hts _ h3) (hts _ h4) (by rw [hR]; exact hroom.1) (by rw [hR]; exact hroom.2.1) (by rw [hR]; exact hroom.2.2.1) (by rw [hR]; exact hroom.2.2.2) hdg (kk _ rfl H locs ls hP hD hS hl)
end MPM
-- ranges of the elements that stand at j % m = r
def mp_res (f : Nat → Int32) (n m r : Nat) (lo hi : Int) : Prop := ∀ j : Nat, j < n → j % m = r → lo ≤ (f j).toInt ∧ (f j).toInt ≤ hi
theorem mp_res_z {n m r : Nat} {lo hi : Int} (h : lo ≤ (0 : Int32).toInt ∧ (0 : Int32).toInt ≤ hi) : mp_res (fun _ => 0) n m r lo hi := fun _ _ _ => h
theorem mp_res_ld {f : Nat → Int32} {n m r : Nat} {lo hi : Int} {i z : Int32} (h : z = f i.toNatClampNeg) (p : mp_res f n m r lo hi) (h0 : 0 ≤ i.toInt) (h1 : i.toInt < n) : i.toInt % m = r → lo ≤ z.toInt ∧ z.toInt ≤ hi := by
  intro hr
  rw [h]
  have e := mp_clamp h0
  refine p _ (by omega) ?_
  have : ((i.toNatClampNeg % m : Nat) : Int) = (r : Int) := by rw [Int.natCast_emod, e]; exact hr
  exact Int.ofNat.inj this
theorem mp_res_st {f g : Nat → Int32} {n m r : Nat} {lo hi : Int} {i v : Int32} (h : g = upd f i.toNatClampNeg v) (p : mp_res f n m r lo hi) (h0 : 0 ≤ i.toInt) (hv : i.toInt % m = r → lo ≤ v.toInt ∧ v.toInt ≤ hi) : mp_res g n m r lo hi := by
  intro j hj hr
  rw [h]
  by_cases q : j = i.toNatClampNeg
  · have e := mp_clamp h0
    have e2 : i.toInt % m = r := by rw [← e, ← Int.natCast_emod, ← q, hr]
    subst q; simp only [upd, if_true]; exact hv e2
  · simp only [upd, if_neg q]; exact p j hj hr
/-- the acts of all five rows -/
def mp_actm (f : Nat → Int32) : Prop := ∀ j : Nat, j < 300 → (f j).toInt = 200 ∨ (100 ≤ (f j).toInt ∧ (f j).toInt ≤ 109) ∨ (0 ≤ (f j).toInt ∧ (f j).toInt ≤ 55 ∧ (f j).toInt % 10 ≤ 5)
theorem mp_actm_z : mp_actm (fun _ => 0) := by
  intro j hj
  exact Or.inr (Or.inr (show 0 ≤ (0 : Int32).toInt ∧ (0 : Int32).toInt ≤ 55 ∧ (0 : Int32).toInt % 10 ≤ 5 by decide))
theorem mp_actm_ld {f : Nat → Int32} {i z : Int32} (h : z = f i.toNatClampNeg) (p : mp_actm f) (h0 : 0 ≤ i.toInt) (h1 : i.toInt < 300) : z.toInt = 200 ∨ (100 ≤ z.toInt ∧ z.toInt ≤ 109) ∨ (0 ≤ z.toInt ∧ z.toInt ≤ 55 ∧ z.toInt % 10 ≤ 5) := by
  rw [h]
  refine p _ ?_
  have := mp_clamp h0
  omega
theorem mp_actm_st {f g : Nat → Int32} {i v : Int32} (h : g = upd f i.toNatClampNeg v) (p : mp_actm f) (hv : v.toInt = 200 ∨ (100 ≤ v.toInt ∧ v.toInt ≤ 109) ∨ (0 ≤ v.toInt ∧ v.toInt ≤ 55 ∧ v.toInt % 10 ≤ 5)) : mp_actm g := by
  intro j hj
  rw [h]
  by_cases q : j = i.toNatClampNeg
  · subst q; simp only [upd, if_true]; exact hv
  · simp only [upd, if_neg q]; exact p j hj
theorem mp_ladd {z x y : Int64} {a b : Int} (h : z = x + y) (hx : x.toInt = a) (hy : y.toInt = b) (h1 : -9223372036854775808 ≤ a + b) (h2 : a + b ≤ 9223372036854775807) : z.toInt = a + b := by
  rw [h, Int64.toInt_add, hx, hy, Int.bmod_def]; omega
theorem mp_lsub {z x y : Int64} {a b : Int} (h : z = x - y) (hx : x.toInt = a) (hy : y.toInt = b) (h1 : -9223372036854775808 ≤ a - b) (h2 : a - b ≤ 9223372036854775807) : z.toInt = a - b := by
  rw [h, Int64.toInt_sub, hx, hy, Int.bmod_def]; omega
/-- each promise of the first row stands on an elder one, or on none -/
def mp_prm (f : Nat → Int32) (n : Int) : Prop := ∀ j : Nat, (j : Int) < n → -1 ≤ (f (6 * j + 5)).toInt ∧ (f (6 * j + 5)).toInt < (j : Int)
theorem mp_prm_ld {f : Nat → Int32} {n : Int} {k z : Int32} {i : Int32} (p : mp_prm f n) (h : z = f i.toNatClampNeg) (hi : i.toInt = 6 * k.toInt + 5) (h0 : 0 ≤ k.toInt) (h1 : k.toInt < n) : -1 ≤ z.toInt ∧ z.toInt < k.toInt := by
  have e := mp_clamp (i := i) (by omega)
  have e2 : i.toNatClampNeg = 6 * k.toInt.toNat + 5 := by omega
  have := p k.toInt.toNat (by omega)
  rw [h, e2]
  omega
theorem mp_prm_use {f : Nat → Int32} {n : Int} (p : mp_prm f n) (k : Int32) (h0 : 0 ≤ k.toInt) (h1 : k.toInt < n) : -1 ≤ (f (6 * k.toInt.toNat + 5)).toInt ∧ (f (6 * k.toInt.toNat + 5)).toInt < k.toInt := by
  have := p k.toInt.toNat (by omega)
  omega
theorem mp_of_at {f : Nat → Int32} {k i z : Int32} {w : Nat} (h : z = f i.toNatClampNeg) (h0 : 0 ≤ k.toInt) (hi : i.toInt = 6 * k.toInt + w) : z.toInt = (f (6 * k.toInt.toNat + w)).toInt := by
  have e := mp_clamp (i := i) (by omega)
  have e2 : i.toNatClampNeg = 6 * k.toInt.toNat + w := by omega
  rw [h, e2]
theorem mp_has_eq {f g : Nat → Int32} {i v : Int32} {k : Nat} (h : g = upd f i.toNatClampNeg v) (hi : i.toNatClampNeg = k) : (g k).toInt = v.toInt := by rw [mp_upds h hi]
theorem mp_has_ne {f g : Nat → Int32} {i v : Int32} {k : Nat} (h : g = upd f i.toNatClampNeg v) (hi : ¬ k = i.toNatClampNeg) : (g k).toInt = (f k).toInt := by rw [mp_updo h rfl hi]
theorem mp_res_at {f : Nat → Int32} {n m r : Nat} {lo hi : Int} (p : mp_res f n m r lo hi) (k : Nat) (hk : k < n) (hr : k % m = r) : lo ≤ (f k).toInt ∧ (f k).toInt ≤ hi := p k hk hr
theorem mp_k200_st2 {f g : Nat → Int32} {i v : Int32} {a b : Int} (h : g = upd f i.toNatClampNeg v) (h0 : 0 ≤ i.toInt) (ha : a = i.toInt) (hb : b = i.toInt + 1) : (v.toInt = 200 ∧ mp_k200 g b = mp_k200 f a + 1) ∨ (v.toInt ≠ 200 ∧ mp_k200 g b = mp_k200 f a) := by
  rw [ha, hb]; exact mp_k200_st h h0
theorem mp_tinv_0 {f : Nat → Int32} {a tm : Int} (h : a = 0) (ht : tm ≤ 99) : tm + mp_k200 f a ≤ 99 := by
  rw [h, mp_k200_0]; omega
theorem mp_tinv_le2 {f : Nat → Int32} {a b tm t2 : Int} (h : tm + mp_k200 f b ≤ 99) (ht : t2 = tm) (hab : a ≤ b) : t2 + mp_k200 f a ≤ 99 := by
  have := mp_k200_mono (f := f) hab
  omega
theorem mp_prm_n {f : Nat → Int32} {n m : Int} (p : mp_prm f n) (h : m ≤ n) : mp_prm f m := fun j hj => p j (by omega)
/-- k places from sa on, laid from sb on -/
def mp_cpr (f : Nat → Int32) (sa sb k : Nat) : Nat → Int32 := fun j => if sb ≤ j ∧ j < sb + k then f (sa + (j - sb)) else f j
theorem mp_cpr_0 {f : Nat → Int32} {sa sb k : Nat} (hk : k = 0) : f = mp_cpr f sa sb k := by
  funext j
  simp only [mp_cpr]
  rw [if_neg (by omega)]
theorem mp_cpr_st {f g g' : Nat → Int32} {sa sb k k' m : Nat} {ia ib z : Int32} (h : g' = upd g ib.toNatClampNeg z) (hz : z = g ia.toNatClampNeg) (hg : g = mp_cpr f sa sb k) (hib : ib.toInt = sb + k) (hia : ia.toInt = sa + k) (hd : sa + m ≤ sb ∨ sb + m ≤ sa) (hk : k < m) (hk' : k' = k + 1) : g' = mp_cpr f sa sb k' := by
  have eb : ib.toNatClampNeg = sb + k := by show ib.toInt.toNat = _; omega
  have ea : ia.toNatClampNeg = sa + k := by show ia.toInt.toNat = _; omega
  funext j
  rw [h, eb, hz, ea, hg, hk']
  simp only [upd, mp_cpr]
  by_cases q : j = sb + k
  · subst q
    rw [if_pos rfl, if_neg (by omega), if_pos (by omega)]
    congr 1; omega
  · rw [if_neg q]
    by_cases q2 : sb ≤ j ∧ j < sb + k
    · rw [if_pos q2, if_pos (by omega)]
    · rw [if_neg q2, if_neg (by omega)]
-- cells that stand for numbers 0 .. 99; worths told apart
def mp_c99 (f : Nat → Int64) (slot n : Int) : Prop := ∀ j : Nat, (j : Int) < n → 0 ≤ (f (60 * slot.toNat + j)).toInt ∧ (f (60 * slot.toNat + j)).toInt ≤ 99
theorem mp_c99_0 {f : Nat → Int64} {slot n : Int} (h : n ≤ 0) : mp_c99 f slot n := fun j hj => by omega
theorem mp_c99_le {f : Nat → Int64} {slot n m : Int} (p : mp_c99 f slot m) (h : n ≤ m) : mp_c99 f slot n := fun j hj => p j (by omega)
theorem mp_c99_ld {f : Nat → Int64} {slot n i : Int} {z : Int64} {k : Int32} (p : mp_c99 f slot n) (h : z = f k.toNatClampNeg) (hk : k.toInt = 60 * slot + i) (h0 : 0 ≤ slot) (hi : 0 ≤ i) (hin : i < n) : 0 ≤ z.toInt ∧ z.toInt ≤ 99 := by
  have e : k.toNatClampNeg = 60 * slot.toNat + i.toNat := by show k.toInt.toNat = _; omega
  rw [h, e]
  exact p i.toNat (by omega)
theorem mp_c99_s {f : Nat → Int64} {slot n i : Int} {z : Int64} {k : Int32} (p : mp_c99 f slot i) (h : z = f k.toNatClampNeg) (hk : k.toInt = 60 * slot + i) (h0 : 0 ≤ slot) (hi : 0 ≤ i) (hz : 0 ≤ z.toInt ∧ z.toInt ≤ 99) (hn : n = i + 1) : mp_c99 f slot n := by
  intro j hj
  have e : k.toNatClampNeg = 60 * slot.toNat + i.toNat := by show k.toInt.toNat = _; omega
  by_cases q : (j : Int) < i
  · exact p j q
  · have : j = i.toNat := by omega
    subst this
    rw [← e, ← h]; exact hz
def mp_hv (w n : Int32) : Int32 := if 20 < n.toInt then 1 else ((w.toInt64 + (1 <<< (n.toInt64 &&& 63)) - 1) >>> (n.toInt64 &&& 63)).toInt32
theorem mp_ofnat {z : Int32} (h : 0 ≤ z.toInt) : Int32.ofNat z.toInt.toNat = z := by
  apply Int32.toInt_inj.mp
  have := Int32.toInt_lt z
  rw [Int32.toInt_ofNat_of_lt (by omega)]; omega
theorem mp_pig : ∀ (k m : Nat) (c : Nat → Nat), (∀ a, a < m → c a < k) → (∀ a b, a < b → b < m → c a ≠ c b) → m ≤ k := by
  intro k
  induction k with
  | zero =>
    intro m c h _
    cases m with
    | zero => exact Nat.le_refl _
    | succ m => exact absurd (h 0 (by omega)) (by omega)
  | succ k ih =>
    intro m c h d
    cases m with
    | zero => omega
    | succ m =>
      -- the last one's value is taken out: the value k of an elder one is put there
      have : m ≤ k := by
        refine ih m (fun a => if c a = k then c m else c a) (fun a ha => ?_) (fun a b hab hb => ?_)
        · have h1 := h a (by omega); have h2 := h m (by omega); have h3 := d a m ha (by omega)
          show (if c a = k then c m else c a) < k
          split <;> omega
        · have h1 := d a b hab (by omega); have h2 := d a m (by omega) (by omega); have h3 := d b m (by omega) (by omega)
          show (if c a = k then c m else c a) ≠ (if c b = k then c m else c b)
          split <;> split <;> omega
      omega
def mp_dw (f : Nat → Int32) (w : Int32) (m : Int) : Prop := (∀ a : Nat, (a : Int) < m → ∃ n : Nat, n ≤ 11 ∧ f a = mp_hv w (Int32.ofNat n)) ∧ ∀ a b : Nat, a < b → (b : Int) < m → f a ≠ f b
theorem mp_dw_0 {f : Nat → Int32} {w : Int32} {m : Int} (h : m ≤ 0) : mp_dw f w m := ⟨fun a ha => by omega, fun a b _ hb => by omega⟩
theorem mp_dw_le {f : Nat → Int32} {w : Int32} {m : Int} (p : mp_dw f w m) : m ≤ 12 := by
  have h0 : ∀ a : Nat, ∃ n : Nat, (a : Int) < m → n ≤ 11 ∧ f a = mp_hv w (Int32.ofNat n) := by
    intro a
    by_cases q : (a : Int) < m
    · obtain ⟨n, h1, h2⟩ := p.1 a q
      exact ⟨n, fun _ => ⟨h1, h2⟩⟩
    · exact ⟨0, fun h => absurd h q⟩
  obtain ⟨c, hc⟩ := Classical.axiomOfChoice h0
  have := mp_pig 12 m.toNat c (fun a ha => by have := (hc a (by omega)).1; omega) (fun a b hab hb => by
    intro e
    have h1 := (hc a (by omega)).2; have h2 := (hc b (by omega)).2
    exact p.2 a b hab (by omega) (by rw [h1, h2, e]))
  omega
theorem mp_dw_add {f g : Nat → Int32} {w v : Int32} {m n : Int} {i : Int32} (p : mp_dw f w m) (h : g = upd f i.toNatClampNeg v) (hi : i.toInt = m) (h0 : 0 ≤ m) (hv : ∃ n : Nat, n ≤ 11 ∧ v = mp_hv w (Int32.ofNat n)) (hne : ∀ a : Nat, (a : Int) < m → f a ≠ v) (hn : n = m + 1) : mp_dw g w n := by
  have e : i.toNatClampNeg = m.toNat := by show i.toInt.toNat = _; omega
  rw [h, e]
  refine ⟨fun a ha => ?_, fun a b hab hb => ?_⟩
  · by_cases q : a = m.toNat
    · simp only [upd, if_pos q]; exact hv
    · simp only [upd, if_neg q]; exact p.1 a (by omega)
  · have qa : ¬ a = m.toNat := by omega
    by_cases q : b = m.toNat
    · simp only [upd, if_neg qa, if_pos q]; exact hne a (by omega)
    · simp only [upd, if_neg qa, if_neg q]; exact p.2 a b hab (by omega)
theorem mp_dw_new {f : Nat → Int32} {w v : Int32} {m : Int} (p : mp_dw f w m) (h0 : 0 ≤ m) (hv : ∃ n : Nat, n ≤ 11 ∧ v = mp_hv w (Int32.ofNat n)) (hne : ∀ a : Nat, (a : Int) < m → f a ≠ v) (hm : m < 2147483647) : m + 1 ≤ 12 := by
  refine mp_dw_le (f := upd f m.toNat v) (w := w) ?_
  have e : (Int32.ofNat m.toNat).toInt = m := by rw [Int32.toInt_ofNat_of_lt (by omega)]; omega
  exact mp_dw_add (i := Int32.ofNat m.toNat) p (by show _ = upd f (Int32.ofNat m.toNat).toInt.toNat v; rw [e]) e h0 hv hne rfl
theorem mp_ne_s {f : Nat → Int32} {v z : Int32} {i : Int32} {n : Int} (p : ∀ a : Nat, (a : Int) < i.toInt → f a ≠ v) (h : z = f i.toNatClampNeg) (hz : z.toInt ≠ v.toInt) (h0 : 0 ≤ i.toInt) (hn : n = i.toInt + 1) : ∀ a : Nat, (a : Int) < n → f a ≠ v := by
  intro a ha
  by_cases q : (a : Int) < i.toInt
  · exact p a q
  · have : a = i.toNatClampNeg := by show _ = i.toInt.toNat; omega
    rw [this, ← h]
    intro e; exact hz (by rw [e])
/-- the first n places are as they were -/
def mp_keep (g f : Nat → Int32) (n : Nat) : Prop := ∀ j : Nat, j < n → g j = f j
theorem mp_keep_rfl {f : Nat → Int32} {n : Nat} : mp_keep f f n := fun _ _ => rfl
theorem mp_keep_st {f g g' : Nat → Int32} {n : Nat} {i v : Int32} (h : g' = upd g i.toNatClampNeg v) (p : mp_keep g f n) (hi : (n : Int) ≤ i.toInt) : mp_keep g' f n := by
  intro j hj
  have e : i.toNatClampNeg = i.toInt.toNat := rfl
  rw [h, e]
  simp only [upd]
  rw [if_neg (by omega)]
  exact p j hj
theorem mp_keep_trans {f g g' : Nat → Int32} {n : Nat} (p : mp_keep g' g n) (q : mp_keep g f n) : mp_keep g' f n := fun j hj => (p j hj).trans (q j hj)
/-- rows of promises behind place o: each stands on an elder one -/
def mp_prmo (f : Nat → Int32) (o : Nat) (n : Int) : Prop := ∀ j : Nat, (j : Int) < n → -1 ≤ (f (o + 6 * j + 5)).toInt ∧ (f (o + 6 * j + 5)).toInt < (j : Int)
theorem mp_prmo_0 {f : Nat → Int32} {o : Nat} {n : Int} (h : n ≤ 0) : mp_prmo f o n := fun j hj => by omega
theorem mp_prmo_st {f g : Nat → Int32} {o : Nat} {n : Int} {i v : Int32} (h : g = upd f i.toNatClampNeg v) (p : mp_prmo f o n) (hi : o + 6 * n ≤ i.toInt) : mp_prmo g o n := by
  intro j hj
  have e : i.toNatClampNeg = i.toInt.toNat := rfl
  rw [h, e]
  simp only [upd]
  rw [if_neg (by omega)]
  exact p j hj
theorem mp_prmo_add {f : Nat → Int32} {o : Nat} {n n' : Int} {b : Int} (p : mp_prmo f o n) (h0 : 0 ≤ n) (x : b ≠ 0 ∨ (-1 ≤ (f (o + 6 * n.toNat + 5)).toInt ∧ (f (o + 6 * n.toNat + 5)).toInt < n)) (hn : n' = n + 1) : b ≠ 0 ∨ mp_prmo f o n' := by
  rcases x with x | x
  · exact Or.inl x
  · refine Or.inr (fun j hj => ?_)
    by_cases q : (j : Int) < n
    · exact p j q
    · have : j = n.toNat := by omega
      subst this
      omega
theorem mp_at_i {f : Nat → Int32} {i z : Int32} {N : Nat} (h : z = f i.toNatClampNeg) (hi : i.toInt = (N : Int)) : z.toInt = (f N).toInt := by
  have e : i.toNatClampNeg = N := by show i.toInt.toNat = N; omega
  rw [h, e]
theorem mp_st_i {f g : Nat → Int32} {i v : Int32} {N : Nat} (h : g = upd f i.toNatClampNeg v) (h0 : 0 ≤ i.toInt) : (i.toInt = (N : Int) ∧ (g N).toInt = v.toInt) ∨ (i.toInt ≠ (N : Int) ∧ (g N).toInt = (f N).toInt) := by
  have e : i.toNatClampNeg = i.toInt.toNat := rfl
  by_cases q : i.toInt = (N : Int)
  · refine Or.inl ⟨q, ?_⟩
    rw [h]; simp only [upd]; rw [if_pos (by omega)]
  · refine Or.inr ⟨q, ?_⟩
    rw [h]; simp only [upd]; rw [if_neg (by omega)]
theorem mp_or_good {b : Int} {p : Prop} (x : b ≠ 0 ∨ p) (h : b = 0) : p := by
  rcases x with x | x
  · exact absurd h x
  · exact x
theorem mp_prmo_eq {f : Nat → Int32} {o : Nat} {n n' : Int} (p : mp_prmo f o n) (h : n' = n) : mp_prmo f o n' := by rw [h]; exact p
theorem mp_st_eq {f g : Nat → Int32} {i v : Int32} {N : Nat} (h : g = upd f i.toNatClampNeg v) (hi : i.toInt = (N : Int)) : (g N).toInt = v.toInt := by
  have e : i.toNatClampNeg = N := by simp only [Int32.toNatClampNeg]; omega
  rw [h, e]; exact congrArg Int32.toInt (if_pos rfl)
theorem mp_st_ne {f g : Nat → Int32} {i v : Int32} {N : Nat} (h : g = upd f i.toNatClampNeg v) (hi : 0 ≤ i.toInt ∧ i.toInt ≠ (N : Int)) : (g N).toInt = (f N).toInt := by
  rw [h]; exact congrArg Int32.toInt (if_neg (fun q => hi.2 (by rw [q]; simp only [Int32.toNatClampNeg]; omega)))
-- exact answers of the reference, for the plan
abbrev mp_bitx (b k : Int32) : Prop := (b >>> (k &&& 31)) &&& 1 = 1
/-- dead in m: by the moon in which it dies (-1: none) -/
abbrev mp_deadx (d m : Int) : Prop := d ≠ -1 ∧ d ≤ m
abbrev mp_seax (a b s d m h1 h2 : Int) : Prop := a ≠ b ∧ 0 < s ∧ (d = -1 ∨ m < d) ∧ h1 = 0 ∧ h2 = 0
/-- the bits of those promises that are said on isle i in moon m: the first k of them -/
def mp_sdx (tr : Int32) (pr wh pe : Nat → Int32) (pl : Int) (i m : Int) : Nat → Int32
  | 0 => 0
  | k + 1 => mp_sdx tr pr wh pe pl i m k ||| (if mp_bitx tr (Int32.ofNat k) ∧ (wh (pr (6 * k + 1)).toInt.toNat).toInt = i ∧ ¬ mp_deadx (pe (3 * pl.toNat + 1)).toInt m ∧ ¬ mp_deadx (pe (3 * (pr (6 * k + 1)).toInt.toNat + 1)).toInt m then (1 : Int32) <<< (Int32.ofNat k &&& 31) else 0)
def mp_oncx (tr once sd : Int32) (d m : Int) : Int32 := if once &&& (sd ^^^ -1) ≠ 0 then -1 else if tr &&& (sd ^^^ -1) ≠ 0 ∧ d ≠ -1 ∧ d < m then -1 else tr &&& (sd ^^^ -1)
theorem mp_sdx_s {tr b b' z k : Int32} {pr wh pe : Nat → Int32} {pl i m : Int} {n n' : Nat} (x : b = mp_sdx tr pr wh pe pl i m n) (h : b' = b ||| z) (hk : k.toInt = (n : Int)) (hz : (mp_bitx tr k ∧ (wh (pr (6 * n + 1)).toInt.toNat).toInt = i ∧ ¬ mp_deadx (pe (3 * pl.toNat + 1)).toInt m ∧ ¬ mp_deadx (pe (3 * (pr (6 * n + 1)).toInt.toNat + 1)).toInt m) ∧ z = (1 : Int32) <<< (k &&& 31) ∨ ¬ (mp_bitx tr k ∧ (wh (pr (6 * n + 1)).toInt.toNat).toInt = i ∧ ¬ mp_deadx (pe (3 * pl.toNat + 1)).toInt m ∧ ¬ mp_deadx (pe (3 * (pr (6 * n + 1)).toInt.toNat + 1)).toInt m) ∧ z = 0) (hn : n' = n + 1) : b' = mp_sdx tr pr wh pe pl i m n' := by
  have ek : k = Int32.ofNat n := by
    have : n = k.toInt.toNat := by omega
    rw [this]
    exact (mp_ofnat (by omega)).symm
  rw [hn, h, x]
  show _ = mp_sdx tr pr wh pe pl i m n ||| _
  rw [← ek]
  rcases hz with ⟨c, e⟩ | ⟨c, e⟩
  · rw [if_pos c, e]
  · rw [if_neg c, e]
theorem mp_oncx_1 {tr once sd y z : Int32} {d m : Int} (hy : y = sd ^^^ -1) (hz : z = once &&& y) (c : z.toInt ≠ 0) : (-1 : Int32) = mp_oncx tr once sd d m := by
  unfold mp_oncx
  rw [← hy, ← hz, if_pos (fun q => c (by rw [q]; rfl))]
