-- steps outside the blocks, facts of compares, of contents
theorem mp_i2l {z : Int64} {x : Int32} (h : z = x.toInt64) : z.toInt = x.toInt := by rw [h, Int32.toInt_toInt64]
theorem mp_lc_lt {z : Int32} {x y : Int64} (h : z = lg_cmp x y) (c : z.toInt < 0) : x.toInt < y.toInt := by
  rw [h] at c
  exact Int64.lt_iff_toInt_lt.mp ((lg_cmp_lt x y).mp (mp_i32_lt.mpr (by rw [mp_t0]; exact c)))
theorem mp_lc_ge {z : Int32} {x y : Int64} (h : z = lg_cmp x y) (c : 0 ≤ z.toInt) : y.toInt ≤ x.toInt := by
  rw [h] at c
  exact Int64.le_iff_toInt_le.mp ((lg_cmp_ge x y).mp (mp_i32_le.mpr (by rw [mp_t0]; exact c)))
theorem mp_lc_gt {z : Int32} {x y : Int64} (h : z = lg_cmp x y) (c : 0 < z.toInt) : y.toInt < x.toInt := by
  rw [h] at c
  exact Int64.lt_iff_toInt_lt.mp ((lg_cmp_gt x y).mp (mp_i32_lt.mpr (by rw [mp_t0]; exact c)))
theorem mp_lc_le {z : Int32} {x y : Int64} (h : z = lg_cmp x y) (c : z.toInt ≤ 0) : x.toInt ≤ y.toInt := by
  rw [h] at c
  exact Int64.le_iff_toInt_le.mp ((lg_cmp_le x y).mp (mp_i32_le.mpr (by rw [mp_t0]; exact c)))
theorem mp_lc_eq {z : Int32} {x y : Int64} (h : z = lg_cmp x y) (c : z = 0) : x.toInt = y.toInt := by
  rw [h] at c
  rw [(lg_cmp_eq x y).mp c]
theorem mp_lc_ne {z : Int32} {x y : Int64} (h : z = lg_cmp x y) (c : z.toInt ≠ 0) : x.toInt ≠ y.toInt := by
  intro q
  apply c
  rw [h, (lg_cmp_eq x y).mpr (Int64.toInt_inj.mp q)]
  decide
theorem mp_at {α : Type} {f : Nat → α} {i : Int32} {k : Nat} {z c : α} (h : z = f i.toNatClampNeg) (hi : i.toNatClampNeg = k) (hk : f k = c) : z = c := by rw [h, hi, hk]
theorem mp_ata {α : Type} {f : Nat → α} {i : Int32} {N : Nat} {z c : α} (h : z = f i.toNatClampNeg) (p : ∀ j, j < N → f j = c) (h0 : 0 ≤ i.toInt) (h1 : i.toInt < N) : z = c := by
  rw [h]
  refine p _ ?_
  simp only [Int32.toNatClampNeg]
  omega
theorem mp_upds {f g : Nat → Int32} {i v : Int32} {k : Nat} (h : g = upd f i.toNatClampNeg v) (hi : i.toNatClampNeg = k) : g k = v := by
  rw [h, hi]; simp [upd]
theorem mp_updo {f g : Nat → Int32} {i v c : Int32} {k : Nat} (h : g = upd f i.toNatClampNeg v) (hk : f k = c) (hi : ¬ k = i.toNatClampNeg) : g k = c := by
  rw [h]; simp [upd, hi, hk]
theorem mp_updls {f g : Nat → Int64} {i : Int32} {v : Int64} {k : Nat} (h : g = vp_updL f i.toNatClampNeg v) (hi : i.toNatClampNeg = k) : g k = v := by
  rw [h, hi]; simp [vp_updL]
theorem mp_updlo {f g : Nat → Int64} {i : Int32} {v c : Int64} {k : Nat} (h : g = vp_updL f i.toNatClampNeg v) (hk : f k = c) (hi : ¬ k = i.toNatClampNeg) : g k = c := by
  rw [h]; simp [vp_updL, hi, hk]
theorem mp_updqs {f g : Nat → Option Nat} {i : Int32} {v : Option Nat} {k : Nat} (h : g = va_up f i.toNatClampNeg v) (hi : i.toNatClampNeg = k) : g k = v := by
  rw [h, hi]; simp [va_up]
theorem mp_updqo {f g : Nat → Option Nat} {i : Int32} {v c : Option Nat} {k : Nat} (h : g = va_up f i.toNatClampNeg v) (hk : f k = c) (hi : ¬ k = i.toNatClampNeg) : g k = c := by
  rw [h]; simp [va_up, hi, hk]
section MPS
variable {E : mp_E} {X : mp_X} {M : mp_M} {pc : Nat} {lv : List (Nat × Value)} {rest : List Value} {ws : va_W} {k n : Nat}
theorem mp_ifn_t (hF : mp_F E X M) {off : Int} {tgt : Nat} (hdg : decode M.2.1 pc = .ok (.ifnull off, 3)) (ht : (pc : Int) + off = (tgt : Int)) (kk : mp_W E X M.2.2.1 tgt lv rest ws k n) : mp_W E X M.2.2.1 pc lv (.null :: rest) ws k n := by
  intro H locs ls hP hD hS hl
  exact lv_ifnullN hF.1 hF.2.1 hdg ht (kk H locs ls hP hD hS hl)
theorem mp_ifn_f (hF : mp_F E X M) {off : Int} {a : Nat} (hdg : decode M.2.1 pc = .ok (.ifnull off, 3)) (kk : mp_W E X M.2.2.1 (pc + 3) lv rest ws k n) : mp_W E X M.2.2.1 pc lv (.ref a :: rest) ws k n := by
  intro H locs ls hP hD hS hl
  exact lv_ifnull hF.1 hF.2.1 hdg (kk H locs ls hP hD hS hl)
theorem mp_ifnn_t (hF : mp_F E X M) {off : Int} {tgt : Nat} {a : Nat} (hdg : decode M.2.1 pc = .ok (.ifnonnull off, 3)) (ht : (pc : Int) + off = (tgt : Int)) (kk : mp_W E X M.2.2.1 tgt lv rest ws k n) : mp_W E X M.2.2.1 pc lv (.ref a :: rest) ws k n := by
  intro H locs ls hP hD hS hl
  exact lv_ifnonnull hF.1 hF.2.1 hdg ht (kk H locs ls hP hD hS hl)
theorem mp_ifnn_f (hF : mp_F E X M) {off : Int} (hdg : decode M.2.1 pc = .ok (.ifnonnull off, 3)) (kk : mp_W E X M.2.2.1 (pc + 3) lv rest ws k n) : mp_W E X M.2.2.1 pc lv (.null :: rest) ws k n := by
  intro H locs ls hP hD hS hl
  exact lv_ifnonnullN hF.1 hF.2.1 hdg (kk H locs ls hP hD hS hl)
theorem mp_lushr (hF : mp_F E X M) {x : Int64} {y : Int32} (hdg : decode M.2.1 pc = .ok (.lushr, 1)) (kk : ∀ z : Int64, z = (x.toUInt64 >>> (y.toInt64.toUInt64 &&& Int64.toUInt64 63)).toInt64 → mp_W E X M.2.2.1 (pc + 1) lv (.long z :: rest) ws k n) : mp_W E X M.2.2.1 pc lv (.int y :: .long x :: rest) ws k n := by
  intro H locs ls hP hD hS hl
  exact lv_lushr hF.1 hF.2.1 hdg rfl (kk _ rfl H locs ls hP hD hS hl)
theorem mp_astq (hF : mp_F E X M) (q0 qk : Nat) {a v N : Nat} {f : Nat → Option Nat} {vs : List Value} (ha : ws[q0]? = some (a, .inl (E.2.2 4, N, .inr (.inr (.inr (.inr f)))))) (hv : ws[qk]? = some (v, .inr (7, vs))) {i : Int32} (hin : vp_in i N) (hdg : decode M.2.1 pc = .ok (.aastore, 1))
    (kk : ∀ g : Nat → Option Nat, g = va_up f i.toNatClampNeg (some v) → mp_W E X M.2.2.1 (pc + 1) lv rest (ws.set q0 (a, .inl (E.2.2 4, N, .inr (.inr (.inr (.inr g)))))) k n) : mp_W E X M.2.2.1 pc lv (.ref v :: .int i :: .ref a :: rest) ws k n := by
  intro H locs ls hP hD hS hl
  obtain ⟨hx, hb, hml, hown, hts, hK, hA, hlk, hR, hrt, hin', hN⟩ := hF
  exact va_astq (r := (RX7, TX7, _)) hx hb hK hP hD hS q0 4 qk 7 ha rfl hv rfl hin hdg (fun H1 locs1 hP hD hS => kk _ rfl H1 locs1 ls hP hD hS hl)
end MPS
-- ranges of contents
def mp_all (f : Nat → Int32) (n : Nat) (lo hi : Int) : Prop := ∀ j : Nat, j < n → lo ≤ (f j).toInt ∧ (f j).toInt ≤ hi
theorem mp_all_z {n : Nat} {lo hi : Int} (h : lo ≤ (0 : Int32).toInt ∧ (0 : Int32).toInt ≤ hi) : mp_all (fun _ => 0) n lo hi := fun _ _ => h
theorem mp_clamp {i : Int32} (h : 0 ≤ i.toInt) : ((i.toNatClampNeg : Nat) : Int) = i.toInt := by
  simp only [Int32.toNatClampNeg]; omega
theorem mp_all_ld {f : Nat → Int32} {n : Nat} {lo hi : Int} {i z : Int32} (h : z = f i.toNatClampNeg) (p : mp_all f n lo hi) (h0 : 0 ≤ i.toInt) (h1 : i.toInt < n) : lo ≤ z.toInt ∧ z.toInt ≤ hi := by
  rw [h]
  refine p _ ?_
  have := mp_clamp h0
  omega
theorem mp_all_st {f g : Nat → Int32} {n : Nat} {lo hi : Int} {i v : Int32} (h : g = upd f i.toNatClampNeg v) (p : mp_all f n lo hi) (h0 : lo ≤ v.toInt) (h1 : v.toInt ≤ hi) : mp_all g n lo hi := by
  intro j hj
  rw [h]
  by_cases q : j = i.toNatClampNeg
  · subst q; simp [upd]; exact ⟨h0, h1⟩
  · simp only [upd, if_neg q]; exact p j hj
theorem mp_all_cpy {f g g' : Nat → Int32} {n n0 : Nat} {lo hi : Int} {sp dp m : Nat} (h : g' = va_cpy f g sp dp m) (p0 : mp_all f n0 lo hi) (p1 : mp_all g n lo hi) (hm : sp + m ≤ n0) : mp_all g' n lo hi := by
  intro j hj
  rw [h]
  simp only [va_cpy]
  split
  · refine p0 _ ?_
    omega
  · exact p1 j hj
theorem mp_l2i {z : Int32} {x : Int64} (h : z = x.toInt32) (h0 : -2147483648 ≤ x.toInt) (h1 : x.toInt ≤ 2147483647) : z.toInt = x.toInt := by
  rw [h, Int64.toInt_toInt32, Int.bmod_def]; omega
theorem mp_shr0 {z x : Int32} (h : z = x >>> ((0 : Int32) &&& 31)) : z = x := by
  rw [h]
  have : ((0 : Int32) &&& 31) = 0 := by decide
  rw [this]
  apply Int32.toBitVec_inj.mp
  simp
section MPS2
variable {E : mp_E} {X : mp_X} {M : mp_M} {pc : Nat} {lv : List (Nat × Value)} {rest : List Value} {ws : va_W} {k n : Nat}
theorem mp_iushr (hF : mp_F E X M) {x y : Int32} (hdg : decode M.2.1 pc = .ok (.iushr, 1)) (kk : ∀ z : Int32, mp_W E X M.2.2.1 (pc + 1) lv (.int z :: rest) ws k n) : mp_W E X M.2.2.1 pc lv (.int y :: .int x :: rest) ws k n := by
  intro H locs ls hP hD hS hl
  exact lv_iushr hF.1 hF.2.1 hdg rfl (kk _ H locs ls hP hD hS hl)
end MPS2
-- acts: what they may hold; how many of them are moons
def mp_acts (f : Nat → Int32) : Prop := ∀ j : Nat, j < 60 → (f j).toInt = 200 ∨ (100 ≤ (f j).toInt ∧ (f j).toInt ≤ 109) ∨ (0 ≤ (f j).toInt ∧ (f j).toInt ≤ 55 ∧ (f j).toInt % 10 ≤ 5)
theorem mp_acts_z : mp_acts (fun _ => 0) := by
  intro j hj
  exact Or.inr (Or.inr (show 0 ≤ (0 : Int32).toInt ∧ (0 : Int32).toInt ≤ 55 ∧ (0 : Int32).toInt % 10 ≤ 5 by decide))
theorem mp_acts_ld {f : Nat → Int32} {i z : Int32} (h : z = f i.toNatClampNeg) (p : mp_acts f) (h0 : 0 ≤ i.toInt) (h1 : i.toInt < 60) : z.toInt = 200 ∨ (100 ≤ z.toInt ∧ z.toInt ≤ 109) ∨ (0 ≤ z.toInt ∧ z.toInt ≤ 55 ∧ z.toInt % 10 ≤ 5) := by
  rw [h]
  refine p _ ?_
  have := mp_clamp h0
  omega
theorem mp_acts_st {f g : Nat → Int32} {i v : Int32} (h : g = upd f i.toNatClampNeg v) (p : mp_acts f) (hv : v.toInt = 200 ∨ (100 ≤ v.toInt ∧ v.toInt ≤ 109) ∨ (0 ≤ v.toInt ∧ v.toInt ≤ 55 ∧ v.toInt % 10 ≤ 5)) : mp_acts g := by
  intro j hj
  rw [h]
  by_cases q : j = i.toNatClampNeg
  · subst q; simp only [upd, if_true]; exact hv
  · simp only [upd, if_neg q]; exact p j hj
theorem mp_acts_cpy {f g g' : Nat → Int32} {sp dp m : Nat} (h : g' = va_cpy f g sp dp m) (p0 : mp_acts f) (p1 : mp_acts g) (hm : sp + m ≤ 60) : mp_acts g' := by
  intro j hj
  rw [h]
  simp only [va_cpy]
  split
  · refine p0 _ ?_
    omega
  · exact p1 j hj
def mp_c200 (f : Nat → Int32) : Nat → Int
  | 0 => 0
  | n + 1 => mp_c200 f n + (if (f n).toInt = 200 then 1 else 0)
def mp_k200 (f : Nat → Int32) (n : Int) : Int := mp_c200 f n.toNat
theorem mp_k200_z {f : Nat → Int32} : mp_k200 f ((0 : Int32).toInt) = 0 := rfl
theorem mp_k200_0 {f : Nat → Int32} : mp_k200 f 0 = 0 := rfl
theorem mp_k200_eq {f : Nat → Int32} {a b : Int} (h : a = b) : mp_k200 f a = mp_k200 f b := by rw [h]
theorem mp_c200_mono {f : Nat → Int32} : ∀ {a b : Nat}, a ≤ b → mp_c200 f a ≤ mp_c200 f b := by
  intro a b h
  induction h with
  | refl => exact Int.le_refl _
  | step _ ih =>
    refine Int.le_trans ih ?_
    show _ ≤ _ + _
    split <;> omega
theorem mp_k200_mono {f : Nat → Int32} {a b : Int} (h : a ≤ b) : mp_k200 f a ≤ mp_k200 f b := mp_c200_mono (by omega)
theorem mp_c200_nn {f : Nat → Int32} (n : Nat) : 0 ≤ mp_c200 f n := mp_c200_mono (f := f) (Nat.zero_le n)
theorem mp_k200_nn {f : Nat → Int32} (n : Int) : 0 ≤ mp_k200 f n := mp_c200_nn _
theorem mp_k200_ld {f : Nat → Int32} {i z : Int32} (h : z = f i.toNatClampNeg) (h0 : 0 ≤ i.toInt) : (z.toInt = 200 ∧ mp_k200 f (i.toInt + 1) = mp_k200 f i.toInt + 1) ∨ (z.toInt ≠ 200 ∧ mp_k200 f (i.toInt + 1) = mp_k200 f i.toInt) := by
  have e : (i.toInt + 1).toNat = i.toInt.toNat + 1 := by omega
  have e2 : i.toNatClampNeg = i.toInt.toNat := rfl
  unfold mp_k200
  rw [e, h, e2]
  show (_ ∧ mp_c200 f i.toInt.toNat + _ = _) ∨ (_ ∧ mp_c200 f i.toInt.toNat + _ = _)
  by_cases q : (f i.toInt.toNat).toInt = 200
  · exact Or.inl ⟨q, by rw [if_pos q]⟩
  · exact Or.inr ⟨q, by rw [if_neg q]; omega⟩
theorem mp_c200_cong {f g : Nat → Int32} : ∀ {n : Nat}, (∀ j, j < n → f j = g j) → mp_c200 f n = mp_c200 g n
  | 0, _ => rfl
  | n + 1, h => by
    show mp_c200 f n + _ = mp_c200 g n + _
    rw [mp_c200_cong (fun j hj => h j (by omega)), h n (by omega)]
theorem mp_k200_st {f g : Nat → Int32} {i v : Int32} (h : g = upd f i.toNatClampNeg v) (h0 : 0 ≤ i.toInt) : (v.toInt = 200 ∧ mp_k200 g (i.toInt + 1) = mp_k200 f i.toInt + 1) ∨ (v.toInt ≠ 200 ∧ mp_k200 g (i.toInt + 1) = mp_k200 f i.toInt) := by
  have e : (i.toInt + 1).toNat = i.toInt.toNat + 1 := by omega
  have e2 : i.toNatClampNeg = i.toInt.toNat := rfl
  have e3 : mp_c200 g i.toInt.toNat = mp_c200 f i.toInt.toNat := mp_c200_cong (fun j hj => by rw [h, e2]; simp only [upd]; rw [if_neg (by omega)])
  have e4 : g i.toInt.toNat = v := by rw [h, e2]; simp [upd]
  unfold mp_k200
  rw [e]
  show (_ ∧ mp_c200 g i.toInt.toNat + _ = _) ∨ (_ ∧ mp_c200 g i.toInt.toNat + _ = _)
  rw [e3, e4]
  by_cases q : v.toInt = 200
  · exact Or.inl ⟨q, by rw [if_pos q]⟩
  · exact Or.inr ⟨q, by rw [if_neg q]; omega⟩
theorem mp_k200_cpy {f g g' : Nat → Int32} {sp dp m : Nat} {n : Int} (h : g' = va_cpy f g sp dp m) (h0 : sp = 0) (h1 : dp = 0) (h2 : m = 60) (hn : n ≤ 60) : mp_k200 g' n = mp_k200 f n := by
  refine mp_c200_cong (fun j hj => ?_)
  rw [h, h0, h1, h2]
  simp only [va_cpy]
  rw [if_pos (by omega)]
  simp
theorem mp_tinv_le {f : Nat → Int32} {a b tm cm : Int} (h : cm = tm + mp_k200 f b) (hc : cm ≤ 99) (hab : a ≤ b) : tm + mp_k200 f a ≤ 99 := by
  have := mp_k200_mono (f := f) hab
  omega
-- Math.min, Math.max
section MPM
variable {E : mp_E} {X : mp_X} {M : mp_M} {pc : Nat} {lv : List (Nat × Value)} {rest : List Value} {ws : va_W} {k n idx : Nat}
theorem mp_mmin (hF : mp_F E X M) (h1 : Jvm.Cond.methodLink M.1 idx Lib.Math.min.name ∈ mp_UT) (h2 : Jvm.Cond.static Lib.Math.min.name ∈ mp_UT) (h3 : Jvm.Cond.initialized "java/lang/Math" ∈ mp_UT) (h4 : Jvm.Cond.code Lib.Math.min.name Lib.Math.min.code 2 (some .int) ∈ mp_UT)
    (hroom : 1 ≤ M.2.2.2.1.1 ∧ (rest.map (fun v => v.category)).sum + 13 ≤ M.2.2.2.1.2.2.2 ∧ k ≤ M.2.2.2.1.2.1 ∧ n ≤ M.2.2.2.1.2.2.1) {x y : Int32} (hdg : decode M.2.1 pc = .ok (.invokestatic idx, 3)) (kk : ∀ z : Int32, (z.toInt = x.toInt ∨ z.toInt = y.toInt) → z.toInt ≤ x.toInt → z.toInt ≤ y.toInt → mp_W E X M.2.2.1 (pc + 3) lv (.int z :: rest) ws k n) : mp_W E X M.2.2.1 pc lv (.int y :: .int x :: rest) ws k n := by
  intro H locs ls hP hD hS hl
  obtain ⟨hx, hb, hml, hown, hts, hK, hA, hlk, hR, hrt, hin, hN⟩ := hF
  refine va_mmin hx hb (hml.trans hl.1.symm) hown (hts _ h1) (hts _ h2) (hts _ h3) (hts _ h4) (by rw [hR]; exact hroom.1) (by rw [hR]; exact hroom.2.1) (by rw [hR]; exact hroom.2.2.1) (by rw [hR]; exact hroom.2.2.2) hdg (kk _ ?_ ?_ ?_ H locs ls hP hD hS hl)
  · split
    · exact Or.inr rfl
    · exact Or.inl rfl
  · split
    · rename_i q; rw [mp_i32_lt] at q; omega
    · exact Int.le_refl _
  · split
    · exact Int.le_refl _
    · rename_i q; rw [mp_i32_lt] at q; omega
theorem mp_mmax (hF : mp_F E X M) (h1 : Jvm.Cond.methodLink M.1 idx Lib.Math.max.name ∈ mp_UT) (h2 : Jvm.Cond.static Lib.Math.max.name ∈ mp_UT) (h3 : Jvm.Cond.initialized "java/lang/Math" ∈ mp_UT) (h4 : Jvm.Cond.code Lib.Math.max.name Lib.Math.max.code 2 (some .int) ∈ mp_UT)
    (hroom : 1 ≤ M.2.2.2.1.1 ∧ (rest.map (fun v => v.category)).sum + 13 ≤ M.2.2.2.1.2.2.2 ∧ k ≤ M.2.2.2.1.2.1 ∧ n ≤ M.2.2.2.1.2.2.1) {x y : Int32} (hdg : decode M.2.1 pc = .ok (.invokestatic idx, 3)) (kk : ∀ z : Int32, (z.toInt = x.toInt ∨ z.toInt = y.toInt) → x.toInt ≤ z.toInt → y.toInt ≤ z.toInt → mp_W E X M.2.2.1 (pc + 3) lv (.int z :: rest) ws k n) : mp_W E X M.2.2.1 pc lv (.int y :: .int x :: rest) ws k n := by
  intro H locs ls hP hD hS hl
  obtain ⟨hx, hb, hml, hown, hts, hK, hA, hlk, hR, hrt, hin, hN⟩ := hF
  refine va_mmax hx hb (hml.trans hl.1.symm) hown (hts _ h1) (hts _ h2) (hts _ h3) (hts _ h4) (by rw [hR]; exact hroom.1) (by rw [hR]; exact hroom.2.1) (by rw [hR]; exact hroom.2.2.1) (by rw [hR]; exact hroom.2.2.2) hdg (kk _ ?_ ?_ ?_ H locs ls hP hD hS hl)
  · split
    · exact Or.inr rfl
    · exact Or.inl rfl
  · split
    · rename_i q; rw [mp_i32_lt] at q; omega
    · exact Int.le_refl _
  · split
    · exact Int.le_refl _
    · rename_i q; rw [mp_i32_lt] at q; omega
theorem mp_mminl (hF : mp_F E X M) (h1 : Jvm.Cond.methodLink M.1 idx Lib.MathLoose.min_long.x ∈ mp_UT) (h2 : Jvm.Cond.static Lib.MathLoose.min_long.x ∈ mp_UT) (h3 : Jvm.Cond.initialized "java/lang/Math" ∈ mp_UT) (h4 : Jvm.Cond.code Lib.MathLoose.min_long.x Lib.MathLoose.min_long.code 4 (some .long) ∈ mp_UT)
    (hroom : 1 ≤ M.2.2.2.1.1 ∧ (rest.map (fun v => v.category)).sum + 15 ≤ M.2.2.2.1.2.2.2 ∧ k ≤ M.2.2.2.1.2.1 ∧ n ≤ M.2.2.2.1.2.2.1) {x y : Int64} (hdg : decode M.2.1 pc = .ok (.invokestatic idx, 3)) (kk : ∀ z : Int64, z = (if y < x then y else x) → mp_W E X M.2.2.1 (pc + 3) lv (.long z :: rest) ws k n) : mp_W E X M.2.2.1 pc lv (.long y :: .long x :: rest) ws k n := by
  intro H locs ls hP hD hS hl
  obtain ⟨hx, hb, hml, hown, hts, hK, hA, hlk, hR, hrt, hin, hN⟩ := hF
  exact va_mmin_long hx hb (hml.trans hl.1.symm) hown (hts _ h1) (hts _ h2) (hts _ h3) (hts _ h4) (by rw [hR]; exact hroom.1) (by rw [hR]; exact hroom.2.1) (by rw [hR]; exact hroom.2.2.1) (by rw [hR]; exact hroom.2.2.2) hdg (kk _ rfl H locs ls hP hD hS hl)
theorem mp_mmaxl (hF : mp_F E X M) (h1 : Jvm.Cond.methodLink M.1 idx Lib.MathLoose.max_long.x ∈ mp_UT) (h2 : Jvm.Cond.static Lib.MathLoose.max_long.x ∈ mp_UT) (h3 : Jvm.Cond.initialized "java/lang/Math" ∈ mp_UT) (h4 : Jvm.Cond.code Lib.MathLoose.max_long.x Lib.MathLoose.max_long.code 4 (some .long) ∈ mp_UT)
    (hroom : 1 ≤ M.2.2.2.1.1 ∧ (rest.map (fun v => v.category)).sum + 15 ≤ M.2.2.2.1.2.2.2 ∧ k ≤ M.2.2.2.1.2.1 ∧ n ≤ M.2.2.2.1.2.2.1) {x y : Int64} (hdg : decode M.2.1 pc = .ok (.invokestatic idx, 3)) (kk : ∀ z : Int64, z = (if y < x then x else y) → mp_W E X M.2.2.1 (pc + 3) lv (.long z :: rest) ws k n) : mp_W E X M.2.2.1 pc lv (.long y :: .long x :: rest) ws k n := by
  intro H locs ls hP hD hS hl
  obtain ⟨hx, hb, hml, hown, hts, hK, hA, hlk, hR, hrt, hin, hN⟩ := hF
  exact va_mmax_long hx hb (hml.trans hl.1.symm) hown (hts _ h1) (hts _ h2) (hts _ h3) (hts _ h4) (by rw [hR]; exact hroom.1) (by rw [hR]; exact hroom.2.1) (by rw [hR]; exact hroom.2.2.1) (by rw [hR]; exact hroom.2.2.2) hdg (kk _ rfl H locs ls hP hD hS hl)
end MPM
-- ranges of the elements that stand at j % m = r
def mp_res (f : Nat → Int32) (n m r : Nat) (lo hi : Int) : Prop := ∀ j : Nat, j < n → j % m = r → lo ≤ (f j).toInt ∧ (f j).toInt ≤ hi
theorem mp_res_z {n m r : Nat} {lo hi : Int} (h : lo ≤ (0 : Int32).toInt ∧ (0 : Int32).toInt ≤ hi) : mp_res (fun _ => 0) n m r lo hi := fun _ _ _ => h
theorem mp_res_ld {f : Nat → Int32} {n m r : Nat} {lo hi : Int} {i z : Int32} (h : z = f i.toNatClampNeg) (p : mp_res f n m r lo hi) (h0 : 0 ≤ i.toInt) (h1 : i.toInt < n) : i.toInt % m = r → lo ≤ z.toInt ∧ z.toInt ≤ hi := by
  intro hr
  rw [h]
  have e := mp_clamp h0
  refine p _ (by omega) ?_
  have : ((i.toNatClampNeg % m : Nat) : Int) = (r : Int) := by rw [Int.natCast_emod, e]; exact hr
  exact Int.ofNat.inj this
theorem mp_res_st {f g : Nat → Int32} {n m r : Nat} {lo hi : Int} {i v : Int32} (h : g = upd f i.toNatClampNeg v) (p : mp_res f n m r lo hi) (h0 : 0 ≤ i.toInt) (hv : i.toInt % m = r → lo ≤ v.toInt ∧ v.toInt ≤ hi) : mp_res g n m r lo hi := by
  intro j hj hr
  rw [h]
  by_cases q : j = i.toNatClampNeg
  · have e := mp_clamp h0
    have e2 : i.toInt % m = r := by rw [← e, ← Int.natCast_emod, ← q, hr]
    subst q; simp only [upd, if_true]; exact hv e2
  · simp only [upd, if_neg q]; exact p j hj hr
/-- the acts of all five rows -/
def mp_actm (f : Nat → Int32) : Prop := ∀ j : Nat, j < 300 → (f j).toInt = 200 ∨ (100 ≤ (f j).toInt ∧ (f j).toInt ≤ 109) ∨ (0 ≤ (f j).toInt ∧ (f j).toInt ≤ 55 ∧ (f j).toInt % 10 ≤ 5)
theorem mp_actm_z : mp_actm (fun _ => 0) := by
  intro j hj
  exact Or.inr (Or.inr (show 0 ≤ (0 : Int32).toInt ∧ (0 : Int32).toInt ≤ 55 ∧ (0 : Int32).toInt % 10 ≤ 5 by decide))
theorem mp_actm_ld {f : Nat → Int32} {i z : Int32} (h : z = f i.toNatClampNeg) (p : mp_actm f) (h0 : 0 ≤ i.toInt) (h1 : i.toInt < 300) : z.toInt = 200 ∨ (100 ≤ z.toInt ∧ z.toInt ≤ 109) ∨ (0 ≤ z.toInt ∧ z.toInt ≤ 55 ∧ z.toInt % 10 ≤ 5) := by
  rw [h]
  refine p _ ?_
  have := mp_clamp h0
  omega
theorem mp_actm_st {f g : Nat → Int32} {i v : Int32} (h : g = upd f i.toNatClampNeg v) (p : mp_actm f) (hv : v.toInt = 200 ∨ (100 ≤ v.toInt ∧ v.toInt ≤ 109) ∨ (0 ≤ v.toInt ∧ v.toInt ≤ 55 ∧ v.toInt % 10 ≤ 5)) : mp_actm g := by
  intro j hj
  rw [h]
  by_cases q : j = i.toNatClampNeg
  · subst q; simp only [upd, if_true]; exact hv
  · simp only [upd, if_neg q]; exact p j hj
theorem mp_ladd {z x y : Int64} {a b : Int} (h : z = x + y) (hx : x.toInt = a) (hy : y.toInt = b) (h1 : -9223372036854775808 ≤ a + b) (h2 : a + b ≤ 9223372036854775807) : z.toInt = a + b := by
  rw [h, Int64.toInt_add, hx, hy, Int.bmod_def]; omega
theorem mp_lsub {z x y : Int64} {a b : Int} (h : z = x - y) (hx : x.toInt = a) (hy : y.toInt = b) (h1 : -9223372036854775808 ≤ a - b) (h2 : a - b ≤ 9223372036854775807) : z.toInt = a - b := by
  rw [h, Int64.toInt_sub, hx, hy, Int.bmod_def]; omega
/-- each promise of the first row stands on an elder one, or on none -/
def mp_prm (f : Nat → Int32) (n : Int) : Prop := ∀ j : Nat, (j : Int) < n → -1 ≤ (f (6 * j + 5)).toInt ∧ (f (6 * j + 5)).toInt < (j : Int)
theorem mp_prm_ld {f : Nat → Int32} {n : Int} {k z : Int32} {i : Int32} (p : mp_prm f n) (h : z = f i.toNatClampNeg) (hi : i.toInt = 6 * k.toInt + 5) (h0 : 0 ≤ k.toInt) (h1 : k.toInt < n) : -1 ≤ z.toInt ∧ z.toInt < k.toInt := by
  have e := mp_clamp (i := i) (by omega)
  have e2 : i.toNatClampNeg = 6 * k.toInt.toNat + 5 := by omega
  have := p k.toInt.toNat (by omega)
  rw [h, e2]
  omega
theorem mp_prm_use {f : Nat → Int32} {n : Int} (p : mp_prm f n) (k : Int32) (h0 : 0 ≤ k.toInt) (h1 : k.toInt < n) : -1 ≤ (f (6 * k.toInt.toNat + 5)).toInt ∧ (f (6 * k.toInt.toNat + 5)).toInt < k.toInt := by
  have := p k.toInt.toNat (by omega)
  omega
theorem mp_of_at {f : Nat → Int32} {k i z : Int32} {w : Nat} (h : z = f i.toNatClampNeg) (h0 : 0 ≤ k.toInt) (hi : i.toInt = 6 * k.toInt + w) : z.toInt = (f (6 * k.toInt.toNat + w)).toInt := by
  have e := mp_clamp (i := i) (by omega)
  have e2 : i.toNatClampNeg = 6 * k.toInt.toNat + w := by omega
  rw [h, e2]
theorem mp_has_eq {f g : Nat → Int32} {i v : Int32} {k : Nat} (h : g = upd f i.toNatClampNeg v) (hi : i.toNatClampNeg = k) : (g k).toInt = v.toInt := by rw [mp_upds h hi]
theorem mp_has_ne {f g : Nat → Int32} {i v : Int32} {k : Nat} (h : g = upd f i.toNatClampNeg v) (hi : ¬ k = i.toNatClampNeg) : (g k).toInt = (f k).toInt := by rw [mp_updo h rfl hi]
theorem mp_res_at {f : Nat → Int32} {n m r : Nat} {lo hi : Int} (p : mp_res f n m r lo hi) (k : Nat) (hk : k < n) (hr : k % m = r) : lo ≤ (f k).toInt ∧ (f k).toInt ≤ hi := p k hk hr
theorem mp_k200_st2 {f g : Nat → Int32} {i v : Int32} {a b : Int} (h : g = upd f i.toNatClampNeg v) (h0 : 0 ≤ i.toInt) (ha : a = i.toInt) (hb : b = i.toInt + 1) : (v.toInt = 200 ∧ mp_k200 g b = mp_k200 f a + 1) ∨ (v.toInt ≠ 200 ∧ mp_k200 g b = mp_k200 f a) := by
  rw [ha, hb]; exact mp_k200_st h h0
theorem mp_tinv_0 {f : Nat → Int32} {a tm : Int} (h : a = 0) (ht : tm ≤ 99) : tm + mp_k200 f a ≤ 99 := by
  rw [h, mp_k200_0]; omega
theorem mp_tinv_le2 {f : Nat → Int32} {a b tm t2 : Int} (h : tm + mp_k200 f b ≤ 99) (ht : t2 = tm) (hab : a ≤ b) : t2 + mp_k200 f a ≤ 99 := by
  have := mp_k200_mono (f := f) hab
  omega
theorem mp_prm_n {f : Nat → Int32} {n m : Int} (p : mp_prm f n) (h : m ≤ n) : mp_prm f m := fun j hj => p j (by omega)
/-- k places from sa on, laid from sb on -/
def mp_cpr (f : Nat → Int32) (sa sb k : Nat) : Nat → Int32 := fun j => if sb ≤ j ∧ j < sb + k then f (sa + (j - sb)) else f j
theorem mp_cpr_0 {f : Nat → Int32} {sa sb k : Nat} (hk : k = 0) : f = mp_cpr f sa sb k := by
  funext j
  simp only [mp_cpr]
  rw [if_neg (by omega)]
theorem mp_cpr_st {f g g' : Nat → Int32} {sa sb k k' m : Nat} {ia ib z : Int32} (h : g' = upd g ib.toNatClampNeg z) (hz : z = g ia.toNatClampNeg) (hg : g = mp_cpr f sa sb k) (hib : ib.toInt = sb + k) (hia : ia.toInt = sa + k) (hd : sa + m ≤ sb ∨ sb + m ≤ sa) (hk : k < m) (hk' : k' = k + 1) : g' = mp_cpr f sa sb k' := by
  have eb : ib.toNatClampNeg = sb + k := by show ib.toInt.toNat = _; omega
  have ea : ia.toNatClampNeg = sa + k := by show ia.toInt.toNat = _; omega
  funext j
  rw [h, eb, hz, ea, hg, hk']
  simp only [upd, mp_cpr]
  by_cases q : j = sb + k
  · subst q
    rw [if_pos rfl, if_neg (by omega), if_pos (by omega)]
    congr 1; omega
  · rw [if_neg q]
    by_cases q2 : sb ≤ j ∧ j < sb + k
    · rw [if_pos q2, if_pos (by omega)]
    · rw [if_neg q2, if_neg (by omega)]
-- cells that stand for numbers 0 .. 99; worths told apart
def mp_c99 (f : Nat → Int64) (slot n : Int) : Prop := ∀ j : Nat, (j : Int) < n → 0 ≤ (f (60 * slot.toNat + j)).toInt ∧ (f (60 * slot.toNat + j)).toInt ≤ 99
theorem mp_c99_0 {f : Nat → Int64} {slot n : Int} (h : n ≤ 0) : mp_c99 f slot n := fun j hj => by omega
theorem mp_c99_le {f : Nat → Int64} {slot n m : Int} (p : mp_c99 f slot m) (h : n ≤ m) : mp_c99 f slot n := fun j hj => p j (by omega)
theorem mp_c99_ld {f : Nat → Int64} {slot n i : Int} {z : Int64} {k : Int32} (p : mp_c99 f slot n) (h : z = f k.toNatClampNeg) (hk : k.toInt = 60 * slot + i) (h0 : 0 ≤ slot) (hi : 0 ≤ i) (hin : i < n) : 0 ≤ z.toInt ∧ z.toInt ≤ 99 := by
  have e : k.toNatClampNeg = 60 * slot.toNat + i.toNat := by show k.toInt.toNat = _; omega
  rw [h, e]
  exact p i.toNat (by omega)
theorem mp_c99_s {f : Nat → Int64} {slot n i : Int} {z : Int64} {k : Int32} (p : mp_c99 f slot i) (h : z = f k.toNatClampNeg) (hk : k.toInt = 60 * slot + i) (h0 : 0 ≤ slot) (hi : 0 ≤ i) (hz : 0 ≤ z.toInt ∧ z.toInt ≤ 99) (hn : n = i + 1) : mp_c99 f slot n := by
  intro j hj
  have e : k.toNatClampNeg = 60 * slot.toNat + i.toNat := by show k.toInt.toNat = _; omega
  by_cases q : (j : Int) < i
  · exact p j q
  · have : j = i.toNat := by omega
    subst this
    rw [← e, ← h]; exact hz
def mp_hv (w n : Int32) : Int32 := if 20 < n.toInt then 1 else ((w.toInt64 + (1 <<< (n.toInt64 &&& 63)) - 1) >>> (n.toInt64 &&& 63)).toInt32
theorem mp_ofnat {z : Int32} (h : 0 ≤ z.toInt) : Int32.ofNat z.toInt.toNat = z := by
  apply Int32.toInt_inj.mp
  have := Int32.toInt_lt z
  rw [Int32.toInt_ofNat_of_lt (by omega)]; omega
theorem mp_pig : ∀ (k m : Nat) (c : Nat → Nat), (∀ a, a < m → c a < k) → (∀ a b, a < b → b < m → c a ≠ c b) → m ≤ k := by
  intro k
  induction k with
  | zero =>
    intro m c h _
    cases m with
    | zero => exact Nat.le_refl _
    | succ m => exact absurd (h 0 (by omega)) (by omega)
  | succ k ih =>
    intro m c h d
    cases m with
    | zero => omega
    | succ m =>
      -- the last one's value is taken out: the value k of an elder one is put there
      have : m ≤ k := by
        refine ih m (fun a => if c a = k then c m else c a) (fun a ha => ?_) (fun a b hab hb => ?_)
        · have h1 := h a (by omega); have h2 := h m (by omega); have h3 := d a m ha (by omega)
          show (if c a = k then c m else c a) < k
          split <;> omega
        · have h1 := d a b hab (by omega); have h2 := d a m (by omega) (by omega); have h3 := d b m (by omega) (by omega)
          show (if c a = k then c m else c a) ≠ (if c b = k then c m else c b)
          split <;> split <;> omega
      omega
def mp_dw (f : Nat → Int32) (w : Int32) (m : Int) : Prop := (∀ a : Nat, (a : Int) < m → ∃ n : Nat, n ≤ 11 ∧ f a = mp_hv w (Int32.ofNat n)) ∧ ∀ a b : Nat, a < b → (b : Int) < m → f a ≠ f b
theorem mp_dw_0 {f : Nat → Int32} {w : Int32} {m : Int} (h : m ≤ 0) : mp_dw f w m := ⟨fun a ha => by omega, fun a b _ hb => by omega⟩
theorem mp_dw_le {f : Nat → Int32} {w : Int32} {m : Int} (p : mp_dw f w m) : m ≤ 12 := by
  have h0 : ∀ a : Nat, ∃ n : Nat, (a : Int) < m → n ≤ 11 ∧ f a = mp_hv w (Int32.ofNat n) := by
    intro a
    by_cases q : (a : Int) < m
    · obtain ⟨n, h1, h2⟩ := p.1 a q
      exact ⟨n, fun _ => ⟨h1, h2⟩⟩
    · exact ⟨0, fun h => absurd h q⟩
  obtain ⟨c, hc⟩ := Classical.axiomOfChoice h0
  have := mp_pig 12 m.toNat c (fun a ha => by have := (hc a (by omega)).1; omega) (fun a b hab hb => by
    intro e
    have h1 := (hc a (by omega)).2; have h2 := (hc b (by omega)).2
    exact p.2 a b hab (by omega) (by rw [h1, h2, e]))
  omega
theorem mp_dw_add {f g : Nat → Int32} {w v : Int32} {m n : Int} {i : Int32} (p : mp_dw f w m) (h : g = upd f i.toNatClampNeg v) (hi : i.toInt = m) (h0 : 0 ≤ m) (hv : ∃ n : Nat, n ≤ 11 ∧ v = mp_hv w (Int32.ofNat n)) (hne : ∀ a : Nat, (a : Int) < m → f a ≠ v) (hn : n = m + 1) : mp_dw g w n := by
  have e : i.toNatClampNeg = m.toNat := by show i.toInt.toNat = _; omega
  rw [h, e]
  refine ⟨fun a ha => ?_, fun a b hab hb => ?_⟩
  · by_cases q : a = m.toNat
    · simp only [upd, if_pos q]; exact hv
    · simp only [upd, if_neg q]; exact p.1 a (by omega)
  · have qa : ¬ a = m.toNat := by omega
    by_cases q : b = m.toNat
    · simp only [upd, if_neg qa, if_pos q]; exact hne a (by omega)
    · simp only [upd, if_neg qa, if_neg q]; exact p.2 a b hab (by omega)
theorem mp_dw_new {f : Nat → Int32} {w v : Int32} {m : Int} (p : mp_dw f w m) (h0 : 0 ≤ m) (hv : ∃ n : Nat, n ≤ 11 ∧ v = mp_hv w (Int32.ofNat n)) (hne : ∀ a : Nat, (a : Int) < m → f a ≠ v) (hm : m < 2147483647) : m + 1 ≤ 12 := by
  refine mp_dw_le (f := upd f m.toNat v) (w := w) ?_
  have e : (Int32.ofNat m.toNat).toInt = m := by rw [Int32.toInt_ofNat_of_lt (by omega)]; omega
  exact mp_dw_add (i := Int32.ofNat m.toNat) p (by show _ = upd f (Int32.ofNat m.toNat).toInt.toNat v; rw [e]) e h0 hv hne rfl
theorem mp_ne_s {f : Nat → Int32} {v z : Int32} {i : Int32} {n : Int} (p : ∀ a : Nat, (a : Int) < i.toInt → f a ≠ v) (h : z = f i.toNatClampNeg) (hz : z.toInt ≠ v.toInt) (h0 : 0 ≤ i.toInt) (hn : n = i.toInt + 1) : ∀ a : Nat, (a : Int) < n → f a ≠ v := by
  intro a ha
  by_cases q : (a : Int) < i.toInt
  · exact p a q
  · have : a = i.toNatClampNeg := by show _ = i.toInt.toNat; omega
    rw [this, ← h]
    intro e; exact hz (by rw [e])
/-- the first n places are as they were -/
def mp_keep (g f : Nat → Int32) (n : Nat) : Prop := ∀ j : Nat, j < n → g j = f j
theorem mp_keep_rfl {f : Nat → Int32} {n : Nat} : mp_keep f f n := fun _ _ => rfl
theorem mp_keep_st {f g g' : Nat → Int32} {n : Nat} {i v : Int32} (h : g' = upd g i.toNatClampNeg v) (p : mp_keep g f n) (hi : (n : Int) ≤ i.toInt) : mp_keep g' f n := by
  intro j hj
  have e : i.toNatClampNeg = i.toInt.toNat := rfl
  rw [h, e]
  simp only [upd]
  rw [if_neg (by omega)]
  exact p j hj
theorem mp_keep_trans {f g g' : Nat → Int32} {n : Nat} (p : mp_keep g' g n) (q : mp_keep g f n) : mp_keep g' f n := fun j hj => (p j hj).trans (q j hj)
/-- rows of promises behind place o: each stands on an elder one -/
def mp_prmo (f : Nat → Int32) (o : Nat) (n : Int) : Prop := ∀ j : Nat, (j : Int) < n → -1 ≤ (f (o + 6 * j + 5)).toInt ∧ (f (o + 6 * j + 5)).toInt < (j : Int)
theorem mp_prmo_0 {f : Nat → Int32} {o : Nat} {n : Int} (h : n ≤ 0) : mp_prmo f o n := fun j hj => by omega
theorem mp_prmo_st {f g : Nat → Int32} {o : Nat} {n : Int} {i v : Int32} (h : g = upd f i.toNatClampNeg v) (p : mp_prmo f o n) (hi : o + 6 * n ≤ i.toInt) : mp_prmo g o n := by
  intro j hj
  have e : i.toNatClampNeg = i.toInt.toNat := rfl
  rw [h, e]
  simp only [upd]
  rw [if_neg (by omega)]
  exact p j hj
theorem mp_prmo_add {f : Nat → Int32} {o : Nat} {n n' : Int} {b : Int} (p : mp_prmo f o n) (h0 : 0 ≤ n) (x : b ≠ 0 ∨ (-1 ≤ (f (o + 6 * n.toNat + 5)).toInt ∧ (f (o + 6 * n.toNat + 5)).toInt < n)) (hn : n' = n + 1) : b ≠ 0 ∨ mp_prmo f o n' := by
  rcases x with x | x
  · exact Or.inl x
  · refine Or.inr (fun j hj => ?_)
    by_cases q : (j : Int) < n
    · exact p j q
    · have : j = n.toNat := by omega
      subst this
      omega
theorem mp_at_i {f : Nat → Int32} {i z : Int32} {N : Nat} (h : z = f i.toNatClampNeg) (hi : i.toInt = (N : Int)) : z.toInt = (f N).toInt := by
  have e : i.toNatClampNeg = N := by show i.toInt.toNat = N; omega
  rw [h, e]
theorem mp_st_i {f g : Nat → Int32} {i v : Int32} {N : Nat} (h : g = upd f i.toNatClampNeg v) (h0 : 0 ≤ i.toInt) : (i.toInt = (N : Int) ∧ (g N).toInt = v.toInt) ∨ (i.toInt ≠ (N : Int) ∧ (g N).toInt = (f N).toInt) := by
  have e : i.toNatClampNeg = i.toInt.toNat := rfl
  by_cases q : i.toInt = (N : Int)
  · refine Or.inl ⟨q, ?_⟩
    rw [h]; simp only [upd]; rw [if_pos (by omega)]
  · refine Or.inr ⟨q, ?_⟩
    rw [h]; simp only [upd]; rw [if_neg (by omega)]
theorem mp_or_good {b : Int} {p : Prop} (x : b ≠ 0 ∨ p) (h : b = 0) : p := by
  rcases x with x | x
  · exact absurd h x
  · exact x
theorem mp_prmo_eq {f : Nat → Int32} {o : Nat} {n n' : Int} (p : mp_prmo f o n) (h : n' = n) : mp_prmo f o n' := by rw [h]; exact p
theorem mp_st_eq {f g : Nat → Int32} {i v : Int32} {N : Nat} (h : g = upd f i.toNatClampNeg v) (hi : i.toInt = (N : Int)) : (g N).toInt = v.toInt := by
  have e : i.toNatClampNeg = N := by simp only [Int32.toNatClampNeg]; omega
  rw [h, e]; exact congrArg Int32.toInt (if_pos rfl)
theorem mp_st_ne {f g : Nat → Int32} {i v : Int32} {N : Nat} (h : g = upd f i.toNatClampNeg v) (hi : 0 ≤ i.toInt ∧ i.toInt ≠ (N : Int)) : (g N).toInt = (f N).toInt := by
  rw [h]; exact congrArg Int32.toInt (if_neg (fun q => hi.2 (by rw [q]; simp only [Int32.toNatClampNeg]; omega)))
-- exact answers of the reference, for the plan
abbrev mp_bitx (b k : Int32) : Prop := (b >>> (k &&& 31)) &&& 1 = 1
/-- dead in m: by the moon in which it dies (-1: none) -/
abbrev mp_deadx (d m : Int) : Prop := d ≠ -1 ∧ d ≤ m
abbrev mp_seax (a b s d m h1 h2 : Int) : Prop := a ≠ b ∧ 0 < s ∧ (d = -1 ∨ m < d) ∧ h1 = 0 ∧ h2 = 0
/-- the bits of those promises that are said on isle i in moon m: the first k of them -/
def mp_sdx (tr : Int32) (pr wh pe : Nat → Int32) (pl : Int) (i m : Int) : Nat → Int32
  | 0 => 0
  | k + 1 => mp_sdx tr pr wh pe pl i m k ||| (if mp_bitx tr (Int32.ofNat k) ∧ (wh (pr (6 * k + 1)).toInt.toNat).toInt = i ∧ ¬ mp_deadx (pe (3 * pl.toNat + 1)).toInt m ∧ ¬ mp_deadx (pe (3 * (pr (6 * k + 1)).toInt.toNat + 1)).toInt m then (1 : Int32) <<< (Int32.ofNat k &&& 31) else 0)
def mp_oncx (tr once sd : Int32) (d m : Int) : Int32 := if once &&& (sd ^^^ -1) ≠ 0 then -1 else if tr &&& (sd ^^^ -1) ≠ 0 ∧ d ≠ -1 ∧ d < m then -1 else tr &&& (sd ^^^ -1)
theorem mp_sdx_s {tr b b' z k : Int32} {pr wh pe : Nat → Int32} {pl i m : Int} {n n' : Nat} (x : b = mp_sdx tr pr wh pe pl i m n) (h : b' = b ||| z) (hk : k.toInt = (n : Int)) (hz : (mp_bitx tr k ∧ (wh (pr (6 * n + 1)).toInt.toNat).toInt = i ∧ ¬ mp_deadx (pe (3 * pl.toNat + 1)).toInt m ∧ ¬ mp_deadx (pe (3 * (pr (6 * n + 1)).toInt.toNat + 1)).toInt m) ∧ z = (1 : Int32) <<< (k &&& 31) ∨ ¬ (mp_bitx tr k ∧ (wh (pr (6 * n + 1)).toInt.toNat).toInt = i ∧ ¬ mp_deadx (pe (3 * pl.toNat + 1)).toInt m ∧ ¬ mp_deadx (pe (3 * (pr (6 * n + 1)).toInt.toNat + 1)).toInt m) ∧ z = 0) (hn : n' = n + 1) : b' = mp_sdx tr pr wh pe pl i m n' := by
  have ek : k = Int32.ofNat n := by
    have : n = k.toInt.toNat := by omega
    rw [this]
    exact (mp_ofnat (by omega)).symm
  rw [hn, h, x]
  show _ = mp_sdx tr pr wh pe pl i m n ||| _
  rw [← ek]
  rcases hz with ⟨c, e⟩ | ⟨c, e⟩
  · rw [if_pos c, e]
  · rw [if_neg c, e]
theorem mp_oncx_1 {tr once sd y z : Int32} {d m : Int} (hy : y = sd ^^^ -1) (hz : z = once &&& y) (c : z.toInt ≠ 0) : (-1 : Int32) = mp_oncx tr once sd d m := by
  unfold mp_oncx
  rw [← hy, ← hz, if_pos (fun q => c (by rw [q]; rfl))]
theorem mp_oncx_2 {tr once sd y z y2 r : Int32} {d m : Int} (hy : y = sd ^^^ -1) (hz : z = once &&& y) (c : z.toInt = 0) (hy2 : y2 = sd ^^^ -1) (hr : r = tr &&& y2) (cr : r.toInt = 0 ∨ d = -1 ∨ m ≤ d) : r = mp_oncx tr once sd d m := by
  unfold mp_oncx
  have e : z = 0 := Int32.toInt_inj.mp c
  rw [← hy, ← hz, if_neg (fun q => q e), hy, ← hy2, ← hr, if_neg ?_]
  rintro ⟨q1, q2, q3⟩
  rcases cr with q | q | q
  · exact q1 (Int32.toInt_inj.mp q)
  · exact q2 q
  · omega
theorem mp_oncx_3 {tr once sd y z y2 r : Int32} {d m : Int} (hy : y = sd ^^^ -1) (hz : z = once &&& y) (c : z.toInt = 0) (hy2 : y2 = sd ^^^ -1) (hr : r = tr &&& y2) (c1 : r.toInt ≠ 0) (c2 : d ≠ -1) (c3 : d < m) : (-1 : Int32) = mp_oncx tr once sd d m := by
  unfold mp_oncx
  have e : z = 0 := Int32.toInt_inj.mp c
  rw [← hy, ← hz, if_neg (fun q => q e), hy, ← hy2, ← hr, if_pos ⟨fun q => c1 (by rw [q]; rfl), c2, c3⟩]
-- the table of plans
/-- sea, isShut, person, promise, where, has; tracked; planner -/
abbrev mp_PX : Type := ((Nat → Int32) × (Nat → Int32) × (Nat → Int32) × (Nat → Int32) × (Nat → Int32) × (Nat → Int32)) × Int32 × Int
def mp_pd (c : mp_PX) : Int := (c.1.2.2.1 (3 * c.2.2.toNat + 1)).toInt
def mp_oarv (c : mp_PX) (i to m : Int) : Int := if i = to then 0 else if mp_seax i to (c.1.1 (6 * i.toNat + to.toNat)).toInt (mp_pd c) m (c.1.2.1 (100 * i.toNat + m.toNat)).toInt (c.1.2.1 (100 * to.toNat + m.toNat)).toInt then (c.1.1 (6 * i.toNat + to.toNat)).toInt else 1000000
def mp_sdv (c : mp_PX) (i m : Int) : Int32 := mp_sdx c.2.1 c.1.2.2.2.1 c.1.2.2.2.2.1 c.1.2.2.1 c.2.2 i m (c.1.2.2.2.2.2 3).toInt.toNat
def mp_oncv (c : mp_PX) (once : Int32) (i m : Int) : Int32 := mp_oncx c.2.1 once (mp_sdv c i m) (mp_pd c) m
def mp_resv (c : mp_PX) (i m : Int) : Int32 := c.2.1 &&& (mp_sdv c i m ^^^ -1)
theorem mp_oarv_of {c : mp_PX} {i to m r : Int} (x : (i = to ∧ r = 0) ∨ (i ≠ to ∧ mp_seax i to (c.1.1 (6 * i.toNat + to.toNat)).toInt (mp_pd c) m (c.1.2.1 (100 * i.toNat + m.toNat)).toInt (c.1.2.1 (100 * to.toNat + m.toNat)).toInt ∧ r = (c.1.1 (6 * i.toNat + to.toNat)).toInt) ∨ (i ≠ to ∧ ¬ mp_seax i to (c.1.1 (6 * i.toNat + to.toNat)).toInt (mp_pd c) m (c.1.2.1 (100 * i.toNat + m.toNat)).toInt (c.1.2.1 (100 * to.toNat + m.toNat)).toInt ∧ r = 1000000)) : r = mp_oarv c i to m := by
  unfold mp_oarv
  rcases x with ⟨a, b⟩ | ⟨a, b, d⟩ | ⟨a, b, d⟩
  · rw [if_pos a, b]
  · rw [if_neg a, if_pos b, d]
  · rw [if_neg a, if_neg b, d]
theorem mp_oarv_nn (c : mp_PX) (i to m : Int) : 0 ≤ mp_oarv c i to m := by
  unfold mp_oarv
  split
  · omega
  · split
    · rename_i h; exact Int.le_of_lt h.2.1
    · omega
theorem mp_oncv_val {c : mp_PX} {once : Int32} {i m : Int} (h : mp_oncv c once i m ≠ -1) : mp_oncv c once i m = mp_resv c i m := by
  unfold mp_oncv mp_oncx at h ⊢
  unfold mp_resv
  split at h
  · exact absurd rfl h
  · rename_i h1
    rw [if_neg h1]
    split at h
    · exact absurd rfl h
    · rename_i h2
      rw [if_neg h2]
def mp_stp (c : mp_PX) (mo : Int) (f : Nat → Int32) (n i : Nat) (once : Int32) (to : Nat) : Prop := mp_oarv c i to (mo + n + 1) < 1000000 ∧ mp_oncv c once to (mo + n + 1) ≠ -1 ∧ (f (6 * (n + 1) + to)).toInt + mp_oarv c i to (mo + n + 1) = (f (6 * n + i)).toInt
def mp_good (c : mp_PX) (mo N I : Int) (f : Nat → Int32) (n i : Nat) (once : Int32) : Prop := 0 ≤ (f (6 * n + i)).toInt ∧ (f (6 * n + i)).toInt ≤ 1000000 ∧ ((n : Int) < N → ((f (6 * n + i)).toInt < 1000000 → ∃ to : Nat, (to : Int) < I ∧ mp_stp c mo f n i once to) ∧ ∀ to : Nat, (to : Int) < I → mp_oarv c i to (mo + n + 1) < 1000000 → mp_oncv c once to (mo + n + 1) ≠ -1 → 0 ≤ (f (6 * (n + 1) + to)).toInt)
def mp_allg (c : mp_PX) (mo N I : Int) (f : Nat → Int32) (n : Nat) : Prop := ∀ m i : Nat, n ≤ m → (m : Int) ≤ N → i < 6 → 0 ≤ (f (6 * m + i)).toInt → mp_good c mo N I f m i (mp_resv c i (mo + m))
def mp_fr (f g : Nat → Int32) (n i : Nat) : Prop := (∀ j, j < 6 * n + 6 → j ≠ 6 * n + i → g j = f j) ∧ ∀ j, 6 * n + 6 ≤ j → 0 ≤ (f j).toInt → g j = f j
def mp_GP (c : mp_PX) (mo N I : Int) (f g : Nat → Int32) (n i : Nat) (once : Int32) : Prop := mp_good c mo N I g n i once ∧ mp_allg c mo N I g (n + 1) ∧ mp_fr f g n i
def mp_LG (c : mp_PX) (mo N I : Int) (f g : Nat → Int32) (n i : Nat) (once : Int32) (t : Int) : Prop := mp_allg c mo N I g (n + 1) ∧ (0 ≤ (g (6 * n + i)).toInt ∧ (g (6 * n + i)).toInt ≤ 1000000) ∧ ((g (6 * n + i)).toInt < 1000000 → ∃ to : Nat, (to : Int) < t ∧ (to : Int) < I ∧ mp_stp c mo g n i once to) ∧ (∀ to : Nat, (to : Int) < t → (to : Int) < I → mp_oarv c i to (mo + n + 1) < 1000000 → mp_oncv c once to (mo + n + 1) ≠ -1 → 0 ≤ (g (6 * (n + 1) + to)).toInt) ∧ mp_fr f g n i
theorem mp_stp_cong {c : mp_PX} {mo : Int} {f g : Nat → Int32} {n i : Nat} {once : Int32} {to : Nat} (h1 : g (6 * (n + 1) + to) = f (6 * (n + 1) + to)) (h2 : g (6 * n + i) = f (6 * n + i)) (h : mp_stp c mo f n i once to) : mp_stp c mo g n i once to := by
  unfold mp_stp at h ⊢
  rw [h1, h2]; exact h
theorem mp_good_cong {c : mp_PX} {mo N I : Int} {f g : Nat → Int32} {n i : Nat} {once : Int32} (he : ∀ j, 6 * n ≤ j → g j = f j) (h : mp_good c mo N I f n i once) : mp_good c mo N I g n i once := by
  unfold mp_good at h ⊢
  rw [he (6 * n + i) (by omega)]
  refine ⟨h.1, h.2.1, fun hn => ⟨fun hl => ?_, fun to h1 h2 h3 => ?_⟩⟩
  · obtain ⟨to, h1, h2⟩ := (h.2.2 hn).1 hl
    exact ⟨to, h1, mp_stp_cong (he _ (by omega)) (he _ (by omega)) h2⟩
  · rw [he _ (by omega)]; exact (h.2.2 hn).2 to h1 h2 h3
theorem mp_allg_cong {c : mp_PX} {mo N I : Int} {f g : Nat → Int32} {n : Nat} (he : ∀ j, 6 * n ≤ j → g j = f j) (h : mp_allg c mo N I f n) : mp_allg c mo N I g n := by
  intro m i h1 h2 h3 h4
  rw [he _ (by omega)] at h4
  exact mp_good_cong (fun j hj => he j (by omega)) (h m i h1 h2 h3 h4)
theorem mp_fr_st {f g g' : Nat → Int32} {n i : Nat} {k v : Int32} (p : mp_fr f g n i) (h : g' = upd g k.toNatClampNeg v) (hk : k.toInt = 6 * n + i) (hi : i < 6) : mp_fr f g' n i ∧ g' (6 * n + i) = v ∧ ∀ j, j ≠ 6 * n + i → g' j = g j := by
  have e : k.toNatClampNeg = 6 * n + i := by show k.toInt.toNat = _; omega
  have e1 : g' (6 * n + i) = v := by rw [h, e]; simp [upd]
  have e2 : ∀ j, j ≠ 6 * n + i → g' j = g j := fun j hj => by rw [h, e]; simp only [upd]; rw [if_neg hj]
  exact ⟨⟨fun j h1 h2 => (e2 j h2).trans (p.1 j h1 h2), fun j h1 h2 => (e2 j (by omega)).trans (p.2 j h1 h2)⟩, e1, e2⟩
theorem mp_fr_rfl {f : Nat → Int32} {n i : Nat} : mp_fr f f n i := ⟨fun _ _ _ => rfl, fun _ _ _ => rfl⟩
theorem mp_LG_0 {c : mp_PX} {mo N I : Int} {f g : Nat → Int32} {n i : Nat} {once k v : Int32} {t : Int} (p : mp_allg c mo N I f (n + 1)) (h : g = upd f k.toNatClampNeg v) (hk : k.toInt = 6 * n + i) (hi : i < 6) (hv : v.toInt = 1000000) (ht : t = 0) : mp_LG c mo N I f g n i once t := by
  obtain ⟨a, b, d⟩ := mp_fr_st mp_fr_rfl h hk hi
  refine ⟨mp_allg_cong (fun j hj => d j (by omega)) p, by rw [b]; omega, fun q => ?_, fun to h1 => by omega, a⟩
  rw [b] at q; omega
theorem mp_LG_mono {c : mp_PX} {mo N I : Int} {f g : Nat → Int32} {n i : Nat} {once : Int32} {t t' : Int} (p : mp_LG c mo N I f g n i once t) (ht : t' = t + 1) (hs : ∀ to : Nat, (to : Int) = t → (to : Int) < I → mp_oarv c i to (mo + n + 1) < 1000000 → mp_oncv c once to (mo + n + 1) ≠ -1 → 0 ≤ (g (6 * (n + 1) + to)).toInt) : mp_LG c mo N I f g n i once t' := by
  obtain ⟨p1, p2, p3, p4, p5⟩ := p
  refine ⟨p1, p2, fun q => ?_, fun to h1 h2 h3 h4 => ?_, p5⟩
  · obtain ⟨to, h1, h2, h3⟩ := p3 q
    exact ⟨to, by omega, h2, h3⟩
  · by_cases q : (to : Int) < t
    · exact p4 to q h2 h3 h4
    · exact hs to (by omega) h2 h3 h4
theorem mp_LG_rec {c : mp_PX} {mo N I : Int} {f g g' : Nat → Int32} {n i t : Nat} {once then_ : Int32} {T : Int} (p : mp_LG c mo N I f g n i once T) (q : mp_GP c mo N I g g' (n + 1) t then_) (hT : T = t) (ht : t < 6) (hi : i < 6) (hthen : then_ = mp_resv c t (mo + n + 1)) (hneg : (g (6 * (n + 1) + t)).toInt < 0) : mp_LG c mo N I f g' n i once T ∧ 0 ≤ (g' (6 * (n + 1) + t)).toInt ∧ (g' (6 * (n + 1) + t)).toInt ≤ 1000000 := by
  obtain ⟨p1, p2, p3, p4, p5⟩ := p
  obtain ⟨q1, q2, q3⟩ := q
  have e0 : g' (6 * n + i) = g (6 * n + i) := q3.1 _ (by omega) (by omega)
  have eL : ∀ to : Nat, 0 ≤ (g (6 * (n + 1) + to)).toInt → g' (6 * (n + 1) + to) = g (6 * (n + 1) + to) := by
    intro to h
    by_cases h6 : to < 6
    · exact q3.1 _ (by omega) (fun e => by
        have : to = t := by omega
        subst this; omega)
    · exact q3.2 _ (by omega) h
  refine ⟨⟨?_, by rw [e0]; exact p2, ?_, ?_, ?_⟩, q1.1, q1.2.1⟩
  · intro m j h1 h2 h3 h4
    by_cases hm : m = n + 1
    · subst hm
      by_cases hj : j = t
      · subst hj
        have e : mp_resv c j (mo + ((n + 1 : Nat) : Int)) = then_ := by rw [hthen]; congr 1; omega
        rw [e]; exact q1
      · have ej : g' (6 * (n + 1) + j) = g (6 * (n + 1) + j) := q3.1 _ (by omega) (by omega)
        rw [ej] at h4
        have hg := p1 (n + 1) j (Nat.le_refl _) h2 h3 h4
        unfold mp_good at hg ⊢
        rw [ej]
        refine ⟨hg.1, hg.2.1, fun hn => ?_⟩
        have hb := (hg.2.2 hn).2
        have ek : ∀ to : Nat, 0 ≤ (g (6 * (n + 1 + 1) + to)).toInt → g' (6 * (n + 1 + 1) + to) = g (6 * (n + 1 + 1) + to) := fun to h => q3.2 _ (by omega) h
        refine ⟨fun hl => ?_, fun to a1 a2 a3 => ?_⟩
        · obtain ⟨to, a1, a2⟩ := (hg.2.2 hn).1 hl
          exact ⟨to, a1, mp_stp_cong (ek to (hb to a1 a2.1 a2.2.1)) ej a2⟩
        · rw [ek to (hb to a1 a2 a3)]; exact hb to a1 a2 a3
    · exact q2 m j (by omega) h2 h3 h4
  · intro hl
    rw [e0] at hl
    obtain ⟨to, a1, a2, a3⟩ := p3 hl
    exact ⟨to, a1, a2, mp_stp_cong (eL to (p4 to a1 a2 a3.1 a3.2.1)) e0 a3⟩
  · intro to a1 a2 a3 a4
    rw [eL to (p4 to a1 a2 a3 a4)]; exact p4 to a1 a2 a3 a4
  · refine ⟨fun j h1 h2 => ?_, fun j h1 h2 => ?_⟩
    · rw [q3.1 j (by omega) (by omega)]; exact p5.1 j h1 h2
    · have e1 := p5.2 j h1 h2
      by_cases hj : j < 6 * (n + 1) + 6
      · rw [q3.1 j hj (fun e => by subst e; rw [e1] at hneg; omega)]; exact e1
      · rw [q3.2 j (by omega) (by rw [e1]; exact h2)]; exact e1
theorem mp_LG_bd {c : mp_PX} {mo N I : Int} {f g : Nat → Int32} {n i t : Nat} {once : Int32} {T : Int} (p : mp_LG c mo N I f g n i once T) (hN : ((n : Int) + 1) ≤ N) (ht : t < 6) (h : 0 ≤ (g (6 * (n + 1) + t)).toInt) : (g (6 * (n + 1) + t)).toInt ≤ 1000000 := (p.1 (n + 1) t (Nat.le_refl _) (by omega) ht h).2.1
theorem mp_LG_min {c : mp_PX} {mo N I : Int} {f g g' : Nat → Int32} {n i t : Nat} {once k v : Int32} {T T' : Int} (p : mp_LG c mo N I f g n i once T) (h : g' = upd g k.toNatClampNeg v) (hk : k.toInt = 6 * n + i) (hi : i < 6) (hT : T = t) (hT' : T' = T + 1) (htI : (t : Int) < I) (h0 : 0 ≤ (g (6 * (n + 1) + t)).toInt) (ho : mp_oarv c i t (mo + n + 1) < 1000000) (hc : mp_oncv c once t (mo + n + 1) ≠ -1) (hv : v.toInt = (g (6 * (n + 1) + t)).toInt + mp_oarv c i t (mo + n + 1)) (hl : v.toInt < (g (6 * n + i)).toInt) : mp_LG c mo N I f g' n i once T' := by
  obtain ⟨p1, p2, p3, p4, p5⟩ := p
  obtain ⟨a, b, d⟩ := mp_fr_st p5 h hk hi
  have hnn := mp_oarv_nn c i t (mo + n + 1)
  have eL : ∀ to : Nat, g' (6 * (n + 1) + to) = g (6 * (n + 1) + to) := fun to => d _ (by omega)
  refine ⟨mp_allg_cong (fun j hj => d j (by omega)) p1, by rw [b]; omega, fun _ => ⟨t, by omega, htI, ho, hc, ?_⟩, fun to a1 a2 a3 a4 => ?_, a⟩
  · rw [eL, b]; omega
  · rw [eL]
    by_cases q : (to : Int) < T
    · exact p4 to q a2 a3 a4
    · have : to = t := by omega
      subst this; exact h0
theorem mp_LG_end {c : mp_PX} {mo N I : Int} {f g : Nat → Int32} {n i : Nat} {once : Int32} {T : Int} (p : mp_LG c mo N I f g n i once T) (hI : I ≤ T) : mp_GP c mo N I f g n i once := by
  obtain ⟨p1, p2, p3, p4, p5⟩ := p
  refine ⟨⟨p2.1, p2.2, fun _ => ⟨fun hl => ?_, fun to h1 h2 h3 => p4 to (by omega) h1 h2 h3⟩⟩, p1, p5⟩
  obtain ⟨to, _, h2, h3⟩ := p3 hl
  exact ⟨to, h2, h3⟩
theorem mp_GP_last {c : mp_PX} {mo N I : Int} {f g g' : Nat → Int32} {n i : Nat} {once k k' v v' : Int32} (p : mp_allg c mo N I f (n + 1)) (h : g = upd f k.toNatClampNeg v) (hk : k.toInt = 6 * n + i) (h' : g' = upd g k'.toNatClampNeg v') (hk' : k'.toInt = 6 * n + i) (hi : i < 6) (hv : v'.toInt = 0) (hN : N = n) : mp_GP c mo N I f g' n i once := by
  obtain ⟨a, b, d⟩ := mp_fr_st mp_fr_rfl h hk hi
  obtain ⟨a', b', d'⟩ := mp_fr_st a h' hk' hi
  refine ⟨⟨by rw [b']; omega, by rw [b']; omega, fun hn => by omega⟩, mp_allg_cong (fun j hj => (d' j (by omega)).trans (d j (by omega))) p, a'⟩
theorem mp_LG_skip {c : mp_PX} {mo N I : Int} {f g : Nat → Int32} {n i : Nat} {once : Int32} {t t' : Int} {T : Nat} (p : mp_LG c mo N I f g n i once t) (hT : t = T) (ht : t' = t + 1) (hs : ¬ (mp_oarv c i T (mo + n + 1) < 1000000 ∧ mp_oncv c once T (mo + n + 1) ≠ -1)) : mp_LG c mo N I f g n i once t' :=
  mp_LG_mono p ht (fun to h1 _ h3 h4 => by
    have : to = T := by omega
    subst this; exact absurd ⟨h3, h4⟩ hs)
theorem mp_LG_next {c : mp_PX} {mo N I : Int} {f g : Nat → Int32} {n i : Nat} {once : Int32} {t t' : Int} {T : Nat} (p : mp_LG c mo N I f g n i once t) (hT : t = T) (ht : t' = t + 1) (h0 : 0 ≤ (g (6 * (n + 1) + T)).toInt) : mp_LG c mo N I f g n i once t' :=
  mp_LG_mono p ht (fun to h1 _ _ _ => by
    have : to = T := by omega
    subst this; exact h0)
/-- the walk along the table: at step k on isle i, what is owed there -/
def mp_PW (c : mp_PX) (mo N I : Int) (f : Nat → Int32) (k i : Nat) (once : Int32) : Prop := mp_good c mo N I f k i once ∧ mp_allg c mo N I f (k + 1) ∧ (f (6 * k + i)).toInt < 1000000 ∧ i < 6
theorem mp_PW_ex {c : mp_PX} {mo N I : Int} {f : Nat → Int32} {k i : Nat} {once : Int32} (p : mp_PW c mo N I f k i once) (hk : (k : Int) < N) : ∃ to : Nat, (to : Int) < I ∧ mp_stp c mo f k i once to := (p.1.2.2 hk).1 p.2.2.1
theorem mp_PW_s {c : mp_PX} {mo N I : Int} {f : Nat → Int32} {k i to : Nat} {once once' : Int32} (p : mp_PW c mo N I f k i once) (hk : (k : Int) < N) (hI : (to : Int) < I) (h6 : to < 6) (hs : mp_stp c mo f k i once to) (ho : once' = mp_oncv c once to (mo + k + 1)) : mp_PW c mo N I f (k + 1) to once' := by
  obtain ⟨p1, p2, p3, p4⟩ := p
  have hv := (p1.2.2 hk).2 to hI hs.1 hs.2.1
  have hnn := mp_oarv_nn c i to (mo + k + 1)
  have e := mp_oncv_val hs.2.1
  have hg := p2 (k + 1) to (Nat.le_refl _) (by omega) h6 hv
  have e2 : mp_resv c to (mo + ((k + 1 : Nat) : Int)) = once' := by rw [ho, e]; congr 1; omega
  rw [e2] at hg
  refine ⟨hg, fun m j h1 => p2 m j (by omega), ?_, h6⟩
  have := hs.2.2
  omega
theorem mp_allg_none {c : mp_PX} {mo N I : Int} {f : Nat → Int32} {n : Nat} (h : ∀ j, j < 78 → (f j).toInt = -1) (hN : N ≤ 12) : mp_allg c mo N I f n := by
  intro m i h1 h2 h3 h4
  have := h (6 * m + i) (by omega)
  omega
theorem mp_LG_allg {c : mp_PX} {mo N I : Int} {f g : Nat → Int32} {n i m : Nat} {once : Int32} {t : Int} (p : mp_LG c mo N I f g n i once t) (h : n + 1 ≤ m) : mp_allg c mo N I g m := fun a b h1 => p.1 a b (by omega)
theorem mp_lowbit {x o y z : Int32} (h : y = x - o) (h2 : z = x &&& y) (ho : o = 1 := by rfl) : x.toInt = 0 ∨ (z.toUInt32.toNat : Int) < (x.toUInt32.toNat : Int) := by
  by_cases q : x.toUInt32.toNat = 0
  · left
    have : x = 0 := by
      have h3 : x.toUInt32 = 0 := UInt32.toNat_inj.mp q
      cases x with | ofUInt32 u => exact congrArg Int32.ofUInt32 h3
    rw [this]; rfl
  · right
    subst ho
    have e1 : y.toUInt32.toNat = x.toUInt32.toNat - 1 := by
      have hl : x.toUInt32.toNat < 2 ^ 32 := x.toUInt32.toNat_lt
      have : y.toUInt32 = x.toUInt32 - 1 := by rw [h]; rfl
      rw [this, UInt32.toNat_sub]
      have h1 : (1 : UInt32).toNat = 1 := rfl
      rw [h1]
      omega
    have e2 : z.toUInt32.toNat = x.toUInt32.toNat &&& y.toUInt32.toNat := by
      have : z.toUInt32 = x.toUInt32 &&& y.toUInt32 := by rw [h2]; rfl
      rw [this, UInt32.toNat_and]
    have e3 : x.toUInt32.toNat &&& y.toUInt32.toNat ≤ y.toUInt32.toNat := Nat.and_le_right
    omega
theorem mp_shl10 {o k z : Int32} (h : z = o <<< (k &&& 31)) (h0 : 0 ≤ k.toInt) (h1 : k.toInt ≤ 9) (ho : o = 1 := by rfl) : 1 ≤ z.toInt ∧ z.toInt ≤ 512 := by
  subst ho
  have key : ∀ n : Fin 10, 1 ≤ ((1 : Int32) <<< ((Int32.ofNat n.1) &&& 31)).toInt ∧ ((1 : Int32) <<< ((Int32.ofNat n.1) &&& 31)).toInt ≤ 512 := by decide
  have e : k = Int32.ofNat k.toInt.toNat := (mp_ofnat (by omega)).symm
  have := key ⟨k.toInt.toNat, by omega⟩
  rw [h, e]
  exact this
theorem mp_or10 {x y z : Int32} (h : z = x ||| y) (a : 0 ≤ x.toInt ∧ x.toInt ≤ 1023) (b : 0 ≤ y.toInt ∧ y.toInt ≤ 1023) : 0 ≤ z.toInt ∧ z.toInt ≤ 1023 := by
  have t : ∀ v : Int32, 0 ≤ v.toInt → v.toInt = (v.toUInt32.toNat : Int) := by
    intro v hv
    have h1 : v.toInt = v.toBitVec.toInt := rfl
    have h2 : v.toUInt32.toNat = v.toBitVec.toNat := rfl
    rw [h1] at hv ⊢
    rw [h2]
    have := BitVec.toInt_eq_toNat_cond v.toBitVec
    have hl := v.toBitVec.isLt
    split at this <;> omega
  have e2 : z.toUInt32.toNat = x.toUInt32.toNat ||| y.toUInt32.toNat := by
    have : z.toUInt32 = x.toUInt32 ||| y.toUInt32 := by rw [h]; rfl
    rw [this, UInt32.toNat_or]
  have hx := t x a.1; have hy := t y b.1
  have e3 : x.toUInt32.toNat ||| y.toUInt32.toNat < 2 ^ 10 := Nat.or_lt_two_pow (by omega) (by omega)
  have hz : z.toInt = (z.toUInt32.toNat : Int) := by
    have h1 : z.toInt = z.toBitVec.toInt := rfl
    have h2 : z.toUInt32.toNat = z.toBitVec.toNat := rfl
    have := BitVec.toInt_eq_toNat_cond z.toBitVec
    split at this <;> omega
  omega
def mp_wn (f : Nat → Int64) (slot n said : Int) : Prop := ∀ j : Nat, (j : Int) % 2 = 0 → (j : Int) < n → said ≤ (f (60 * slot.toNat + j)).toInt ∧ (f (60 * slot.toNat + j)).toInt ≤ said + 10
theorem mp_wn_0 {f : Nat → Int64} {slot n said : Int} (h : n ≤ 0) : mp_wn f slot n said := fun j _ hj => by omega
theorem mp_wn_le {f : Nat → Int64} {slot n m said : Int} (p : mp_wn f slot m said) (h : n ≤ m) : mp_wn f slot n said := fun j q hj => p j q (by omega)
theorem mp_wn_ld {f : Nat → Int64} {slot n i said : Int} {z : Int64} {k : Int32} (p : mp_wn f slot n said) (h : z = f k.toNatClampNeg) (hk : k.toInt = 60 * slot + i) (h0 : 0 ≤ slot) (hi : 0 ≤ i) (hin : i < n) (hp : i % 2 = 0) : said ≤ z.toInt ∧ z.toInt ≤ said + 10 := by
  have e : k.toNatClampNeg = 60 * slot.toNat + i.toNat := by simp only [Int32.toNatClampNeg]; omega
  rw [h, e]
  exact p i.toNat (by omega) (by omega)
theorem mp_wn_s {f : Nat → Int64} {slot n i said : Int} {z : Int64} {k : Int32} (p : mp_wn f slot i said) (h : z = f k.toNatClampNeg) (hk : k.toInt = 60 * slot + i) (h0 : 0 ≤ slot) (hi : 0 ≤ i) (hz : said ≤ z.toInt ∧ z.toInt ≤ said + 10) (hn : n = i + 2) (hp : i % 2 = 0) : mp_wn f slot n said := by
  intro j q hj
  by_cases e : (j : Int) < i
  · exact p j q e
  · have : j = i.toNat := by omega
    have e2 : k.toNatClampNeg = 60 * slot.toNat + i.toNat := by simp only [Int32.toNatClampNeg]; omega
    rw [this, ← e2, ← h]
    exact hz
theorem mp_m1_0 {f : Nat → Int32} {n : Int} (h : n ≤ 0) : ∀ j : Nat, (j : Int) < n → (f j).toInt = -1 := fun j hj => by omega
theorem mp_m1_s {f g : Nat → Int32} {n m : Int} {k v : Int32} (p : ∀ j : Nat, (j : Int) < n → (f j).toInt = -1) (h : g = upd f k.toNatClampNeg v) (hk : 0 ≤ k.toInt ∧ m = n + 1 := by omega) (hn : k.toInt = n := by omega) (hv : v.toInt = -1 := by decide) : ∀ j : Nat, (j : Int) < m → (g j).toInt = -1 := by
  intro j hj
  by_cases e : (j : Int) < n
  · have : j ≠ k.toNatClampNeg := by simp only [Int32.toNatClampNeg]; omega
    rw [h]
    simp only [upd, if_neg this]
    exact p j e
  · have : j = k.toNatClampNeg := by simp only [Int32.toNatClampNeg]; omega
    rw [h, this]
    simp only [upd, if_pos]
    exact hv
theorem mp_GP_0 {c : mp_PX} {mo N I : Int} {f g : Nat → Int32} {n i w : Nat} {once : Int32} (p : mp_GP c mo N I f g n i once) (hn : n = 0) (hi : i = w) : mp_good c mo N I g 0 w once ∧ mp_allg c mo N I g 1 := by
  subst hn hi
  exact ⟨p.1, p.2.1⟩
theorem mp_PW_0 {c : mp_PX} {mo N I r : Int} {f : Nat → Int32} {i j k : Nat} {o o' : Int32} (hg : mp_good c mo N I f 0 i o) (ha : mp_allg c mo N I f 1) (ho : o' = o) (hr : r = (f i).toInt) (hl : r < 1000000) (hi : i < 6) (hj : j = i) (hk : k = 0) : mp_PW c mo N I f k j o' := by
  subst hk hj ho
  refine ⟨hg, ha, ?_, hi⟩
  rw [Nat.mul_zero, Nat.zero_add]
  omega
theorem mp_PW_to {c : mp_PX} {mo N I to : Int} {f : Nat → Int32} {k i : Nat} {once : Int32} (p : mp_PW c mo N I f k i once) (hk : (k : Int) < N) (x : ∀ t : Nat, (t : Int) < to → ¬ mp_stp c mo f k i once t) : to < I := by
  obtain ⟨t, h1, h2⟩ := mp_PW_ex p hk
  by_cases q : (t : Int) < to
  · exact absurd h2 (x t q)
  · omega
theorem mp_PW_bd {c : mp_PX} {mo N I : Int} {f : Nat → Int32} {k i to : Nat} {once : Int32} (p : mp_PW c mo N I f k i once) (hk : (k : Int) < N) (hI : (to : Int) < I) (h6 : to < 6) (ho : mp_oarv c i to (mo + k + 1) < 1000000) (hc : mp_oncv c once to (mo + k + 1) ≠ -1) : 0 ≤ (f (6 * (k + 1) + to)).toInt ∧ (f (6 * (k + 1) + to)).toInt ≤ 1000000 := by
  have hv := (p.1.2.2 hk).2 to hI ho hc
  have hg := p.2.1 (k + 1) to (Nat.le_refl _) (by omega) h6 hv
  exact ⟨hg.1, hg.2.1⟩
theorem mp_PW_s2 {c : mp_PX} {mo N I : Int} {f : Nat → Int32} {k k' i to : Nat} {once once' : Int32} (p : mp_PW c mo N I f k i once) (hs : mp_stp c mo f k i once to) (ho : once' = mp_oncv c once to (mo + k + 1)) (hk : (k : Int) < N) (hI : (to : Int) < I) (h6 : to < 6) (hk' : k' = k + 1) : mp_PW c mo N I f k' to once' := by
  subst hk'
  exact mp_PW_s p hk hI h6 hs ho
theorem mp_nst_s {P : Nat → Prop} {to to' : Int} (p : ∀ t : Nat, (t : Int) < to → ¬ P t) (h : ¬ P to.toNat) (h0 : 0 ≤ to) (hto : to' = to + 1) : ∀ t : Nat, (t : Int) < to' → ¬ P t := by
  intro t ht
  by_cases q : (t : Int) < to
  · exact p t q
  · have : t = to.toNat := by omega
    rw [this]; exact h
def mp_keept (g f : Nat → Int32) (n : Nat) : Prop := ∀ j : Nat, n ≤ j → g j = f j
theorem mp_keept_rfl {f : Nat → Int32} {n : Nat} : mp_keept f f n := fun _ _ => rfl
theorem mp_keept_st {f g g' : Nat → Int32} {n : Nat} {i v : Int32} (h : g' = upd g i.toNatClampNeg v) (p : mp_keept g f n) (hi : i.toInt < (n : Int)) (hn : 0 < n := by decide) : mp_keept g' f n := by
  intro j hj
  have : (if j = i.toNatClampNeg then v else g j) = g j := if_neg (by simp only [Int32.toNatClampNeg]; omega)
  rw [h]
  exact this.trans (p j hj)
theorem mp_keept_trans {f g g' : Nat → Int32} {n : Nat} (p : mp_keept g' g n) (q : mp_keept g f n) : mp_keept g' f n := fun j hj => (p j hj).trans (q j hj)
theorem mp_kept_st {f g : Nat → Int32} {i v : Int32} (h : g = upd f i.toNatClampNeg (vp_nar .boolean v)) (hv : 0 ≤ i.toInt ∧ (vp_nar .boolean v).toInt = 1) : ∀ j : Nat, j < 3 → (g j).toInt = if (j : Int) = i.toInt then 1 else (f j).toInt := by
  intro j _
  rw [h]
  by_cases e : (j : Int) = i.toInt
  · have : j = i.toNatClampNeg := by simp only [Int32.toNatClampNeg]; omega
    rw [if_pos e]
    simp only [upd, if_pos this]
    exact hv.2
  · have : j ≠ i.toNatClampNeg := by simp only [Int32.toNatClampNeg]; omega
    rw [if_neg e]
    simp only [upd, if_neg this]
theorem mp_upd_ne {f g : Nat → Int32} {i v : Int32} (h : g = upd f i.toNatClampNeg v) {j : Nat} (hj : (j : Int) < i.toInt) : g j = f j := by
  rw [h]
  exact if_neg (by simp only [Int32.toNatClampNeg]; omega)
theorem mp_prm_add {f g1 g2 g3 g4 g5 g6 : Nat → Int32} {i1 i2 i3 i4 i5 i6 v1 v2 v3 v4 v5 v6 : Int32} {n n' : Int} (p : mp_prm f n) (h1 : g1 = upd f i1.toNatClampNeg v1) (h2 : g2 = upd g1 i2.toNatClampNeg v2) (h3 : g3 = upd g2 i3.toNatClampNeg v3) (h4 : g4 = upd g3 i4.toNatClampNeg v4) (h5 : g5 = upd g4 i5.toNatClampNeg v5) (h6 : g6 = upd g5 i6.toNatClampNeg v6) (hk : 0 ≤ n ∧ 6 * n ≤ i1.toInt ∧ 6 * n ≤ i2.toInt ∧ 6 * n ≤ i3.toInt ∧ 6 * n ≤ i4.toInt ∧ 6 * n ≤ i5.toInt ∧ i6.toInt = 6 * n + 5) (hv : v6.toInt = -1) (hn : n' = n + 1) : mp_prm g6 n' := by
  intro j hj
  by_cases q : (j : Int) < n
  · have e : g6 (6 * j + 5) = f (6 * j + 5) := by
      rw [mp_upd_ne h6 (by omega), mp_upd_ne h5 (by omega), mp_upd_ne h4 (by omega), mp_upd_ne h3 (by omega), mp_upd_ne h2 (by omega), mp_upd_ne h1 (by omega)]
    rw [e]
    exact p j q
  · have e : 6 * j + 5 = i6.toNatClampNeg := by simp only [Int32.toNatClampNeg]; omega
    have e2 : g6 (6 * j + 5) = v6 := by rw [h6, e]; exact if_pos rfl
    rw [e2]
    omega
-- own halvings, exactly; what is owed now
def mp_ownr (ag : Nat → Int32) (k : Nat) (S D R m r : Int) : Prop := (m < S ∧ r = -1) ∨ (S ≤ m ∧ ∃ l : Nat, S ≤ (l : Int) ∧ (l : Int) ≤ m ∧ (∀ j : Nat, l < j → (j : Int) ≤ m → (ag (150 * k + j)).toInt = 0) ∧ (S < (l : Int) → (ag (150 * k + l)).toInt ≠ 0) ∧ r = m - l + (if (l : Int) = S ∧ (ag (150 * k + l)).toInt = 0 then R else 0) + (if D ≠ -1 ∧ D < m then m - D else 0))
theorem mp_ownr_u {ag : Nat → Int32} {k : Nat} {S D R m r1 r2 : Int} (h1 : mp_ownr ag k S D R m r1) (h2 : mp_ownr ag k S D R m r2) : r1 = r2 := by
  rcases h1 with ⟨a1, a2⟩ | ⟨a1, l1, a2, a3, a4, a5, a6⟩ <;> rcases h2 with ⟨b1, b2⟩ | ⟨b1, l2, b2, b3, b4, b5, b6⟩
  · omega
  · omega
  · omega
  · have e : l1 = l2 := by
      rcases Nat.lt_trichotomy l1 l2 with q | q | q
      · exact absurd (a4 l2 q b3) (b5 (by omega))
      · exact q
      · exact absurd (b4 l1 q a3) (a5 (by omega))
    subst e
    rw [a6, b6]
theorem mp_own_0 {ag : Nat → Int32} {k : Nat} {l m : Int} (h : m ≤ l) : ∀ j : Nat, l < (j : Int) → (j : Int) ≤ m → (ag (150 * k + j)).toInt = 0 := fun j h1 h2 => by omega
theorem mp_own_s {ag : Nat → Int32} {k : Nat} {l l' m : Int} (p : ∀ j : Nat, l < (j : Int) → (j : Int) ≤ m → (ag (150 * k + j)).toInt = 0) (hz : (ag (150 * k + l.toNat)).toInt = 0) (h0 : 0 ≤ l) (hl : l' = l - 1) : ∀ j : Nat, l' < (j : Int) → (j : Int) ≤ m → (ag (150 * k + j)).toInt = 0 := by
  intro j h1 h2
  by_cases q : l < (j : Int)
  · exact p j q h2
  · have : j = l.toNat := by omega
    rw [this]; exact hz
theorem mp_own_e {ag : Nat → Int32} {k : Nat} {S D R m r l a b : Int} (p : ∀ j : Nat, l < (j : Int) → (j : Int) ≤ m → (ag (150 * k + j)).toInt = 0) (h0 : 0 ≤ l) (h1 : S ≤ l) (h2 : l ≤ m) (h3 : S < l → (ag (150 * k + l.toNat)).toInt ≠ 0) (ha : (l = S ∧ (ag (150 * k + l.toNat)).toInt = 0 ∧ a = R) ∨ (¬ (l = S ∧ (ag (150 * k + l.toNat)).toInt = 0) ∧ a = 0)) (hb : (D ≠ -1 ∧ D < m ∧ b = m - D) ∨ (¬ (D ≠ -1 ∧ D < m) ∧ b = 0)) (hr : r = m - l + a + b) : mp_ownr ag k S D R m r := by
  have e : ((l.toNat : Nat) : Int) = l := by omega
  refine Or.inr ⟨by omega, l.toNat, by omega, by omega, fun j q1 q2 => p j (by omega) q2, fun q => h3 (by omega), ?_⟩
  rw [e, hr]
  congr 1
  · congr 1
    rcases ha with ⟨q1, q2, q3⟩ | ⟨q1, q2⟩
    · rw [if_pos ⟨q1, q2⟩, q3]
    · rw [if_neg q1, q2]
  · rcases hb with ⟨q1, q2, q3⟩ | ⟨q1, q2⟩
    · rw [if_pos ⟨q1, q2⟩, q3]
    · rw [if_neg q1, q2]
/-- a promise has one own halving now -/
def mp_one (ag pr pe : Nat → Int32) (m : Int) (k : Nat) : Prop := ∃ r : Int, r = 1 ∧ mp_ownr ag k (pr (6 * k + 3)).toInt (pe (3 * (pr (6 * k + 0)).toInt.toNat + 1)).toInt (pr (6 * k + 4)).toInt m r
noncomputable def mp_onw (tr : Int32) (ag pr pe : Nat → Int32) (m : Int) : Nat → Int32
  | 0 => 0
  | k + 1 => mp_onw tr ag pr pe m k ||| (@ite _ (mp_bitx tr (Int32.ofNat k) ∧ mp_one ag pr pe m k) (Classical.propDecidable _) ((1 : Int32) <<< (Int32.ofNat k &&& 31)) 0)
theorem mp_onw_s {tr b b' z k : Int32} {ag pr pe : Nat → Int32} {m : Int} {n n' : Nat} (x : b = mp_onw tr ag pr pe m n) (h : b' = b ||| z) (hk : k.toInt = (n : Int)) (hz : (mp_bitx tr k ∧ mp_one ag pr pe m n) ∧ z = (1 : Int32) <<< (k &&& 31) ∨ ¬ (mp_bitx tr k ∧ mp_one ag pr pe m n) ∧ z = 0) (hn : n' = n + 1) : b' = mp_onw tr ag pr pe m n' := by
  have ek : k = Int32.ofNat n := by
    have : n = k.toInt.toNat := by omega
    rw [this]
    exact (mp_ofnat (by omega)).symm
  rw [hn, h, x]
  show _ = mp_onw tr ag pr pe m n ||| _
  rw [← ek]
  rcases hz with ⟨c, e⟩ | ⟨c, e⟩
  · rw [if_pos c, e]
  · rw [if_neg c, e]
theorem mp_one_t {ag pr pe : Nat → Int32} {m r : Int} {k : Nat} (h : mp_ownr ag k (pr (6 * k + 3)).toInt (pe (3 * (pr (6 * k + 0)).toInt.toNat + 1)).toInt (pr (6 * k + 4)).toInt m r) (h1 : r = 1) : mp_one ag pr pe m k := ⟨r, h1, h⟩
theorem mp_one_f {ag pr pe : Nat → Int32} {m r : Int} {k : Nat} (h : mp_ownr ag k (pr (6 * k + 3)).toInt (pe (3 * (pr (6 * k + 0)).toInt.toNat + 1)).toInt (pr (6 * k + 4)).toInt m r) (h1 : r ≠ 1) : ¬ mp_one ag pr pe m k := fun ⟨r2, h2, h3⟩ => h1 ((mp_ownr_u h h3).trans h2)
-- string constants of the pool
section MPSTR
variable {E : mp_E} {X : mp_X} {M : mp_M} {pc : Nat} {lv : List (Nat × Value)} {rest : List Value} {ws : va_W} {k n : Nat}
theorem mp_FS (hF : mp_F E X M) : mp_S E X.2.2.2.1 X.2.1.1 := hF.2.2.2.2.2.2.2.2.2.2.2.2
theorem mp_ldcS (hF : mp_F E X M) (i : Nat) {q : String × Nat × String × Nat} (hq : mp_strs[i]? = some q) (ho : q.1 = M.1) (hdg : decode M.2.1 pc = .ok (.ldc q.2.1, 2)) (kk : mp_W E X M.2.2.1 (pc + 2) lv (.ref (E.1.2.1 q.2.2.2) :: rest) ws k n) : mp_W E X M.2.2.1 pc lv rest ws k n := by
  intro H locs ls hP hD hS hl
  have hZ := (mp_FS hF).2.1 q (List.mem_of_getElem? hq)
  obtain ⟨hx, hb, hml, hown, hts, hK, hA, hlk, hR, hrt, hin, hN⟩ := hF
  exact va_ldcS hx hb (by rw [ho]; exact hown) hZ hdg (kk H locs ls hP hD hS hl)
theorem mp_sval (hF : mp_F E X M) {i idx : Nat} (hi : i < 14) (hm : Jvm.Cond.fieldLink M.1 idx "java/lang/String" "value" "[B" ∈ mp_UT) (hdg : decode M.2.1 pc = .ok (.getfield idx, 3)) (kk : mp_W E X M.2.2.1 (pc + 3) lv (.ref (E.1.2.2 i) :: rest) ws k n) : mp_W E X M.2.2.1 pc lv (.ref (E.1.2.1 i) :: rest) ws k n := by
  intro H locs ls hP hD hS hl
  have hZ := ((mp_FS hF).1.1 i hi).2.2.1
  obtain ⟨hx, hb, hml, hown, hts, hK, hA, hlk, hR, hrt, hin, hN⟩ := hF
  exact vk_getf hx hb hZ hS hown (hts _ hm) (fun _ h => h) hdg (kk H locs ls hP hD hS hl)
theorem mp_scod (hF : mp_F E X M) {i idx : Nat} (hi : i < 14) (hm : Jvm.Cond.fieldLink M.1 idx "java/lang/String" "coder" "B" ∈ mp_UT) (hdg : decode M.2.1 pc = .ok (.getfield idx, 3)) (kk : mp_W E X M.2.2.1 (pc + 3) lv (.int 0 :: rest) ws k n) : mp_W E X M.2.2.1 pc lv (.ref (E.1.2.1 i) :: rest) ws k n := by
  intro H locs ls hP hD hS hl
  have hZ := ((mp_FS hF).1.1 i hi).2.1
  obtain ⟨hx, hb, hml, hown, hts, hK, hA, hlk, hR, hrt, hin, hN⟩ := hF
  exact vk_getf hx hb hZ hS hown (hts _ hm) (fun _ h => h) hdg (kk H locs ls hP hD hS hl)
theorem mp_scmp (hF : mp_F E X M) {idx : Nat} (hm : Jvm.Cond.fieldLink M.1 idx "java/lang/String" "COMPACT_STRINGS" "Z" ∈ mp_UT) (hdg : decode M.2.1 pc = .ok (.getstatic idx, 3)) (kk : mp_W E X M.2.2.1 (pc + 3) lv (.int 1 :: rest) ws k n) : mp_W E X M.2.2.1 pc lv rest ws k n := by
  intro H locs ls hP hD hS hl
  have hZ := (mp_FS hF).2.2.1
  obtain ⟨hx, hb, hml, hown, hts, hK, hA, hlk, hR, hrt, hin, hN⟩ := hF
  exact va_gets hx hb hZ hS hown (hts _ hm) (fun _ h => h) hdg (kk H locs ls hP hD hS hl)
theorem mp_sfor (hF : mp_F E X M) {idx : Nat} (hm : Jvm.Cond.fieldLink M.1 idx "jdk/internal/util/Preconditions" "SIOOBE_FORMATTER" "Ljava/util/function/BiFunction;" ∈ mp_UT) (hdg : decode M.2.1 pc = .ok (.getstatic idx, 3)) (k1 : mp_W E X M.2.2.1 (pc + 3) lv (.null :: rest) ws k n) (k2 : ∀ t : Nat, mp_W E X M.2.2.1 (pc + 3) lv (.ref t :: rest) ws k n) : mp_W E X M.2.2.1 pc lv rest ws k n := by
  intro H locs ls hP hD hS hl
  have hZ := (mp_FS hF).2.2.2
  obtain ⟨hx, hb, hml, hown, hts, hK, hA, hlk, hR, hrt, hin, hN⟩ := hF
  rcases hZ with hZ | ⟨t, hZ⟩
  · exact va_gets hx hb hZ hS hown (hts _ hm) (fun _ h => h) hdg (k1 H locs ls hP hD hS hl)
  · exact va_gets hx hb hZ hS hown (hts _ hm) (fun _ h => h) hdg (k2 t H locs ls hP hD hS hl)
theorem mp_slen_ok : ∀ i, i < 14 → 0 ≤ (Int32.ofNat (mp_sl.getD i 0)).toInt ∧ (Int32.ofNat (mp_sl.getD i 0)).toInt ≤ 7 ∧ (Int32.ofNat (mp_sl.getD i 0)).toInt = (mp_sl.getD i 0 : Int) ∧ (mp_sb.getD i []).length = mp_sl.getD i 0 := by decide +kernel
theorem mp_slen (hF : mp_F E X M) {i : Nat} (hi : i < 14) (hdg : decode M.2.1 pc = .ok (.arraylength, 1)) (kk : ∀ z : Int32, z = Int32.ofNat (mp_sl.getD i 0) → 0 ≤ z.toInt → z.toInt ≤ 7 → mp_W E X M.2.2.1 (pc + 1) lv (.int z :: rest) ws k n) : mp_W E X M.2.2.1 pc lv (.ref (E.1.2.2 i) :: rest) ws k n := by
  intro H locs ls hP hD hS hl
  have hZ := ((mp_FS hF).1.1 i hi).2.2.2
  have h7 := mp_slen_ok i hi
  exact va_tlen hF.1 hF.2.1 hZ hS rfl hdg (kk _ rfl h7.1 h7.2.1 H locs ls hP hD hS hl)
theorem mp_sld (hF : mp_F E X M) {i : Nat} (hi : i < 14) {j : Int32} (h0 : 0 ≤ j.toInt) (h1 : j.toInt < (Int32.ofNat (mp_sl.getD i 0)).toInt) (hdg : decode M.2.1 pc = .ok (.baload, 1)) (kk : ∀ z : Int32, z = (mp_sb.getD i []).getD j.toNatClampNeg 0 → mp_W E X M.2.2.1 (pc + 1) lv (.int z :: rest) ws k n) : mp_W E X M.2.2.1 pc lv (.int j :: .ref (E.1.2.2 i) :: rest) ws k n := by
  intro H locs ls hP hD hS hl
  have hZ := ((mp_FS hF).1.1 i hi).2.2.2
  have h7 := mp_slen_ok i hi
  exact va_tb hF.1 hF.2.1 hZ hS (vp_in_iff.mpr ⟨h0, by rw [← h7.2.2.1]; exact h1⟩) rfl hdg (kk _ rfl H locs ls hP hD hS hl)
theorem mp_sb_all : ∀ l ∈ mp_sb, ∀ b ∈ l, ((b &&& 255).toUInt32 % 65536).toInt32 = b ∧ 0 ≤ b.toInt ∧ b.toInt ≤ 255 := by decide +kernel
theorem mp_sb_ok (i k : Nat) : (((mp_sb.getD i []).getD k 0 &&& 255).toUInt32 % 65536).toInt32 = (mp_sb.getD i []).getD k 0 ∧ 0 ≤ ((mp_sb.getD i []).getD k 0).toInt ∧ ((mp_sb.getD i []).getD k 0).toInt ≤ 255 := by
  have h0 : ∀ (l : List Int32), (∀ b ∈ l, ((b &&& 255).toUInt32 % 65536).toInt32 = b ∧ 0 ≤ b.toInt ∧ b.toInt ≤ 255) → ((l.getD k 0 &&& 255).toUInt32 % 65536).toInt32 = l.getD k 0 ∧ 0 ≤ (l.getD k 0).toInt ∧ (l.getD k 0).toInt ≤ 255 := by
    intro l h
    rw [List.getD_eq_getElem?_getD]
    cases q : l[k]? with
    | none => decide
    | some b => exact h b (List.mem_of_getElem? q)
  apply h0
  rw [List.getD_eq_getElem?_getD]
  cases q : mp_sb[i]? with
  | none => intro b hb; exact absurd hb List.not_mem_nil
  | some l => exact mp_sb_all l (List.mem_of_getElem? q)
theorem mp_i2cS (hF : mp_F E X M) {x b : Int32} {i j : Nat} (hb1 : b = (mp_sb.getD i []).getD j 0) (hx1 : x = b &&& 255) (hdg : decode M.2.1 pc = .ok (.i2c, 1)) (kk : ∀ z : Int32, z = (mp_sb.getD i []).getD j 0 → 0 ≤ z.toInt → z.toInt ≤ 255 → mp_W E X M.2.2.1 (pc + 1) lv (.int z :: rest) ws k n) : mp_W E X M.2.2.1 pc lv (.int x :: rest) ws k n := by
  intro H locs ls hP hD hS hl
  have h7 := mp_sb_ok i j
  refine lv_i2c (v := (mp_sb.getD i []).getD j 0) hF.1 hF.2.1 hdg ?_ (kk _ rfl h7.2.1 h7.2.2 H locs ls hP hD hS hl)
  rw [hx1, hb1]; exact h7.1
theorem mp_nar_c {z : Int32} (h0 : 0 ≤ z.toInt) (h1 : z.toInt ≤ 255) : narrow .char (.int z) = .int z := by
  have e : z = Int32.ofNat z.toInt.toNat := by
    apply Int32.toInt_inj.mp
    rw [Int32.toInt_ofNat_of_lt (by omega)]; omega
  have : ∀ m : Nat, m < 256 → narrow .char (.int (Int32.ofNat m)) = .int (Int32.ofNat m) := by decide +kernel
  rw [e]
  exact this _ (by omega)
def mp_lvsB (own : String) (idx : Nat) (y : MethodName) (b : ByteArray) (mL : Nat) (r : Option FieldType) (argc j1 j2 j3 j4 j5 : Nat) : Bool :=
  decide (y.cls = "java/lang/String") && mp_gK j1 (.methodLink own idx y) && mp_gK j2 (.instanceMethod y) && mp_gK j3 (.selects "java/lang/String" y y) && mp_gK j4 (.initialized "java/lang/String") && mp_gK j5 (.code y b mL r) && mp_hd y argc
def mp_LVS (own : String) (idx : Nat) (y : MethodName) (b : ByteArray) (mL : Nat) (r : Option FieldType) (argc : Nat) : Prop := GoodIn mp_UT (wsV own idx "java/lang/String" y (Jvm.Cond.code y b mL r :: mp_UT)) ∧ (y.cls = "java/lang/String" ∧ y.cls ≠ "java/lang/invoke/MethodHandle" ∧ y.cls ≠ "java/lang/invoke/VarHandle" ∧ (parseMethodDescriptor y.desc).map (fun d => d.parameters.length) = some argc)
theorem mp_lvs_ok {own : String} {idx : Nat} {y : MethodName} {b : ByteArray} {mL : Nat} {r : Option FieldType} {argc j1 j2 j3 j4 j5 : Nat} (h : mp_lvsB own idx y b mL r argc j1 j2 j3 j4 j5 = true) : mp_LVS own idx y b mL r argc := by
  unfold mp_lvsB at h
  simp only [Bool.and_eq_true, decide_eq_true_eq] at h
  obtain ⟨⟨⟨⟨⟨⟨h0, h1⟩, h2⟩, h3⟩, h4⟩, h5⟩, h6⟩ := h
  refine ⟨mp_gc ?_, h0, mp_hd_ok h6⟩
  intro w hw
  rcases List.mem_append.mp hw with hw | hw
  · simp only [List.mem_cons, List.not_mem_nil, or_false] at hw
    rcases hw with rfl | rfl | rfl | rfl
    · exact mp_gm h1
    · exact mp_gm h2
    · exact mp_gm h3
    · exact mp_gm h4
  · rcases List.mem_cons.mp hw with rfl | hw
    · exact mp_gm h5
    · exact hw
theorem mp_callVS {y : MethodName} {b : ByteArray} {mL : Nat} {r : Option FieldType} {nf mc ms nl : Nat} {As : List Value} {wc : va_W} {post : Option Value → va_W → Prop} {idx si : Nat} (hF : mp_F E X M) (hC : mp_Ct E y b mL r nf mc ms nl (.ref (E.1.2.1 si) :: As) wc post) (hL : mp_LVS M.1 idx y b mL r As.length) (hsi : si < 14)
    (isC isR : List Nat) {wr : va_W} (hC1 : isC.map (fun i => ws[i]?) = wc.map some) (hnC : va_nd isC = true) (hR1 : isR.map (fun i => ws[i]?) = wr.map some) (hnd : va_nd isR = true) (hdis : isR.all (fun i => !isC.contains i) = true)
    (hroom : nf + 1 ≤ M.2.2.2.1.1 ∧ 8 + (mL + 11) + nl ≤ M.2.2.2.1.2.2.2 ∧ k + mc ≤ M.2.2.2.1.2.1 ∧ n + ms ≤ M.2.2.2.1.2.2.1) (hcat : (rest.map (fun v => v.category)).sum ≤ 8) (hdg : decode M.2.1 pc = .ok (.invokevirtual idx, 3))
    (kk : ∀ (v : Option Value) (w' : va_W), post v w' → mp_W E X M.2.2.1 (pc + 3) lv (v.toList ++ rest) (wr ++ w') (k + mc) (n + ms)) : mp_W E X M.2.2.1 pc lv (As.reverse ++ .ref (E.1.2.1 si) :: rest) ws k n := by
  refine mp_back (fr := []) (sz := 0) hF isC isR hC1 hR1 hnd hdis (fun H locs ls hP hD hS hl => ⟨(.ref (E.1.2.1 si) :: As).toArray, ?_⟩) kk
  have hZ := (mp_FS hF).1
  obtain ⟨hx, hb, hml, hown, hts, hK, hA, hlk, hR, hrt, hin, hN⟩ := hF
  obtain ⟨hg, hd⟩ := hL
  have hPc := hP.sub (ws' := wc) isC (mp_fm hC1)
  have hDc := hD.sub isC hnC hC1
  exact va_runV (rest := rest) ⟨hx, hb, hml, hown, hts⟩ (hC H.size) (cwV As.length hts hg rfl rfl rfl hd ⟨by rw [hR]; exact hroom.1, by rw [hR]; exact hroom.2.1⟩) ⟨mp_blind E _ _ _, vk_recv hZ hsi hS, fun U hU hW => ⟨rfl, by rw [hU], by rw [hU]; exact hPc, va_K.moved hW.alike hK, ⟨mp_N_warm hW hN.1, mp_S_warm hW (by rw [hU]; exact hS.2.1) (fun q z => va_free (wc := wc) hD hS hA isC hC1 q z) hN.2⟩, hDc.weaken (fun _ _ _ _ => trivial)⟩⟩ rfl rfl hl.1 rfl (lv_room hcat) hdg ⟨by rw [hR]; exact hroom.2.2.1, by rw [hR]; exact hroom.2.2.2⟩
end MPSTR
def mp_tabJ6 : mp_T := ([], [(265, 1431655765), (266, 858993459), (267, 252645135)], [])
set_option maxRecDepth 100000 in
theorem mp_tabJ6_ok : mp_Tok RJ6 mp_tabJ6 := ⟨mp_lks_ok (js := []) (by decide +kernel), mp_cks_ok (js := [4167, 4168, 4169]) (by decide +kernel), mp_cls_ok (js := []) (by decide +kernel)⟩
def mp_tabJ13 : mp_T := ([], [], [(314, 6148914691236517205), (316, 3689348814741910323), (318, 1085102592571150095)])
set_option maxRecDepth 100000 in
theorem mp_tabJ13_ok : mp_Tok RJ13 mp_tabJ13 := ⟨mp_lks_ok (js := []) (by decide +kernel), mp_cks_ok (js := []) (by decide +kernel), mp_cls_ok (js := [5196, 5197, 5198]) (by decide +kernel)⟩
set_option maxRecDepth 100000 in
theorem mp_lkX3_164 : mp_LVS RX3 164 yJ0_length_8abf5 cJ0_length_8abf5 1 (some FieldType.int) 0 := mp_lvs_ok (j1 := 2230) (j2 := 2231) (j3 := 2232) (j4 := 1014) (j5 := 2233) (by decide +kernel)
set_option maxRecDepth 100000 in
theorem mp_lkJ0_335 : mp_LVS RJ0 335 yJ0_coder_7d493 cJ0_coder_7d493 1 (some FieldType.byte) 0 := mp_lvs_ok (j1 := 2234) (j2 := 2235) (j3 := 2236) (j4 := 1014) (j5 := 2237) (by decide +kernel)
set_option maxRecDepth 100000 in
theorem mp_lkX3_169 : mp_LVS RX3 169 yJ0_charAt_5068e cJ0_charAt_5068e 2 (some FieldType.char) 1 := mp_lvs_ok (j1 := 3000) (j2 := 3001) (j3 := 3002) (j4 := 1014) (j5 := 3003) (by decide +kernel)
set_option maxRecDepth 100000 in
theorem mp_lkJ0_492 : mp_LVS RJ0 492 yJ0_isLatin1_aae02 cJ0_isLatin1_aae02 1 (some FieldType.boolean) 0 := mp_lvs_ok (j1 := 3004) (j2 := 3005) (j3 := 3006) (j4 := 1014) (j5 := 3007) (by decide +kernel)
set_option maxRecDepth 100000 in
theorem mp_lkJ0_495 : mp_LS RJ0 495 yJ1_charAt_3b067 cJ1_charAt_3b067 2 (some FieldType.char) 2 := mp_ls_ok (j1 := 3008) (j2 := 3009) (j4 := 1015) (j5 := 3010) (by decide +kernel)
set_option maxRecDepth 100000 in
theorem mp_lkJ1_9 : mp_LS RJ1 9 yJ0_checkIndex_df160 cJ0_checkIndex_df160 2 none 2 := mp_ls_ok (j1 := 3011) (j2 := 3012) (j4 := 1014) (j5 := 3013) (by decide +kernel)
set_option maxRecDepth 100000 in
theorem mp_lkJ0_1059 : mp_LS RJ0 1059 yJ3_checkIndex_8e157 cJ3_checkIndex_8e157 3 (some FieldType.int) 3 := mp_ls_ok (j1 := 3016) (j2 := 3017) (j4 := 1016) (j5 := 3018) (by decide +kernel)
-- the text: its tokens
def mp_scan (P : Int → Bool) (f : Nat → Int32) : Nat → Nat → Nat
  | 0, p => p
  | k + 1, p => if P (f p).toInt then mp_scan P f k (p + 1) else p
def mp_end (P : Int → Bool) (f : Nat → Int32) (n p : Nat) : Nat := mp_scan P f (n - p) p
theorem mp_scan_eq {P : Int → Bool} {f : Nat → Int32} : ∀ {k p c : Nat}, p ≤ c → c ≤ p + k → (∀ j : Nat, p ≤ j → j < c → P (f j).toInt = true) → (c = p + k ∨ P (f c).toInt = false) → mp_scan P f k p = c := by
  intro k
  induction k with
  | zero => intro p c h1 h2 _ _; show p = c; omega
  | succ k ih =>
    intro p c h1 h2 h hx
    show (if P (f p).toInt then mp_scan P f k (p + 1) else p) = c
    by_cases e : c = p
    · subst e
      rcases hx with hx | hx
      · omega
      · rw [hx]; rfl
    · rw [h p (Nat.le_refl _) (by omega)]
      exact ih (by omega) (by omega) (fun j hj hc => h j (by omega) hc) (hx.imp (fun q => by omega) (fun q => q))
/-- where a run from p ends, of a scan that stands at i (numbers as Int) -/
theorem mp_end_i {P : Int → Bool} {f : Nat → Int32} {n p i : Int} (h1 : p ≤ i) (hp : 0 ≤ p) (h2 : i ≤ n ∨ i = p) (h : ∀ j : Nat, p.toNat ≤ j → (j : Int) < i → P (f j).toInt = true) (hx : n ≤ i ∨ P (f i.toNat).toInt = false) : mp_end P f n.toNat p.toNat = i.toNat := by
  refine mp_scan_eq (by omega) (by omega) (fun j hj hc => h j hj (by omega)) ?_
  rcases hx with hx | hx
  · exact Or.inl (by omega)
  · exact Or.inr hx
theorem mp_all_0 {P : Int → Bool} {f : Nat → Int32} {p i : Int} (hi : i ≤ p) : ∀ j : Nat, p.toNat ≤ j → (j : Int) < i → P (f j).toInt = true := fun j h1 h2 => by omega
theorem mp_all_s {P : Int → Bool} {f : Nat → Int32} {p i i' : Int} (h : ∀ j : Nat, p.toNat ≤ j → (j : Int) < i → P (f j).toInt = true) (hi : P (f i.toNat).toInt = true) (h0 : 0 ≤ i ∧ i' = i + 1) : ∀ j : Nat, p.toNat ≤ j → (j : Int) < i' → P (f j).toInt = true := by
  intro j h1 h2
  by_cases e : (j : Int) < i
  · exact h j h1 e
  · have : j = i.toNat := by omega
    rw [this]; exact hi
def mp_isSp (b : Int) : Bool := decide (b = 32 ∨ b = 10)
def mp_isLe (b : Int) : Bool := decide (97 ≤ b ∧ b ≤ 122)
def mp_isDi (b : Int) : Bool := decide (48 ≤ b ∧ b ≤ 57)
theorem mp_spt {b : Int} (h : b = 32 ∨ b = 10) : mp_isSp b = true := decide_eq_true h
theorem mp_spf {b : Int} (h : b ≠ 32 ∧ b ≠ 10) : mp_isSp b = false := decide_eq_false (by omega)
theorem mp_let {b : Int} (h : 97 ≤ b ∧ b ≤ 122) : mp_isLe b = true := decide_eq_true h
theorem mp_lef {b : Int} (h : b < 97 ∨ 122 < b) : mp_isLe b = false := decide_eq_false (by omega)
theorem mp_dit {b : Int} (h : 48 ≤ b ∧ b ≤ 57) : mp_isDi b = true := decide_eq_true h
theorem mp_dif {b : Int} (h : b < 48 ∨ 57 < b) : mp_isDi b = false := decide_eq_false (by omega)
/-- of the token behind p: where it starts, its kind, where it ends, its number -/
def mp_TS (f : Nat → Int32) (n p : Nat) : Nat := mp_end mp_isSp f n p
def mp_TK (f : Nat → Int32) (n p : Nat) : Int := if n ≤ mp_TS f n p then 0 else if mp_isLe (f (mp_TS f n p)).toInt then 1 else if mp_isDi (f (mp_TS f n p)).toInt then 2 else if (f (mp_TS f n p)).toInt = 59 then 3 else 4
def mp_TE (f : Nat → Int32) (n p : Nat) : Nat := if n ≤ mp_TS f n p then mp_TS f n p else if mp_isLe (f (mp_TS f n p)).toInt then mp_end mp_isLe f n (mp_TS f n p) else if mp_isDi (f (mp_TS f n p)).toInt then mp_end mp_isDi f n (mp_TS f n p) else mp_TS f n p + 1
def mp_VV (f : Nat → Int32) (s : Nat) : Nat → Int
  | 0 => 0
  | m + 1 => 10 * mp_VV f s m + ((f (s + m)).toInt - 48)
def mp_TV (f : Nat → Int32) (n p : Nat) : Int := mp_VV f (mp_TS f n p) (mp_TE f n p - mp_TS f n p)
theorem mp_tok0 {f : Nat → Int32} {n p s : Int} (hs : mp_TS f n.toNat p.toNat = s.toNat) (h : n ≤ s) : mp_TK f n.toNat p.toNat = 0 ∧ mp_TE f n.toNat p.toNat = s.toNat := by
  unfold mp_TK mp_TE
  rw [hs]
  refine ⟨?_, ?_⟩
  · rw [if_pos (by omega)]
  · rw [if_pos (by omega)]
theorem mp_tok1 {f : Nat → Int32} {n p s c : Int} (hs : mp_TS f n.toNat p.toNat = s.toNat) (h : 0 ≤ s ∧ s < n) (hl : mp_isLe (f s.toNat).toInt = true) (hc : mp_end mp_isLe f n.toNat s.toNat = c.toNat) : mp_TK f n.toNat p.toNat = 1 ∧ mp_TE f n.toNat p.toNat = c.toNat := by
  unfold mp_TK mp_TE
  rw [hs]
  refine ⟨?_, ?_⟩
  · rw [if_neg (by omega), if_pos hl]
  · rw [if_neg (by omega), if_pos hl]; exact hc
theorem mp_tok2 {f : Nat → Int32} {n p s c : Int} (hs : mp_TS f n.toNat p.toNat = s.toNat) (h : 0 ≤ s ∧ s < n) (hl : mp_isLe (f s.toNat).toInt = false) (hd : mp_isDi (f s.toNat).toInt = true) (hc : mp_end mp_isDi f n.toNat s.toNat = c.toNat) : mp_TK f n.toNat p.toNat = 2 ∧ mp_TE f n.toNat p.toNat = c.toNat := by
  have hl2 : ¬ mp_isLe (f s.toNat).toInt = true := by rw [hl]; decide
  unfold mp_TK mp_TE
  rw [hs]
  refine ⟨?_, ?_⟩
  · rw [if_neg (by omega), if_neg hl2, if_pos hd]
  · rw [if_neg (by omega), if_neg hl2, if_pos hd]; exact hc
theorem mp_tok3 {f : Nat → Int32} {n p s k : Int} (hs : mp_TS f n.toNat p.toNat = s.toNat) (h : 0 ≤ s ∧ s < n) (hl : mp_isLe (f s.toNat).toInt = false) (hd : mp_isDi (f s.toNat).toInt = false) (hk : ((f s.toNat).toInt = 59 ∧ k = 3) ∨ ((f s.toNat).toInt ≠ 59 ∧ k = 4)) : mp_TK f n.toNat p.toNat = k ∧ mp_TE f n.toNat p.toNat = (s + 1).toNat := by
  have hl2 : ¬ mp_isLe (f s.toNat).toInt = true := by rw [hl]; decide
  have hd2 : ¬ mp_isDi (f s.toNat).toInt = true := by rw [hd]; decide
  unfold mp_TK mp_TE
  rw [hs]
  refine ⟨?_, ?_⟩
  · rw [if_neg (by omega), if_neg hl2, if_neg hd2]
    rcases hk with ⟨h1, h2⟩ | ⟨h1, h2⟩
    · rw [if_pos h1, h2]
    · rw [if_neg h1, h2]
  · rw [if_neg (by omega), if_neg hl2, if_neg hd2]
    omega
/-- a number that is cut at c -/
def mp_cap (c v : Int) : Int := if v ≤ c then v else c
theorem mp_cap_s {c v w d : Int} (h : v = mp_cap c w) (hc : 0 ≤ c) (hd : 0 ≤ d) (hw : 0 ≤ w) {z : Int} (hz : (z = c ∧ c ≤ 10 * v + d) ∨ (z = 10 * v + d ∧ 10 * v + d ≤ c)) : z = mp_cap c (10 * w + d) := by
  unfold mp_cap at h ⊢
  split at h <;> split <;> omega
theorem mp_VV_nn {f : Nat → Int32} {s : Nat} : ∀ {m : Nat}, (∀ j : Nat, s ≤ j → j < s + m → 48 ≤ (f j).toInt) → 0 ≤ mp_VV f s m := by
  intro m
  induction m with
  | zero => intro _; exact Int.le_refl _
  | succ m ih =>
    intro h
    have h1 := ih (fun j h1 h2 => h j h1 (by omega))
    have h2 := h (s + m) (by omega) (by omega)
    show 0 ≤ 10 * mp_VV f s m + ((f (s + m)).toInt - 48)
    omega
theorem mp_VV_s {f : Nat → Int32} {s c c' : Int} (hs : 0 ≤ s ∧ s ≤ c ∧ c' = c + 1) : mp_VV f s.toNat (c' - s).toNat = 10 * mp_VV f s.toNat (c - s).toNat + ((f c.toNat).toInt - 48) := by
  have e : (c' - s).toNat = (c - s).toNat + 1 := by omega
  rw [e]
  show 10 * mp_VV f s.toNat (c - s).toNat + ((f (s.toNat + (c - s).toNat)).toInt - 48) = _
  rw [show s.toNat + (c - s).toNat = c.toNat by omega]
theorem mp_VV_i {f : Nat → Int32} {s c : Int} (hs : 0 ≤ s ∧ s ≤ c) (h : ∀ j : Nat, s.toNat ≤ j → (j : Int) < c → mp_isDi (f j).toInt = true) : 0 ≤ mp_VV f s.toNat (c - s).toNat :=
  mp_VV_nn (fun j h1 h2 => (of_decide_eq_true (h j h1 (by omega)) : 48 ≤ (f j).toInt ∧ (f j).toInt ≤ 57).1)
theorem mp_TV_eq {f : Nat → Int32} {n p s c : Int} (hs : mp_TS f n.toNat p.toNat = s.toNat) (he : mp_TE f n.toNat p.toNat = c.toNat) (h : 0 ≤ s ∧ s ≤ c) : mp_TV f n.toNat p.toNat = mp_VV f s.toNat (c - s).toNat := by
  unfold mp_TV
  rw [hs, he, show c.toNat - s.toNat = (c - s).toNat by omega]
theorem mp_lmul {z x y : Int64} {a b : Int} (h : z = x * y) (hx : x.toInt = a) (hy : y.toInt = b) (h1 : -9223372036854775808 ≤ a * b) (h2 : a * b ≤ 9223372036854775807) : z.toInt = a * b := by
  rw [h, Int64.toInt_mul, hx, hy, Int.bmod_def]
  generalize a * b = c at *
  omega
/-- letters packed as the reference packs them -/
def mp_PK (f : Nat → Int32) (s : Nat) : Nat → Int
  | 0 => 0
  | m + 1 => 27 * mp_PK f s m + ((f (s + m)).toInt - 96)
theorem mp_PK_s {f : Nat → Int32} {s c c' : Int} (hs : 0 ≤ s ∧ s ≤ c ∧ c' = c + 1) : mp_PK f s.toNat (c' - s).toNat = 27 * mp_PK f s.toNat (c - s).toNat + ((f c.toNat).toInt - 96) := by
  have e : (c' - s).toNat = (c - s).toNat + 1 := by omega
  rw [e]
  show 27 * mp_PK f s.toNat (c - s).toNat + ((f (s.toNat + (c - s).toNat)).toInt - 96) = _
  rw [show s.toNat + (c - s).toNat = c.toNat by omega]
theorem mp_PK_b {f : Nat → Int32} {s : Nat} : ∀ {m : Nat}, (∀ j : Nat, s ≤ j → j < s + m → 97 ≤ (f j).toInt ∧ (f j).toInt ≤ 122) → 0 ≤ mp_PK f s m ∧ mp_PK f s m < 27 ^ m := by
  intro m
  induction m with
  | zero => intro _; exact ⟨Int.le_refl _, by show (0 : Int) < 27 ^ 0; decide⟩
  | succ m ih =>
    intro h
    have h1 := ih (fun j h1 h2 => h j h1 (by omega))
    have h2 := h (s + m) (by omega) (by omega)
    show 0 ≤ 27 * mp_PK f s m + ((f (s + m)).toInt - 96) ∧ 27 * mp_PK f s m + ((f (s + m)).toInt - 96) < 27 ^ (m + 1)
    rw [Int.pow_succ]
    omega
/-- the packed word stays within bounds for twelve letters -/
theorem mp_PK_i {f : Nat → Int32} {s c : Int} (hs : 0 ≤ s ∧ s ≤ c ∧ c - s ≤ 12) (h : ∀ j : Nat, s.toNat ≤ j → (j : Int) < c → mp_isLe (f j).toInt = true) : 0 ≤ mp_PK f s.toNat (c - s).toNat ∧ mp_PK f s.toNat (c - s).toNat < 150094635296999121 := by
  have h1 := mp_PK_b (f := f) (s := s.toNat) (m := (c - s).toNat) (fun j h1 h2 => (of_decide_eq_true (h j h1 (by omega)) : 97 ≤ (f j).toInt ∧ (f j).toInt ≤ 122))
  refine ⟨h1.1, Int.lt_of_lt_of_le h1.2 ?_⟩
  have h2 : (27 : Int) ^ (c - s).toNat ≤ 27 ^ 12 := by
    have : ∀ m : Nat, m ≤ 12 → (27 : Int) ^ m ≤ 27 ^ 12 := by decide
    exact this _ (by omega)
  exact Int.le_trans h2 (by decide)
def mp_WD (f : Nat → Int32) (n p : Nat) : Int := if mp_TE f n p - mp_TS f n p ≤ 12 then mp_PK f (mp_TS f n p) (mp_TE f n p - mp_TS f n p) else -1
theorem mp_WD_eq {f : Nat → Int32} {n p s c w : Int} (hs : mp_TS f n.toNat p.toNat = s.toNat) (he : mp_TE f n.toNat p.toNat = c.toNat) (h : 0 ≤ s ∧ s ≤ c) (hw : (c - s ≤ 12 ∧ w = mp_PK f s.toNat (c - s).toNat) ∨ (12 < c - s ∧ w = -1)) : w = mp_WD f n.toNat p.toNat := by
  unfold mp_WD
  rw [hs, he, show c.toNat - s.toNat = (c - s).toNat by omega]
  rcases hw with ⟨h1, h2⟩ | ⟨h1, h2⟩
  · rw [if_pos (by omega)]; exact h2
  · rw [if_neg (by omega)]; exact h2
/-- a number as the reference cuts it -/
def mp_capR (v w : Int) : Prop := (v = w ∧ w ≤ 10000009) ∨ (v = 10000000 ∧ 1000000 < w)
theorem mp_capR_s {v w d z : Int} (h : mp_capR v w) (hd : 0 ≤ d ∧ d ≤ 9) (hw : 0 ≤ w) (hz : (1000000 < v ∧ z = 10000000) ∨ (v ≤ 1000000 ∧ z = 10 * v + d)) : mp_capR z (10 * w + d) := by
  unfold mp_capR at h ⊢
  omega
theorem mp_PK_1 {f : Nat → Int32} {s c : Int} (hs : 0 ≤ s ∧ c = s + 1) : mp_PK f s.toNat (c - s).toNat = (f s.toNat).toInt - 96 := by
  rw [show (c - s).toNat = 0 + 1 by omega]
  show 27 * 0 + ((f (s.toNat + 0)).toInt - 96) = _
  rw [Nat.add_zero]
  omega
theorem mp_VV_1 {f : Nat → Int32} {s c : Int} (hs : 0 ≤ s ∧ c = s + 1) : mp_VV f s.toNat (c - s).toNat = (f s.toNat).toInt - 48 := by
  rw [show (c - s).toNat = 0 + 1 by omega]
  show 10 * 0 + ((f (s.toNat + 0)).toInt - 48) = _
  rw [Nat.add_zero]
  omega
theorem mp_scan_all {P : Int → Bool} {f : Nat → Int32} : ∀ {k p j : Nat}, p ≤ j → j < mp_scan P f k p → P (f j).toInt = true := by
  intro k
  induction k with
  | zero => intro p j h1 h2; exact absurd (show j < p from h2) (by omega)
  | succ k ih =>
    intro p j h1 h2
    replace h2 : j < (if P (f p).toInt then mp_scan P f k (p + 1) else p) := h2
    by_cases e : P (f p).toInt = true
    · rw [if_pos e] at h2
      by_cases q : j = p
      · rw [q]; exact e
      · exact ih (by omega) h2
    · rw [if_neg e] at h2
      omega
theorem mp_scan_ge {P : Int → Bool} {f : Nat → Int32} : ∀ {k p : Nat}, p ≤ mp_scan P f k p := by
  intro k
  induction k with
  | zero => intro p; exact Nat.le_refl _
  | succ k ih =>
    intro p
    show p ≤ (if P (f p).toInt then mp_scan P f k (p + 1) else p)
    split
    · exact Nat.le_trans (Nat.le_succ p) ih
    · exact Nat.le_refl _
/-- a token that starts where it is sought -/
theorem mp_TS_self {f : Nat → Int32} {n s : Int} (h0 : 0 ≤ s) (h : n ≤ s ∨ mp_isSp (f s.toNat).toInt = false) : mp_TS f n.toNat s.toNat = s.toNat :=
  mp_end_i (Int.le_refl _) h0 (Or.inr rfl) (mp_all_0 (Int.le_refl _)) h
theorem mp_TS_TS {f : Nat → Int32} {n p : Nat} : mp_TS f n (mp_TS f n p) = mp_TS f n p := by
  have h0 : ∀ {k q : Nat}, mp_scan mp_isSp f k q = q + k ∨ mp_isSp (f (mp_scan mp_isSp f k q)).toInt = false := by
    intro k
    induction k with
    | zero => intro q; exact Or.inl rfl
    | succ k ih =>
      intro q
      show (if mp_isSp (f q).toInt then mp_scan mp_isSp f k (q + 1) else q) = q + (k + 1) ∨ mp_isSp (f (if mp_isSp (f q).toInt then mp_scan mp_isSp f k (q + 1) else q)).toInt = false
      by_cases e : mp_isSp (f q).toInt = true
      · rw [if_pos e]
        exact (ih (q := q + 1)).imp (fun h => by omega) (fun h => h)
      · rw [if_neg e]
        exact Or.inr (by cases h : mp_isSp (f q).toInt with | true => exact absurd h e | false => rfl)
  have h1 := h0 (k := n - p) (q := p)
  have h2 : p ≤ mp_TS f n p := mp_scan_ge
  have h3 := mp_TS_self (f := f) (n := (n : Int)) (s := (mp_TS f n p : Int)) (Int.natCast_nonneg _) (by
    rcases h1 with h1 | h1
    · left
      have h4 : mp_TS f n p = p + (n - p) := h1
      omega
    · right; exact h1)
  simpa only [Int.toNat_natCast] using h3
def mp_pg (g : Nat → Int) : Nat → Int
  | 0 => 0
  | m + 1 => 27 * mp_pg g m + g m
theorem mp_pg_pos {g : Nat → Int} : ∀ {m : Nat}, (∀ j : Nat, j < m → 1 ≤ g j ∧ g j ≤ 26) → 0 ≤ mp_pg g m ∧ (0 < m → 1 ≤ mp_pg g m) := by
  intro m
  induction m with
  | zero => intro _; exact ⟨Int.le_refl _, fun h => absurd h (by omega)⟩
  | succ m ih =>
    intro h
    have h1 := ih (fun j hj => h j (by omega))
    have h2 := h m (by omega)
    show 0 ≤ 27 * mp_pg g m + g m ∧ (0 < m + 1 → 1 ≤ 27 * mp_pg g m + g m)
    exact ⟨by omega, fun _ => by omega⟩
theorem mp_pg_inj {g g' : Nat → Int} : ∀ {m m' : Nat}, (∀ j : Nat, j < m → 1 ≤ g j ∧ g j ≤ 26) → (∀ j : Nat, j < m' → 1 ≤ g' j ∧ g' j ≤ 26) → mp_pg g m = mp_pg g' m' → m = m' ∧ ∀ j : Nat, j < m → g j = g' j := by
  intro m
  induction m with
  | zero =>
    intro m' _ h' e
    cases m' with
    | zero => exact ⟨rfl, fun j hj => absurd hj (by omega)⟩
    | succ m' =>
      have h1 := (mp_pg_pos (m := m' + 1) h').2 (by omega)
      have e2 : (0 : Int) = mp_pg g' (m' + 1) := e
      omega
  | succ m ih =>
    intro m' h h' e
    cases m' with
    | zero =>
      have h1 := (mp_pg_pos (m := m + 1) h).2 (by omega)
      have e2 : mp_pg g (m + 1) = (0 : Int) := e
      omega
    | succ m' =>
      have h1 := h m (by omega)
      have h2 := h' m' (by omega)
      have e2 : 27 * mp_pg g m + g m = 27 * mp_pg g' m' + g' m' := e
      have e3 : mp_pg g m = mp_pg g' m' := by omega
      have e4 : g m = g' m' := by omega
      obtain ⟨k1, k2⟩ := ih (fun j hj => h j (by omega)) (fun j hj => h' j (by omega)) e3
      subst k1
      refine ⟨rfl, fun j hj => ?_⟩
      by_cases q : j = m
      · rw [q]; exact e4
      · exact k2 j (by omega)
theorem mp_pg_congr {g g' : Nat → Int} : ∀ {m : Nat}, (∀ j : Nat, j < m → g j = g' j) → mp_pg g m = mp_pg g' m := by
  intro m
  induction m with
  | zero => intro _; rfl
  | succ m ih =>
    intro h
    show 27 * mp_pg g m + g m = 27 * mp_pg g' m + g' m
    rw [ih (fun j hj => h j (by omega)), h m (by omega)]
theorem mp_PK_pg {f : Nat → Int32} {s : Nat} : ∀ {m : Nat}, mp_PK f s m = mp_pg (fun j => (f (s + j)).toInt - 96) m := by
  intro m
  induction m with
  | zero => rfl
  | succ m ih =>
    show 27 * mp_PK f s m + _ = 27 * mp_pg _ m + _
    rw [ih]
/-- the words of the pool, packed -/
def mp_wk : List Int := [5165848, 47, 13987, 296479, 232608281, 419, 85447, 10737568, 6465242723, 555, 12532058, 374953, 2495756, 380396]
def mp_dg (si j : Nat) : Int := ((mp_sb.getD si []).getD j 0).toInt - 96
theorem mp_wk_ok : ∀ si : Nat, si < 14 → mp_pg (mp_dg si) (mp_sl.getD si 0) = mp_wk.getD si 0 ∧ mp_sl.getD si 0 ≤ 12 ∧ 0 < mp_wk.getD si 0 := by decide +kernel
theorem mp_dg_ok : ∀ si : Nat, si < 14 → ∀ j : Nat, j < mp_sl.getD si 0 → 1 ≤ mp_dg si j ∧ mp_dg si j ≤ 26 := by decide +kernel
theorem mp_TK1 {f : Nat → Int32} {n p : Nat} (h : mp_TK f n p = 1) : ∀ j : Nat, mp_TS f n p ≤ j → j < mp_TE f n p → 97 ≤ (f j).toInt ∧ (f j).toInt ≤ 122 := by
  intro j h1 h2
  unfold mp_TK at h
  unfold mp_TE at h2
  by_cases e : n ≤ mp_TS f n p
  · rw [if_pos e] at h; exact absurd h (by decide)
  · rw [if_neg e] at h h2
    by_cases e2 : mp_isLe (f (mp_TS f n p)).toInt = true
    · rw [if_pos e2] at h2
      exact of_decide_eq_true (mp_scan_all (P := mp_isLe) h1 h2)
    · rw [if_neg e2] at h
      split at h
      · exact absurd h (by decide)
      · split at h <;> exact absurd h (by decide)
theorem mp_word_iff {f : Nat → Int32} {n p si : Nat} (hsi : si < 14) (hk : mp_TK f n p = 1) : (mp_TE f n p - mp_TS f n p = mp_sl.getD si 0 ∧ ∀ j : Nat, j < mp_sl.getD si 0 → (f (mp_TS f n p + j)).toInt = ((mp_sb.getD si []).getD j 0).toInt) ↔ mp_WD f n p = mp_wk.getD si 0 := by
  obtain ⟨w1, w2, w3⟩ := mp_wk_ok si hsi
  have hl := mp_TK1 hk
  unfold mp_WD
  constructor
  · rintro ⟨h1, h2⟩
    rw [if_pos (by omega), mp_PK_pg, h1, ← w1]
    exact mp_pg_congr (fun j hj => by rw [h2 j hj]; rfl)
  · intro h
    by_cases e : mp_TE f n p - mp_TS f n p ≤ 12
    · rw [if_pos e, mp_PK_pg, ← w1] at h
      obtain ⟨k1, k2⟩ := mp_pg_inj (fun j hj => by have := hl (mp_TS f n p + j) (by omega) (by omega); omega) (mp_dg_ok si hsi) h
      refine ⟨k1, fun j hj => ?_⟩
      have h3 : (f (mp_TS f n p + j)).toInt - 96 = ((mp_sb.getD si []).getD j 0).toInt - 96 := k2 j (by omega)
      omega
    · rw [if_neg e] at h
      omega
/-- the class's token at hand: kind, start, stop, value -/
def mp_CT (f : Nat → Int32) (n k s e v : Int) : Prop := mp_TS f n.toNat s.toNat = s.toNat ∧ k = mp_TK f n.toNat s.toNat ∧ e = ((mp_TE f n.toNat s.toNat : Nat) : Int) ∧ (k ≠ 2 ∨ v = mp_cap 100000000 (mp_TV f n.toNat s.toNat))
/-- the reference's: token, place, at, value, word -/
def mp_MT (f : Nat → Int32) (n k s e v w : Int) : Prop := mp_TS f n.toNat s.toNat = s.toNat ∧ k = mp_TK f n.toNat s.toNat ∧ e = ((mp_TE f n.toNat s.toNat : Nat) : Int) ∧ (k ≠ 2 ∨ mp_capR v (mp_TV f n.toNat s.toNat)) ∧ (k ≠ 1 ∨ w = mp_WD f n.toNat s.toNat)
theorem mp_cap_i {v w : Int} (h : v = mp_cap 100000000 w) : (v = w ∧ w ≤ 100000000) ∨ (v = 100000000 ∧ 100000000 < w) := by
  unfold mp_cap at h
  split at h <;> omega
theorem mp_isw_t {f : Nat → Int32} {n s e k v i : Int} {si : Nat} (h : mp_CT f n k s e v) (hsi : si < 14) (hk : k = 1) (h0 : 0 ≤ s) (hl : e - s = (mp_sl.getD si 0 : Int)) (ha : ∀ j : Nat, (j : Int) < i → (f (s.toNat + j)).toInt = ((mp_sb.getD si []).getD j 0).toInt) (hi : (mp_sl.getD si 0 : Int) ≤ i) : mp_TK f n.toNat s.toNat = 1 ∧ mp_WD f n.toNat s.toNat = mp_wk.getD si 0 := by
  obtain ⟨h1, h2, h3, -⟩ := h
  have hk1 : mp_TK f n.toNat s.toNat = 1 := by omega
  refine ⟨hk1, (mp_word_iff hsi hk1).mp ⟨by omega, fun j hj => ?_⟩⟩
  rw [h1]
  exact ha j (by omega)
theorem mp_isw_1 {f : Nat → Int32} {n s e k v : Int} {w : Int} (h : mp_CT f n k s e v) (hk : k ≠ 1) : ¬ (mp_TK f n.toNat s.toNat = 1 ∧ mp_WD f n.toNat s.toNat = w) := by
  obtain ⟨-, h2, -, -⟩ := h
  rintro ⟨q, -⟩
  omega
theorem mp_isw_2 {f : Nat → Int32} {n s e k v : Int} {si : Nat} (h : mp_CT f n k s e v) (hsi : si < 14) (h0 : 0 ≤ s) (hl : e - s ≠ (mp_sl.getD si 0 : Int)) (he : s ≤ e) : ¬ (mp_TK f n.toNat s.toNat = 1 ∧ mp_WD f n.toNat s.toNat = mp_wk.getD si 0) := by
  obtain ⟨h1, h2, h3, -⟩ := h
  rintro ⟨q1, q2⟩
  have := ((mp_word_iff hsi q1).mpr q2).1
  omega
theorem mp_isw_3 {f : Nat → Int32} {n s e k v : Int} {si j : Nat} (h : mp_CT f n k s e v) (hsi : si < 14) (hj : (j : Int) < (mp_sl.getD si 0 : Int)) (hx : (f (s.toNat + j)).toInt ≠ ((mp_sb.getD si []).getD j 0).toInt) : ¬ (mp_TK f n.toNat s.toNat = 1 ∧ mp_WD f n.toNat s.toNat = mp_wk.getD si 0) := by
  obtain ⟨h1, -, -, -⟩ := h
  rintro ⟨q1, q2⟩
  have h4 := ((mp_word_iff hsi q1).mpr q2).2 j (by omega)
  rw [h1] at h4
  exact hx h4
theorem mp_TE_ge {f : Nat → Int32} {n p : Nat} : mp_TS f n p ≤ mp_TE f n p := by
  unfold mp_TE
  split
  · exact Nat.le_refl _
  · split
    · exact mp_scan_ge
    · split
      · exact mp_scan_ge
      · omega
theorem mp_CT_le {f : Nat → Int32} {n k s e v : Int} (h : mp_CT f n k s e v) (h0 : 0 ≤ s) : s ≤ e := by
  obtain ⟨h1, -, h3, -⟩ := h
  have := mp_TE_ge (f := f) (n := n.toNat) (p := s.toNat)
  omega
theorem mp_sw_0 {f : Nat → Int32} {s : Nat} {si : Nat} {i : Int} (h : i ≤ 0) : ∀ j : Nat, (j : Int) < i → (f (s + j)).toInt = ((mp_sb.getD si []).getD j 0).toInt := fun j hj => by omega
theorem mp_sw_s {f : Nat → Int32} {s : Nat} {si : Nat} {i i' : Int} (p : ∀ j : Nat, (j : Int) < i → (f (s + j)).toInt = ((mp_sb.getD si []).getD j 0).toInt) (h : (f (s + i.toNat)).toInt = ((mp_sb.getD si []).getD i.toNat 0).toInt) (hi : 0 ≤ i ∧ i' = i + 1) : ∀ j : Nat, (j : Int) < i' → (f (s + j)).toInt = ((mp_sb.getD si []).getD j 0).toInt := by
  intro j hj
  by_cases e : (j : Int) < i
  · exact p j e
  · have : j = i.toNat := by omega
    rw [this]; exact h
theorem mp_sw_ld {f : Nat → Int32} {z x i s : Int32} (h : z = f x.toNatClampNeg) (hx : x.toInt = s.toInt + i.toInt) (h0 : 0 ≤ s.toInt ∧ 0 ≤ i.toInt) : z.toInt = (f (s.toInt.toNat + i.toInt.toNat)).toInt := by
  rw [h, show x.toNatClampNeg = s.toInt.toNat + i.toInt.toNat by simp only [Int32.toNatClampNeg]; omega]
-- the text: its lines, over any data with operations (0 a sea, 1 a shut harbour, 2 a person, 3 dies, 4 tends, 5 a promise, 6 drunk, 7 on)
abbrev mp_Sc : Type := Int × Int × Int × Int × Int
abbrev mp_Rs (α : Type) : Type := Int × Nat × mp_Sc × α
abbrev mp_Op (α : Type) : Type := α → Nat → Int → Int → Int → Int → Int → α
def mp_NX (f : Nat → Int32) (n s : Nat) : Nat := mp_TS f n (mp_TE f n s)
section MPG
variable {α : Type}
def mp_kn (f : Nat → Int32) (n s : Nat) (lo hi bar : Int) (c : mp_Sc) (d : α) (ok : Int → Nat → mp_Rs α) : mp_Rs α :=
  if mp_TK f n s ≠ 2 then (1, s, c, d) else if mp_TV f n s < lo ∨ hi < mp_TV f n s ∨ mp_TV f n s = bar then (2, s, c, d) else ok (mp_TV f n s) (mp_NX f n s)
def mp_kw (f : Nat → Int32) (n s : Nat) (w : Int) (c : mp_Sc) (d : α) (ok : Nat → mp_Rs α) : mp_Rs α :=
  if mp_TK f n s = 1 ∧ mp_WD f n s = w then ok (mp_NX f n s) else (1, s, c, d)
variable {f : Nat → Int32} {n s : Nat} {lo hi bar w : Int} {c : mp_Sc} {d : α}
theorem mp_kn_ok {ok : Int → Nat → mp_Rs α} (h : mp_TK f n s = 2) (hv : lo ≤ mp_TV f n s ∧ mp_TV f n s ≤ hi ∧ mp_TV f n s ≠ bar) : mp_kn f n s lo hi bar c d ok = ok (mp_TV f n s) (mp_NX f n s) := by
  unfold mp_kn; rw [if_neg (fun q => q h), if_neg (by omega)]
theorem mp_kn_1 {ok : Int → Nat → mp_Rs α} (h : mp_TK f n s ≠ 2) : mp_kn f n s lo hi bar c d ok = (1, s, c, d) := by
  unfold mp_kn; rw [if_pos h]
theorem mp_kn_2 {ok : Int → Nat → mp_Rs α} (h : mp_TK f n s = 2) (hv : mp_TV f n s < lo ∨ hi < mp_TV f n s ∨ mp_TV f n s = bar) : mp_kn f n s lo hi bar c d ok = (2, s, c, d) := by
  unfold mp_kn; rw [if_neg (fun q => q h), if_pos hv]
theorem mp_kw_ok {ok : Nat → mp_Rs α} (h : mp_TK f n s = 1 ∧ mp_WD f n s = w) : mp_kw f n s w c d ok = ok (mp_NX f n s) := by
  unfold mp_kw; rw [if_pos h]
theorem mp_kw_1 {ok : Nat → mp_Rs α} (h : ¬ (mp_TK f n s = 1 ∧ mp_WD f n s = w)) : mp_kw f n s w c d ok = (1, s, c, d) := by
  unfold mp_kw; rw [if_neg h]
variable (op : mp_Op α) (f : Nat → Int32) (n : Nat)
def mp_gIsles (s : Nat) (c : mp_Sc) (d : α) : mp_Rs α :=
  mp_kw f n s 5165848 c d fun s => mp_kn f n s 1 6 (-1) c d fun v s => mp_kw f n s 47 c d fun s => mp_kn f n s 0 99 (-1) c d fun m s => (0, s, (v, m, c.2.2.1, c.2.2.2.1, c.2.2.2.2), d)
def mp_gSea (s : Nat) (c : mp_Sc) (d : α) : mp_Rs α :=
  mp_kn f n s 0 (c.1 - 1) (-1) c d fun a s => mp_kn f n s 0 (c.1 - 1) a c d fun b s => mp_kw f n s 296479 c d fun s => mp_kn f n s 1 20 (-1) c d fun v s => (0, s, c, op d 0 a b v 0 0)
def mp_gShut (s : Nat) (c : mp_Sc) (d : α) : mp_Rs α :=
  mp_kw f n s 380396 c d fun s => mp_kn f n s 0 (c.1 - 1) (-1) c d fun i s => mp_kn f n s 0 99 (-1) c d fun m s => (0, s, c, op d 1 i m 0 0 0)
/-- the marks of a person: at most two, each once -/
def mp_gPm (c : mp_Sc) (k : Int) : Nat → Bool → Bool → Nat → α → mp_Rs α
  | 0, _, _, s, d => (0, s, c, d)
  | r + 1, dy, te, s, d => if mp_TK f n s ≠ 1 then (0, s, c, d)
    else if dy = false ∧ mp_WD f n s = 85447 then mp_kn f n (mp_NX f n s) 0 99 (-1) c d fun v s => mp_gPm c k r true te s (op d 3 k v 0 0 0)
    else if te = false ∧ mp_WD f n s = 10737568 then mp_kn f n (mp_NX f n s) 0 100 (-1) c d fun v s => mp_gPm c k r dy true s (op d 4 k v 0 0 0)
    else (1, s, c, d)
def mp_gPerson (s : Nat) (c : mp_Sc) (d : α) : mp_Rs α :=
  if 6 ≤ c.2.2.1 then (3, s, c, d) else mp_kw f n (mp_NX f n s) 419 c d fun s => mp_kn f n s 0 (c.1 - 1) (-1) c d fun v s => mp_gPm op f n (c.1, c.2.1, c.2.2.1 + 1, c.2.2.2.1, c.2.2.2.2) c.2.2.1 2 false false s (op d 2 c.2.2.1 v 0 0 0)
/-- the marks of a promise -/
def mp_gQm (c : mp_Sc) (k : Int) : Nat → Bool → Bool → Nat → α → mp_Rs α
  | 0, _, _, s, d => (0, s, c, d)
  | r + 1, dr, on, s, d => if mp_TK f n s ≠ 1 then (0, s, c, d)
    else if dr = false ∧ mp_WD f n s = 2495756 then mp_gQm c k r true on (mp_NX f n s) (op d 6 k 0 0 0 0)
    else if on = false ∧ mp_WD f n s = 419 then mp_kn f n (mp_NX f n s) 0 (k - 1) (-1) c d fun v s => mp_gQm c k r dr true s (op d 7 k v 0 0 0)
    else (1, s, c, d)
def mp_gProm (s : Nat) (c : mp_Sc) (d : α) (ok : Nat → mp_Sc → α → mp_Rs α) : mp_Rs α :=
  if 10 ≤ c.2.2.2.1 then (3, s, c, d) else mp_kn f n (mp_NX f n s) 0 (c.2.2.1 - 1) (-1) c d fun a s => mp_kw f n s 555 c d fun s => mp_kn f n s 0 (c.2.2.1 - 1) a c d fun b s => mp_kw f n s 12532058 c d fun s => mp_kn f n s 1 1000000 (-1) c d fun w s => mp_kw f n s 374953 c d fun s => mp_kn f n s 0 c.2.1 (-1) c d fun m s => ok s (c.1, c.2.1, c.2.2.1, c.2.2.2.1 + 1, c.2.2.2.2) (op d 5 c.2.2.2.1 a b w m)
def mp_gPromise (s : Nat) (c : mp_Sc) (d : α) : mp_Rs α := mp_gProm op f n s c d fun s c2 d => mp_gQm op f n c2 c.2.2.2.1 2 false false s d
def mp_gLine (s : Nat) (c : mp_Sc) (d : α) : mp_Rs α :=
  if c.2.2.2.2 = 0 then mp_gIsles f n s c d
  else if mp_TK f n s = 1 ∧ mp_WD f n s = 13987 then mp_gSea op f n (mp_NX f n s) c d
  else if mp_TK f n s = 1 ∧ mp_WD f n s = 232608281 then mp_gPerson op f n s c d
  else if mp_TK f n s = 1 ∧ mp_WD f n s = 6465242723 then mp_gPromise op f n s c d
  else mp_gShut op f n s c d
/-- behind a line: its sign -/
def mp_aft (r : mp_Rs α) : mp_Rs α := if r.1 ≠ 0 then r else if mp_TK f n r.2.1 ≠ 3 then (1, r.2.1, r.2.2) else (0, mp_NX f n r.2.1, (r.2.2.1.1, r.2.2.1.2.1, r.2.2.1.2.2.1, r.2.2.1.2.2.2.1, r.2.2.1.2.2.2.2 + 1), r.2.2.2)
def mp_gText : Nat → Nat → mp_Sc → α → Option (mp_Rs α)
  | 0, _, _, _ => none
  | k + 1, s, c, d => if mp_TK f n s = 0 then some (0, s, c, d)
    else if (mp_aft f n (mp_gLine op f n s c d)).1 ≠ 0 then some (mp_aft f n (mp_gLine op f n s c d))
    else mp_gText k (mp_aft f n (mp_gLine op f n s c d)).2.1 (mp_aft f n (mp_gLine op f n s c d)).2.2.1 (mp_aft f n (mp_gLine op f n s c d)).2.2.2
end MPG
-- the data of a text: seas, shut harbours (100 for each isle), people (3 for each), promises (6 for each)
abbrev mp_AD : Type := (Nat → Int32) × (Nat → Bool) × (Nat → Int32) × (Nat → Int32)
def mp_gop : mp_Op mp_AD := fun d k a b v w m => match k with
  | 0 => (upd (upd d.1 (6 * a + b).toNat (Int32.ofInt v)) (6 * b + a).toNat (Int32.ofInt v), d.2)
  | 1 => (d.1, (fun j => if j = (100 * a + b).toNat then true else d.2.1 j), d.2.2)
  | 2 => (d.1, d.2.1, upd (upd (upd d.2.2.1 (3 * a).toNat (Int32.ofInt b)) (3 * a + 1).toNat (-1)) (3 * a + 2).toNat 0, d.2.2.2)
  | 3 => (d.1, d.2.1, upd d.2.2.1 (3 * a + 1).toNat (Int32.ofInt b), d.2.2.2)
  | 4 => (d.1, d.2.1, upd d.2.2.1 (3 * a + 2).toNat (Int32.ofInt b), d.2.2.2)
  | 5 => (d.1, d.2.1, d.2.2.1, upd (upd (upd (upd (upd (upd d.2.2.2 (6 * a).toNat (Int32.ofInt b)) (6 * a + 1).toNat (Int32.ofInt v)) (6 * a + 2).toNat (Int32.ofInt w)) (6 * a + 3).toNat (Int32.ofInt m)) (6 * a + 4).toNat 0) (6 * a + 5).toNat (-1))
  | 6 => (d.1, d.2.1, d.2.2.1, upd d.2.2.2 (6 * a + 4).toNat 1)
  | _ => (d.1, d.2.1, d.2.2.1, upd d.2.2.2 (6 * a + 5).toNat (Int32.ofInt b))
/-- the class's arrays as such data -/
def mp_pc (home death tending : Nat → Int32) : Nat → Int32 := fun j => if j % 3 = 0 then home (j / 3) else if j % 3 = 1 then death (j / 3) else tending (j / 3)
def mp_qc (ower owee full first drunk base : Nat → Int32) : Nat → Int32 := fun j => if j % 6 = 0 then ower (j / 6) else if j % 6 = 1 then owee (j / 6) else if j % 6 = 2 then full (j / 6) else if j % 6 = 3 then first (j / 6) else if j % 6 = 4 then drunk (j / 6) else base (j / 6)
def mp_shb (s : Nat → Int64) : Nat → Bool := fun j => decide (((s (2 * (j / 100) + j % 100 / 50)) >>> (Int64.ofNat (j % 50)) &&& 1) ≠ 0)
def mp_dC (seas : Nat → Int32) (shut : Nat → Int64) (home death tending ower owee full first drunk base : Nat → Int32) : mp_AD := (seas, mp_shb shut, mp_pc home death tending, mp_qc ower owee full first drunk base)
theorem mp_pc_0 {home death tending : Nat → Int32} {k : Nat} {v : Int32} : mp_pc (upd home k v) death tending = upd (mp_pc home death tending) (3 * k) v := by
  funext j
  show (if j % 3 = 0 then (if j / 3 = k then v else home (j / 3)) else if j % 3 = 1 then death (j / 3) else tending (j / 3)) = (if j = 3 * k then v else if j % 3 = 0 then home (j / 3) else if j % 3 = 1 then death (j / 3) else tending (j / 3))
  by_cases h : j = 3 * k
  · rw [if_pos h, if_pos (by omega), if_pos (by omega)]
  · rw [if_neg h]
    by_cases h0 : j % 3 = 0
    · rw [if_pos h0, if_pos h0, if_neg (by omega)]
    · rw [if_neg h0, if_neg h0]
theorem mp_pc_1 {home death tending : Nat → Int32} {k : Nat} {v : Int32} : mp_pc home (upd death k v) tending = upd (mp_pc home death tending) (3 * k + 1) v := by
  funext j
  show (if j % 3 = 0 then home (j / 3) else if j % 3 = 1 then (if j / 3 = k then v else death (j / 3)) else tending (j / 3)) = (if j = 3 * k + 1 then v else if j % 3 = 0 then home (j / 3) else if j % 3 = 1 then death (j / 3) else tending (j / 3))
  by_cases h : j = 3 * k + 1
  · rw [if_pos h, if_neg (by omega), if_pos (by omega), if_pos (by omega)]
  · rw [if_neg h]
    by_cases h0 : j % 3 = 0
    · rw [if_pos h0, if_pos h0]
    · rw [if_neg h0, if_neg h0]
      by_cases h1 : j % 3 = 1
      · rw [if_pos h1, if_pos h1, if_neg (by omega)]
      · rw [if_neg h1, if_neg h1]
theorem mp_pc_2 {home death tending : Nat → Int32} {k : Nat} {v : Int32} : mp_pc home death (upd tending k v) = upd (mp_pc home death tending) (3 * k + 2) v := by
  funext j
  show (if j % 3 = 0 then home (j / 3) else if j % 3 = 1 then death (j / 3) else (if j / 3 = k then v else tending (j / 3))) = (if j = 3 * k + 2 then v else if j % 3 = 0 then home (j / 3) else if j % 3 = 1 then death (j / 3) else tending (j / 3))
  by_cases h : j = 3 * k + 2
  · rw [if_pos h, if_neg (by omega), if_neg (by omega), if_pos (by omega)]
  · rw [if_neg h]
    by_cases h0 : j % 3 = 0
    · rw [if_pos h0, if_pos h0]
    · rw [if_neg h0, if_neg h0]
      by_cases h1 : j % 3 = 1
      · rw [if_pos h1, if_pos h1]
      · rw [if_neg h1, if_neg h1, if_neg (by omega)]
theorem mp_qc_0 {ower owee full first drunk base : Nat → Int32} {k : Nat} {v : Int32} : mp_qc (upd ower k v) owee full first drunk base = upd (mp_qc ower owee full first drunk base) (6 * k) v := by
  funext j
  show (if j % 6 = 0 then (if j / 6 = k then v else ower (j / 6)) else if j % 6 = 1 then owee (j / 6) else if j % 6 = 2 then full (j / 6) else if j % 6 = 3 then first (j / 6) else if j % 6 = 4 then drunk (j / 6) else base (j / 6)) = (if j = 6 * k then v else if j % 6 = 0 then ower (j / 6) else if j % 6 = 1 then owee (j / 6) else if j % 6 = 2 then full (j / 6) else if j % 6 = 3 then first (j / 6) else if j % 6 = 4 then drunk (j / 6) else base (j / 6))
  by_cases h : j = 6 * k
  · rw [if_pos h, if_pos (by omega), if_pos (by omega)]
  · rw [if_neg h]
    by_cases h0 : j % 6 = 0
    · rw [if_pos h0, if_pos h0, if_neg (by omega)]
    · rw [if_neg h0, if_neg h0]
theorem mp_qc_1 {ower owee full first drunk base : Nat → Int32} {k : Nat} {v : Int32} : mp_qc ower (upd owee k v) full first drunk base = upd (mp_qc ower owee full first drunk base) (6 * k + 1) v := by
  funext j
  show (if j % 6 = 0 then ower (j / 6) else if j % 6 = 1 then (if j / 6 = k then v else owee (j / 6)) else if j % 6 = 2 then full (j / 6) else if j % 6 = 3 then first (j / 6) else if j % 6 = 4 then drunk (j / 6) else base (j / 6)) = (if j = 6 * k + 1 then v else if j % 6 = 0 then ower (j / 6) else if j % 6 = 1 then owee (j / 6) else if j % 6 = 2 then full (j / 6) else if j % 6 = 3 then first (j / 6) else if j % 6 = 4 then drunk (j / 6) else base (j / 6))
  by_cases h : j = 6 * k + 1
  · rw [if_pos h, if_neg (by omega), if_pos (by omega), if_pos (by omega)]
  · rw [if_neg h]
    by_cases h0 : j % 6 = 0
    · rw [if_pos h0, if_pos h0]
    · rw [if_neg h0, if_neg h0]
      by_cases h1 : j % 6 = 1
      · rw [if_pos h1, if_pos h1, if_neg (by omega)]
      · rw [if_neg h1, if_neg h1]
theorem mp_qc_2 {ower owee full first drunk base : Nat → Int32} {k : Nat} {v : Int32} : mp_qc ower owee (upd full k v) first drunk base = upd (mp_qc ower owee full first drunk base) (6 * k + 2) v := by
  funext j
  show (if j % 6 = 0 then ower (j / 6) else if j % 6 = 1 then owee (j / 6) else if j % 6 = 2 then (if j / 6 = k then v else full (j / 6)) else if j % 6 = 3 then first (j / 6) else if j % 6 = 4 then drunk (j / 6) else base (j / 6)) = (if j = 6 * k + 2 then v else if j % 6 = 0 then ower (j / 6) else if j % 6 = 1 then owee (j / 6) else if j % 6 = 2 then full (j / 6) else if j % 6 = 3 then first (j / 6) else if j % 6 = 4 then drunk (j / 6) else base (j / 6))
  by_cases h : j = 6 * k + 2
  · rw [if_pos h, if_neg (by omega), if_neg (by omega), if_pos (by omega), if_pos (by omega)]
  · rw [if_neg h]
    by_cases h0 : j % 6 = 0
    · rw [if_pos h0, if_pos h0]
    · rw [if_neg h0, if_neg h0]
      by_cases h1 : j % 6 = 1
      · rw [if_pos h1, if_pos h1]
      · rw [if_neg h1, if_neg h1]
        by_cases h2 : j % 6 = 2
        · rw [if_pos h2, if_pos h2, if_neg (by omega)]
        · rw [if_neg h2, if_neg h2]
theorem mp_qc_3 {ower owee full first drunk base : Nat → Int32} {k : Nat} {v : Int32} : mp_qc ower owee full (upd first k v) drunk base = upd (mp_qc ower owee full first drunk base) (6 * k + 3) v := by
  funext j
  show (if j % 6 = 0 then ower (j / 6) else if j % 6 = 1 then owee (j / 6) else if j % 6 = 2 then full (j / 6) else if j % 6 = 3 then (if j / 6 = k then v else first (j / 6)) else if j % 6 = 4 then drunk (j / 6) else base (j / 6)) = (if j = 6 * k + 3 then v else if j % 6 = 0 then ower (j / 6) else if j % 6 = 1 then owee (j / 6) else if j % 6 = 2 then full (j / 6) else if j % 6 = 3 then first (j / 6) else if j % 6 = 4 then drunk (j / 6) else base (j / 6))
  by_cases h : j = 6 * k + 3
  · rw [if_pos h, if_neg (by omega), if_neg (by omega), if_neg (by omega), if_pos (by omega), if_pos (by omega)]
  · rw [if_neg h]
    by_cases h0 : j % 6 = 0
    · rw [if_pos h0, if_pos h0]
    · rw [if_neg h0, if_neg h0]
      by_cases h1 : j % 6 = 1
      · rw [if_pos h1, if_pos h1]
      · rw [if_neg h1, if_neg h1]
        by_cases h2 : j % 6 = 2
        · rw [if_pos h2, if_pos h2]
        · rw [if_neg h2, if_neg h2]
          by_cases h3 : j % 6 = 3
          · rw [if_pos h3, if_pos h3, if_neg (by omega)]
          · rw [if_neg h3, if_neg h3]
theorem mp_qc_4 {ower owee full first drunk base : Nat → Int32} {k : Nat} {v : Int32} : mp_qc ower owee full first (upd drunk k v) base = upd (mp_qc ower owee full first drunk base) (6 * k + 4) v := by
  funext j
  show (if j % 6 = 0 then ower (j / 6) else if j % 6 = 1 then owee (j / 6) else if j % 6 = 2 then full (j / 6) else if j % 6 = 3 then first (j / 6) else if j % 6 = 4 then (if j / 6 = k then v else drunk (j / 6)) else base (j / 6)) = (if j = 6 * k + 4 then v else if j % 6 = 0 then ower (j / 6) else if j % 6 = 1 then owee (j / 6) else if j % 6 = 2 then full (j / 6) else if j % 6 = 3 then first (j / 6) else if j % 6 = 4 then drunk (j / 6) else base (j / 6))
  by_cases h : j = 6 * k + 4
  · rw [if_pos h, if_neg (by omega), if_neg (by omega), if_neg (by omega), if_neg (by omega), if_pos (by omega), if_pos (by omega)]
  · rw [if_neg h]
    by_cases h0 : j % 6 = 0
    · rw [if_pos h0, if_pos h0]
    · rw [if_neg h0, if_neg h0]
      by_cases h1 : j % 6 = 1
      · rw [if_pos h1, if_pos h1]
      · rw [if_neg h1, if_neg h1]
        by_cases h2 : j % 6 = 2
        · rw [if_pos h2, if_pos h2]
        · rw [if_neg h2, if_neg h2]
          by_cases h3 : j % 6 = 3
          · rw [if_pos h3, if_pos h3]
          · rw [if_neg h3, if_neg h3]
            by_cases h4 : j % 6 = 4
            · rw [if_pos h4, if_pos h4, if_neg (by omega)]
            · rw [if_neg h4, if_neg h4]
theorem mp_qc_5 {ower owee full first drunk base : Nat → Int32} {k : Nat} {v : Int32} : mp_qc ower owee full first drunk (upd base k v) = upd (mp_qc ower owee full first drunk base) (6 * k + 5) v := by
  funext j
  show (if j % 6 = 0 then ower (j / 6) else if j % 6 = 1 then owee (j / 6) else if j % 6 = 2 then full (j / 6) else if j % 6 = 3 then first (j / 6) else if j % 6 = 4 then drunk (j / 6) else (if j / 6 = k then v else base (j / 6))) = (if j = 6 * k + 5 then v else if j % 6 = 0 then ower (j / 6) else if j % 6 = 1 then owee (j / 6) else if j % 6 = 2 then full (j / 6) else if j % 6 = 3 then first (j / 6) else if j % 6 = 4 then drunk (j / 6) else base (j / 6))
  by_cases h : j = 6 * k + 5
  · rw [if_pos h, if_neg (by omega), if_neg (by omega), if_neg (by omega), if_neg (by omega), if_neg (by omega), if_pos (by omega)]
  · rw [if_neg h]
    by_cases h0 : j % 6 = 0
    · rw [if_pos h0, if_pos h0]
    · rw [if_neg h0, if_neg h0]
      by_cases h1 : j % 6 = 1
      · rw [if_pos h1, if_pos h1]
      · rw [if_neg h1, if_neg h1]
        by_cases h2 : j % 6 = 2
        · rw [if_pos h2, if_pos h2]
        · rw [if_neg h2, if_neg h2]
          by_cases h3 : j % 6 = 3
          · rw [if_pos h3, if_pos h3]
          · rw [if_neg h3, if_neg h3]
            by_cases h4 : j % 6 = 4
            · rw [if_pos h4, if_pos h4]
            · rw [if_neg h4, if_neg h4, if_neg (by omega)]
theorem mp_ofi {x : Int32} {v : Int} (h : x.toInt = v) : Int32.ofInt v = x := by rw [← h]; exact Int32.ofInt_toInt x
theorem mp_rs4 {α : Type} {p p' : Nat} {c c' : mp_Sc} {d d' : α} (hp : p = p') (hc : c = c') (hd : d = d') : ((0, p, c, d) : mp_Rs α) = (0, p', c', d') := by rw [hp, hc, hd]
theorem mp_nx_of {f : Nat → Int32} {n k s e v s' : Int} (h : s' = ((mp_TS f n.toNat e.toNat : Nat) : Int)) (ct : mp_CT f n k s e v) : s'.toNat = mp_NX f n.toNat s.toNat := by
  have h3 := ct.2.2.1
  unfold mp_NX
  rw [← Int.toNat_natCast (mp_TE f n.toNat s.toNat), ← h3, h, Int.toNat_natCast]
theorem mp_nx_i {f : Nat → Int32} {n s s' : Int} (h : s' = ((mp_NX f n.toNat s.toNat : Nat) : Int)) : s'.toNat = mp_NX f n.toNat s.toNat := by rw [h, Int.toNat_natCast]
theorem mp_sc5 {a b c d e a' b' c' d' e' : Int} (h1 : a = a') (h2 : b = b') (h3 : c = c') (h4 : d = d') (h5 : e = e') : ((a, b, c, d, e) : mp_Sc) = (a', b', c', d', e') := by rw [h1, h2, h3, h4, h5]
theorem mp_op_sea {seas seas' : Nat → Int32} {shut : Nat → Int64} {home death tending ower owee full first drunk base : Nat → Int32} {a b v : Int} {x0 x1 x2 : Int32} (h : seas' = upd (upd seas (6 * x0.toInt + x1.toInt).toNat x2) (6 * x1.toInt + x0.toInt).toNat x2) (ha : x0.toInt = a) (hb : x1.toInt = b) (hv : x2.toInt = v) : mp_gop (mp_dC seas shut home death tending ower owee full first drunk base) 0 a b v 0 0 = mp_dC seas' shut home death tending ower owee full first drunk base := by
  subst ha hb hv h
  show (upd (upd seas _ (Int32.ofInt x2.toInt)) _ (Int32.ofInt x2.toInt), _) = _
  rw [Int32.ofInt_toInt]
  rfl
theorem mp_ofi64 {v : Int} (h : 0 ≤ v ∧ v < 64) : Int64.ofInt v = Int64.ofNat v.toNat := by
  have h1 : ∀ k : Nat, k < 64 → Int64.ofInt (k : Int) = Int64.ofNat k := by decide +kernel
  have h2 := h1 v.toNat (by omega)
  rw [show ((v.toNat : Nat) : Int) = v by omega] at h2
  exact h2
theorem mp_and1 {a b : Int64} : (a ||| b) &&& 1 = (a &&& 1) ||| (b &&& 1) := by
  apply Int64.toBitVec_inj.1
  rw [Int64.toBitVec_and, Int64.toBitVec_or, Int64.toBitVec_or, Int64.toBitVec_and, Int64.toBitVec_and]
  ext i h
  simp [Bool.and_or_distrib_right]
theorem mp_bits_c : ∀ k : Nat, k < 50 → ∀ q : Nat, q < 50 → ((1 : Int64) <<< Int64.ofNat q) >>> Int64.ofNat k &&& 1 = if k = q then 1 else 0 := by decide +kernel
theorem mp_bits {k q : Nat} (hk : k < 50) (hq : q < 50) (y : Int64) : ((y ||| (1 <<< Int64.ofNat q)) >>> Int64.ofNat k &&& 1 ≠ 0) ↔ (k = q ∨ (y >>> Int64.ofNat k &&& 1 ≠ 0)) := by
  rw [Int64.shiftRight_or, mp_and1, mp_bits_c k hk q hq]
  by_cases e : k = q
  · rw [if_pos e]
    exact ⟨fun _ => Or.inl e, fun _ h => absurd (Int64.or_eq_zero_iff.mp h).2 (by decide)⟩
  · rw [if_neg e, Int64.or_zero]
    exact ⟨Or.inr, fun h => h.resolve_left e⟩
theorem mp_shb_cell {s s' : Nat → Int64} {a m : Int} {x b : Int64} {i : Nat} (h : s' = vp_updL s i (x ||| b)) (hi : (i : Int) = 2 * a + m / 50) (hx : x = s i) (hb : b = 1 <<< Int64.ofInt (m % 50)) (ha : 0 ≤ a) (hm : 0 ≤ m ∧ m < 100) : mp_shb s' = fun j => if j = (100 * a + m).toNat then true else mp_shb s j := by
  funext j
  have hb2 : b = 1 <<< Int64.ofNat (m % 50).toNat := by
    rw [hb, mp_ofi64 (by omega)]
  unfold mp_shb
  rw [h, hx, hb2]
  by_cases e : 2 * (j / 100) + j % 100 / 50 = i
  · rw [e]
    show decide (((if i = i then (s i ||| (1 <<< Int64.ofNat (m % 50).toNat)) else s i) >>> Int64.ofNat (j % 50) &&& 1) ≠ 0) = _
    rw [if_pos rfl]
    have hbit := mp_bits (k := j % 50) (q := (m % 50).toNat) (by omega) (by omega) (s i)
    by_cases q : j = (100 * a + m).toNat
    · rw [if_pos q]
      exact decide_eq_true (hbit.mpr (Or.inl (by omega)))
    · rw [if_neg q]
      have hne : ¬ j % 50 = (m % 50).toNat := by omega
      by_cases r : (s i >>> Int64.ofNat (j % 50) &&& 1) ≠ 0
      · rw [decide_eq_true r]
        exact decide_eq_true (hbit.mpr (Or.inr r))
      · rw [decide_eq_false r]
        exact decide_eq_false (fun w => (hbit.mp w).elim hne r)
  · rw [if_neg (by omega)]
    show decide (((if 2 * (j / 100) + j % 100 / 50 = i then _ else s (2 * (j / 100) + j % 100 / 50)) >>> Int64.ofNat (j % 50) &&& 1) ≠ 0) = _
    rw [if_neg e]
-- one mark further
section MPM
variable {α : Type} {op : mp_Op α} {f : Nat → Int32} {n s r : Nat} {c : mp_Sc} {k : Int} {d : α} {a b : Bool}
theorem mp_pm_0 : mp_gPm op f n c k 0 a b s d = (0, s, c, d) := rfl
theorem mp_pm_e (h : mp_TK f n s ≠ 1) : mp_gPm op f n c k r a b s d = (0, s, c, d) := by
  cases r with
  | zero => rfl
  | succ r => show (if mp_TK f n s ≠ 1 then _ else _) = _; rw [if_pos h]
theorem mp_pm_d (h : mp_TK f n s = 1) (ha : a = false) (hw : mp_WD f n s = 85447) : mp_gPm op f n c k (r + 1) a b s d = mp_kn f n (mp_NX f n s) 0 99 (-1) c d fun v s => mp_gPm op f n c k r true b s (op d 3 k v 0 0 0) := by
  show (if mp_TK f n s ≠ 1 then _ else if a = false ∧ mp_WD f n s = 85447 then _ else _) = _
  rw [if_neg (fun q => q h), if_pos ⟨ha, hw⟩]
theorem mp_pm_t (h : mp_TK f n s = 1) (ha : ¬ (a = false ∧ mp_WD f n s = 85447)) (hb : b = false) (hw : mp_WD f n s = 10737568) : mp_gPm op f n c k (r + 1) a b s d = mp_kn f n (mp_NX f n s) 0 100 (-1) c d fun v s => mp_gPm op f n c k r a true s (op d 4 k v 0 0 0) := by
  show (if mp_TK f n s ≠ 1 then _ else if a = false ∧ mp_WD f n s = 85447 then _ else if b = false ∧ mp_WD f n s = 10737568 then _ else _) = _
  rw [if_neg (fun q => q h), if_neg ha, if_pos ⟨hb, hw⟩]
theorem mp_pm_f (h : mp_TK f n s = 1) (ha : ¬ (a = false ∧ mp_WD f n s = 85447)) (hb : ¬ (b = false ∧ mp_WD f n s = 10737568)) : mp_gPm op f n c k (r + 1) a b s d = (1, s, c, d) := by
  show (if mp_TK f n s ≠ 1 then _ else if a = false ∧ mp_WD f n s = 85447 then _ else if b = false ∧ mp_WD f n s = 10737568 then _ else _) = _
  rw [if_neg (fun q => q h), if_neg ha, if_neg hb]
theorem mp_qm_e (h : mp_TK f n s ≠ 1) : mp_gQm op f n c k r a b s d = (0, s, c, d) := by
  cases r with
  | zero => rfl
  | succ r => show (if mp_TK f n s ≠ 1 then _ else _) = _; rw [if_pos h]
theorem mp_qm_d (h : mp_TK f n s = 1) (ha : a = false) (hw : mp_WD f n s = 2495756) : mp_gQm op f n c k (r + 1) a b s d = mp_gQm op f n c k r true b (mp_NX f n s) (op d 6 k 0 0 0 0) := by
  show (if mp_TK f n s ≠ 1 then _ else if a = false ∧ mp_WD f n s = 2495756 then _ else _) = _
  rw [if_neg (fun q => q h), if_pos ⟨ha, hw⟩]
theorem mp_qm_o (h : mp_TK f n s = 1) (ha : ¬ (a = false ∧ mp_WD f n s = 2495756)) (hb : b = false) (hw : mp_WD f n s = 419) : mp_gQm op f n c k (r + 1) a b s d = mp_kn f n (mp_NX f n s) 0 (k - 1) (-1) c d fun v s => mp_gQm op f n c k r a true s (op d 7 k v 0 0 0) := by
  show (if mp_TK f n s ≠ 1 then _ else if a = false ∧ mp_WD f n s = 2495756 then _ else if b = false ∧ mp_WD f n s = 419 then _ else _) = _
  rw [if_neg (fun q => q h), if_neg ha, if_pos ⟨hb, hw⟩]
theorem mp_qm_f (h : mp_TK f n s = 1) (ha : ¬ (a = false ∧ mp_WD f n s = 2495756)) (hb : ¬ (b = false ∧ mp_WD f n s = 419)) : mp_gQm op f n c k (r + 1) a b s d = (1, s, c, d) := by
  show (if mp_TK f n s ≠ 1 then _ else if a = false ∧ mp_WD f n s = 2495756 then _ else if b = false ∧ mp_WD f n s = 419 then _ else _) = _
  rw [if_neg (fun q => q h), if_neg ha, if_neg hb]
end MPM
theorem mp_sh63_c : ∀ k : Nat, k < 64 → (Int32.ofNat k).toInt64 &&& 63 = Int64.ofNat k := by decide +kernel
theorem mp_sh63 {y : Int32} {v : Int} (h : y.toInt = v) (h0 : 0 ≤ v ∧ v < 64) : y.toInt64 &&& 63 = Int64.ofInt v := by
  have e : y = Int32.ofNat v.toNat := by
    apply Int32.toInt_inj.mp
    rw [Int32.toInt_ofNat_of_lt (by omega)]; omega
  rw [e, mp_sh63_c _ (by omega), mp_ofi64 h0]
theorem mp_op_shut {seas : Nat → Int32} {shut shut' : Nat → Int64} {home death tending ower owee full first drunk base : Nat → Int32} {a b : Int} {x0 x1 : Int32} (h : mp_shb shut' = fun j => if j = (100 * x0.toInt + x1.toInt).toNat then true else mp_shb shut j) (ha : x0.toInt = a) (hb : x1.toInt = b) : mp_gop (mp_dC seas shut home death tending ower owee full first drunk base) 1 a b 0 0 0 = mp_dC seas shut' home death tending ower owee full first drunk base := by
  subst ha hb
  unfold mp_dC
  rw [h]
  rfl
theorem mp_op_per {seas : Nat → Int32} {shut : Nat → Int64} {home death tending home' death' tending' ower owee full first drunk base : Nat → Int32} {k v : Int} {p x : Int32} (h1 : home' = upd home p.toInt.toNat x) (h2 : death' = upd death p.toInt.toNat (-1)) (h3 : tending' = upd tending p.toInt.toNat 0) (hk : p.toInt = k) (hv : x.toInt = v) (h0 : 0 ≤ k) : mp_gop (mp_dC seas shut home death tending ower owee full first drunk base) 2 k v 0 0 0 = mp_dC seas shut home' death' tending' ower owee full first drunk base := by
  subst h1 h2 h3 hk hv
  unfold mp_dC
  rw [mp_pc_2, mp_pc_1, mp_pc_0]
  show (seas, mp_shb shut, upd (upd (upd (mp_pc home death tending) (3 * p.toInt).toNat (Int32.ofInt x.toInt)) (3 * p.toInt + 1).toNat (-1)) (3 * p.toInt + 2).toNat 0, _) = _
  rw [Int32.ofInt_toInt, show (3 * p.toInt).toNat = 3 * p.toInt.toNat by omega, show (3 * p.toInt + 1).toNat = 3 * p.toInt.toNat + 1 by omega, show (3 * p.toInt + 2).toNat = 3 * p.toInt.toNat + 2 by omega]
theorem mp_op_die {seas : Nat → Int32} {shut : Nat → Int64} {home death tending death' ower owee full first drunk base : Nat → Int32} {k v : Int} {p x : Int32} (h2 : death' = upd death p.toInt.toNat x) (hk : p.toInt = k) (hv : x.toInt = v) (h0 : 0 ≤ k) : mp_gop (mp_dC seas shut home death tending ower owee full first drunk base) 3 k v 0 0 0 = mp_dC seas shut home death' tending ower owee full first drunk base := by
  subst h2 hk hv
  unfold mp_dC
  rw [mp_pc_1]
  show (seas, mp_shb shut, upd (mp_pc home death tending) (3 * p.toInt + 1).toNat (Int32.ofInt x.toInt), _) = _
  rw [Int32.ofInt_toInt, show (3 * p.toInt + 1).toNat = 3 * p.toInt.toNat + 1 by omega]
theorem mp_op_ten {seas : Nat → Int32} {shut : Nat → Int64} {home death tending tending' ower owee full first drunk base : Nat → Int32} {k v : Int} {p x : Int32} (h2 : tending' = upd tending p.toInt.toNat x) (hk : p.toInt = k) (hv : x.toInt = v) (h0 : 0 ≤ k) : mp_gop (mp_dC seas shut home death tending ower owee full first drunk base) 4 k v 0 0 0 = mp_dC seas shut home death tending' ower owee full first drunk base := by
  subst h2 hk hv
  unfold mp_dC
  rw [mp_pc_2]
  show (seas, mp_shb shut, upd (mp_pc home death tending) (3 * p.toInt + 2).toNat (Int32.ofInt x.toInt), _) = _
  rw [Int32.ofInt_toInt, show (3 * p.toInt + 2).toNat = 3 * p.toInt.toNat + 2 by omega]
theorem mp_op_pro {seas : Nat → Int32} {shut : Nat → Int64} {home death tending ower owee full first drunk base ower' owee' full' first' drunk' base' : Nat → Int32} {k a b w m : Int} {p xa xb xw xm : Int32} (h0 : ower' = upd ower p.toInt.toNat xa) (h1 : owee' = upd owee p.toInt.toNat xb) (h2 : full' = upd full p.toInt.toNat xw) (h3 : first' = upd first p.toInt.toNat xm) (h4 : drunk' = upd drunk p.toInt.toNat 0) (h5 : base' = upd base p.toInt.toNat (-1)) (hk : p.toInt = k) (ha : xa.toInt = a) (hb : xb.toInt = b) (hw : xw.toInt = w) (hm : xm.toInt = m) (hn : 0 ≤ k) : mp_gop (mp_dC seas shut home death tending ower owee full first drunk base) 5 k a b w m = mp_dC seas shut home death tending ower' owee' full' first' drunk' base' := by
  subst h0 h1 h2 h3 h4 h5 hk ha hb hw hm
  unfold mp_dC
  rw [mp_qc_5, mp_qc_4, mp_qc_3, mp_qc_2, mp_qc_1, mp_qc_0]
  show (seas, mp_shb shut, mp_pc home death tending, upd (upd (upd (upd (upd (upd (mp_qc ower owee full first drunk base) (6 * p.toInt).toNat (Int32.ofInt xa.toInt)) (6 * p.toInt + 1).toNat (Int32.ofInt xb.toInt)) (6 * p.toInt + 2).toNat (Int32.ofInt xw.toInt)) (6 * p.toInt + 3).toNat (Int32.ofInt xm.toInt)) (6 * p.toInt + 4).toNat 0) (6 * p.toInt + 5).toNat (-1)) = _
  rw [Int32.ofInt_toInt, Int32.ofInt_toInt, Int32.ofInt_toInt, Int32.ofInt_toInt, show (6 * p.toInt).toNat = 6 * p.toInt.toNat by omega, show (6 * p.toInt + 1).toNat = 6 * p.toInt.toNat + 1 by omega, show (6 * p.toInt + 2).toNat = 6 * p.toInt.toNat + 2 by omega, show (6 * p.toInt + 3).toNat = 6 * p.toInt.toNat + 3 by omega, show (6 * p.toInt + 4).toNat = 6 * p.toInt.toNat + 4 by omega, show (6 * p.toInt + 5).toNat = 6 * p.toInt.toNat + 5 by omega]
theorem mp_op_dru {seas : Nat → Int32} {shut : Nat → Int64} {home death tending ower owee full first drunk base drunk' : Nat → Int32} {k : Int} {p : Int32} (h4 : drunk' = upd drunk p.toInt.toNat 1) (hk : p.toInt = k) (hn : 0 ≤ k) : mp_gop (mp_dC seas shut home death tending ower owee full first drunk base) 6 k 0 0 0 0 = mp_dC seas shut home death tending ower owee full first drunk' base := by
  subst h4 hk
  unfold mp_dC
  rw [mp_qc_4]
  show (seas, mp_shb shut, mp_pc home death tending, upd (mp_qc ower owee full first drunk base) (6 * p.toInt + 4).toNat 1) = _
  rw [show (6 * p.toInt + 4).toNat = 6 * p.toInt.toNat + 4 by omega]
theorem mp_op_on {seas : Nat → Int32} {shut : Nat → Int64} {home death tending ower owee full first drunk base base' : Nat → Int32} {k v : Int} {p x : Int32} (h5 : base' = upd base p.toInt.toNat x) (hk : p.toInt = k) (hv : x.toInt = v) (hn : 0 ≤ k) : mp_gop (mp_dC seas shut home death tending ower owee full first drunk base) 7 k v 0 0 0 = mp_dC seas shut home death tending ower owee full first drunk base' := by
  subst h5 hk hv
  unfold mp_dC
  rw [mp_qc_5]
  show (seas, mp_shb shut, mp_pc home death tending, upd (mp_qc ower owee full first drunk base) (6 * p.toInt + 5).toNat (Int32.ofInt x.toInt)) = _
  rw [Int32.ofInt_toInt, show (6 * p.toInt + 5).toNat = 6 * p.toInt.toNat + 5 by omega]
section MPX
variable {α : Type} {op : mp_Op α} {f : Nat → Int32} {n s s1 fu : Nat} {c c1 c2 : mp_Sc} {d d1 : α} {r : mp_Rs α}
theorem mp_tx_0 (h : mp_TK f n s = 0) : mp_gText op f n 1 s c d = some (0, s, c, d) := by
  show (if mp_TK f n s = 0 then _ else _) = _
  rw [if_pos h]
theorem mp_aft_bad {k : Int} (h : k ≠ 0) : mp_aft f n (k, s, c, d) = (k, s, c, d) := if_pos h
theorem mp_aft_r {r : mp_Rs α} (h : r.1 ≠ 0) : mp_aft f n r = r := if_pos h
theorem mp_aft_ok (hs : mp_TK f n s = 3) : mp_aft f n (0, s, c, d) = (0, mp_NX f n s, (c.1, c.2.1, c.2.2.1, c.2.2.2.1, c.2.2.2.2 + 1), d) := by
  unfold mp_aft
  rw [if_neg (fun q => q rfl), if_neg (fun q => q hs)]
theorem mp_aft_no (hs : mp_TK f n s ≠ 3) : mp_aft f n (0, s, c, d) = (1, s, c, d) := by
  unfold mp_aft
  rw [if_neg (fun q => q rfl), if_pos hs]
theorem mp_tx_s (hk : mp_TK f n s ≠ 0) (hl : mp_gLine op f n s c d = (0, s1, c1, d1)) (hs : mp_TK f n s1 = 3) (hc : c2 = (c1.1, c1.2.1, c1.2.2.1, c1.2.2.2.1, c1.2.2.2.2 + 1)) (h : mp_gText op f n fu (mp_NX f n s1) c2 d1 = some r) : mp_gText op f n (fu + 1) s c d = some r := by
  show (if mp_TK f n s = 0 then _ else if (mp_aft f n (mp_gLine op f n s c d)).1 ≠ 0 then _ else mp_gText op f n fu (mp_aft f n (mp_gLine op f n s c d)).2.1 (mp_aft f n (mp_gLine op f n s c d)).2.2.1 (mp_aft f n (mp_gLine op f n s c d)).2.2.2) = _
  rw [if_neg hk, hl, mp_aft_ok hs, if_neg (fun q => q rfl), ← hc]
  exact h
theorem mp_tx_l (hk : mp_TK f n s ≠ 0) (hl : (mp_gLine op f n s c d).1 ≠ 0) : mp_gText op f n 1 s c d = some (mp_gLine op f n s c d) := by
  show (if mp_TK f n s = 0 then _ else if (mp_aft f n (mp_gLine op f n s c d)).1 ≠ 0 then some (mp_aft f n (mp_gLine op f n s c d)) else _) = _
  rw [if_neg hk, mp_aft_r hl, if_pos hl]
theorem mp_tx_g (hk : mp_TK f n s ≠ 0) (hl : mp_gLine op f n s c d = (0, s1, c1, d1)) (hs : mp_TK f n s1 ≠ 3) : mp_gText op f n 1 s c d = some (1, s1, c1, d1) := by
  show (if mp_TK f n s = 0 then _ else if (mp_aft f n (mp_gLine op f n s c d)).1 ≠ 0 then some (mp_aft f n (mp_gLine op f n s c d)) else _) = _
  rw [if_neg hk, hl, mp_aft_no hs, if_pos (show (1 : Int) ≠ 0 by decide)]
end MPX
theorem mp_fill_s {α : Type} {f g : Nat → α} {v : α} {i i' : Int} (p : ∀ j : Nat, (j : Int) < i → f j = v) (h : g i.toNat = v) (hg : ∀ j : Nat, j ≠ i.toNat → g j = f j) (hi : 0 ≤ i ∧ i' = i + 1) : ∀ j : Nat, (j : Int) < i' → g j = v := by
  intro j hj
  by_cases e : j = i.toNat
  · rw [e]; exact h
  · rw [hg j e]; exact p j (by omega)
theorem mp_TE_3 {f : Nat → Int32} {n k s e v : Int} (h : mp_CT f n k s e v) (h0 : 0 ≤ s) (hk : k = 3) : s + 1 ≤ e := by
  obtain ⟨h1, h2, h3, -⟩ := h
  have hk1 : mp_TK f n.toNat s.toNat = 3 := by omega
  unfold mp_TK at hk1
  unfold mp_TE at h3
  rw [h1] at hk1 h3
  by_cases e1 : n.toNat ≤ s.toNat
  · rw [if_pos e1] at hk1; exact absurd hk1 (by decide)
  · rw [if_neg e1] at hk1 h3
    by_cases e2 : mp_isLe (f s.toNat).toInt = true
    · rw [if_pos e2] at hk1; exact absurd hk1 (by decide)
    · rw [if_neg e2] at hk1 h3
      by_cases e3 : mp_isDi (f s.toNat).toInt = true
      · rw [if_pos e3] at hk1; exact absurd hk1 (by decide)
      · rw [if_neg e3] at h3
        omega
theorem mp_TS_ge {f : Nat → Int32} {n p : Nat} : p ≤ mp_TS f n p := mp_scan_ge
theorem mp_TK0 {f : Nat → Int32} {n k s e v : Int} (h : mp_CT f n k s e v) (h0 : 0 ≤ s ∧ 0 ≤ n) (hk : k ≠ 0) : s < n := by
  obtain ⟨h1, h2, -, -⟩ := h
  unfold mp_TK at h2
  rw [h1] at h2
  by_cases e1 : n.toNat ≤ s.toNat
  · rw [if_pos e1] at h2; exact absurd h2 hk
  · omega
-- the reference goes on behind a fault: what it knows of the grammar's answer X
def mp_GO {α : Type} (X : mp_Rs α) (b q : Int) (K : mp_Rs α) : Prop := (b = 0 ∧ X = K) ∨ (b ≠ 0 ∧ X.1 = b ∧ ((X.2.1 : Nat) : Int) = q)
/-- a word asked for -/
def mp_AK (f : Nat → Int32) (n b0 q0 l0 b1 q1 l1 w : Int) : Prop := (b0 ≠ 0 ∧ b1 = b0 ∧ q1 = q0) ∨ (b0 = 0 ∧ (mp_TK f n.toNat l0.toNat = 1 ∧ mp_WD f n.toNat l0.toNat = w) ∧ b1 = 0 ∧ l1 = ((mp_NX f n.toNat l0.toNat : Nat) : Int)) ∨ (b0 = 0 ∧ ¬ (mp_TK f n.toNat l0.toNat = 1 ∧ mp_WD f n.toNat l0.toNat = w) ∧ b1 = 1 ∧ q1 = l0)
/-- a number asked for -/
def mp_NK (f : Nat → Int32) (n b0 q0 l0 b1 q1 l1 lo hi r : Int) : Prop := (b0 ≠ 0 ∧ b1 = b0 ∧ q1 = q0) ∨ (b0 = 0 ∧ mp_TK f n.toNat l0.toNat = 2 ∧ lo ≤ mp_TV f n.toNat l0.toNat ∧ mp_TV f n.toNat l0.toNat ≤ hi ∧ r = mp_TV f n.toNat l0.toNat ∧ b1 = 0 ∧ l1 = ((mp_NX f n.toNat l0.toNat : Nat) : Int)) ∨ (b0 = 0 ∧ mp_TK f n.toNat l0.toNat ≠ 2 ∧ b1 = 1 ∧ q1 = l0) ∨ (b0 = 0 ∧ mp_TK f n.toNat l0.toNat = 2 ∧ (mp_TV f n.toNat l0.toNat < lo ∨ hi < mp_TV f n.toNat l0.toNat) ∧ b1 = 2 ∧ q1 = l0)
section MPO
variable {α : Type} {X : mp_Rs α} {f : Nat → Int32} {n b0 q0 l0 b1 q1 l1 lo hi lo' hi' r w w' : Int} {c : mp_Sc} {d : α}
theorem mp_go_w {ok : Nat → mp_Rs α} (h : mp_AK f n b0 q0 l0 b1 q1 l1 w) (hw : w = w') (h0 : 0 ≤ l0) (g : mp_GO X b0 q0 (mp_aft f n.toNat (mp_kw f n.toNat l0.toNat w' c d ok))) : mp_GO X b1 q1 (mp_aft f n.toNat (ok l1.toNat)) := by
  subst hw
  rcases h with ⟨h1, h2, h3⟩ | ⟨h1, h2, h3, h4⟩ | ⟨h1, h2, h3, h4⟩
  · rcases g with ⟨g1, -⟩ | ⟨-, g2, g3⟩
    · exact absurd g1 h1
    · exact Or.inr ⟨by omega, by omega, by omega⟩
  · rcases g with ⟨-, g2⟩ | ⟨g1, -⟩
    · refine Or.inl ⟨h3, ?_⟩
      rw [g2, mp_kw_ok h2, h4, Int.toNat_natCast]
    · exact absurd h1 g1
  · rcases g with ⟨-, g2⟩ | ⟨g1, -⟩
    · rw [mp_kw_1 h2, mp_aft_bad (by decide)] at g2
      refine Or.inr ⟨by omega, ?_, ?_⟩
      · rw [g2]; show (1 : Int) = b1; omega
      · rw [g2]; show ((l0.toNat : Nat) : Int) = q1; omega
    · exact absurd h1 g1
theorem mp_go_n {ok : Int → Nat → mp_Rs α} {bar : Int} (h : mp_NK f n b0 q0 l0 b1 q1 l1 lo hi r) (el : lo = lo') (eh : hi = hi') (h0 : 0 ≤ l0) (hb : b0 ≠ 0 ∨ mp_TK f n.toNat l0.toNat ≠ 2 ∨ mp_TV f n.toNat l0.toNat ≠ bar ∨ lo > bar) (g : mp_GO X b0 q0 (mp_aft f n.toNat (mp_kn f n.toNat l0.toNat lo' hi' bar c d ok))) : mp_GO X b1 q1 (mp_aft f n.toNat (ok r l1.toNat)) := by
  subst el eh
  rcases h with ⟨h1, h2, h3⟩ | ⟨h1, h2, h3, h4, h5, h6, h7⟩ | ⟨h1, h2, h3, h4⟩ | ⟨h1, h2, h3, h4, h5⟩
  · rcases g with ⟨g1, -⟩ | ⟨-, g2, g3⟩
    · exact absurd g1 h1
    · exact Or.inr ⟨by omega, by omega, by omega⟩
  · rcases g with ⟨-, g2⟩ | ⟨g1, -⟩
    · refine Or.inl ⟨h6, ?_⟩
      rw [g2, mp_kn_ok h2 ⟨h3, h4, by omega⟩, h7, Int.toNat_natCast, h5]
    · exact absurd h1 g1
  · rcases g with ⟨-, g2⟩ | ⟨g1, -⟩
    · rw [mp_kn_1 h2, mp_aft_bad (by decide)] at g2
      refine Or.inr ⟨by omega, ?_, ?_⟩
      · rw [g2]; show (1 : Int) = b1; omega
      · rw [g2]; show ((l0.toNat : Nat) : Int) = q1; omega
    · exact absurd h1 g1
  · rcases g with ⟨-, g2⟩ | ⟨g1, -⟩
    · rw [mp_kn_2 h2 (by omega), mp_aft_bad (by decide)] at g2
      refine Or.inr ⟨by omega, ?_, ?_⟩
      · rw [g2]; show (2 : Int) = b1; omega
      · rw [g2]; show ((l0.toNat : Nat) : Int) = q1; omega
    · exact absurd h1 g1
/-- a fault that is said: the answer has it -/
theorem mp_go_f {K K' : mp_Rs α} (hb : b0 = 0) (g : mp_GO X b0 q0 K) (h1 : K.1 = b1 ∧ b1 ≠ 0) (h2 : ((K.2.1 : Nat) : Int) = q1) : mp_GO X b1 q1 K' := by
  rcases g with ⟨-, g2⟩ | ⟨g1, -⟩
  · subst g2; exact Or.inr ⟨h1.2, h1.1, h2⟩
  · exact absurd hb g1
theorem mp_go_any {K K' : mp_Rs α} (h : mp_GO X b0 q0 K) (hb : b0 ≠ 0) (e : b1 = b0 := by rfl) (e2 : q1 = q0 := by rfl) : mp_GO X b1 q1 K' := by
  subst e e2
  rcases h with ⟨h1, -⟩ | h
  · exact absurd h1 hb
  · exact Or.inr h
theorem mp_go_eq {K K' : mp_Rs α} (h : mp_GO X b0 q0 K) (e : b0 ≠ 0 ∨ K = K') (eb : b1 = b0 := by rfl) (eq : q1 = q0 := by rfl) : mp_GO X b1 q1 K' := by
  subst eb eq
  rcases h with ⟨h1, h2⟩ | h
  · rcases e with e | e
    · exact absurd h1 e
    · exact Or.inl ⟨h1, h2.trans e⟩
  · exact Or.inr h
theorem mp_kn_bar {ok : Int → Nat → mp_Rs α} {bar : Int} {s m : Nat} (hk : mp_TK f m s = 2) (hv : mp_TV f m s = bar) : mp_aft f m (mp_kn f m s lo hi bar c d ok) = (2, s, c, d) := by
  rw [mp_kn_2 hk (Or.inr (Or.inr hv)), mp_aft_bad (by decide)]
end MPO
/-- the reference's row 4 as such data -/
def mp_dM (sea isShut person promise : Nat → Int32) : mp_AD := (fun j => sea (144 + j), fun j => decide ((isShut (2400 + j)).toInt ≠ 0), fun j => person (72 + j), fun j => promise (240 + j))
theorem mp_sh_upd {f : Nat → Int32} {o i : Nat} {v : Int32} : (fun j => upd f (o + i) v (o + j)) = upd (fun j => f (o + j)) i v := by
  funext j
  show (if o + j = o + i then v else f (o + j)) = (if j = i then v else f (o + j))
  by_cases h : j = i
  · rw [if_pos (by omega), if_pos h]
  · rw [if_neg (by omega), if_neg h]
theorem mp_om_sea {sea s1 s2 isShut person promise : Nat → Int32} {a b v : Int} {i1 i2 x : Int32} (h1 : s1 = upd sea i1.toNatClampNeg x) (h2 : s2 = upd s1 i2.toNatClampNeg x) (e1 : i1.toInt = 144 + 6 * a + b) (e2 : i2.toInt = 144 + 6 * b + a) (ha : 0 ≤ a) (hb : 0 ≤ b) (hv : x.toInt = v) : mp_gop (mp_dM sea isShut person promise) 0 a b v 0 0 = mp_dM s2 isShut person promise := by
  subst h1 h2 hv
  unfold mp_dM
  rw [show i1.toNatClampNeg = 144 + (6 * a + b).toNat by simp only [Int32.toNatClampNeg]; omega, show i2.toNatClampNeg = 144 + (6 * b + a).toNat by simp only [Int32.toNatClampNeg]; omega, mp_sh_upd, mp_sh_upd]
  show (upd (upd _ _ (Int32.ofInt x.toInt)) _ (Int32.ofInt x.toInt), _) = _
  rw [Int32.ofInt_toInt]
theorem mp_om_per {sea isShut person p1 promise : Nat → Int32} {k v : Int} {o : Nat} {i x : Int32} (h1 : p1 = upd person i.toNatClampNeg x) (e1 : i.toInt = 72 + 3 * k + o) (hk : 0 ≤ k) : mp_dM sea isShut p1 promise = ((mp_dM sea isShut person promise).1, (mp_dM sea isShut person promise).2.1, upd (mp_dM sea isShut person promise).2.2.1 (3 * k + o).toNat x, (mp_dM sea isShut person promise).2.2.2) := by
  subst h1
  unfold mp_dM
  rw [show i.toNatClampNeg = 72 + (3 * k + o).toNat by simp only [Int32.toNatClampNeg]; omega, mp_sh_upd]
theorem mp_om_pro {sea isShut person promise p1 : Nat → Int32} {k v : Int} {o : Nat} {i x : Int32} (h1 : p1 = upd promise i.toNatClampNeg x) (e1 : i.toInt = 240 + 6 * k + o) (hk : 0 ≤ k) : mp_dM sea isShut person p1 = ((mp_dM sea isShut person promise).1, (mp_dM sea isShut person promise).2.1, (mp_dM sea isShut person promise).2.2.1, upd (mp_dM sea isShut person promise).2.2.2 (6 * k + o).toNat x) := by
  subst h1
  unfold mp_dM
  rw [show i.toNatClampNeg = 240 + (6 * k + o).toNat by simp only [Int32.toNatClampNeg]; omega, mp_sh_upd]
-- the reference's lines: pieces of the grammar as the reference walks them
def mp_rm (a b : Bool) : Nat := (if a then 0 else 1) + (if b then 0 else 1)
section MPR
variable {α : Type} (op : mp_Op α) (f : Nat → Int32) (n : Nat)
def mp_gPer2 (s : Nat) (c : mp_Sc) (d : α) : mp_Rs α :=
  mp_kw f n s 419 c d fun s => mp_kn f n s 0 (c.1 - 1) (-1) c d fun v s => mp_gPm op f n (c.1, c.2.1, c.2.2.1 + 1, c.2.2.2.1, c.2.2.2.2) c.2.2.1 2 false false s (op d 2 c.2.2.1 v 0 0 0)
def mp_gPro2 (s : Nat) (c : mp_Sc) (d : α) : mp_Rs α :=
  mp_kn f n s 0 (c.2.2.1 - 1) (-1) c d fun a s => mp_kw f n s 555 c d fun s => mp_kn f n s 0 (c.2.2.1 - 1) a c d fun b s => mp_kw f n s 12532058 c d fun s => mp_kn f n s 1 1000000 (-1) c d fun w s => mp_kw f n s 374953 c d fun s => mp_kn f n s 0 c.2.1 (-1) c d fun m s => mp_gQm op f n (c.1, c.2.1, c.2.2.1, c.2.2.2.1 + 1, c.2.2.2.2) c.2.2.2.1 2 false false s (op d 5 c.2.2.2.1 a b w m)
def mp_gLin2 (s : Nat) (c : mp_Sc) (d : α) : mp_Rs α :=
  if mp_TK f n s = 1 ∧ mp_WD f n s = 13987 then mp_gSea op f n (mp_NX f n s) c d
  else if mp_TK f n s = 1 ∧ mp_WD f n s = 232608281 then mp_gPerson op f n s c d
  else if mp_TK f n s = 1 ∧ mp_WD f n s = 6465242723 then mp_gPromise op f n s c d
  else mp_gShut op f n s c d
variable {op : mp_Op α} {f : Nat → Int32} {n m s : Nat} {c : mp_Sc} {d d0 d1 : α}
theorem mp_gl_is (h : c.2.2.2.2 = 0) : mp_gLine op f n s c d = mp_gIsles f n s c d := if_pos h
theorem mp_gl_not (h : c.2.2.2.2 ≠ 0) : mp_gLine op f n s c d = mp_gLin2 op f n s c d := if_neg h
theorem mp_gl_sea (h : mp_TK f n s = 1 ∧ mp_WD f n s = 13987) : mp_gLin2 op f n s c d = mp_gSea op f n (mp_NX f n s) c d := if_pos h
theorem mp_gl_per (h : mp_TK f n s = 1 ∧ mp_WD f n s = 232608281) (hp : c.2.2.1 < 6) : mp_gLin2 op f n s c d = mp_gPer2 op f n (mp_NX f n s) c d := by
  unfold mp_gLin2
  rw [if_neg (by omega), if_pos h]
  exact if_neg (by omega)
theorem mp_gl_per3 (h : mp_TK f n s = 1 ∧ mp_WD f n s = 232608281) (hp : 6 ≤ c.2.2.1) : mp_gLin2 op f n s c d = (3, s, c, d) := by
  unfold mp_gLin2
  rw [if_neg (by omega), if_pos h]
  exact if_pos hp
theorem mp_gl_pro (h : mp_TK f n s = 1 ∧ mp_WD f n s = 6465242723) (hp : c.2.2.2.1 < 10) : mp_gLin2 op f n s c d = mp_gPro2 op f n (mp_NX f n s) c d := by
  unfold mp_gLin2
  rw [if_neg (by omega), if_neg (by omega), if_pos h]
  exact if_neg (by omega)
theorem mp_gl_pro3 (h : mp_TK f n s = 1 ∧ mp_WD f n s = 6465242723) (hp : 10 ≤ c.2.2.2.1) : mp_gLin2 op f n s c d = (3, s, c, d) := by
  unfold mp_gLin2
  rw [if_neg (by omega), if_neg (by omega), if_pos h]
  exact if_pos hp
theorem mp_gl_shut (h1 : ¬ (mp_TK f n s = 1 ∧ mp_WD f n s = 13987)) (h2 : ¬ (mp_TK f n s = 1 ∧ mp_WD f n s = 232608281)) (h3 : ¬ (mp_TK f n s = 1 ∧ mp_WD f n s = 6465242723)) : mp_gLin2 op f n s c d = mp_gShut op f n s c d := by
  unfold mp_gLin2
  rw [if_neg h1, if_neg h2, if_neg h3]
variable {Y : mp_Rs α} {b0 q0 l0 b1 q1 l1 k : Int} {a e a' e' : Bool}
theorem mp_go_tr {K K' : mp_Rs α} (g : mp_GO Y b0 q0 K) (hb : b0 = 0) (g2 : mp_GO K b1 q1 K') : mp_GO Y b1 q1 K' := by
  rcases g with ⟨-, g⟩ | ⟨g, -⟩
  · rw [g]; exact g2
  · exact absurd hb g
theorem mp_go_0 {K : mp_Rs α} (hb : b0 = 0) : mp_GO K b0 q0 K := Or.inl ⟨hb, rfl⟩
theorem mp_go_sub {K : Int → mp_Rs α} {x x' : Int} (g : mp_GO Y b0 q0 (K x)) (e : x = x') : mp_GO Y b0 q0 (K x') := e ▸ g
-- marks of a person
theorem mp_go_p1 (g : mp_GO Y b0 q0 (mp_aft f m (mp_gPm op f m c k (mp_rm a e) a e s d0))) (hd : b0 ≠ 0 ∨ d0 = d1) (ha : b0 ≠ 0 ∨ a = a') (he : b0 ≠ 0 ∨ e = e') : mp_GO Y b0 q0 (mp_aft f m (mp_gPm op f m c k (mp_rm a' e') a' e' s d1)) := by
  by_cases hb : b0 = 0
  · obtain rfl := hd.resolve_left (fun q => q hb); obtain rfl := ha.resolve_left (fun q => q hb); obtain rfl := he.resolve_left (fun q => q hb)
    exact g
  · exact mp_go_any g hb
theorem mp_go_d (g : mp_GO Y b0 q0 (mp_aft f m (mp_gPm op f m c k (mp_rm a e) a e l0.toNat d))) (h1 : mp_TK f m l0.toNat = 1) (hw : mp_WD f m l0.toNat = 85447) (ha : a = false) (hl : l1 = ((mp_NX f m l0.toNat : Nat) : Int)) : mp_GO Y b0 q0 (mp_aft f m (mp_kn f m l1.toNat 0 99 (-1) c d fun v s => mp_gPm op f m c k (mp_rm true e) true e s (op d 3 k v 0 0 0))) := by
  subst ha
  have e2 : mp_NX f m l0.toNat = l1.toNat := by omega
  rw [show mp_rm false e = mp_rm true e + 1 by cases e <;> rfl, mp_pm_d h1 rfl hw, e2] at g
  exact g
theorem mp_go_t (g : mp_GO Y b0 q0 (mp_aft f m (mp_gPm op f m c k (mp_rm a e) a e l0.toNat d))) (h1 : mp_TK f m l0.toNat = 1) (ha : ¬ (a = false ∧ mp_WD f m l0.toNat = 85447)) (hw : mp_WD f m l0.toNat = 10737568) (he : e = false) (hl : l1 = ((mp_NX f m l0.toNat : Nat) : Int)) : mp_GO Y b0 q0 (mp_aft f m (mp_kn f m l1.toNat 0 100 (-1) c d fun v s => mp_gPm op f m c k (mp_rm a true) a true s (op d 4 k v 0 0 0))) := by
  subst he
  have e2 : mp_NX f m l0.toNat = l1.toNat := by omega
  rw [show mp_rm a false = mp_rm a true + 1 by cases a <;> rfl, mp_pm_t h1 ha rfl hw, e2] at g
  exact g
theorem mp_go_m {K' : mp_Rs α} (g : mp_GO Y b0 q0 (mp_aft f m (mp_gPm op f m c k (mp_rm a e) a e l0.toNat d))) (hb : b0 = 0) (h1 : mp_TK f m l0.toNat = 1) (ha : ¬ (a = false ∧ mp_WD f m l0.toNat = 85447)) (he : ¬ (e = false ∧ mp_WD f m l0.toNat = 10737568)) (hb1 : b1 = 1) (hq : q1 = l0) (h0 : 0 ≤ l0) : mp_GO Y b1 q1 K' := by
  have k : ∀ r : Nat, mp_aft f m (mp_gPm op f m c k r a e l0.toNat d) = (1, l0.toNat, c, d) := by
    intro r
    cases r with
    | zero => exact mp_aft_no (by omega)
    | succ r => rw [mp_pm_f h1 ha he, mp_aft_bad (by decide)]
  rw [k] at g
  exact mp_go_f hb g ⟨by show (1 : Int) = b1; omega, by omega⟩ (by show ((l0.toNat : Nat) : Int) = q1; omega)
theorem mp_go_e {r : Nat} (g : mp_GO Y b0 q0 (mp_aft f m (mp_gPm op f m c k r a e l0.toNat d))) (h : b0 ≠ 0 ∨ mp_TK f m l0.toNat ≠ 1) : mp_GO Y b0 q0 (mp_aft f m (0, l0.toNat, c, d)) := by
  rcases h with h | h
  · exact mp_go_any g h
  · rw [mp_pm_e h] at g; exact g
-- marks of a promise
theorem mp_go_p2 (g : mp_GO Y b0 q0 (mp_aft f m (mp_gQm op f m c k (mp_rm a e) a e s d0))) (hd : b0 ≠ 0 ∨ d0 = d1) (ha : b0 ≠ 0 ∨ a = a') (he : b0 ≠ 0 ∨ e = e') : mp_GO Y b0 q0 (mp_aft f m (mp_gQm op f m c k (mp_rm a' e') a' e' s d1)) := by
  by_cases hb : b0 = 0
  · obtain rfl := hd.resolve_left (fun q => q hb); obtain rfl := ha.resolve_left (fun q => q hb); obtain rfl := he.resolve_left (fun q => q hb)
    exact g
  · exact mp_go_any g hb
theorem mp_go_qd (g : mp_GO Y b0 q0 (mp_aft f m (mp_gQm op f m c k (mp_rm a e) a e l0.toNat d))) (h1 : mp_TK f m l0.toNat = 1) (hw : mp_WD f m l0.toNat = 2495756) (ha : a = false) (hl : l1 = ((mp_NX f m l0.toNat : Nat) : Int)) : mp_GO Y b0 q0 (mp_aft f m (mp_gQm op f m c k (mp_rm true e) true e l1.toNat (op d 6 k 0 0 0 0))) := by
  subst ha
  have e2 : mp_NX f m l0.toNat = l1.toNat := by omega
  rw [show mp_rm false e = mp_rm true e + 1 by cases e <;> rfl, mp_qm_d h1 rfl hw, e2] at g
  exact g
theorem mp_go_qo (g : mp_GO Y b0 q0 (mp_aft f m (mp_gQm op f m c k (mp_rm a e) a e l0.toNat d))) (h1 : mp_TK f m l0.toNat = 1) (ha : ¬ (a = false ∧ mp_WD f m l0.toNat = 2495756)) (hw : mp_WD f m l0.toNat = 419) (he : e = false) (hl : l1 = ((mp_NX f m l0.toNat : Nat) : Int)) : mp_GO Y b0 q0 (mp_aft f m (mp_kn f m l1.toNat 0 (k - 1) (-1) c d fun v s => mp_gQm op f m c k (mp_rm a true) a true s (op d 7 k v 0 0 0))) := by
  subst he
  have e2 : mp_NX f m l0.toNat = l1.toNat := by omega
  rw [show mp_rm a false = mp_rm a true + 1 by cases a <;> rfl, mp_qm_o h1 ha rfl hw, e2] at g
  exact g
theorem mp_go_qm {K' : mp_Rs α} (g : mp_GO Y b0 q0 (mp_aft f m (mp_gQm op f m c k (mp_rm a e) a e l0.toNat d))) (hb : b0 = 0) (h1 : mp_TK f m l0.toNat = 1) (ha : ¬ (a = false ∧ mp_WD f m l0.toNat = 2495756)) (he : ¬ (e = false ∧ mp_WD f m l0.toNat = 419)) (hb1 : b1 = 1) (hq : q1 = l0) (h0 : 0 ≤ l0) : mp_GO Y b1 q1 K' := by
  have k : ∀ r : Nat, mp_aft f m (mp_gQm op f m c k r a e l0.toNat d) = (1, l0.toNat, c, d) := by
    intro r
    cases r with
    | zero => exact mp_aft_no (by omega)
    | succ r => rw [mp_qm_f h1 ha he, mp_aft_bad (by decide)]
  rw [k] at g
  exact mp_go_f hb g ⟨by show (1 : Int) = b1; omega, by omega⟩ (by show ((l0.toNat : Nat) : Int) = q1; omega)
theorem mp_go_qe {r : Nat} (g : mp_GO Y b0 q0 (mp_aft f m (mp_gQm op f m c k r a e l0.toNat d))) (h : b0 ≠ 0 ∨ mp_TK f m l0.toNat ≠ 1) : mp_GO Y b0 q0 (mp_aft f m (0, l0.toNat, c, d)) := by
  rcases h with h | h
  · exact mp_go_any g h
  · rw [mp_qm_e h] at g; exact g
/-- the sign behind a line -/
def mp_EK (f : Nat → Int32) (n b0 q0 l0 b1 q1 l1 : Int) : Prop := (b0 ≠ 0 ∧ b1 = b0 ∧ q1 = q0) ∨ (b0 = 0 ∧ mp_TK f n.toNat l0.toNat = 3 ∧ b1 = 0 ∧ l1 = ((mp_NX f n.toNat l0.toNat : Nat) : Int)) ∨ (b0 = 0 ∧ mp_TK f n.toNat l0.toNat ≠ 3 ∧ b1 = 1 ∧ q1 = l0)
theorem mp_go_ends {n : Int} (h : mp_EK f n b0 q0 l0 b1 q1 l1) (h0 : 0 ≤ l0) (g : mp_GO Y b0 q0 (mp_aft f n.toNat (0, l0.toNat, c, d))) : mp_GO Y b1 q1 (0, l1.toNat, (c.1, c.2.1, c.2.2.1, c.2.2.2.1, c.2.2.2.2 + 1), d) := by
  rcases h with ⟨h1, h2, h3⟩ | ⟨h1, h2, h3, h4⟩ | ⟨h1, h2, h3, h4⟩
  · rw [h2, h3]; exact mp_go_any g h1
  · refine Or.inl ⟨h3, ?_⟩
    rcases g with ⟨-, g⟩ | ⟨g, -⟩
    · rw [g, mp_aft_ok h2, h4, Int.toNat_natCast]
    · exact absurd h1 g
  · rw [mp_aft_no h2] at g
    exact mp_go_f h1 g ⟨by show (1 : Int) = b1; omega, by omega⟩ (by show ((l0.toNat : Nat) : Int) = q1; omega)
/-- how far the reference is in its text: what the rest of it answers, the whole of it answers -/
def mp_TX (op : mp_Op α) (f : Nat → Int32) (m : Nat) (G : mp_Rs α → Prop) (b q : Int) (s : Nat) (c : mp_Sc) (d : α) : Prop := (b = 0 ∧ ∀ (R : mp_Rs α) (fu : Nat), mp_gText op f m fu s c d = some R → G R) ∨ (b ≠ 0 ∧ ∃ R : mp_Rs α, G R ∧ R.1 = b ∧ ((R.2.1 : Nat) : Int) = q)
theorem mp_TX_0 (hb : b0 = 0) : mp_TX op f m (fun R => ∃ fu, mp_gText op f m fu s c d = some R) b0 q0 s c d := Or.inl ⟨hb, fun _ fu h => ⟨fu, h⟩⟩
theorem mp_TX_s {G : mp_Rs α → Prop} {s1 : Nat} {c1 : mp_Sc} (h : mp_TX op f m G b0 q0 s c d) (hb : b0 = 0) (hk : mp_TK f m s ≠ 0) (g : mp_GO (mp_aft f m (mp_gLine op f m s c d)) b1 q1 (0, s1, c1, d1)) : mp_TX op f m G b1 q1 s1 c1 d1 := by
  rcases h with ⟨-, h⟩ | ⟨h, -⟩
  · rcases g with ⟨g1, g2⟩ | ⟨g1, g2, g3⟩
    · refine Or.inl ⟨g1, fun R fu e => h R (fu + 1) ?_⟩
      show (if mp_TK f m s = 0 then _ else if (mp_aft f m (mp_gLine op f m s c d)).1 ≠ 0 then _ else mp_gText op f m fu (mp_aft f m (mp_gLine op f m s c d)).2.1 (mp_aft f m (mp_gLine op f m s c d)).2.2.1 (mp_aft f m (mp_gLine op f m s c d)).2.2.2) = some R
      rw [if_neg hk, g2, if_neg (fun q => q rfl)]
      exact e
    · refine Or.inr ⟨g1, mp_aft f m (mp_gLine op f m s c d), h _ 1 ?_, g2, g3⟩
      show (if mp_TK f m s = 0 then _ else if (mp_aft f m (mp_gLine op f m s c d)).1 ≠ 0 then some (mp_aft f m (mp_gLine op f m s c d)) else _) = _
      rw [if_neg hk, if_pos (by rw [g2]; exact g1)]
  · exact absurd hb h
theorem mp_TX_end {G : mp_Rs α → Prop} (h : mp_TX op f m G b0 q0 s c d) (hb : b0 = 0) (hk : mp_TK f m s = 0) : G (0, s, c, d) := by
  rcases h with ⟨-, h⟩ | ⟨h, -⟩
  · exact h _ 1 (mp_tx_0 hk)
  · exact absurd hb h
theorem mp_TX_bad {G : mp_Rs α → Prop} (h : mp_TX op f m G b0 q0 s c d) (hb : b0 ≠ 0) : ∃ R : mp_Rs α, G R ∧ R.1 = b0 ∧ ((R.2.1 : Nat) : Int) = q0 := by
  rcases h with ⟨h, -⟩ | ⟨-, h⟩
  · exact absurd h hb
  · exact h
end MPR
-- the reference's row 4, written
theorem mp_om_p2 {sea isShut person p1 p2 p3 promise : Nat → Int32} {k v : Int} {i0 i1 i2 x : Int32} (h1 : p1 = upd person i0.toNatClampNeg x) (h2 : p2 = upd p1 i1.toNatClampNeg (-1)) (h3 : p3 = upd p2 i2.toNatClampNeg 0) (e0 : i0.toInt = 72 + 3 * k) (e1 : i1.toInt = 73 + 3 * k) (e2 : i2.toInt = 74 + 3 * k) (hk : 0 ≤ k) (hv : x.toInt = v) : mp_gop (mp_dM sea isShut person promise) 2 k v 0 0 0 = mp_dM sea isShut p3 promise := by
  subst h1 h2 h3 hv
  unfold mp_dM
  rw [show i0.toNatClampNeg = 72 + (3 * k).toNat by simp only [Int32.toNatClampNeg]; omega, show i1.toNatClampNeg = 72 + (3 * k + 1).toNat by simp only [Int32.toNatClampNeg]; omega, show i2.toNatClampNeg = 72 + (3 * k + 2).toNat by simp only [Int32.toNatClampNeg]; omega, mp_sh_upd, mp_sh_upd, mp_sh_upd]
  show (_, _, upd (upd (upd _ _ (Int32.ofInt x.toInt)) _ _) _ _, _) = _
  rw [Int32.ofInt_toInt]
theorem mp_om_die {sea isShut person p1 promise : Nat → Int32} {k v : Int} {i x : Int32} (h1 : p1 = upd person i.toNatClampNeg x) (e1 : i.toInt = 73 + 3 * k) (hk : 0 ≤ k) (hv : x.toInt = v) : mp_gop (mp_dM sea isShut person promise) 3 k v 0 0 0 = mp_dM sea isShut p1 promise := by
  subst h1 hv
  unfold mp_dM
  rw [show i.toNatClampNeg = 72 + (3 * k + 1).toNat by simp only [Int32.toNatClampNeg]; omega, mp_sh_upd]
  show (_, _, upd _ _ (Int32.ofInt x.toInt), _) = _
  rw [Int32.ofInt_toInt]
theorem mp_om_ten {sea isShut person p1 promise : Nat → Int32} {k v : Int} {i x : Int32} (h1 : p1 = upd person i.toNatClampNeg x) (e1 : i.toInt = 74 + 3 * k) (hk : 0 ≤ k) (hv : x.toInt = v) : mp_gop (mp_dM sea isShut person promise) 4 k v 0 0 0 = mp_dM sea isShut p1 promise := by
  subst h1 hv
  unfold mp_dM
  rw [show i.toNatClampNeg = 72 + (3 * k + 2).toNat by simp only [Int32.toNatClampNeg]; omega, mp_sh_upd]
  show (_, _, upd _ _ (Int32.ofInt x.toInt), _) = _
  rw [Int32.ofInt_toInt]
theorem mp_om_q5 {sea isShut person promise p1 p2 p3 p4 p5 p6 : Nat → Int32} {k a b w m : Int} {i0 i1 i2 i3 i4 i5 xa xb xw xm : Int32} (h1 : p1 = upd promise i0.toNatClampNeg xa) (h2 : p2 = upd p1 i1.toNatClampNeg xb) (h3 : p3 = upd p2 i2.toNatClampNeg xw) (h4 : p4 = upd p3 i3.toNatClampNeg xm) (h5 : p5 = upd p4 i4.toNatClampNeg 0) (h6 : p6 = upd p5 i5.toNatClampNeg (-1)) (e0 : i0.toInt = 240 + 6 * k) (e1 : i1.toInt = 241 + 6 * k) (e2 : i2.toInt = 242 + 6 * k) (e3 : i3.toInt = 243 + 6 * k) (e4 : i4.toInt = 244 + 6 * k) (e5 : i5.toInt = 245 + 6 * k) (hk : 0 ≤ k) (ha : xa.toInt = a) (hb : xb.toInt = b) (hw : xw.toInt = w) (hm : xm.toInt = m) : mp_gop (mp_dM sea isShut person promise) 5 k a b w m = mp_dM sea isShut person p6 := by
  subst h1 h2 h3 h4 h5 h6 ha hb hw hm
  unfold mp_dM
  rw [show i0.toNatClampNeg = 240 + (6 * k).toNat by simp only [Int32.toNatClampNeg]; omega, show i1.toNatClampNeg = 240 + (6 * k + 1).toNat by simp only [Int32.toNatClampNeg]; omega, show i2.toNatClampNeg = 240 + (6 * k + 2).toNat by simp only [Int32.toNatClampNeg]; omega, show i3.toNatClampNeg = 240 + (6 * k + 3).toNat by simp only [Int32.toNatClampNeg]; omega, show i4.toNatClampNeg = 240 + (6 * k + 4).toNat by simp only [Int32.toNatClampNeg]; omega, show i5.toNatClampNeg = 240 + (6 * k + 5).toNat by simp only [Int32.toNatClampNeg]; omega, mp_sh_upd, mp_sh_upd, mp_sh_upd, mp_sh_upd, mp_sh_upd, mp_sh_upd]
  show (_, _, _, upd (upd (upd (upd (upd (upd _ _ (Int32.ofInt xa.toInt)) _ (Int32.ofInt xb.toInt)) _ (Int32.ofInt xw.toInt)) _ (Int32.ofInt xm.toInt)) _ _) _ _) = _
  rw [Int32.ofInt_toInt, Int32.ofInt_toInt, Int32.ofInt_toInt, Int32.ofInt_toInt]
theorem mp_om_dru {sea isShut person p1 promise : Nat → Int32} {k : Int} {i : Int32} (h1 : p1 = upd promise i.toNatClampNeg 1) (e1 : i.toInt = 244 + 6 * k) (hk : 0 ≤ k) : mp_gop (mp_dM sea isShut person promise) 6 k 0 0 0 0 = mp_dM sea isShut person p1 := by
  subst h1
  unfold mp_dM
  rw [show i.toNatClampNeg = 240 + (6 * k + 4).toNat by simp only [Int32.toNatClampNeg]; omega, mp_sh_upd]
  rfl
theorem mp_om_on {sea isShut person p1 promise : Nat → Int32} {k v : Int} {i x : Int32} (h1 : p1 = upd promise i.toNatClampNeg x) (e1 : i.toInt = 245 + 6 * k) (hk : 0 ≤ k) (hv : x.toInt = v) : mp_gop (mp_dM sea isShut person promise) 7 k v 0 0 0 = mp_dM sea isShut person p1 := by
  subst h1 hv
  unfold mp_dM
  rw [show i.toNatClampNeg = 240 + (6 * k + 5).toNat by simp only [Int32.toNatClampNeg]; omega, mp_sh_upd]
  show (_, _, _, upd _ _ (Int32.ofInt x.toInt)) = _
  rw [Int32.ofInt_toInt]
theorem mp_om_shut {sea isShut s1 person promise : Nat → Int32} {a b : Int} {i : Int32} (h1 : s1 = upd isShut i.toNatClampNeg 1) (e1 : i.toInt = 2400 + 100 * a + b) (ha : 0 ≤ a) (hb : 0 ≤ b) : mp_gop (mp_dM sea isShut person promise) 1 a b 0 0 0 = mp_dM sea s1 person promise := by
  subst h1
  unfold mp_dM
  refine congrArg (fun q => (_, q, _)) (funext fun j => ?_)
  show (if j = (100 * a + b).toNat then true else decide ((isShut (2400 + j)).toInt ≠ 0)) = decide ((if 2400 + j = i.toNatClampNeg then (1 : Int32) else isShut (2400 + j)).toInt ≠ 0)
  have e2 : i.toNatClampNeg = 2400 + (100 * a + b).toNat := by simp only [Int32.toNatClampNeg]; omega
  rw [e2]
  by_cases h : j = (100 * a + b).toNat
  · rw [if_pos h, if_pos (by omega)]; rfl
  · rw [if_neg h, if_neg (by omega)]
theorem mp_NK_c {f : Nat → Int32} {n b0 q0 l0 b1 q1 l1 lo hi lo' hi' r : Int} (h : mp_NK f n b0 q0 l0 b1 q1 l1 lo hi r) (el : lo = lo') (eh : hi = hi') : mp_NK f n b0 q0 l0 b1 q1 l1 lo' hi' r := by
  subst el eh; exact h
theorem mp_fillo {f g : Nat → Int32} {i v : Int32} {k k' : Int} {o : Nat} (p : ∀ j : Nat, (j : Int) < k → f (o + j) = v) (h : g = upd f i.toNatClampNeg v) (hi : i.toInt = o + k) (h0 : 0 ≤ k ∧ k' = k + 1) : ∀ j : Nat, (j : Int) < k' → g (o + j) = v := by
  intro j hj
  have e : i.toNatClampNeg = o + k.toNat := by simp only [Int32.toNatClampNeg]; omega
  rw [h, e]
  by_cases q : j = k.toNat
  · rw [q]; exact if_pos rfl
  · show (if o + j = o + k.toNat then v else f (o + j)) = v
    rw [if_neg (by omega)]
    exact p j (by omega)
section MPR2
variable {α : Type} {op : mp_Op α} {f : Nat → Int32} {m : Nat} {c : mp_Sc} {d : α} {Y : mp_Rs α} {b0 q0 l0 b1 q1 l1 lo hi bar : Int}
theorem mp_go_bar {ok : Int → Nat → mp_Rs α} {K' : mp_Rs α} (g : mp_GO Y b0 q0 (mp_aft f m (mp_kn f m l0.toNat lo hi bar c d ok))) (hb : b0 = 0) (hk : mp_TK f m l0.toNat = 2) (hv : mp_TV f m l0.toNat = bar) (h1 : b1 = 2) (hq : q1 = l0) (h0 : 0 ≤ l0) : mp_GO Y b1 q1 K' := by
  rw [mp_kn_bar hk hv] at g
  exact mp_go_f hb g ⟨by show (2 : Int) = b1; omega, by omega⟩ (by show ((l0.toNat : Nat) : Int) = q1; omega)
theorem mp_go_3 {K' : mp_Rs α} (g : mp_GO Y b0 q0 (mp_aft f m (mp_gLin2 op f m l0.toNat c d))) (hb : b0 = 0) (h : (mp_TK f m l0.toNat = 1 ∧ mp_WD f m l0.toNat = 232608281 ∧ 6 ≤ c.2.2.1) ∨ (mp_TK f m l0.toNat = 1 ∧ mp_WD f m l0.toNat = 6465242723 ∧ 10 ≤ c.2.2.2.1)) (h1 : b1 = 3) (hq : q1 = l0) (h0 : 0 ≤ l0) : mp_GO Y b1 q1 K' := by
  have e : mp_gLin2 op f m l0.toNat c d = (3, l0.toNat, c, d) := by
    rcases h with ⟨a, b, e⟩ | ⟨a, b, e⟩
    · exact mp_gl_per3 ⟨a, b⟩ e
    · exact mp_gl_pro3 ⟨a, b⟩ e
  rw [e, mp_aft_bad (by decide)] at g
  exact mp_go_f hb g ⟨by show (3 : Int) = b1; omega, by omega⟩ (by show ((l0.toNat : Nat) : Int) = q1; omega)
theorem mp_go_is (g : mp_GO Y b0 q0 (mp_aft f m (mp_gLine op f m l0.toNat c d))) (h : c.2.2.2.2 = 0) : mp_GO Y b0 q0 (mp_aft f m (mp_gIsles f m l0.toNat c d)) := by
  rw [mp_gl_is h] at g; exact g
theorem mp_go_not (g : mp_GO Y b0 q0 (mp_aft f m (mp_gLine op f m l0.toNat c d))) (h : c.2.2.2.2 ≠ 0) : mp_GO Y b0 q0 (mp_aft f m (mp_gLin2 op f m l0.toNat c d)) := by
  rw [mp_gl_not h] at g; exact g
theorem mp_go_sea (g : mp_GO Y b0 q0 (mp_aft f m (mp_gLin2 op f m l0.toNat c d))) (h : mp_TK f m l0.toNat = 1 ∧ mp_WD f m l0.toNat = 13987) (hl : l1 = ((mp_NX f m l0.toNat : Nat) : Int)) : mp_GO Y b0 q0 (mp_aft f m (mp_gSea op f m l1.toNat c d)) := by
  rw [mp_gl_sea h, show mp_NX f m l0.toNat = l1.toNat by omega] at g; exact g
theorem mp_go_per (g : mp_GO Y b0 q0 (mp_aft f m (mp_gLin2 op f m l0.toNat c d))) (h : mp_TK f m l0.toNat = 1 ∧ mp_WD f m l0.toNat = 232608281) (hp : c.2.2.1 < 6) (hl : l1 = ((mp_NX f m l0.toNat : Nat) : Int)) : mp_GO Y b0 q0 (mp_aft f m (mp_gPer2 op f m l1.toNat c d)) := by
  rw [mp_gl_per h hp, show mp_NX f m l0.toNat = l1.toNat by omega] at g; exact g
theorem mp_go_pro (g : mp_GO Y b0 q0 (mp_aft f m (mp_gLin2 op f m l0.toNat c d))) (h : mp_TK f m l0.toNat = 1 ∧ mp_WD f m l0.toNat = 6465242723) (hp : c.2.2.2.1 < 10) (hl : l1 = ((mp_NX f m l0.toNat : Nat) : Int)) : mp_GO Y b0 q0 (mp_aft f m (mp_gPro2 op f m l1.toNat c d)) := by
  rw [mp_gl_pro h hp, show mp_NX f m l0.toNat = l1.toNat by omega] at g; exact g
theorem mp_go_sht (g : mp_GO Y b0 q0 (mp_aft f m (mp_gLin2 op f m l0.toNat c d))) (h1 : ¬ (mp_TK f m l0.toNat = 1 ∧ mp_WD f m l0.toNat = 13987)) (h2 : ¬ (mp_TK f m l0.toNat = 1 ∧ mp_WD f m l0.toNat = 232608281)) (h3 : ¬ (mp_TK f m l0.toNat = 1 ∧ mp_WD f m l0.toNat = 6465242723)) : mp_GO Y b0 q0 (mp_aft f m (mp_gShut op f m l0.toNat c d)) := by
  rw [mp_gl_shut h1 h2 h3] at g; exact g
theorem mp_go_p0 {dx d2 : α} {k : Int} {s : Nat} {a e : Bool} (g : mp_GO Y b0 q0 (mp_aft f m (mp_gPm op f m c k 2 false false s dx))) (hd : dx = d2) (ha : a = false) (he : e = false) : mp_GO Y b0 q0 (mp_aft f m (mp_gPm op f m c k (mp_rm a e) a e s d2)) := by
  subst hd ha he; exact g
theorem mp_go_q0 {dx d2 : α} {k : Int} {s : Nat} {a e : Bool} (g : mp_GO Y b0 q0 (mp_aft f m (mp_gQm op f m c k 2 false false s dx))) (hd : dx = d2) (ha : a = false) (he : e = false) : mp_GO Y b0 q0 (mp_aft f m (mp_gQm op f m c k (mp_rm a e) a e s d2)) := by
  subst hd ha he; exact g
end MPR2
section MPN
variable {f : Nat → Int32} {n k b0 q0 l0 b1 q1 l1 e v w lo hi r : Int}
theorem mp_NK_l1 (h : b0 ≠ 0) (e1 : b1 = b0) (e2 : q1 = q0) : mp_NK f n b0 q0 l0 b1 q1 l1 lo hi r := Or.inl ⟨h, e1, e2⟩
theorem mp_NK_l2 (mt : mp_MT f n k l0 e v w) (hk : k ≠ 2) (hb : b0 = 0) (hb1 : b1 = 1) (hq : q1 = l0) : mp_NK f n b0 q0 l0 b1 q1 l1 lo hi r := Or.inr (Or.inr (Or.inl ⟨hb, by rw [← mt.2.1]; exact hk, hb1, hq⟩))
theorem mp_NK_l3 (mt : mp_MT f n k l0 e v w) (hk : k = 2) (hb : b0 = 0) (hv : v < lo ∨ hi < v) (hh : hi ≤ 1000000) (hb1 : b1 = 2) (hq : q1 = l0) : mp_NK f n b0 q0 l0 b1 q1 l1 lo hi r := by
  obtain ⟨-, m2, -, m4, -⟩ := mt
  unfold mp_capR at m4
  exact Or.inr (Or.inr (Or.inr ⟨hb, by omega, by omega, hb1, hq⟩))
theorem mp_NK_l4 (mt : mp_MT f n k l0 e v w) (hk : k = 2) (hb : b0 = 0) (hv : lo ≤ v ∧ v ≤ hi) (hh : hi ≤ 1000000) (hr : r = v) (hb1 : b1 = 0) (hl : l1 = ((mp_NX f n.toNat l0.toNat : Nat) : Int)) : mp_NK f n b0 q0 l0 b1 q1 l1 lo hi r := by
  obtain ⟨-, m2, -, m4, -⟩ := mt
  unfold mp_capR at m4
  exact Or.inr (Or.inl ⟨hb, by omega, by omega, by omega, by omega, hb1, hl⟩)
end MPN
-- two data beside each other: what the text lays in them stays alike
def mp_Rd (c : mp_Sc) (d d' : mp_AD) : Prop := (∀ j : Nat, j < 36 → d.1 j = d'.1 j) ∧ (∀ j : Nat, j < 600 → d.2.1 j = d'.2.1 j) ∧ (∀ j : Nat, (j : Int) < 3 * c.2.2.1 → d.2.2.1 j = d'.2.2.1 j) ∧ (∀ j : Nat, (j : Int) < 6 * c.2.2.2.1 → d.2.2.2 j = d'.2.2.2 j)
def mp_RR (r r' : mp_Rs mp_AD) : Prop := r.1 = r'.1 ∧ r.2.1 = r'.2.1 ∧ r.2.2.1 = r'.2.2.1 ∧ mp_Rd r.2.2.1 r.2.2.2 r'.2.2.2
section MPP
variable {f : Nat → Int32} {n s : Nat} {lo hi bar w : Int} {c c2 : mp_Sc} {d d' : mp_AD}
theorem mp_upd_R {g g' : Nat → Int32} {P : Nat → Prop} (h : ∀ j, P j → g j = g' j) (i : Nat) (v : Int32) : ∀ j, P j → upd g i v j = upd g' i v j := by
  intro j hj
  by_cases e : j = i
  · simp only [upd, if_pos e]
  · simp only [upd, if_neg e]; exact h j hj
theorem mp_RR_bad {k : Int} (h : mp_Rd c d d') : mp_RR (k, s, c, d) (k, s, c, d') := ⟨rfl, rfl, rfl, h⟩
theorem mp_kn_R {ok ok' : Int → Nat → mp_Rs mp_AD} (h : mp_Rd c d d') (hk : ∀ v s, mp_RR (ok v s) (ok' v s)) : mp_RR (mp_kn f n s lo hi bar c d ok) (mp_kn f n s lo hi bar c d' ok') := by
  unfold mp_kn
  split
  · exact mp_RR_bad h
  · split
    · exact mp_RR_bad h
    · exact hk _ _
theorem mp_kw_R {ok ok' : Nat → mp_Rs mp_AD} (h : mp_Rd c d d') (hk : ∀ s, mp_RR (ok s) (ok' s)) : mp_RR (mp_kw f n s w c d ok) (mp_kw f n s w c d' ok') := by
  unfold mp_kw
  split
  · exact hk _
  · exact mp_RR_bad h
theorem mp_op0_R (a b v : Int) (h : mp_Rd c d d') : mp_Rd c (mp_gop d 0 a b v 0 0) (mp_gop d' 0 a b v 0 0) :=
  ⟨mp_upd_R (P := fun j => j < 36) (mp_upd_R (P := fun j => j < 36) h.1 _ _) _ _, h.2⟩
theorem mp_op1_R (a b : Int) (h : mp_Rd c d d') : mp_Rd c (mp_gop d 1 a b 0 0 0) (mp_gop d' 1 a b 0 0 0) :=
  ⟨h.1, fun j hj => by
    show (if j = (100 * a + b).toNat then true else d.2.1 j) = (if j = (100 * a + b).toNat then true else d'.2.1 j)
    rw [h.2.1 j hj], h.2.2⟩
theorem mp_op3_R (a b : Int) (h : mp_Rd c d d') : mp_Rd c (mp_gop d 3 a b 0 0 0) (mp_gop d' 3 a b 0 0 0) :=
  ⟨h.1, h.2.1, mp_upd_R (P := fun j => (j : Int) < 3 * c.2.2.1) h.2.2.1 _ _, h.2.2.2⟩
theorem mp_op4_R (a b : Int) (h : mp_Rd c d d') : mp_Rd c (mp_gop d 4 a b 0 0 0) (mp_gop d' 4 a b 0 0 0) :=
  ⟨h.1, h.2.1, mp_upd_R (P := fun j => (j : Int) < 3 * c.2.2.1) h.2.2.1 _ _, h.2.2.2⟩
theorem mp_op6_R (a : Int) (h : mp_Rd c d d') : mp_Rd c (mp_gop d 6 a 0 0 0 0) (mp_gop d' 6 a 0 0 0 0) :=
  ⟨h.1, h.2.1, h.2.2.1, mp_upd_R (P := fun j => (j : Int) < 6 * c.2.2.2.1) h.2.2.2 _ _⟩
theorem mp_op7_R (a b : Int) (h : mp_Rd c d d') : mp_Rd c (mp_gop d 7 a b 0 0 0) (mp_gop d' 7 a b 0 0 0) :=
  ⟨h.1, h.2.1, h.2.2.1, mp_upd_R (P := fun j => (j : Int) < 6 * c.2.2.2.1) h.2.2.2 _ _⟩
theorem mp_op2_R (b : Int) (h : mp_Rd c d d') (e1 : c2.2.2.1 = c.2.2.1 + 1) (e2 : c2.2.2.2.1 = c.2.2.2.1) : mp_Rd c2 (mp_gop d 2 c.2.2.1 b 0 0 0) (mp_gop d' 2 c.2.2.1 b 0 0 0) := by
  refine ⟨h.1, h.2.1, fun j hj => ?_, fun j hj => h.2.2.2 j (by omega)⟩
  show upd (upd (upd d.2.2.1 _ _) _ _) _ _ j = upd (upd (upd d'.2.2.1 _ _) _ _) _ _ j
  by_cases q : (j : Int) < 3 * c.2.2.1
  · exact mp_upd_R (P := fun j => (j : Int) < 3 * c.2.2.1) (mp_upd_R (P := fun j => (j : Int) < 3 * c.2.2.1) (mp_upd_R (P := fun j => (j : Int) < 3 * c.2.2.1) h.2.2.1 _ _) _ _) _ _ j q
  · simp only [upd]
    by_cases q2 : j = (3 * c.2.2.1 + 2).toNat
    · rw [if_pos q2, if_pos q2]
    · by_cases q1 : j = (3 * c.2.2.1 + 1).toNat
      · rw [if_neg q2, if_neg q2, if_pos q1, if_pos q1]
      · rw [if_neg q2, if_neg q2, if_neg q1, if_neg q1, if_pos (by omega), if_pos (by omega)]
theorem mp_op5_R (a b w m : Int) (h : mp_Rd c d d') (e1 : c2.2.2.1 = c.2.2.1) (e2 : c2.2.2.2.1 = c.2.2.2.1 + 1) : mp_Rd c2 (mp_gop d 5 c.2.2.2.1 a b w m) (mp_gop d' 5 c.2.2.2.1 a b w m) := by
  refine ⟨h.1, h.2.1, fun j hj => h.2.2.1 j (by omega), fun j hj => ?_⟩
  show upd (upd (upd (upd (upd (upd d.2.2.2 _ _) _ _) _ _) _ _) _ _) _ _ j = upd (upd (upd (upd (upd (upd d'.2.2.2 _ _) _ _) _ _) _ _) _ _) _ _ j
  by_cases q : (j : Int) < 6 * c.2.2.2.1
  · have R := fun {g g' : Nat → Int32} (h : ∀ j : Nat, (j : Int) < 6 * c.2.2.2.1 → g j = g' j) (i : Nat) (v : Int32) => mp_upd_R (P := fun j => (j : Int) < 6 * c.2.2.2.1) h i v
    exact R (R (R (R (R (R h.2.2.2 _ _) _ _) _ _) _ _) _ _) _ _ j q
  · simp only [upd]
    by_cases q5 : j = (6 * c.2.2.2.1 + 5).toNat
    · rw [if_pos q5, if_pos q5]
    · rw [if_neg q5, if_neg q5]
      by_cases q4 : j = (6 * c.2.2.2.1 + 4).toNat
      · rw [if_pos q4, if_pos q4]
      · rw [if_neg q4, if_neg q4]
        by_cases q3 : j = (6 * c.2.2.2.1 + 3).toNat
        · rw [if_pos q3, if_pos q3]
        · rw [if_neg q3, if_neg q3]
          by_cases q2 : j = (6 * c.2.2.2.1 + 2).toNat
          · rw [if_pos q2, if_pos q2]
          · rw [if_neg q2, if_neg q2]
            by_cases q1 : j = (6 * c.2.2.2.1 + 1).toNat
            · rw [if_pos q1, if_pos q1]
            · rw [if_neg q1, if_neg q1, if_pos (by omega), if_pos (by omega)]
theorem mp_gIsles_R (h : mp_Rd c d d') : mp_RR (mp_gIsles f n s c d) (mp_gIsles f n s c d') := by
  unfold mp_gIsles
  exact mp_kw_R h fun _ => mp_kn_R h fun _ _ => mp_kw_R h fun _ => mp_kn_R h fun _ _ => ⟨rfl, rfl, rfl, h⟩
theorem mp_gSea_R (h : mp_Rd c d d') : mp_RR (mp_gSea mp_gop f n s c d) (mp_gSea mp_gop f n s c d') := by
  unfold mp_gSea
  exact mp_kn_R h fun _ _ => mp_kn_R h fun _ _ => mp_kw_R h fun _ => mp_kn_R h fun _ _ => ⟨rfl, rfl, rfl, mp_op0_R _ _ _ h⟩
theorem mp_gShut_R (h : mp_Rd c d d') : mp_RR (mp_gShut mp_gop f n s c d) (mp_gShut mp_gop f n s c d') := by
  unfold mp_gShut
  exact mp_kw_R h fun _ => mp_kn_R h fun _ _ => mp_kn_R h fun _ _ => ⟨rfl, rfl, rfl, mp_op1_R _ _ h⟩
theorem mp_gPm_R {k : Int} : ∀ {r : Nat} {a b : Bool} {s : Nat} {d d' : mp_AD}, mp_Rd c d d' → mp_RR (mp_gPm mp_gop f n c k r a b s d) (mp_gPm mp_gop f n c k r a b s d') := by
  intro r
  induction r with
  | zero => intro a b s d d' h; exact ⟨rfl, rfl, rfl, h⟩
  | succ r ih =>
    intro a b s d d' h
    unfold mp_gPm
    split
    · exact mp_RR_bad h
    · split
      · exact mp_kn_R h fun _ _ => ih (mp_op3_R _ _ h)
      · split
        · exact mp_kn_R h fun _ _ => ih (mp_op4_R _ _ h)
        · exact mp_RR_bad h
theorem mp_gPerson_R (h : mp_Rd c d d') : mp_RR (mp_gPerson mp_gop f n s c d) (mp_gPerson mp_gop f n s c d') := by
  unfold mp_gPerson
  split
  · exact mp_RR_bad h
  · exact mp_kw_R h fun _ => mp_kn_R h fun _ _ => mp_gPm_R (mp_op2_R _ h rfl rfl)
theorem mp_gQm_R {k : Int} : ∀ {r : Nat} {a b : Bool} {s : Nat} {d d' : mp_AD}, mp_Rd c d d' → mp_RR (mp_gQm mp_gop f n c k r a b s d) (mp_gQm mp_gop f n c k r a b s d') := by
  intro r
  induction r with
  | zero => intro a b s d d' h; exact ⟨rfl, rfl, rfl, h⟩
  | succ r ih =>
    intro a b s d d' h
    unfold mp_gQm
    split
    · exact mp_RR_bad h
    · split
      · exact ih (mp_op6_R _ h)
      · split
        · exact mp_kn_R h fun _ _ => ih (mp_op7_R _ _ h)
        · exact mp_RR_bad h
theorem mp_gPromise_R (h : mp_Rd c d d') : mp_RR (mp_gPromise mp_gop f n s c d) (mp_gPromise mp_gop f n s c d') := by
  unfold mp_gPromise mp_gProm
  split
  · exact mp_RR_bad h
  · exact mp_kn_R h fun _ _ => mp_kw_R h fun _ => mp_kn_R h fun _ _ => mp_kw_R h fun _ => mp_kn_R h fun _ _ => mp_kw_R h fun _ => mp_kn_R h fun _ _ => mp_gQm_R (mp_op5_R _ _ _ _ h rfl rfl)
theorem mp_gLine_R (h : mp_Rd c d d') : mp_RR (mp_gLine mp_gop f n s c d) (mp_gLine mp_gop f n s c d') := by
  unfold mp_gLine
  split
  · exact mp_gIsles_R h
  · split
    · exact mp_gSea_R h
    · split
      · exact mp_gPerson_R h
      · split
        · exact mp_gPromise_R h
        · exact mp_gShut_R h
theorem mp_aft_R {r r' : mp_Rs mp_AD} (h : mp_RR r r') : mp_RR (mp_aft f n r) (mp_aft f n r') := by
  obtain ⟨a, b, e, g⟩ := h
  unfold mp_aft
  rw [← a, ← b, ← e]
  split
  · exact ⟨a, b, e, g⟩
  · split
    · exact ⟨rfl, rfl, e, g⟩
    · exact ⟨rfl, rfl, rfl, g⟩
theorem mp_gT_R : ∀ {fu s : Nat} {c : mp_Sc} {d d' : mp_AD} {R : mp_Rs mp_AD}, mp_Rd c d d' → mp_gText mp_gop f n fu s c d = some R → ∃ R', mp_gText mp_gop f n fu s c d' = some R' ∧ mp_RR R R' := by
  intro fu
  induction fu with
  | zero => intro s c d d' R _ e; exact absurd e (by intro q; cases q)
  | succ fu ih =>
    intro s c d d' R h e
    have g := mp_aft_R (f := f) (n := n) (mp_gLine_R (f := f) (n := n) (s := s) h)
    obtain ⟨g1, g2, g3, g4⟩ := g
    replace e : (if mp_TK f n s = 0 then some (0, s, c, d) else if (mp_aft f n (mp_gLine mp_gop f n s c d)).1 ≠ 0 then some (mp_aft f n (mp_gLine mp_gop f n s c d)) else mp_gText mp_gop f n fu (mp_aft f n (mp_gLine mp_gop f n s c d)).2.1 (mp_aft f n (mp_gLine mp_gop f n s c d)).2.2.1 (mp_aft f n (mp_gLine mp_gop f n s c d)).2.2.2) = some R := e
    show ∃ R', (if mp_TK f n s = 0 then some (0, s, c, d') else if (mp_aft f n (mp_gLine mp_gop f n s c d')).1 ≠ 0 then some (mp_aft f n (mp_gLine mp_gop f n s c d')) else mp_gText mp_gop f n fu (mp_aft f n (mp_gLine mp_gop f n s c d')).2.1 (mp_aft f n (mp_gLine mp_gop f n s c d')).2.2.1 (mp_aft f n (mp_gLine mp_gop f n s c d')).2.2.2) = some R' ∧ mp_RR R R'
    by_cases h0 : mp_TK f n s = 0
    · rw [if_pos h0] at e ⊢
      cases e
      exact ⟨_, rfl, rfl, rfl, rfl, h⟩
    · rw [if_neg h0] at e ⊢
      by_cases h1 : (mp_aft f n (mp_gLine mp_gop f n s c d)).1 ≠ 0
      · rw [if_pos h1] at e
        rw [if_pos (by rw [← g1]; exact h1)]
        cases e
        exact ⟨_, rfl, g1, g2, g3, g4⟩
      · rw [if_neg h1] at e
        rw [if_neg (by rw [← g1]; exact h1), ← g2, ← g3]
        exact ih g4 e
theorem mp_gT_mono : ∀ {fu s : Nat} {c : mp_Sc} {d : mp_AD} {R : mp_Rs mp_AD} (k : Nat), mp_gText mp_gop f n fu s c d = some R → mp_gText mp_gop f n (fu + k) s c d = some R := by
  intro fu
  induction fu with
  | zero => intro s c d R k e; exact absurd e (by intro q; cases q)
  | succ fu ih =>
    intro s c d R k e
    rw [show fu + 1 + k = (fu + k) + 1 by omega]
    replace e : (if mp_TK f n s = 0 then some (0, s, c, d) else if (mp_aft f n (mp_gLine mp_gop f n s c d)).1 ≠ 0 then some (mp_aft f n (mp_gLine mp_gop f n s c d)) else mp_gText mp_gop f n fu (mp_aft f n (mp_gLine mp_gop f n s c d)).2.1 (mp_aft f n (mp_gLine mp_gop f n s c d)).2.2.1 (mp_aft f n (mp_gLine mp_gop f n s c d)).2.2.2) = some R := e
    show (if mp_TK f n s = 0 then some (0, s, c, d) else if (mp_aft f n (mp_gLine mp_gop f n s c d)).1 ≠ 0 then some (mp_aft f n (mp_gLine mp_gop f n s c d)) else mp_gText mp_gop f n (fu + k) (mp_aft f n (mp_gLine mp_gop f n s c d)).2.1 (mp_aft f n (mp_gLine mp_gop f n s c d)).2.2.1 (mp_aft f n (mp_gLine mp_gop f n s c d)).2.2.2) = some R
    by_cases h0 : mp_TK f n s = 0
    · rw [if_pos h0] at e ⊢; exact e
    · rw [if_neg h0] at e ⊢
      by_cases h1 : (mp_aft f n (mp_gLine mp_gop f n s c d)).1 ≠ 0
      · rw [if_pos h1] at e ⊢; exact e
      · rw [if_neg h1] at e ⊢; exact ih k e
/-- two readings of one text, over like data: alike -/
theorem mp_gT_eq {fu fu' : Nat} {R R' : mp_Rs mp_AD} (h : mp_Rd c d d') (e : mp_gText mp_gop f n fu s c d = some R) (e' : mp_gText mp_gop f n fu' s c d' = some R') : mp_RR R R' := by
  obtain ⟨R2, e2, g⟩ := mp_gT_R h (mp_gT_mono fu' e)
  have e3 := mp_gT_mono fu e'
  rw [Nat.add_comm] at e3
  rw [e3] at e2
  cases e2
  exact g
/-- nothing told: seas and harbours alone count -/
theorem mp_Rd_0 {seas sea isShut person promise : Nat → Int32} {shut : Nat → Int64} {home death tending ower owee full first drunk base : Nat → Int32} {k m : Int} (z1 : ∀ j : Nat, (j : Int) < 36 → seas j = 0) (z2 : ∀ j : Nat, (j : Int) < 12 → shut j = 0) (z3 : ∀ j : Nat, (j : Int) < 36 → sea (144 + j) = 0) (z4 : ∀ j : Nat, (j : Int) < 600 → isShut (2400 + j) = 0) : mp_Rd (0, 0, 0, 0, 0) (mp_dC seas shut home death tending ower owee full first drunk base) (mp_dM sea isShut person promise) := by
  refine ⟨fun j hj => ?_, fun j hj => ?_, fun j hj => ?_, fun j hj => ?_⟩
  · show seas j = sea (144 + j)
    rw [z1 j (by omega), z3 j (by omega)]
  · show decide (((shut (2 * (j / 100) + j % 100 / 50)) >>> (Int64.ofNat (j % 50)) &&& 1) ≠ 0) = decide ((isShut (2400 + j)).toInt ≠ 0)
    rw [z2 _ (by omega), z4 j (by omega)]
    have k : ∀ q : Nat, q < 50 → decide (((0 : Int64) >>> (Int64.ofNat q) &&& 1) ≠ 0) = decide ((0 : Int32).toInt ≠ 0) := by decide +kernel
    exact k _ (by omega)
  · exact absurd hj (by show ¬ (j : Int) < 3 * 0; omega)
  · exact absurd hj (by show ¬ (j : Int) < 6 * 0; omega)
end MPP
-- bytes that are fed; what a reading answers
def mp_by (k v : Int32) : Int32 := vp_nar .byte ((v >>> (k &&& 31)).toInt8.toInt32)
def mp_b4 (f : Nat → Int32) (n : Nat) (v : Int32) : Nat → Int32 := upd (upd (upd (upd f n (mp_by 24 v)) (n + 1) (mp_by 16 v)) (n + 2) (mp_by 8 v)) (n + 3) (mp_by 0 v)
def mp_b20 (f : Nat → Int32) (n : Nat) (a b c d e : Int32) : Nat → Int32 := mp_b4 (mp_b4 (mp_b4 (mp_b4 (mp_b4 f n a) (n + 4) b) (n + 8) c) (n + 12) d) (n + 16) e
theorem mp_by_of {f g : Nat → Int32} {i z y k v : Int32} (h : g = upd f i.toNatClampNeg (vp_nar .byte z)) (hz : z = y.toInt8.toInt32) (hy : y = v >>> (k &&& 31)) : g = upd f i.toNatClampNeg (mp_by k v) := by
  rw [h, hz, hy]; rfl
theorem mp_b4_of {f g1 g2 g3 g4 : Nat → Int32} {i1 i2 i3 i4 v : Int32} {n : Int} (h1 : g1 = upd f i1.toNatClampNeg (mp_by 24 v)) (h2 : g2 = upd g1 i2.toNatClampNeg (mp_by 16 v)) (h3 : g3 = upd g2 i3.toNatClampNeg (mp_by 8 v)) (h4 : g4 = upd g3 i4.toNatClampNeg (mp_by 0 v)) (e1 : i1.toInt = n) (e2 : i2.toInt = n + 1) (e3 : i3.toInt = n + 2) (e4 : i4.toInt = n + 3 ∧ 0 ≤ n) : g4 = mp_b4 f n.toNat v := by
  rw [h4, h3, h2, h1, show i1.toNatClampNeg = n.toNat by simp only [Int32.toNatClampNeg]; omega, show i2.toNatClampNeg = n.toNat + 1 by simp only [Int32.toNatClampNeg]; omega, show i3.toNatClampNeg = n.toNat + 2 by simp only [Int32.toNatClampNeg]; omega, show i4.toNatClampNeg = n.toNat + 3 by simp only [Int32.toNatClampNeg]; omega]
  rfl
theorem mp_b20_of {f g1 g2 g3 g4 g5 : Nat → Int32} {n n2 n3 n4 n5 : Int} {a b c d e : Int32} (h1 : g1 = mp_b4 f n.toNat a) (h2 : g2 = mp_b4 g1 n2.toNat b) (h3 : g3 = mp_b4 g2 n3.toNat c) (h4 : g4 = mp_b4 g3 n4.toNat d) (h5 : g5 = mp_b4 g4 n5.toNat e) (e2 : n2 = n + 4) (e3 : n3 = n + 8) (e4 : n4 = n + 12) (e5 : n5 = n + 16 ∧ 0 ≤ n) : g5 = mp_b20 f n.toNat a b c d e := by
  rw [h5, h4, h3, h2, h1, show n2.toNat = n.toNat + 4 by omega, show n3.toNat = n.toNat + 8 by omega, show n4.toNat = n.toNat + 12 by omega, show n5.toNat = n.toNat + 16 by omega]
  rfl
/-- no seas, no shut harbours -/
def mp_Z (d : mp_AD) : Prop := (∀ j : Nat, j < 36 → d.1 j = 0) ∧ (∀ j : Nat, j < 600 → d.2.1 j = false)
theorem mp_Z_C {seas : Nat → Int32} {shut : Nat → Int64} {home death tending ower owee full first drunk base : Nat → Int32} (z1 : ∀ j : Nat, (j : Int) < 36 → seas j = 0) (z2 : ∀ j : Nat, (j : Int) < 12 → shut j = 0) : mp_Z (mp_dC seas shut home death tending ower owee full first drunk base) := by
  refine ⟨fun j hj => z1 j (by omega), fun j hj => ?_⟩
  show decide (((shut (2 * (j / 100) + j % 100 / 50)) >>> (Int64.ofNat (j % 50)) &&& 1) ≠ 0) = false
  rw [z2 _ (by omega)]
  have k : ∀ q : Nat, q < 50 → decide (((0 : Int64) >>> (Int64.ofNat q) &&& 1) ≠ 0) = false := by decide +kernel
  exact k _ (by omega)
theorem mp_Z_M {sea isShut person promise : Nat → Int32} (z3 : ∀ j : Nat, (j : Int) < 36 → sea (144 + j) = 0) (z4 : ∀ j : Nat, (j : Int) < 600 → isShut (2400 + j) = 0) : mp_Z (mp_dM sea isShut person promise) := by
  refine ⟨fun j hj => z3 j (by omega), fun j hj => ?_⟩
  show decide ((isShut (2400 + j)).toInt ≠ 0) = false
  rw [z4 j (by omega)]
  rfl
def mp_islR (f : Nat → Int32) (n r ft fp : Int) : Prop := ∃ (fu : Nat) (R : mp_Rs mp_AD) (d0 : mp_AD), mp_Z d0 ∧ mp_gText mp_gop f n.toNat fu (mp_TS f n.toNat 0) (0, 0, 0, 0, 0) d0 = some R ∧ ((R.1 ≠ 0 ∧ r = -4 ∧ ft = R.1 ∧ fp = ((R.2.1 : Nat) : Int)) ∨ (R.1 = 0 ∧ r = R.2.2.1.2.2.2.2 ∧ ft = 0 ∧ fp = -1))
theorem mp_isl_eq {f : Nat → Int32} {n r ft fp r' ft' fp' : Int} (h : mp_islR f n r ft fp) (h' : mp_islR f n r' ft' fp') : r = r' ∧ ft = ft' ∧ fp = fp' := by
  obtain ⟨fu, R, d0, z, e, h⟩ := h
  obtain ⟨fu', R', d0', z', e', h'⟩ := h'
  have g := mp_gT_eq (c := (0, 0, 0, 0, 0)) (d := d0) (d' := d0') ⟨fun j hj => by rw [z.1 j hj, z'.1 j hj], fun j hj => by rw [z.2 j hj, z'.2 j hj], fun j hj => absurd hj (by show ¬ (j : Int) < 3 * 0; omega), fun j hj => absurd hj (by show ¬ (j : Int) < 6 * 0; omega)⟩ e e'
  obtain ⟨g1, g2, g3, -⟩ := g
  rw [← g1, ← g2, ← g3] at h'
  omega
-- harbours: opened again; read
theorem mp_bits_c0 : ∀ k : Nat, k < 50 → ∀ q : Nat, q < 50 → (((1 : Int64) <<< Int64.ofNat q) ^^^ (-1)) >>> Int64.ofNat k &&& 1 = if k = q then 0 else 1 := by decide +kernel
theorem mp_bits0 {k q : Nat} (hk : k < 50) (hq : q < 50) (y : Int64) : ((y &&& ((1 <<< Int64.ofNat q) ^^^ (-1))) >>> Int64.ofNat k &&& 1 ≠ 0) ↔ (k ≠ q ∧ (y >>> Int64.ofNat k &&& 1 ≠ 0)) := by
  rw [Int64.shiftRight_and, Int64.and_assoc, mp_bits_c0 k hk q hq]
  by_cases e : k = q
  · rw [if_pos e, Int64.and_zero]
    exact ⟨fun h => absurd rfl h, fun h => absurd e h.1⟩
  · rw [if_neg e]
    exact ⟨fun h => ⟨e, h⟩, fun h => h.2⟩
theorem mp_shb_cell0 {s s' : Nat → Int64} {a m : Int} {x b y : Int64} {i : Nat} (h : s' = vp_updL s i (x &&& y)) (hy : y = b ^^^ (-1)) (hi : (i : Int) = 2 * a + m / 50) (hx : x = s i) (hb : b = 1 <<< Int64.ofInt (m % 50)) (ha : 0 ≤ a) (hm : 0 ≤ m ∧ m < 100) : mp_shb s' = fun j => if j = (100 * a + m).toNat then false else mp_shb s j := by
  funext j
  have hb2 : b = 1 <<< Int64.ofNat (m % 50).toNat := by
    rw [hb, mp_ofi64 (by omega)]
  unfold mp_shb
  rw [h, hx, hy, hb2]
  by_cases e : 2 * (j / 100) + j % 100 / 50 = i
  · rw [e]
    show decide (((if i = i then (s i &&& ((1 <<< Int64.ofNat (m % 50).toNat) ^^^ (-1))) else s i) >>> Int64.ofNat (j % 50) &&& 1) ≠ 0) = _
    rw [if_pos rfl]
    have hbit := mp_bits0 (k := j % 50) (q := (m % 50).toNat) (by omega) (by omega) (s i)
    by_cases q : j = (100 * a + m).toNat
    · rw [if_pos q]
      exact decide_eq_false (fun w => (hbit.mp w).1 (by omega))
    · rw [if_neg q]
      have hne : ¬ j % 50 = (m % 50).toNat := by omega
      by_cases r : (s i >>> Int64.ofNat (j % 50) &&& 1) ≠ 0
      · rw [decide_eq_true r]
        exact decide_eq_true (hbit.mpr ⟨hne, r⟩)
      · rw [decide_eq_false r]
        exact decide_eq_false (fun w => r (hbit.mp w).2)
  · rw [if_neg (by omega)]
    show decide (((if 2 * (j / 100) + j % 100 / 50 = i then _ else s (2 * (j / 100) + j % 100 / 50)) >>> Int64.ofNat (j % 50) &&& 1) ≠ 0) = _
    rw [if_neg e]
theorem mp_shb_rd {s : Nat → Int64} {a m : Int} {x y z : Int64} {i q : Int32} (hx : x = s i.toNatClampNeg) (hy : y = x >>> (q.toInt64 &&& 63)) (hz : z = y &&& 1) (hi : i.toInt = 2 * a + m / 50) (hq : q.toInt = m % 50) (ha : 0 ≤ a) (hm : 0 ≤ m ∧ m < 100) : mp_shb s (100 * a + m).toNat = decide (z ≠ 0) := by
  unfold mp_shb
  rw [hz, hy, hx, mp_sh63 hq (by omega), mp_ofi64 (by omega), show i.toNatClampNeg = 2 * ((100 * a + m).toNat / 100) + (100 * a + m).toNat % 100 / 50 by simp only [Int32.toNatClampNeg]; omega, show (m % 50).toNat = (100 * a + m).toNat % 50 by omega]
-- what is told: counts, data, acts
abbrev mp_TD : Type := mp_Sc × mp_AD × Int × (Nat → Int32)
/-- row r of the reference -/
def mp_dR (r : Nat) (sea isShut person promise : Nat → Int32) : mp_AD := (fun j => sea (36 * r + j), fun j => decide ((isShut (600 * r + j)).toInt ≠ 0), fun j => person (18 * r + j), fun j => promise (60 * r + j))
def mp_tR (r : Nat) (lines has sea isShut person promise act : Nat → Int32) : mp_TD := (((has (5 * r)).toInt, (has (5 * r + 1)).toInt, (has (5 * r + 2)).toInt, (has (5 * r + 3)).toInt, (lines r).toInt), mp_dR r sea isShut person promise, (has (5 * r + 4)).toInt, fun j => act (60 * r + j))
/-- alike, as far as it is told -/
def mp_RT (t t' : mp_TD) : Prop := t.1 = t'.1 ∧ mp_Rd t.1 t.2.1 t'.2.1 ∧ t.2.2.1 = t'.2.2.1 ∧ ∀ j : Nat, (j : Int) < t.2.2.1 → t.2.2.2 j = t'.2.2.2 j
theorem mp_Rd_rfl {c : mp_Sc} {d : mp_AD} : mp_Rd c d d := ⟨fun _ _ => rfl, fun _ _ => rfl, fun _ _ => rfl, fun _ _ => rfl⟩
theorem mp_Rd_sym {c : mp_Sc} {d d' : mp_AD} (h : mp_Rd c d d') : mp_Rd c d' d := ⟨fun j hj => (h.1 j hj).symm, fun j hj => (h.2.1 j hj).symm, fun j hj => (h.2.2.1 j hj).symm, fun j hj => (h.2.2.2 j hj).symm⟩
theorem mp_Rd_tr {c : mp_Sc} {d d' d2 : mp_AD} (h : mp_Rd c d d') (g : mp_Rd c d' d2) : mp_Rd c d d2 := ⟨fun j hj => (h.1 j hj).trans (g.1 j hj), fun j hj => (h.2.1 j hj).trans (g.2.1 j hj), fun j hj => (h.2.2.1 j hj).trans (g.2.2.1 j hj), fun j hj => (h.2.2.2 j hj).trans (g.2.2.2 j hj)⟩
theorem mp_RT_rfl {t : mp_TD} : mp_RT t t := ⟨rfl, mp_Rd_rfl, rfl, fun _ _ => rfl⟩
theorem mp_RT_sym {t t' : mp_TD} (h : mp_RT t t') : mp_RT t' t := ⟨h.1.symm, h.1 ▸ mp_Rd_sym h.2.1, h.2.2.1.symm, fun j hj => (h.2.2.2 j (h.2.2.1 ▸ hj)).symm⟩
theorem mp_RT_tr {t t' t2 : mp_TD} (h : mp_RT t t') (g : mp_RT t' t2) : mp_RT t t2 := ⟨h.1.trans g.1, mp_Rd_tr h.2.1 (h.1 ▸ g.2.1), h.2.2.1.trans g.2.2.1, fun j hj => (h.2.2.2 j hj).trans (g.2.2.2 j (h.2.2.1 ▸ hj))⟩
-- what the calls answer of it
def mp_perR (t : mp_TD) (r p w : Int) : Prop := ((p < 0 ∨ t.1.2.2.1 ≤ p ∨ w < 0 ∨ 2 < w) ∧ r = -2) ∨ ((0 ≤ p ∧ p < t.1.2.2.1 ∧ 0 ≤ w ∧ w ≤ 2) ∧ r = (t.2.1.2.2.1 (3 * p + w).toNat).toInt)
def mp_proR (t : mp_TD) (r p w : Int) : Prop := ((p < 0 ∨ t.1.2.2.2.1 ≤ p ∨ w < 0 ∨ 5 < w) ∧ r = -2) ∨ ((0 ≤ p ∧ p < t.1.2.2.2.1 ∧ 0 ≤ w ∧ w ≤ 5) ∧ r = (t.2.1.2.2.2 (6 * p + w).toNat).toInt)
def mp_seaR (t : mp_TD) (r a b : Int) : Prop := ((a < 0 ∨ t.1.1 ≤ a ∨ b < 0 ∨ t.1.1 ≤ b ∨ a = b) ∧ r = -2) ∨ ((0 ≤ a ∧ a < t.1.1 ∧ 0 ≤ b ∧ b < t.1.1 ∧ a ≠ b) ∧ r = (t.2.1.1 (6 * a + b).toNat).toInt)
def mp_opnR (t : mp_TD) (r i m : Int) : Prop := ((i < 0 ∨ t.1.1 ≤ i ∨ m < 0 ∨ 99 < m) ∧ r = -2) ∨ ((0 ≤ i ∧ i < t.1.1 ∧ 0 ≤ m ∧ m ≤ 99) ∧ ((t.2.1.2.1 (100 * i + m).toNat = true ∧ r = 0) ∨ (t.2.1.2.1 (100 * i + m).toNat = false ∧ r = 1)))
def mp_tenR (t t2 : mp_TD) (r p n : Int) : Prop := ((p < 0 ∨ t.1.2.2.1 ≤ p ∨ n < 0 ∨ 100 < n) ∧ r = -2 ∧ t2 = t) ∨ ((0 ≤ p ∧ p < t.1.2.2.1 ∧ 0 ≤ n ∧ n ≤ 100) ∧ r = (t.2.1.2.2.1 (3 * p + 2).toNat).toInt ∧ t2 = (t.1, (t.2.1.1, t.2.1.2.1, upd t.2.1.2.2.1 (3 * p + 2).toNat (Int32.ofInt n), t.2.1.2.2.2), t.2.2))
def mp_shuR (t t2 : mp_TD) (r i m s : Int) : Prop := ((i < 0 ∨ t.1.1 ≤ i ∨ m < 0 ∨ 99 < m ∨ s < 0 ∨ 1 < s) ∧ r = -2 ∧ t2 = t) ∨ ((0 ≤ i ∧ i < t.1.1 ∧ 0 ≤ m ∧ m ≤ 99 ∧ 0 ≤ s ∧ s ≤ 1) ∧ ((0 < t.2.2.1 ∧ r = -5 ∧ t2 = t) ∨ (t.2.2.1 ≤ 0 ∧ ((t.2.1.2.1 (100 * i + m).toNat = true ∧ r = 1) ∨ (t.2.1.2.1 (100 * i + m).toNat = false ∧ r = 0)) ∧ t2 = (t.1, (t.2.1.1, (fun j => if j = (100 * i + m).toNat then decide (s = 1) else t.2.1.2.1 j), t.2.1.2.2), t.2.2))))
def mp_prsR (t t2 : mp_TD) (r p o w : Int) : Prop := ((p < 0 ∨ t.1.2.2.1 ≤ p ∨ o < 0 ∨ t.1.2.2.1 ≤ o ∨ p = o ∨ w < 1 ∨ 1000000 < w) ∧ r = -2 ∧ t2 = t) ∨ ((0 ≤ p ∧ p < t.1.2.2.1 ∧ 0 ≤ o ∧ o < t.1.2.2.1 ∧ p ≠ o ∧ 1 ≤ w ∧ w ≤ 1000000) ∧ ((0 < t.2.2.1 ∧ r = -5 ∧ t2 = t) ∨ (t.2.2.1 ≤ 0 ∧ 10 ≤ t.1.2.2.2.1 ∧ r = -3 ∧ t2 = t) ∨ (t.2.2.1 ≤ 0 ∧ t.1.2.2.2.1 < 10 ∧ r = t.1.2.2.2.1 ∧ t2 = ((t.1.1, t.1.2.1, t.1.2.2.1, t.1.2.2.2.1 + 1, t.1.2.2.2.2), mp_gop t.2.1 5 t.1.2.2.2.1 p o w t.1.2.1, t.2.2))))
section MPA
variable {t t' t2 t3 : mp_TD} {r r' p w o a b i m n s : Int}
theorem mp_per_eq (h : mp_RT t t') (h1 : mp_perR t r p w) (h2 : mp_perR t' r' p w) : r = r' := by
  obtain ⟨e1, e2, -, -⟩ := h
  unfold mp_perR at h1 h2
  rw [← e1] at h2
  rcases h1 with ⟨c1, h1⟩ | ⟨c1, h1⟩ <;> rcases h2 with ⟨c2, h2⟩ | ⟨c2, h2⟩
  · omega
  · exfalso; omega
  · exfalso; omega
  · rw [h1, h2, e2.2.2.1 _ (by omega)]
theorem mp_pro_eq (h : mp_RT t t') (h1 : mp_proR t r p w) (h2 : mp_proR t' r' p w) : r = r' := by
  obtain ⟨e1, e2, -, -⟩ := h
  unfold mp_proR at h1 h2
  rw [← e1] at h2
  rcases h1 with ⟨c1, h1⟩ | ⟨c1, h1⟩ <;> rcases h2 with ⟨c2, h2⟩ | ⟨c2, h2⟩
  · omega
  · exfalso; omega
  · exfalso; omega
  · rw [h1, h2, e2.2.2.2 _ (by omega)]
theorem mp_sea_eq (h : mp_RT t t') (hi : t.1.1 ≤ 6) (h1 : mp_seaR t r a b) (h2 : mp_seaR t' r' a b) : r = r' := by
  obtain ⟨e1, e2, -, -⟩ := h
  unfold mp_seaR at h1 h2
  rw [← e1] at h2
  rcases h1 with ⟨c1, h1⟩ | ⟨c1, h1⟩ <;> rcases h2 with ⟨c2, h2⟩ | ⟨c2, h2⟩
  · omega
  · exfalso; omega
  · exfalso; omega
  · rw [h1, h2, e2.1 _ (by omega)]
theorem mp_opn_eq (h : mp_RT t t') (hi : t.1.1 ≤ 6) (h1 : mp_opnR t r i m) (h2 : mp_opnR t' r' i m) : r = r' := by
  obtain ⟨e1, e2, -, -⟩ := h
  unfold mp_opnR at h1 h2
  rw [← e1] at h2
  rcases h1 with ⟨c1, h1⟩ | ⟨c1, h1⟩ <;> rcases h2 with ⟨c2, h2⟩ | ⟨c2, h2⟩
  · omega
  · exfalso; omega
  · exfalso; omega
  · rw [← e2.2.1 _ (by omega)] at h2
    rcases h1 with ⟨h1, e⟩ | ⟨h1, e⟩ <;> rcases h2 with ⟨h2, f⟩ | ⟨h2, f⟩
    · omega
    · rw [h1] at h2; cases h2
    · rw [h1] at h2; cases h2
    · omega
theorem mp_ten_eq (h : mp_RT t t') (h1 : mp_tenR t t2 r p n) (h2 : mp_tenR t' t3 r' p n) : r = r' ∧ mp_RT t2 t3 := by
  obtain ⟨e1, e2, e3, e4⟩ := h
  unfold mp_tenR at h1 h2
  rw [← e1] at h2
  rcases h1 with ⟨c1, h1, k1⟩ | ⟨c1, h1, k1⟩ <;> rcases h2 with ⟨c2, h2, k2⟩ | ⟨c2, h2, k2⟩
  · exact ⟨by omega, by rw [k1, k2]; exact ⟨e1, e2, e3, e4⟩⟩
  · exfalso; omega
  · exfalso; omega
  · refine ⟨by rw [h1, h2, e2.2.2.1 _ (by omega)], ?_⟩
    rw [k1, k2]
    exact ⟨rfl, ⟨e2.1, e2.2.1, mp_upd_R (P := fun j => (j : Int) < 3 * t.1.2.2.1) e2.2.2.1 _ _, e2.2.2.2⟩, e3, e4⟩
theorem mp_shu_eq (h : mp_RT t t') (hi : t.1.1 ≤ 6) (h1 : mp_shuR t t2 r i m s) (h2 : mp_shuR t' t3 r' i m s) : r = r' ∧ mp_RT t2 t3 := by
  obtain ⟨e1, e2, e3, e4⟩ := h
  unfold mp_shuR at h1 h2
  rw [← e1, ← e3] at h2
  rcases h1 with ⟨c1, h1, k1⟩ | ⟨c1, h1⟩ <;> rcases h2 with ⟨c2, h2, k2⟩ | ⟨c2, h2⟩
  · exact ⟨by omega, by rw [k1, k2]; exact ⟨e1, e2, e3, e4⟩⟩
  · exfalso; omega
  · exfalso; omega
  · rcases h1 with ⟨b1, h1, k1⟩ | ⟨b1, h1, k1⟩ <;> rcases h2 with ⟨b2, h2, k2⟩ | ⟨b2, h2, k2⟩
    · exact ⟨by omega, by rw [k1, k2]; exact ⟨e1, e2, e3, e4⟩⟩
    · exfalso; omega
    · exfalso; omega
    · rw [← e2.2.1 _ (by omega)] at h2
      refine ⟨?_, ?_⟩
      · rcases h1 with ⟨h1, e⟩ | ⟨h1, e⟩ <;> rcases h2 with ⟨h2, f⟩ | ⟨h2, f⟩
        · omega
        · rw [h1] at h2; cases h2
        · rw [h1] at h2; cases h2
        · omega
      · rw [k1, k2]
        refine ⟨rfl, ⟨e2.1, fun j hj => ?_, e2.2.2⟩, e3, e4⟩
        show (if j = (100 * i + m).toNat then decide (s = 1) else t.2.1.2.1 j) = (if j = (100 * i + m).toNat then decide (s = 1) else t'.2.1.2.1 j)
        rw [e2.2.1 j hj]
theorem mp_prs_eq (h : mp_RT t t') (h1 : mp_prsR t t2 r p o w) (h2 : mp_prsR t' t3 r' p o w) : r = r' ∧ mp_RT t2 t3 := by
  obtain ⟨e1, e2, e3, e4⟩ := h
  unfold mp_prsR at h1 h2
  rw [← e1, ← e3] at h2
  rcases h1 with ⟨c1, h1, k1⟩ | ⟨c1, h1⟩ <;> rcases h2 with ⟨c2, h2, k2⟩ | ⟨c2, h2⟩
  · exact ⟨by omega, by rw [k1, k2]; exact ⟨e1, e2, e3, e4⟩⟩
  · exfalso; omega
  · exfalso; omega
  · rcases h1 with ⟨b1, h1, k1⟩ | ⟨b1, a1, h1, k1⟩ | ⟨b1, a1, h1, k1⟩ <;> rcases h2 with ⟨b2, h2, k2⟩ | ⟨b2, a2, h2, k2⟩ | ⟨b2, a2, h2, k2⟩ <;> first | (exfalso; omega) | skip
    · exact ⟨by omega, by rw [k1, k2]; exact ⟨e1, e2, e3, e4⟩⟩
    · exact ⟨by omega, by rw [k1, k2]; exact ⟨e1, e2, e3, e4⟩⟩
    · refine ⟨by omega, ?_⟩
      rw [k1, k2]
      exact ⟨rfl, mp_op5_R p o w t.1.2.1 e2 rfl rfl, e3, e4⟩
end MPA
theorem mp_narb {v : Int32} (h0 : 0 ≤ v.toInt) (h1 : v.toInt ≤ 1) : vp_nar .boolean v = v := by
  rcases (show v.toInt = 0 ∨ v.toInt = 1 by omega) with h | h
  · rw [Int32.toInt_inj.mp (h.trans (by decide : (0 : Int) = (0 : Int32).toInt))]; decide
  · rw [Int32.toInt_inj.mp (h.trans (by decide : (1 : Int) = (1 : Int32).toInt))]; decide
theorem mp_l_eq {z : Int64} (h : z.toInt = 0) : z = 0 := Int64.toInt_inj.mp (h.trans (by decide))
theorem mp_l_ne {z : Int64} (h : z.toInt ≠ 0) : z ≠ 0 := fun q => h (by rw [q]; decide)
-- how things stand behind the acts: of each person, where it is, what it has rowed, when it rowed last
def mp_cs (seas home acts : Nat → Int32) (m0 : Int) (p : Nat) : Nat → Int32 × Int32 × Int32
  | 0 => (home p, 0, -1)
  | n + 1 => if (acts n).toInt < 100 ∧ (acts n).toInt / 10 = (p : Int) then (Int32.ofInt ((acts n).toInt % 10), (mp_cs seas home acts m0 p n).2.1 + seas (6 * (mp_cs seas home acts m0 p n).1.toInt + (acts n).toInt % 10).toNat, Int32.ofInt (m0 + mp_c200 acts n)) else mp_cs seas home acts m0 p n
def mp_CS (pl oa ro seas home acts : Nat → Int32) (m0 n : Int) (i : Nat) : Prop := ∀ p : Nat, (p : Int) < n → pl p = (mp_cs seas home acts m0 p i).1 ∧ oa p = (mp_cs seas home acts m0 p i).2.1 ∧ ro p = (mp_cs seas home acts m0 p i).2.2
def mp_AP (pl oa ro pl' oa' ro' seas : Nat → Int32) (code mo : Int) : Prop := (100 ≤ code ∧ pl' = pl ∧ oa' = oa ∧ ro' = ro) ∨ (code < 100 ∧ pl' = upd pl (code / 10).toNat (Int32.ofInt (code % 10)) ∧ oa' = upd oa (code / 10).toNat (oa (code / 10).toNat + seas (6 * (pl (code / 10).toNat).toInt + code % 10).toNat) ∧ ro' = upd ro (code / 10).toNat (Int32.ofInt mo))
theorem mp_CS_s {pl oa ro pl' oa' ro' seas home acts : Nat → Int32} {m0 n code mo : Int} {i : Nat} (h : mp_CS pl oa ro seas home acts m0 n i) (a : mp_AP pl oa ro pl' oa' ro' seas code mo) (hc : code = (acts i).toInt ∧ 0 ≤ code) (hm : mo = m0 + mp_c200 acts i) : mp_CS pl' oa' ro' seas home acts m0 n (i + 1) := by
  intro p hp
  obtain ⟨h1, h2, h3⟩ := h p hp
  have e : mp_cs seas home acts m0 p (i + 1) = if (acts i).toInt < 100 ∧ (acts i).toInt / 10 = (p : Int) then (Int32.ofInt ((acts i).toInt % 10), (mp_cs seas home acts m0 p i).2.1 + seas (6 * (mp_cs seas home acts m0 p i).1.toInt + (acts i).toInt % 10).toNat, Int32.ofInt (m0 + mp_c200 acts i)) else mp_cs seas home acts m0 p i := rfl
  rw [e, ← hc.1]
  rcases a with ⟨a0, rfl, rfl, rfl⟩ | ⟨a0, a1, a2, a3⟩
  · rw [if_neg (by omega)]
    exact ⟨h1, h2, h3⟩
  · by_cases q : code / 10 = (p : Int)
    · have q2 : (code / 10).toNat = p := by omega
      rw [if_pos ⟨a0, q⟩, a1, a2, a3, q2, ← h1, ← h2, hm]
      exact ⟨if_pos rfl, if_pos rfl, if_pos rfl⟩
    · have q2 : ¬ p = (code / 10).toNat := by omega
      rw [if_neg (fun r => q r.2), a1, a2, a3]
      exact ⟨(if_neg q2).trans h1, (if_neg q2).trans h2, (if_neg q2).trans h3⟩
theorem mp_AP_row {pl oa ro pl' oa' ro' seas : Nat → Int32} {code mo : Int} {i0 i1 i2 i3 vp zo r z vm : Int32} (h1 : oa' = upd oa i1.toNatClampNeg z) (hz : z = zo + r) (hzo : zo = oa i0.toNatClampNeg) (hr : r.toInt = (seas (6 * (pl (code / 10).toNat).toInt + code % 10).toNat).toInt) (h2 : pl' = upd pl i2.toNatClampNeg vp) (h3 : ro' = upd ro i3.toNatClampNeg vm) (e0 : i0.toInt = code / 10) (e1 : i1.toInt = code / 10) (e2 : i2.toInt = code / 10) (e3 : i3.toInt = code / 10) (hv : vp.toInt = code % 10) (hm : vm.toInt = mo) (hc : code < 100) : mp_AP pl oa ro pl' oa' ro' seas code mo := by
  have k : ∀ {i : Int32}, i.toInt = code / 10 → i.toNatClampNeg = (code / 10).toNat := fun {i} e => by simp only [Int32.toNatClampNeg]; omega
  refine Or.inr ⟨hc, ?_, ?_, ?_⟩
  · rw [h2, k e2, mp_ofi hv]
  · rw [h1, hz, hzo, k e1, k e0, Int32.toInt_inj.mp hr]
  · rw [h3, k e3, mp_ofi hm]
def mp_init (pl oa ro home : Nat → Int32) (n : Int) : Prop := ∀ j : Nat, (j : Int) < n → pl j = home j ∧ oa j = 0 ∧ ro j = -1
theorem mp_init_0 {pl oa ro home : Nat → Int32} {n : Int} (h : n ≤ 0) : mp_init pl oa ro home n := fun j hj => absurd hj (by omega)
theorem mp_init_s {pl oa ro pl' oa' ro' home : Nat → Int32} {n n' : Int} {i0 i1 i2 z : Int32} (h : mp_init pl oa ro home n) (h1 : pl' = upd pl i0.toNatClampNeg z) (hz : z.toInt = (home n.toNat).toInt) (h2 : oa' = upd oa i1.toNatClampNeg 0) (h3 : ro' = upd ro i2.toNatClampNeg (-1)) (e : 0 ≤ n ∧ i0.toInt = n ∧ i1.toInt = n ∧ i2.toInt = n ∧ n' = n + 1) : mp_init pl' oa' ro' home n' := by
  intro j hj
  have k : ∀ {i : Int32}, i.toInt = n → i.toNatClampNeg = n.toNat := fun {i} e => by simp only [Int32.toNatClampNeg]; omega
  rw [h1, h2, h3, k e.2.1, k e.2.2.1, k e.2.2.2.1]
  by_cases q : j = n.toNat
  · rw [q, Int32.toInt_inj.mp hz]
    exact ⟨if_pos rfl, if_pos rfl, if_pos rfl⟩
  · obtain ⟨g1, g2, g3⟩ := h j (by omega)
    exact ⟨(if_neg q).trans g1, (if_neg q).trans g2, (if_neg q).trans g3⟩
theorem mp_CS_0 {pl oa ro seas home acts : Nat → Int32} {m0 n n' : Int} (h : mp_init pl oa ro home n') (hn : n ≤ n') : mp_CS pl oa ro seas home acts m0 n 0 := fun p hp => h p (by omega)
theorem mp_CS_to {pl oa ro seas home acts : Nat → Int32} {m0 n : Int} {i i' : Nat} (h : mp_CS pl oa ro seas home acts m0 n i) (e : i = i') : mp_CS pl oa ro seas home acts m0 n i' := e ▸ h
/-- seas, homes, acts alike: things stand alike -/
theorem mp_cs_eq {seas home acts seas' home' acts' : Nat → Int32} {m0 : Int} {p : Nat} (hs : ∀ j : Nat, j < 36 → seas j = seas' j) (hh : home p = home' p) (h5 : 0 ≤ (home p).toInt ∧ (home p).toInt ≤ 5) : ∀ {n : Nat}, (∀ j : Nat, j < n → acts j = acts' j ∧ ((acts j).toInt < 100 → 0 ≤ (acts j).toInt ∧ (acts j).toInt % 10 ≤ 5)) → mp_cs seas home acts m0 p n = mp_cs seas' home' acts' m0 p n ∧ 0 ≤ (mp_cs seas home acts m0 p n).1.toInt ∧ (mp_cs seas home acts m0 p n).1.toInt ≤ 5 := by
  intro n
  induction n with
  | zero => intro _; exact ⟨by show (home p, _, _) = (home' p, _, _); rw [hh], h5⟩
  | succ n ih =>
    intro ha
    obtain ⟨g1, g2, g3⟩ := ih (fun j hj => ha j (by omega))
    obtain ⟨a1, a2⟩ := ha n (by omega)
    have hc : mp_c200 acts n = mp_c200 acts' n := mp_c200_cong (fun j hj => (ha j (by omega)).1)
    show (if (acts n).toInt < 100 ∧ (acts n).toInt / 10 = (p : Int) then (Int32.ofInt ((acts n).toInt % 10), (mp_cs seas home acts m0 p n).2.1 + seas (6 * (mp_cs seas home acts m0 p n).1.toInt + (acts n).toInt % 10).toNat, Int32.ofInt (m0 + mp_c200 acts n)) else mp_cs seas home acts m0 p n) = (if (acts' n).toInt < 100 ∧ (acts' n).toInt / 10 = (p : Int) then (Int32.ofInt ((acts' n).toInt % 10), (mp_cs seas' home' acts' m0 p n).2.1 + seas' (6 * (mp_cs seas' home' acts' m0 p n).1.toInt + (acts' n).toInt % 10).toNat, Int32.ofInt (m0 + mp_c200 acts' n)) else mp_cs seas' home' acts' m0 p n) ∧ 0 ≤ (if (acts n).toInt < 100 ∧ (acts n).toInt / 10 = (p : Int) then (Int32.ofInt ((acts n).toInt % 10), (mp_cs seas home acts m0 p n).2.1 + seas (6 * (mp_cs seas home acts m0 p n).1.toInt + (acts n).toInt % 10).toNat, Int32.ofInt (m0 + mp_c200 acts n)) else mp_cs seas home acts m0 p n).1.toInt ∧ (if (acts n).toInt < 100 ∧ (acts n).toInt / 10 = (p : Int) then (Int32.ofInt ((acts n).toInt % 10), (mp_cs seas home acts m0 p n).2.1 + seas (6 * (mp_cs seas home acts m0 p n).1.toInt + (acts n).toInt % 10).toNat, Int32.ofInt (m0 + mp_c200 acts n)) else mp_cs seas home acts m0 p n).1.toInt ≤ 5
    rw [← a1, ← hc, ← g1]
    by_cases q : (acts n).toInt < 100 ∧ (acts n).toInt / 10 = (p : Int)
    · have b := a2 q.1
      rw [if_pos q, if_pos q]
      have e5 : (Int32.ofInt ((acts n).toInt % 10)).toInt = (acts n).toInt % 10 := Int32.toInt_ofInt_of_le (by omega) (by omega)
      refine ⟨?_, ?_, ?_⟩
      · rw [hs _ (by omega)]
      · show 0 ≤ (Int32.ofInt ((acts n).toInt % 10)).toInt; omega
      · show (Int32.ofInt ((acts n).toInt % 10)).toInt ≤ 5; omega
    · rw [if_neg q, if_neg q]
      exact ⟨rfl, g2, g3⟩
/-- may row: last row, moon, isle asked, isle at, oars, death, harbours -/
abbrev mp_crx (ro mo i pl s d : Int) (a b : Bool) : Prop := ro ≠ mo ∧ i ≠ pl ∧ 0 < s ∧ ¬ mp_deadx d mo ∧ a = false ∧ b = false
def mp_lgx (i o s d mo : Int) (a b : Bool) (r : Int) : Prop := (i = o ∧ r = 0) ∨ (i ≠ o ∧ (0 < s ∧ ¬ mp_deadx d mo ∧ a = false ∧ b = false) ∧ r = s) ∨ (i ≠ o ∧ ¬ (0 < s ∧ ¬ mp_deadx d mo ∧ a = false ∧ b = false) ∧ r = -1)
-- bits of those for which it is so; what a promise stands on
def mp_bf (P : Nat → Bool) : Nat → Int32
  | 0 => 0
  | n + 1 => if P n then mp_bf P n ||| (1 <<< (Int32.ofNat n &&& 31)) else mp_bf P n
theorem mp_bf_cong {P Q : Nat → Bool} : ∀ {n : Nat}, (∀ j : Nat, j < n → P j = Q j) → mp_bf P n = mp_bf Q n
  | 0, _ => rfl
  | n + 1, h => by
    show (if P n then mp_bf P n ||| _ else mp_bf P n) = (if Q n then mp_bf Q n ||| _ else mp_bf Q n)
    rw [mp_bf_cong (fun j hj => h j (by omega)), h n (by omega)]
theorem mp_bf_t {P : Nat → Bool} {b z s k : Int32} {i' : Int} (h : b = mp_bf P k.toInt.toNat) (hz : z = b ||| s) (hs : s = 1 <<< (k &&& 31)) (hp : P k.toInt.toNat = true) (h0 : 0 ≤ k.toInt ∧ i' = k.toInt + 1) : z = mp_bf P i'.toNat := by
  rw [show i'.toNat = k.toInt.toNat + 1 by omega]
  show z = if P k.toInt.toNat then mp_bf P k.toInt.toNat ||| (1 <<< (Int32.ofNat k.toInt.toNat &&& 31)) else _
  rw [if_pos hp, hz, hs, h, mp_ofnat h0.1]
theorem mp_bf_f {P : Nat → Bool} {b k : Int32} {i' : Int} (h : b = mp_bf P k.toInt.toNat) (hp : P k.toInt.toNat = false) (h0 : 0 ≤ k.toInt ∧ i' = k.toInt + 1) : b = mp_bf P i'.toNat := by
  rw [show i'.toNat = k.toInt.toNat + 1 by omega]
  show b = if P k.toInt.toNat then _ else mp_bf P k.toInt.toNat
  rw [hp]; exact h
theorem mp_or0 {z b : Int32} (h : z = b ||| 0) : z = b := by rw [h, Int32.or_zero]
/-- those that stand on promise p, it too; n of those behind it looked at -/
def mp_up (ba : Nat → Int32) (p : Nat) : Nat → Int32
  | 0 => 1 <<< (Int32.ofNat p &&& 31)
  | n + 1 => if (ba (p + 1 + n)).toInt ≠ -1 ∧ (mp_up ba p n >>> (ba (p + 1 + n) &&& 31)) &&& 1 ≠ 0 then mp_up ba p n ||| (1 <<< (Int32.ofNat (p + 1 + n) &&& 31)) else mp_up ba p n
theorem mp_up_0 {ba : Nat → Int32} {z p : Int32} (h : z = 1 <<< (p &&& 31)) (h0 : 0 ≤ p.toInt) : z = mp_up ba p.toInt.toNat 0 := by
  show z = 1 <<< (Int32.ofNat p.toInt.toNat &&& 31)
  rw [mp_ofnat h0]; exact h
theorem mp_up_t {ba : Nat → Int32} {b z s y q k p : Int32} {i' : Int} (h : b = mp_up ba p.toInt.toNat (k.toInt - p.toInt - 1).toNat) (hz : z = b ||| s) (hs : s = 1 <<< (k &&& 31)) (hv : (ba k.toInt.toNat).toInt ≠ -1) (hy : y = b >>> (ba k.toInt.toNat &&& 31)) (hq : q = y &&& 1) (hn : q ≠ 0) (h0 : 0 ≤ p.toInt ∧ p.toInt + 1 ≤ k.toInt ∧ i' = k.toInt + 1) : z = mp_up ba p.toInt.toNat (i' - p.toInt - 1).toNat := by
  rw [show (i' - p.toInt - 1).toNat = (k.toInt - p.toInt - 1).toNat + 1 by omega]
  have e : p.toInt.toNat + 1 + (k.toInt - p.toInt - 1).toNat = k.toInt.toNat := by omega
  show z = if (ba (p.toInt.toNat + 1 + (k.toInt - p.toInt - 1).toNat)).toInt ≠ -1 ∧ (mp_up ba p.toInt.toNat (k.toInt - p.toInt - 1).toNat >>> (ba (p.toInt.toNat + 1 + (k.toInt - p.toInt - 1).toNat) &&& 31)) &&& 1 ≠ 0 then mp_up ba p.toInt.toNat (k.toInt - p.toInt - 1).toNat ||| (1 <<< (Int32.ofNat (p.toInt.toNat + 1 + (k.toInt - p.toInt - 1).toNat) &&& 31)) else _
  rw [e, ← h, if_pos ⟨hv, by rw [← hy, ← hq]; exact hn⟩, hz, hs, mp_ofnat (by omega)]
theorem mp_up_f {ba : Nat → Int32} {b k p : Int32} {i' : Int} (h : b = mp_up ba p.toInt.toNat (k.toInt - p.toInt - 1).toNat) (hv : ¬ ((ba k.toInt.toNat).toInt ≠ -1 ∧ (b >>> (ba k.toInt.toNat &&& 31)) &&& 1 ≠ 0)) (h0 : 0 ≤ p.toInt ∧ p.toInt + 1 ≤ k.toInt ∧ i' = k.toInt + 1) : b = mp_up ba p.toInt.toNat (i' - p.toInt - 1).toNat := by
  rw [show (i' - p.toInt - 1).toNat = (k.toInt - p.toInt - 1).toNat + 1 by omega]
  have e : p.toInt.toNat + 1 + (k.toInt - p.toInt - 1).toNat = k.toInt.toNat := by omega
  show b = if (ba (p.toInt.toNat + 1 + (k.toInt - p.toInt - 1).toNat)).toInt ≠ -1 ∧ (mp_up ba p.toInt.toNat (k.toInt - p.toInt - 1).toNat >>> (ba (p.toInt.toNat + 1 + (k.toInt - p.toInt - 1).toNat) &&& 31)) &&& 1 ≠ 0 then _ else mp_up ba p.toInt.toNat (k.toInt - p.toInt - 1).toNat
  rw [e, ← h, if_neg hv]
theorem mp_up_cong {ba ba' : Nat → Int32} {p : Nat} : ∀ {n : Nat}, (∀ j : Nat, j < p + 1 + n → ba j = ba' j) → mp_up ba p n = mp_up ba' p n
  | 0, _ => rfl
  | n + 1, h => by
    show (if (ba (p + 1 + n)).toInt ≠ -1 ∧ (mp_up ba p n >>> (ba (p + 1 + n) &&& 31)) &&& 1 ≠ 0 then mp_up ba p n ||| _ else mp_up ba p n) = (if (ba' (p + 1 + n)).toInt ≠ -1 ∧ (mp_up ba' p n >>> (ba' (p + 1 + n) &&& 31)) &&& 1 ≠ 0 then mp_up ba' p n ||| _ else mp_up ba' p n)
    rw [mp_up_cong (fun j hj => h j (by omega)), h (p + 1 + n) (by omega)]
theorem mp_and1b {x : Int32} : x &&& 1 = 0 ∨ x &&& 1 = 1 := by
  have h : ∀ b : Bool, (BitVec.ofBool b).setWidth 32 = 0#32 ∨ (BitVec.ofBool b).setWidth 32 = 1#32 := by decide
  have e : (x &&& 1).toBitVec = (BitVec.ofBool (x.toBitVec.getLsbD 0)).setWidth 32 := by
    rw [Int32.toBitVec_and]
    ext i hi
    cases i with
    | zero => simp
    | succ i => simp [BitVec.getElem_setWidth]
  rcases h (x.toBitVec.getLsbD 0) with q | q
  · left; exact Int32.toBitVec_inj.mp (e.trans q)
  · right; exact Int32.toBitVec_inj.mp (e.trans q)
/-- n steps down the promises on which one stands -/
def mp_it (ba : Nat → Int32) (k : Int) : Nat → Int
  | 0 => k
  | n + 1 => if (ba (mp_it ba k n).toNat).toInt = -1 then mp_it ba k n else (ba (mp_it ba k n).toNat).toInt
theorem mp_it_s {ba : Nat → Int32} {k a a' d d' : Int} (h : a = mp_it ba k d.toNat) (hb : (ba a.toNat).toInt ≠ -1) (ha : a' = (ba a.toNat).toInt) (hd : 0 ≤ d ∧ d' = d + 1) : a' = mp_it ba k d'.toNat := by
  rw [show d'.toNat = d.toNat + 1 by omega]
  show a' = if (ba (mp_it ba k d.toNat).toNat).toInt = -1 then _ else (ba (mp_it ba k d.toNat).toNat).toInt
  rw [← h, if_neg hb]; exact ha
theorem mp_it_stop {ba : Nat → Int32} {k : Int} {n : Nat} (hb : (ba (mp_it ba k n).toNat).toInt = -1) : ∀ {m : Nat}, n ≤ m → mp_it ba k m = mp_it ba k n := by
  intro m hm
  induction hm with
  | refl => rfl
  | step _ ih =>
    show (if (ba (mp_it ba k _).toNat).toInt = -1 then mp_it ba k _ else _) = _
    rw [ih, if_pos hb]
theorem mp_it_end {ba : Nat → Int32} {k a d : Int} (h : a = mp_it ba k d.toNat) (hd : d.toNat ≤ 10) (he : d = 10 ∨ (ba a.toNat).toInt = -1) : a = mp_it ba k 10 := by
  rcases he with he | he
  · rw [h, he]; rfl
  · rw [h] at he
    rw [mp_it_stop he hd]; exact h
theorem mp_it_c {ba : Nat → Int32} {k : Int} (hb : (ba k.toNat).toInt ≠ -1) : ∀ {n : Nat}, mp_it ba k (n + 1) = mp_it ba (ba k.toNat).toInt n := by
  intro n
  induction n with
  | zero => show (if (ba k.toNat).toInt = -1 then k else (ba k.toNat).toInt) = _; rw [if_neg hb]; rfl
  | succ n ih =>
    show (if (ba (mp_it ba k (n + 1)).toNat).toInt = -1 then mp_it ba k (n + 1) else (ba (mp_it ba k (n + 1)).toNat).toInt) = (if (ba (mp_it ba (ba k.toNat).toInt n).toNat).toInt = -1 then mp_it ba (ba k.toNat).toInt n else (ba (mp_it ba (ba k.toNat).toInt n).toNat).toInt)
    rw [ih]
/-- where it ends -/
def mp_RO (ba : Nat → Int32) (k r : Int) : Prop := ∃ n : Nat, (n : Int) ≤ k ∧ r = mp_it ba k n ∧ (ba r.toNat).toInt = -1
theorem mp_RO_0 {ba : Nat → Int32} {k : Int} (h : (ba k.toNat).toInt = -1) (h0 : 0 ≤ k) : mp_RO ba k k := ⟨0, by omega, rfl, h⟩
theorem mp_RO_s {ba : Nat → Int32} {k k2 r : Int} (h : mp_RO ba k2 r) (hk : k2 = (ba k.toNat).toInt) (hb : k2 ≠ -1) (hl : k2 < k) : mp_RO ba k r := by
  subst hk
  obtain ⟨n, h1, h2, h3⟩ := h
  exact ⟨n + 1, by omega, by rw [mp_it_c hb]; exact h2, h3⟩
theorem mp_RO_it {ba : Nat → Int32} {k r : Int} (h : mp_RO ba k r) (hk : k ≤ 10) : r = mp_it ba k 10 := by
  obtain ⟨n, h1, h2, h3⟩ := h
  rw [h2] at h3
  rw [mp_it_stop h3 (by omega)]; exact h2
theorem mp_it_cong {ba ba' : Nat → Int32} {n : Int} (h : ∀ j : Nat, (j : Int) < n → ba j = ba' j) (hl : ∀ j : Nat, (j : Int) < n → -1 ≤ (ba j).toInt ∧ (ba j).toInt < (j : Int)) {k : Int} (hk : 0 ≤ k ∧ k < n) : ∀ {m : Nat}, mp_it ba k m = mp_it ba' k m ∧ 0 ≤ mp_it ba k m ∧ mp_it ba k m < n := by
  intro m
  induction m with
  | zero => exact ⟨rfl, hk.1, hk.2⟩
  | succ m ih =>
    obtain ⟨i1, i2, i3⟩ := ih
    have g := h (mp_it ba k m).toNat (by omega)
    have l := hl (mp_it ba k m).toNat (by omega)
    show (if (ba (mp_it ba k m).toNat).toInt = -1 then mp_it ba k m else (ba (mp_it ba k m).toNat).toInt) = (if (ba' (mp_it ba' k m).toNat).toInt = -1 then mp_it ba' k m else (ba' (mp_it ba' k m).toNat).toInt) ∧ 0 ≤ (if (ba (mp_it ba k m).toNat).toInt = -1 then mp_it ba k m else (ba (mp_it ba k m).toNat).toInt) ∧ (if (ba (mp_it ba k m).toNat).toInt = -1 then mp_it ba k m else (ba (mp_it ba k m).toNat).toInt) < n
    rw [← i1, ← g]
    by_cases e : (ba (mp_it ba k m).toNat).toInt = -1
    · rw [if_pos e]; exact ⟨rfl, i2, i3⟩
    · rw [if_neg e]; exact ⟨rfl, by omega, by omega⟩
/-- the reference's harbours and seas, said as the class says them -/
theorem mp_crx_m {ro mo i pl s d h1 h2 s' : Int} {a b : Bool} (hs : s = s') (ha : a = decide (h1 ≠ 0)) (hb : b = decide (h2 ≠ 0)) : mp_crx ro mo i pl s' d a b ↔ (ro ≠ mo ∧ mp_seax pl i s d mo h1 h2) := by
  subst hs ha hb
  unfold mp_crx
  constructor
  · rintro ⟨q1, q2, q3, q4, q5, q6⟩
    have k5 := of_decide_eq_false q5
    have k6 := of_decide_eq_false q6
    omega
  · rintro ⟨q1, q2⟩
    exact ⟨q1, by omega, by omega, by omega, decide_eq_false (by omega), decide_eq_false (by omega)⟩
/-- who owes, to whom: people that are told -/
def mp_wfC (ow oe : Nat → Int32) (k n : Int) : Prop := ∀ j : Nat, (j : Int) < k → (0 ≤ (ow j).toInt ∧ (ow j).toInt < n) ∧ (0 ≤ (oe j).toInt ∧ (oe j).toInt < n)
def mp_wfM (pr : Nat → Int32) (k n : Int) : Prop := ∀ j : Nat, (j : Int) < k → (0 ≤ (pr (6 * j + 0)).toInt ∧ (pr (6 * j + 0)).toInt < n) ∧ (0 ≤ (pr (6 * j + 1)).toInt ∧ (pr (6 * j + 1)).toInt < n)
theorem mp_cs_acts {seas home acts acts' : Nat → Int32} {m0 : Int} {p : Nat} : ∀ {n : Nat}, (∀ j : Nat, j < n → acts' j = acts j) → mp_cs seas home acts' m0 p n = mp_cs seas home acts m0 p n
  | 0, _ => rfl
  | n + 1, h => by
    show (if (acts' n).toInt < 100 ∧ (acts' n).toInt / 10 = (p : Int) then (Int32.ofInt ((acts' n).toInt % 10), (mp_cs seas home acts' m0 p n).2.1 + seas (6 * (mp_cs seas home acts' m0 p n).1.toInt + (acts' n).toInt % 10).toNat, Int32.ofInt (m0 + mp_c200 acts' n)) else mp_cs seas home acts' m0 p n) = (if (acts n).toInt < 100 ∧ (acts n).toInt / 10 = (p : Int) then (Int32.ofInt ((acts n).toInt % 10), (mp_cs seas home acts m0 p n).2.1 + seas (6 * (mp_cs seas home acts m0 p n).1.toInt + (acts n).toInt % 10).toNat, Int32.ofInt (m0 + mp_c200 acts n)) else mp_cs seas home acts m0 p n)
    rw [mp_cs_acts (fun j hj => h j (by omega)), h n (by omega), mp_c200_cong (f := acts') (g := acts) (fun j hj => h j (by omega))]
theorem mp_CS_add {pl oa ro pl' oa' ro' seas home acts acts' : Nat → Int32} {m0 n code mo : Int} {i : Nat} {v : Int32} (h : mp_CS pl oa ro seas home acts m0 n i) (a : mp_AP pl oa ro pl' oa' ro' seas code mo) (e : acts' = upd acts i v) (hc : v.toInt = code ∧ 0 ≤ code) (hm : mo = m0 + mp_c200 acts i) : mp_CS pl' oa' ro' seas home acts' m0 n (i + 1) := by
  have k : ∀ j : Nat, j < i → acts' j = acts j := fun j hj => by rw [e]; exact if_neg (by omega)
  have k2 : acts' i = v := by rw [e]; exact if_pos rfl
  refine mp_CS_s (fun p hp => ?_) a ⟨by rw [k2]; exact hc.1.symm, hc.2⟩ (by rw [mp_c200_cong k]; exact hm)
  rw [mp_cs_acts k]; exact h p hp
theorem mp_up_nm {ba : Nat → Int32} {b r k : Int32} (hr : r.toInt = (ba k.toInt.toNat).toInt) (hb : ¬ mp_bitx b r) : ¬ ((ba k.toInt.toNat).toInt ≠ -1 ∧ (b >>> (ba k.toInt.toNat &&& 31)) &&& 1 ≠ 0) := by
  rintro ⟨-, q⟩
  rw [← Int32.toInt_inj.mp hr] at q
  rcases mp_and1b (x := b >>> (r &&& 31)) with e | e
  · exact q e
  · exact hb e
theorem mp_up_tm {ba : Nat → Int32} {b z s r k p : Int32} {i' : Int} (h : b = mp_up ba p.toInt.toNat (k.toInt - p.toInt - 1).toNat) (hz : z = b ||| s) (hs : s = 1 <<< (k &&& 31)) (hr : r.toInt = (ba k.toInt.toNat).toInt) (hv : r.toInt ≠ -1) (hb : mp_bitx b r) (h0 : 0 ≤ p.toInt ∧ p.toInt + 1 ≤ k.toInt ∧ i' = k.toInt + 1) : z = mp_up ba p.toInt.toNat (i' - p.toInt - 1).toNat := by
  refine mp_up_t h hz hs (by rw [← hr]; exact hv) rfl rfl ?_ h0
  rw [← Int32.toInt_inj.mp hr, hb]
  decide
