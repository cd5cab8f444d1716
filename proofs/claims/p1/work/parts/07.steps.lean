-- steps outside the blocks, facts of compares, of contents
theorem mp_i2l {z : Int64} {x : Int32} (h : z = x.toInt64) : z.toInt = x.toInt := by rw [h, Int32.toInt_toInt64]
theorem mp_lc_lt {z : Int32} {x y : Int64} (h : z = lg_cmp x y) (c : z.toInt < 0) : x.toInt < y.toInt := by
  rw [h] at c
  exact Int64.lt_iff_toInt_lt.mp ((lg_cmp_lt x y).mp (mp_i32_lt.mpr (by rw [mp_t0]; exact c)))
theorem mp_lc_ge {z : Int32} {x y : Int64} (h : z = lg_cmp x y) (c : 0 ≤ z.toInt) : y.toInt ≤ x.toInt := by
  rw [h] at c
  exact Int64.le_iff_toInt_le.mp ((lg_cmp_ge x y).mp (mp_i32_le.mpr (by rw [mp_t0]; exact c)))
theorem mp_lc_gt {z : Int32} {x y : Int64} (h : z = lg_cmp x y) (c : 0 < z.toInt) : y.toInt < x.toInt := by
  rw [h] at c
  exact Int64.lt_iff_toInt_lt.mp ((lg_cmp_gt x y).mp (mp_i32_lt.mpr (by rw [mp_t0]; exact c)))
theorem mp_lc_le {z : Int32} {x y : Int64} (h : z = lg_cmp x y) (c : z.toInt ≤ 0) : x.toInt ≤ y.toInt := by
  rw [h] at c
  exact Int64.le_iff_toInt_le.mp ((lg_cmp_le x y).mp (mp_i32_le.mpr (by rw [mp_t0]; exact c)))
theorem mp_lc_eq {z : Int32} {x y : Int64} (h : z = lg_cmp x y) (c : z = 0) : x.toInt = y.toInt := by
  rw [h] at c
  rw [(lg_cmp_eq x y).mp c]
theorem mp_lc_ne {z : Int32} {x y : Int64} (h : z = lg_cmp x y) (c : z.toInt ≠ 0) : x.toInt ≠ y.toInt := by
  intro q
  apply c
  rw [h, (lg_cmp_eq x y).mpr (Int64.toInt_inj.mp q)]
  decide
theorem mp_at {α : Type} {f : Nat → α} {i : Int32} {k : Nat} {z c : α} (h : z = f i.toNatClampNeg) (hi : i.toNatClampNeg = k) (hk : f k = c) : z = c := by rw [h, hi, hk]
theorem mp_ata {α : Type} {f : Nat → α} {i : Int32} {N : Nat} {z c : α} (h : z = f i.toNatClampNeg) (p : ∀ j, j < N → f j = c) (h0 : 0 ≤ i.toInt) (h1 : i.toInt < N) : z = c := by
  rw [h]
  refine p _ ?_
  simp only [Int32.toNatClampNeg]
  omega
theorem mp_upds {f g : Nat → Int32} {i v : Int32} {k : Nat} (h : g = upd f i.toNatClampNeg v) (hi : i.toNatClampNeg = k) : g k = v := by
  rw [h, hi]; simp [upd]
theorem mp_updo {f g : Nat → Int32} {i v c : Int32} {k : Nat} (h : g = upd f i.toNatClampNeg v) (hk : f k = c) (hi : ¬ k = i.toNatClampNeg) : g k = c := by
  rw [h]; simp [upd, hi, hk]
theorem mp_updls {f g : Nat → Int64} {i : Int32} {v : Int64} {k : Nat} (h : g = vp_updL f i.toNatClampNeg v) (hi : i.toNatClampNeg = k) : g k = v := by
  rw [h, hi]; simp [vp_updL]
theorem mp_updlo {f g : Nat → Int64} {i : Int32} {v c : Int64} {k : Nat} (h : g = vp_updL f i.toNatClampNeg v) (hk : f k = c) (hi : ¬ k = i.toNatClampNeg) : g k = c := by
  rw [h]; simp [vp_updL, hi, hk]
theorem mp_updqs {f g : Nat → Option Nat} {i : Int32} {v : Option Nat} {k : Nat} (h : g = va_up f i.toNatClampNeg v) (hi : i.toNatClampNeg = k) : g k = v := by
  rw [h, hi]; simp [va_up]
theorem mp_updqo {f g : Nat → Option Nat} {i : Int32} {v c : Option Nat} {k : Nat} (h : g = va_up f i.toNatClampNeg v) (hk : f k = c) (hi : ¬ k = i.toNatClampNeg) : g k = c := by
  rw [h]; simp [va_up, hi, hk]
section MPS
variable {E : mp_E} {X : mp_X} {M : mp_M} {pc : Nat} {lv : List (Nat × Value)} {rest : List Value} {ws : va_W} {k n : Nat}
theorem mp_ifn_t (hF : mp_F E X M) {off : Int} {tgt : Nat} (hdg : decode M.2.1 pc = .ok (.ifnull off, 3)) (ht : (pc : Int) + off = (tgt : Int)) (kk : mp_W E X M.2.2.1 tgt lv rest ws k n) : mp_W E X M.2.2.1 pc lv (.null :: rest) ws k n := by
  intro H locs ls hP hD hS hl
  exact lv_ifnullN hF.1 hF.2.1 hdg ht (kk H locs ls hP hD hS hl)
theorem mp_ifn_f (hF : mp_F E X M) {off : Int} {a : Nat} (hdg : decode M.2.1 pc = .ok (.ifnull off, 3)) (kk : mp_W E X M.2.2.1 (pc + 3) lv rest ws k n) : mp_W E X M.2.2.1 pc lv (.ref a :: rest) ws k n := by
  intro H locs ls hP hD hS hl
  exact lv_ifnull hF.1 hF.2.1 hdg (kk H locs ls hP hD hS hl)
theorem mp_ifnn_t (hF : mp_F E X M) {off : Int} {tgt : Nat} {a : Nat} (hdg : decode M.2.1 pc = .ok (.ifnonnull off, 3)) (ht : (pc : Int) + off = (tgt : Int)) (kk : mp_W E X M.2.2.1 tgt lv rest ws k n) : mp_W E X M.2.2.1 pc lv (.ref a :: rest) ws k n := by
  intro H locs ls hP hD hS hl
  exact lv_ifnonnull hF.1 hF.2.1 hdg ht (kk H locs ls hP hD hS hl)
theorem mp_ifnn_f (hF : mp_F E X M) {off : Int} (hdg : decode M.2.1 pc = .ok (.ifnonnull off, 3)) (kk : mp_W E X M.2.2.1 (pc + 3) lv rest ws k n) : mp_W E X M.2.2.1 pc lv (.null :: rest) ws k n := by
  intro H locs ls hP hD hS hl
  exact lv_ifnonnullN hF.1 hF.2.1 hdg (kk H locs ls hP hD hS hl)
theorem mp_lushr (hF : mp_F E X M) {x : Int64} {y : Int32} (hdg : decode M.2.1 pc = .ok (.lushr, 1)) (kk : ∀ z : Int64, z = (x.toUInt64 >>> (y.toInt64.toUInt64 &&& Int64.toUInt64 63)).toInt64 → mp_W E X M.2.2.1 (pc + 1) lv (.long z :: rest) ws k n) : mp_W E X M.2.2.1 pc lv (.int y :: .long x :: rest) ws k n := by
  intro H locs ls hP hD hS hl
  exact lv_lushr hF.1 hF.2.1 hdg rfl (kk _ rfl H locs ls hP hD hS hl)
theorem mp_astq (hF : mp_F E X M) (q0 qk : Nat) {a v N : Nat} {f : Nat → Option Nat} {vs : List Value} (ha : ws[q0]? = some (a, .inl (E.2.2 4, N, .inr (.inr (.inr (.inr f)))))) (hv : ws[qk]? = some (v, .inr (7, vs))) {i : Int32} (hin : vp_in i N) (hdg : decode M.2.1 pc = .ok (.aastore, 1))
    (kk : ∀ g : Nat → Option Nat, g = va_up f i.toNatClampNeg (some v) → mp_W E X M.2.2.1 (pc + 1) lv rest (ws.set q0 (a, .inl (E.2.2 4, N, .inr (.inr (.inr (.inr g)))))) k n) : mp_W E X M.2.2.1 pc lv (.ref v :: .int i :: .ref a :: rest) ws k n := by
  intro H locs ls hP hD hS hl
  obtain ⟨hx, hb, hml, hown, hts, hK, hA, hlk, hR, hrt, hin', hN⟩ := hF
  exact va_astq (r := (RX7, TX7, _)) hx hb hK hP hD hS q0 4 qk 7 ha rfl hv rfl hin hdg (fun H1 locs1 hP hD hS => kk _ rfl H1 locs1 ls hP hD hS hl)
end MPS
def mp_tabJ6 : mp_T := ([], [(265, 1431655765), (266, 858993459), (267, 252645135)], [])
set_option maxRecDepth 100000 in
theorem mp_tabJ6_ok : mp_Tok RJ6 mp_tabJ6 := ⟨mp_lks_ok (js := []) (by decide +kernel), mp_cks_ok (js := [4167, 4168, 4169]) (by decide +kernel), mp_cls_ok (js := []) (by decide +kernel)⟩
def mp_tabJ13 : mp_T := ([], [], [(314, 6148914691236517205), (316, 3689348814741910323), (318, 1085102592571150095)])
set_option maxRecDepth 100000 in
theorem mp_tabJ13_ok : mp_Tok RJ13 mp_tabJ13 := ⟨mp_lks_ok (js := []) (by decide +kernel), mp_cks_ok (js := []) (by decide +kernel), mp_cls_ok (js := [5196, 5197, 5198]) (by decide +kernel)⟩
