theorem mp_narb {v : Int32} (h0 : 0 ≤ v.toInt) (h1 : v.toInt ≤ 1) : vp_nar .boolean v = v := by
  rcases (show v.toInt = 0 ∨ v.toInt = 1 by omega) with h | h
  · rw [Int32.toInt_inj.mp (h.trans (by decide : (0 : Int) = (0 : Int32).toInt))]; decide
  · rw [Int32.toInt_inj.mp (h.trans (by decide : (1 : Int) = (1 : Int32).toInt))]; decide
theorem mp_l_eq {z : Int64} (h : z.toInt = 0) : z = 0 := Int64.toInt_inj.mp (h.trans (by decide))
theorem mp_l_ne {z : Int64} (h : z.toInt ≠ 0) : z ≠ 0 := fun q => h (by rw [q]; decide)
-- how things stand behind the acts: of each person, where it is, what it has rowed, when it rowed last
def mp_cs (seas home acts : Nat → Int32) (m0 : Int) (p : Nat) : Nat → Int32 × Int32 × Int32
  | 0 => (home p, 0, -1)
  | n + 1 => if (acts n).toInt < 100 ∧ (acts n).toInt / 10 = (p : Int) then (Int32.ofInt ((acts n).toInt % 10), (mp_cs seas home acts m0 p n).2.1 + seas (6 * (mp_cs seas home acts m0 p n).1.toInt + (acts n).toInt % 10).toNat, Int32.ofInt (m0 + mp_c200 acts n)) else mp_cs seas home acts m0 p n
def mp_CS (pl oa ro seas home acts : Nat → Int32) (m0 n : Int) (i : Nat) : Prop := ∀ p : Nat, (p : Int) < n → pl p = (mp_cs seas home acts m0 p i).1 ∧ oa p = (mp_cs seas home acts m0 p i).2.1 ∧ ro p = (mp_cs seas home acts m0 p i).2.2
def mp_AP (pl oa ro pl' oa' ro' seas : Nat → Int32) (code mo : Int) : Prop := (100 ≤ code ∧ pl' = pl ∧ oa' = oa ∧ ro' = ro) ∨ (code < 100 ∧ pl' = upd pl (code / 10).toNat (Int32.ofInt (code % 10)) ∧ oa' = upd oa (code / 10).toNat (oa (code / 10).toNat + seas (6 * (pl (code / 10).toNat).toInt + code % 10).toNat) ∧ ro' = upd ro (code / 10).toNat (Int32.ofInt mo))
theorem mp_CS_s {pl oa ro pl' oa' ro' seas home acts : Nat → Int32} {m0 n code mo : Int} {i : Nat} (h : mp_CS pl oa ro seas home acts m0 n i) (a : mp_AP pl oa ro pl' oa' ro' seas code mo) (hc : code = (acts i).toInt ∧ 0 ≤ code) (hm : mo = m0 + mp_c200 acts i) : mp_CS pl' oa' ro' seas home acts m0 n (i + 1) := by
  intro p hp
  obtain ⟨h1, h2, h3⟩ := h p hp
  have e : mp_cs seas home acts m0 p (i + 1) = if (acts i).toInt < 100 ∧ (acts i).toInt / 10 = (p : Int) then (Int32.ofInt ((acts i).toInt % 10), (mp_cs seas home acts m0 p i).2.1 + seas (6 * (mp_cs seas home acts m0 p i).1.toInt + (acts i).toInt % 10).toNat, Int32.ofInt (m0 + mp_c200 acts i)) else mp_cs seas home acts m0 p i := rfl
  rw [e, ← hc.1]
  rcases a with ⟨a0, rfl, rfl, rfl⟩ | ⟨a0, a1, a2, a3⟩
  · rw [if_neg (by omega)]
    exact ⟨h1, h2, h3⟩
  · by_cases q : code / 10 = (p : Int)
    · have q2 : (code / 10).toNat = p := by omega
      rw [if_pos ⟨a0, q⟩, a1, a2, a3, q2, ← h1, ← h2, hm]
      exact ⟨if_pos rfl, if_pos rfl, if_pos rfl⟩
    · have q2 : ¬ p = (code / 10).toNat := by omega
      rw [if_neg (fun r => q r.2), a1, a2, a3]
      exact ⟨(if_neg q2).trans h1, (if_neg q2).trans h2, (if_neg q2).trans h3⟩
theorem mp_AP_row {pl oa ro pl' oa' ro' seas : Nat → Int32} {code mo : Int} {i0 i1 i2 i3 vp zo r z vm : Int32} (h1 : oa' = upd oa i1.toNatClampNeg z) (hz : z = zo + r) (hzo : zo = oa i0.toNatClampNeg) (hr : r.toInt = (seas (6 * (pl (code / 10).toNat).toInt + code % 10).toNat).toInt) (h2 : pl' = upd pl i2.toNatClampNeg vp) (h3 : ro' = upd ro i3.toNatClampNeg vm) (e0 : i0.toInt = code / 10) (e1 : i1.toInt = code / 10) (e2 : i2.toInt = code / 10) (e3 : i3.toInt = code / 10) (hv : vp.toInt = code % 10) (hm : vm.toInt = mo) (hc : code < 100) : mp_AP pl oa ro pl' oa' ro' seas code mo := by
  have k : ∀ {i : Int32}, i.toInt = code / 10 → i.toNatClampNeg = (code / 10).toNat := fun {i} e => by simp only [Int32.toNatClampNeg]; omega
  refine Or.inr ⟨hc, ?_, ?_, ?_⟩
  · rw [h2, k e2, mp_ofi hv]
  · rw [h1, hz, hzo, k e1, k e0, Int32.toInt_inj.mp hr]
  · rw [h3, k e3, mp_ofi hm]
def mp_init (pl oa ro home : Nat → Int32) (n : Int) : Prop := ∀ j : Nat, (j : Int) < n → pl j = home j ∧ oa j = 0 ∧ ro j = -1
theorem mp_init_0 {pl oa ro home : Nat → Int32} {n : Int} (h : n ≤ 0) : mp_init pl oa ro home n := fun j hj => absurd hj (by omega)
theorem mp_init_s {pl oa ro pl' oa' ro' home : Nat → Int32} {n n' : Int} {i0 i1 i2 z : Int32} (h : mp_init pl oa ro home n) (h1 : pl' = upd pl i0.toNatClampNeg z) (hz : z.toInt = (home n.toNat).toInt) (h2 : oa' = upd oa i1.toNatClampNeg 0) (h3 : ro' = upd ro i2.toNatClampNeg (-1)) (e : 0 ≤ n ∧ i0.toInt = n ∧ i1.toInt = n ∧ i2.toInt = n ∧ n' = n + 1) : mp_init pl' oa' ro' home n' := by
  intro j hj
  have k : ∀ {i : Int32}, i.toInt = n → i.toNatClampNeg = n.toNat := fun {i} e => by simp only [Int32.toNatClampNeg]; omega
  rw [h1, h2, h3, k e.2.1, k e.2.2.1, k e.2.2.2.1]
  by_cases q : j = n.toNat
  · rw [q, Int32.toInt_inj.mp hz]
    exact ⟨if_pos rfl, if_pos rfl, if_pos rfl⟩
  · obtain ⟨g1, g2, g3⟩ := h j (by omega)
    exact ⟨(if_neg q).trans g1, (if_neg q).trans g2, (if_neg q).trans g3⟩
theorem mp_CS_0 {pl oa ro seas home acts : Nat → Int32} {m0 n n' : Int} (h : mp_init pl oa ro home n') (hn : n ≤ n') : mp_CS pl oa ro seas home acts m0 n 0 := fun p hp => h p (by omega)
theorem mp_CS_to {pl oa ro seas home acts : Nat → Int32} {m0 n : Int} {i i' : Nat} (h : mp_CS pl oa ro seas home acts m0 n i) (e : i = i') : mp_CS pl oa ro seas home acts m0 n i' := e ▸ h
/-- seas, homes, acts alike: things stand alike -/
theorem mp_cs_eq {seas home acts seas' home' acts' : Nat → Int32} {m0 : Int} {p : Nat} (hs : ∀ j : Nat, j < 36 → seas j = seas' j) (hh : home p = home' p) (h5 : 0 ≤ (home p).toInt ∧ (home p).toInt ≤ 5) : ∀ {n : Nat}, (∀ j : Nat, j < n → acts j = acts' j ∧ ((acts j).toInt < 100 → 0 ≤ (acts j).toInt ∧ (acts j).toInt % 10 ≤ 5)) → mp_cs seas home acts m0 p n = mp_cs seas' home' acts' m0 p n ∧ 0 ≤ (mp_cs seas home acts m0 p n).1.toInt ∧ (mp_cs seas home acts m0 p n).1.toInt ≤ 5 := by
  intro n
  induction n with
  | zero => intro _; exact ⟨by show (home p, _, _) = (home' p, _, _); rw [hh], h5⟩
  | succ n ih =>
    intro ha
    obtain ⟨g1, g2, g3⟩ := ih (fun j hj => ha j (by omega))
    obtain ⟨a1, a2⟩ := ha n (by omega)
    have hc : mp_c200 acts n = mp_c200 acts' n := mp_c200_cong (fun j hj => (ha j (by omega)).1)
    show (if (acts n).toInt < 100 ∧ (acts n).toInt / 10 = (p : Int) then (Int32.ofInt ((acts n).toInt % 10), (mp_cs seas home acts m0 p n).2.1 + seas (6 * (mp_cs seas home acts m0 p n).1.toInt + (acts n).toInt % 10).toNat, Int32.ofInt (m0 + mp_c200 acts n)) else mp_cs seas home acts m0 p n) = (if (acts' n).toInt < 100 ∧ (acts' n).toInt / 10 = (p : Int) then (Int32.ofInt ((acts' n).toInt % 10), (mp_cs seas' home' acts' m0 p n).2.1 + seas' (6 * (mp_cs seas' home' acts' m0 p n).1.toInt + (acts' n).toInt % 10).toNat, Int32.ofInt (m0 + mp_c200 acts' n)) else mp_cs seas' home' acts' m0 p n) ∧ 0 ≤ (if (acts n).toInt < 100 ∧ (acts n).toInt / 10 = (p : Int) then (Int32.ofInt ((acts n).toInt % 10), (mp_cs seas home acts m0 p n).2.1 + seas (6 * (mp_cs seas home acts m0 p n).1.toInt + (acts n).toInt % 10).toNat, Int32.ofInt (m0 + mp_c200 acts n)) else mp_cs seas home acts m0 p n).1.toInt ∧ (if (acts n).toInt < 100 ∧ (acts n).toInt / 10 = (p : Int) then (Int32.ofInt ((acts n).toInt % 10), (mp_cs seas home acts m0 p n).2.1 + seas (6 * (mp_cs seas home acts m0 p n).1.toInt + (acts n).toInt % 10).toNat, Int32.ofInt (m0 + mp_c200 acts n)) else mp_cs seas home acts m0 p n).1.toInt ≤ 5
    rw [← a1, ← hc, ← g1]
    by_cases q : (acts n).toInt < 100 ∧ (acts n).toInt / 10 = (p : Int)
    · have b := a2 q.1
      rw [if_pos q, if_pos q]
      have e5 : (Int32.ofInt ((acts n).toInt % 10)).toInt = (acts n).toInt % 10 := Int32.toInt_ofInt_of_le (by omega) (by omega)
      refine ⟨?_, ?_, ?_⟩
      · rw [hs _ (by omega)]
      · show 0 ≤ (Int32.ofInt ((acts n).toInt % 10)).toInt; omega
      · show (Int32.ofInt ((acts n).toInt % 10)).toInt ≤ 5; omega
    · rw [if_neg q, if_neg q]
      exact ⟨rfl, g2, g3⟩
/-- may row: last row, moon, isle asked, isle at, oars, death, harbours -/
abbrev mp_crx (ro mo i pl s d : Int) (a b : Bool) : Prop := ro ≠ mo ∧ i ≠ pl ∧ 0 < s ∧ ¬ mp_deadx d mo ∧ a = false ∧ b = false
def mp_lgx (i o s d mo : Int) (a b : Bool) (r : Int) : Prop := (i = o ∧ r = 0) ∨ (i ≠ o ∧ (0 < s ∧ ¬ mp_deadx d mo ∧ a = false ∧ b = false) ∧ r = s) ∨ (i ≠ o ∧ ¬ (0 < s ∧ ¬ mp_deadx d mo ∧ a = false ∧ b = false) ∧ r = -1)
-- bits of those for which it is so; what a promise stands on
def mp_bf (P : Nat → Bool) : Nat → Int32
  | 0 => 0
  | n + 1 => if P n then mp_bf P n ||| (1 <<< (Int32.ofNat n &&& 31)) else mp_bf P n
theorem mp_bf_cong {P Q : Nat → Bool} : ∀ {n : Nat}, (∀ j : Nat, j < n → P j = Q j) → mp_bf P n = mp_bf Q n
  | 0, _ => rfl
  | n + 1, h => by
    show (if P n then mp_bf P n ||| _ else mp_bf P n) = (if Q n then mp_bf Q n ||| _ else mp_bf Q n)
    rw [mp_bf_cong (fun j hj => h j (by omega)), h n (by omega)]
theorem mp_bf_t {P : Nat → Bool} {b z s k : Int32} {i' : Int} (h : b = mp_bf P k.toInt.toNat) (hz : z = b ||| s) (hs : s = 1 <<< (k &&& 31)) (hp : P k.toInt.toNat = true) (h0 : 0 ≤ k.toInt ∧ i' = k.toInt + 1) : z = mp_bf P i'.toNat := by
  rw [show i'.toNat = k.toInt.toNat + 1 by omega]
  show z = if P k.toInt.toNat then mp_bf P k.toInt.toNat ||| (1 <<< (Int32.ofNat k.toInt.toNat &&& 31)) else _
  rw [if_pos hp, hz, hs, h, mp_ofnat h0.1]
theorem mp_bf_f {P : Nat → Bool} {b k : Int32} {i' : Int} (h : b = mp_bf P k.toInt.toNat) (hp : P k.toInt.toNat = false) (h0 : 0 ≤ k.toInt ∧ i' = k.toInt + 1) : b = mp_bf P i'.toNat := by
  rw [show i'.toNat = k.toInt.toNat + 1 by omega]
  show b = if P k.toInt.toNat then _ else mp_bf P k.toInt.toNat
  rw [hp]; exact h
theorem mp_or0 {z b : Int32} (h : z = b ||| 0) : z = b := by rw [h, Int32.or_zero]
/-- those that stand on promise p, it too; n of those behind it looked at -/
def mp_up (ba : Nat → Int32) (p : Nat) : Nat → Int32
  | 0 => 1 <<< (Int32.ofNat p &&& 31)
  | n + 1 => if (ba (p + 1 + n)).toInt ≠ -1 ∧ (mp_up ba p n >>> (ba (p + 1 + n) &&& 31)) &&& 1 ≠ 0 then mp_up ba p n ||| (1 <<< (Int32.ofNat (p + 1 + n) &&& 31)) else mp_up ba p n
theorem mp_up_0 {ba : Nat → Int32} {z p : Int32} (h : z = 1 <<< (p &&& 31)) (h0 : 0 ≤ p.toInt) : z = mp_up ba p.toInt.toNat 0 := by
  show z = 1 <<< (Int32.ofNat p.toInt.toNat &&& 31)
  rw [mp_ofnat h0]; exact h
theorem mp_up_t {ba : Nat → Int32} {b z s y q k p : Int32} {i' : Int} (h : b = mp_up ba p.toInt.toNat (k.toInt - p.toInt - 1).toNat) (hz : z = b ||| s) (hs : s = 1 <<< (k &&& 31)) (hv : (ba k.toInt.toNat).toInt ≠ -1) (hy : y = b >>> (ba k.toInt.toNat &&& 31)) (hq : q = y &&& 1) (hn : q ≠ 0) (h0 : 0 ≤ p.toInt ∧ p.toInt + 1 ≤ k.toInt ∧ i' = k.toInt + 1) : z = mp_up ba p.toInt.toNat (i' - p.toInt - 1).toNat := by
  rw [show (i' - p.toInt - 1).toNat = (k.toInt - p.toInt - 1).toNat + 1 by omega]
  have e : p.toInt.toNat + 1 + (k.toInt - p.toInt - 1).toNat = k.toInt.toNat := by omega
  show z = if (ba (p.toInt.toNat + 1 + (k.toInt - p.toInt - 1).toNat)).toInt ≠ -1 ∧ (mp_up ba p.toInt.toNat (k.toInt - p.toInt - 1).toNat >>> (ba (p.toInt.toNat + 1 + (k.toInt - p.toInt - 1).toNat) &&& 31)) &&& 1 ≠ 0 then mp_up ba p.toInt.toNat (k.toInt - p.toInt - 1).toNat ||| (1 <<< (Int32.ofNat (p.toInt.toNat + 1 + (k.toInt - p.toInt - 1).toNat) &&& 31)) else _
  rw [e, ← h, if_pos ⟨hv, by rw [← hy, ← hq]; exact hn⟩, hz, hs, mp_ofnat (by omega)]
theorem mp_up_f {ba : Nat → Int32} {b k p : Int32} {i' : Int} (h : b = mp_up ba p.toInt.toNat (k.toInt - p.toInt - 1).toNat) (hv : ¬ ((ba k.toInt.toNat).toInt ≠ -1 ∧ (b >>> (ba k.toInt.toNat &&& 31)) &&& 1 ≠ 0)) (h0 : 0 ≤ p.toInt ∧ p.toInt + 1 ≤ k.toInt ∧ i' = k.toInt + 1) : b = mp_up ba p.toInt.toNat (i' - p.toInt - 1).toNat := by
  rw [show (i' - p.toInt - 1).toNat = (k.toInt - p.toInt - 1).toNat + 1 by omega]
  have e : p.toInt.toNat + 1 + (k.toInt - p.toInt - 1).toNat = k.toInt.toNat := by omega
  show b = if (ba (p.toInt.toNat + 1 + (k.toInt - p.toInt - 1).toNat)).toInt ≠ -1 ∧ (mp_up ba p.toInt.toNat (k.toInt - p.toInt - 1).toNat >>> (ba (p.toInt.toNat + 1 + (k.toInt - p.toInt - 1).toNat) &&& 31)) &&& 1 ≠ 0 then _ else mp_up ba p.toInt.toNat (k.toInt - p.toInt - 1).toNat
  rw [e, ← h, if_neg hv]
theorem mp_up_cong {ba ba' : Nat → Int32} {p : Nat} : ∀ {n : Nat}, (∀ j : Nat, j < p + 1 + n → ba j = ba' j) → mp_up ba p n = mp_up ba' p n
  | 0, _ => rfl
  | n + 1, h => by
    show (if (ba (p + 1 + n)).toInt ≠ -1 ∧ (mp_up ba p n >>> (ba (p + 1 + n) &&& 31)) &&& 1 ≠ 0 then mp_up ba p n ||| _ else mp_up ba p n) = (if (ba' (p + 1 + n)).toInt ≠ -1 ∧ (mp_up ba' p n >>> (ba' (p + 1 + n) &&& 31)) &&& 1 ≠ 0 then mp_up ba' p n ||| _ else mp_up ba' p n)
    rw [mp_up_cong (fun j hj => h j (by omega)), h (p + 1 + n) (by omega)]
theorem mp_and1b {x : Int32} : x &&& 1 = 0 ∨ x &&& 1 = 1 := by
  have h : ∀ b : Bool, (BitVec.ofBool b).setWidth 32 = 0#32 ∨ (BitVec.ofBool b).setWidth 32 = 1#32 := by decide
  have e : (x &&& 1).toBitVec = (BitVec.ofBool (x.toBitVec.getLsbD 0)).setWidth 32 := by
    rw [Int32.toBitVec_and]
    ext i hi
    cases i with
    | zero => simp
    | succ i => simp [BitVec.getElem_setWidth]
  rcases h (x.toBitVec.getLsbD 0) with q | q
  · left; exact Int32.toBitVec_inj.mp (e.trans q)
  · right; exact Int32.toBitVec_inj.mp (e.trans q)
/-- n steps down the promises on which one stands -/
def mp_it (ba : Nat → Int32) (k : Int) : Nat → Int
  | 0 => k
  | n + 1 => if (ba (mp_it ba k n).toNat).toInt = -1 then mp_it ba k n else (ba (mp_it ba k n).toNat).toInt
theorem mp_it_s {ba : Nat → Int32} {k a a' d d' : Int} (h : a = mp_it ba k d.toNat) (hb : (ba a.toNat).toInt ≠ -1) (ha : a' = (ba a.toNat).toInt) (hd : 0 ≤ d ∧ d' = d + 1) : a' = mp_it ba k d'.toNat := by
  rw [show d'.toNat = d.toNat + 1 by omega]
  show a' = if (ba (mp_it ba k d.toNat).toNat).toInt = -1 then _ else (ba (mp_it ba k d.toNat).toNat).toInt
  rw [← h, if_neg hb]; exact ha
theorem mp_it_stop {ba : Nat → Int32} {k : Int} {n : Nat} (hb : (ba (mp_it ba k n).toNat).toInt = -1) : ∀ {m : Nat}, n ≤ m → mp_it ba k m = mp_it ba k n := by
  intro m hm
  induction hm with
  | refl => rfl
  | step _ ih =>
    show (if (ba (mp_it ba k _).toNat).toInt = -1 then mp_it ba k _ else _) = _
    rw [ih, if_pos hb]
theorem mp_it_end {ba : Nat → Int32} {k a d : Int} (h : a = mp_it ba k d.toNat) (hd : d.toNat ≤ 10) (he : d = 10 ∨ (ba a.toNat).toInt = -1) : a = mp_it ba k 10 := by
  rcases he with he | he
  · rw [h, he]; rfl
  · rw [h] at he
    rw [mp_it_stop he hd]; exact h
theorem mp_it_c {ba : Nat → Int32} {k : Int} (hb : (ba k.toNat).toInt ≠ -1) : ∀ {n : Nat}, mp_it ba k (n + 1) = mp_it ba (ba k.toNat).toInt n := by
  intro n
  induction n with
  | zero => show (if (ba k.toNat).toInt = -1 then k else (ba k.toNat).toInt) = _; rw [if_neg hb]; rfl
  | succ n ih =>
    show (if (ba (mp_it ba k (n + 1)).toNat).toInt = -1 then mp_it ba k (n + 1) else (ba (mp_it ba k (n + 1)).toNat).toInt) = (if (ba (mp_it ba (ba k.toNat).toInt n).toNat).toInt = -1 then mp_it ba (ba k.toNat).toInt n else (ba (mp_it ba (ba k.toNat).toInt n).toNat).toInt)
    rw [ih]
/-- where it ends -/
def mp_RO (ba : Nat → Int32) (k r : Int) : Prop := ∃ n : Nat, (n : Int) ≤ k ∧ r = mp_it ba k n ∧ (ba r.toNat).toInt = -1
theorem mp_RO_0 {ba : Nat → Int32} {k : Int} (h : (ba k.toNat).toInt = -1) (h0 : 0 ≤ k) : mp_RO ba k k := ⟨0, by omega, rfl, h⟩
theorem mp_RO_s {ba : Nat → Int32} {k k2 r : Int} (h : mp_RO ba k2 r) (hk : k2 = (ba k.toNat).toInt) (hb : k2 ≠ -1) (hl : k2 < k) : mp_RO ba k r := by
  subst hk
  obtain ⟨n, h1, h2, h3⟩ := h
  exact ⟨n + 1, by omega, by rw [mp_it_c hb]; exact h2, h3⟩
theorem mp_RO_it {ba : Nat → Int32} {k r : Int} (h : mp_RO ba k r) (hk : k ≤ 10) : r = mp_it ba k 10 := by
  obtain ⟨n, h1, h2, h3⟩ := h
  rw [h2] at h3
  rw [mp_it_stop h3 (by omega)]; exact h2
theorem mp_it_cong {ba ba' : Nat → Int32} {n : Int} (h : ∀ j : Nat, (j : Int) < n → ba j = ba' j) (hl : ∀ j : Nat, (j : Int) < n → -1 ≤ (ba j).toInt ∧ (ba j).toInt < (j : Int)) {k : Int} (hk : 0 ≤ k ∧ k < n) : ∀ {m : Nat}, mp_it ba k m = mp_it ba' k m ∧ 0 ≤ mp_it ba k m ∧ mp_it ba k m < n := by
  intro m
  induction m with
  | zero => exact ⟨rfl, hk.1, hk.2⟩
  | succ m ih =>
    obtain ⟨i1, i2, i3⟩ := ih
    have g := h (mp_it ba k m).toNat (by omega)
    have l := hl (mp_it ba k m).toNat (by omega)
    show (if (ba (mp_it ba k m).toNat).toInt = -1 then mp_it ba k m else (ba (mp_it ba k m).toNat).toInt) = (if (ba' (mp_it ba' k m).toNat).toInt = -1 then mp_it ba' k m else (ba' (mp_it ba' k m).toNat).toInt) ∧ 0 ≤ (if (ba (mp_it ba k m).toNat).toInt = -1 then mp_it ba k m else (ba (mp_it ba k m).toNat).toInt) ∧ (if (ba (mp_it ba k m).toNat).toInt = -1 then mp_it ba k m else (ba (mp_it ba k m).toNat).toInt) < n
    rw [← i1, ← g]
    by_cases e : (ba (mp_it ba k m).toNat).toInt = -1
    · rw [if_pos e]; exact ⟨rfl, i2, i3⟩
    · rw [if_neg e]; exact ⟨rfl, by omega, by omega⟩
/-- the reference's harbours and seas, said as the class says them -/
theorem mp_crx_m {ro mo i pl s d h1 h2 s' : Int} {a b : Bool} (hs : s = s') (ha : a = decide (h1 ≠ 0)) (hb : b = decide (h2 ≠ 0)) : mp_crx ro mo i pl s' d a b ↔ (ro ≠ mo ∧ mp_seax pl i s d mo h1 h2) := by
  subst hs ha hb
  unfold mp_crx
  constructor
  · rintro ⟨q1, q2, q3, q4, q5, q6⟩
    have k5 := of_decide_eq_false q5
    have k6 := of_decide_eq_false q6
    omega
  · rintro ⟨q1, q2⟩
    exact ⟨q1, by omega, by omega, by omega, decide_eq_false (by omega), decide_eq_false (by omega)⟩
/-- who owes, to whom: people that are told -/
def mp_wfC (ow oe : Nat → Int32) (k n : Int) : Prop := ∀ j : Nat, (j : Int) < k → (0 ≤ (ow j).toInt ∧ (ow j).toInt < n) ∧ (0 ≤ (oe j).toInt ∧ (oe j).toInt < n)
def mp_wfM (pr : Nat → Int32) (k n : Int) : Prop := ∀ j : Nat, (j : Int) < k → (0 ≤ (pr (6 * j + 0)).toInt ∧ (pr (6 * j + 0)).toInt < n) ∧ (0 ≤ (pr (6 * j + 1)).toInt ∧ (pr (6 * j + 1)).toInt < n)
theorem mp_cs_acts {seas home acts acts' : Nat → Int32} {m0 : Int} {p : Nat} : ∀ {n : Nat}, (∀ j : Nat, j < n → acts' j = acts j) → mp_cs seas home acts' m0 p n = mp_cs seas home acts m0 p n
  | 0, _ => rfl
  | n + 1, h => by
    show (if (acts' n).toInt < 100 ∧ (acts' n).toInt / 10 = (p : Int) then (Int32.ofInt ((acts' n).toInt % 10), (mp_cs seas home acts' m0 p n).2.1 + seas (6 * (mp_cs seas home acts' m0 p n).1.toInt + (acts' n).toInt % 10).toNat, Int32.ofInt (m0 + mp_c200 acts' n)) else mp_cs seas home acts' m0 p n) = (if (acts n).toInt < 100 ∧ (acts n).toInt / 10 = (p : Int) then (Int32.ofInt ((acts n).toInt % 10), (mp_cs seas home acts m0 p n).2.1 + seas (6 * (mp_cs seas home acts m0 p n).1.toInt + (acts n).toInt % 10).toNat, Int32.ofInt (m0 + mp_c200 acts n)) else mp_cs seas home acts m0 p n)
    rw [mp_cs_acts (fun j hj => h j (by omega)), h n (by omega), mp_c200_cong (f := acts') (g := acts) (fun j hj => h j (by omega))]
theorem mp_CS_add {pl oa ro pl' oa' ro' seas home acts acts' : Nat → Int32} {m0 n code mo : Int} {i : Nat} {v : Int32} (h : mp_CS pl oa ro seas home acts m0 n i) (a : mp_AP pl oa ro pl' oa' ro' seas code mo) (e : acts' = upd acts i v) (hc : v.toInt = code ∧ 0 ≤ code) (hm : mo = m0 + mp_c200 acts i) : mp_CS pl' oa' ro' seas home acts' m0 n (i + 1) := by
  have k : ∀ j : Nat, j < i → acts' j = acts j := fun j hj => by rw [e]; exact if_neg (by omega)
  have k2 : acts' i = v := by rw [e]; exact if_pos rfl
  refine mp_CS_s (fun p hp => ?_) a ⟨by rw [k2]; exact hc.1.symm, hc.2⟩ (by rw [mp_c200_cong k]; exact hm)
  rw [mp_cs_acts k]; exact h p hp
theorem mp_up_nm {ba : Nat → Int32} {b r k : Int32} (hr : r.toInt = (ba k.toInt.toNat).toInt) (hb : ¬ mp_bitx b r) : ¬ ((ba k.toInt.toNat).toInt ≠ -1 ∧ (b >>> (ba k.toInt.toNat &&& 31)) &&& 1 ≠ 0) := by
  rintro ⟨-, q⟩
  rw [← Int32.toInt_inj.mp hr] at q
  rcases mp_and1b (x := b >>> (r &&& 31)) with e | e
  · exact q e
  · exact hb e
theorem mp_up_tm {ba : Nat → Int32} {b z s r k p : Int32} {i' : Int} (h : b = mp_up ba p.toInt.toNat (k.toInt - p.toInt - 1).toNat) (hz : z = b ||| s) (hs : s = 1 <<< (k &&& 31)) (hr : r.toInt = (ba k.toInt.toNat).toInt) (hv : r.toInt ≠ -1) (hb : mp_bitx b r) (h0 : 0 ≤ p.toInt ∧ p.toInt + 1 ≤ k.toInt ∧ i' = k.toInt + 1) : z = mp_up ba p.toInt.toNat (i' - p.toInt - 1).toNat := by
  refine mp_up_t h hz hs (by rw [← hr]; exact hv) rfl rfl ?_ h0
  rw [← Int32.toInt_inj.mp hr, hb]
  decide

