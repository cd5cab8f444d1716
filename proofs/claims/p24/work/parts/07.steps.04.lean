-- the reference's row 4, written
theorem mp_om_p2 {sea isShut person p1 p2 p3 promise : Nat → Int32} {k v : Int} {i0 i1 i2 x : Int32} (h1 : p1 = upd person i0.toNatClampNeg x) (h2 : p2 = upd p1 i1.toNatClampNeg (-1)) (h3 : p3 = upd p2 i2.toNatClampNeg 0) (e0 : i0.toInt = 72 + 3 * k) (e1 : i1.toInt = 73 + 3 * k) (e2 : i2.toInt = 74 + 3 * k) (hk : 0 ≤ k) (hv : x.toInt = v) : mp_gop (mp_dM sea isShut person promise) 2 k v 0 0 0 = mp_dM sea isShut p3 promise := by
  subst h1 h2 h3 hv
  unfold mp_dM
  rw [show i0.toNatClampNeg = 72 + (3 * k).toNat by simp only [Int32.toNatClampNeg]; omega, show i1.toNatClampNeg = 72 + (3 * k + 1).toNat by simp only [Int32.toNatClampNeg]; omega, show i2.toNatClampNeg = 72 + (3 * k + 2).toNat by simp only [Int32.toNatClampNeg]; omega, mp_sh_upd, mp_sh_upd, mp_sh_upd]
  show (_, _, upd (upd (upd _ _ (Int32.ofInt x.toInt)) _ _) _ _, _) = _
  rw [Int32.ofInt_toInt]
theorem mp_om_die {sea isShut person p1 promise : Nat → Int32} {k v : Int} {i x : Int32} (h1 : p1 = upd person i.toNatClampNeg x) (e1 : i.toInt = 73 + 3 * k) (hk : 0 ≤ k) (hv : x.toInt = v) : mp_gop (mp_dM sea isShut person promise) 3 k v 0 0 0 = mp_dM sea isShut p1 promise := by
  subst h1 hv
  unfold mp_dM
  rw [show i.toNatClampNeg = 72 + (3 * k + 1).toNat by simp only [Int32.toNatClampNeg]; omega, mp_sh_upd]
  show (_, _, upd _ _ (Int32.ofInt x.toInt), _) = _
  rw [Int32.ofInt_toInt]
theorem mp_om_ten {sea isShut person p1 promise : Nat → Int32} {k v : Int} {i x : Int32} (h1 : p1 = upd person i.toNatClampNeg x) (e1 : i.toInt = 74 + 3 * k) (hk : 0 ≤ k) (hv : x.toInt = v) : mp_gop (mp_dM sea isShut person promise) 4 k v 0 0 0 = mp_dM sea isShut p1 promise := by
  subst h1 hv
  unfold mp_dM
  rw [show i.toNatClampNeg = 72 + (3 * k + 2).toNat by simp only [Int32.toNatClampNeg]; omega, mp_sh_upd]
  show (_, _, upd _ _ (Int32.ofInt x.toInt), _) = _
  rw [Int32.ofInt_toInt]
theorem mp_om_q5 {sea isShut person promise p1 p2 p3 p4 p5 p6 : Nat → Int32} {k a b w m : Int} {i0 i1 i2 i3 i4 i5 xa xb xw xm : Int32} (h1 : p1 = upd promise i0.toNatClampNeg xa) (h2 : p2 = upd p1 i1.toNatClampNeg xb) (h3 : p3 = upd p2 i2.toNatClampNeg xw) (h4 : p4 = upd p3 i3.toNatClampNeg xm) (h5 : p5 = upd p4 i4.toNatClampNeg 0) (h6 : p6 = upd p5 i5.toNatClampNeg (-1)) (e0 : i0.toInt = 240 + 6 * k) (e1 : i1.toInt = 241 + 6 * k) (e2 : i2.toInt = 242 + 6 * k) (e3 : i3.toInt = 243 + 6 * k) (e4 : i4.toInt = 244 + 6 * k) (e5 : i5.toInt = 245 + 6 * k) (hk : 0 ≤ k) (ha : xa.toInt = a) (hb : xb.toInt = b) (hw : xw.toInt = w) (hm : xm.toInt = m) : mp_gop (mp_dM sea isShut person promise) 5 k a b w m = mp_dM sea isShut person p6 := by
  subst h1 h2 h3 h4 h5 h6 ha hb hw hm
  unfold mp_dM
  rw [show i0.toNatClampNeg = 240 + (6 * k).toNat by simp only [Int32.toNatClampNeg]; omega, show i1.toNatClampNeg = 240 + (6 * k + 1).toNat by simp only [Int32.toNatClampNeg]; omega, show i2.toNatClampNeg = 240 + (6 * k + 2).toNat by simp only [Int32.toNatClampNeg]; omega, show i3.toNatClampNeg = 240 + (6 * k + 3).toNat by simp only [Int32.toNatClampNeg]; omega, show i4.toNatClampNeg = 240 + (6 * k + 4).toNat by simp only [Int32.toNatClampNeg]; omega, show i5.toNatClampNeg = 240 + (6 * k + 5).toNat by simp only [Int32.toNatClampNeg]; omega, mp_sh_upd, mp_sh_upd, mp_sh_upd, mp_sh_upd, mp_sh_upd, mp_sh_upd]
  show (_, _, _, upd (upd (upd (upd (upd (upd _ _ (Int32.ofInt xa.toInt)) _ (Int32.ofInt xb.toInt)) _ (Int32.ofInt xw.toInt)) _ (Int32.ofInt xm.toInt)) _ _) _ _) = _
  rw [Int32.ofInt_toInt, Int32.ofInt_toInt, Int32.ofInt_toInt, Int32.ofInt_toInt]
theorem mp_om_dru {sea isShut person p1 promise : Nat → Int32} {k : Int} {i : Int32} (h1 : p1 = upd promise i.toNatClampNeg 1) (e1 : i.toInt = 244 + 6 * k) (hk : 0 ≤ k) : mp_gop (mp_dM sea isShut person promise) 6 k 0 0 0 0 = mp_dM sea isShut person p1 := by
  subst h1
  unfold mp_dM
  rw [show i.toNatClampNeg = 240 + (6 * k + 4).toNat by simp only [Int32.toNatClampNeg]; omega, mp_sh_upd]
  rfl
theorem mp_om_on {sea isShut person p1 promise : Nat → Int32} {k v : Int} {i x : Int32} (h1 : p1 = upd promise i.toNatClampNeg x) (e1 : i.toInt = 245 + 6 * k) (hk : 0 ≤ k) (hv : x.toInt = v) : mp_gop (mp_dM sea isShut person promise) 7 k v 0 0 0 = mp_dM sea isShut person p1 := by
  subst h1 hv
  unfold mp_dM
  rw [show i.toNatClampNeg = 240 + (6 * k + 5).toNat by simp only [Int32.toNatClampNeg]; omega, mp_sh_upd]
  show (_, _, _, upd _ _ (Int32.ofInt x.toInt)) = _
  rw [Int32.ofInt_toInt]
theorem mp_om_shut {sea isShut s1 person promise : Nat → Int32} {a b : Int} {i : Int32} (h1 : s1 = upd isShut i.toNatClampNeg 1) (e1 : i.toInt = 2400 + 100 * a + b) (ha : 0 ≤ a) (hb : 0 ≤ b) : mp_gop (mp_dM sea isShut person promise) 1 a b 0 0 0 = mp_dM sea s1 person promise := by
  subst h1
  unfold mp_dM
  refine congrArg (fun q => (_, q, _)) (funext fun j => ?_)
  show (if j = (100 * a + b).toNat then true else decide ((isShut (2400 + j)).toInt ≠ 0)) = decide ((if 2400 + j = i.toNatClampNeg then (1 : Int32) else isShut (2400 + j)).toInt ≠ 0)
  have e2 : i.toNatClampNeg = 2400 + (100 * a + b).toNat := by simp only [Int32.toNatClampNeg]; omega
  rw [e2]
  by_cases h : j = (100 * a + b).toNat
  · rw [if_pos h, if_pos (by omega)]; rfl
  · rw [if_neg h, if_neg (by omega)]
theorem mp_NK_c {f : Nat → Int32} {n b0 q0 l0 b1 q1 l1 lo hi lo' hi' r : Int} (h : mp_NK f n b0 q0 l0 b1 q1 l1 lo hi r) (el : lo = lo') (eh : hi = hi') : mp_NK f n b0 q0 l0 b1 q1 l1 lo' hi' r := by
  subst el eh; exact h
theorem mp_fillo {f g : Nat → Int32} {i v : Int32} {k k' : Int} {o : Nat} (p : ∀ j : Nat, (j : Int) < k → f (o + j) = v) (h : g = upd f i.toNatClampNeg v) (hi : i.toInt = o + k) (h0 : 0 ≤ k ∧ k' = k + 1) : ∀ j : Nat, (j : Int) < k' → g (o + j) = v := by
  intro j hj
  have e : i.toNatClampNeg = o + k.toNat := by simp only [Int32.toNatClampNeg]; omega
  rw [h, e]
  by_cases q : j = k.toNat
  · rw [q]; exact if_pos rfl
  · show (if o + j = o + k.toNat then v else f (o + j)) = v
    rw [if_neg (by omega)]
    exact p j (by omega)
section MPR2
variable {α : Type} {op : mp_Op α} {f : Nat → Int32} {m : Nat} {c : mp_Sc} {d : α} {Y : mp_Rs α} {b0 q0 l0 b1 q1 l1 lo hi bar : Int}
theorem mp_go_bar {ok : Int → Nat → mp_Rs α} {K' : mp_Rs α} (g : mp_GO Y b0 q0 (mp_aft f m (mp_kn f m l0.toNat lo hi bar c d ok))) (hb : b0 = 0) (hk : mp_TK f m l0.toNat = 2) (hv : mp_TV f m l0.toNat = bar) (h1 : b1 = 2) (hq : q1 = l0) (h0 : 0 ≤ l0) : mp_GO Y b1 q1 K' := by
  rw [mp_kn_bar hk hv] at g
  exact mp_go_f hb g ⟨by show (2 : Int) = b1; omega, by omega⟩ (by show ((l0.toNat : Nat) : Int) = q1; omega)
theorem mp_go_3 {K' : mp_Rs α} (g : mp_GO Y b0 q0 (mp_aft f m (mp_gLin2 op f m l0.toNat c d))) (hb : b0 = 0) (h : (mp_TK f m l0.toNat = 1 ∧ mp_WD f m l0.toNat = 232608281 ∧ 6 ≤ c.2.2.1) ∨ (mp_TK f m l0.toNat = 1 ∧ mp_WD f m l0.toNat = 6465242723 ∧ 10 ≤ c.2.2.2.1)) (h1 : b1 = 3) (hq : q1 = l0) (h0 : 0 ≤ l0) : mp_GO Y b1 q1 K' := by
  have e : mp_gLin2 op f m l0.toNat c d = (3, l0.toNat, c, d) := by
    rcases h with ⟨a, b, e⟩ | ⟨a, b, e⟩
    · exact mp_gl_per3 ⟨a, b⟩ e
    · exact mp_gl_pro3 ⟨a, b⟩ e
  rw [e, mp_aft_bad (by decide)] at g
  exact mp_go_f hb g ⟨by show (3 : Int) = b1; omega, by omega⟩ (by show ((l0.toNat : Nat) : Int) = q1; omega)
theorem mp_go_is (g : mp_GO Y b0 q0 (mp_aft f m (mp_gLine op f m l0.toNat c d))) (h : c.2.2.2.2 = 0) : mp_GO Y b0 q0 (mp_aft f m (mp_gIsles f m l0.toNat c d)) := by
  rw [mp_gl_is h] at g; exact g
theorem mp_go_not (g : mp_GO Y b0 q0 (mp_aft f m (mp_gLine op f m l0.toNat c d))) (h : c.2.2.2.2 ≠ 0) : mp_GO Y b0 q0 (mp_aft f m (mp_gLin2 op f m l0.toNat c d)) := by
  rw [mp_gl_not h] at g; exact g
theorem mp_go_sea (g : mp_GO Y b0 q0 (mp_aft f m (mp_gLin2 op f m l0.toNat c d))) (h : mp_TK f m l0.toNat = 1 ∧ mp_WD f m l0.toNat = 13987) (hl : l1 = ((mp_NX f m l0.toNat : Nat) : Int)) : mp_GO Y b0 q0 (mp_aft f m (mp_gSea op f m l1.toNat c d)) := by
  rw [mp_gl_sea h, show mp_NX f m l0.toNat = l1.toNat by omega] at g; exact g
theorem mp_go_per (g : mp_GO Y b0 q0 (mp_aft f m (mp_gLin2 op f m l0.toNat c d))) (h : mp_TK f m l0.toNat = 1 ∧ mp_WD f m l0.toNat = 232608281) (hp : c.2.2.1 < 6) (hl : l1 = ((mp_NX f m l0.toNat : Nat) : Int)) : mp_GO Y b0 q0 (mp_aft f m (mp_gPer2 op f m l1.toNat c d)) := by
  rw [mp_gl_per h hp, show mp_NX f m l0.toNat = l1.toNat by omega] at g; exact g
theorem mp_go_pro (g : mp_GO Y b0 q0 (mp_aft f m (mp_gLin2 op f m l0.toNat c d))) (h : mp_TK f m l0.toNat = 1 ∧ mp_WD f m l0.toNat = 6465242723) (hp : c.2.2.2.1 < 10) (hl : l1 = ((mp_NX f m l0.toNat : Nat) : Int)) : mp_GO Y b0 q0 (mp_aft f m (mp_gPro2 op f m l1.toNat c d)) := by
  rw [mp_gl_pro h hp, show mp_NX f m l0.toNat = l1.toNat by omega] at g; exact g
theorem mp_go_sht (g : mp_GO Y b0 q0 (mp_aft f m (mp_gLin2 op f m l0.toNat c d))) (h1 : ¬ (mp_TK f m l0.toNat = 1 ∧ mp_WD f m l0.toNat = 13987)) (h2 : ¬ (mp_TK f m l0.toNat = 1 ∧ mp_WD f m l0.toNat = 232608281)) (h3 : ¬ (mp_TK f m l0.toNat = 1 ∧ mp_WD f m l0.toNat = 6465242723)) : mp_GO Y b0 q0 (mp_aft f m (mp_gShut op f m l0.toNat c d)) := by
  rw [mp_gl_shut h1 h2 h3] at g; exact g
theorem mp_go_p0 {dx d2 : α} {k : Int} {s : Nat} {a e : Bool} (g : mp_GO Y b0 q0 (mp_aft f m (mp_gPm op f m c k 2 false false s dx))) (hd : dx = d2) (ha : a = false) (he : e = false) : mp_GO Y b0 q0 (mp_aft f m (mp_gPm op f m c k (mp_rm a e) a e s d2)) := by
  subst hd ha he; exact g
theorem mp_go_q0 {dx d2 : α} {k : Int} {s : Nat} {a e : Bool} (g : mp_GO Y b0 q0 (mp_aft f m (mp_gQm op f m c k 2 false false s dx))) (hd : dx = d2) (ha : a = false) (he : e = false) : mp_GO Y b0 q0 (mp_aft f m (mp_gQm op f m c k (mp_rm a e) a e s d2)) := by
  subst hd ha he; exact g
end MPR2
section MPN
variable {f : Nat → Int32} {n k b0 q0 l0 b1 q1 l1 e v w lo hi r : Int}
theorem mp_NK_l1 (h : b0 ≠ 0) (e1 : b1 = b0) (e2 : q1 = q0) : mp_NK f n b0 q0 l0 b1 q1 l1 lo hi r := Or.inl ⟨h, e1, e2⟩
theorem mp_NK_l2 (mt : mp_MT f n k l0 e v w) (hk : k ≠ 2) (hb : b0 = 0) (hb1 : b1 = 1) (hq : q1 = l0) : mp_NK f n b0 q0 l0 b1 q1 l1 lo hi r := Or.inr (Or.inr (Or.inl ⟨hb, by rw [← mt.2.1]; exact hk, hb1, hq⟩))
theorem mp_NK_l3 (mt : mp_MT f n k l0 e v w) (hk : k = 2) (hb : b0 = 0) (hv : v < lo ∨ hi < v) (hh : hi ≤ 1000000) (hb1 : b1 = 2) (hq : q1 = l0) : mp_NK f n b0 q0 l0 b1 q1 l1 lo hi r := by
  obtain ⟨-, m2, -, m4, -⟩ := mt
  unfold mp_capR at m4
  exact Or.inr (Or.inr (Or.inr ⟨hb, by omega, by omega, hb1, hq⟩))
theorem mp_NK_l4 (mt : mp_MT f n k l0 e v w) (hk : k = 2) (hb : b0 = 0) (hv : lo ≤ v ∧ v ≤ hi) (hh : hi ≤ 1000000) (hr : r = v) (hb1 : b1 = 0) (hl : l1 = ((mp_NX f n.toNat l0.toNat : Nat) : Int)) : mp_NK f n b0 q0 l0 b1 q1 l1 lo hi r := by
  obtain ⟨-, m2, -, m4, -⟩ := mt
  unfold mp_capR at m4
  exact Or.inr (Or.inl ⟨hb, by omega, by omega, by omega, by omega, hb1, hl⟩)
end MPN
-- two data beside each other: what the text lays in them stays alike
def mp_Rd (c : mp_Sc) (d d' : mp_AD) : Prop := (∀ j : Nat, j < 36 → d.1 j = d'.1 j) ∧ (∀ j : Nat, j < 600 → d.2.1 j = d'.2.1 j) ∧ (∀ j : Nat, (j : Int) < 3 * c.2.2.1 → d.2.2.1 j = d'.2.2.1 j) ∧ (∀ j : Nat, (j : Int) < 6 * c.2.2.2.1 → d.2.2.2 j = d'.2.2.2 j)
def mp_RR (r r' : mp_Rs mp_AD) : Prop := r.1 = r'.1 ∧ r.2.1 = r'.2.1 ∧ r.2.2.1 = r'.2.2.1 ∧ mp_Rd r.2.2.1 r.2.2.2 r'.2.2.2
section MPP
variable {f : Nat → Int32} {n s : Nat} {lo hi bar w : Int} {c c2 : mp_Sc} {d d' : mp_AD}
theorem mp_upd_R {g g' : Nat → Int32} {P : Nat → Prop} (h : ∀ j, P j → g j = g' j) (i : Nat) (v : Int32) : ∀ j, P j → upd g i v j = upd g' i v j := by
  intro j hj
  by_cases e : j = i
  · simp only [upd, if_pos e]
  · simp only [upd, if_neg e]; exact h j hj
theorem mp_RR_bad {k : Int} (h : mp_Rd c d d') : mp_RR (k, s, c, d) (k, s, c, d') := ⟨rfl, rfl, rfl, h⟩
theorem mp_kn_R {ok ok' : Int → Nat → mp_Rs mp_AD} (h : mp_Rd c d d') (hk : ∀ v s, mp_RR (ok v s) (ok' v s)) : mp_RR (mp_kn f n s lo hi bar c d ok) (mp_kn f n s lo hi bar c d' ok') := by
  unfold mp_kn
  split
  · exact mp_RR_bad h
  · split
    · exact mp_RR_bad h
    · exact hk _ _
theorem mp_kw_R {ok ok' : Nat → mp_Rs mp_AD} (h : mp_Rd c d d') (hk : ∀ s, mp_RR (ok s) (ok' s)) : mp_RR (mp_kw f n s w c d ok) (mp_kw f n s w c d' ok') := by
  unfold mp_kw
  split
  · exact hk _
  · exact mp_RR_bad h
theorem mp_op0_R (a b v : Int) (h : mp_Rd c d d') : mp_Rd c (mp_gop d 0 a b v 0 0) (mp_gop d' 0 a b v 0 0) :=
  ⟨mp_upd_R (P := fun j => j < 36) (mp_upd_R (P := fun j => j < 36) h.1 _ _) _ _, h.2⟩
theorem mp_op1_R (a b : Int) (h : mp_Rd c d d') : mp_Rd c (mp_gop d 1 a b 0 0 0) (mp_gop d' 1 a b 0 0 0) :=
  ⟨h.1, fun j hj => by
    show (if j = (100 * a + b).toNat then true else d.2.1 j) = (if j = (100 * a + b).toNat then true else d'.2.1 j)
    rw [h.2.1 j hj], h.2.2⟩
theorem mp_op3_R (a b : Int) (h : mp_Rd c d d') : mp_Rd c (mp_gop d 3 a b 0 0 0) (mp_gop d' 3 a b 0 0 0) :=
  ⟨h.1, h.2.1, mp_upd_R (P := fun j => (j : Int) < 3 * c.2.2.1) h.2.2.1 _ _, h.2.2.2⟩
theorem mp_op4_R (a b : Int) (h : mp_Rd c d d') : mp_Rd c (mp_gop d 4 a b 0 0 0) (mp_gop d' 4 a b 0 0 0) :=
  ⟨h.1, h.2.1, mp_upd_R (P := fun j => (j : Int) < 3 * c.2.2.1) h.2.2.1 _ _, h.2.2.2⟩
theorem mp_op6_R (a : Int) (h : mp_Rd c d d') : mp_Rd c (mp_gop d 6 a 0 0 0 0) (mp_gop d' 6 a 0 0 0 0) :=
  ⟨h.1, h.2.1, h.2.2.1, mp_upd_R (P := fun j => (j : Int) < 6 * c.2.2.2.1) h.2.2.2 _ _⟩
theorem mp_op7_R (a b : Int) (h : mp_Rd c d d') : mp_Rd c (mp_gop d 7 a b 0 0 0) (mp_gop d' 7 a b 0 0 0) :=
  ⟨h.1, h.2.1, h.2.2.1, mp_upd_R (P := fun j => (j : Int) < 6 * c.2.2.2.1) h.2.2.2 _ _⟩
theorem mp_op2_R (b : Int) (h : mp_Rd c d d') (e1 : c2.2.2.1 = c.2.2.1 + 1) (e2 : c2.2.2.2.1 = c.2.2.2.1) : mp_Rd c2 (mp_gop d 2 c.2.2.1 b 0 0 0) (mp_gop d' 2 c.2.2.1 b 0 0 0) := by
  refine ⟨h.1, h.2.1, fun j hj => ?_, fun j hj => h.2.2.2 j (by omega)⟩
  show upd (upd (upd d.2.2.1 _ _) _ _) _ _ j = upd (upd (upd d'.2.2.1 _ _) _ _) _ _ j
  by_cases q : (j : Int) < 3 * c.2.2.1
  · exact mp_upd_R (P := fun j => (j : Int) < 3 * c.2.2.1) (mp_upd_R (P := fun j => (j : Int) < 3 * c.2.2.1) (mp_upd_R (P := fun j => (j : Int) < 3 * c.2.2.1) h.2.2.1 _ _) _ _) _ _ j q
  · simp only [upd]
    by_cases q2 : j = (3 * c.2.2.1 + 2).toNat
    · rw [if_pos q2, if_pos q2]
    · by_cases q1 : j = (3 * c.2.2.1 + 1).toNat
      · rw [if_neg q2, if_neg q2, if_pos q1, if_pos q1]
      · rw [if_neg q2, if_neg q2, if_neg q1, if_neg q1, if_pos (by omega), if_pos (by omega)]
theorem mp_op5_R (a b w m : Int) (h : mp_Rd c d d') (e1 : c2.2.2.1 = c.2.2.1) (e2 : c2.2.2.2.1 = c.2.2.2.1 + 1) : mp_Rd c2 (mp_gop d 5 c.2.2.2.1 a b w m) (mp_gop d' 5 c.2.2.2.1 a b w m) := by
  refine ⟨h.1, h.2.1, fun j hj => h.2.2.1 j (by omega), fun j hj => ?_⟩
  show upd (upd (upd (upd (upd (upd d.2.2.2 _ _) _ _) _ _) _ _) _ _) _ _ j = upd (upd (upd (upd (upd (upd d'.2.2.2 _ _) _ _) _ _) _ _) _ _) _ _ j
  by_cases q : (j : Int) < 6 * c.2.2.2.1
  · have R := fun {g g' : Nat → Int32} (h : ∀ j : Nat, (j : Int) < 6 * c.2.2.2.1 → g j = g' j) (i : Nat) (v : Int32) => mp_upd_R (P := fun j => (j : Int) < 6 * c.2.2.2.1) h i v
    exact R (R (R (R (R (R h.2.2.2 _ _) _ _) _ _) _ _) _ _) _ _ j q
  · simp only [upd]
    by_cases q5 : j = (6 * c.2.2.2.1 + 5).toNat
    · rw [if_pos q5, if_pos q5]
    · rw [if_neg q5, if_neg q5]
      by_cases q4 : j = (6 * c.2.2.2.1 + 4).toNat
      · rw [if_pos q4, if_pos q4]
      · rw [if_neg q4, if_neg q4]
        by_cases q3 : j = (6 * c.2.2.2.1 + 3).toNat
        · rw [if_pos q3, if_pos q3]
        · rw [if_neg q3, if_neg q3]
          by_cases q2 : j = (6 * c.2.2.2.1 + 2).toNat
          · rw [if_pos q2, if_pos q2]
          · rw [if_neg q2, if_neg q2]
            by_cases q1 : j = (6 * c.2.2.2.1 + 1).toNat
            · rw [if_pos q1, if_pos q1]
            · rw [if_neg q1, if_neg q1, if_pos (by omega), if_pos (by omega)]
theorem mp_gIsles_R (h : mp_Rd c d d') : mp_RR (mp_gIsles f n s c d) (mp_gIsles f n s c d') := by
  unfold mp_gIsles
  exact mp_kw_R h fun _ => mp_kn_R h fun _ _ => mp_kw_R h fun _ => mp_kn_R h fun _ _ => ⟨rfl, rfl, rfl, h⟩
theorem mp_gSea_R (h : mp_Rd c d d') : mp_RR (mp_gSea mp_gop f n s c d) (mp_gSea mp_gop f n s c d') := by
  unfold mp_gSea
  exact mp_kn_R h fun _ _ => mp_kn_R h fun _ _ => mp_kw_R h fun _ => mp_kn_R h fun _ _ => ⟨rfl, rfl, rfl, mp_op0_R _ _ _ h⟩
theorem mp_gShut_R (h : mp_Rd c d d') : mp_RR (mp_gShut mp_gop f n s c d) (mp_gShut mp_gop f n s c d') := by
  unfold mp_gShut
  exact mp_kw_R h fun _ => mp_kn_R h fun _ _ => mp_kn_R h fun _ _ => ⟨rfl, rfl, rfl, mp_op1_R _ _ h⟩
theorem mp_gPm_R {k : Int} : ∀ {r : Nat} {a b : Bool} {s : Nat} {d d' : mp_AD}, mp_Rd c d d' → mp_RR (mp_gPm mp_gop f n c k r a b s d) (mp_gPm mp_gop f n c k r a b s d') := by
  intro r
  induction r with
  | zero => intro a b s d d' h; exact ⟨rfl, rfl, rfl, h⟩
  | succ r ih =>
    intro a b s d d' h
    unfold mp_gPm
    split
    · exact mp_RR_bad h
    · split
      · exact mp_kn_R h fun _ _ => ih (mp_op3_R _ _ h)
      · split
        · exact mp_kn_R h fun _ _ => ih (mp_op4_R _ _ h)
        · exact mp_RR_bad h
theorem mp_gPerson_R (h : mp_Rd c d d') : mp_RR (mp_gPerson mp_gop f n s c d) (mp_gPerson mp_gop f n s c d') := by
  unfold mp_gPerson
  split
  · exact mp_RR_bad h
  · exact mp_kw_R h fun _ => mp_kn_R h fun _ _ => mp_gPm_R (mp_op2_R _ h rfl rfl)
theorem mp_gQm_R {k : Int} : ∀ {r : Nat} {a b : Bool} {s : Nat} {d d' : mp_AD}, mp_Rd c d d' → mp_RR (mp_gQm mp_gop f n c k r a b s d) (mp_gQm mp_gop f n c k r a b s d') := by
  intro r
  induction r with
  | zero => intro a b s d d' h; exact ⟨rfl, rfl, rfl, h⟩
  | succ r ih =>
    intro a b s d d' h
    unfold mp_gQm
    split
    · exact mp_RR_bad h
    · split
      · exact ih (mp_op6_R _ h)
      · split
        · exact mp_kn_R h fun _ _ => ih (mp_op7_R _ _ h)
        · exact mp_RR_bad h
theorem mp_gPromise_R (h : mp_Rd c d d') : mp_RR (mp_gPromise mp_gop f n s c d) (mp_gPromise mp_gop f n s c d') := by
  unfold mp_gPromise mp_gProm
  split
  · exact mp_RR_bad h
  · exact mp_kn_R h fun _ _ => mp_kw_R h fun _ => mp_kn_R h fun _ _ => mp_kw_R h fun _ => mp_kn_R h fun _ _ => mp_kw_R h fun _ => mp_kn_R h fun _ _ => mp_gQm_R (mp_op5_R _ _ _ _ h rfl rfl)
theorem mp_gLine_R (h : mp_Rd c d d') : mp_RR (mp_gLine mp_gop f n s c d) (mp_gLine mp_gop f n s c d') := by
  unfold mp_gLine
  split
  · exact mp_gIsles_R h
  · split
    · exact mp_gSea_R h
    · split
      · exact mp_gPerson_R h
      · split
        · exact mp_gPromise_R h
        · exact mp_gShut_R h
theorem mp_aft_R {r r' : mp_Rs mp_AD} (h : mp_RR r r') : mp_RR (mp_aft f n r) (mp_aft f n r') := by
  obtain ⟨a, b, e, g⟩ := h
  unfold mp_aft
  rw [← a, ← b, ← e]
  split
  · exact ⟨a, b, e, g⟩
  · split
    · exact ⟨rfl, rfl, e, g⟩
    · exact ⟨rfl, rfl, rfl, g⟩
theorem mp_gT_R : ∀ {fu s : Nat} {c : mp_Sc} {d d' : mp_AD} {R : mp_Rs mp_AD}, mp_Rd c d d' → mp_gText mp_gop f n fu s c d = some R → ∃ R', mp_gText mp_gop f n fu s c d' = some R' ∧ mp_RR R R' := by
  intro fu
  induction fu with
  | zero => intro s c d d' R _ e; exact absurd e (by intro q; cases q)
  | succ fu ih =>
    intro s c d d' R h e
    have g := mp_aft_R (f := f) (n := n) (mp_gLine_R (f := f) (n := n) (s := s) h)
    obtain ⟨g1, g2, g3, g4⟩ := g
    replace e : (if mp_TK f n s = 0 then some (0, s, c, d) else if (mp_aft f n (mp_gLine mp_gop f n s c d)).1 ≠ 0 then some (mp_aft f n (mp_gLine mp_gop f n s c d)) else mp_gText mp_gop f n fu (mp_aft f n (mp_gLine mp_gop f n s c d)).2.1 (mp_aft f n (mp_gLine mp_gop f n s c d)).2.2.1 (mp_aft f n (mp_gLine mp_gop f n s c d)).2.2.2) = some R := e
    show ∃ R', (if mp_TK f n s = 0 then some (0, s, c, d') else if (mp_aft f n (mp_gLine mp_gop f n s c d')).1 ≠ 0 then some (mp_aft f n (mp_gLine mp_gop f n s c d')) else mp_gText mp_gop f n fu (mp_aft f n (mp_gLine mp_gop f n s c d')).2.1 (mp_aft f n (mp_gLine mp_gop f n s c d')).2.2.1 (mp_aft f n (mp_gLine mp_gop f n s c d')).2.2.2) = some R' ∧ mp_RR R R'
    by_cases h0 : mp_TK f n s = 0
    · rw [if_pos h0] at e ⊢
      cases e
      exact ⟨_, rfl, rfl, rfl, rfl, h⟩
    · rw [if_neg h0] at e ⊢
      by_cases h1 : (mp_aft f n (mp_gLine mp_gop f n s c d)).1 ≠ 0
      · rw [if_pos h1] at e
        rw [if_pos (by rw [← g1]; exact h1)]
        cases e
        exact ⟨_, rfl, g1, g2, g3, g4⟩
      · rw [if_neg h1] at e
        rw [if_neg (by rw [← g1]; exact h1), ← g2, ← g3]
        exact ih g4 e
theorem mp_gT_mono : ∀ {fu s : Nat} {c : mp_Sc} {d : mp_AD} {R : mp_Rs mp_AD} (k : Nat), mp_gText mp_gop f n fu s c d = some R → mp_gText mp_gop f n (fu + k) s c d = some R := by
  intro fu
  induction fu with
  | zero => intro s c d R k e; exact absurd e (by intro q; cases q)
  | succ fu ih =>
    intro s c d R k e
    rw [show fu + 1 + k = (fu + k) + 1 by omega]
    replace e : (if mp_TK f n s = 0 then some (0, s, c, d) else if (mp_aft f n (mp_gLine mp_gop f n s c d)).1 ≠ 0 then some (mp_aft f n (mp_gLine mp_gop f n s c d)) else mp_gText mp_gop f n fu (mp_aft f n (mp_gLine mp_gop f n s c d)).2.1 (mp_aft f n (mp_gLine mp_gop f n s c d)).2.2.1 (mp_aft f n (mp_gLine mp_gop f n s c d)).2.2.2) = some R := e
    show (if mp_TK f n s = 0 then some (0, s, c, d) else if (mp_aft f n (mp_gLine mp_gop f n s c d)).1 ≠ 0 then some (mp_aft f n (mp_gLine mp_gop f n s c d)) else mp_gText mp_gop f n (fu + k) (mp_aft f n (mp_gLine mp_gop f n s c d)).2.1 (mp_aft f n (mp_gLine mp_gop f n s c d)).2.2.1 (mp_aft f n (mp_gLine mp_gop f n s c d)).2.2.2) = some R
    by_cases h0 : mp_TK f n s = 0
    · rw [if_pos h0] at e ⊢; exact e
    · rw [if_neg h0] at e ⊢
      by_cases h1 : (mp_aft f n (mp_gLine mp_gop f n s c d)).1 ≠ 0
      · rw [if_pos h1] at e ⊢; exact e
      · rw [if_neg h1] at e ⊢; exact ih k e
/-- two readings of one text, over like data: alike -/
theorem mp_gT_eq {fu fu' : Nat} {R R' : mp_Rs mp_AD} (h : mp_Rd c d d') (e : mp_gText mp_gop f n fu s c d = some R) (e' : mp_gText mp_gop f n fu' s c d' = some R') : mp_RR R R' := by
  obtain ⟨R2, e2, g⟩ := mp_gT_R h (mp_gT_mono fu' e)
  have e3 := mp_gT_mono fu e'
  rw [Nat.add_comm] at e3
  rw [e3] at e2
  cases e2
  exact g
/-- nothing told: seas and harbours alone count -/
theorem mp_Rd_0 {seas sea isShut person promise : Nat → Int32} {shut : Nat → Int64} {home death tending ower owee full first drunk base : Nat → Int32} {k m : Int} (z1 : ∀ j : Nat, (j : Int) < 36 → seas j = 0) (z2 : ∀ j : Nat, (j : Int) < 12 → shut j = 0) (z3 : ∀ j : Nat, (j : Int) < 36 → sea (144 + j) = 0) (z4 : ∀ j : Nat, (j : Int) < 600 → isShut (2400 + j) = 0) : mp_Rd (0, 0, 0, 0, 0) (mp_dC seas shut home death tending ower owee full first drunk base) (mp_dM sea isShut person promise) := by
  refine ⟨fun j hj => ?_, fun j hj => ?_, fun j hj => ?_, fun j hj => ?_⟩
  · show seas j = sea (144 + j)
    rw [z1 j (by omega), z3 j (by omega)]
  · show decide (((shut (2 * (j / 100) + j % 100 / 50)) >>> (Int64.ofNat (j % 50)) &&& 1) ≠ 0) = decide ((isShut (2400 + j)).toInt ≠ 0)
    rw [z2 _ (by omega), z4 j (by omega)]
    have k : ∀ q : Nat, q < 50 → decide (((0 : Int64) >>> (Int64.ofNat q) &&& 1) ≠ 0) = decide ((0 : Int32).toInt ≠ 0) := by decide +kernel
    exact k _ (by omega)
  · exact absurd hj (by show ¬ (j : Int) < 3 * 0; omega)
  · exact absurd hj (by show ¬ (j : Int) < 6 * 0; omega)
end MPP
-- bytes that are fed; what a reading answers
def mp_by (k v : Int32) : Int32 := vp_nar .byte ((v >>> (k &&& 31)).toInt8.toInt32)
def mp_b4 (f : Nat → Int32) (n : Nat) (v : Int32) : Nat → Int32 := upd (upd (upd (upd f n (mp_by 24 v)) (n + 1) (mp_by 16 v)) (n + 2) (mp_by 8 v)) (n + 3) (mp_by 0 v)
def mp_b20 (f : Nat → Int32) (n : Nat) (a b c d e : Int32) : Nat → Int32 := mp_b4 (mp_b4 (mp_b4 (mp_b4 (mp_b4 f n a) (n + 4) b) (n + 8) c) (n + 12) d) (n + 16) e
theorem mp_by_of {f g : Nat → Int32} {i z y k v : Int32} (h : g = upd f i.toNatClampNeg (vp_nar .byte z)) (hz : z = y.toInt8.toInt32) (hy : y = v >>> (k &&& 31)) : g = upd f i.toNatClampNeg (mp_by k v) := by
  rw [h, hz, hy]; rfl
theorem mp_b4_of {f g1 g2 g3 g4 : Nat → Int32} {i1 i2 i3 i4 v : Int32} {n : Int} (h1 : g1 = upd f i1.toNatClampNeg (mp_by 24 v)) (h2 : g2 = upd g1 i2.toNatClampNeg (mp_by 16 v)) (h3 : g3 = upd g2 i3.toNatClampNeg (mp_by 8 v)) (h4 : g4 = upd g3 i4.toNatClampNeg (mp_by 0 v)) (e1 : i1.toInt = n) (e2 : i2.toInt = n + 1) (e3 : i3.toInt = n + 2) (e4 : i4.toInt = n + 3 ∧ 0 ≤ n) : g4 = mp_b4 f n.toNat v := by
  rw [h4, h3, h2, h1, show i1.toNatClampNeg = n.toNat by simp only [Int32.toNatClampNeg]; omega, show i2.toNatClampNeg = n.toNat + 1 by simp only [Int32.toNatClampNeg]; omega, show i3.toNatClampNeg = n.toNat + 2 by simp only [Int32.toNatClampNeg]; omega, show i4.toNatClampNeg = n.toNat + 3 by simp only [Int32.toNatClampNeg]; omega]
  rfl
theorem mp_b20_of {f g1 g2 g3 g4 g5 : Nat → Int32} {n n2 n3 n4 n5 : Int} {a b c d e : Int32} (h1 : g1 = mp_b4 f n.toNat a) (h2 : g2 = mp_b4 g1 n2.toNat b) (h3 : g3 = mp_b4 g2 n3.toNat c) (h4 : g4 = mp_b4 g3 n4.toNat d) (h5 : g5 = mp_b4 g4 n5.toNat e) (e2 : n2 = n + 4) (e3 : n3 = n + 8) (e4 : n4 = n + 12) (e5 : n5 = n + 16 ∧ 0 ≤ n) : g5 = mp_b20 f n.toNat a b c d e := by
  rw [h5, h4, h3, h2, h1, show n2.toNat = n.toNat + 4 by omega, show n3.toNat = n.toNat + 8 by omega, show n4.toNat = n.toNat + 12 by omega, show n5.toNat = n.toNat + 16 by omega]
  rfl
/-- no seas, no shut harbours -/
def mp_Z (d : mp_AD) : Prop := (∀ j : Nat, j < 36 → d.1 j = 0) ∧ (∀ j : Nat, j < 600 → d.2.1 j = false)
theorem mp_Z_C {seas : Nat → Int32} {shut : Nat → Int64} {home death tending ower owee full first drunk base : Nat → Int32} (z1 : ∀ j : Nat, (j : Int) < 36 → seas j = 0) (z2 : ∀ j : Nat, (j : Int) < 12 → shut j = 0) : mp_Z (mp_dC seas shut home death tending ower owee full first drunk base) := by
  refine ⟨fun j hj => z1 j (by omega), fun j hj => ?_⟩
  show decide (((shut (2 * (j / 100) + j % 100 / 50)) >>> (Int64.ofNat (j % 50)) &&& 1) ≠ 0) = false
  rw [z2 _ (by omega)]
  have k : ∀ q : Nat, q < 50 → decide (((0 : Int64) >>> (Int64.ofNat q) &&& 1) ≠ 0) = false := by decide +kernel
  exact k _ (by omega)
theorem mp_Z_M {sea isShut person promise : Nat → Int32} (z3 : ∀ j : Nat, (j : Int) < 36 → sea (144 + j) = 0) (z4 : ∀ j : Nat, (j : Int) < 600 → isShut (2400 + j) = 0) : mp_Z (mp_dM sea isShut person promise) := by
  refine ⟨fun j hj => z3 j (by omega), fun j hj => ?_⟩
  show decide ((isShut (2400 + j)).toInt ≠ 0) = false
  rw [z4 j (by omega)]
  rfl
def mp_islR (f : Nat → Int32) (n r ft fp : Int) : Prop := ∃ (fu : Nat) (R : mp_Rs mp_AD) (d0 : mp_AD), mp_Z d0 ∧ mp_gText mp_gop f n.toNat fu (mp_TS f n.toNat 0) (0, 0, 0, 0, 0) d0 = some R ∧ ((R.1 ≠ 0 ∧ r = -4 ∧ ft = R.1 ∧ fp = ((R.2.1 : Nat) : Int)) ∨ (R.1 = 0 ∧ r = R.2.2.1.2.2.2.2 ∧ ft = 0 ∧ fp = -1))
theorem mp_isl_eq {f : Nat → Int32} {n r ft fp r' ft' fp' : Int} (h : mp_islR f n r ft fp) (h' : mp_islR f n r' ft' fp') : r = r' ∧ ft = ft' ∧ fp = fp' := by
  obtain ⟨fu, R, d0, z, e, h⟩ := h
  obtain ⟨fu', R', d0', z', e', h'⟩ := h'
  have g := mp_gT_eq (c := (0, 0, 0, 0, 0)) (d := d0) (d' := d0') ⟨fun j hj => by rw [z.1 j hj, z'.1 j hj], fun j hj => by rw [z.2 j hj, z'.2 j hj], fun j hj => absurd hj (by show ¬ (j : Int) < 3 * 0; omega), fun j hj => absurd hj (by show ¬ (j : Int) < 6 * 0; omega)⟩ e e'
  obtain ⟨g1, g2, g3, -⟩ := g
  rw [← g1, ← g2, ← g3] at h'
  omega
-- harbours: opened again; read
theorem mp_bits_c0 : ∀ k : Nat, k < 50 → ∀ q : Nat, q < 50 → (((1 : Int64) <<< Int64.ofNat q) ^^^ (-1)) >>> Int64.ofNat k &&& 1 = if k = q then 0 else 1 := by decide +kernel
theorem mp_bits0 {k q : Nat} (hk : k < 50) (hq : q < 50) (y : Int64) : ((y &&& ((1 <<< Int64.ofNat q) ^^^ (-1))) >>> Int64.ofNat k &&& 1 ≠ 0) ↔ (k ≠ q ∧ (y >>> Int64.ofNat k &&& 1 ≠ 0)) := by
  rw [Int64.shiftRight_and, Int64.and_assoc, mp_bits_c0 k hk q hq]
  by_cases e : k = q
  · rw [if_pos e, Int64.and_zero]
    exact ⟨fun h => absurd rfl h, fun h => absurd e h.1⟩
  · rw [if_neg e]
    exact ⟨fun h => ⟨e, h⟩, fun h => h.2⟩
theorem mp_shb_cell0 {s s' : Nat → Int64} {a m : Int} {x b y : Int64} {i : Nat} (h : s' = vp_updL s i (x &&& y)) (hy : y = b ^^^ (-1)) (hi : (i : Int) = 2 * a + m / 50) (hx : x = s i) (hb : b = 1 <<< Int64.ofInt (m % 50)) (ha : 0 ≤ a) (hm : 0 ≤ m ∧ m < 100) : mp_shb s' = fun j => if j = (100 * a + m).toNat then false else mp_shb s j := by
  funext j
  have hb2 : b = 1 <<< Int64.ofNat (m % 50).toNat := by
    rw [hb, mp_ofi64 (by omega)]
  unfold mp_shb
  rw [h, hx, hy, hb2]
  by_cases e : 2 * (j / 100) + j % 100 / 50 = i
  · rw [e]
    show decide (((if i = i then (s i &&& ((1 <<< Int64.ofNat (m % 50).toNat) ^^^ (-1))) else s i) >>> Int64.ofNat (j % 50) &&& 1) ≠ 0) = _
    rw [if_pos rfl]
    have hbit := mp_bits0 (k := j % 50) (q := (m % 50).toNat) (by omega) (by omega) (s i)
    by_cases q : j = (100 * a + m).toNat
    · rw [if_pos q]
      exact decide_eq_false (fun w => (hbit.mp w).1 (by omega))
    · rw [if_neg q]
      have hne : ¬ j % 50 = (m % 50).toNat := by omega
      by_cases r : (s i >>> Int64.ofNat (j % 50) &&& 1) ≠ 0
      · rw [decide_eq_true r]
        exact decide_eq_true (hbit.mpr ⟨hne, r⟩)
      · rw [decide_eq_false r]
        exact decide_eq_false (fun w => r (hbit.mp w).2)
  · rw [if_neg (by omega)]
    show decide (((if 2 * (j / 100) + j % 100 / 50 = i then _ else s (2 * (j / 100) + j % 100 / 50)) >>> Int64.ofNat (j % 50) &&& 1) ≠ 0) = _
    rw [if_neg e]
theorem mp_shb_rd {s : Nat → Int64} {a m : Int} {x y z : Int64} {i q : Int32} (hx : x = s i.toNatClampNeg) (hy : y = x >>> (q.toInt64 &&& 63)) (hz : z = y &&& 1) (hi : i.toInt = 2 * a + m / 50) (hq : q.toInt = m % 50) (ha : 0 ≤ a) (hm : 0 ≤ m ∧ m < 100) : mp_shb s (100 * a + m).toNat = decide (z ≠ 0) := by
  unfold mp_shb
  rw [hz, hy, hx, mp_sh63 hq (by omega), mp_ofi64 (by omega), show i.toNatClampNeg = 2 * ((100 * a + m).toNat / 100) + (100 * a + m).toNat % 100 / 50 by simp only [Int32.toNatClampNeg]; omega, show (m % 50).toNat = (100 * a + m).toNat % 50 by omega]
-- what is told: counts, data, acts
abbrev mp_TD : Type := mp_Sc × mp_AD × Int × (Nat → Int32)
/-- row r of the reference -/
def mp_dR (r : Nat) (sea isShut person promise : Nat → Int32) : mp_AD := (fun j => sea (36 * r + j), fun j => decide ((isShut (600 * r + j)).toInt ≠ 0), fun j => person (18 * r + j), fun j => promise (60 * r + j))
def mp_tR (r : Nat) (lines has sea isShut person promise act : Nat → Int32) : mp_TD := (((has (5 * r)).toInt, (has (5 * r + 1)).toInt, (has (5 * r + 2)).toInt, (has (5 * r + 3)).toInt, (lines r).toInt), mp_dR r sea isShut person promise, (has (5 * r + 4)).toInt, fun j => act (60 * r + j))
/-- alike, as far as it is told -/
def mp_RT (t t' : mp_TD) : Prop := t.1 = t'.1 ∧ mp_Rd t.1 t.2.1 t'.2.1 ∧ t.2.2.1 = t'.2.2.1 ∧ ∀ j : Nat, (j : Int) < t.2.2.1 → t.2.2.2 j = t'.2.2.2 j
theorem mp_Rd_rfl {c : mp_Sc} {d : mp_AD} : mp_Rd c d d := ⟨fun _ _ => rfl, fun _ _ => rfl, fun _ _ => rfl, fun _ _ => rfl⟩
theorem mp_Rd_sym {c : mp_Sc} {d d' : mp_AD} (h : mp_Rd c d d') : mp_Rd c d' d := ⟨fun j hj => (h.1 j hj).symm, fun j hj => (h.2.1 j hj).symm, fun j hj => (h.2.2.1 j hj).symm, fun j hj => (h.2.2.2 j hj).symm⟩
theorem mp_Rd_tr {c : mp_Sc} {d d' d2 : mp_AD} (h : mp_Rd c d d') (g : mp_Rd c d' d2) : mp_Rd c d d2 := ⟨fun j hj => (h.1 j hj).trans (g.1 j hj), fun j hj => (h.2.1 j hj).trans (g.2.1 j hj), fun j hj => (h.2.2.1 j hj).trans (g.2.2.1 j hj), fun j hj => (h.2.2.2 j hj).trans (g.2.2.2 j hj)⟩
theorem mp_RT_rfl {t : mp_TD} : mp_RT t t := ⟨rfl, mp_Rd_rfl, rfl, fun _ _ => rfl⟩
theorem mp_RT_sym {t t' : mp_TD} (h : mp_RT t t') : mp_RT t' t := ⟨h.1.symm, h.1 ▸ mp_Rd_sym h.2.1, h.2.2.1.symm, fun j hj => (h.2.2.2 j (h.2.2.1 ▸ hj)).symm⟩
theorem mp_RT_tr {t t' t2 : mp_TD} (h : mp_RT t t') (g : mp_RT t' t2) : mp_RT t t2 := ⟨h.1.trans g.1, mp_Rd_tr h.2.1 (h.1 ▸ g.2.1), h.2.2.1.trans g.2.2.1, fun j hj => (h.2.2.2 j hj).trans (g.2.2.2 j (h.2.2.1 ▸ hj))⟩
-- what the calls answer of it
def mp_perR (t : mp_TD) (r p w : Int) : Prop := ((p < 0 ∨ t.1.2.2.1 ≤ p ∨ w < 0 ∨ 2 < w) ∧ r = -2) ∨ ((0 ≤ p ∧ p < t.1.2.2.1 ∧ 0 ≤ w ∧ w ≤ 2) ∧ r = (t.2.1.2.2.1 (3 * p + w).toNat).toInt)
def mp_proR (t : mp_TD) (r p w : Int) : Prop := ((p < 0 ∨ t.1.2.2.2.1 ≤ p ∨ w < 0 ∨ 5 < w) ∧ r = -2) ∨ ((0 ≤ p ∧ p < t.1.2.2.2.1 ∧ 0 ≤ w ∧ w ≤ 5) ∧ r = (t.2.1.2.2.2 (6 * p + w).toNat).toInt)
def mp_seaR (t : mp_TD) (r a b : Int) : Prop := ((a < 0 ∨ t.1.1 ≤ a ∨ b < 0 ∨ t.1.1 ≤ b ∨ a = b) ∧ r = -2) ∨ ((0 ≤ a ∧ a < t.1.1 ∧ 0 ≤ b ∧ b < t.1.1 ∧ a ≠ b) ∧ r = (t.2.1.1 (6 * a + b).toNat).toInt)
def mp_opnR (t : mp_TD) (r i m : Int) : Prop := ((i < 0 ∨ t.1.1 ≤ i ∨ m < 0 ∨ 99 < m) ∧ r = -2) ∨ ((0 ≤ i ∧ i < t.1.1 ∧ 0 ≤ m ∧ m ≤ 99) ∧ ((t.2.1.2.1 (100 * i + m).toNat = true ∧ r = 0) ∨ (t.2.1.2.1 (100 * i + m).toNat = false ∧ r = 1)))
def mp_tenR (t t2 : mp_TD) (r p n : Int) : Prop := ((p < 0 ∨ t.1.2.2.1 ≤ p ∨ n < 0 ∨ 100 < n) ∧ r = -2 ∧ t2 = t) ∨ ((0 ≤ p ∧ p < t.1.2.2.1 ∧ 0 ≤ n ∧ n ≤ 100) ∧ r = (t.2.1.2.2.1 (3 * p + 2).toNat).toInt ∧ t2 = (t.1, (t.2.1.1, t.2.1.2.1, upd t.2.1.2.2.1 (3 * p + 2).toNat (Int32.ofInt n), t.2.1.2.2.2), t.2.2))
def mp_shuR (t t2 : mp_TD) (r i m s : Int) : Prop := ((i < 0 ∨ t.1.1 ≤ i ∨ m < 0 ∨ 99 < m ∨ s < 0 ∨ 1 < s) ∧ r = -2 ∧ t2 = t) ∨ ((0 ≤ i ∧ i < t.1.1 ∧ 0 ≤ m ∧ m ≤ 99 ∧ 0 ≤ s ∧ s ≤ 1) ∧ ((0 < t.2.2.1 ∧ r = -5 ∧ t2 = t) ∨ (t.2.2.1 ≤ 0 ∧ ((t.2.1.2.1 (100 * i + m).toNat = true ∧ r = 1) ∨ (t.2.1.2.1 (100 * i + m).toNat = false ∧ r = 0)) ∧ t2 = (t.1, (t.2.1.1, (fun j => if j = (100 * i + m).toNat then decide (s = 1) else t.2.1.2.1 j), t.2.1.2.2), t.2.2))))
def mp_prsR (t t2 : mp_TD) (r p o w : Int) : Prop := ((p < 0 ∨ t.1.2.2.1 ≤ p ∨ o < 0 ∨ t.1.2.2.1 ≤ o ∨ p = o ∨ w < 1 ∨ 1000000 < w) ∧ r = -2 ∧ t2 = t) ∨ ((0 ≤ p ∧ p < t.1.2.2.1 ∧ 0 ≤ o ∧ o < t.1.2.2.1 ∧ p ≠ o ∧ 1 ≤ w ∧ w ≤ 1000000) ∧ ((0 < t.2.2.1 ∧ r = -5 ∧ t2 = t) ∨ (t.2.2.1 ≤ 0 ∧ 10 ≤ t.1.2.2.2.1 ∧ r = -3 ∧ t2 = t) ∨ (t.2.2.1 ≤ 0 ∧ t.1.2.2.2.1 < 10 ∧ r = t.1.2.2.2.1 ∧ t2 = ((t.1.1, t.1.2.1, t.1.2.2.1, t.1.2.2.2.1 + 1, t.1.2.2.2.2), mp_gop t.2.1 5 t.1.2.2.2.1 p o w t.1.2.1, t.2.2))))
section MPA
variable {t t' t2 t3 : mp_TD} {r r' p w o a b i m n s : Int}
theorem mp_per_eq (h : mp_RT t t') (h1 : mp_perR t r p w) (h2 : mp_perR t' r' p w) : r = r' := by
  obtain ⟨e1, e2, -, -⟩ := h
  unfold mp_perR at h1 h2
  rw [← e1] at h2
  rcases h1 with ⟨c1, h1⟩ | ⟨c1, h1⟩ <;> rcases h2 with ⟨c2, h2⟩ | ⟨c2, h2⟩
  · omega
  · exfalso; omega
  · exfalso; omega
  · rw [h1, h2, e2.2.2.1 _ (by omega)]
theorem mp_pro_eq (h : mp_RT t t') (h1 : mp_proR t r p w) (h2 : mp_proR t' r' p w) : r = r' := by
  obtain ⟨e1, e2, -, -⟩ := h
  unfold mp_proR at h1 h2
  rw [← e1] at h2
  rcases h1 with ⟨c1, h1⟩ | ⟨c1, h1⟩ <;> rcases h2 with ⟨c2, h2⟩ | ⟨c2, h2⟩
  · omega
  · exfalso; omega
  · exfalso; omega
  · rw [h1, h2, e2.2.2.2 _ (by omega)]
theorem mp_sea_eq (h : mp_RT t t') (hi : t.1.1 ≤ 6) (h1 : mp_seaR t r a b) (h2 : mp_seaR t' r' a b) : r = r' := by
  obtain ⟨e1, e2, -, -⟩ := h
  unfold mp_seaR at h1 h2
  rw [← e1] at h2
  rcases h1 with ⟨c1, h1⟩ | ⟨c1, h1⟩ <;> rcases h2 with ⟨c2, h2⟩ | ⟨c2, h2⟩
  · omega
  · exfalso; omega
  · exfalso; omega
  · rw [h1, h2, e2.1 _ (by omega)]
theorem mp_opn_eq (h : mp_RT t t') (hi : t.1.1 ≤ 6) (h1 : mp_opnR t r i m) (h2 : mp_opnR t' r' i m) : r = r' := by
  obtain ⟨e1, e2, -, -⟩ := h
  unfold mp_opnR at h1 h2
  rw [← e1] at h2
  rcases h1 with ⟨c1, h1⟩ | ⟨c1, h1⟩ <;> rcases h2 with ⟨c2, h2⟩ | ⟨c2, h2⟩
  · omega
  · exfalso; omega
  · exfalso; omega
  · rw [← e2.2.1 _ (by omega)] at h2
    rcases h1 with ⟨h1, e⟩ | ⟨h1, e⟩ <;> rcases h2 with ⟨h2, f⟩ | ⟨h2, f⟩
    · omega
    · rw [h1] at h2; cases h2
    · rw [h1] at h2; cases h2
    · omega
theorem mp_ten_eq (h : mp_RT t t') (h1 : mp_tenR t t2 r p n) (h2 : mp_tenR t' t3 r' p n) : r = r' ∧ mp_RT t2 t3 := by
  obtain ⟨e1, e2, e3, e4⟩ := h
  unfold mp_tenR at h1 h2
  rw [← e1] at h2
  rcases h1 with ⟨c1, h1, k1⟩ | ⟨c1, h1, k1⟩ <;> rcases h2 with ⟨c2, h2, k2⟩ | ⟨c2, h2, k2⟩
  · exact ⟨by omega, by rw [k1, k2]; exact ⟨e1, e2, e3, e4⟩⟩
  · exfalso; omega
  · exfalso; omega
  · refine ⟨by rw [h1, h2, e2.2.2.1 _ (by omega)], ?_⟩
    rw [k1, k2]
    exact ⟨rfl, ⟨e2.1, e2.2.1, mp_upd_R (P := fun j => (j : Int) < 3 * t.1.2.2.1) e2.2.2.1 _ _, e2.2.2.2⟩, e3, e4⟩
theorem mp_shu_eq (h : mp_RT t t') (hi : t.1.1 ≤ 6) (h1 : mp_shuR t t2 r i m s) (h2 : mp_shuR t' t3 r' i m s) : r = r' ∧ mp_RT t2 t3 := by
  obtain ⟨e1, e2, e3, e4⟩ := h
  unfold mp_shuR at h1 h2
  rw [← e1, ← e3] at h2
  rcases h1 with ⟨c1, h1, k1⟩ | ⟨c1, h1⟩ <;> rcases h2 with ⟨c2, h2, k2⟩ | ⟨c2, h2⟩
  · exact ⟨by omega, by rw [k1, k2]; exact ⟨e1, e2, e3, e4⟩⟩
  · exfalso; omega
  · exfalso; omega
  · rcases h1 with ⟨b1, h1, k1⟩ | ⟨b1, h1, k1⟩ <;> rcases h2 with ⟨b2, h2, k2⟩ | ⟨b2, h2, k2⟩
    · exact ⟨by omega, by rw [k1, k2]; exact ⟨e1, e2, e3, e4⟩⟩
    · exfalso; omega
    · exfalso; omega
    · rw [← e2.2.1 _ (by omega)] at h2
      refine ⟨?_, ?_⟩
      · rcases h1 with ⟨h1, e⟩ | ⟨h1, e⟩ <;> rcases h2 with ⟨h2, f⟩ | ⟨h2, f⟩
        · omega
        · rw [h1] at h2; cases h2
        · rw [h1] at h2; cases h2
        · omega
      · rw [k1, k2]
        refine ⟨rfl, ⟨e2.1, fun j hj => ?_, e2.2.2⟩, e3, e4⟩
        show (if j = (100 * i + m).toNat then decide (s = 1) else t.2.1.2.1 j) = (if j = (100 * i + m).toNat then decide (s = 1) else t'.2.1.2.1 j)
        rw [e2.2.1 j hj]
theorem mp_prs_eq (h : mp_RT t t') (h1 : mp_prsR t t2 r p o w) (h2 : mp_prsR t' t3 r' p o w) : r = r' ∧ mp_RT t2 t3 := by
  obtain ⟨e1, e2, e3, e4⟩ := h
  unfold mp_prsR at h1 h2
  rw [← e1, ← e3] at h2
  rcases h1 with ⟨c1, h1, k1⟩ | ⟨c1, h1⟩ <;> rcases h2 with ⟨c2, h2, k2⟩ | ⟨c2, h2⟩
  · exact ⟨by omega, by rw [k1, k2]; exact ⟨e1, e2, e3, e4⟩⟩
  · exfalso; omega
  · exfalso; omega
  · rcases h1 with ⟨b1, h1, k1⟩ | ⟨b1, a1, h1, k1⟩ | ⟨b1, a1, h1, k1⟩ <;> rcases h2 with ⟨b2, h2, k2⟩ | ⟨b2, a2, h2, k2⟩ | ⟨b2, a2, h2, k2⟩ <;> first | (exfalso; omega) | skip
    · exact ⟨by omega, by rw [k1, k2]; exact ⟨e1, e2, e3, e4⟩⟩
    · exact ⟨by omega, by rw [k1, k2]; exact ⟨e1, e2, e3, e4⟩⟩
    · refine ⟨by omega, ?_⟩
      rw [k1, k2]
      exact ⟨rfl, mp_op5_R p o w t.1.2.1 e2 rfl rfl, e3, e4⟩
end MPA
