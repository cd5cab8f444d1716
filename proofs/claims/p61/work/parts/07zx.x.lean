-- the class's words of it
section MPX
variable {t : mp_TD} {c : mp_Sc} {k : Int} {A : mp_CA} {B : mp_RA} {r p i : Int}
abbrev mp_crC (c : mp_Sc) (k : Int) (A : mp_CA) (p i : Int) : Prop := mp_crx (mp_cs A.1 A.2.2.1 A.2.2.2.2.2.2.2.2.2.2.2 c.2.1 p.toNat k.toNat).2.2.toInt (c.2.1 + mp_k200 A.2.2.2.2.2.2.2.2.2.2.2 k) i (mp_cs A.1 A.2.2.1 A.2.2.2.2.2.2.2.2.2.2.2 c.2.1 p.toNat k.toNat).1.toInt (A.1 (6 * (mp_cs A.1 A.2.2.1 A.2.2.2.2.2.2.2.2.2.2.2 c.2.1 p.toNat k.toNat).1.toInt + i).toNat).toInt (A.2.2.2.1 p.toNat).toInt (mp_shb A.2.1 (100 * (mp_cs A.1 A.2.2.1 A.2.2.2.2.2.2.2.2.2.2.2 c.2.1 p.toNat k.toNat).1.toInt + (c.2.1 + mp_k200 A.2.2.2.2.2.2.2.2.2.2.2 k)).toNat) (mp_shb A.2.1 (100 * i + (c.2.1 + mp_k200 A.2.2.2.2.2.2.2.2.2.2.2 k)).toNat)
abbrev mp_cnC (c : mp_Sc) (k : Int) (A : mp_CA) (j : Nat) : Prop := ((mp_cs A.1 A.2.2.1 A.2.2.2.2.2.2.2.2.2.2.2 c.2.1 (A.2.2.2.2.2.1 j).toInt.toNat k.toNat).1.toInt = (mp_cs A.1 A.2.2.1 A.2.2.2.2.2.2.2.2.2.2.2 c.2.1 (A.2.2.2.2.2.2.1 j).toInt.toNat k.toNat).1.toInt ∧ ¬ mp_deadx (A.2.2.2.1 (A.2.2.2.2.2.1 j).toInt.toNat).toInt (c.2.1 + mp_k200 A.2.2.2.2.2.2.2.2.2.2.2 k) ∧ ¬ mp_deadx (A.2.2.2.1 (A.2.2.2.2.2.2.1 j).toInt.toNat).toInt (c.2.1 + mp_k200 A.2.2.2.2.2.2.2.2.2.2.2 k))
theorem mp_WF_L (w : mp_WF t) : 0 ≤ t.1.2.2.2.2 := w.2.2.2.2.1.2.2
theorem mp_L_C (h0 : mp_RT t (mp_tC c k A)) (w : mp_WF t) : 0 ≤ c.2.2.2.2 := by
  have e : t.1.2.2.2.2 = c.2.2.2.2 := by rw [h0.1]; rfl
  have := mp_WF_L w
  omega
theorem mp_now_C {m : Int} (h0 : mp_RT t (mp_tC c k A)) (w : mp_WF t) (hs : m = c.2.1 + mp_k200 A.2.2.2.2.2.2.2.2.2.2.2 k) (h : (c.2.2.2.2 = 0 ∧ r = -2) ∨ (c.2.2.2.2 ≠ 0 ∧ r = m)) : r = mp_nowG t := by
  have l := mp_L_C h0 w
  refine mp_now_X (m := m) h0 hs ?_
  rcases h with ⟨q, h⟩ | ⟨q, h⟩
  · exact Or.inl ⟨by show c.2.2.2.2 ≤ 0; omega, h⟩
  · exact Or.inr ⟨by show 0 < c.2.2.2.2; omega, h⟩
theorem mp_act_C (h0 : mp_RT t (mp_tC c k A)) (w : mp_WF t) (h : (c.2.2.2.2 = 0 ∧ r = -2) ∨ (c.2.2.2.2 ≠ 0 ∧ (i < 0 ∨ k ≤ i) ∧ r = -1) ∨ (c.2.2.2.2 ≠ 0 ∧ (0 ≤ i ∧ i < k) ∧ r = (A.2.2.2.2.2.2.2.2.2.2.2 i.toNat).toInt)) : r = mp_actG t i := by
  have l := mp_L_C h0 w
  refine mp_act_X h0 ?_
  rcases h with ⟨q, h⟩ | ⟨q, h⟩ | ⟨q, h⟩
  · exact Or.inl ⟨by show c.2.2.2.2 ≤ 0; omega, h⟩
  · exact Or.inr (Or.inl ⟨by show 0 < c.2.2.2.2; omega, h⟩)
  · exact Or.inr (Or.inr ⟨by show 0 < c.2.2.2.2; omega, h⟩)
theorem mp_can_C (h0 : mp_RT t (mp_tC c k A)) (w : mp_WF t) (h : (c.2.2.2.2 = 0 ∧ r = -2) ∨ (c.2.2.2.2 ≠ 0 ∧ r = (mp_bf (fun j : Nat => decide (mp_cnC c k A j)) c.2.2.2.1.toNat).toInt)) : r = mp_canG t := by
  have l := mp_L_C h0 w
  refine mp_can_X (P := fun j : Nat => decide (mp_cnC c k A j)) h0 w (fun j => decide_eq_decide.mpr mp_cnB_C.symm) ?_
  rcases h with ⟨q, h⟩ | ⟨q, h⟩
  · exact Or.inl ⟨by show c.2.2.2.2 ≤ 0; omega, h⟩
  · exact Or.inr ⟨by show 0 < c.2.2.2.2; omega, h⟩
theorem mp_sai_C (h0 : mp_RT t (mp_tC c k A)) (w : mp_WF t) (h : ((p < 0 ∨ c.2.2.1 ≤ p) ∧ r = -2) ∨ ((0 ≤ p ∧ p < c.2.2.1) ∧ r = (mp_bf (fun j : Nat => decide (mp_crC c k A p ((j : Nat) : Int))) c.1.toNat).toInt)) : r = mp_saiG t p :=
  mp_sai_X (P := fun j : Nat => decide (mp_crC c k A p ((j : Nat) : Int))) h0 w (fun j => decide_eq_decide.mpr mp_crT_C.symm) h
theorem mp_can_M (h0 : mp_RT t (mp_r0 B)) (w : mp_WF t) (h : ((B.1 0).toInt ≤ 0 ∧ r = -2) ∨ (0 < (B.1 0).toInt ∧ r = (mp_bf (fun j : Nat => decide (mp_cnB (mp_r0 B) j)) (B.2.1 3).toInt.toNat).toInt)) : r = mp_canG t := mp_can_X h0 w (fun j => rfl) h
theorem mp_sai_M (h0 : mp_RT t (mp_r0 B)) (w : mp_WF t) (h : ((p < 0 ∨ (B.2.1 2).toInt ≤ p) ∧ r = -2) ∨ ((0 ≤ p ∧ p < (B.2.1 2).toInt) ∧ r = (mp_bf (fun j : Nat => decide (mp_crT (mp_r0 B) p ((j : Nat) : Int))) (B.2.1 0).toInt.toNat).toInt)) : r = mp_saiG t p := mp_sai_X h0 w (fun j => rfl) h
theorem mp_rot_C (h0 : mp_RT t (mp_tC c k A)) (w : mp_WF t) (h : ((p < 0 ∨ c.2.2.2.1 ≤ p) ∧ r = -2) ∨ ((0 ≤ p ∧ p < c.2.2.2.1) ∧ r = mp_it A.2.2.2.2.2.2.2.2.2.2.1 p 10)) : r = mp_rotG t p := mp_rot_X (ba := A.2.2.2.2.2.2.2.2.2.2.1) h0 w (fun j => mp_U_C5.symm) h
theorem mp_upn_C {p : Int32} (h0 : mp_RT t (mp_tC c k A)) (h : ((p.toInt < 0 ∨ c.2.2.2.1 ≤ p.toInt) ∧ r = -2) ∨ ((0 ≤ p.toInt ∧ p.toInt < c.2.2.2.1) ∧ r = (mp_up A.2.2.2.2.2.2.2.2.2.2.1 p.toInt.toNat (c.2.2.2.1 - p.toInt - 1).toNat &&& ((1 <<< (p &&& 31)) ^^^ (-1))).toInt)) : r = mp_upnG t p := mp_upn_X (ba := A.2.2.2.2.2.2.2.2.2.2.1) h0 (fun j => mp_U_C5.symm) h
theorem mp_rot_M (h0 : mp_RT t (mp_r0 B)) (w : mp_WF t) (h : ((p < 0 ∨ (B.2.1 3).toInt ≤ p) ∧ r = -2) ∨ ((0 ≤ p ∧ p < (B.2.1 3).toInt) ∧ r = mp_it (fun j : Nat => B.2.2.2.2.2.1 (6 * j + 5)) p 10)) : r = mp_rotG t p := mp_rot_X (ba := fun j : Nat => B.2.2.2.2.2.1 (6 * j + 5)) h0 w (fun j => rfl) h
theorem mp_upn_M {p : Int32} (h0 : mp_RT t (mp_r0 B)) (h : ((p.toInt < 0 ∨ (B.2.1 3).toInt ≤ p.toInt) ∧ r = -2) ∨ ((0 ≤ p.toInt ∧ p.toInt < (B.2.1 3).toInt) ∧ r = (mp_up (fun j : Nat => B.2.2.2.2.2.1 (6 * j + 5)) p.toInt.toNat ((B.2.1 3).toInt - p.toInt - 1).toNat &&& ((1 <<< (p &&& 31)) ^^^ (-1))).toInt)) : r = mp_upnG t p := mp_upn_X (ba := fun j : Nat => B.2.2.2.2.2.1 (6 * j + 5)) h0 (fun j => rfl) h
theorem mp_rws_5C (h0 : mp_RT t (mp_tC c k A)) (w : mp_WF t) (h : (0 ≤ p ∧ p < c.2.2.1) ∧ (0 ≤ i ∧ i < c.1)) (h5 : ¬ mp_crC c k A p i ∨ 60 ≤ k) (hr : r = -5) : r = mp_rwsG t p i ∧ mp_RT (mp_rwsF t p i) (mp_tC c k A) := mp_rws_5 h0 w h (h5.imp_left fun q z => q (mp_crT_C.mp z)) hr
theorem mp_rws_C {k2 : Int} {f : Nat → Int32} (h0 : mp_RT t (mp_tC c k A)) (w : mp_WF t) (h : (0 ≤ p ∧ p < c.2.2.1) ∧ (0 ≤ i ∧ i < c.1)) (hc : mp_crC c k A p i) (hr : r = (A.1 (6 * (mp_cs A.1 A.2.2.1 A.2.2.2.2.2.2.2.2.2.2.2 c.2.1 p.toNat k.toNat).1.toInt + i).toNat).toInt) (hk : k ≤ 59) (g3 : k2 = k + 1) (g4 : f = upd A.2.2.2.2.2.2.2.2.2.2.2 k.toNat (Int32.ofInt (10 * p + i))) : r = mp_rwsG t p i ∧ mp_RT (mp_rwsF t p i) (mp_tC c k2 (A.1, A.2.1, A.2.2.1, A.2.2.2.1, A.2.2.2.2.1, A.2.2.2.2.2.1, A.2.2.2.2.2.2.1, A.2.2.2.2.2.2.2.1, A.2.2.2.2.2.2.2.2.1, A.2.2.2.2.2.2.2.2.2.1, A.2.2.2.2.2.2.2.2.2.2.1, f)) :=
  mp_rws_X h0 w h (mp_crT_C.mpr hc) (by rw [mp_csX_C]; exact hr) hk (by rw [mp_tC_1, mp_tC_1]) (by rw [mp_tC_D, mp_tC_D, mp_cD_x, mp_cD_x]) g3 g4
theorem mp_say_5C (h0 : mp_RT t (mp_tC c k A)) (w : mp_WF t) (h : 0 ≤ p ∧ p < c.2.2.2.1) (h5 : ¬ mp_cnC c k A p.toNat ∨ 60 ≤ k) : mp_RT (mp_sayF t p) (mp_tC c k A) := mp_say_5 h0 w h (h5.imp_left fun q z => q (mp_cnB_C.mp z))
theorem mp_say_C {k2 : Int} {f : Nat → Int32} (h0 : mp_RT t (mp_tC c k A)) (w : mp_WF t) (h : 0 ≤ p ∧ p < c.2.2.2.1) (hc : mp_cnC c k A p.toNat) (hk : k ≤ 59) (g3 : k2 = k + 1) (g4 : f = upd A.2.2.2.2.2.2.2.2.2.2.2 k.toNat (Int32.ofInt (100 + p))) : mp_RT (mp_sayF t p) (mp_tC c k2 (A.1, A.2.1, A.2.2.1, A.2.2.2.1, A.2.2.2.2.1, A.2.2.2.2.2.1, A.2.2.2.2.2.2.1, A.2.2.2.2.2.2.2.1, A.2.2.2.2.2.2.2.2.1, A.2.2.2.2.2.2.2.2.2.1, A.2.2.2.2.2.2.2.2.2.2.1, f)) :=
  mp_say_X h0 w h (mp_cnB_C.mpr hc) hk (by rw [mp_tC_1, mp_tC_1]) (by rw [mp_tC_D, mp_tC_D, mp_cD_x, mp_cD_x]) g3 g4
theorem mp_pas_bC (h0 : mp_RT t (mp_tC c k A)) (h : c.2.2.2.2 = 0) (hr : r = -2) : r = mp_pasG t ∧ mp_RT (mp_pasF t) (mp_tC c k A) := mp_pas_b h0 (by show c.2.2.2.2 ≤ 0; omega) hr
theorem mp_pas_5C (h0 : mp_RT t (mp_tC c k A)) (w : mp_WF t) (h : c.2.2.2.2 ≠ 0) (h5 : 99 ≤ c.2.1 + mp_k200 A.2.2.2.2.2.2.2.2.2.2.2 k ∨ 60 ≤ k) (hr : r = -5) : r = mp_pasG t ∧ mp_RT (mp_pasF t) (mp_tC c k A) := mp_pas_5 h0 (by have := mp_L_C h0 w; show 0 < c.2.2.2.2; omega) h5 hr
theorem mp_pas_C {k2 : Int} {f : Nat → Int32} (h0 : mp_RT t (mp_tC c k A)) (w : mp_WF t) (h : c.2.2.2.2 ≠ 0) (h9 : c.2.1 + mp_k200 A.2.2.2.2.2.2.2.2.2.2.2 k ≤ 98) (hr : r = c.2.1 + mp_k200 A.2.2.2.2.2.2.2.2.2.2.2 k + 1) (hk : k ≤ 59) (g3 : k2 = k + 1) (g4 : f = upd A.2.2.2.2.2.2.2.2.2.2.2 k.toNat (Int32.ofInt 200)) : r = mp_pasG t ∧ mp_RT (mp_pasF t) (mp_tC c k2 (A.1, A.2.1, A.2.2.1, A.2.2.2.1, A.2.2.2.2.1, A.2.2.2.2.2.1, A.2.2.2.2.2.2.1, A.2.2.2.2.2.2.2.1, A.2.2.2.2.2.2.2.2.1, A.2.2.2.2.2.2.2.2.2.1, A.2.2.2.2.2.2.2.2.2.2.1, f)) :=
  mp_pas_X h0 w (by have := mp_L_C h0 w; show 0 < c.2.2.2.2; omega) h9 hk hr (by rw [mp_tC_1, mp_tC_1]) (by rw [mp_tC_D, mp_tC_D, mp_cD_x, mp_cD_x]) g3 g4
theorem mp_und_bC (h0 : mp_RT t (mp_tC c k A)) (h : c.2.2.2.2 = 0) (hr : r = -2) : r = mp_undG t ∧ mp_RT (mp_undF t) (mp_tC c k A) := mp_und_b h0 (by show c.2.2.2.2 ≤ 0; omega) hr
theorem mp_und_5C (h0 : mp_RT t (mp_tC c k A)) (w : mp_WF t) (h : c.2.2.2.2 ≠ 0) (h5 : k ≤ 0) (hr : r = -5) : r = mp_undG t ∧ mp_RT (mp_undF t) (mp_tC c k A) := mp_und_5 h0 (by have := mp_L_C h0 w; show 0 < c.2.2.2.2; omega) h5 hr
theorem mp_und_C {k2 : Int} (h0 : mp_RT t (mp_tC c k A)) (w : mp_WF t) (h : c.2.2.2.2 ≠ 0) (h5 : 0 < k) (g3 : k2 = k - 1) (hr : r = k2) : r = mp_undG t ∧ mp_RT (mp_undF t) (mp_tC c k2 A) := mp_und_X h0 (by have := mp_L_C h0 w; show 0 < c.2.2.2.2; omega) h5 g3 hr rfl rfl rfl
theorem mp_ane_bC (h0 : mp_RT t (mp_tC c k A)) (h : c.2.2.2.2 = 0) (hr : r = -2) : r = mp_aneG t ∧ mp_RT (mp_aneF t) (mp_tC c k A) := mp_ane_b h0 (by show c.2.2.2.2 ≤ 0; omega) hr
theorem mp_ane_C {k2 : Int} (h0 : mp_RT t (mp_tC c k A)) (w : mp_WF t) (h : c.2.2.2.2 ≠ 0) (g3 : k2 = 0) (hr : r = k) : r = mp_aneG t ∧ mp_RT (mp_aneF t) (mp_tC c k2 A) := mp_ane_X h0 w (by have := mp_L_C h0 w; show 0 < c.2.2.2.2; omega) g3 hr rfl rfl rfl
-- the reference's acts
theorem mp_r0_acts {B2 : mp_RA} (g0 : (B2.2.1 0).toInt = (B.2.1 0).toInt) (g1 : (B2.2.1 1).toInt = (B.2.1 1).toInt) (g2 : (B2.2.1 2).toInt = (B.2.1 2).toInt) (g3 : (B2.2.1 3).toInt = (B.2.1 3).toInt) (e1 : B2.1 = B.1) (e2 : B2.2.2.1 = B.2.2.1) (e3 : B2.2.2.2.1 = B.2.2.2.1) (e4 : B2.2.2.2.2.1 = B.2.2.2.2.1) (e5 : B2.2.2.2.2.2.1 = B.2.2.2.2.2.1) : (mp_r0 B2).1 = (mp_r0 B).1 ∧ (mp_r0 B2).2.1 = (mp_r0 B).2.1 := by
  unfold mp_r0
  constructor
  · show ((B2.2.1 0).toInt, (B2.2.1 1).toInt, (B2.2.1 2).toInt, (B2.2.1 3).toInt, (B2.1 0).toInt) = ((B.2.1 0).toInt, (B.2.1 1).toInt, (B.2.1 2).toInt, (B.2.1 3).toInt, (B.1 0).toInt)
    rw [g0, g1, g2, g3, e1]
  · show (B2.2.2.1, (fun j => decide ((B2.2.2.2.1 j).toInt ≠ 0)), B2.2.2.2.2.1, B2.2.2.2.2.2.1) = (B.2.2.1, (fun j => decide ((B.2.2.2.1 j).toInt ≠ 0)), B.2.2.2.2.1, B.2.2.2.2.2.1)
    rw [e2, e3, e4, e5]
-- images
theorem mp_img_G {r k : Int} (h : (k < 0 ∨ 2 < k) ∧ r = -2 ∨ (0 ≤ k ∧ k ≤ 2) ∧ r = 0) : r = mp_imgG k := by
  unfold mp_imgG
  rcases h with ⟨q, h⟩ | ⟨q, h⟩
  · rw [if_neg (by omega)]; exact h
  · rw [if_pos q]; exact h
theorem mp_bck_G {kp : Nat → Bool} {r k : Int} (h : (k < 0 ∨ 2 < k) ∧ r = -2 ∨ (0 ≤ k ∧ k ≤ 2) ∧ kp k.toNat = false ∧ r = -6 ∨ (0 ≤ k ∧ k ≤ 2) ∧ kp k.toNat = true ∧ r = 0) : r = mp_bckG kp k := by
  unfold mp_bckG
  rcases h with ⟨q, h⟩ | ⟨q, e, h⟩ | ⟨q, e, h⟩
  · rw [if_neg (by omega)]; exact h
  · rw [if_pos q, if_neg (by rw [e]; decide)]; exact h
  · rw [if_pos q, if_pos e]; exact h
theorem mp_bckF_n {it : Nat → mp_TD} {kp : Nat → Bool} {k : Int} (h : (k < 0 ∨ 2 < k) ∨ kp k.toNat = false) : mp_bckF t it kp k = t := by
  unfold mp_bckF
  exact if_neg (fun z => by
    rcases h with q | q
    · omega
    · rw [q] at z; exact absurd z.2 (by decide))
theorem mp_bckF_y {it : Nat → mp_TD} {kp : Nat → Bool} {k : Int} (q : 0 ≤ k ∧ k ≤ 2) (h : kp k.toNat = true) : mp_bckF t it kp k = it k.toNat := by
  unfold mp_bckF
  exact if_pos ⟨q, h⟩
theorem mp_itF_n {it : Nat → mp_TD} {k : Int} (h : k < 0 ∨ 2 < k) : mp_itF it t k = it := by
  funext j
  unfold mp_itF
  exact if_neg (fun z => by omega)
theorem mp_kpF_n {kp : Nat → Bool} {k : Int} (h : k < 0 ∨ 2 < k) : mp_kpF kp k = kp := by
  funext j
  unfold mp_kpF
  exact if_neg (fun z => by omega)
theorem mp_itF_at {it : Nat → mp_TD} {k : Int} {j : Nat} (q : 0 ≤ k ∧ k ≤ 2) (h : j = k.toNat) : mp_itF it t k j = t := if_pos ⟨q.1, q.2, h⟩
theorem mp_itF_ne {it : Nat → mp_TD} {k : Int} {j : Nat} (h : j ≠ k.toNat) : mp_itF it t k j = it j := if_neg (fun z => h z.2.2)
theorem mp_kpF_at {kp : Nat → Bool} {k : Int} {j : Nat} (q : 0 ≤ k ∧ k ≤ 2) (h : j = k.toNat) : mp_kpF kp k j = true := if_pos ⟨q.1, q.2, h⟩
theorem mp_kpF_ne {kp : Nat → Bool} {k : Int} {j : Nat} (h : j ≠ k.toNat) : mp_kpF kp k j = kp j := if_neg (fun z => h z.2.2)
-- nothing told yet
theorem mp_RT_0C (hc : c = (0, 0, 0, 0, 0)) (hk : k = 0) (z1 : ∀ j : Nat, A.1 j = 0) (z2 : ∀ j : Nat, A.2.1 j = 0) : mp_RT mp_tn0 (mp_tC c k A) := by
  subst hc hk
  exact ⟨rfl, mp_Rd_Z mp_Z_z0 (mp_Z_C (fun j _ => z1 j) (fun j _ => z2 j)), rfl, fun j hj => absurd hj (by show ¬ (j : Int) < 0; omega)⟩
theorem mp_RT_0M (z1 : ∀ j : Nat, B.2.1 j = 0) (z2 : ∀ j : Nat, B.1 j = 0) (z3 : ∀ j : Nat, B.2.2.1 j = 0) (z4 : ∀ j : Nat, B.2.2.2.1 j = 0) : mp_RT mp_tn0 (mp_r0 B) := by
  have e : ((B.2.1 0).toInt, (B.2.1 1).toInt, (B.2.1 2).toInt, (B.2.1 3).toInt, (B.1 0).toInt) = ((0 : Int), (0 : Int), (0 : Int), (0 : Int), (0 : Int)) := by
    rw [z1, z1, z1, z1, z2]; rfl
  refine ⟨e.symm, ⟨fun j _ => (z3 j).symm, fun j _ => ?_, fun j hj => absurd hj (by show ¬ (j : Int) < 3 * 0; omega), fun j hj => absurd hj (by show ¬ (j : Int) < 6 * 0; omega)⟩, ?_, fun j hj => absurd hj (by show ¬ (j : Int) < 0; omega)⟩
  · show false = decide ((B.2.2.2.1 j).toInt ≠ 0)
    rw [z4]; rfl
  · show (0 : Int) = (B.2.1 4).toInt
    rw [z1]; rfl
end MPX
