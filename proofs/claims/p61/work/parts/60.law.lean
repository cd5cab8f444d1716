-- the law's frame: two worlds side by side, the one at work in front, the other (and what hangs on the first) kept whole
abbrev mp_ML : mp_M := (RL, code, 4, (2048, 600000, 7302250, 84000), ret, false)
theorem mp_swap {E : mp_E} {X : mp_X} {nL pc : Nat} {lv : List (Nat × Value)} {st : List Value} {a b : va_W} {k n : Nat} (h : mp_W E X nL pc lv st (b ++ a) k n) : mp_W E X nL pc lv st (a ++ b) k n := by
  intro H locs ls hP hD hS hl
  exact h H locs ls (va_P.swap (a := []) hP) (va_D.swap (a := []) hD) hS hl
theorem mp_permT {E : mp_E} {X : mp_X} {nL pc : Nat} {lv : List (Nat × Value)} {st : List Value} {ws ws' T : va_W} {k n : Nat} (is : List Nat) (hs : is.map (fun i => ws[i]?) = ws'.map some) (hnd : va_nd is = true) (h : mp_W E X nL pc lv st (ws' ++ T) k n) : mp_W E X nL pc lv st (ws ++ T) k n := by
  intro H locs ls hP hD hS hl
  exact h H locs ls (hP.part is hs) (hD.part is hnd hs) hS hl
theorem mp_frontP {D : va_G} {cl : List vw_C} {ws T : va_W} {H : Heap} (h : va_P D cl (ws ++ T) H) : va_P D cl ws H := fun k q hk => h k q (by rw [List.getElem?_append_left (List.getElem?_eq_some_iff.mp hk).1]; exact hk)
theorem mp_frontD {A : Nat → Prop} {ws T : va_W} (h : va_D A (ws ++ T)) : va_D A ws :=
  h.by (fun i => i) (fun k q hk => by rw [List.getElem?_append_left (List.getElem?_eq_some_iff.mp hk).1]; exact hk) (fun _ _ _ _ e => e)
section MPT
variable {E : mp_E} {X : mp_X} {M : mp_M} {y : MethodName} {b : ByteArray} {mL : Nat} {r : Option FieldType} {nf mc ms nl : Nat} {As : List Value} {a : Nat} {wc : va_W} {post : Option Value → va_W → Prop} {idx pc ci : Nat} {lv : List (Nat × Value)} {rest : List Value} {ws T : va_W} {k n : Nat}
theorem mp_callVT (hF : mp_F E X M) (hC : mp_Ct E y b mL r nf mc ms nl (.ref a :: As) wc post) (hL : mp_LV M.1 idx y b mL r As.length ci) (q0 : Nat) {fs : List Value} (hrecv : ws[q0]? = some (a, .inr (ci, fs)))
    (isC isR : List Nat) {wr : va_W} (hC1 : isC.map (fun i => ws[i]?) = wc.map some) (hnC : va_nd isC = true) (hR1 : isR.map (fun i => ws[i]?) = wr.map some) (hnd : va_nd isR = true) (hdis : isR.all (fun i => !isC.contains i) = true)
    (hroom : nf + 1 ≤ M.2.2.2.1.1 ∧ 8 + (mL + 11) + nl ≤ M.2.2.2.1.2.2.2 ∧ k + mc ≤ M.2.2.2.1.2.1 ∧ n + ms ≤ M.2.2.2.1.2.2.1) (hcat : (rest.map (fun v => v.category)).sum ≤ 8) (hdg : decode M.2.1 pc = .ok (.invokevirtual idx, 3))
    (kk : ∀ (v : Option Value) (w' : va_W), post v w' → mp_W E X M.2.2.1 (pc + 3) lv (v.toList ++ rest) ((wr ++ w') ++ T) (k + mc) (n + ms)) : mp_W E X M.2.2.1 pc lv (As.reverse ++ .ref a :: rest) (ws ++ T) k n := by
  intro H locs ls hP hD hS hl
  obtain ⟨hx, hb, hml, hown, hts, hK, hA, hlk, hR, hrt, hin, hN⟩ := hF
  have hPw := mp_frontP hP
  have hDw := mp_frontD hD
  have hFc := va_free (wc := wc) hDw hS hA isC hC1
  have hdis : ∀ i ∈ isR, i ∉ isC := by
    intro i hi hc
    have h1 := List.all_eq_true.mp hdis i hi
    rw [List.contains_iff_mem.mpr hc] at h1
    exact absurd h1 (by decide)
  obtain ⟨q, hq, hg, hd⟩ := hL
  have hPc := hPw.sub (ws' := wc) isC (mp_fm hC1)
  have hDc := hDw.sub isC hnC hC1
  have hrun : va_Run X.1.1 E.1.1 X.1.2.1 X.1.2.2 X.2.1.1 X.2.1.2.1 X.2.1.2.2.1 X.2.1.2.2.2 X.2.2.1.1 X.2.2.1.2 H locs k n mc ms (F0 X.2.1.2.1 pc ls (As.reverse ++ .ref a :: rest)) rest (mp_Q E post (va_A wc H.size) (Value.ref a :: As).toArray) (va_A wc H.size) := va_runV (rest := rest) ⟨hx, hb, hml, hown, hts⟩ (hC H.size) (cwV As.length hts hg rfl rfl rfl hd ⟨by rw [hR]; exact hroom.1, by rw [hR]; exact hroom.2.1⟩) ⟨mp_blind E _ _ _, va_recv hK hPw hq hrecv, fun U hU hW => ⟨rfl, by rw [hU], by rw [hU]; exact hPc, va_K.moved hW.alike hK, ⟨mp_N_warm hW hN.1, mp_S_warm hW (by rw [hU]; exact hS.2.1) (fun q z => va_free (wc := wc) hDw hS hA isC hC1 q z) hN.2⟩, hDc.weaken (fun _ _ _ _ => trivial)⟩⟩ rfl rfl hl.1 rfl (lv_room hcat) hdg ⟨by rw [hR]; exact hroom.2.2.1, by rw [hR]; exact hroom.2.2.2⟩
  intro T1 hT X0
  obtain ⟨v, st₀, t, T', L, h0, X', hL, e1, e2, ⟨⟨v', w', hv, hp, hP1, hD1⟩, hz, hkk⟩, st⟩ := hrun T1 hT X0
  cases hv
  rw [h0] at hz hkk
  have hS' : va_S X.2.2.2.1 X.2.1.1.heap T'.heap (locs ++ L) := ⟨Nat.le_trans hS.1 (by rw [e1]; exact hz), fun q h1 h2 => by rw [e1, hkk q (Nat.lt_of_lt_of_le h1 hS.1) (fun z => h2 (hFc q z))]; exact hS.2.1 q h1 h2, fun q hq => by
      rcases List.mem_append.mp hq with h | h
      · exact hS.2.2 q h
      · exact hFc _ (hL q h)⟩
  obtain ⟨hP2, hD2⟩ := va_joinQ (H1 := T'.heap) hP hD isC isR hC1 hR1 hnd hdis (fun q h1 h2 => by rw [e1]; exact hkk q h1 h2) hFc (by rw [e1]; exact hP1) hD1
  obtain ⟨t2, a1, b1⟩ := kk v w' hp T'.heap (locs ++ L) ls hP2 hD2 hS' hl T' rfl X'
  exact ⟨t2, st t2 a1, b1⟩
theorem mp_pop2l (hF : mp_F E X M) {v : Int64} (hdg : decode M.2.1 pc = .ok (.pop2, 1)) (kk : mp_W E X M.2.2.1 (pc + 1) lv rest ws k n) : mp_W E X M.2.2.1 pc lv (.long v :: rest) ws k n := by
  intro H locs ls hP hD hS hl
  exact lv_pop2_2 hF.1 hF.2.1 hdg rfl (kk H locs ls hP hD hS hl)
end MPT
-- the script
def mp_insB : List Nat → List vw_C → Bool
  | _, [] => true
  | j :: js, q :: r => mp_gK j (.instantiable q.1 q.2.2) && mp_insB js r
  | [], _ :: _ => false
theorem mp_ins_ok : ∀ {js : List Nat} {l : List vw_C}, mp_insB js l = true → ∀ q ∈ l, (Jvm.Cond.instantiable q.1 q.2.2) ∈ mp_UT
  | _, [], _, q, hq => absurd hq List.not_mem_nil
  | [], _ :: _, h, _, _ => absurd h (by simp [mp_insB])
  | j :: js, x :: r, h, q, hq => by
    simp only [mp_insB, Bool.and_eq_true] at h
    rcases List.mem_cons.mp hq with rfl | hq
    · exact mp_gm h.1
    · exact mp_ins_ok h.2 q hq
def mp_Lw (E : mp_E) (X : mp_X) (b L : Nat) (xs : Nat → Int32) : Prop :=
  mp_F E X mp_ML ∧ va_X b L xs X.2.1.1 X.2.1.1.heap ∧ b < X.2.1.1.heap.size ∧ ¬ X.2.2.2.1 b ∧
  ∀ (pc : Nat) (lv : List (Nat × Value)) (ws : va_W) (k n : Nat), k ≤ 600000 → n ≤ 7302250 → decode code pc = .ok (.ireturn, 1) → mp_W E X 4 pc lv [.int 1] ws k n
section MPL
variable {E : mp_E} {X : mp_X} {b L : Nat} {xs : Nat → Int32} {pc : Nat} {lv : List (Nat × Value)} {rest : List Value} {ws : va_W} {k n : Nat}
theorem mp_lsld (hL : mp_Lw E X b L xs) {i : Int32} (h0 : 0 ≤ i.toInt) (h1 : i.toInt < L) (hdg : decode code pc = .ok (.iaload, 1)) (kk : ∀ v : Int32, v = xs i.toNatClampNeg → mp_W E X 4 (pc + 1) lv (.int v :: rest) ws k n) : mp_W E X 4 pc lv (.int i :: .ref b :: rest) ws k n := by
  intro H locs ls hP hD hS hl
  obtain ⟨hF, hX, hb, hA, -⟩ := hL
  exact va_sld hF.1 hF.2.1 hX hb hA hS (vp_in_iff.mpr ⟨h0, h1⟩) hdg (kk _ rfl H locs ls hP hD hS hl)
theorem mp_xs_same {i j v w : Int32} (h1 : v = xs i.toNatClampNeg) (h2 : w = xs j.toNatClampNeg) (h : j.toInt = i.toInt) : v = w := by rw [h1, h2, Int32.toInt_inj.mp h]
theorem mp_lslen (hL : mp_Lw E X b L xs) (h3 : L ≤ 3072) (hdg : decode code pc = .ok (.arraylength, 1)) (kk : ∀ z : Int32, z.toInt = L → mp_W E X 4 (pc + 1) lv (.int z :: rest) ws k n) : mp_W E X 4 pc lv (.ref b :: rest) ws k n := by
  intro H locs ls hP hD hS hl
  obtain ⟨hF, hX, hb, hA, -⟩ := hL
  exact va_slen hF.1 hF.2.1 hX hb hA hS hdg (kk (Int32.ofNat L) (Int32.toInt_ofNat_of_lt (by omega)) H locs ls hP hD hS hl)
end MPL
-- rows of the reference behind the first
theorem mp_c200_congr {f g : Nat → Int32} : ∀ {n : Nat}, (∀ j : Nat, j < n → f j = g j) → mp_c200 f n = mp_c200 g n := by
  intro n
  induction n with
  | zero => intro _; rfl
  | succ n ih =>
    intro h
    show mp_c200 f n + _ = mp_c200 g n + _
    rw [ih (fun j hj => h j (by omega)), h n (by omega)]
theorem mp_k200_congr {f g : Nat → Int32} {n : Int} (h : ∀ j : Nat, (j : Int) < n → f j = g j) : mp_k200 f n = mp_k200 g n := mp_c200_congr (fun j hj => h j (by omega))
def mp_MR (has promise act : Nat → Int32) (r : Nat) : Prop := mp_prmo promise (60 * r) (has (5 * r + 3)).toInt ∧ (has (5 * r + 1)).toInt + mp_k200 (fun j => act (60 * r + j)) (has (5 * r + 4)).toInt ≤ 99
def mp_MI (has promise act : Nat → Int32) : Prop := ∀ r : Nat, r < 4 → mp_MR has promise act r
theorem mp_MR_0 {has promise act : Nat → Int32} (h : mp_MR has promise act 0) : mp_prm promise (has 3).toInt ∧ (has 1).toInt + mp_k200 act (has 4).toInt ≤ 99 := by
  refine ⟨fun j hj => ?_, ?_⟩
  · have := h.1 j hj
    rw [show 60 * 0 + 6 * j + 5 = 6 * j + 5 by omega] at this
    exact this
  · have e : mp_k200 (fun j => act (60 * 0 + j)) (has 4).toInt = mp_k200 act (has 4).toInt := mp_k200_congr (fun j _ => congrArg act (by omega))
    have h2 : (has 1).toInt + mp_k200 (fun j => act (60 * 0 + j)) (has 4).toInt ≤ 99 := h.2
    rw [e] at h2
    exact h2
theorem mp_MR_of0 {has promise act : Nat → Int32} (h1 : mp_prm promise (has 3).toInt) (h2 : (has 1).toInt + mp_k200 act (has 4).toInt ≤ 99) : mp_MR has promise act 0 := by
  refine ⟨fun j hj => ?_, ?_⟩
  · rw [show 60 * 0 + 6 * j + 5 = 6 * j + 5 by omega]
    exact h1 j hj
  · have e : mp_k200 (fun j => act (60 * 0 + j)) (has 4).toInt = mp_k200 act (has 4).toInt := mp_k200_congr (fun j _ => congrArg act (by omega))
    show (has 1).toInt + mp_k200 (fun j => act (60 * 0 + j)) (has 4).toInt ≤ 99
    rw [e]
    exact h2
theorem mp_MR_eq {has promise act has' promise' act' : Nat → Int32} {r r' : Nat} (h : mp_MR has promise act r) (hb3 : (has (5 * r + 3)).toInt ≤ 10) (hb4 : (has (5 * r + 4)).toInt ≤ 60) (e1 : has' (5 * r' + 1) = has (5 * r + 1)) (e3 : has' (5 * r' + 3) = has (5 * r + 3)) (e4 : has' (5 * r' + 4) = has (5 * r + 4)) (ep : ∀ j : Nat, j < 60 → promise' (60 * r' + j) = promise (60 * r + j)) (ea : ∀ j : Nat, j < 60 → act' (60 * r' + j) = act (60 * r + j)) : mp_MR has' promise' act' r' := by
  refine ⟨fun j hj => ?_, ?_⟩
  · rw [e3] at hj
    have := h.1 j hj
    rw [show 60 * r + 6 * j + 5 = 60 * r + (6 * j + 5) by omega] at this
    rw [show 60 * r' + 6 * j + 5 = 60 * r' + (6 * j + 5) by omega, ep _ (by omega)]
    exact this
  · rw [e1, e4, mp_k200_congr (f := fun j => act' (60 * r' + j)) (g := fun j => act (60 * r + j)) (fun j hj => ea j (by omega))]
    exact h.2
theorem mp_MI_keep {has promise act has' promise' act' : Nat → Int32} (h : mp_MI has promise act) (r3 : mp_res has 25 5 3 0 10) (r4 : mp_res has 25 5 4 0 60) (k1 : mp_keept has' has 5) (k2 : mp_keept promise' promise 60) (k3 : mp_keept act' act 60) (h1 : mp_prm promise' (has' 3).toInt) (h2 : (has' 1).toInt + mp_k200 act' (has' 4).toInt ≤ 99) : mp_MI has' promise' act' := by
  intro r hr
  by_cases e : r = 0
  · subst e; exact mp_MR_of0 h1 h2
  · have b3 := r3 (5 * r + 3) (by omega) (by omega)
    have b4 := r4 (5 * r + 4) (by omega) (by omega)
    exact mp_MR_eq (h r hr) b3.2 b4.2 (k1 _ (by omega)) (k1 _ (by omega)) (k1 _ (by omega)) (fun j _ => k2 _ (by omega)) (fun j _ => k3 _ (by omega))
theorem mp_MI_bad {has promise act has' promise' : Nat → Int32} (h : mp_MI has promise act) (r3 : mp_res has 25 5 3 0 10) (r4 : mp_res has 25 5 4 0 60) (k1 : mp_keep has' has 20) (k2 : mp_keep promise' promise 240) : mp_MI has' promise' act := by
  intro r hr
  have b3 := r3 (5 * r + 3) (by omega) (by omega)
  have b4 := r4 (5 * r + 4) (by omega) (by omega)
  exact mp_MR_eq (h r hr) b3.2 b4.2 (k1 _ (by omega)) (k1 _ (by omega)) (k1 _ (by omega)) (fun j _ => k2 _ (by omega)) (fun j _ => rfl)
theorem mp_cpr_in {f : Nat → Int32} {sa sb k j : Nat} (h : sb ≤ j ∧ j < sb + k) : mp_cpr f sa sb k j = f (sa + (j - sb)) := if_pos h
theorem mp_cpr_out {f : Nat → Int32} {sa sb k j : Nat} (h : ¬ (sb ≤ j ∧ j < sb + k)) : mp_cpr f sa sb k j = f j := if_neg h
theorem mp_MI_cp {has promise act has' promise' act' : Nat → Int32} {s1 s2 s3 t1 t2 t3 : Nat} (a b : Nat) (h : mp_MI has promise act) (r3 : mp_res has 25 5 3 0 10) (r4 : mp_res has 25 5 4 0 60) (e1 : has' = mp_cpr has s1 t1 5) (e2 : promise' = mp_cpr promise s2 t2 60) (e3 : act' = mp_cpr act s3 t3 60) (ha : a < 4) (hb : b < 4) (hs : s1 = 5 * a ∧ s2 = 60 * a ∧ s3 = 60 * a ∧ t1 = 5 * b ∧ t2 = 60 * b ∧ t3 = 60 * b) : mp_MI has' promise' act' := by
  obtain ⟨rfl, rfl, rfl, rfl, rfl, rfl⟩ := hs
  subst e1 e2 e3
  intro r hr
  by_cases e : r = b
  · subst e
    have b3 := r3 (5 * a + 3) (by omega) (by omega)
    have b4 := r4 (5 * a + 4) (by omega) (by omega)
    refine mp_MR_eq (h a ha) b3.2 b4.2 ?_ ?_ ?_ (fun j hj => ?_) (fun j hj => ?_)
    · rw [mp_cpr_in (by omega)]; congr 1; omega
    · rw [mp_cpr_in (by omega)]; congr 1; omega
    · rw [mp_cpr_in (by omega)]; congr 1; omega
    · rw [mp_cpr_in (by omega)]; congr 1; omega
    · rw [mp_cpr_in (by omega)]; congr 1; omega
  · have b3 := r3 (5 * r + 3) (by omega) (by omega)
    have b4 := r4 (5 * r + 4) (by omega) (by omega)
    exact mp_MR_eq (h r hr) b3.2 b4.2 (mp_cpr_out (by omega)) (mp_cpr_out (by omega)) (mp_cpr_out (by omega)) (fun j hj => mp_cpr_out (by omega)) (fun j hj => mp_cpr_out (by omega))
theorem mp_MI_isl {has promise act has' promise' act' G Q : Nat → Int32} (h : mp_MI has promise act) (r3 : mp_res has 25 5 3 0 10) (r4 : mp_res has 25 5 4 0 60) (q1 : mp_res has' 25 5 1 0 99) (q3 : mp_res has' 25 5 3 0 10) (x : mp_keep G has 20 ∧ has' = mp_cpr G 20 0 5 ∧ (G 24).toInt = 0 ∧ mp_keep Q promise 240 ∧ promise' = mp_cpr Q 240 0 60 ∧ mp_prmo Q 240 (G 23).toInt ∧ act' = mp_cpr act 240 0 60) : mp_MI has' promise' act' := by
  obtain ⟨k1, e1, g4, k2, e2, p, e3⟩ := x
  intro r hr
  by_cases e : r = 0
  · subst e
    have c3 : has' 3 = G 23 := by rw [e1, mp_cpr_in (by omega)]
    have c4 : has' 4 = G 24 := by rw [e1, mp_cpr_in (by omega)]
    have b1 := q1 1 (by omega) (by omega)
    have b3 := q3 3 (by omega) (by omega)
    refine mp_MR_of0 ?_ ?_
    · rw [c3]
      intro j hj
      have := p j hj
      rw [c3] at b3
      rw [e2, mp_cpr_in (by omega), show 240 + (6 * j + 5 - 0) = 240 + 6 * j + 5 by omega]
      exact this
    · rw [c4, g4, mp_k200_0]
      omega
  · have b3 := r3 (5 * r + 3) (by omega) (by omega)
    have b4 := r4 (5 * r + 4) (by omega) (by omega)
    refine mp_MR_eq (h r hr) b3.2 b4.2 ?_ ?_ ?_ (fun j hj => ?_) (fun j hj => ?_)
    · rw [e1, mp_cpr_out (by omega)]; exact k1 _ (by omega)
    · rw [e1, mp_cpr_out (by omega)]; exact k1 _ (by omega)
    · rw [e1, mp_cpr_out (by omega)]; exact k1 _ (by omega)
    · rw [e2, mp_cpr_out (by omega)]; exact k2 _ (by omega)
    · rw [e3, mp_cpr_out (by omega)]
theorem mp_assoc1 {E : mp_E} {X : mp_X} {nL pc : Nat} {lv : List (Nat × Value)} {st : List Value} {ws T B : va_W} {k n : Nat} (h : mp_W E X nL pc lv st (ws ++ (T ++ B)) k n) : mp_W E X nL pc lv st ((ws ++ T) ++ B) k n := by
  rw [List.append_assoc]; exact h
theorem mp_permA {E : mp_E} {X : mp_X} {nL pc : Nat} {lv : List (Nat × Value)} {st : List Value} {ws ws' T B : va_W} {k n : Nat} (is : List Nat) (hs : is.map (fun i => ws[i]?) = ws'.map some) (hnd : va_nd is = true) (h : mp_W E X nL pc lv st ((ws' ++ T) ++ B) k n) : mp_W E X nL pc lv st (ws ++ (T ++ B)) k n := by
  rw [List.append_assoc] at h; exact mp_permT is hs hnd h
theorem mp_rot {E : mp_E} {X : mp_X} {nL pc : Nat} {lv : List (Nat × Value)} {st : List Value} {a b c d : va_W} {k n : Nat} (h : mp_W E X nL pc lv st (a ++ (c ++ (b ++ d))) k n) : mp_W E X nL pc lv st (a ++ (b ++ (c ++ d))) k n := by
  intro H locs ls hP hD hS hl
  refine h H locs ls ?_ ?_ hS hl
  · have h1 : va_P E.2.1 vwCl ((a ++ b) ++ (c ++ d)) H := by rw [List.append_assoc]; exact hP
    have h2 : va_P E.2.1 vwCl (((a ++ c) ++ d) ++ b) H := by
      have := h1.swap
      simp only [List.append_assoc] at this ⊢
      exact this
    have h3 := h2.swap
    simp only [List.append_assoc] at h3
    exact h3
  · have h1 : va_D X.2.2.2.1 ((a ++ b) ++ (c ++ d)) := by rw [List.append_assoc]; exact hD
    have h2 : va_D X.2.2.2.1 (((a ++ c) ++ d) ++ b) := by
      have := h1.swap
      simp only [List.append_assoc] at this ⊢
      exact this
    have h3 := h2.swap
    simp only [List.append_assoc] at h3
    exact h3
section MPI
variable {E : mp_E} {X : mp_X} {nL pc : Nat} {lv : List (Nat × Value)} {st : List Value} {ws t0 t1 t2 B : va_W} {k n : Nat}
theorem mp_im0 (h : mp_W E X nL pc lv st ((ws ++ t0) ++ ((t1 ++ t2) ++ B)) k n) : mp_W E X nL pc lv st ((ws ++ (t0 ++ (t1 ++ t2))) ++ B) k n := by
  simp only [List.append_assoc] at h ⊢
  exact h
theorem mp_mi0 (h : mp_W E X nL pc lv st ((ws ++ (t0 ++ (t1 ++ t2))) ++ B) k n) : mp_W E X nL pc lv st ((ws ++ t0) ++ ((t1 ++ t2) ++ B)) k n := by
  simp only [List.append_assoc] at h ⊢
  exact h
theorem mp_im1 (h : mp_W E X nL pc lv st ((ws ++ t1) ++ ((t0 ++ t2) ++ B)) k n) : mp_W E X nL pc lv st ((ws ++ (t0 ++ (t1 ++ t2))) ++ B) k n := by
  simp only [List.append_assoc] at h ⊢
  exact mp_rot h
theorem mp_mi1 (h : mp_W E X nL pc lv st ((ws ++ (t0 ++ (t1 ++ t2))) ++ B) k n) : mp_W E X nL pc lv st ((ws ++ t1) ++ ((t0 ++ t2) ++ B)) k n := by
  simp only [List.append_assoc] at h ⊢
  exact mp_rot h
theorem mp_im2 (h : mp_W E X nL pc lv st ((ws ++ t2) ++ ((t0 ++ t1) ++ B)) k n) : mp_W E X nL pc lv st ((ws ++ (t0 ++ (t1 ++ t2))) ++ B) k n := by
  have h1 : mp_W E X nL pc lv st (ws ++ (t2 ++ (t0 ++ (t1 ++ B)))) k n := by simp only [List.append_assoc] at h ⊢; exact h
  have h2 : mp_W E X nL pc lv st (ws ++ (t0 ++ (t2 ++ (t1 ++ B)))) k n := mp_rot h1
  have h3 : mp_W E X nL pc lv st ((ws ++ t0) ++ (t2 ++ (t1 ++ B))) k n := by rw [List.append_assoc]; exact h2
  have h4 := mp_rot h3
  simp only [List.append_assoc] at h4 ⊢
  exact h4
theorem mp_mi2 (h : mp_W E X nL pc lv st ((ws ++ (t0 ++ (t1 ++ t2))) ++ B) k n) : mp_W E X nL pc lv st ((ws ++ t2) ++ ((t0 ++ t1) ++ B)) k n := by
  have h1 : mp_W E X nL pc lv st ((ws ++ t0) ++ (t1 ++ (t2 ++ B))) k n := by simp only [List.append_assoc] at h ⊢; exact h
  have h2 := mp_rot h1
  have h3 : mp_W E X nL pc lv st (ws ++ (t0 ++ (t2 ++ (t1 ++ B)))) k n := by simp only [List.append_assoc] at h2 ⊢; exact h2
  have h4 := mp_rot h3
  simp only [List.append_assoc] at h4 ⊢
  exact h4
end MPI
-- slots: what row, write, paste answer, by widths and lengths
def mp_rowR (r s w n : Int32) (sw sl sw2 sl2 : Nat → Int32) : Prop := (r = -2 ∧ (s.toInt < 0 ∨ 3 < s.toInt ∨ w.toInt < 0 ∨ 3 < w.toInt ∨ 60 < n.toInt) ∧ sw2 = sw ∧ sl2 = sl) ∨ (r = -3 ∧ (0 ≤ s.toInt ∧ s.toInt ≤ 3 ∧ 0 ≤ w.toInt ∧ w.toInt ≤ 3 ∧ n.toInt < 0) ∧ sw2 = sw ∧ sl2 = sl) ∨ (r = 0 ∧ (0 ≤ s.toInt ∧ s.toInt ≤ 3 ∧ 0 ≤ w.toInt ∧ w.toInt ≤ 3 ∧ 0 ≤ n.toInt ∧ n.toInt ≤ 60) ∧ sw2 = upd sw s.toNatClampNeg w ∧ sl2 = upd sl s.toNatClampNeg n)
def mp_wrtR (r s i : Int32) (t l : Nat → Int32) : Prop := (r = -2 ∧ (s.toInt < 0 ∨ 3 < s.toInt)) ∨ (r = -6 ∧ (0 ≤ s.toInt ∧ s.toInt ≤ 3 ∧ (t s.toInt.toNat).toInt = -1)) ∨ (r = -7 ∧ (0 ≤ s.toInt ∧ s.toInt ≤ 3 ∧ (t s.toInt.toNat).toInt ≠ -1 ∧ (i.toInt < 0 ∨ (l s.toInt.toNat).toInt ≤ i.toInt))) ∨ (r = 0 ∧ (0 ≤ s.toInt ∧ s.toInt ≤ 3 ∧ (t s.toInt.toNat).toInt ≠ -1 ∧ 0 ≤ i.toInt ∧ i.toInt < (l s.toInt.toNat).toInt))
def mp_pstR (r s i to k n : Int32) (t l w : Nat → Int32) : Prop := (r = -2 ∧ (s.toInt < 0 ∨ 3 < s.toInt ∨ to.toInt < 0 ∨ 3 < to.toInt)) ∨ (r = -6 ∧ (0 ≤ s.toInt ∧ s.toInt ≤ 3 ∧ 0 ≤ to.toInt ∧ to.toInt ≤ 3 ∧ ((t s.toInt.toNat).toInt = -1 ∨ (t to.toInt.toNat).toInt = -1))) ∨ (r = -8 ∧ (0 ≤ s.toInt ∧ s.toInt ≤ 3 ∧ 0 ≤ to.toInt ∧ to.toInt ≤ 3 ∧ (t s.toInt.toNat).toInt ≠ -1 ∧ (t to.toInt.toNat).toInt ≠ -1 ∧ (w s.toInt.toNat).toInt ≠ (w to.toInt.toNat).toInt)) ∨ (r = -7 ∧ (0 ≤ s.toInt ∧ s.toInt ≤ 3 ∧ 0 ≤ to.toInt ∧ to.toInt ≤ 3 ∧ (t s.toInt.toNat).toInt ≠ -1 ∧ (t to.toInt.toNat).toInt ≠ -1 ∧ (w s.toInt.toNat).toInt = (w to.toInt.toNat).toInt ∧ (i.toInt < 0 ∨ k.toInt < 0 ∨ n.toInt < 0 ∨ (l s.toInt.toNat).toInt < i.toInt + n.toInt ∨ (l to.toInt.toNat).toInt < k.toInt + n.toInt))) ∨ (r = 0 ∧ (0 ≤ s.toInt ∧ s.toInt ≤ 3 ∧ 0 ≤ to.toInt ∧ to.toInt ≤ 3 ∧ (t s.toInt.toNat).toInt ≠ -1 ∧ (t to.toInt.toNat).toInt ≠ -1 ∧ (w s.toInt.toNat).toInt = (w to.toInt.toNat).toInt ∧ 0 ≤ i.toInt ∧ 0 ≤ k.toInt ∧ 0 ≤ n.toInt ∧ i.toInt + n.toInt ≤ (l s.toInt.toNat).toInt ∧ k.toInt + n.toInt ≤ (l to.toInt.toNat).toInt))
/-- the class's slots (widths, lengths; no length: -1) beside the reference's (width, many; no width: -1) -/
def mp_SL (sw sl mw mm : Nat → Int32) : Prop := ∀ j : Nat, j < 4 → ((mw j).toInt = -1 ∧ (sl j).toInt = -1) ∨ ((mw j).toInt ≠ -1 ∧ (sl j).toInt ≠ -1 ∧ (mm j).toInt = (sl j).toInt ∧ (sw j).toInt = (mw j).toInt)
theorem mp_SL_upd {sw sl mw mm : Nat → Int32} {s w n : Int32} (h : mp_SL sw sl mw mm) (hw : 0 ≤ w.toInt) (hn : 0 ≤ n.toInt) : mp_SL (upd sw s.toNatClampNeg w) (upd sl s.toNatClampNeg n) (upd mw s.toNatClampNeg w) (upd mm s.toNatClampNeg n) := by
  intro j hj
  by_cases e : j = s.toNatClampNeg
  · simp only [upd, if_pos e]
    exact Or.inr ⟨by first | trivial | omega, by first | trivial | omega, by first | trivial | omega, by first | trivial | omega⟩
  · simp only [upd, if_neg e]
    exact h j hj
theorem mp_row_eq {r r' s w n : Int32} {sw sl sw2 sl2 mw mm mw2 mm2 : Nat → Int32} (h : mp_SL sw sl mw mm) (h1 : mp_rowR r s w n sw sl sw2 sl2) (h2 : mp_rowR r' s w n mw mm mw2 mm2) : r.toInt = r'.toInt ∧ mp_SL sw2 sl2 mw2 mm2 := by
  rcases h1 with ⟨rfl, c1, rfl, rfl⟩ | ⟨rfl, c1, rfl, rfl⟩ | ⟨rfl, c1, rfl, rfl⟩ <;> rcases h2 with ⟨rfl, c2, rfl, rfl⟩ | ⟨rfl, c2, rfl, rfl⟩ | ⟨rfl, c2, rfl, rfl⟩ <;> first | (exfalso; omega) | exact ⟨rfl, h⟩ | exact ⟨rfl, mp_SL_upd h (by omega) (by omega)⟩
theorem mp_wrt_eq {r r' s i : Int32} {sw sl mw mm : Nat → Int32} (h : mp_SL sw sl mw mm) (h1 : mp_wrtR r s i sl sl) (h2 : mp_wrtR r' s i mw mm) : r.toInt = r'.toInt := by
  by_cases hs : 0 ≤ s.toInt ∧ s.toInt ≤ 3
  · have hj := h s.toInt.toNat (by omega)
    rcases h1 with ⟨rfl, c1⟩ | ⟨rfl, c1⟩ | ⟨rfl, c1⟩ | ⟨rfl, c1⟩ <;> rcases h2 with ⟨rfl, c2⟩ | ⟨rfl, c2⟩ | ⟨rfl, c2⟩ | ⟨rfl, c2⟩ <;> first | rfl | (exfalso; omega)
  · rcases h1 with ⟨rfl, c1⟩ | ⟨rfl, c1⟩ | ⟨rfl, c1⟩ | ⟨rfl, c1⟩ <;> rcases h2 with ⟨rfl, c2⟩ | ⟨rfl, c2⟩ | ⟨rfl, c2⟩ | ⟨rfl, c2⟩ <;> first | rfl | (exfalso; omega)
theorem mp_pst_eq {r r' s i to k n : Int32} {sw sl mw mm : Nat → Int32} (h : mp_SL sw sl mw mm) (h1 : mp_pstR r s i to k n sl sl sw) (h2 : mp_pstR r' s i to k n mw mm mw) : r.toInt = r'.toInt := by
  by_cases hs : (0 ≤ s.toInt ∧ s.toInt ≤ 3) ∧ 0 ≤ to.toInt ∧ to.toInt ≤ 3
  · have hj := h s.toInt.toNat (by omega)
    have hi := h to.toInt.toNat (by omega)
    rcases h1 with ⟨rfl, c1⟩ | ⟨rfl, c1⟩ | ⟨rfl, c1⟩ | ⟨rfl, c1⟩ | ⟨rfl, c1⟩ <;> rcases h2 with ⟨rfl, c2⟩ | ⟨rfl, c2⟩ | ⟨rfl, c2⟩ | ⟨rfl, c2⟩ | ⟨rfl, c2⟩ <;> first | rfl | (exfalso; omega)
  · rcases h1 with ⟨rfl, c1⟩ | ⟨rfl, c1⟩ | ⟨rfl, c1⟩ | ⟨rfl, c1⟩ | ⟨rfl, c1⟩ <;> rcases h2 with ⟨rfl, c2⟩ | ⟨rfl, c2⟩ | ⟨rfl, c2⟩ | ⟨rfl, c2⟩ | ⟨rfl, c2⟩ <;> first | rfl | (exfalso; omega)
-- images: which are kept
def mp_imgR (r x : Int32) (kp kp2 : Nat → Bool) : Prop := (r = -2 ∧ (x.toInt < 0 ∨ 2 < x.toInt) ∧ kp2 = kp) ∨ (r = 0 ∧ (0 ≤ x.toInt ∧ x.toInt ≤ 2) ∧ ∀ j : Nat, j < 3 → kp2 j = if (j : Int) = x.toInt then true else kp j)
def mp_bckR (r x : Int32) (kp : Nat → Bool) : Prop := (r = -2 ∧ (x.toInt < 0 ∨ 2 < x.toInt)) ∨ (r = -6 ∧ (0 ≤ x.toInt ∧ x.toInt ≤ 2) ∧ kp x.toInt.toNat = false) ∨ (r = 0 ∧ (0 ≤ x.toInt ∧ x.toInt ≤ 2) ∧ kp x.toInt.toNat = true)
def mp_KP (kp kq : Nat → Bool) : Prop := ∀ j : Nat, j < 3 → kp j = kq j
theorem mp_kpp {im im2 : Nat → Option Nat} {x : Int32} {k : Nat} (hk : x.toInt = (k : Int)) (h0 : (im2 k).isSome = true) (h : ∀ j : Nat, j < 3 → j ≠ k → im2 j = im j) : ∀ j : Nat, j < 3 → (fun j => (im2 j).isSome) j = if (j : Int) = x.toInt then true else (fun j => (im j).isSome) j := by
  intro j hj
  by_cases e : (j : Int) = x.toInt
  · have : j = k := by omega
    rw [if_pos e, this]
    exact h0
  · rw [if_neg e]
    show (im2 j).isSome = (im j).isSome
    rw [h j hj (by omega)]
theorem mp_kpm {f g : Nat → Int32} {x : Int32} (h : ∀ j : Nat, j < 3 → (g j).toInt = if (j : Int) = x.toInt then 1 else (f j).toInt) : ∀ j : Nat, j < 3 → (fun j => decide ((g j).toInt ≠ 0)) j = if (j : Int) = x.toInt then true else (fun j => decide ((f j).toInt ≠ 0)) j := by
  intro j hj
  have h1 := h j hj
  by_cases e : (j : Int) = x.toInt
  · rw [if_pos e] at h1 ⊢
    exact decide_eq_true (by omega)
  · rw [if_neg e] at h1 ⊢
    show decide ((g j).toInt ≠ 0) = decide ((f j).toInt ≠ 0)
    rw [h1]
theorem mp_img_eq {r r' x : Int32} {kp kp2 kq kq2 : Nat → Bool} (h : mp_KP kp kq) (h1 : mp_imgR r x kp kp2) (h2 : mp_imgR r' x kq kq2) : r.toInt = r'.toInt ∧ mp_KP kp2 kq2 := by
  rcases h1 with ⟨rfl, c1, rfl⟩ | ⟨rfl, c1, d1⟩ <;> rcases h2 with ⟨rfl, c2, rfl⟩ | ⟨rfl, c2, d2⟩
  · exact ⟨rfl, h⟩
  · exfalso; omega
  · exfalso; omega
  · refine ⟨rfl, fun j hj => ?_⟩
    rw [d1 j hj, d2 j hj, h j hj]
theorem mp_bck_eq {r r' x : Int32} {kp kq : Nat → Bool} (h : mp_KP kp kq) (h1 : mp_bckR r x kp) (h2 : mp_bckR r' x kq) : r.toInt = r'.toInt := by
  rcases h1 with ⟨rfl, c1⟩ | ⟨rfl, c1, d1⟩ | ⟨rfl, c1, d1⟩ <;> rcases h2 with ⟨rfl, c2⟩ | ⟨rfl, c2, d2⟩ | ⟨rfl, c2, d2⟩
  · rfl
  · exfalso; omega
  · exfalso; omega
  · exfalso; omega
  · rfl
  · rw [h _ (by omega), d2] at d1; cases d1
  · exfalso; omega
  · rw [h _ (by omega), d2] at d1; cases d1
  · rfl
-- the tape
def mp_fdR (tp tp2 : Nat → Int32) (l : Int) (a b c d e : Int32) : Prop := (1600 < l + 20 ∧ tp2 = tp) ∨ (l + 20 ≤ 1600 ∧ tp2 = mp_b20 tp l.toNat a b c d e)
theorem mp_fd_eq {tp tp2 tp3 : Nat → Int32} {l : Int} {a b c d e : Int32} (h : mp_fdR tp tp2 l a b c d e) (h' : mp_fdR tp tp3 l a b c d e) : tp2 = tp3 := by
  rcases h with ⟨c1, h⟩ | ⟨c1, h⟩ <;> rcases h' with ⟨c2, h'⟩ | ⟨c2, h'⟩
  · rw [h, h']
  · exfalso; omega
  · exfalso; omega
  · rw [h, h']
-- what is told, in the reference's rows
section MPN
variable {t td : mp_TD} {it : Nat → mp_TD} {kp : Nat → Bool} {A B : mp_RA}
theorem mp_islD_bd {f : Nat → Int32} {n : Int} (h : mp_islD f n t) : mp_bd t := by
  obtain ⟨fu, R, d0, z, e, a1, a2, a3, a4⟩ := h
  have g0 : mp_GW (0, 0, 0, 0, 0) d0 := ⟨by decide, by decide, by decide, by decide, fun p hp => absurd hp (by show ¬ (p : Int) < 0; omega), fun p hp => absurd hp (by show ¬ (p : Int) < 0; omega)⟩
  obtain ⟨h1, h2, h3, h4, -, -⟩ := mp_gT_W g0 e a1
  rw [a2] at h3 h4
  exact ⟨h3.2, h4.2, by omega⟩
theorem mp_r0_keep (h : mp_K7 B A) (hR : mp_RT td (mp_r0 A)) (w : mp_WF td) : mp_RT td (mp_r0 B) := by
  have g := mp_rA_keep (r := 0) h (by decide) (by rw [mp_rA_0]; exact mp_bd_of hR w)
  rw [mp_rA_0, mp_rA_0] at g
  exact mp_RT_tr hR g
def mp_TI (kp : Nat → Bool) (it : Nat → mp_TD) (A : mp_RA) : Prop := ∀ j : Nat, j < 3 → kp j = true → mp_RT (it j) (mp_rA (1 + j) A)
theorem mp_TI_row0 (h : mp_TI kp it A) (w : ∀ j : Nat, mp_WF (it j)) (l : mp_L7 B A) : mp_TI kp it B := fun j hj hk => mp_RT_tr (h j hj hk) (mp_rA_keept l (by omega) (mp_bd_of (h j hj hk) (w j)))
theorem mp_TI_keep (h : mp_TI kp it A) (w : ∀ j : Nat, mp_WF (it j)) (l : mp_K7 B A) : mp_TI kp it B := fun j hj hk => mp_RT_tr (h j hj hk) (mp_rA_keep l (by omega) (mp_bd_of (h j hj hk) (w j)))
theorem mp_TI_cp0 {a : Nat} (h : mp_TI kp it A) (w : ∀ j : Nat, mp_WF (it j)) (l : mp_C7 a 0 A B) : mp_TI kp it B := fun j hj hk => mp_RT_tr (h j hj hk) (mp_rA_ne l (by omega) (mp_bd_of (h j hj hk) (w j)))
theorem mp_TI_img {k : Int} (h : mp_TI kp it A) (w : ∀ j : Nat, mp_WF (it j)) (hR : mp_RT td (mp_r0 A)) (wt : mp_WF td) (l : mp_C7 0 (1 + k.toNat) A B) (hk : 0 ≤ k ∧ k ≤ 2) : mp_TI (mp_kpF kp k) (mp_itF it td k) B := by
  intro j hj hq
  by_cases e : j = k.toNat
  · rw [mp_itF_at hk e, e]
    have g := mp_rA_cp l (by rw [mp_rA_0]; exact mp_bd_of hR wt)
    rw [mp_rA_0] at g
    exact mp_RT_tr hR g
  · rw [mp_itF_ne e]
    rw [mp_kpF_ne e] at hq
    exact mp_RT_tr (h j hj hq) (mp_rA_ne l (by omega) (mp_bd_of (h j hj hq) (w j)))
theorem mp_r0_img {b : Nat} (hR : mp_RT td (mp_r0 A)) (wt : mp_WF td) (l : mp_C7 0 b A B) (hb : 0 ≠ b) : mp_RT td (mp_r0 B) := by
  have g := mp_rA_ne (r := 0) l hb (by rw [mp_rA_0]; exact mp_bd_of hR wt)
  rw [mp_rA_0, mp_rA_0] at g
  exact mp_RT_tr hR g
theorem mp_r0_bck {k : Int} (h : mp_TI kp it A) (w : ∀ j : Nat, mp_WF (it j)) (hk : 0 ≤ k ∧ k ≤ 2) (hkk : kp k.toNat = true) (l : mp_C7 (1 + k.toNat) 0 A B) : mp_RT (mp_bckF td it kp k) (mp_r0 B) := by
  rw [mp_bckF_y hk hkk]
  have g := mp_rA_cp l (mp_bd_of (h k.toNat (by omega) hkk) (w _))
  rw [mp_rA_0] at g
  exact mp_RT_tr (h k.toNat (by omega) hkk) g
theorem mp_r0_isl {f : Nat → Int32} {n r ft fp : Int} (hR : mp_islR f n r ft fp) (h0 : ft = 0) (h : ∃ B9 : mp_RA, mp_K7 B9 A ∧ mp_C7 4 0 B9 B ∧ mp_islD f n (mp_rA 4 B9)) (hT : mp_TI kp it A) (w : ∀ j : Nat, mp_WF (it j)) : ∃ td2 : mp_TD, mp_islX f n td r ft fp td2 ∧ mp_RT td2 (mp_r0 B) ∧ mp_TI kp it B := by
  obtain ⟨B9, k7, c7, d⟩ := h
  have g := mp_rA_cp c7 (mp_islD_bd d)
  rw [mp_rA_0] at g
  obtain ⟨td2, x, y⟩ := mp_isl_o (t := td) hR h0 d g
  exact ⟨td2, x, y, mp_TI_cp0 (mp_TI_keep hT w k7) w c7⟩
theorem mp_kpF_m {f g : Nat → Int32} {x : Int32} (h : ∀ j : Nat, j < 3 → (g j).toInt = if (j : Int) = x.toInt then 1 else (f j).toInt) (hk : ∀ j : Nat, j < 3 → kp j = decide ((f j).toInt ≠ 0)) (q : 0 ≤ x.toInt ∧ x.toInt ≤ 2) : ∀ j : Nat, j < 3 → mp_kpF kp x.toInt j = decide ((g j).toInt ≠ 0) := by
  intro j hj
  rw [h j hj]
  by_cases e : (j : Int) = x.toInt
  · rw [if_pos e, mp_kpF_at q (by omega)]; rfl
  · rw [if_neg e, mp_kpF_ne (by omega)]; exact hk j hj
theorem mp_kpI0 {im im2 : Nat → Option Nat} {K : Int} (hK : K = 0) (h : ∀ j : Nat, j < 3 → kp j = (im j).isSome) (s : (im2 0).isSome = true) (oa : im2 1 = im 1) (ob : im2 2 = im 2) : ∀ j : Nat, j < 3 → mp_kpF kp K j = (im2 j).isSome := by
  intro j hj
  rcases (show j = 0 ∨ j = 1 ∨ j = 2 by omega) with q | q | q
  · rw [q, mp_kpF_at (by omega) (by omega), s]
  · rw [q, mp_kpF_ne (by omega), oa]; exact h 1 (by decide)
  · rw [q, mp_kpF_ne (by omega), ob]; exact h 2 (by decide)
theorem mp_kpI1 {im im2 : Nat → Option Nat} {K : Int} (hK : K = 1) (h : ∀ j : Nat, j < 3 → kp j = (im j).isSome) (s : (im2 1).isSome = true) (oa : im2 0 = im 0) (ob : im2 2 = im 2) : ∀ j : Nat, j < 3 → mp_kpF kp K j = (im2 j).isSome := by
  intro j hj
  rcases (show j = 1 ∨ j = 0 ∨ j = 2 by omega) with q | q | q
  · rw [q, mp_kpF_at (by omega) (by omega), s]
  · rw [q, mp_kpF_ne (by omega), oa]; exact h 0 (by decide)
  · rw [q, mp_kpF_ne (by omega), ob]; exact h 2 (by decide)
theorem mp_kpI2 {im im2 : Nat → Option Nat} {K : Int} (hK : K = 2) (h : ∀ j : Nat, j < 3 → kp j = (im j).isSome) (s : (im2 2).isSome = true) (oa : im2 0 = im 0) (ob : im2 1 = im 1) : ∀ j : Nat, j < 3 → mp_kpF kp K j = (im2 j).isSome := by
  intro j hj
  rcases (show j = 2 ∨ j = 0 ∨ j = 1 by omega) with q | q | q
  · rw [q, mp_kpF_at (by omega) (by omega), s]
  · rw [q, mp_kpF_ne (by omega), oa]; exact h 0 (by decide)
  · rw [q, mp_kpF_ne (by omega), ob]; exact h 1 (by decide)
end MPN
set_option maxRecDepth 100000 in
def mp_T1 (E : mp_E) (o : Option Nat) (td : mp_TD) (tt : va_W) : Prop := ∀ C : Option Nat → mp_TD → va_W → Prop, (∀ td : mp_TD, C none td []) → (∀ (ta : Nat) (td : mp_TD), ∀ t : Nat → Nat, ∀ vi0 : Int32, ∀ vi1 : Int32, ∀ vi2 : Int32, ∀ vi3 : Int32, ∀ vi4 : Int32, ∀ vi5 : Int32, ∀ vf6 : Nat → Int32, ∀ vf7 : Nat → Int64, ∀ vf8 : Nat → Int32, ∀ vf9 : Nat → Int32, ∀ vf10 : Nat → Int32, ∀ vf11 : Nat → Int32, ∀ vf12 : Nat → Int32, ∀ vf13 : Nat → Int32, ∀ vf14 : Nat → Int32, ∀ vf15 : Nat → Int32, ∀ vf16 : Nat → Int32, ∀ vf17 : Nat → Int32, 0 ≤ vi1.toInt → vi1.toInt ≤ 6 → 0 ≤ vi2.toInt → vi2.toInt ≤ 99 → 0 ≤ vi3.toInt → vi3.toInt ≤ 6 → 0 ≤ vi4.toInt → vi4.toInt ≤ 10 → 0 ≤ vi5.toInt → vi5.toInt ≤ 60 → mp_all vf6 36 0 20 → mp_all vf8 6 0 5 → mp_all vf11 10 0 5 → mp_all vf12 10 0 5 → mp_all vf14 10 0 99 → mp_all vf15 10 0 1 → mp_all vf16 10 (-1) 9 → mp_acts vf17 → vi2.toInt + mp_k200 vf17 vi5.toInt ≤ 99 → mp_RT td (mp_tC (vi1.toInt, vi2.toInt, vi3.toInt, vi4.toInt, vi0.toInt) vi5.toInt (vf6, vf7, vf8, vf9, vf10, vf11, vf12, vf13, vf14, vf15, vf16, vf17)) → C (some ta) td [(ta, .inr (7, [.int vi0, .int vi1, .int vi2, .int vi3, .int vi4, .int vi5, .ref (t 1), .ref (t 2), .ref (t 3), .ref (t 4), .ref (t 5), .ref (t 6), .ref (t 7), .ref (t 8), .ref (t 9), .ref (t 10), .ref (t 11), .ref (t 12)])), ((t 1), .inl (E.2.2 0, 36, .inl vf6)), ((t 2), .inl (E.2.2 2, 12, .inr (.inl vf7))), ((t 3), .inl (E.2.2 0, 6, .inl vf8)), ((t 4), .inl (E.2.2 0, 6, .inl vf9)), ((t 5), .inl (E.2.2 0, 6, .inl vf10)), ((t 6), .inl (E.2.2 0, 10, .inl vf11)), ((t 7), .inl (E.2.2 0, 10, .inl vf12)), ((t 8), .inl (E.2.2 0, 10, .inl vf13)), ((t 9), .inl (E.2.2 0, 10, .inl vf14)), ((t 10), .inl (E.2.2 0, 10, .inl vf15)), ((t 11), .inl (E.2.2 0, 10, .inl vf16)), ((t 12), .inl (E.2.2 0, 60, .inl vf17))]) → C o td tt
set_option maxRecDepth 100000 in
def mp_IC (E : mp_E) (q1 : Nat) (len : Int) (sw : Nat → Int32) (sl : Nat → Int32) (kp : Nat → Bool) (tp : Nat → Int32) (ft : Int) (fp : Int) (td : mp_TD) (it : Nat → mp_TD) (A : va_W) : Prop := ∀ C : Int → (Nat → Int32) → (Nat → Int32) → (Nat → Bool) → (Nat → Int32) → Int → Int → mp_TD → (Nat → mp_TD) → va_W → Prop, (∀ b : Nat → Nat, ∀ wi0 : Int32, ∀ wi1 : Int32, ∀ wi2 : Int32, ∀ wi3 : Int32, ∀ wi4 : Int32, ∀ wi5 : Int32, ∀ wi6 : Int32, ∀ wi7 : Int32, ∀ wf8 : Nat → Int32, ∀ wi9 : Int32, ∀ wi10 : Int32, ∀ wi11 : Int32, ∀ wi12 : Int32, ∀ wi13 : Int32, ∀ wi14 : Int32, ∀ wf15 : Nat → Int32, ∀ wf16 : Nat → Int64, ∀ wf17 : Nat → Int32, ∀ wf18 : Nat → Int32, ∀ wf19 : Nat → Int32, ∀ wf20 : Nat → Int32, ∀ wf21 : Nat → Int32, ∀ wf22 : Nat → Int32, ∀ wf23 : Nat → Int32, ∀ wf24 : Nat → Int32, ∀ wf25 : Nat → Int32, ∀ wf26 : Nat → Int32, ∀ wi27 : Int32, ∀ wi28 : Int32, ∀ wi29 : Int32, ∀ wi30 : Int32, ∀ wi31 : Int32, ∀ wi32 : Int32, ∀ wi33 : Int32, ∀ wf34 : Nat → Int32, ∀ wf35 : Nat → Int64, ∀ wf36 : Nat → Int32, ∀ wf37 : Nat → Int32, ∀ wf38 : Nat → Int32, ∀ wf39 : Nat → Int32, ∀ wf40 : Nat → Int32, ∀ wf41 : Nat → Int32, ∀ wf42 : Nat → Int32, ∀ wf43 : Nat → Int32, ∀ wf44 : Nat → Int32, ∀ wf45 : Nat → Int32, ∀ wf46 : Nat → Int32, ∀ wf47 : Nat → Int32, ∀ wf48 : Nat → Int32, ∀ wf49 : Nat → Int64, ∀ wf50 : Nat → Int32, ∀ wf51 : Nat → Int32, ∀ wi52 : Int32, ∀ wi53 : Int32, ∀ wf54 : Nat → Int32, ∀ wf55 : Nat → Int32, ∀ wi56 : Int32, ∀ wi57 : Int32, ∀ wi58 : Int32, ∀ wi59 : Int32, ∀ wi60 : Int32, ∀ wi61 : Int32, ∀ wf62 : Nat → Int32, ∀ wf63 : Nat → Int32, ∀ wf64 : Nat → Int32, ∀ wf65 : Nat → Int32, ∀ wf66 : Nat → Int64, ∀ wi67 : Int32, ∀ wi68 : Int32, ∀ wi69 : Int32, ∀ wi70 : Int32, ∀ wi71 : Int32, ∀ wi72 : Int32, ∀ wi73 : Int32, ∀ wi74 : Int32, ∀ wf75 : Nat → Int32, ∀ wf76 : Nat → Int32, ∀ wi77 : Int32, ∀ wf78 : Nat → Int32, ∀ wf79 : Nat → Int32, ∀ wi80 : Int32, ∀ wi81 : Int32, ∀ wf82 : Nat → Int32, ∀ wf83 : Nat → Int64, ∀ wf84 : Nat → Int32, ∀ wf85 : Nat → Int32, ∀ im : Nat → Option Nat, ∀ t0 t1 t2 : va_W, ∀ kp : Nat → Bool, ∀ td : mp_TD, ∀ it : Nat → mp_TD, 0 ≤ wi0.toInt → wi0.toInt ≤ 1600 → 0 ≤ wi4.toInt → wi4.toInt ≤ 1600 → 0 ≤ wi5.toInt → wi5.toInt ≤ 1600 → 0 ≤ wi10.toInt → wi10.toInt ≤ 6 → 0 ≤ wi11.toInt → wi11.toInt ≤ 99 → 0 ≤ wi12.toInt → wi12.toInt ≤ 6 → 0 ≤ wi13.toInt → wi13.toInt ≤ 10 → 0 ≤ wi14.toInt → wi14.toInt ≤ 60 → mp_all wf15 36 0 20 → mp_all wf17 6 0 5 → mp_all wf20 10 0 5 → mp_all wf21 10 0 5 → mp_all wf23 10 0 99 → mp_all wf24 10 0 1 → mp_all wf25 10 (-1) 9 → mp_acts wf26 → 0 ≤ wi27.toInt → wi27.toInt ≤ 99 → 0 ≤ wi29.toInt → wi29.toInt ≤ 6 → 0 ≤ wi30.toInt → wi30.toInt ≤ 99 → 0 ≤ wi31.toInt → wi31.toInt ≤ 6 → 0 ≤ wi32.toInt → wi32.toInt ≤ 10 → 0 ≤ wi33.toInt → wi33.toInt ≤ 60 → mp_all wf34 36 0 20 → mp_all wf36 6 0 5 → mp_all wf39 10 0 5 → mp_all wf40 10 0 5 → mp_all wf42 10 0 99 → mp_all wf43 10 0 1 → mp_all wf44 10 (-1) 9 → mp_acts wf45 → mp_all wf46 6 0 5 → 0 ≤ wi52.toInt → wi52.toInt ≤ 6 → 0 ≤ wi56.toInt → wi56.toInt ≤ 6 → 0 ≤ wi57.toInt → wi57.toInt ≤ 12 → 0 ≤ wi58.toInt → wi58.toInt ≤ 5 → 0 ≤ wi68.toInt → wi68.toInt ≤ 99 → 0 ≤ wi69.toInt → wi69.toInt ≤ 1 → (-1) ≤ wi77.toInt → wi77.toInt ≤ 8 → mp_all wf78 8 0 99 → mp_all wf85 4 (-1) 60 → wi27.toInt = wi30.toInt + mp_k200 wf45 wi33.toInt → mp_CS wf46 wf47 wf48 wf34 wf36 wf45 wi30.toInt wi31.toInt (wi33.toInt : Int).toNat → (∀ j : Nat, j < 3 → kp j = (im j).isSome) → mp_RT td (mp_tC (wi29.toInt, wi30.toInt, wi31.toInt, wi32.toInt, wi28.toInt) wi33.toInt (wf34, wf35, wf36, wf37, wf38, wf39, wf40, wf41, wf42, wf43, wf44, wf45)) → mp_T1 E (im 0) (it 0) t0 → mp_T1 E (im 1) (it 1) t1 → mp_T1 E (im 2) (it 2) t2 → C wi0.toInt wf84 wf85 kp wf8 wi1.toInt wi2.toInt td it ([(q1, .inr (9, [.ref (b 1), .ref (b 16), .ref (b 36), .ref (b 37), .ref (b 40), .ref (b 46), .ref (b 49), .ref (b 52), .ref (b 54)])), ((b 1), .inr (3, [.ref (b 2), .int wi0, .ref (b 3), .int wi1, .int wi2, .int wi3, .int wi4, .int wi5, .int wi6, .int wi7])), ((b 2), .inl (E.2.2 1, 1600, .inl wf8)), ((b 3), .inr (7, [.int wi9, .int wi10, .int wi11, .int wi12, .int wi13, .int wi14, .ref (b 4), .ref (b 5), .ref (b 6), .ref (b 7), .ref (b 8), .ref (b 9), .ref (b 10), .ref (b 11), .ref (b 12), .ref (b 13), .ref (b 14), .ref (b 15)])), ((b 4), .inl (E.2.2 0, 36, .inl wf15)), ((b 5), .inl (E.2.2 2, 12, .inr (.inl wf16))), ((b 6), .inl (E.2.2 0, 6, .inl wf17)), ((b 7), .inl (E.2.2 0, 6, .inl wf18)), ((b 8), .inl (E.2.2 0, 6, .inl wf19)), ((b 9), .inl (E.2.2 0, 10, .inl wf20)), ((b 10), .inl (E.2.2 0, 10, .inl wf21)), ((b 11), .inl (E.2.2 0, 10, .inl wf22)), ((b 12), .inl (E.2.2 0, 10, .inl wf23)), ((b 13), .inl (E.2.2 0, 10, .inl wf24)), ((b 14), .inl (E.2.2 0, 10, .inl wf25)), ((b 15), .inl (E.2.2 0, 60, .inl wf26)), ((b 16), .inr (0, [.ref (b 17), .int wi27, .ref (b 30), .ref (b 31), .ref (b 32), .ref (b 33), .ref (b 34), .ref (b 35)])), ((b 17), .inr (7, [.int wi28, .int wi29, .int wi30, .int wi31, .int wi32, .int wi33, .ref (b 18), .ref (b 19), .ref (b 20), .ref (b 21), .ref (b 22), .ref (b 23), .ref (b 24), .ref (b 25), .ref (b 26), .ref (b 27), .ref (b 28), .ref (b 29)])), ((b 18), .inl (E.2.2 0, 36, .inl wf34)), ((b 19), .inl (E.2.2 2, 12, .inr (.inl wf35))), ((b 20), .inl (E.2.2 0, 6, .inl wf36)), ((b 21), .inl (E.2.2 0, 6, .inl wf37)), ((b 22), .inl (E.2.2 0, 6, .inl wf38)), ((b 23), .inl (E.2.2 0, 10, .inl wf39)), ((b 24), .inl (E.2.2 0, 10, .inl wf40)), ((b 25), .inl (E.2.2 0, 10, .inl wf41)), ((b 26), .inl (E.2.2 0, 10, .inl wf42)), ((b 27), .inl (E.2.2 0, 10, .inl wf43)), ((b 28), .inl (E.2.2 0, 10, .inl wf44)), ((b 29), .inl (E.2.2 0, 60, .inl wf45)), ((b 30), .inl (E.2.2 0, 6, .inl wf46)), ((b 31), .inl (E.2.2 0, 6, .inl wf47)), ((b 32), .inl (E.2.2 0, 6, .inl wf48)), ((b 33), .inl (E.2.2 2, 20, .inr (.inl wf49))), ((b 34), .inl (E.2.2 0, 10, .inl wf50)), ((b 35), .inl (E.2.2 0, 10, .inl wf51)), ((b 36), .inl (E.2.2 4, 3, .inr (.inr (.inr (.inr im))))), ((b 37), .inr (1, [.ref (b 38), .int wi52, .int wi53, .ref (b 39)])), ((b 38), .inl (E.2.2 0, 36, .inl wf54)), ((b 39), .inl (E.2.2 0, 3, .inl wf55)), ((b 40), .inr (2, [.int wi56, .int wi57, .int wi58, .int wi59, .ref (b 41), .ref (b 42), .ref (b 43), .ref (b 44), .ref (b 45), .int wi60, .int wi61])), ((b 41), .inl (E.2.2 0, 432, .inl wf62)), ((b 42), .inl (E.2.2 0, 432, .inl wf63)), ((b 43), .inl (E.2.2 0, 72, .inl wf64)), ((b 44), .inl (E.2.2 0, 78, .inl wf65)), ((b 45), .inl (E.2.2 2, 78, .inr (.inl wf66))), ((b 46), .inr (4, [.int wi67, .int wi68, .int wi69, .ref (b 47), .int wi70, .int wi71, .int wi72, .int wi73, .int wi74, .ref (b 48)])), ((b 47), .inl (E.2.2 0, 11, .inl wf75)), ((b 48), .inl (E.2.2 0, 132, .inl wf76)), ((b 49), .inr (6, [.int wi77, .ref (b 50), .ref (b 51)])), ((b 50), .inl (E.2.2 0, 8, .inl wf78)), ((b 51), .inl (E.2.2 0, 100, .inl wf79)), ((b 52), .inr (8, [.ref (b 53), .int wi80, .int wi81])), ((b 53), .inl (E.2.2 0, 10, .inl wf82)), ((b 54), .inr (5, [.ref (b 55), .ref (b 56), .ref (b 57)])), ((b 55), .inl (E.2.2 2, 240, .inr (.inl wf83))), ((b 56), .inl (E.2.2 0, 4, .inl wf84)), ((b 57), .inl (E.2.2 0, 4, .inl wf85))] ++ (t0 ++ (t1 ++ t2)))) → C len sw sl kp tp ft fp td it A
set_option maxRecDepth 100000 in
def mp_IM (E : mp_E) (q2 : Nat) (len : Int) (sw : Nat → Int32) (sl : Nat → Int32) (kp : Nat → Bool) (tp : Nat → Int32) (ft : Int) (fp : Int) (td : mp_TD) (it : Nat → mp_TD) (A : va_W) : Prop := ∀ C : Int → (Nat → Int32) → (Nat → Int32) → (Nat → Bool) → (Nat → Int32) → Int → Int → mp_TD → (Nat → mp_TD) → va_W → Prop, (∀ m : Nat → Nat, ∀ ui0 : Int32, ∀ ui1 : Int32, ∀ ui2 : Int32, ∀ ui3 : Int32, ∀ ui4 : Int32, ∀ ui5 : Int32, ∀ ui6 : Int64, ∀ ui7 : Int32, ∀ ui8 : Int32, ∀ ui9 : Int32, ∀ ui10 : Int32, ∀ ui11 : Int32, ∀ ui12 : Int32, ∀ ui13 : Int32, ∀ ui14 : Int32, ∀ ui15 : Int32, ∀ ui16 : Int32, ∀ ui17 : Int32, ∀ ui18 : Int32, ∀ ui19 : Int32, ∀ ui20 : Int32, ∀ ui21 : Int32, ∀ uf22 : Nat → Int32, ∀ uf23 : Nat → Int32, ∀ uf24 : Nat → Int64, ∀ uf25 : Nat → Int64, ∀ uf26 : Nat → Int32, ∀ uf27 : Nat → Int32, ∀ uf28 : Nat → Int32, ∀ uf29 : Nat → Int32, ∀ uf30 : Nat → Int32, ∀ uf31 : Nat → Int32, ∀ uf32 : Nat → Int32, ∀ uf33 : Nat → Int32, ∀ uf34 : Nat → Int32, ∀ uf35 : Nat → Int32, ∀ uf36 : Nat → Int32, ∀ uf37 : Nat → Int32, ∀ uf38 : Nat → Int32, ∀ uf39 : Nat → Int32, ∀ uf40 : Nat → Int64, ∀ uf41 : Nat → Int32, ∀ uf42 : Nat → Int32, ∀ uf43 : Nat → Int32, ∀ uf44 : Nat → Int32, ∀ uf45 : Nat → Int32, ∀ uf46 : Nat → Int32, ∀ kp : Nat → Bool, ∀ td : mp_TD, ∀ it : Nat → mp_TD, 0 ≤ ui1.toInt → ui1.toInt ≤ 1600 → 0 ≤ ui2.toInt → ui2.toInt ≤ 1600 → 0 ≤ ui3.toInt → ui3.toInt ≤ 4 → 0 ≤ ui4.toInt → ui4.toInt ≤ 1600 → 0 ≤ ui11.toInt → ui11.toInt ≤ 99 → 0 ≤ ui12.toInt → ui12.toInt ≤ 5 → 0 ≤ ui13.toInt → ui13.toInt ≤ 12 → mp_all uf23 4 0 60 → mp_res uf28 25 5 0 0 6 → mp_res uf28 25 5 1 0 99 → mp_res uf28 25 5 2 0 6 → mp_res uf28 25 5 3 0 10 → mp_res uf28 25 5 4 0 60 → mp_all uf29 180 0 20 → mp_all uf30 3000 0 1 → mp_res uf31 90 3 0 0 5 → mp_res uf31 90 3 1 (-1) 99 → mp_res uf32 300 6 0 0 5 → mp_res uf32 300 6 1 0 5 → mp_res uf32 300 6 3 0 99 → mp_res uf32 300 6 4 0 1 → mp_actm uf33 → mp_all uf35 6 0 5 → mp_MI uf28 uf32 uf33 → (∀ j : Nat, j < 3 → kp j = decide ((uf34 j).toInt ≠ 0)) → mp_RT td (mp_r0 (uf27, uf28, uf29, uf30, uf31, uf32, uf33)) → mp_TI kp it (uf27, uf28, uf29, uf30, uf31, uf32, uf33) → C ui1.toInt uf22 uf23 kp uf26 ui9.toInt ui10.toInt td it [(q2, .inr (10, [.int ui0, .ref (m 1), .ref (m 2), .ref (m 3), .ref (m 4), .ref (m 5), .int ui1, .int ui2, .int ui3, .int ui4, .int ui5, .long ui6, .int ui7, .int ui8, .int ui9, .int ui10, .ref (m 6), .ref (m 7), .ref (m 8), .ref (m 9), .ref (m 10), .ref (m 11), .ref (m 12), .ref (m 13), .int ui11, .ref (m 14), .ref (m 15), .ref (m 16), .ref (m 17), .int ui12, .int ui13, .int ui14, .ref (m 18), .ref (m 19), .int ui15, .int ui16, .ref (m 20), .ref (m 21), .ref (m 22), .int ui17, .int ui18, .int ui19, .int ui20, .ref (m 23), .ref (m 24), .ref (m 25), .int ui21])), ((m 1), .inl (E.2.2 0, 4, .inl uf22)), ((m 2), .inl (E.2.2 0, 4, .inl uf23)), ((m 3), .inl (E.2.2 2, 240, .inr (.inl uf24))), ((m 4), .inl (E.2.2 2, 60, .inr (.inl uf25))), ((m 5), .inl (E.2.2 1, 1600, .inl uf26)), ((m 6), .inl (E.2.2 0, 5, .inl uf27)), ((m 7), .inl (E.2.2 0, 25, .inl uf28)), ((m 8), .inl (E.2.2 0, 180, .inl uf29)), ((m 9), .inl (E.2.2 3, 3000, .inl uf30)), ((m 10), .inl (E.2.2 0, 90, .inl uf31)), ((m 11), .inl (E.2.2 0, 300, .inl uf32)), ((m 12), .inl (E.2.2 0, 300, .inl uf33)), ((m 13), .inl (E.2.2 3, 3, .inl uf34)), ((m 14), .inl (E.2.2 0, 6, .inl uf35)), ((m 15), .inl (E.2.2 0, 6, .inl uf36)), ((m 16), .inl (E.2.2 0, 6, .inl uf37)), ((m 17), .inl (E.2.2 3, 1500, .inl uf38)), ((m 18), .inl (E.2.2 0, 78, .inl uf39)), ((m 19), .inl (E.2.2 2, 78, .inr (.inl uf40))), ((m 20), .inl (E.2.2 0, 6, .inl uf41)), ((m 21), .inl (E.2.2 0, 6, .inl uf42)), ((m 22), .inl (E.2.2 0, 3, .inl uf43)), ((m 23), .inl (E.2.2 0, 12, .inl uf44)), ((m 24), .inl (E.2.2 0, 12, .inl uf45)), ((m 25), .inl (E.2.2 0, 100, .inl uf46))]) → C len sw sl kp tp ft fp td it A
set_option maxRecDepth 100000 in
theorem mp_flatI {E : mp_E} {X : mp_X} {nL pc : Nat} {lv : List (Nat × Value)} {st : List Value} {c0 c1 c2 c3 c4 c5 c6 c7 c8 c9 c10 c11 c12 c13 c14 c15 c16 c17 c18 c19 c20 c21 c22 c23 c24 c25 c26 c27 c28 c29 c30 c31 c32 c33 c34 c35 c36 c37 c38 c39 c40 c41 c42 c43 c44 c45 c46 c47 c48 c49 c50 c51 c52 c53 c54 c55 c56 c57 : Nat × va_E} {tl T : va_W} {k n : Nat} (h : mp_W E X nL pc lv st ((c0 :: c1 :: c2 :: c3 :: c4 :: c5 :: c6 :: c7 :: c8 :: c9 :: c10 :: c11 :: c12 :: c13 :: c14 :: c15 :: c16 :: c17 :: c18 :: c19 :: c20 :: c21 :: c22 :: c23 :: c24 :: c25 :: c26 :: c27 :: c28 :: c29 :: c30 :: c31 :: c32 :: c33 :: c34 :: c35 :: c36 :: c37 :: c38 :: c39 :: c40 :: c41 :: c42 :: c43 :: c44 :: c45 :: c46 :: c47 :: c48 :: c49 :: c50 :: c51 :: c52 :: c53 :: c54 :: c55 :: c56 :: c57 :: tl) ++ T) k n) : mp_W E X nL pc lv st (([c0, c1, c2, c3, c4, c5, c6, c7, c8, c9, c10, c11, c12, c13, c14, c15, c16, c17, c18, c19, c20, c21, c22, c23, c24, c25, c26, c27, c28, c29, c30, c31, c32, c33, c34, c35, c36, c37, c38, c39, c40, c41, c42, c43, c44, c45, c46, c47, c48, c49, c50, c51, c52, c53, c54, c55, c56, c57] ++ tl) ++ T) k n := h
set_option maxRecDepth 100000 in
theorem mp_nilW {E : mp_E} {X : mp_X} {nL pc : Nat} {lv : List (Nat × Value)} {st : List Value} {A T : va_W} {k n : Nat} (h : mp_W E X nL pc lv st (A ++ T) k n) : mp_W E X nL pc lv st ((A ++ []) ++ T) k n := by
  rw [List.append_nil]; exact h
set_option maxRecDepth 100000 in
theorem mp_permI0 {E : mp_E} {X : mp_X} {nL pc : Nat} {lv : List (Nat × Value)} {st : List Value} {ws wa wt t1 t2 B : va_W} {k n : Nat} (ia it : List Nat) (ha : ia.map (fun i => ws[i]?) = wa.map some) (ht : it.map (fun i => ws[i]?) = wt.map some) (hnd : va_nd (ia ++ it) = true) (h : mp_W E X nL pc lv st ((wa ++ (wt ++ (t1 ++ t2))) ++ B) k n) : mp_W E X nL pc lv st (ws ++ ((t1 ++ t2) ++ B)) k n := mp_permT (ia ++ it) (ws' := wa ++ wt) (by rw [List.map_append, List.map_append, ha, ht]) hnd (mp_mi0 h)
set_option maxRecDepth 100000 in
theorem mp_permI1 {E : mp_E} {X : mp_X} {nL pc : Nat} {lv : List (Nat × Value)} {st : List Value} {ws wa wt t0 t2 B : va_W} {k n : Nat} (ia it : List Nat) (ha : ia.map (fun i => ws[i]?) = wa.map some) (ht : it.map (fun i => ws[i]?) = wt.map some) (hnd : va_nd (ia ++ it) = true) (h : mp_W E X nL pc lv st ((wa ++ (t0 ++ (wt ++ t2))) ++ B) k n) : mp_W E X nL pc lv st (ws ++ ((t0 ++ t2) ++ B)) k n := mp_permT (ia ++ it) (ws' := wa ++ wt) (by rw [List.map_append, List.map_append, ha, ht]) hnd (mp_mi1 h)
set_option maxRecDepth 100000 in
theorem mp_permI2 {E : mp_E} {X : mp_X} {nL pc : Nat} {lv : List (Nat × Value)} {st : List Value} {ws wa wt t0 t1 B : va_W} {k n : Nat} (ia it : List Nat) (ha : ia.map (fun i => ws[i]?) = wa.map some) (ht : it.map (fun i => ws[i]?) = wt.map some) (hnd : va_nd (ia ++ it) = true) (h : mp_W E X nL pc lv st ((wa ++ (t0 ++ (t1 ++ wt))) ++ B) k n) : mp_W E X nL pc lv st (ws ++ ((t0 ++ t1) ++ B)) k n := mp_permT (ia ++ it) (ws' := wa ++ wt) (by rw [List.map_append, List.map_append, ha, ht]) hnd (mp_mi2 h)
set_option maxRecDepth 100000 in
theorem mp_T1_cast {E : mp_E} {o o2 : Option Nat} {td td2 : mp_TD} {tt : va_W} (h : mp_T1 E o td tt) (e : o2 = o) (f : td2 = td) : mp_T1 E o2 td2 tt := by
  rw [e, f]; exact h
/-- a world apart by a mask: what stays, what a call takes; and together again -/
def mp_rs {α : Type _} : List Bool → List α → List α
  | [], l => l
  | _ :: _, [] => []
  | true :: m, _ :: l => mp_rs m l
  | false :: m, a :: l => a :: mp_rs m l
def mp_fs {α : Type _} : List Bool → List α → List α
  | [], _ => []
  | _ :: _, [] => []
  | true :: m, a :: l => a :: mp_fs m l
  | false :: m, _ :: l => mp_fs m l
def mp_mg {α : Type _} : List Bool → List α → List α → List α
  | [], r, f => r ++ f
  | true :: m, r, [] => mp_mg m r []
  | true :: m, r, a :: f => a :: mp_mg m r f
  | false :: m, [], f => mp_mg m [] f
  | false :: m, a :: r, f => a :: mp_mg m r f
def mp_rg : Nat → Nat → List Nat
  | _, 0 => []
  | s, n + 1 => s :: mp_rg (s + 1) n
theorem mp_rg_mem : ∀ (n s i : Nat), i ∈ mp_rg s n → s ≤ i ∧ i < s + n
  | 0, _, _, h => by simp [mp_rg] at h
  | n + 1, s, i, h => by
    rcases List.mem_cons.mp (show i ∈ s :: mp_rg (s + 1) n from h) with e | e
    · omega
    · have h1 := mp_rg_mem n (s + 1) i e
      omega
theorem mp_rg_nd : ∀ (n s : Nat), va_nd (mp_rg s n) = true
  | 0, _ => rfl
  | n + 1, s => by
    show (decide (s ∉ mp_rg (s + 1) n) && va_nd (mp_rg (s + 1) n)) = true
    rw [mp_rg_nd n (s + 1), Bool.and_true, decide_eq_true_eq]
    intro h
    have h1 := mp_rg_mem n (s + 1) s h
    omega
theorem mp_rg_dis (R F : Nat) : (mp_rg 0 R).all (fun i => !(mp_rg R F).contains i) = true := by
  rw [List.all_eq_true]
  intro i hi
  have h1 := mp_rg_mem R 0 i hi
  cases hc : (mp_rg R F).contains i with
  | false => rfl
  | true =>
    have h2 := mp_rg_mem F R i (List.contains_iff_mem.mp hc)
    omega
theorem mp_rg_at {α : Type _} : ∀ (b a c : List α), (mp_rg a.length b.length).map (fun i => (a ++ (b ++ c))[i]?) = b.map some
  | [], _, _ => rfl
  | x :: b, a, c => by
    have h := mp_rg_at b (a ++ [x]) c
    rw [List.length_append, List.append_assoc] at h
    have h0 : (a ++ ((x :: b) ++ c))[a.length]? = ((x :: b) ++ c)[a.length - a.length]? := List.getElem?_append_right (Nat.le_refl _)
    rw [Nat.sub_self] at h0
    exact congr (congrArg List.cons h0) h
theorem mp_spW {E : mp_E} {X : mp_X} {nL pc : Nat} {lv : List (Nat × Value)} {st : List Value} {T : va_W} {k n : Nat} : ∀ (m : List Bool) (acc ws : va_W), mp_W E X nL pc lv st (acc ++ (mp_rs m ws ++ (mp_fs m ws ++ T))) k n → mp_W E X nL pc lv st (acc ++ (ws ++ T)) k n
  | [], _, _, h => h
  | _ :: _, _, [], h => h
  | true :: m, acc, a :: ws, h => by
    have h1 : mp_W E X nL pc lv st (acc ++ ([a] ++ (mp_rs m ws ++ (mp_fs m ws ++ T)))) k n := mp_rot (a := acc) (b := [a]) (c := mp_rs m ws) (d := mp_fs m ws ++ T) h
    have h2 := mp_spW m (acc ++ [a]) ws (by rw [List.append_assoc]; exact h1)
    rw [List.append_assoc] at h2
    exact h2
  | false :: m, acc, a :: ws, h => by
    have h2 := mp_spW m (acc ++ [a]) ws (by rw [List.append_assoc]; exact h)
    rw [List.append_assoc] at h2
    exact h2
theorem mp_mgW {E : mp_E} {X : mp_X} {nL pc : Nat} {lv : List (Nat × Value)} {st : List Value} {T : va_W} {k n : Nat} : ∀ (m : List Bool) (acc r f : va_W), mp_W E X nL pc lv st (acc ++ (mp_mg m r f ++ T)) k n → mp_W E X nL pc lv st (acc ++ (r ++ (f ++ T))) k n
  | [], acc, r, f, h => by
    have h1 : mp_W E X nL pc lv st (acc ++ ((r ++ f) ++ T)) k n := h
    rw [List.append_assoc] at h1
    exact h1
  | true :: m, acc, r, [], h => mp_mgW m acc r [] h
  | true :: m, acc, r, a :: f, h => by
    have h2 := mp_mgW m (acc ++ [a]) r f (by rw [List.append_assoc]; exact h)
    rw [List.append_assoc] at h2
    exact mp_rot (a := acc) (b := r) (c := [a]) (d := f ++ T) h2
  | false :: m, acc, [], f, h => mp_mgW m acc [] f h
  | false :: m, acc, a :: r, f, h => by
    have h2 := mp_mgW m (acc ++ [a]) r f (by rw [List.append_assoc]; exact h)
    rw [List.append_assoc] at h2
    exact h2
theorem mp_mgT {E : mp_E} {X : mp_X} {nL pc : Nat} {lv : List (Nat × Value)} {st : List Value} {r f T : va_W} {k n : Nat} (m : List Bool) (h : mp_W E X nL pc lv st (mp_mg m r f ++ T) k n) : mp_W E X nL pc lv st ((r ++ f) ++ T) k n := by
  rw [List.append_assoc]
  exact mp_mgW m [] r f h
theorem mp_mgA {E : mp_E} {X : mp_X} {nL pc : Nat} {lv : List (Nat × Value)} {st : List Value} {r f T B : va_W} {k n : Nat} (m : List Bool) (h : mp_W E X nL pc lv st ((mp_mg m r f ++ T) ++ B) k n) : mp_W E X nL pc lv st ((r ++ f) ++ (T ++ B)) k n := by
  rw [List.append_assoc] at h
  exact mp_mgT m h
theorem mp_callVM {E : mp_E} {X : mp_X} {M : mp_M} {y : MethodName} {b : ByteArray} {mL : Nat} {r : Option FieldType} {nf mc ms nl : Nat} {As : List Value} {a : Nat} {wc : va_W} {post : Option Value → va_W → Prop} {idx pc ci : Nat} {lv : List (Nat × Value)} {rest : List Value} {ws T : va_W} {k n : Nat} (m : List Bool) (hF : mp_F E X M) (hC : mp_Ct E y b mL r nf mc ms nl (.ref a :: As) wc post) (hL : mp_LV M.1 idx y b mL r As.length ci) {fs : List Value} (hrecv : wc[0]? = some (a, .inr (ci, fs))) (hs : mp_fs m ws = wc)
    (hroom : nf + 1 ≤ M.2.2.2.1.1 ∧ 8 + (mL + 11) + nl ≤ M.2.2.2.1.2.2.2 ∧ k + mc ≤ M.2.2.2.1.2.1 ∧ n + ms ≤ M.2.2.2.1.2.2.1) (hcat : (rest.map (fun v => v.category)).sum ≤ 8) (hdg : decode M.2.1 pc = .ok (.invokevirtual idx, 3))
    (kk : ∀ (v : Option Value) (w' : va_W), post v w' → mp_W E X M.2.2.1 (pc + 3) lv (v.toList ++ rest) ((mp_rs m ws ++ w') ++ T) (k + mc) (n + ms)) : mp_W E X M.2.2.1 pc lv (As.reverse ++ .ref a :: rest) (ws ++ T) k n := by
  have h1 := mp_rg_at wc (mp_rs m ws) []
  rw [List.append_nil] at h1
  have h0 := mp_callVT (ws := mp_rs m ws ++ wc) (T := T) (wr := mp_rs m ws) hF hC hL (mp_rs m ws).length (fs := fs) (by rw [List.getElem?_append_right (Nat.le_refl _), Nat.sub_self]; exact hrecv) (mp_rg (mp_rs m ws).length wc.length) (mp_rg 0 (mp_rs m ws).length) h1 (mp_rg_nd _ _) (mp_rg_at (mp_rs m ws) [] wc) (mp_rg_nd _ _) (mp_rg_dis _ _) hroom hcat hdg kk
  rw [List.append_assoc, ← hs] at h0
  exact mp_spW m [] ws h0
