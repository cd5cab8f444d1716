-- contracts, calls, ends
def mp_Q (E : mp_E) (post : Option Value → va_W → Prop) (A : Nat → Prop) : Array Value → State → Outcome → State → Prop := fun _ st oc t => (∃ (v : Option Value) (w' : va_W), oc = .returned v ∧ post v w' ∧ va_P E.2.1 vwCl w' t.heap ∧ va_D A w') ∧ va_F A st t
def mp_R (E : mp_E) (X : mp_X) (post : Option Value → va_W → Prop) (mc ms : Nat) : Prop := X.2.2.2.2 = MQ X.2.1.2.2.2 (mp_Q E post X.2.2.2.1) X.2.1.2.2.1 X.2.1.1 mc ms X.2.2.2.1
def mp_Ct (E : mp_E) (y : MethodName) (b : ByteArray) (mL : Nat) (r : Option FieldType) (nf mc ms nl : Nat) (av : List Value) (w : va_W) (post : Option Value → va_W → Prop) : Prop :=
  ∀ sz : Nat, Met E.1.1 y (Jvm.Cond.code y b mL r :: mp_UT) ({ frames := nf, cells := mc, slots := ms, locals := nl } : Room) (va_Pc av (fun U => U.heap.size = sz ∧ va_P E.2.1 vwCl w U.heap ∧ va_K E.2.1 vwCl (mp_ty E.2.2) U ∧ mp_NS E (va_A w sz) U ∧ va_D (fun _ => True) w)) (mp_Q E post (va_A w sz)) mc ms (va_A w sz)
theorem mp_met {E : mp_E} {y : MethodName} {b : ByteArray} {mL : Nat} {r : Option FieldType} {nf mc ms nl : Nat} {av : List Value} {w : va_W} {post : Option Value → va_W → Prop} (ini : Bool) (hini : ini = true → y.name = "<init>") (hy : plainName y.cls = true) (hlen : (lg_sl av).length ≤ mL)
    (body : ∀ X : mp_X, mp_F E X (y.cls, b, mL, (nf, mc, ms, nl), r, ini) → mp_R E X post mc ms → mp_W E X mL 0 (lv_args 0 av) [] w 0 0) : mp_Ct E y b mL r nf mc ms nl av w post := by
  intro sz
  refine Met.ofW (cc := b) (maxL := mL) (ret := r) hy rfl ?_
  intro p e s m args below meth c s₁ B hml hv
  obtain ⟨rfl, hsz, hP, hK, hN, hD0⟩ := hv
  have hts := atoms_spec (ws := Jvm.Cond.code y b mL r :: mp_UT) B.pre
  have hown : s.vm.findClass y.cls = some m.cls := findClass_of_methodNamed B.named
  have hnm : meth.name = y.name := (name_of_methodNamed B.named B.method).1
  subst hsz
  have hD := hD0.self (sz := s.heap.size)
  have hl := lv_entry av (n := mL) hlen
  rw [lg_entry_eq]
  exact body ((p, e, ({ frames := nf, cells := mc, slots := ms, locals := nl } : Room)), (s, m, av.toArray, below), (meth, c), (va_A w s.heap.size, MQ below (mp_Q E post (va_A w s.heap.size)) av.toArray s mc ms (va_A w s.heap.size)))
    ⟨B.exec, B.bytes, hml, hown, fun w h => hts w (List.mem_cons_of_mem _ h), hK, fun q h => Or.inr h, B.notSynchronized, rfl, B.returns, fun h => hnm.trans (hini h), hN⟩ rfl s.heap [] _ hP hD va_S.rf hl
theorem mp_fm {α β : Type} {f : α → Option β} : ∀ {is : List α} {w : List β}, is.map f = w.map some → is.filterMap f = w
  | [], [], _ => rfl
  | [], _ :: _, h => by simp at h
  | _ :: _, [], h => by simp at h
  | i :: is, x :: w, h => by
    simp only [List.map_cons, List.cons.injEq] at h
    rw [List.filterMap_cons, h.1, mp_fm h.2]
theorem mp_iret {E : mp_E} {X : mp_X} {M : mp_M} {post : Option Value → va_W → Prop} {mc ms : Nat} (hF : mp_F E X M) (hQ : mp_R E X post mc ms) {ty : FieldType} (hr : M.2.2.2.2.1 = some ty) {pc : Nat} {lv : List (Nat × Value)} {v : Int32} {ws : va_W} {k n : Nat} (hn : narrow ty (.int v) = .int v) (hk : k ≤ mc) (hn2 : n ≤ ms) (is : List Nat) {w' : va_W} (hs : is.map (fun i => ws[i]?) = w'.map some) (hnd : va_nd is = true) (hp : post (some (.int v)) w') (hdg : decode M.2.1 pc = .ok (.ireturn, 1)) : mp_W E X M.2.2.1 pc lv [.int v] ws k n := by
  intro H locs ls hP hD hS hl
  have hQ : X.2.2.2.2 = _ := hQ
  rw [hQ]
  obtain ⟨hx, hb, hml, hown, hts, hK, hA, hlk, hR, hrt, hin, hN⟩ := hF
  refine W.widen hk hn2 ?_
  exact W.zret hx hb (hrt.trans hr) hn (fun t ht hW => ⟨⟨_, w', rfl, hp, by rw [ht]; exact hP.sub is (mp_fm hs), hD.sub is hnd hs⟩, hS.F ht⟩) hS.2.2 hdg hlk
theorem mp_lret {E : mp_E} {X : mp_X} {M : mp_M} {post : Option Value → va_W → Prop} {mc ms : Nat} (hF : mp_F E X M) (hQ : mp_R E X post mc ms) (hr : M.2.2.2.2.1 = some .long) {pc : Nat} {lv : List (Nat × Value)} {v : Int64} {ws : va_W} {k n : Nat} (hk : k ≤ mc) (hn2 : n ≤ ms) (is : List Nat) {w' : va_W} (hs : is.map (fun i => ws[i]?) = w'.map some) (hnd : va_nd is = true) (hp : post (some (.long v)) w') (hdg : decode M.2.1 pc = .ok (.lreturn, 1)) : mp_W E X M.2.2.1 pc lv [.long v] ws k n := by
  intro H locs ls hP hD hS hl
  have hQ : X.2.2.2.2 = _ := hQ
  rw [hQ]
  obtain ⟨hx, hb, hml, hown, hts, hK, hA, hlk, hR, hrt, hin, hN⟩ := hF
  refine W.widen hk hn2 ?_
  exact W.lret hx hb (hrt.trans hr) (fun t ht hW => ⟨⟨_, w', rfl, hp, by rw [ht]; exact hP.sub is (mp_fm hs), hD.sub is hnd hs⟩, hS.F ht⟩) hS.2.2 hdg hlk
theorem mp_vret {E : mp_E} {X : mp_X} {M : mp_M} {post : Option Value → va_W → Prop} {mc ms : Nat} (hF : mp_F E X M) (hQ : mp_R E X post mc ms) (hr : M.2.2.2.2.1 = none) {pc : Nat} {lv : List (Nat × Value)} {ws : va_W} {k n : Nat} (hk : k ≤ mc) (hn2 : n ≤ ms) (is : List Nat) {w' : va_W} (hs : is.map (fun i => ws[i]?) = w'.map some) (hnd : va_nd is = true) (hp : post none w') (hdg : decode M.2.1 pc = .ok (.return_, 1)) : mp_W E X M.2.2.1 pc lv [] ws k n := by
  intro H locs ls hP hD hS hl
  have hQ : X.2.2.2.2 = _ := hQ
  rw [hQ]
  obtain ⟨hx, hb, hml, hown, hts, hK, hA, hlk, hR, hrt, hin, hN⟩ := hF
  refine W.widen hk hn2 ?_
  exact W.vret hx hb (hrt.trans hr) (fun t ht hW => ⟨⟨_, w', rfl, hp, by rw [ht]; exact hP.sub is (mp_fm hs), hD.sub is hnd hs⟩, hS.F ht⟩) hS.2.2 hdg hlk
theorem mp_aret {E : mp_E} {X : mp_X} {M : mp_M} {post : Option Value → va_W → Prop} {mc ms : Nat} (hF : mp_F E X M) (hQ : mp_R E X post mc ms) {rt : FieldType} (hr : M.2.2.2.2.1 = some rt) (hrt2 : (∃ n, rt = .object n) ∨ ∃ t, rt = .array t) {pc : Nat} {lv : List (Nat × Value)} {a : Nat} {ws : va_W} {k n : Nat} (hk : k ≤ mc) (hn2 : n ≤ ms) (is : List Nat) {w' : va_W} (hs : is.map (fun i => ws[i]?) = w'.map some) (hnd : va_nd is = true) (hp : post (some (.ref a)) w') (hdg : decode M.2.1 pc = .ok (.areturn, 1)) : mp_W E X M.2.2.1 pc lv [.ref a] ws k n := by
  intro H locs ls hP hD hS hl
  have hQ : X.2.2.2.2 = _ := hQ
  rw [hQ]
  obtain ⟨hx, hb, hml, hown, hts, hK, hA, hlk, hR, hrt, hin, hN⟩ := hF
  refine W.widen hk hn2 ?_
  exact W.aret hx hb (hrt.trans hr) hrt2 (Or.inr ⟨_, rfl⟩) (fun t ht hW => ⟨⟨_, w', rfl, hp, by rw [ht]; exact hP.sub is (mp_fm hs), hD.sub is hnd hs⟩, hS.F ht⟩) hS.2.2 hdg hlk
def mp_eqB : List UInt8 → List UInt8 → Bool
  | [], [] => true
  | a :: l, b :: m => Nat.beq a.toNat b.toNat && mp_eqB l m
  | _, _ => false
theorem mp_eqB_ok : ∀ {l m : List UInt8}, mp_eqB l m = true → l = m
  | [], [], _ => rfl
  | [], _ :: _, h => by simp [mp_eqB] at h
  | _ :: _, [], h => by simp [mp_eqB] at h
  | a :: l, b :: m, h => by
    have h := Bool.and_eq_true_iff.mp (show (Nat.beq a.toNat b.toNat && mp_eqB l m) = true from h)
    rw [UInt8.toNat_inj.mp (Nat.eq_of_beq_eq_true h.1), mp_eqB_ok h.2]
def mp_gC (j : Nat) (y : MethodName) (b : ByteArray) (mL : Nat) (r : Option FieldType) : Bool := match mp_g j with
  | some (.code y1 b1 mL1 r1) => mp_eqB b1.data.toList b.data.toList && (decide (y1 = y) && (decide (mL1 = mL) && decide (r1 = r)))
  | _ => false
theorem mp_gC_ok {j : Nat} {y : MethodName} {b : ByteArray} {mL : Nat} {r : Option FieldType} (h : mp_gC j y b mL r = true) : mp_gK j (.code y b mL r) = true := by
  unfold mp_gC at h
  split at h
  · rename_i y1 b1 mL1 r1 hq
    simp only [Bool.and_eq_true, decide_eq_true_eq] at h
    obtain ⟨h0, rfl, rfl, rfl⟩ := h
    have e : b1 = b := by
      have h0 := mp_eqB_ok h0
      cases b1 with | mk d1 => cases b with | mk d => cases d1 with | mk l1 => cases d with | mk l => exact congrArg (fun x => ByteArray.mk (Array.mk x)) h0
    subst e
    exact Bool.and_eq_true_iff.mpr ⟨decide_eq_true hq, rfl⟩
  · cases h
-- what a call links, checked by a program: places of the words in the law's list
def mp_hd (y : MethodName) (argc : Nat) : Bool := decide (y.cls ≠ "java/lang/invoke/MethodHandle") && decide (y.cls ≠ "java/lang/invoke/VarHandle") && decide ((parseMethodDescriptor y.desc).map (fun d => d.parameters.length) = some argc)
def mp_lvB (own : String) (idx : Nat) (y : MethodName) (b : ByteArray) (mL : Nat) (r : Option FieldType) (argc ci j1 j2 j3 j4 j5 : Nat) : Bool := match vwCl[ci]? with
  | none => false
  | some q => decide (y.cls = q.1) && mp_gK j1 (.methodLink own idx y) && mp_gK j2 (.instanceMethod y) && mp_gK j3 (.selects q.1 y y) && mp_gK j4 (.initialized q.1) && mp_gC j5 y b mL r && mp_hd y argc
def mp_lsB (own : String) (idx : Nat) (y : MethodName) (b : ByteArray) (mL : Nat) (r : Option FieldType) (argc j1 j2 j4 j5 : Nat) : Bool :=
  mp_gK j1 (.methodLink own idx y) && mp_gK j2 (.static y) && mp_gK j4 (.initialized y.cls) && mp_gC j5 y b mL r && mp_hd y argc
def mp_liB (own : String) (idx : Nat) (y : MethodName) (b : ByteArray) (mL : Nat) (argc j1 j2 j4 j5 : Nat) : Bool :=
  decide (y.name = "<init>") && mp_gK j1 (.methodLink own idx y) && mp_gK j2 (.instanceMethod y) && mp_gK j4 (.initialized y.cls) && mp_gC j5 y b mL none && mp_hd y argc
def mp_LV (own : String) (idx : Nat) (y : MethodName) (b : ByteArray) (mL : Nat) (r : Option FieldType) (argc ci : Nat) : Prop := ∃ q : vw_C, vwCl[ci]? = some q ∧ GoodIn mp_UT (wsV own idx q.1 y (Jvm.Cond.code y b mL r :: mp_UT)) ∧ (y.cls = q.1 ∧ y.cls ≠ "java/lang/invoke/MethodHandle" ∧ y.cls ≠ "java/lang/invoke/VarHandle" ∧ (parseMethodDescriptor y.desc).map (fun d => d.parameters.length) = some argc)
def mp_LS (own : String) (idx : Nat) (y : MethodName) (b : ByteArray) (mL : Nat) (r : Option FieldType) (argc : Nat) : Prop := GoodIn mp_UT (va_wsS own idx y (Jvm.Cond.code y b mL r :: mp_UT)) ∧ (y.cls ≠ "java/lang/invoke/MethodHandle" ∧ y.cls ≠ "java/lang/invoke/VarHandle" ∧ (parseMethodDescriptor y.desc).map (fun d => d.parameters.length) = some argc)
def mp_LI (own : String) (idx : Nat) (y : MethodName) (b : ByteArray) (mL : Nat) (argc : Nat) : Prop := y.name = "<init>" ∧ GoodIn mp_UT (Jvm.Cond.code y b mL none :: mp_UT) ∧ Jvm.Cond.methodLink own idx y ∈ mp_UT ∧ Jvm.Cond.instanceMethod y ∈ mp_UT ∧ Jvm.Cond.initialized y.cls ∈ mp_UT ∧ (y.cls ≠ "java/lang/invoke/MethodHandle" ∧ y.cls ≠ "java/lang/invoke/VarHandle" ∧ (parseMethodDescriptor y.desc).map (fun d => d.parameters.length) = some argc)
theorem mp_hd_ok {y : MethodName} {argc : Nat} (h : mp_hd y argc = true) : y.cls ≠ "java/lang/invoke/MethodHandle" ∧ y.cls ≠ "java/lang/invoke/VarHandle" ∧ (parseMethodDescriptor y.desc).map (fun d => d.parameters.length) = some argc := by
  simp only [mp_hd, Bool.and_eq_true, decide_eq_true_eq] at h
  exact ⟨h.1.1, h.1.2, h.2⟩
theorem mp_gc {ws : List Jvm.Cond} (h : ∀ w ∈ ws, w ∈ mp_UT) : GoodIn mp_UT ws := fun w hw => ⟨h w hw, mp_utGood w (h w hw)⟩
theorem mp_lv_ok {own : String} {idx : Nat} {y : MethodName} {b : ByteArray} {mL : Nat} {r : Option FieldType} {argc ci j1 j2 j3 j4 j5 : Nat} (h : mp_lvB own idx y b mL r argc ci j1 j2 j3 j4 j5 = true) : mp_LV own idx y b mL r argc ci := by
  unfold mp_lvB at h
  split at h
  · exact absurd h (by decide)
  · rename_i q hq
    simp only [Bool.and_eq_true, decide_eq_true_eq] at h
    obtain ⟨⟨⟨⟨⟨⟨h0, h1⟩, h2⟩, h3⟩, h4⟩, h5⟩, h6⟩ := h
    refine ⟨q, hq, mp_gc ?_, h0, mp_hd_ok h6⟩
    intro w hw
    rcases List.mem_append.mp hw with hw | hw
    · simp only [List.mem_cons, List.not_mem_nil, or_false] at hw
      rcases hw with rfl | rfl | rfl | rfl
      · exact mp_gm h1
      · exact mp_gm h2
      · exact mp_gm h3
      · exact mp_gm h4
    · rcases List.mem_cons.mp hw with rfl | hw
      · exact mp_gm (mp_gC_ok h5)
      · exact hw
theorem mp_ls_ok {own : String} {idx : Nat} {y : MethodName} {b : ByteArray} {mL : Nat} {r : Option FieldType} {argc j1 j2 j4 j5 : Nat} (h : mp_lsB own idx y b mL r argc j1 j2 j4 j5 = true) : mp_LS own idx y b mL r argc := by
  simp only [mp_lsB, Bool.and_eq_true, decide_eq_true_eq] at h
  obtain ⟨⟨⟨⟨h1, h2⟩, h4⟩, h5⟩, h6⟩ := h
  refine ⟨mp_gc ?_, mp_hd_ok h6⟩
  intro w hw
  rcases List.mem_append.mp hw with hw | hw
  · simp only [List.mem_cons, List.not_mem_nil, or_false] at hw
    rcases hw with rfl | rfl | rfl
    · exact mp_gm h1
    · exact mp_gm h2
    · exact mp_gm h4
  · rcases List.mem_cons.mp hw with rfl | hw
    · exact mp_gm (mp_gC_ok h5)
    · exact hw
theorem mp_li_ok {own : String} {idx : Nat} {y : MethodName} {b : ByteArray} {mL : Nat} {argc j1 j2 j4 j5 : Nat} (h : mp_liB own idx y b mL argc j1 j2 j4 j5 = true) : mp_LI own idx y b mL argc := by
  simp only [mp_liB, Bool.and_eq_true, decide_eq_true_eq] at h
  obtain ⟨⟨⟨⟨⟨h0, h1⟩, h2⟩, h4⟩, h5⟩, h6⟩ := h
  refine ⟨h0, mp_gc ?_, mp_gm h1, mp_gm h2, mp_gm h4, mp_hd_ok h6⟩
  intro w hw
  rcases List.mem_cons.mp hw with rfl | hw
  · exact mp_gm (mp_gC_ok h5)
  · exact hw
/-- calls of nest mates' private methods -/
def mp_lnB (own : String) (idx : Nat) (y : MethodName) (host : String) (b : ByteArray) (mL : Nat) (r : Option FieldType) (argc j1 j4 j5 : Nat) : Bool :=
  decide (mp_nst[j1]? = some (own, idx, y, host)) && mp_gK j4 (.initialized y.cls) && mp_gC j5 y b mL r && mp_hd y argc
def mp_LNs (own : String) (idx : Nat) (y : MethodName) (b : ByteArray) (mL : Nat) (r : Option FieldType) (argc : Nat) : Prop := ∃ host, (own, idx, y, host) ∈ mp_nst ∧ GoodIn mp_UT (Jvm.Cond.code y b mL r :: mp_UT) ∧ Jvm.Cond.initialized y.cls ∈ mp_UT ∧ (y.cls ≠ "java/lang/invoke/MethodHandle" ∧ y.cls ≠ "java/lang/invoke/VarHandle" ∧ (parseMethodDescriptor y.desc).map (fun d => d.parameters.length) = some argc)
theorem mp_ln_ok {own : String} {idx : Nat} {y : MethodName} {host : String} {b : ByteArray} {mL : Nat} {r : Option FieldType} {argc j1 j4 j5 : Nat} (h : mp_lnB own idx y host b mL r argc j1 j4 j5 = true) : mp_LNs own idx y b mL r argc := by
  simp only [mp_lnB, Bool.and_eq_true, decide_eq_true_eq] at h
  obtain ⟨⟨⟨h1, h4⟩, h5⟩, h6⟩ := h
  refine ⟨host, List.mem_of_getElem? h1, mp_gc ?_, mp_gm h4, mp_hd_ok h6⟩
  intro w hw
  rcases List.mem_cons.mp hw with rfl | hw
  · exact mp_gm (mp_gC_ok h5)
  · exact hw
theorem mp_blind (E : mp_E) (av : List Value) (sz : Nat) (w : va_W) : FrameBlind (va_Pc av (fun U => U.heap.size = sz ∧ va_P E.2.1 vwCl w U.heap ∧ va_K E.2.1 vwCl (mp_ty E.2.2) U ∧ mp_NS E (va_A w sz) U ∧ va_D (fun _ => True) w)) := by
  intro a U g mk q
  obtain ⟨q0, q1, qP, qK, qN, qD⟩ := q
  exact ⟨q0, q1, qP, va_K.moved (u := U) (U := U.calling g mk a) (Vm.Alike.refl U.vm) qK, ⟨mp_N_same (u := U) (U := U.calling g mk a) rfl qN.1, mp_S_same (u := U) (U := U.calling g mk a) rfl rfl qN.2⟩, qD⟩
section MPC
variable {E : mp_E} {X : mp_X} {M : mp_M} {y : MethodName} {b : ByteArray} {mL : Nat} {r : Option FieldType} {nf mc ms nl : Nat} {As : List Value} {a : Nat} {wc : va_W} {post : Option Value → va_W → Prop} {idx ci : Nat}
variable {pc : Nat} {lv : List (Nat × Value)} {rest : List Value} {ws : va_W} {k n : Nat}
theorem mp_back (hF : mp_F E X M) {fr : List Value} {st0 : List Value} {sz : Nat} (isC isR : List Nat) {wr : va_W} (hC1 : isC.map (fun i => ws[i]?) = wc.map some) (hR1 : isR.map (fun i => ws[i]?) = wr.map some) (hnd : va_nd isR = true) (hdis : isR.all (fun i => !isC.contains i) = true)
    (hrun : ∀ (H : Heap) (locs : List Loc) (ls : Array Slot), va_P E.2.1 vwCl ws H → va_D X.2.2.2.1 ws → va_S X.2.2.2.1 X.2.1.1.heap H locs → lv_has ls M.2.2.1 lv → ∃ a9 : Array Value, va_Run X.1.1 E.1.1 X.1.2.1 X.1.2.2 X.2.1.1 X.2.1.2.1 X.2.1.2.2.1 X.2.1.2.2.2 X.2.2.1.1 X.2.2.1.2 H locs k n mc ms (F0 X.2.1.2.1 pc ls st0) rest (mp_Q E post (va_A wc H.size) a9) (va_A wc H.size))
    (kk : ∀ (v : Option Value) (w' : va_W), post v w' → mp_W E X M.2.2.1 (pc + 3) lv (v.toList ++ rest) (wr ++ w') (k + mc) (n + ms)) : mp_W E X M.2.2.1 pc lv st0 ws k n := by
  intro H locs ls hP hD hS hl
  obtain ⟨hx, hb, hml, hown, hts, hK, hA, hlk, hR, hrt, hin, hN⟩ := hF
  have hFc := va_free (wc := wc) hD hS hA isC hC1
  have hdis : ∀ i ∈ isR, i ∉ isC := by
    intro i hi hc
    have h1 := List.all_eq_true.mp hdis i hi
    rw [List.contains_iff_mem.mpr hc] at h1
    exact absurd h1 (by decide)
  intro T hT X0
  obtain ⟨a9, hrun⟩ := hrun H locs ls hP hD hS hl
  obtain ⟨v, st₀, t, T', L, h0, X', hL, e1, e2, ⟨⟨v', w', hv, hp, hP1, hD1⟩, hz, hkk⟩, st⟩ := hrun T hT X0
  cases hv
  rw [h0] at hz hkk
  have hS' : va_S X.2.2.2.1 X.2.1.1.heap T'.heap (locs ++ L) := ⟨Nat.le_trans hS.1 (by rw [e1]; exact hz), fun q h1 h2 => by rw [e1, hkk q (Nat.lt_of_lt_of_le h1 hS.1) (fun z => h2 (hFc q z))]; exact hS.2.1 q h1 h2, fun q hq => by
      rcases List.mem_append.mp hq with h | h
      · exact hS.2.2 q h
      · exact hFc _ (hL q h)⟩
  obtain ⟨hP2, hD2⟩ := va_join (H1 := T'.heap) hP hD isC isR hC1 hR1 hnd hdis (fun q h1 h2 => by rw [e1]; exact hkk q h1 h2) hFc (by rw [e1]; exact hP1) hD1
  obtain ⟨t2, a1, b1⟩ := kk v w' hp T'.heap (locs ++ L) ls hP2 hD2 hS' hl T' rfl X'
  exact ⟨t2, st t2 a1, b1⟩
theorem mp_callV (hF : mp_F E X M) (hC : mp_Ct E y b mL r nf mc ms nl (.ref a :: As) wc post) (hL : mp_LV M.1 idx y b mL r As.length ci) (q0 : Nat) {fs : List Value} (hrecv : ws[q0]? = some (a, .inr (ci, fs)))
    (isC isR : List Nat) {wr : va_W} (hC1 : isC.map (fun i => ws[i]?) = wc.map some) (hnC : va_nd isC = true) (hR1 : isR.map (fun i => ws[i]?) = wr.map some) (hnd : va_nd isR = true) (hdis : isR.all (fun i => !isC.contains i) = true)
    (hroom : nf + 1 ≤ M.2.2.2.1.1 ∧ 8 + (mL + 11) + nl ≤ M.2.2.2.1.2.2.2 ∧ k + mc ≤ M.2.2.2.1.2.1 ∧ n + ms ≤ M.2.2.2.1.2.2.1) (hcat : (rest.map (fun v => v.category)).sum ≤ 8) (hdg : decode M.2.1 pc = .ok (.invokevirtual idx, 3))
    (kk : ∀ (v : Option Value) (w' : va_W), post v w' → mp_W E X M.2.2.1 (pc + 3) lv (v.toList ++ rest) (wr ++ w') (k + mc) (n + ms)) : mp_W E X M.2.2.1 pc lv (As.reverse ++ .ref a :: rest) ws k n := by
  refine mp_back (fr := []) (sz := 0) hF isC isR hC1 hR1 hnd hdis (fun H locs ls hP hD hS hl => ⟨(.ref a :: As).toArray, ?_⟩) kk
  obtain ⟨hx, hb, hml, hown, hts, hK, hA, hlk, hR, hrt, hin, hN⟩ := hF
  obtain ⟨q, hq, hg, hd⟩ := hL
  have hPc := hP.sub (ws' := wc) isC (mp_fm hC1)
  have hDc := hD.sub isC hnC hC1
  exact va_runV (rest := rest) ⟨hx, hb, hml, hown, hts⟩ (hC H.size) (cwV As.length hts hg rfl rfl rfl hd ⟨by rw [hR]; exact hroom.1, by rw [hR]; exact hroom.2.1⟩) ⟨mp_blind E _ _ _, va_recv hK hP hq hrecv, fun U hU hW => ⟨rfl, by rw [hU], by rw [hU]; exact hPc, va_K.moved hW.alike hK, ⟨mp_N_warm hW hN.1, mp_S_warm hW (by rw [hU]; exact hS.2.1) (fun q z => va_free (wc := wc) hD hS hA isC hC1 q z) hN.2⟩, hDc.weaken (fun _ _ _ _ => trivial)⟩⟩ rfl rfl hl.1 rfl (lv_room hcat) hdg ⟨by rw [hR]; exact hroom.2.2.1, by rw [hR]; exact hroom.2.2.2⟩
theorem mp_callI (hF : mp_F E X M) (hC : mp_Ct E y b mL none nf mc ms nl (.ref a :: As) wc post) (hL : mp_LI M.1 idx y b mL As.length)
    (isC isR : List Nat) {wr : va_W} (hC1 : isC.map (fun i => ws[i]?) = wc.map some) (hnC : va_nd isC = true) (hR1 : isR.map (fun i => ws[i]?) = wr.map some) (hnd : va_nd isR = true) (hdis : isR.all (fun i => !isC.contains i) = true)
    (hroom : nf + 1 ≤ M.2.2.2.1.1 ∧ 8 + (mL + 11) + nl ≤ M.2.2.2.1.2.2.2 ∧ k + mc ≤ M.2.2.2.1.2.1 ∧ n + ms ≤ M.2.2.2.1.2.2.1) (hcat : (rest.map (fun v => v.category)).sum ≤ 8) (hdg : decode M.2.1 pc = .ok (.invokespecial idx, 3))
    (kk : ∀ (v : Option Value) (w' : va_W), post v w' → mp_W E X M.2.2.1 (pc + 3) lv (v.toList ++ rest) (wr ++ w') (k + mc) (n + ms)) : mp_W E X M.2.2.1 pc lv (As.reverse ++ .ref a :: rest) ws k n := by
  refine mp_back (fr := []) (sz := 0) hF isC isR hC1 hR1 hnd hdis (fun H locs ls hP hD hS hl => ⟨(.ref a :: As).toArray, ?_⟩) kk
  obtain ⟨hx, hb, hml, hown, hts, hK, hA, hlk, hR, hrt, hin, hN⟩ := hF
  obtain ⟨h1, hg, hl1, hl2, hl3, hd⟩ := hL
  have hPc := hP.sub (ws' := wc) isC (mp_fm hC1)
  have hDc := hD.sub isC hnC hC1
  exact va_runI (rest := rest) ⟨hx, hb, hml, hown, hts⟩ (hC H.size) (cwI As.length hts hg rfl rfl rfl (hts _ hl3) (hts _ hl1) (hts _ hl2) h1 hd ⟨by rw [hR]; exact hroom.1, by rw [hR]; exact hroom.2.1⟩) ⟨mp_blind E _ _ _, fun U hU hW => ⟨rfl, by rw [hU], by rw [hU]; exact hPc, va_K.moved hW.alike hK, ⟨mp_N_warm hW hN.1, mp_S_warm hW (by rw [hU]; exact hS.2.1) (fun q z => va_free (wc := wc) hD hS hA isC hC1 q z) hN.2⟩, hDc.weaken (fun _ _ _ _ => trivial)⟩⟩ rfl rfl hl.1 rfl (lv_room hcat) hdg ⟨by rw [hR]; exact hroom.2.2.1, by rw [hR]; exact hroom.2.2.2⟩
theorem mp_callS (hF : mp_F E X M) (hC : mp_Ct E y b mL r nf mc ms nl As wc post) (hL : mp_LS M.1 idx y b mL r As.length)
    (isC isR : List Nat) {wr : va_W} (hC1 : isC.map (fun i => ws[i]?) = wc.map some) (hnC : va_nd isC = true) (hR1 : isR.map (fun i => ws[i]?) = wr.map some) (hnd : va_nd isR = true) (hdis : isR.all (fun i => !isC.contains i) = true)
    (hroom : nf + 1 ≤ M.2.2.2.1.1 ∧ 8 + (mL + 11) + nl ≤ M.2.2.2.1.2.2.2 ∧ k + mc ≤ M.2.2.2.1.2.1 ∧ n + ms ≤ M.2.2.2.1.2.2.1) (hcat : (rest.map (fun v => v.category)).sum ≤ 8) (hdg : decode M.2.1 pc = .ok (.invokestatic idx, 3))
    (kk : ∀ (v : Option Value) (w' : va_W), post v w' → mp_W E X M.2.2.1 (pc + 3) lv (v.toList ++ rest) (wr ++ w') (k + mc) (n + ms)) : mp_W E X M.2.2.1 pc lv (As.reverse ++ rest) ws k n := by
  refine mp_back (fr := []) (sz := 0) hF isC isR hC1 hR1 hnd hdis (fun H locs ls hP hD hS hl => ⟨As.toArray, ?_⟩) kk
  obtain ⟨hx, hb, hml, hown, hts, hK, hA, hlk, hR, hrt, hin, hN⟩ := hF
  obtain ⟨hg, hd⟩ := hL
  have hPc := hP.sub (ws' := wc) isC (mp_fm hC1)
  have hDc := hD.sub isC hnC hC1
  exact va_runS (rest := rest) ⟨hx, hb, hml, hown, hts⟩ (hC H.size) (va_cwS As.length hts hg rfl rfl rfl hd ⟨by rw [hR]; exact hroom.1, by rw [hR]; exact hroom.2.1⟩) ⟨mp_blind E _ _ _, fun U hU hW => ⟨rfl, by rw [hU], by rw [hU]; exact hPc, va_K.moved hW.alike hK, ⟨mp_N_warm hW hN.1, mp_S_warm hW (by rw [hU]; exact hS.2.1) (fun q z => va_free (wc := wc) hD hS hA isC hC1 q z) hN.2⟩, hDc.weaken (fun _ _ _ _ => trivial)⟩⟩ rfl rfl hl.1 rfl (lv_room hcat) hdg ⟨by rw [hR]; exact hroom.2.2.1, by rw [hR]; exact hroom.2.2.2⟩
theorem mp_callIN (hF : mp_F E X M) (hC : mp_Ct E y b mL none nf mc ms nl (.ref a :: As) wc post) (hi1 : y.name = "<init>") (hi2 : Jvm.Cond.instanceMethod y ∈ mp_UT) (hL : mp_LNs M.1 idx y b mL none As.length)
    (isC isR : List Nat) {wr : va_W} (hC1 : isC.map (fun i => ws[i]?) = wc.map some) (hnC : va_nd isC = true) (hR1 : isR.map (fun i => ws[i]?) = wr.map some) (hnd : va_nd isR = true) (hdis : isR.all (fun i => !isC.contains i) = true)
    (hroom : nf + 1 ≤ M.2.2.2.1.1 ∧ 8 + (mL + 11) + nl ≤ M.2.2.2.1.2.2.2 ∧ k + mc ≤ M.2.2.2.1.2.1 ∧ n + ms ≤ M.2.2.2.1.2.2.1) (hcat : (rest.map (fun v => v.category)).sum ≤ 8) (hdg : decode M.2.1 pc = .ok (.invokespecial idx, 3))
    (kk : ∀ (v : Option Value) (w' : va_W), post v w' → mp_W E X M.2.2.1 (pc + 3) lv (v.toList ++ rest) (wr ++ w') (k + mc) (n + ms)) : mp_W E X M.2.2.1 pc lv (As.reverse ++ .ref a :: rest) ws k n := by
  refine mp_back (fr := []) (sz := 0) hF isC isR hC1 hR1 hnd hdis (fun H locs ls hP hD hS hl => ⟨(.ref a :: As).toArray, ?_⟩) kk
  obtain ⟨hx, hb, hml, hown, hts, hK, hA, hlk, hR, hrt, hin, hN⟩ := hF
  obtain ⟨host, hn1, hg, hl3, hd⟩ := hL
  have hnw : va_Nw (.methodLinkNest M.1 idx y host) X.2.1.1 := hN.1.1 (M.1, idx, y, host) hn1
  have hPc := hP.sub (ws' := wc) isC (mp_fm hC1)
  have hDc := hD.sub isC hnC hC1
  exact va_runIN (rest := rest) ⟨hx, hb, hml, hown, hts⟩ (hC H.size) ⟨va_cnB As.length hts hg rfl rfl rfl hnw (hts _ hl3) hd ⟨by rw [hR]; exact hroom.1, by rw [hR]; exact hroom.2.1⟩, hi1, hts _ hi2⟩ ⟨mp_blind E _ _ _, fun U hU hW => ⟨rfl, by rw [hU], by rw [hU]; exact hPc, va_K.moved hW.alike hK, ⟨mp_N_warm hW hN.1, mp_S_warm hW (by rw [hU]; exact hS.2.1) (fun q z => va_free (wc := wc) hD hS hA isC hC1 q z) hN.2⟩, hDc.weaken (fun _ _ _ _ => trivial)⟩⟩ rfl rfl hl.1 rfl (lv_room hcat) hdg ⟨by rw [hR]; exact hroom.2.2.1, by rw [hR]; exact hroom.2.2.2⟩
theorem mp_callSN (hF : mp_F E X M) (hC : mp_Ct E y b mL r nf mc ms nl As wc post) (hi2 : Jvm.Cond.static y ∈ mp_UT) (hL : mp_LNs M.1 idx y b mL r As.length)
    (isC isR : List Nat) {wr : va_W} (hC1 : isC.map (fun i => ws[i]?) = wc.map some) (hnC : va_nd isC = true) (hR1 : isR.map (fun i => ws[i]?) = wr.map some) (hnd : va_nd isR = true) (hdis : isR.all (fun i => !isC.contains i) = true)
    (hroom : nf + 1 ≤ M.2.2.2.1.1 ∧ 8 + (mL + 11) + nl ≤ M.2.2.2.1.2.2.2 ∧ k + mc ≤ M.2.2.2.1.2.1 ∧ n + ms ≤ M.2.2.2.1.2.2.1) (hcat : (rest.map (fun v => v.category)).sum ≤ 8) (hdg : decode M.2.1 pc = .ok (.invokestatic idx, 3))
    (kk : ∀ (v : Option Value) (w' : va_W), post v w' → mp_W E X M.2.2.1 (pc + 3) lv (v.toList ++ rest) (wr ++ w') (k + mc) (n + ms)) : mp_W E X M.2.2.1 pc lv (As.reverse ++ rest) ws k n := by
  refine mp_back (fr := []) (sz := 0) hF isC isR hC1 hR1 hnd hdis (fun H locs ls hP hD hS hl => ⟨As.toArray, ?_⟩) kk
  obtain ⟨hx, hb, hml, hown, hts, hK, hA, hlk, hR, hrt, hin, hN⟩ := hF
  obtain ⟨host, hn1, hg, hl3, hd⟩ := hL
  have hnw : va_Nw (.methodLinkNest M.1 idx y host) X.2.1.1 := hN.1.1 (M.1, idx, y, host) hn1
  have hPc := hP.sub (ws' := wc) isC (mp_fm hC1)
  have hDc := hD.sub isC hnC hC1
  exact va_runSN (rest := rest) ⟨hx, hb, hml, hown, hts⟩ (hC H.size) ⟨va_cnB As.length hts hg rfl rfl rfl hnw (hts _ hl3) hd ⟨by rw [hR]; exact hroom.1, by rw [hR]; exact hroom.2.1⟩, hts _ hi2, trivial⟩ ⟨mp_blind E _ _ _, fun U hU hW => ⟨rfl, by rw [hU], by rw [hU]; exact hPc, va_K.moved hW.alike hK, ⟨mp_N_warm hW hN.1, mp_S_warm hW (by rw [hU]; exact hS.2.1) (fun q z => va_free (wc := wc) hD hS hA isC hC1 q z) hN.2⟩, hDc.weaken (fun _ _ _ _ => trivial)⟩⟩ rfl rfl hl.1 rfl (lv_room hcat) hdg ⟨by rw [hR]; exact hroom.2.2.1, by rw [hR]; exact hroom.2.2.2⟩
theorem mp_objInit (hF : mp_F E X M) (hl1 : Jvm.Cond.methodLink M.1 idx objectInit ∈ mp_UT) (hroom : 1 ≤ M.2.2.2.1.1 ∧ (rest.map (fun v => v.category)).sum + 12 ≤ M.2.2.2.1.2.2.2) (hdg : decode M.2.1 pc = .ok (.invokespecial idx, 3)) (kk : mp_W E X M.2.2.1 (pc + 3) lv rest ws k n) : mp_W E X M.2.2.1 pc lv (.ref a :: rest) ws k n := by
  intro H locs ls hP hD hS hl
  obtain ⟨hx, hb, hml, hown, hts, hK, hA, hlk, hR, hrt, hin, hN⟩ := hF
  exact W.objInit hx hb hown (hts _ hl1) (hts _ mp_oi1) (hts _ mp_oi2) rfl (hl.1.trans hml.symm) rfl hdg (by rw [hR]; exact hroom.1) (by rw [hR]; show 2 * 0 + _ + 12 ≤ _; have := hroom.2; simp only [Nat.mul_zero, Nat.zero_add]; exact this) (kk H locs ls hP hD hS hl)
/-- a new object: its class's place, its fields at first -/
def mp_LN (own : String) (idx ci : Nat) (N : Nat) (fs : List Value) : Prop := ∃ (q : vw_C) (ty : Nat → FieldType), vwCl[ci]? = some q ∧ q.2.2 = N ∧ Jvm.Cond.classLink own idx q.1 ∈ mp_UT ∧ Jvm.Cond.instantiable q.1 q.2.2 ∈ mp_UT ∧ Jvm.Cond.initialized q.1 ∈ mp_UT ∧ (∀ k, k < q.2.2 → parseFieldDescriptor (q.2.1 k).2.2.1 = some (ty k)) ∧ ∀ j, j < q.2.2 → defaultValue (ty j) = vp_V fs j
theorem mp_new (hF : mp_F E X M) {N : Nat} {fs : List Value} (hL : mp_LN M.1 idx ci N fs) (hroom : k + 1 ≤ M.2.2.2.1.2.1 ∧ n + N ≤ M.2.2.2.1.2.2.1) (hdg : decode M.2.1 pc = .ok (.new idx, 3)) (kk : ∀ q : Nat, mp_W E X M.2.2.1 (pc + 3) lv (.ref q :: rest) (ws ++ [(q, .inr (ci, fs))]) (k + 1) (n + N)) : mp_W E X M.2.2.1 pc lv rest ws k n := by
  intro H locs ls hP hD hS hl
  obtain ⟨hx, hb, hml, hown, hts, hK, hA, hlk, hR, hrt, hin, hN⟩ := hF
  obtain ⟨q, ty, hq, hN, h1, h2, h3, h4, h5⟩ := hL
  obtain ⟨-, -, -, hwin⟩ := mp_cell0 _ q hq
  subst hN
  exact va_new hx hb hts hwin ty h4 hown (hts _ h1) (hts _ h2) (hts _ h3) hK hP hD hS hA hq h5 (by rw [hR]; exact hroom.1) (by rw [hR]; exact hroom.2) hdg (fun a H1 hP hD hS => kk a H1 locs ls hP hD hS hl)
theorem mp_newq (hF : mp_F E X M) (hl1 : Jvm.Cond.classLink M.1 idx RX7 ∈ mp_UT) {x : Int32} {N : Nat} (h0 : 0 ≤ x.toInt) (h1 : x.toInt = N) (hN1 : N ≤ 100000) (hroom : k + 1 ≤ M.2.2.2.1.2.1 ∧ n + N ≤ M.2.2.2.1.2.2.1) (hdg : decode M.2.1 pc = .ok (.anewarray idx, 3)) (kk : ∀ q : Nat, mp_W E X M.2.2.1 (pc + 3) lv (.ref q :: rest) (ws ++ [(q, .inl (E.2.2 4, N, .inr (.inr (.inr (.inr (fun _ => none))))))]) (k + 1) (n + N)) : mp_W E X M.2.2.1 pc lv (.int x :: rest) ws k n := by
  intro H locs ls hP hD hS hl
  obtain ⟨hx, hb, hml, hown, hts, hK, hA, hlk, hR, hrt, hin, hN⟩ := hF
  refine va_newq hx hb hown (hts _ hl1) hN.1.2 hK hP hD hS hA (N' := N) (fun q => by rw [mp_i32_lt, mp_t0] at q; omega) (by rw [Int32.toNatClampNeg, h1]; rfl) (by omega) (by rw [hR]; exact hroom.1) (by rw [hR]; exact hroom.2) hdg (fun q cA H1 hK1 hP hD hS => ?_)
  have e : cA = E.2.2 4 := by
    obtain ⟨-, -, -, -, -, a1⟩ := (hK1.2 5 _ rfl).2
    obtain ⟨-, -, -, -, -, a2⟩ := (hK.2 4 _ rfl).2
    rw [a1] at a2
    exact Option.some.inj a2
  subst e
  exact kk q H1 locs ls hP hD hS hl
theorem mp_tabOut (hF : mp_F E X M) {dflt lo hi : Int} {offs : Array Int} {len : Nat} {x : Int32} {tgt : Nat} (hdg : decode M.2.1 pc = .ok (.tableswitch dflt lo hi offs, len)) (h : x.toInt < lo ∨ hi < x.toInt) (ht : (pc : Int) + dflt = (tgt : Int)) (kk : mp_W E X M.2.2.1 tgt lv rest ws k n) : mp_W E X M.2.2.1 pc lv (.int x :: rest) ws k n := by
  intro H locs ls hP hD hS hl
  exact lv_tableOut hF.1 hF.2.1 hdg h ht (kk H locs ls hP hD hS hl)
theorem mp_tabIn (hF : mp_F E X M) {dflt lo hi : Int} {offs : Array Int} {len : Nat} {x : Int32} {off : Int} {tgt : Nat} (hdg : decode M.2.1 pc = .ok (.tableswitch dflt lo hi offs, len)) (h1 : ¬ x.toInt < lo) (h2 : ¬ hi < x.toInt) (ho : offs[(x.toInt - lo).toNat]? = some off) (ht : (pc : Int) + off = (tgt : Int)) (kk : mp_W E X M.2.2.1 tgt lv rest ws k n) : mp_W E X M.2.2.1 pc lv (.int x :: rest) ws k n := by
  intro H locs ls hP hD hS hl
  exact lv_tableIn hF.1 hF.2.1 hdg h1 h2 ho ht (kk H locs ls hP hD hS hl)
theorem mp_nonneg {z : Int32} (h : 0 ≤ z.toInt) : ¬ z < 0 := by
  intro q
  rw [mp_i32_lt, mp_t0] at q
  omega
theorem mp_copyi (hF : mp_F E X M) (hl1 : Jvm.Cond.methodLink M.1 idx arraycopyName ∈ mp_UT) (q0 q1 : Nat) {a0 a1 n0 n1 : Nat} {f g : Nat → Int32} (ha0 : ws[q0]? = some (a0, .inl (E.2.2 0, n0, .inl f))) (ha1 : ws[q1]? = some (a1, .inl (E.2.2 0, n1, .inl g))) {sp dp m : Int32} (h1 : 0 ≤ sp.toInt) (h2 : 0 ≤ dp.toInt) (h3 : 0 ≤ m.toInt) (h4 : sp.toInt + m.toInt ≤ n0) (h5 : dp.toInt + m.toInt ≤ n1)
    (hroom : 1 ≤ M.2.2.2.1.1 ∧ (rest.map (fun v => v.category)).sum + 18 ≤ M.2.2.2.1.2.2.2) (hdg : decode M.2.1 pc = .ok (.invokestatic idx, 3))
    (kk : ∀ g' : Nat → Int32, g' = va_cpy f g sp.toNatClampNeg dp.toNatClampNeg m.toNatClampNeg → mp_W E X M.2.2.1 (pc + 3) lv rest (ws.set q1 (a1, .inl (E.2.2 0, n1, .inl g'))) k n) : mp_W E X M.2.2.1 pc lv (.int m :: .int dp :: .ref a1 :: .int sp :: .ref a0 :: rest) ws k n := by
  intro H locs ls hP hD hS hl
  obtain ⟨hx, hb, hml, hown, hts, hK, hA, hlk, hR, hrt, hin, hN⟩ := hF
  exact va_copyi hx hb (hml.trans hl.1.symm) hown (hts _ hl1) (hts _ mp_ac1) (hts _ mp_ac2) (hts _ mp_ac3) hK hP hD hS q0 q1 0 0 ha0 ha1 rfl rfl rfl (mp_nonneg h1) (mp_nonneg h2) (mp_nonneg h3) (by simp only [Int32.toNatClampNeg]; omega) (by simp only [Int32.toNatClampNeg]; omega) (fun _ _ => rfl) (by rw [hR]; exact hroom.1) (by rw [hR]; exact hroom.2) hdg (fun H1 locs1 hP hD hS => kk _ rfl H1 locs1 ls hP hD hS hl)
theorem mp_copyl (hF : mp_F E X M) (hl1 : Jvm.Cond.methodLink M.1 idx arraycopyName ∈ mp_UT) (q0 q1 : Nat) {a0 a1 n0 n1 : Nat} {f g : Nat → Int64} (ha0 : ws[q0]? = some (a0, .inl (E.2.2 2, n0, .inr (.inl f)))) (ha1 : ws[q1]? = some (a1, .inl (E.2.2 2, n1, .inr (.inl g)))) {sp dp m : Int32} (h1 : 0 ≤ sp.toInt) (h2 : 0 ≤ dp.toInt) (h3 : 0 ≤ m.toInt) (h4 : sp.toInt + m.toInt ≤ n0) (h5 : dp.toInt + m.toInt ≤ n1)
    (hroom : 1 ≤ M.2.2.2.1.1 ∧ (rest.map (fun v => v.category)).sum + 18 ≤ M.2.2.2.1.2.2.2) (hdg : decode M.2.1 pc = .ok (.invokestatic idx, 3))
    (kk : ∀ g' : Nat → Int64, g' = va_cpy f g sp.toNatClampNeg dp.toNatClampNeg m.toNatClampNeg → mp_W E X M.2.2.1 (pc + 3) lv rest (ws.set q1 (a1, .inl (E.2.2 2, n1, .inr (.inl g')))) k n) : mp_W E X M.2.2.1 pc lv (.int m :: .int dp :: .ref a1 :: .int sp :: .ref a0 :: rest) ws k n := by
  intro H locs ls hP hD hS hl
  obtain ⟨hx, hb, hml, hown, hts, hK, hA, hlk, hR, hrt, hin, hN⟩ := hF
  exact va_copyl hx hb (hml.trans hl.1.symm) hown (hts _ hl1) (hts _ mp_ac1) (hts _ mp_ac2) (hts _ mp_ac3) hK hP hD hS q0 q1 2 2 ha0 ha1 rfl rfl rfl (mp_nonneg h1) (mp_nonneg h2) (mp_nonneg h3) (by simp only [Int32.toNatClampNeg]; omega) (by simp only [Int32.toNatClampNeg]; omega) (fun _ _ => rfl) (by rw [hR]; exact hroom.1) (by rw [hR]; exact hroom.2) hdg (fun H1 locs1 hP hD hS => kk _ rfl H1 locs1 ls hP hD hS hl)
end MPC
/-- fewer locals, the world in another order or less of it -/
theorem mp_sub {E : mp_E} {X : mp_X} {nL pc : Nat} {lv lv' : List (Nat × Value)} {st : List Value} {ws ws' : va_W} {k n : Nat} (ks : List Nat) (hk : lv_pick lv ks = lv') (is : List Nat) (hs : is.map (fun i => ws[i]?) = ws'.map some) (hnd : va_nd is = true) (h : mp_W E X nL pc lv' st ws' k n) : mp_W E X nL pc lv st ws k n := by
  intro H locs ls hP hD hS hl
  exact h H locs ls (hP.sub is (mp_fm hs)) (hD.sub is hnd hs) hS (lv_sub hl ks hk)
