def R_law : String := "MoonPromisesLaw"
def lw_P (b : Addr) (xs : List Int32) (args : Array Value) (s : State) : Prop := args = #[.ref b] ∧ s.IntsAt b xs ∧ xs.length ≤ 3072 ∧ (Jvm.Cond.and given_1 narrow_1).before args s = true
def lw_Q (_ : Array Value) (s : State) (o : Outcome) (t : State) : Prop := o = .returned (some (.int 1)) ∧ Framed s o t [] 600000 7302250
def lw_Z (below : List Frame) (a : Array Value) (s : State) : State → Prop := fun t => ∃ o, t.status = .running ∧ Ended t below o ∧ lw_Q a s o t
/-- the law's own end, with 1 on the stack, nothing written that was there before, its room as the claim has it -/
theorem lw_ret {p : Program} {l : Launch} {e : Env} {s : State} {m : MethodId} {below : List Frame} {meth : Method} {c : Code} {b : Nat} (hx : p.tables.exec = Jvm.exec) (hb : c.code = code) (hr : meth.sig.returnType = ret) (hlocks : meth.locks = false) {pc : Nat} {H : Heap} {ls : Array Slot} (hdg : decode code pc = .ok (.ireturn, 1)) : W p l e room_1 s m #[Value.ref b] below meth c H [] 600000 7302250 (lw_Z below #[Value.ref b] s) (F0 m pc ls [.int 1]) := by
  intro T hT X
  obtain ⟨fs, hret, hrun, hended, hW, hframe⟩ := X.leave (v := some (.int 1)) (hlocks := hlocks) (fun h => by rw [hr] at h; cases h)
  have hmeth' : T.vm.method? m = some meth := X.method'
  refine ⟨T.setFrames fs, ?_, .returned (some (.int 1)), hrun, hended, rfl, ⟨_, rfl⟩, hW, hframe⟩
  jvm_step X.here [X.here.top, hx, hb, hdg, hmeth', hr, ret, narrow_b1]
  (try refine ⟨rfl, ?_⟩); (try refine ⟨rfl, ?_⟩)
  first | (intro acts; rw [hret _ acts rfl rfl rfl]) | rw [hret _ _ rfl rfl rfl]
  exact Steps.refl _
/-- what holds at the law's entry: the machine, the code, the tables' words (any of lw_tbl by 'hts w (by decide +kernel)'), the script of L ints xs at the cell b, what the Statement gives of the start (any of its parts by flat_of_before) -/
def lw_At (p : Program) (s : State) (m : MethodId) (meth : Method) (c : Code) (b L : Nat) (xs : Nat → Int32) : Prop :=
  p.tables.exec = Jvm.exec ∧ c.code = code ∧ meth.sig.returnType = ret ∧ c.maxLocals = 4 ∧ s.vm.findClass R_law = some m.cls ∧ (∀ w ∈ lw_tbl, w.before #[Value.ref b] s = true) ∧ va_X b L xs s s.heap ∧ b < s.heap.size ∧ meth.locks = false ∧ (Jvm.Cond.and given_1 narrow_1).before #[Value.ref b] s = true
-- ===== YOUR PART BEGINS =====
/-- YOUR PART: from the entry, for every script of at most 3072 ints, the law comes to its end with true -/
theorem whole_start {p : Program} {e : Env} {s : State} {m : MethodId} {below : List Frame} {meth : Method} {c : Code} (l : Launch) {b L : Nat} {xs : Nat → Int32} (hL : L ≤ 3072) (C0 : lw_At p s m meth c b L xs) : W p l e room_1 s m #[Value.ref b] below meth c s.heap [] 0 0 (lw_Z below #[Value.ref b] s) (entryFrame m ([Value.ref b] : List Value).toArray 4) := by
  obtain ⟨hx, hb, hr, hml, hown, hts, hX, hbl, hlk, hgv⟩ := C0
  have hut : ∀ w ∈ mp_UT, w.before #[Value.ref b] s = true := fun w h => hts w (mp_utIn w h)
  have hs := flat_of_before _ hgv
  have hAq : ∀ a : Nat, a < s.heap.size → ¬ s.heap.size ≤ a := fun a h q => absurd h (Nat.not_lt.mpr q)
  obtain ⟨adK, adV, hSS, hev⟩ := vk_Sof (args := #[Value.ref b]) (s := s) (N := 14) (tm := mp_tm) (len := mp_sl) (byt := mp_sb) (A := fun q => s.heap.size ≤ q) (by decide +kernel)
    (fun i hi => hs _ (mp_w1 i hi)) (fun i hi => hs _ (mp_w2 i hi)) (fun i hi => hs _ (mp_w3 i hi)) (fun i hi => hs _ (mp_w4 i hi)) (fun i hi j hj => hs _ (mp_w5 i hi j hj))
    (fun i j hi hj hij => (mp_w6 i hi j hj hij).imp (fun h => hs _ h) (fun h => hs _ h)) hAq
  have hkn : ∀ c : Nat, ∃ d : ClassId × (Nat → Nat), ∀ q : vw_C, vwCl[c]? = some q → u_Kn s q.1 q.2.1 q.2.2 d.1 d.2 := by
    intro c
    cases h : vwCl[c]? with
    | none => exact ⟨(m.cls, fun _ => 0), fun q e => by cases e⟩
    | some q =>
      obtain ⟨-, -, -, h4⟩ := mp_cell0 c q h
      obtain ⟨cC, iS, hk⟩ := u_known hut h4 (hut _ (mp_ins q (List.mem_of_getElem? h)))
      exact ⟨(cC, iS), fun q' e => by cases e; exact hk⟩
  obtain ⟨dd, hdd⟩ := Classical.axiomOfChoice hkn
  obtain ⟨c0, k0, p0, h01, h02, h03⟩ := Cond.arrayClass_spec (hut (.arrayClass .int) (mp_gm (j := 1147) (by decide +kernel)))
  obtain ⟨c1, k1, p1, h11, h12, h13⟩ := Cond.arrayClass_spec (hut (.arrayClass .byte) (mp_gm (j := 1146) (by decide +kernel)))
  obtain ⟨c2, k2, p2, h21, h22, h23⟩ := Cond.arrayClass_spec (hut (.arrayClass .long) (mp_gm (j := 1148) (by decide +kernel)))
  obtain ⟨c3, k3, p3, h31, h32, h33⟩ := Cond.arrayClass_spec (hut (.arrayClass .boolean) (mp_gm (j := 6153) (by decide +kernel)))
  obtain ⟨p4, c4, k4, h41, h42, h43, h44, h45⟩ := Cond.arrayOver_spec (mp_N_start hts).2
  have hK : va_K (fun c => (dd c).1, fun c => (dd c).2) vwCl (mp_ty (fun k => match k with | 0 => c0 | 1 => c1 | 2 => c2 | 3 => c3 | _ => c4)) s := by
    refine ⟨fun c q h => hdd c q h, fun k q h => ?_⟩
    match k, h with
    | 0, h => obtain rfl := Option.some.inj h; exact ⟨fun n z => ⟨fun k h => (by cases h), k0, h02, p0, h03⟩, h01⟩
    | 1, h => obtain rfl := Option.some.inj h; exact ⟨fun n z => ⟨fun k h => (by cases h), k1, h12, p1, h13⟩, h11⟩
    | 2, h => obtain rfl := Option.some.inj h; exact ⟨fun n z => ⟨fun k h => (by cases h), k2, h22, p2, h23⟩, h21⟩
    | 3, h => obtain rfl := Option.some.inj h; exact ⟨fun n z => ⟨fun k h => (by cases h), k3, h32, p3, h33⟩, h31⟩
    | 4, h => obtain rfl := Option.some.inj h; exact ⟨fun n z => ⟨fun k h => (by cases h), k4, h43, p4, h44⟩, ⟨k4, p4, h43, h44, h41, h45⟩⟩
    | k + 5, h => exact absurd h (by simp [mp_ty])
  have hS : mp_S ((l, adK, adV), (fun c => (dd c).1, fun c => (dd c).2), (fun k => match k with | 0 => c0 | 1 => c1 | 2 => c2 | 3 => c3 | _ => c4)) (fun q => s.heap.size ≤ q) s :=
    ⟨hSS, List.forall_mem_cons.mpr ⟨vk_R.of (hts _ (mp_gl (j := 2225) (by decide +kernel))) (hev 0 (by decide)), List.forall_mem_cons.mpr ⟨vk_R.of (hts _ (mp_gl (j := 3050) (by decide +kernel))) (hev 1 (by decide)), List.forall_mem_cons.mpr ⟨vk_R.of (hts _ (mp_gl (j := 3055) (by decide +kernel))) (hev 2 (by decide)), List.forall_mem_cons.mpr ⟨vk_R.of (hts _ (mp_gl (j := 3060) (by decide +kernel))) (hev 3 (by decide)), List.forall_mem_cons.mpr ⟨vk_R.of (hts _ (mp_gl (j := 3065) (by decide +kernel))) (hev 4 (by decide)), List.forall_mem_cons.mpr ⟨vk_R.of (hts _ (mp_gl (j := 3070) (by decide +kernel))) (hev 5 (by decide)), List.forall_mem_cons.mpr ⟨vk_R.of (hts _ (mp_gl (j := 3075) (by decide +kernel))) (hev 6 (by decide)), List.forall_mem_cons.mpr ⟨vk_R.of (hts _ (mp_gl (j := 3076) (by decide +kernel))) (hev 7 (by decide)), List.forall_mem_cons.mpr ⟨vk_R.of (hts _ (mp_gl (j := 3077) (by decide +kernel))) (hev 8 (by decide)), List.forall_mem_cons.mpr ⟨vk_R.of (hts _ (mp_gl (j := 3082) (by decide +kernel))) (hev 9 (by decide)), List.forall_mem_cons.mpr ⟨vk_R.of (hts _ (mp_gl (j := 3083) (by decide +kernel))) (hev 10 (by decide)), List.forall_mem_cons.mpr ⟨vk_R.of (hts _ (mp_gl (j := 3085) (by decide +kernel))) (hev 11 (by decide)), List.forall_mem_cons.mpr ⟨vk_R.of (hts _ (mp_gl (j := 3094) (by decide +kernel))) (hev 12 (by decide)), List.forall_mem_cons.mpr ⟨vk_R.of (hts _ (mp_gl (j := 3099) (by decide +kernel))) (hev 13 (by decide)), fun _ h => absurd h List.not_mem_nil⟩⟩⟩⟩⟩⟩⟩⟩⟩⟩⟩⟩⟩⟩, va_Zof (hts _ (mp_gl (j := 2239) (by decide +kernel))) (hut _ (mp_gm (j := 1014) (by decide +kernel))) (va_eqt (hs _ mp_w7)) hAq, va_Zqof (hts _ (mp_gl (j := 3015) (by decide +kernel))) (hut _ (mp_gm (j := 1016) (by decide +kernel))) (hs _ mp_w8) hAq⟩
  have hW := mp_main (E := ((l, adK, adV), (fun c => (dd c).1, fun c => (dd c).2), (fun k => match k with | 0 => c0 | 1 => c1 | 2 => c2 | 3 => c3 | _ => c4)))
    (X := ((p, e, room_1), (s, m, #[Value.ref b], below), (meth, c), ((fun q => s.heap.size ≤ q), lw_Z below #[Value.ref b] s))) (b := b) (L := L) (xs := xs)
    ⟨⟨hx, hb, hml, hown, hut, hK, fun q h => h, hlk, rfl, hr, (fun h => by cases h), ⟨mp_N_start hts, hS⟩⟩, hX, hbl, fun h => absurd hbl (Nat.not_lt.mpr h), fun pc lv ws k n hk hn hdg H locs ls hP hD hS hl => va_forget (fun q hq => hS.2.2 q hq) (W.widen hk hn (lw_ret hx hb hr hlk hdg))⟩ hL
  have hl := lv_entry ([Value.ref b] : List Value) (n := 4) (Nat.le_of_ble_eq_true rfl)
  rw [lg_entry_eq]
  exact hW s.heap [] _ (fun k q h => by cases h) ⟨fun i j p q h => (by cases h), fun k q h => (by cases h)⟩ va_S.rf hl
-- ===== YOUR PART ENDS =====
set_option maxHeartbeats 4000000 in
theorem lw_walk (l : Launch) (b : Addr) (xs : List Int32) : MetFree l x (headSpec (Jvm.Cond.code x code maxLocals ret :: tables_1) room_1) (lw_P b xs) (fun _ _ _ _ _ => True) lw_Q := by
  refine MetFree.of_bodyS (code := code) (maxLocals := maxLocals) (ret := ret) (by decide) ?_ ?_
  · intro args s m h hn
    obtain ⟨meth, c, h1, h2, h3, h4, h5, h6, -, -⟩ := Cond.code_spec hn (atoms_spec (ws := Jvm.Cond.code x code maxLocals ret :: tables_1) h _ List.mem_cons_self)
    exact ⟨meth, c, h1, h2, h3, h4, h5, h6⟩
  · intro p e s m args below meth c s₁ B hml0 hP _
    obtain ⟨rfl, hx, hbd, hgv⟩ := hP
    obtain ⟨scr, harrAt, hlist, hof, hsmall⟩ := hx
    obtain ⟨hcb, hkn, -, -⟩ := State.arrayAt?_spec harrAt
    have hown : s.vm.findClass R_law = some m.cls := findClass_of_methodNamed B.named
    have hts0 : ∀ c ∈ (Jvm.Cond.code x code maxLocals ret :: tables_1), c.before #[Value.ref b] s = true := atoms_spec (ws := Jvm.Cond.code x code maxLocals ret :: tables_1) B.pre
    have hts : ∀ w ∈ lw_tbl, w.before #[Value.ref b] s = true := k2_hts_sels lw_privs (fun w hw => hts0 w (List.mem_cons_of_mem _ hw)) lw_privs_ok
    have hml : c.maxLocals = 4 := B.maxLocals_eq (hts0 _ List.mem_cons_self)
    have X₀ : Stand p l e room_1 s m #[Value.ref b] below meth c s₁ [] 0 0 := Stand.of_body B
    have hh0 : s₁.heap = s.heap := by rw [B.state]; rfl
    have hsz : scr.slots.size = xs.length := by rw [← Array.length_toList, hlist, List.length_map]
    have hval : ∀ j : Nat, j < xs.length → scr.slots[j]? = some (.int (xs.getD j 0)) := fun j hj => by
      rw [← Array.getElem?_toList, hlist]
      simp [hj]
    have hbl : b < s.heap.size := (Array.getElem?_eq_some_iff.mp hcb).1
    have hX : va_X b xs.length (fun j => xs.getD j 0) s s.heap := ⟨scr, hcb, hof, hkn, hsz, hval⟩
    have K : W p l e room_1 s m #[Value.ref b] below meth c s₁.heap [] 0 0 (lw_Z below #[Value.ref b] s) (entryFrame m ([Value.ref b] : List Value).toArray 4) := by
      rw [hh0]
      exact whole_start l hbd ⟨B.exec, B.bytes, B.returns, hml, hown, hts, hX, hbl, B.notSynchronized, hgv⟩
    obtain ⟨t, a1, o, b1, b2, b3⟩ := K s₁ rfl X₀
    exact ⟨t, o, a1, b1, b2, b3⟩
theorem lw_pre_spec {args : Array Value} {s : State} (h : (Jvm.Cond.and given_1 narrow_1).before args s = true) (hr : rest_1_c.before args s = true) : ∃ (b : Addr) (xs : List Int32), lw_P b xs args s := by
  have hs := flat_of_before _ h
  have hq := flat_of_before _ hr
  have hc : (Cond.count 1).before args s = true := hs _ (by decide +kernel)
  have harr : (Cond.arrayOf (.arg 0) .int).before args s = true := hs _ (by decide +kernel)
  have hle : (Cond.le (.length (.arg 0)) (.int 3072)).before args s = true := hs _ (by decide +kernel)
  have hlen : (Cond.isInt (.length (.arg 0))).before args s = true := hq _ (by decide +kernel)
  have hall : (Cond.all (.arg 0) (.isInt (.elem (.arg 0) (.index 0)))).before args s = true := hq _ (by decide +kernel)
  obtain ⟨b, xs, hb, hx⟩ := State.ints_of_pre rfl harr hlen hall
  have hsm : xs.length < 2 ^ 31 := hx.choose_spec.2.2.2
  have hev : (Term.length (.arg 0)).eval args s none [] s = some (.int xs.length.toInt32) := hx.length_eval hb
  have hv := Cond.le_ints hev (show (Term.int 3072).eval args s none [] s = some (.int 3072) from rfl)
  have hd : xs.length.toInt32 ≤ 3072 := by
    simpa [Cond.before, Cond.holds, hv] using hle
  have hN : xs.length ≤ 3072 := (Int32.ofNat_le_ofNat hsm (by decide)).mp (show Int32.ofNat xs.length ≤ Int32.ofNat 3072 from hd)
  exact ⟨b, xs, Cond.one_arg hc (show args[0]? = some (.ref b) from hb), hx, hN, h⟩
theorem lw_comes (l : Launch) : Comes l x (Jvm.Cond.code x code maxLocals ret :: tables_1) room_1 (fun tb e args s => Calls_1 tb e args s ∧ rest_1 tb e args s ∧ Pre_1 tb e args s)
    (fun _ _ args s o t => lw_Q args s o t) := by
  intro p e ha hc hk s m args below hf hfit hheap happ hpre
  obtain ⟨b, xs, hP⟩ := lw_pre_spec hpre.2.2 hpre.2.1
  obtain ⟨k, o, h1, h2, h3, hQ⟩ := lw_walk l b xs p e ha hc hk s m args below hf ((Spec.applies_iff_loose hf).mp happ).1 hP trivial
  exact ⟨k, o, h1, h2, h3, hQ⟩
theorem lw_frame {s t : State} {o : Outcome} {args : Array Value} (h : Framed s o t [] 600000 7302250) :
    Framed s o t (fieldLocs frame_1_writes args s ++ arrayLocs frame_1_arrays args s ++ staticLocs frame_1_statics s) 600000 7302250 := h
theorem lw_limb (L : Cond) (hL : ∀ (args : Array Value) (s t : State), L.after args s (.returned (some (.int 1))) t = true) :
    ArmFor flags0 classFile x code maxLocals ret World_1 tables_1 room_1 Calls_1 rest_1 Pre_1
      (fun tb e a s o t => postC L tb e a s o t ∧ Framed s o t (fieldLocs frame_1_writes a s ++ arrayLocs frame_1_arrays a s ++ staticLocs frame_1_statics s) 600000 7302250) := by
  intro l _ _ _ p e ha hc hk s m args below hf hfit hheap happ hpre
  obtain ⟨k, o, h1, h2, h3, rfl, hF⟩ := lw_comes l p e ha hc hk s m args below hf hfit hheap happ hpre
  exact ⟨k, _, h1, h2, h3, hL args s _, lw_frame hF⟩
theorem i_vc : Claimed_1_1 ∧ Claimed_1_2 := ⟨lw_limb limb_1_1 (fun args s t => by simp [limb_1_1, Cond.after, Cond.holds, Cond.value]), lw_limb limb_1_2 (fun args s t => Cond.after_iff.mpr (by
  first | (rw [show limb_1_2 = Cond.eq .result (.int 1) from rfl, Cond.eq_ints (x := 1) (y := 1) rfl rfl]; simp; done) | (simp [limb_1_2, Cond.value, Term.eval]; done)))⟩
