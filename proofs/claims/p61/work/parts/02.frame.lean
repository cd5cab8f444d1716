/-! THE BLOCK RUNNER: W with its locals, stack and world said in one place (mp_W); a block of decoded instructions with hints (mp_wp), run at once (mp_run); calls, ends, contracts (mp_Ct) -/
/-! string constants: their texts in bytes, the class and the entry that names them -/
def mp_sl : List Nat := [5, 2, 3, 4, 6, 2, 4, 5, 7, 2, 5, 4, 5, 4]
def mp_sb : List (List Int32) := [[105, 115, 108, 101, 115], [97, 116], [115, 101, 97], [111, 97, 114, 115], [112, 101, 114, 115, 111, 110], [111, 110], [100, 105, 101, 115], [116, 101, 110, 100, 115], [112, 114, 111, 109, 105, 115, 101], [116, 111], [119, 111, 114, 116, 104], [115, 97, 105, 100], [100, 114, 117, 110, 107], [115, 104, 117, 116]]
def mp_strs : List (String × Nat × String × Nat) := [(RX3, 54, "isles", 0), (RX3, 100, "at", 1), (RX3, 67, "sea", 2), (RX3, 108, "oars", 3), (RX3, 72, "person", 4), (RX3, 117, "on", 5), (RX3, 123, "dies", 6), (RX3, 129, "tends", 7), (RX3, 77, "promise", 8), (RX3, 134, "to", 9), (RX3, 136, "worth", 10), (RX3, 139, "said", 11), (RX3, 148, "drunk", 12), (RX3, 152, "shut", 13)]
abbrev mp_E : Type := (Launch × (Nat → Nat) × (Nat → Nat)) × va_G × (Nat → ClassId)
abbrev mp_ob0 (a : Nat) (x0 : Nat) (x1 : Int32) (x2 : Nat) (x3 : Nat) (x4 : Nat) (x5 : Nat) (x6 : Nat) (x7 : Nat) : Nat × va_E := (a, .inr (0, [.ref x0, .int x1, .ref x2, .ref x3, .ref x4, .ref x5, .ref x6, .ref x7]))
abbrev mp_ob1 (a : Nat) (x0 : Nat) (x1 : Int32) (x2 : Int32) (x3 : Nat) : Nat × va_E := (a, .inr (1, [.ref x0, .int x1, .int x2, .ref x3]))
abbrev mp_ob2 (a : Nat) (x0 : Int32) (x1 : Int32) (x2 : Int32) (x3 : Int32) (x4 : Nat) (x5 : Nat) (x6 : Nat) (x7 : Nat) (x8 : Nat) (x9 : Int32) (x10 : Int32) : Nat × va_E := (a, .inr (2, [.int x0, .int x1, .int x2, .int x3, .ref x4, .ref x5, .ref x6, .ref x7, .ref x8, .int x9, .int x10]))
abbrev mp_ob3 (a : Nat) (x0 : Nat) (x1 : Int32) (x2 : Nat) (x3 : Int32) (x4 : Int32) (x5 : Int32) (x6 : Int32) (x7 : Int32) (x8 : Int32) (x9 : Int32) : Nat × va_E := (a, .inr (3, [.ref x0, .int x1, .ref x2, .int x3, .int x4, .int x5, .int x6, .int x7, .int x8, .int x9]))
abbrev mp_ob4 (a : Nat) (x0 : Int32) (x1 : Int32) (x2 : Int32) (x3 : Nat) (x4 : Int32) (x5 : Int32) (x6 : Int32) (x7 : Int32) (x8 : Int32) (x9 : Nat) : Nat × va_E := (a, .inr (4, [.int x0, .int x1, .int x2, .ref x3, .int x4, .int x5, .int x6, .int x7, .int x8, .ref x9]))
abbrev mp_ob5 (a : Nat) (x0 : Nat) (x1 : Nat) (x2 : Nat) : Nat × va_E := (a, .inr (5, [.ref x0, .ref x1, .ref x2]))
abbrev mp_ob6 (a : Nat) (x0 : Int32) (x1 : Nat) (x2 : Nat) : Nat × va_E := (a, .inr (6, [.int x0, .ref x1, .ref x2]))
abbrev mp_ob7 (a : Nat) (x0 : Int32) (x1 : Int32) (x2 : Int32) (x3 : Int32) (x4 : Int32) (x5 : Int32) (x6 : Nat) (x7 : Nat) (x8 : Nat) (x9 : Nat) (x10 : Nat) (x11 : Nat) (x12 : Nat) (x13 : Nat) (x14 : Nat) (x15 : Nat) (x16 : Nat) (x17 : Nat) : Nat × va_E := (a, .inr (7, [.int x0, .int x1, .int x2, .int x3, .int x4, .int x5, .ref x6, .ref x7, .ref x8, .ref x9, .ref x10, .ref x11, .ref x12, .ref x13, .ref x14, .ref x15, .ref x16, .ref x17]))
abbrev mp_ob8 (a : Nat) (x0 : Nat) (x1 : Int32) (x2 : Int32) : Nat × va_E := (a, .inr (8, [.ref x0, .int x1, .int x2]))
abbrev mp_ob9 (a : Nat) (x0 : Nat) (x1 : Nat) (x2 : Nat) (x3 : Nat) (x4 : Nat) (x5 : Nat) (x6 : Nat) (x7 : Nat) (x8 : Nat) : Nat × va_E := (a, .inr (9, [.ref x0, .ref x1, .ref x2, .ref x3, .ref x4, .ref x5, .ref x6, .ref x7, .ref x8]))
abbrev mp_ob10 (a : Nat) (x0 : Int32) (x1 : Nat) (x2 : Nat) (x3 : Nat) (x4 : Nat) (x5 : Nat) (x6 : Int32) (x7 : Int32) (x8 : Int32) (x9 : Int32) (x10 : Int32) (x11 : Int64) (x12 : Int32) (x13 : Int32) (x14 : Int32) (x15 : Int32) (x16 : Nat) (x17 : Nat) (x18 : Nat) (x19 : Nat) (x20 : Nat) (x21 : Nat) (x22 : Nat) (x23 : Nat) (x24 : Int32) (x25 : Nat) (x26 : Nat) (x27 : Nat) (x28 : Nat) (x29 : Int32) (x30 : Int32) (x31 : Int32) (x32 : Nat) (x33 : Nat) (x34 : Int32) (x35 : Int32) (x36 : Nat) (x37 : Nat) (x38 : Nat) (x39 : Int32) (x40 : Int32) (x41 : Int32) (x42 : Int32) (x43 : Nat) (x44 : Nat) (x45 : Nat) (x46 : Int32) : Nat × va_E := (a, .inr (10, [.int x0, .ref x1, .ref x2, .ref x3, .ref x4, .ref x5, .int x6, .int x7, .int x8, .int x9, .int x10, .long x11, .int x12, .int x13, .int x14, .int x15, .ref x16, .ref x17, .ref x18, .ref x19, .ref x20, .ref x21, .ref x22, .ref x23, .int x24, .ref x25, .ref x26, .ref x27, .ref x28, .int x29, .int x30, .int x31, .ref x32, .ref x33, .int x34, .int x35, .ref x36, .ref x37, .ref x38, .int x39, .int x40, .int x41, .int x42, .ref x43, .ref x44, .ref x45, .int x46]))
abbrev mp_arI (E : mp_E) (a t n : Nat) (f : Nat → Int32) : Nat × va_E := (a, .inl (E.2.2 t, n, .inl f))
abbrev mp_arL (E : mp_E) (a n : Nat) (f : Nat → Int64) : Nat × va_E := (a, .inl (E.2.2 2, n, .inr (.inl f)))
def mp_S (E : mp_E) (A : Nat → Prop) (U : State) : Prop := vk_S 14 mp_sl mp_sb E.1.2.1 E.1.2.2 A U U.heap ∧ (∀ q ∈ mp_strs, vk_R q.1 q.2.1 q.2.2.1 (E.1.2.1 q.2.2.2) U) ∧ va_Z "java/lang/String" "COMPACT_STRINGS" "Z" (.int 1) A U U.heap ∧ va_Zq "jdk/internal/util/Preconditions" "SIOOBE_FORMATTER" "Ljava/util/function/BiFunction;" A U U.heap
theorem mp_S_same {E : mp_E} {A : Nat → Prop} {u U : State} (hh : U.heap = u.heap) (hv : U.vm = u.vm) (h : mp_S E A u) : mp_S E A U := by
  obtain ⟨h1, h2, h3, h4⟩ := h
  have hm : u.vm.Alike U.vm := by rw [hv]; exact Vm.Alike.refl _
  exact ⟨by rw [hh]; exact h1.moved hm, fun q hq => (h2 q hq).same hv, by rw [hh]; exact h3.moved hm, by rw [hh]; exact h4.moved hm⟩
theorem mp_S_warm {E : mp_E} {A B : Nat → Prop} {s U : State} (hW : s.WarmedH U.vm) (hq : ∀ a : Nat, a < s.heap.size → ¬ A a → U.heap[a]? = s.heap[a]?) (hAB : ∀ q, B q → A q) (h : mp_S E A s) : mp_S E B U := by
  obtain ⟨h1, h2, h3, h4⟩ := h
  exact ⟨((h1.kept hq).moved hW.alike).narrow hAB, fun q hq => (h2 q hq).warm hW, ((h3.kept hq).moved hW.alike).narrow hAB, ((h4.kept hq).moved hW.alike).narrow hAB⟩
def mp_NS (E : mp_E) (A : Nat → Prop) (U : State) : Prop := mp_N U ∧ mp_S E A U
abbrev mp_ty (cA : Nat → ClassId) : List (ClassId × FieldType) := [(cA 0, .int), (cA 1, .byte), (cA 2, .long), (cA 3, .boolean), (cA 4, .object RX7)]
abbrev mp_X : Type := (Program × Env × Room) × (State × MethodId × Array Value × List Frame) × (Method × Code) × ((Nat → Prop) × (State → Prop))
/-- own class, code, locals, (frames, cells, slots, words of locals), what it returns, whether it is a constructor -/
abbrev mp_M : Type := String × ByteArray × Nat × (Nat × Nat × Nat × Nat) × Option FieldType × Bool
def mp_W (E : mp_E) (X : mp_X) (nL pc : Nat) (lv : List (Nat × Value)) (st : List Value) (ws : va_W) (k n : Nat) : Prop :=
  ∀ (H : Heap) (locs : List Loc) (ls : Array Slot), va_P E.2.1 vwCl ws H → va_D X.2.2.2.1 ws → va_S X.2.2.2.1 X.2.1.1.heap H locs → lv_has ls nL lv →
    W X.1.1 E.1.1 X.1.2.1 X.1.2.2 X.2.1.1 X.2.1.2.1 X.2.1.2.2.1 X.2.1.2.2.2 X.2.2.1.1 X.2.2.1.2 H locs k n X.2.2.2.2 (F0 X.2.1.2.1 pc ls st)
def mp_F (E : mp_E) (X : mp_X) (M : mp_M) : Prop :=
  X.1.1.tables.exec = Jvm.exec ∧ X.2.2.1.2.code = M.2.1 ∧ X.2.2.1.2.maxLocals = M.2.2.1 ∧ X.2.1.1.vm.findClass M.1 = some X.2.1.2.1.cls ∧ (∀ w ∈ mp_UT, w.before X.2.1.2.2.1 X.2.1.1 = true) ∧
  va_K E.2.1 vwCl (mp_ty E.2.2) X.2.1.1 ∧ (∀ q : Nat, X.2.1.1.heap.size ≤ q → X.2.2.2.1 q) ∧ X.2.2.1.1.locks = false ∧
  X.1.2.2 = ({ frames := M.2.2.2.1.1, cells := M.2.2.2.1.2.1, slots := M.2.2.2.1.2.2.1, locals := M.2.2.2.1.2.2.2 } : Room) ∧ X.2.2.1.1.sig.returnType = M.2.2.2.2.1 ∧ (M.2.2.2.2.2 = true → X.2.2.1.1.name = "<init>") ∧ mp_NS E X.2.2.2.1 X.2.1.1
/-- an instruction, hints (places), a number -/
abbrev mp_I : Type := Instr × List Nat × Int32 × Int64
abbrev mp_i (o : Instr) : mp_I := (o, [], 0, 0)
abbrev mp_h (o : Instr) (h : List Nat) : mp_I := (o, h, 0, 0)
abbrev mp_c (o : Instr) (v : Int32) : mp_I := (o, [], v, 0)
abbrev mp_cl (o : Instr) (v : Int64) : mp_I := (o, [], 0, v)
/-- fields that a class links: pool number, class, slot, whether final, whether of the class itself, type -/
abbrev mp_L : Type := Nat × Nat × Nat × Bool × Bool × FieldType
abbrev mp_T : Type := List mp_L × List (Nat × Int32) × List (Nat × Int64)
def mp_lk1 (own : String) (x : mp_L) (j : Nat) : Bool := match vwCl[x.2.1]? with
  | none => false
  | some q => decide (x.2.2.1 < q.2.2) && mp_gK j (.fieldLink own x.1 (q.2.1 x.2.2.1).1 (q.2.1 x.2.2.1).2.1 (q.2.1 x.2.2.1).2.2.1) && decide ((q.2.1 x.2.2.1).2.2.2 = x.2.2.2.1) && decide (parseFieldDescriptor (q.2.1 x.2.2.1).2.2.1 = some x.2.2.2.2.2) && decide (x.2.2.2.2.1 = true → (q.2.1 x.2.2.1).1 = own)
def mp_lks (own : String) : List mp_L → List Nat → Bool
  | [], _ => true
  | x :: r, j :: js => mp_lk1 own x j && mp_lks own r js
  | _ :: _, [] => false
def mp_cks (own : String) : List (Nat × Int32) → List Nat → Bool
  | [], _ => true
  | x :: r, j :: js => mp_gK j (.constant own x.1 x.2) && mp_cks own r js
  | _ :: _, [] => false
def mp_cls (own : String) : List (Nat × Int64) → List Nat → Bool
  | [], _ => true
  | x :: r, j :: js => mp_gK j (.constantLong own x.1 x.2) && mp_cls own r js
  | _ :: _, [] => false
def mp_lkP (own : String) (x : mp_L) : Prop := ∃ q : vw_C, vwCl[x.2.1]? = some q ∧ x.2.2.1 < q.2.2 ∧ (Jvm.Cond.fieldLink own x.1 (q.2.1 x.2.2.1).1 (q.2.1 x.2.2.1).2.1 (q.2.1 x.2.2.1).2.2.1) ∈ mp_UT ∧ (q.2.1 x.2.2.1).2.2.2 = x.2.2.2.1 ∧ parseFieldDescriptor (q.2.1 x.2.2.1).2.2.1 = some x.2.2.2.2.2 ∧ (x.2.2.2.2.1 = true → (q.2.1 x.2.2.1).1 = own)
theorem mp_lk1_ok {own : String} {x : mp_L} {j : Nat} (h : mp_lk1 own x j = true) : mp_lkP own x := by
  unfold mp_lk1 at h
  split at h
  · exact absurd h (by decide)
  · rename_i q hq
    simp only [Bool.and_eq_true, decide_eq_true_eq] at h
    obtain ⟨⟨⟨⟨h1, h2⟩, h3⟩, h4⟩, h5⟩ := h
    exact ⟨q, hq, h1, mp_gm h2, h3, h4, h5⟩
theorem mp_lks_ok {own : String} : ∀ {l : List mp_L} {js : List Nat}, mp_lks own l js = true → ∀ x ∈ l, mp_lkP own x
  | [], _, _, x, hx => absurd hx List.not_mem_nil
  | y :: r, [], h, _, _ => absurd h (by simp [mp_lks])
  | y :: r, j :: js, h, x, hx => by
    simp only [mp_lks, Bool.and_eq_true] at h
    rcases List.mem_cons.mp hx with rfl | hx
    · exact mp_lk1_ok h.1
    · exact mp_lks_ok h.2 x hx
theorem mp_cks_ok {own : String} : ∀ {l : List (Nat × Int32)} {js : List Nat}, mp_cks own l js = true → ∀ x ∈ l, (Jvm.Cond.constant own x.1 x.2) ∈ mp_UT
  | [], _, _, x, hx => absurd hx List.not_mem_nil
  | y :: r, [], h, _, _ => absurd h (by simp [mp_cks])
  | y :: r, j :: js, h, x, hx => by
    simp only [mp_cks, Bool.and_eq_true, decide_eq_true_eq] at h
    rcases List.mem_cons.mp hx with rfl | hx
    · exact mp_gm h.1
    · exact mp_cks_ok h.2 x hx
theorem mp_cls_ok {own : String} : ∀ {l : List (Nat × Int64)} {js : List Nat}, mp_cls own l js = true → ∀ x ∈ l, (Jvm.Cond.constantLong own x.1 x.2) ∈ mp_UT
  | [], _, _, x, hx => absurd hx List.not_mem_nil
  | y :: r, [], h, _, _ => absurd h (by simp [mp_cls])
  | y :: r, j :: js, h, x, hx => by
    simp only [mp_cls, Bool.and_eq_true, decide_eq_true_eq] at h
    rcases List.mem_cons.mp hx with rfl | hx
    · exact mp_gm h.1
    · exact mp_cls_ok h.2 x hx
def mp_Tok (own : String) (t : mp_T) : Prop := (∀ x ∈ t.1, mp_lkP own x) ∧ (∀ x ∈ t.2.1, (Jvm.Cond.constant own x.1 x.2) ∈ mp_UT) ∧ (∀ x ∈ t.2.2, (Jvm.Cond.constantLong own x.1 x.2) ∈ mp_UT)
-- locals
def mp_find : List (Nat × Value) → Nat → Option Value
  | [], _ => none
  | q :: r, i => bif Nat.beq q.1 i then some q.2 else mp_find r i
theorem mp_find_mem : ∀ {l : List (Nat × Value)} {i : Nat} {v : Value}, mp_find l i = some v → (i, v) ∈ l
  | [], _, _, h => by cases h
  | q :: r, i, v, h => by
    unfold mp_find at h
    cases hb : Nat.beq q.1 i with
    | true =>
      rw [hb] at h
      have e : q.1 = i := Nat.eq_of_beq_eq_true hb
      have h : some q.2 = some v := h
      cases h
      subst e
      exact List.mem_cons_self
    | false =>
      rw [hb] at h
      exact List.mem_cons_of_mem _ (mp_find_mem h)
def mp_st1 (lv : List (Nat × Value)) (i : Nat) (v : Value) : List (Nat × Value) := (i, v) :: lv.filter (fun q => !(q.1 == i) && !(q.1 + 1 == i && q.2.category == 2))
def mp_st2 (lv : List (Nat × Value)) (i : Nat) (v : Value) : List (Nat × Value) := (i, v) :: lv.filter (fun q => !(q.1 == i) && (!(q.1 == i + 1) && !(q.1 + 1 == i && q.2.category == 2)))
def mp_vi (lv : List (Nat × Value)) (i : Nat) (K : Int32 → Prop) : Prop := match mp_find lv i with | some (.int x) => K x | _ => False
def mp_vl (lv : List (Nat × Value)) (i : Nat) (K : Int64 → Prop) : Prop := match mp_find lv i with | some (.long x) => K x | _ => False
def mp_vr (lv : List (Nat × Value)) (i : Nat) (K : Nat → Prop) : Prop := match mp_find lv i with | some (.ref x) => K x | _ => False
theorem mp_vi_of {lv : List (Nat × Value)} {i : Nat} {K : Int32 → Prop} (h : mp_vi lv i K) : ∃ x, mp_find lv i = some (.int x) ∧ K x := by
  unfold mp_vi at h
  split at h
  · rename_i x hx; exact ⟨x, hx, h⟩
  · exact h.elim
theorem mp_vl_of {lv : List (Nat × Value)} {i : Nat} {K : Int64 → Prop} (h : mp_vl lv i K) : ∃ x, mp_find lv i = some (.long x) ∧ K x := by
  unfold mp_vl at h
  split at h
  · rename_i x hx; exact ⟨x, hx, h⟩
  · exact h.elim
theorem mp_vr_of {lv : List (Nat × Value)} {i : Nat} {K : Nat → Prop} (h : mp_vr lv i K) : ∃ x, mp_find lv i = some (.ref x) ∧ K x := by
  unfold mp_vr at h
  split at h
  · rename_i x hx; exact ⟨x, hx, h⟩
  · exact h.elim
-- the stack
def mp_s1 (st : List Value) (K : Int32 → List Value → Prop) : Prop := match st with | .int x :: r => K x r | _ => False
def mp_s2 (st : List Value) (K : Int32 → Int32 → List Value → Prop) : Prop := match st with | .int y :: .int x :: r => K x y r | _ => False
def mp_sl1 (st : List Value) (K : Int64 → List Value → Prop) : Prop := match st with | .long x :: r => K x r | _ => False
def mp_sl2 (st : List Value) (K : Int64 → Int64 → List Value → Prop) : Prop := match st with | .long y :: .long x :: r => K x y r | _ => False
def mp_sli (st : List Value) (K : Int64 → Int32 → List Value → Prop) : Prop := match st with | .int y :: .long x :: r => K x y r | _ => False
def mp_sr (st : List Value) (K : Nat → List Value → Prop) : Prop := match st with | .ref x :: r => K x r | _ => False
def mp_sir (st : List Value) (K : Int32 → Nat → List Value → Prop) : Prop := match st with | .int i :: .ref a :: r => K i a r | _ => False
def mp_siir (st : List Value) (K : Int32 → Int32 → Nat → List Value → Prop) : Prop := match st with | .int x :: .int i :: .ref a :: r => K x i a r | _ => False
def mp_slir (st : List Value) (K : Int64 → Int32 → Nat → List Value → Prop) : Prop := match st with | .long x :: .int i :: .ref a :: r => K x i a r | _ => False
def mp_svr (st : List Value) (K : Value → Nat → List Value → Prop) : Prop := match st with | v :: .ref a :: r => K v a r | _ => False
theorem mp_s1_of {st : List Value} {K : Int32 → List Value → Prop} (h : mp_s1 st K) : ∃ x r, st = .int x :: r ∧ K x r := by
  unfold mp_s1 at h; split at h
  · exact ⟨_, _, rfl, h⟩
  · exact h.elim
theorem mp_s2_of {st : List Value} {K : Int32 → Int32 → List Value → Prop} (h : mp_s2 st K) : ∃ x y r, st = .int y :: .int x :: r ∧ K x y r := by
  unfold mp_s2 at h; split at h
  · exact ⟨_, _, _, rfl, h⟩
  · exact h.elim
theorem mp_sl1_of {st : List Value} {K : Int64 → List Value → Prop} (h : mp_sl1 st K) : ∃ x r, st = .long x :: r ∧ K x r := by
  unfold mp_sl1 at h; split at h
  · exact ⟨_, _, rfl, h⟩
  · exact h.elim
theorem mp_sl2_of {st : List Value} {K : Int64 → Int64 → List Value → Prop} (h : mp_sl2 st K) : ∃ x y r, st = .long y :: .long x :: r ∧ K x y r := by
  unfold mp_sl2 at h; split at h
  · exact ⟨_, _, _, rfl, h⟩
  · exact h.elim
theorem mp_sli_of {st : List Value} {K : Int64 → Int32 → List Value → Prop} (h : mp_sli st K) : ∃ x y r, st = .int y :: .long x :: r ∧ K x y r := by
  unfold mp_sli at h; split at h
  · exact ⟨_, _, _, rfl, h⟩
  · exact h.elim
theorem mp_sr_of {st : List Value} {K : Nat → List Value → Prop} (h : mp_sr st K) : ∃ x r, st = .ref x :: r ∧ K x r := by
  unfold mp_sr at h; split at h
  · exact ⟨_, _, rfl, h⟩
  · exact h.elim
theorem mp_sir_of {st : List Value} {K : Int32 → Nat → List Value → Prop} (h : mp_sir st K) : ∃ i a r, st = .int i :: .ref a :: r ∧ K i a r := by
  unfold mp_sir at h; split at h
  · exact ⟨_, _, _, rfl, h⟩
  · exact h.elim
theorem mp_siir_of {st : List Value} {K : Int32 → Int32 → Nat → List Value → Prop} (h : mp_siir st K) : ∃ x i a r, st = .int x :: .int i :: .ref a :: r ∧ K x i a r := by
  unfold mp_siir at h; split at h
  · exact ⟨_, _, _, _, rfl, h⟩
  · exact h.elim
theorem mp_slir_of {st : List Value} {K : Int64 → Int32 → Nat → List Value → Prop} (h : mp_slir st K) : ∃ x i a r, st = .long x :: .int i :: .ref a :: r ∧ K x i a r := by
  unfold mp_slir at h; split at h
  · exact ⟨_, _, _, _, rfl, h⟩
  · exact h.elim
theorem mp_svr_of {st : List Value} {K : Value → Nat → List Value → Prop} (h : mp_svr st K) : ∃ v a r, st = v :: .ref a :: r ∧ K v a r := by
  unfold mp_svr at h; split at h
  · exact ⟨_, _, _, rfl, h⟩
  · exact h.elim
-- the world
def mp_wo (ws : va_W) (q : Nat) (K : Nat → Nat → List Value → Prop) : Prop := match ws[q]? with | some (a, .inr (ci, fs)) => K a ci fs | _ => False
def mp_wi (ws : va_W) (q : Nat) (K : Nat → ClassId → Nat → (Nat → Int32) → Prop) : Prop := match ws[q]? with | some (a, .inl (cA, n, .inl f)) => K a cA n f | _ => False
def mp_wl (ws : va_W) (q : Nat) (K : Nat → ClassId → Nat → (Nat → Int64) → Prop) : Prop := match ws[q]? with | some (a, .inl (cA, n, .inr (.inl f))) => K a cA n f | _ => False
def mp_wq (ws : va_W) (q : Nat) (K : Nat → ClassId → Nat → (Nat → Option Nat) → Prop) : Prop := match ws[q]? with | some (a, .inl (cA, n, .inr (.inr (.inr (.inr f))))) => K a cA n f | _ => False
def mp_wa (ws : va_W) (q : Nat) (K : Nat → ClassId → vp_A → Prop) : Prop := match ws[q]? with | some (a, .inl (cA, x)) => K a cA x | _ => False
theorem mp_wo_of {ws : va_W} {q : Nat} {K : Nat → Nat → List Value → Prop} (h : mp_wo ws q K) : ∃ a ci fs, ws[q]? = some (a, .inr (ci, fs)) ∧ K a ci fs := by
  unfold mp_wo at h; split at h
  · rename_i e; exact ⟨_, _, _, e, h⟩
  · exact h.elim
theorem mp_wi_of {ws : va_W} {q : Nat} {K : Nat → ClassId → Nat → (Nat → Int32) → Prop} (h : mp_wi ws q K) : ∃ a cA n f, ws[q]? = some (a, .inl (cA, n, .inl f)) ∧ K a cA n f := by
  unfold mp_wi at h; split at h
  · rename_i e; exact ⟨_, _, _, _, e, h⟩
  · exact h.elim
theorem mp_wl_of {ws : va_W} {q : Nat} {K : Nat → ClassId → Nat → (Nat → Int64) → Prop} (h : mp_wl ws q K) : ∃ a cA n f, ws[q]? = some (a, .inl (cA, n, .inr (.inl f))) ∧ K a cA n f := by
  unfold mp_wl at h; split at h
  · rename_i e; exact ⟨_, _, _, _, e, h⟩
  · exact h.elim
theorem mp_wq_of {ws : va_W} {q : Nat} {K : Nat → ClassId → Nat → (Nat → Option Nat) → Prop} (h : mp_wq ws q K) : ∃ a cA n f, ws[q]? = some (a, .inl (cA, n, .inr (.inr (.inr (.inr f))))) ∧ K a cA n f := by
  unfold mp_wq at h; split at h
  · rename_i e; exact ⟨_, _, _, _, e, h⟩
  · exact h.elim
theorem mp_wa_of {ws : va_W} {q : Nat} {K : Nat → ClassId → vp_A → Prop} (h : mp_wa ws q K) : ∃ a cA x, ws[q]? = some (a, .inl (cA, x)) ∧ K a cA x := by
  unfold mp_wa at h; split at h
  · rename_i e; exact ⟨_, _, _, e, h⟩
  · exact h.elim
def mp_nth : List UInt8 → Nat → Option Nat
  | [], _ => none
  | a :: _, 0 => some a.toNat
  | _ :: l, n + 1 => mp_nth l n
theorem mp_nth_get : ∀ {l : List UInt8} {p b : Nat}, mp_nth l p = some b → ∃ h : p < l.length, l[p].toNat = b
  | [], _, _, h => by cases h
  | a :: l, 0, b, h => ⟨Nat.succ_pos _, Option.some.inj h⟩
  | a :: l, p + 1, b, h => by
    obtain ⟨q, e⟩ := mp_nth_get (l := l) (p := p) (b := b) h
    exact ⟨Nat.succ_lt_succ q, e⟩
theorem mp_u1_ok {c : ByteArray} {p b : Nat} (h : mp_nth c.data.toList p = some b) : (Jvm.ClassFile.Reader.u1 : Jvm.ClassFile.Decoder Nat) c p = .ok (b, p + 1) := by
  obtain ⟨q, e⟩ := mp_nth_get h
  have q2 : p < c.size := q
  have e2 : (c[p]'q2).toNat = b := e
  show (if h : p < c.size then (fun (r : ByteArray) (s : Nat) => (Except.ok ((c[p]'h).toNat, p + 1) : Except Jvm.ClassFile.DecodeError (Nat × Nat))) else (fun r s => throw (Jvm.ClassFile.HasTruncated.truncated p))) c p = _
  rw [dif_pos q2, e2]
theorem mp_u2_ok {c : ByteArray} {p a b : Nat} (h1 : mp_nth c.data.toList p = some a) (h2 : mp_nth c.data.toList (p + 1) = some b) : (Jvm.ClassFile.Reader.u2 : Jvm.ClassFile.Decoder Nat) c p = .ok (a * 256 + b, p + 2) := by
  show Except.bind ((Jvm.ClassFile.Reader.u1 : Jvm.ClassFile.Decoder Nat) c p) _ = _
  rw [mp_u1_ok h1]
  show Except.bind ((Jvm.ClassFile.Reader.u1 : Jvm.ClassFile.Decoder Nat) c (p + 1)) _ = _
  rw [mp_u1_ok h2]
  rfl
theorem mp_s1_ok {c : ByteArray} {p a : Nat} (h1 : mp_nth c.data.toList p = some a) : (Jvm.ClassFile.Reader.s1 : Jvm.ClassFile.Decoder Int) c p = .ok (Jvm.ClassFile.Reader.signed 8 a, p + 1) := by
  show Except.bind ((Jvm.ClassFile.Reader.u1 : Jvm.ClassFile.Decoder Nat) c p) _ = _
  rw [mp_u1_ok h1]
  rfl
theorem mp_s2_ok {c : ByteArray} {p a b : Nat} (h1 : mp_nth c.data.toList p = some a) (h2 : mp_nth c.data.toList (p + 1) = some b) : (Jvm.ClassFile.Reader.s2 : Jvm.ClassFile.Decoder Int) c p = .ok (Jvm.ClassFile.Reader.signed 16 (a * 256 + b), p + 2) := by
  show Except.bind ((Jvm.ClassFile.Reader.u2 : Jvm.ClassFile.Decoder Nat) c p) _ = _
  rw [mp_u2_ok h1 h2]
  rfl
def mp_pk : List UInt8 → Nat
  | [] => 1
  | a :: l => a.toNat + 256 * mp_pk l
def mp_pkB : List UInt8 → Nat → Bool
  | [], N => Nat.beq N 1
  | a :: l, N => Nat.beq (Nat.mod N 256) a.toNat && mp_pkB l (Nat.div N 256)
theorem mp_pkB_ok : ∀ {l : List UInt8} {N : Nat}, mp_pkB l N = true → mp_pk l = N
  | [], N, h => by
    have h : Nat.beq N 1 = true := h
    exact (Nat.eq_of_beq_eq_true h).symm
  | a :: l, N, h => by
    have h : (Nat.beq (Nat.mod N 256) a.toNat && mp_pkB l (Nat.div N 256)) = true := h
    have h := Bool.and_eq_true_iff.mp h
    have h1 : N % 256 = a.toNat := Nat.eq_of_beq_eq_true h.1
    have h2 : mp_pk l = N / 256 := mp_pkB_ok h.2
    show a.toNat + 256 * mp_pk l = N
    rw [h2, ← h1]
    omega
def mp_bt (N p : Nat) : Nat := Nat.div N (Nat.pow 256 p)
def mp_byt (N p b : Nat) : Bool := Nat.ble 256 (mp_bt N p) && Nat.beq (Nat.mod (mp_bt N p) 256) b
theorem mp_byt0 : ∀ {l : List UInt8} {p b : Nat}, 256 ≤ mp_pk l / 256 ^ p → mp_pk l / 256 ^ p % 256 = b → mp_nth l p = some b
  | [], p, b, h, _ => by
    have : mp_pk [] / 256 ^ p ≤ 1 := Nat.div_le_self 1 _
    omega
  | a :: l, 0, b, _, h => by
    have h : (a.toNat + 256 * mp_pk l) / 1 % 256 = b := h
    have ha : a.toNat < 256 := a.toNat_lt
    rw [Nat.div_one] at h
    show some a.toNat = some b
    rw [← h]
    congr 1
    omega
  | a :: l, p + 1, b, h1, h2 => by
    have e : mp_pk (a :: l) / 256 ^ (p + 1) = mp_pk l / 256 ^ p := by
      have ha : a.toNat < 256 := a.toNat_lt
      show (a.toNat + 256 * mp_pk l) / 256 ^ (p + 1) = _
      rw [Nat.pow_succ, Nat.mul_comm (256 ^ p) 256, ← Nat.div_div_eq_div_mul]
      congr 1
      omega
    rw [e] at h1 h2
    exact mp_byt0 (l := l) (p := p) (b := b) h1 h2
theorem mp_byt_ok {l : List UInt8} {N p b : Nat} (hN : mp_pk l = N) (h : mp_byt N p b = true) : mp_nth l p = some b := by
  subst hN
  have h := Bool.and_eq_true_iff.mp h
  exact mp_byt0 (Nat.le_of_ble_eq_true h.1) (Nat.eq_of_beq_eq_true h.2)
theorem mp_d_aconst_null {c : ByteArray} {p : Nat} (h0 : mp_nth c.data.toList (p) = some 1) : decode c p = .ok (.aconst_null, 1) := by
  show Except.bind (Except.bind ((Jvm.ClassFile.Reader.u1 : Jvm.ClassFile.Decoder Nat) c p) _) _ = _
  rw [mp_u1_ok h0]
  show Except.ok (_, (p + 1) - p) = _
  rw [show (p + 1) - p = 1 by omega]
theorem mp_d_iaload {c : ByteArray} {p : Nat} (h0 : mp_nth c.data.toList (p) = some 46) : decode c p = .ok (.iaload, 1) := by
  show Except.bind (Except.bind ((Jvm.ClassFile.Reader.u1 : Jvm.ClassFile.Decoder Nat) c p) _) _ = _
  rw [mp_u1_ok h0]
  show Except.ok (_, (p + 1) - p) = _
  rw [show (p + 1) - p = 1 by omega]
theorem mp_d_laload {c : ByteArray} {p : Nat} (h0 : mp_nth c.data.toList (p) = some 47) : decode c p = .ok (.laload, 1) := by
  show Except.bind (Except.bind ((Jvm.ClassFile.Reader.u1 : Jvm.ClassFile.Decoder Nat) c p) _) _ = _
  rw [mp_u1_ok h0]
  show Except.ok (_, (p + 1) - p) = _
  rw [show (p + 1) - p = 1 by omega]
theorem mp_d_aaload {c : ByteArray} {p : Nat} (h0 : mp_nth c.data.toList (p) = some 50) : decode c p = .ok (.aaload, 1) := by
  show Except.bind (Except.bind ((Jvm.ClassFile.Reader.u1 : Jvm.ClassFile.Decoder Nat) c p) _) _ = _
  rw [mp_u1_ok h0]
  show Except.ok (_, (p + 1) - p) = _
  rw [show (p + 1) - p = 1 by omega]
theorem mp_d_baload {c : ByteArray} {p : Nat} (h0 : mp_nth c.data.toList (p) = some 51) : decode c p = .ok (.baload, 1) := by
  show Except.bind (Except.bind ((Jvm.ClassFile.Reader.u1 : Jvm.ClassFile.Decoder Nat) c p) _) _ = _
  rw [mp_u1_ok h0]
  show Except.ok (_, (p + 1) - p) = _
  rw [show (p + 1) - p = 1 by omega]
theorem mp_d_iastore {c : ByteArray} {p : Nat} (h0 : mp_nth c.data.toList (p) = some 79) : decode c p = .ok (.iastore, 1) := by
  show Except.bind (Except.bind ((Jvm.ClassFile.Reader.u1 : Jvm.ClassFile.Decoder Nat) c p) _) _ = _
  rw [mp_u1_ok h0]
  show Except.ok (_, (p + 1) - p) = _
  rw [show (p + 1) - p = 1 by omega]
theorem mp_d_lastore {c : ByteArray} {p : Nat} (h0 : mp_nth c.data.toList (p) = some 80) : decode c p = .ok (.lastore, 1) := by
  show Except.bind (Except.bind ((Jvm.ClassFile.Reader.u1 : Jvm.ClassFile.Decoder Nat) c p) _) _ = _
  rw [mp_u1_ok h0]
  show Except.ok (_, (p + 1) - p) = _
  rw [show (p + 1) - p = 1 by omega]
theorem mp_d_aastore {c : ByteArray} {p : Nat} (h0 : mp_nth c.data.toList (p) = some 83) : decode c p = .ok (.aastore, 1) := by
  show Except.bind (Except.bind ((Jvm.ClassFile.Reader.u1 : Jvm.ClassFile.Decoder Nat) c p) _) _ = _
  rw [mp_u1_ok h0]
  show Except.ok (_, (p + 1) - p) = _
  rw [show (p + 1) - p = 1 by omega]
theorem mp_d_bastore {c : ByteArray} {p : Nat} (h0 : mp_nth c.data.toList (p) = some 84) : decode c p = .ok (.bastore, 1) := by
  show Except.bind (Except.bind ((Jvm.ClassFile.Reader.u1 : Jvm.ClassFile.Decoder Nat) c p) _) _ = _
  rw [mp_u1_ok h0]
  show Except.ok (_, (p + 1) - p) = _
  rw [show (p + 1) - p = 1 by omega]
theorem mp_d_pop {c : ByteArray} {p : Nat} (h0 : mp_nth c.data.toList (p) = some 87) : decode c p = .ok (.pop, 1) := by
  show Except.bind (Except.bind ((Jvm.ClassFile.Reader.u1 : Jvm.ClassFile.Decoder Nat) c p) _) _ = _
  rw [mp_u1_ok h0]
  show Except.ok (_, (p + 1) - p) = _
  rw [show (p + 1) - p = 1 by omega]
theorem mp_d_pop2 {c : ByteArray} {p : Nat} (h0 : mp_nth c.data.toList (p) = some 88) : decode c p = .ok (.pop2, 1) := by
  show Except.bind (Except.bind ((Jvm.ClassFile.Reader.u1 : Jvm.ClassFile.Decoder Nat) c p) _) _ = _
  rw [mp_u1_ok h0]
  show Except.ok (_, (p + 1) - p) = _
  rw [show (p + 1) - p = 1 by omega]
theorem mp_d_dup {c : ByteArray} {p : Nat} (h0 : mp_nth c.data.toList (p) = some 89) : decode c p = .ok (.dup, 1) := by
  show Except.bind (Except.bind ((Jvm.ClassFile.Reader.u1 : Jvm.ClassFile.Decoder Nat) c p) _) _ = _
  rw [mp_u1_ok h0]
  show Except.ok (_, (p + 1) - p) = _
  rw [show (p + 1) - p = 1 by omega]
theorem mp_d_dup_x1 {c : ByteArray} {p : Nat} (h0 : mp_nth c.data.toList (p) = some 90) : decode c p = .ok (.dup_x1, 1) := by
  show Except.bind (Except.bind ((Jvm.ClassFile.Reader.u1 : Jvm.ClassFile.Decoder Nat) c p) _) _ = _
  rw [mp_u1_ok h0]
  show Except.ok (_, (p + 1) - p) = _
  rw [show (p + 1) - p = 1 by omega]
theorem mp_d_dup2 {c : ByteArray} {p : Nat} (h0 : mp_nth c.data.toList (p) = some 92) : decode c p = .ok (.dup2, 1) := by
  show Except.bind (Except.bind ((Jvm.ClassFile.Reader.u1 : Jvm.ClassFile.Decoder Nat) c p) _) _ = _
  rw [mp_u1_ok h0]
  show Except.ok (_, (p + 1) - p) = _
  rw [show (p + 1) - p = 1 by omega]
theorem mp_d_iadd {c : ByteArray} {p : Nat} (h0 : mp_nth c.data.toList (p) = some 96) : decode c p = .ok (.iadd, 1) := by
  show Except.bind (Except.bind ((Jvm.ClassFile.Reader.u1 : Jvm.ClassFile.Decoder Nat) c p) _) _ = _
  rw [mp_u1_ok h0]
  show Except.ok (_, (p + 1) - p) = _
  rw [show (p + 1) - p = 1 by omega]
theorem mp_d_ladd {c : ByteArray} {p : Nat} (h0 : mp_nth c.data.toList (p) = some 97) : decode c p = .ok (.ladd, 1) := by
  show Except.bind (Except.bind ((Jvm.ClassFile.Reader.u1 : Jvm.ClassFile.Decoder Nat) c p) _) _ = _
  rw [mp_u1_ok h0]
  show Except.ok (_, (p + 1) - p) = _
  rw [show (p + 1) - p = 1 by omega]
theorem mp_d_isub {c : ByteArray} {p : Nat} (h0 : mp_nth c.data.toList (p) = some 100) : decode c p = .ok (.isub, 1) := by
  show Except.bind (Except.bind ((Jvm.ClassFile.Reader.u1 : Jvm.ClassFile.Decoder Nat) c p) _) _ = _
  rw [mp_u1_ok h0]
  show Except.ok (_, (p + 1) - p) = _
  rw [show (p + 1) - p = 1 by omega]
theorem mp_d_lsub {c : ByteArray} {p : Nat} (h0 : mp_nth c.data.toList (p) = some 101) : decode c p = .ok (.lsub, 1) := by
  show Except.bind (Except.bind ((Jvm.ClassFile.Reader.u1 : Jvm.ClassFile.Decoder Nat) c p) _) _ = _
  rw [mp_u1_ok h0]
  show Except.ok (_, (p + 1) - p) = _
  rw [show (p + 1) - p = 1 by omega]
theorem mp_d_imul {c : ByteArray} {p : Nat} (h0 : mp_nth c.data.toList (p) = some 104) : decode c p = .ok (.imul, 1) := by
  show Except.bind (Except.bind ((Jvm.ClassFile.Reader.u1 : Jvm.ClassFile.Decoder Nat) c p) _) _ = _
  rw [mp_u1_ok h0]
  show Except.ok (_, (p + 1) - p) = _
  rw [show (p + 1) - p = 1 by omega]
theorem mp_d_lmul {c : ByteArray} {p : Nat} (h0 : mp_nth c.data.toList (p) = some 105) : decode c p = .ok (.lmul, 1) := by
  show Except.bind (Except.bind ((Jvm.ClassFile.Reader.u1 : Jvm.ClassFile.Decoder Nat) c p) _) _ = _
  rw [mp_u1_ok h0]
  show Except.ok (_, (p + 1) - p) = _
  rw [show (p + 1) - p = 1 by omega]
theorem mp_d_idiv {c : ByteArray} {p : Nat} (h0 : mp_nth c.data.toList (p) = some 108) : decode c p = .ok (.idiv, 1) := by
  show Except.bind (Except.bind ((Jvm.ClassFile.Reader.u1 : Jvm.ClassFile.Decoder Nat) c p) _) _ = _
  rw [mp_u1_ok h0]
  show Except.ok (_, (p + 1) - p) = _
  rw [show (p + 1) - p = 1 by omega]
theorem mp_d_ldiv {c : ByteArray} {p : Nat} (h0 : mp_nth c.data.toList (p) = some 109) : decode c p = .ok (.ldiv, 1) := by
  show Except.bind (Except.bind ((Jvm.ClassFile.Reader.u1 : Jvm.ClassFile.Decoder Nat) c p) _) _ = _
  rw [mp_u1_ok h0]
  show Except.ok (_, (p + 1) - p) = _
  rw [show (p + 1) - p = 1 by omega]
theorem mp_d_irem {c : ByteArray} {p : Nat} (h0 : mp_nth c.data.toList (p) = some 112) : decode c p = .ok (.irem, 1) := by
  show Except.bind (Except.bind ((Jvm.ClassFile.Reader.u1 : Jvm.ClassFile.Decoder Nat) c p) _) _ = _
  rw [mp_u1_ok h0]
  show Except.ok (_, (p + 1) - p) = _
  rw [show (p + 1) - p = 1 by omega]
theorem mp_d_lrem {c : ByteArray} {p : Nat} (h0 : mp_nth c.data.toList (p) = some 113) : decode c p = .ok (.lrem, 1) := by
  show Except.bind (Except.bind ((Jvm.ClassFile.Reader.u1 : Jvm.ClassFile.Decoder Nat) c p) _) _ = _
  rw [mp_u1_ok h0]
  show Except.ok (_, (p + 1) - p) = _
  rw [show (p + 1) - p = 1 by omega]
theorem mp_d_ineg {c : ByteArray} {p : Nat} (h0 : mp_nth c.data.toList (p) = some 116) : decode c p = .ok (.ineg, 1) := by
  show Except.bind (Except.bind ((Jvm.ClassFile.Reader.u1 : Jvm.ClassFile.Decoder Nat) c p) _) _ = _
  rw [mp_u1_ok h0]
  show Except.ok (_, (p + 1) - p) = _
  rw [show (p + 1) - p = 1 by omega]
theorem mp_d_lneg {c : ByteArray} {p : Nat} (h0 : mp_nth c.data.toList (p) = some 117) : decode c p = .ok (.lneg, 1) := by
  show Except.bind (Except.bind ((Jvm.ClassFile.Reader.u1 : Jvm.ClassFile.Decoder Nat) c p) _) _ = _
  rw [mp_u1_ok h0]
  show Except.ok (_, (p + 1) - p) = _
  rw [show (p + 1) - p = 1 by omega]
theorem mp_d_ishl {c : ByteArray} {p : Nat} (h0 : mp_nth c.data.toList (p) = some 120) : decode c p = .ok (.ishl, 1) := by
  show Except.bind (Except.bind ((Jvm.ClassFile.Reader.u1 : Jvm.ClassFile.Decoder Nat) c p) _) _ = _
  rw [mp_u1_ok h0]
  show Except.ok (_, (p + 1) - p) = _
  rw [show (p + 1) - p = 1 by omega]
theorem mp_d_lshl {c : ByteArray} {p : Nat} (h0 : mp_nth c.data.toList (p) = some 121) : decode c p = .ok (.lshl, 1) := by
  show Except.bind (Except.bind ((Jvm.ClassFile.Reader.u1 : Jvm.ClassFile.Decoder Nat) c p) _) _ = _
  rw [mp_u1_ok h0]
  show Except.ok (_, (p + 1) - p) = _
  rw [show (p + 1) - p = 1 by omega]
theorem mp_d_ishr {c : ByteArray} {p : Nat} (h0 : mp_nth c.data.toList (p) = some 122) : decode c p = .ok (.ishr, 1) := by
  show Except.bind (Except.bind ((Jvm.ClassFile.Reader.u1 : Jvm.ClassFile.Decoder Nat) c p) _) _ = _
  rw [mp_u1_ok h0]
  show Except.ok (_, (p + 1) - p) = _
  rw [show (p + 1) - p = 1 by omega]
theorem mp_d_lshr {c : ByteArray} {p : Nat} (h0 : mp_nth c.data.toList (p) = some 123) : decode c p = .ok (.lshr, 1) := by
  show Except.bind (Except.bind ((Jvm.ClassFile.Reader.u1 : Jvm.ClassFile.Decoder Nat) c p) _) _ = _
  rw [mp_u1_ok h0]
  show Except.ok (_, (p + 1) - p) = _
  rw [show (p + 1) - p = 1 by omega]
theorem mp_d_iushr {c : ByteArray} {p : Nat} (h0 : mp_nth c.data.toList (p) = some 124) : decode c p = .ok (.iushr, 1) := by
  show Except.bind (Except.bind ((Jvm.ClassFile.Reader.u1 : Jvm.ClassFile.Decoder Nat) c p) _) _ = _
  rw [mp_u1_ok h0]
  show Except.ok (_, (p + 1) - p) = _
  rw [show (p + 1) - p = 1 by omega]
theorem mp_d_lushr {c : ByteArray} {p : Nat} (h0 : mp_nth c.data.toList (p) = some 125) : decode c p = .ok (.lushr, 1) := by
  show Except.bind (Except.bind ((Jvm.ClassFile.Reader.u1 : Jvm.ClassFile.Decoder Nat) c p) _) _ = _
  rw [mp_u1_ok h0]
  show Except.ok (_, (p + 1) - p) = _
  rw [show (p + 1) - p = 1 by omega]
theorem mp_d_iand {c : ByteArray} {p : Nat} (h0 : mp_nth c.data.toList (p) = some 126) : decode c p = .ok (.iand, 1) := by
  show Except.bind (Except.bind ((Jvm.ClassFile.Reader.u1 : Jvm.ClassFile.Decoder Nat) c p) _) _ = _
  rw [mp_u1_ok h0]
  show Except.ok (_, (p + 1) - p) = _
  rw [show (p + 1) - p = 1 by omega]
theorem mp_d_land {c : ByteArray} {p : Nat} (h0 : mp_nth c.data.toList (p) = some 127) : decode c p = .ok (.land, 1) := by
  show Except.bind (Except.bind ((Jvm.ClassFile.Reader.u1 : Jvm.ClassFile.Decoder Nat) c p) _) _ = _
  rw [mp_u1_ok h0]
  show Except.ok (_, (p + 1) - p) = _
  rw [show (p + 1) - p = 1 by omega]
theorem mp_d_ior {c : ByteArray} {p : Nat} (h0 : mp_nth c.data.toList (p) = some 128) : decode c p = .ok (.ior, 1) := by
  show Except.bind (Except.bind ((Jvm.ClassFile.Reader.u1 : Jvm.ClassFile.Decoder Nat) c p) _) _ = _
  rw [mp_u1_ok h0]
  show Except.ok (_, (p + 1) - p) = _
  rw [show (p + 1) - p = 1 by omega]
theorem mp_d_lor {c : ByteArray} {p : Nat} (h0 : mp_nth c.data.toList (p) = some 129) : decode c p = .ok (.lor, 1) := by
  show Except.bind (Except.bind ((Jvm.ClassFile.Reader.u1 : Jvm.ClassFile.Decoder Nat) c p) _) _ = _
  rw [mp_u1_ok h0]
  show Except.ok (_, (p + 1) - p) = _
  rw [show (p + 1) - p = 1 by omega]
theorem mp_d_ixor {c : ByteArray} {p : Nat} (h0 : mp_nth c.data.toList (p) = some 130) : decode c p = .ok (.ixor, 1) := by
  show Except.bind (Except.bind ((Jvm.ClassFile.Reader.u1 : Jvm.ClassFile.Decoder Nat) c p) _) _ = _
  rw [mp_u1_ok h0]
  show Except.ok (_, (p + 1) - p) = _
  rw [show (p + 1) - p = 1 by omega]
theorem mp_d_lxor {c : ByteArray} {p : Nat} (h0 : mp_nth c.data.toList (p) = some 131) : decode c p = .ok (.lxor, 1) := by
  show Except.bind (Except.bind ((Jvm.ClassFile.Reader.u1 : Jvm.ClassFile.Decoder Nat) c p) _) _ = _
  rw [mp_u1_ok h0]
  show Except.ok (_, (p + 1) - p) = _
  rw [show (p + 1) - p = 1 by omega]
theorem mp_d_i2l {c : ByteArray} {p : Nat} (h0 : mp_nth c.data.toList (p) = some 133) : decode c p = .ok (.i2l, 1) := by
  show Except.bind (Except.bind ((Jvm.ClassFile.Reader.u1 : Jvm.ClassFile.Decoder Nat) c p) _) _ = _
  rw [mp_u1_ok h0]
  show Except.ok (_, (p + 1) - p) = _
  rw [show (p + 1) - p = 1 by omega]
theorem mp_d_l2i {c : ByteArray} {p : Nat} (h0 : mp_nth c.data.toList (p) = some 136) : decode c p = .ok (.l2i, 1) := by
  show Except.bind (Except.bind ((Jvm.ClassFile.Reader.u1 : Jvm.ClassFile.Decoder Nat) c p) _) _ = _
  rw [mp_u1_ok h0]
  show Except.ok (_, (p + 1) - p) = _
  rw [show (p + 1) - p = 1 by omega]
theorem mp_d_i2b {c : ByteArray} {p : Nat} (h0 : mp_nth c.data.toList (p) = some 145) : decode c p = .ok (.i2b, 1) := by
  show Except.bind (Except.bind ((Jvm.ClassFile.Reader.u1 : Jvm.ClassFile.Decoder Nat) c p) _) _ = _
  rw [mp_u1_ok h0]
  show Except.ok (_, (p + 1) - p) = _
  rw [show (p + 1) - p = 1 by omega]
theorem mp_d_i2c {c : ByteArray} {p : Nat} (h0 : mp_nth c.data.toList (p) = some 146) : decode c p = .ok (.i2c, 1) := by
  show Except.bind (Except.bind ((Jvm.ClassFile.Reader.u1 : Jvm.ClassFile.Decoder Nat) c p) _) _ = _
  rw [mp_u1_ok h0]
  show Except.ok (_, (p + 1) - p) = _
  rw [show (p + 1) - p = 1 by omega]
theorem mp_d_i2s {c : ByteArray} {p : Nat} (h0 : mp_nth c.data.toList (p) = some 147) : decode c p = .ok (.i2s, 1) := by
  show Except.bind (Except.bind ((Jvm.ClassFile.Reader.u1 : Jvm.ClassFile.Decoder Nat) c p) _) _ = _
  rw [mp_u1_ok h0]
  show Except.ok (_, (p + 1) - p) = _
  rw [show (p + 1) - p = 1 by omega]
theorem mp_d_lcmp {c : ByteArray} {p : Nat} (h0 : mp_nth c.data.toList (p) = some 148) : decode c p = .ok (.lcmp, 1) := by
  show Except.bind (Except.bind ((Jvm.ClassFile.Reader.u1 : Jvm.ClassFile.Decoder Nat) c p) _) _ = _
  rw [mp_u1_ok h0]
  show Except.ok (_, (p + 1) - p) = _
  rw [show (p + 1) - p = 1 by omega]
theorem mp_d_ireturn {c : ByteArray} {p : Nat} (h0 : mp_nth c.data.toList (p) = some 172) : decode c p = .ok (.ireturn, 1) := by
  show Except.bind (Except.bind ((Jvm.ClassFile.Reader.u1 : Jvm.ClassFile.Decoder Nat) c p) _) _ = _
  rw [mp_u1_ok h0]
  show Except.ok (_, (p + 1) - p) = _
  rw [show (p + 1) - p = 1 by omega]
theorem mp_d_lreturn {c : ByteArray} {p : Nat} (h0 : mp_nth c.data.toList (p) = some 173) : decode c p = .ok (.lreturn, 1) := by
  show Except.bind (Except.bind ((Jvm.ClassFile.Reader.u1 : Jvm.ClassFile.Decoder Nat) c p) _) _ = _
  rw [mp_u1_ok h0]
  show Except.ok (_, (p + 1) - p) = _
  rw [show (p + 1) - p = 1 by omega]
theorem mp_d_areturn {c : ByteArray} {p : Nat} (h0 : mp_nth c.data.toList (p) = some 176) : decode c p = .ok (.areturn, 1) := by
  show Except.bind (Except.bind ((Jvm.ClassFile.Reader.u1 : Jvm.ClassFile.Decoder Nat) c p) _) _ = _
  rw [mp_u1_ok h0]
  show Except.ok (_, (p + 1) - p) = _
  rw [show (p + 1) - p = 1 by omega]
theorem mp_d_return_ {c : ByteArray} {p : Nat} (h0 : mp_nth c.data.toList (p) = some 177) : decode c p = .ok (.return_, 1) := by
  show Except.bind (Except.bind ((Jvm.ClassFile.Reader.u1 : Jvm.ClassFile.Decoder Nat) c p) _) _ = _
  rw [mp_u1_ok h0]
  show Except.ok (_, (p + 1) - p) = _
  rw [show (p + 1) - p = 1 by omega]
theorem mp_d_arraylength {c : ByteArray} {p : Nat} (h0 : mp_nth c.data.toList (p) = some 190) : decode c p = .ok (.arraylength, 1) := by
  show Except.bind (Except.bind ((Jvm.ClassFile.Reader.u1 : Jvm.ClassFile.Decoder Nat) c p) _) _ = _
  rw [mp_u1_ok h0]
  show Except.ok (_, (p + 1) - p) = _
  rw [show (p + 1) - p = 1 by omega]
theorem mp_d_iconst0 {c : ByteArray} {p : Nat} (h0 : mp_nth c.data.toList (p) = some 2) : decode c p = .ok (.iconst (-1), 1) := by
  show Except.bind (Except.bind ((Jvm.ClassFile.Reader.u1 : Jvm.ClassFile.Decoder Nat) c p) _) _ = _
  rw [mp_u1_ok h0]
  show Except.ok (_, (p + 1) - p) = _
  rw [show (p + 1) - p = 1 by omega]
theorem mp_d_iconst1 {c : ByteArray} {p : Nat} (h0 : mp_nth c.data.toList (p) = some 3) : decode c p = .ok (.iconst (0), 1) := by
  show Except.bind (Except.bind ((Jvm.ClassFile.Reader.u1 : Jvm.ClassFile.Decoder Nat) c p) _) _ = _
  rw [mp_u1_ok h0]
  show Except.ok (_, (p + 1) - p) = _
  rw [show (p + 1) - p = 1 by omega]
theorem mp_d_iconst2 {c : ByteArray} {p : Nat} (h0 : mp_nth c.data.toList (p) = some 4) : decode c p = .ok (.iconst (1), 1) := by
  show Except.bind (Except.bind ((Jvm.ClassFile.Reader.u1 : Jvm.ClassFile.Decoder Nat) c p) _) _ = _
  rw [mp_u1_ok h0]
  show Except.ok (_, (p + 1) - p) = _
  rw [show (p + 1) - p = 1 by omega]
theorem mp_d_iconst3 {c : ByteArray} {p : Nat} (h0 : mp_nth c.data.toList (p) = some 5) : decode c p = .ok (.iconst (2), 1) := by
  show Except.bind (Except.bind ((Jvm.ClassFile.Reader.u1 : Jvm.ClassFile.Decoder Nat) c p) _) _ = _
  rw [mp_u1_ok h0]
  show Except.ok (_, (p + 1) - p) = _
  rw [show (p + 1) - p = 1 by omega]
theorem mp_d_iconst4 {c : ByteArray} {p : Nat} (h0 : mp_nth c.data.toList (p) = some 6) : decode c p = .ok (.iconst (3), 1) := by
  show Except.bind (Except.bind ((Jvm.ClassFile.Reader.u1 : Jvm.ClassFile.Decoder Nat) c p) _) _ = _
  rw [mp_u1_ok h0]
  show Except.ok (_, (p + 1) - p) = _
  rw [show (p + 1) - p = 1 by omega]
theorem mp_d_iconst5 {c : ByteArray} {p : Nat} (h0 : mp_nth c.data.toList (p) = some 7) : decode c p = .ok (.iconst (4), 1) := by
  show Except.bind (Except.bind ((Jvm.ClassFile.Reader.u1 : Jvm.ClassFile.Decoder Nat) c p) _) _ = _
  rw [mp_u1_ok h0]
  show Except.ok (_, (p + 1) - p) = _
  rw [show (p + 1) - p = 1 by omega]
theorem mp_d_iconst6 {c : ByteArray} {p : Nat} (h0 : mp_nth c.data.toList (p) = some 8) : decode c p = .ok (.iconst (5), 1) := by
  show Except.bind (Except.bind ((Jvm.ClassFile.Reader.u1 : Jvm.ClassFile.Decoder Nat) c p) _) _ = _
  rw [mp_u1_ok h0]
  show Except.ok (_, (p + 1) - p) = _
  rw [show (p + 1) - p = 1 by omega]
theorem mp_d_lconst0 {c : ByteArray} {p : Nat} (h0 : mp_nth c.data.toList (p) = some 9) : decode c p = .ok (.lconst 0, 1) := by
  show Except.bind (Except.bind ((Jvm.ClassFile.Reader.u1 : Jvm.ClassFile.Decoder Nat) c p) _) _ = _
  rw [mp_u1_ok h0]
  show Except.ok (_, (p + 1) - p) = _
  rw [show (p + 1) - p = 1 by omega]
theorem mp_d_lconst1 {c : ByteArray} {p : Nat} (h0 : mp_nth c.data.toList (p) = some 10) : decode c p = .ok (.lconst 1, 1) := by
  show Except.bind (Except.bind ((Jvm.ClassFile.Reader.u1 : Jvm.ClassFile.Decoder Nat) c p) _) _ = _
  rw [mp_u1_ok h0]
  show Except.ok (_, (p + 1) - p) = _
  rw [show (p + 1) - p = 1 by omega]
theorem mp_d_iload_n0 {c : ByteArray} {p : Nat} (h0 : mp_nth c.data.toList (p) = some 26) : decode c p = .ok (.iload_n 0, 1) := by
  show Except.bind (Except.bind ((Jvm.ClassFile.Reader.u1 : Jvm.ClassFile.Decoder Nat) c p) _) _ = _
  rw [mp_u1_ok h0]
  show Except.ok (_, (p + 1) - p) = _
  rw [show (p + 1) - p = 1 by omega]
theorem mp_d_iload_n1 {c : ByteArray} {p : Nat} (h0 : mp_nth c.data.toList (p) = some 27) : decode c p = .ok (.iload_n 1, 1) := by
  show Except.bind (Except.bind ((Jvm.ClassFile.Reader.u1 : Jvm.ClassFile.Decoder Nat) c p) _) _ = _
  rw [mp_u1_ok h0]
  show Except.ok (_, (p + 1) - p) = _
  rw [show (p + 1) - p = 1 by omega]
theorem mp_d_iload_n2 {c : ByteArray} {p : Nat} (h0 : mp_nth c.data.toList (p) = some 28) : decode c p = .ok (.iload_n 2, 1) := by
  show Except.bind (Except.bind ((Jvm.ClassFile.Reader.u1 : Jvm.ClassFile.Decoder Nat) c p) _) _ = _
  rw [mp_u1_ok h0]
  show Except.ok (_, (p + 1) - p) = _
  rw [show (p + 1) - p = 1 by omega]
theorem mp_d_iload_n3 {c : ByteArray} {p : Nat} (h0 : mp_nth c.data.toList (p) = some 29) : decode c p = .ok (.iload_n 3, 1) := by
  show Except.bind (Except.bind ((Jvm.ClassFile.Reader.u1 : Jvm.ClassFile.Decoder Nat) c p) _) _ = _
  rw [mp_u1_ok h0]
  show Except.ok (_, (p + 1) - p) = _
  rw [show (p + 1) - p = 1 by omega]
theorem mp_d_lload_n0 {c : ByteArray} {p : Nat} (h0 : mp_nth c.data.toList (p) = some 30) : decode c p = .ok (.lload_n 0, 1) := by
  show Except.bind (Except.bind ((Jvm.ClassFile.Reader.u1 : Jvm.ClassFile.Decoder Nat) c p) _) _ = _
  rw [mp_u1_ok h0]
  show Except.ok (_, (p + 1) - p) = _
  rw [show (p + 1) - p = 1 by omega]
theorem mp_d_lload_n1 {c : ByteArray} {p : Nat} (h0 : mp_nth c.data.toList (p) = some 31) : decode c p = .ok (.lload_n 1, 1) := by
  show Except.bind (Except.bind ((Jvm.ClassFile.Reader.u1 : Jvm.ClassFile.Decoder Nat) c p) _) _ = _
  rw [mp_u1_ok h0]
  show Except.ok (_, (p + 1) - p) = _
  rw [show (p + 1) - p = 1 by omega]
theorem mp_d_lload_n2 {c : ByteArray} {p : Nat} (h0 : mp_nth c.data.toList (p) = some 32) : decode c p = .ok (.lload_n 2, 1) := by
  show Except.bind (Except.bind ((Jvm.ClassFile.Reader.u1 : Jvm.ClassFile.Decoder Nat) c p) _) _ = _
  rw [mp_u1_ok h0]
  show Except.ok (_, (p + 1) - p) = _
  rw [show (p + 1) - p = 1 by omega]
theorem mp_d_lload_n3 {c : ByteArray} {p : Nat} (h0 : mp_nth c.data.toList (p) = some 33) : decode c p = .ok (.lload_n 3, 1) := by
  show Except.bind (Except.bind ((Jvm.ClassFile.Reader.u1 : Jvm.ClassFile.Decoder Nat) c p) _) _ = _
  rw [mp_u1_ok h0]
  show Except.ok (_, (p + 1) - p) = _
  rw [show (p + 1) - p = 1 by omega]
theorem mp_d_aload_n0 {c : ByteArray} {p : Nat} (h0 : mp_nth c.data.toList (p) = some 42) : decode c p = .ok (.aload_n 0, 1) := by
  show Except.bind (Except.bind ((Jvm.ClassFile.Reader.u1 : Jvm.ClassFile.Decoder Nat) c p) _) _ = _
  rw [mp_u1_ok h0]
  show Except.ok (_, (p + 1) - p) = _
  rw [show (p + 1) - p = 1 by omega]
theorem mp_d_aload_n1 {c : ByteArray} {p : Nat} (h0 : mp_nth c.data.toList (p) = some 43) : decode c p = .ok (.aload_n 1, 1) := by
  show Except.bind (Except.bind ((Jvm.ClassFile.Reader.u1 : Jvm.ClassFile.Decoder Nat) c p) _) _ = _
  rw [mp_u1_ok h0]
  show Except.ok (_, (p + 1) - p) = _
  rw [show (p + 1) - p = 1 by omega]
theorem mp_d_aload_n2 {c : ByteArray} {p : Nat} (h0 : mp_nth c.data.toList (p) = some 44) : decode c p = .ok (.aload_n 2, 1) := by
  show Except.bind (Except.bind ((Jvm.ClassFile.Reader.u1 : Jvm.ClassFile.Decoder Nat) c p) _) _ = _
  rw [mp_u1_ok h0]
  show Except.ok (_, (p + 1) - p) = _
  rw [show (p + 1) - p = 1 by omega]
theorem mp_d_aload_n3 {c : ByteArray} {p : Nat} (h0 : mp_nth c.data.toList (p) = some 45) : decode c p = .ok (.aload_n 3, 1) := by
  show Except.bind (Except.bind ((Jvm.ClassFile.Reader.u1 : Jvm.ClassFile.Decoder Nat) c p) _) _ = _
  rw [mp_u1_ok h0]
  show Except.ok (_, (p + 1) - p) = _
  rw [show (p + 1) - p = 1 by omega]
theorem mp_d_istore_n0 {c : ByteArray} {p : Nat} (h0 : mp_nth c.data.toList (p) = some 59) : decode c p = .ok (.istore_n 0, 1) := by
  show Except.bind (Except.bind ((Jvm.ClassFile.Reader.u1 : Jvm.ClassFile.Decoder Nat) c p) _) _ = _
  rw [mp_u1_ok h0]
  show Except.ok (_, (p + 1) - p) = _
  rw [show (p + 1) - p = 1 by omega]
theorem mp_d_istore_n1 {c : ByteArray} {p : Nat} (h0 : mp_nth c.data.toList (p) = some 60) : decode c p = .ok (.istore_n 1, 1) := by
  show Except.bind (Except.bind ((Jvm.ClassFile.Reader.u1 : Jvm.ClassFile.Decoder Nat) c p) _) _ = _
  rw [mp_u1_ok h0]
  show Except.ok (_, (p + 1) - p) = _
  rw [show (p + 1) - p = 1 by omega]
theorem mp_d_istore_n2 {c : ByteArray} {p : Nat} (h0 : mp_nth c.data.toList (p) = some 61) : decode c p = .ok (.istore_n 2, 1) := by
  show Except.bind (Except.bind ((Jvm.ClassFile.Reader.u1 : Jvm.ClassFile.Decoder Nat) c p) _) _ = _
  rw [mp_u1_ok h0]
  show Except.ok (_, (p + 1) - p) = _
  rw [show (p + 1) - p = 1 by omega]
theorem mp_d_istore_n3 {c : ByteArray} {p : Nat} (h0 : mp_nth c.data.toList (p) = some 62) : decode c p = .ok (.istore_n 3, 1) := by
  show Except.bind (Except.bind ((Jvm.ClassFile.Reader.u1 : Jvm.ClassFile.Decoder Nat) c p) _) _ = _
  rw [mp_u1_ok h0]
  show Except.ok (_, (p + 1) - p) = _
  rw [show (p + 1) - p = 1 by omega]
theorem mp_d_lstore_n0 {c : ByteArray} {p : Nat} (h0 : mp_nth c.data.toList (p) = some 63) : decode c p = .ok (.lstore_n 0, 1) := by
  show Except.bind (Except.bind ((Jvm.ClassFile.Reader.u1 : Jvm.ClassFile.Decoder Nat) c p) _) _ = _
  rw [mp_u1_ok h0]
  show Except.ok (_, (p + 1) - p) = _
  rw [show (p + 1) - p = 1 by omega]
theorem mp_d_lstore_n1 {c : ByteArray} {p : Nat} (h0 : mp_nth c.data.toList (p) = some 64) : decode c p = .ok (.lstore_n 1, 1) := by
  show Except.bind (Except.bind ((Jvm.ClassFile.Reader.u1 : Jvm.ClassFile.Decoder Nat) c p) _) _ = _
  rw [mp_u1_ok h0]
  show Except.ok (_, (p + 1) - p) = _
  rw [show (p + 1) - p = 1 by omega]
theorem mp_d_lstore_n2 {c : ByteArray} {p : Nat} (h0 : mp_nth c.data.toList (p) = some 65) : decode c p = .ok (.lstore_n 2, 1) := by
  show Except.bind (Except.bind ((Jvm.ClassFile.Reader.u1 : Jvm.ClassFile.Decoder Nat) c p) _) _ = _
  rw [mp_u1_ok h0]
  show Except.ok (_, (p + 1) - p) = _
  rw [show (p + 1) - p = 1 by omega]
theorem mp_d_lstore_n3 {c : ByteArray} {p : Nat} (h0 : mp_nth c.data.toList (p) = some 66) : decode c p = .ok (.lstore_n 3, 1) := by
  show Except.bind (Except.bind ((Jvm.ClassFile.Reader.u1 : Jvm.ClassFile.Decoder Nat) c p) _) _ = _
  rw [mp_u1_ok h0]
  show Except.ok (_, (p + 1) - p) = _
  rw [show (p + 1) - p = 1 by omega]
theorem mp_d_astore_n0 {c : ByteArray} {p : Nat} (h0 : mp_nth c.data.toList (p) = some 75) : decode c p = .ok (.astore_n 0, 1) := by
  show Except.bind (Except.bind ((Jvm.ClassFile.Reader.u1 : Jvm.ClassFile.Decoder Nat) c p) _) _ = _
  rw [mp_u1_ok h0]
  show Except.ok (_, (p + 1) - p) = _
  rw [show (p + 1) - p = 1 by omega]
theorem mp_d_astore_n1 {c : ByteArray} {p : Nat} (h0 : mp_nth c.data.toList (p) = some 76) : decode c p = .ok (.astore_n 1, 1) := by
  show Except.bind (Except.bind ((Jvm.ClassFile.Reader.u1 : Jvm.ClassFile.Decoder Nat) c p) _) _ = _
  rw [mp_u1_ok h0]
  show Except.ok (_, (p + 1) - p) = _
  rw [show (p + 1) - p = 1 by omega]
theorem mp_d_astore_n2 {c : ByteArray} {p : Nat} (h0 : mp_nth c.data.toList (p) = some 77) : decode c p = .ok (.astore_n 2, 1) := by
  show Except.bind (Except.bind ((Jvm.ClassFile.Reader.u1 : Jvm.ClassFile.Decoder Nat) c p) _) _ = _
  rw [mp_u1_ok h0]
  show Except.ok (_, (p + 1) - p) = _
  rw [show (p + 1) - p = 1 by omega]
theorem mp_d_astore_n3 {c : ByteArray} {p : Nat} (h0 : mp_nth c.data.toList (p) = some 78) : decode c p = .ok (.astore_n 3, 1) := by
  show Except.bind (Except.bind ((Jvm.ClassFile.Reader.u1 : Jvm.ClassFile.Decoder Nat) c p) _) _ = _
  rw [mp_u1_ok h0]
  show Except.ok (_, (p + 1) - p) = _
  rw [show (p + 1) - p = 1 by omega]
theorem mp_d_iload {c : ByteArray} {p a : Nat} (h0 : mp_nth c.data.toList (p) = some 21) (h1 : mp_nth c.data.toList (p + 1) = some a) : decode c p = .ok (.iload a, 2) := by
  show Except.bind (Except.bind ((Jvm.ClassFile.Reader.u1 : Jvm.ClassFile.Decoder Nat) c p) _) _ = _
  rw [mp_u1_ok h0]
  show Except.bind (Except.bind ((Jvm.ClassFile.Reader.u1 : Jvm.ClassFile.Decoder Nat) c (p + 1)) _) _ = _
  rw [mp_u1_ok h1]
  show Except.ok (_, (p + 1 + 1) - p) = _
  rw [show (p + 1 + 1) - p = 2 by omega]
theorem mp_d_lload {c : ByteArray} {p a : Nat} (h0 : mp_nth c.data.toList (p) = some 22) (h1 : mp_nth c.data.toList (p + 1) = some a) : decode c p = .ok (.lload a, 2) := by
  show Except.bind (Except.bind ((Jvm.ClassFile.Reader.u1 : Jvm.ClassFile.Decoder Nat) c p) _) _ = _
  rw [mp_u1_ok h0]
  show Except.bind (Except.bind ((Jvm.ClassFile.Reader.u1 : Jvm.ClassFile.Decoder Nat) c (p + 1)) _) _ = _
  rw [mp_u1_ok h1]
  show Except.ok (_, (p + 1 + 1) - p) = _
  rw [show (p + 1 + 1) - p = 2 by omega]
theorem mp_d_aload {c : ByteArray} {p a : Nat} (h0 : mp_nth c.data.toList (p) = some 25) (h1 : mp_nth c.data.toList (p + 1) = some a) : decode c p = .ok (.aload a, 2) := by
  show Except.bind (Except.bind ((Jvm.ClassFile.Reader.u1 : Jvm.ClassFile.Decoder Nat) c p) _) _ = _
  rw [mp_u1_ok h0]
  show Except.bind (Except.bind ((Jvm.ClassFile.Reader.u1 : Jvm.ClassFile.Decoder Nat) c (p + 1)) _) _ = _
  rw [mp_u1_ok h1]
  show Except.ok (_, (p + 1 + 1) - p) = _
  rw [show (p + 1 + 1) - p = 2 by omega]
theorem mp_d_istore {c : ByteArray} {p a : Nat} (h0 : mp_nth c.data.toList (p) = some 54) (h1 : mp_nth c.data.toList (p + 1) = some a) : decode c p = .ok (.istore a, 2) := by
  show Except.bind (Except.bind ((Jvm.ClassFile.Reader.u1 : Jvm.ClassFile.Decoder Nat) c p) _) _ = _
  rw [mp_u1_ok h0]
  show Except.bind (Except.bind ((Jvm.ClassFile.Reader.u1 : Jvm.ClassFile.Decoder Nat) c (p + 1)) _) _ = _
  rw [mp_u1_ok h1]
  show Except.ok (_, (p + 1 + 1) - p) = _
  rw [show (p + 1 + 1) - p = 2 by omega]
theorem mp_d_lstore {c : ByteArray} {p a : Nat} (h0 : mp_nth c.data.toList (p) = some 55) (h1 : mp_nth c.data.toList (p + 1) = some a) : decode c p = .ok (.lstore a, 2) := by
  show Except.bind (Except.bind ((Jvm.ClassFile.Reader.u1 : Jvm.ClassFile.Decoder Nat) c p) _) _ = _
  rw [mp_u1_ok h0]
  show Except.bind (Except.bind ((Jvm.ClassFile.Reader.u1 : Jvm.ClassFile.Decoder Nat) c (p + 1)) _) _ = _
  rw [mp_u1_ok h1]
  show Except.ok (_, (p + 1 + 1) - p) = _
  rw [show (p + 1 + 1) - p = 2 by omega]
theorem mp_d_astore {c : ByteArray} {p a : Nat} (h0 : mp_nth c.data.toList (p) = some 58) (h1 : mp_nth c.data.toList (p + 1) = some a) : decode c p = .ok (.astore a, 2) := by
  show Except.bind (Except.bind ((Jvm.ClassFile.Reader.u1 : Jvm.ClassFile.Decoder Nat) c p) _) _ = _
  rw [mp_u1_ok h0]
  show Except.bind (Except.bind ((Jvm.ClassFile.Reader.u1 : Jvm.ClassFile.Decoder Nat) c (p + 1)) _) _ = _
  rw [mp_u1_ok h1]
  show Except.ok (_, (p + 1 + 1) - p) = _
  rw [show (p + 1 + 1) - p = 2 by omega]
theorem mp_d_ldc {c : ByteArray} {p a : Nat} (h0 : mp_nth c.data.toList (p) = some 18) (h1 : mp_nth c.data.toList (p + 1) = some a) : decode c p = .ok (.ldc a, 2) := by
  show Except.bind (Except.bind ((Jvm.ClassFile.Reader.u1 : Jvm.ClassFile.Decoder Nat) c p) _) _ = _
  rw [mp_u1_ok h0]
  show Except.bind (Except.bind ((Jvm.ClassFile.Reader.u1 : Jvm.ClassFile.Decoder Nat) c (p + 1)) _) _ = _
  rw [mp_u1_ok h1]
  show Except.ok (_, (p + 1 + 1) - p) = _
  rw [show (p + 1 + 1) - p = 2 by omega]
theorem mp_d_bipush {c : ByteArray} {p a : Nat} (h0 : mp_nth c.data.toList (p) = some 16) (h1 : mp_nth c.data.toList (p + 1) = some a) : decode c p = .ok (.bipush (Jvm.ClassFile.Reader.signed 8 a), 2) := by
  show Except.bind (Except.bind ((Jvm.ClassFile.Reader.u1 : Jvm.ClassFile.Decoder Nat) c p) _) _ = _
  rw [mp_u1_ok h0]
  show Except.bind (Except.bind ((Jvm.ClassFile.Reader.s1 : Jvm.ClassFile.Decoder Int) c (p + 1)) _) _ = _
  rw [mp_s1_ok h1]
  show Except.ok (_, (p + 1 + 1) - p) = _
  rw [show (p + 1 + 1) - p = 2 by omega]
theorem mp_d_iinc {c : ByteArray} {p a b : Nat} (h0 : mp_nth c.data.toList (p) = some 132) (h1 : mp_nth c.data.toList (p + 1) = some a) (h2 : mp_nth c.data.toList (p + 2) = some b) : decode c p = .ok (.iinc a (Jvm.ClassFile.Reader.signed 8 b), 3) := by
  show Except.bind (Except.bind ((Jvm.ClassFile.Reader.u1 : Jvm.ClassFile.Decoder Nat) c p) _) _ = _
  rw [mp_u1_ok h0]
  show Except.bind (Except.bind ((Jvm.ClassFile.Reader.u1 : Jvm.ClassFile.Decoder Nat) c (p + 1)) _) _ = _
  rw [mp_u1_ok h1]
  show Except.bind (Except.bind ((Jvm.ClassFile.Reader.s1 : Jvm.ClassFile.Decoder Int) c (p + 1 + 1)) _) _ = _
  rw [mp_s1_ok h2]
  show Except.ok (_, (p + 1 + 1 + 1) - p) = _
  rw [show (p + 1 + 1 + 1) - p = 3 by omega]
theorem mp_d_newarray_boolean {c : ByteArray} {p : Nat} (h0 : mp_nth c.data.toList (p) = some 188) (h1 : mp_nth c.data.toList (p + 1) = some 4) : decode c p = .ok (.newarray .boolean, 2) := by
  show Except.bind (Except.bind ((Jvm.ClassFile.Reader.u1 : Jvm.ClassFile.Decoder Nat) c p) _) _ = _
  rw [mp_u1_ok h0]
  show Except.bind (Except.bind ((Jvm.ClassFile.Reader.u1 : Jvm.ClassFile.Decoder Nat) c (p + 1)) _) _ = _
  rw [mp_u1_ok h1]
  show Except.ok (_, (p + 1 + 1) - p) = _
  rw [show (p + 1 + 1) - p = 2 by omega]
theorem mp_d_newarray_byte {c : ByteArray} {p : Nat} (h0 : mp_nth c.data.toList (p) = some 188) (h1 : mp_nth c.data.toList (p + 1) = some 8) : decode c p = .ok (.newarray .byte, 2) := by
  show Except.bind (Except.bind ((Jvm.ClassFile.Reader.u1 : Jvm.ClassFile.Decoder Nat) c p) _) _ = _
  rw [mp_u1_ok h0]
  show Except.bind (Except.bind ((Jvm.ClassFile.Reader.u1 : Jvm.ClassFile.Decoder Nat) c (p + 1)) _) _ = _
  rw [mp_u1_ok h1]
  show Except.ok (_, (p + 1 + 1) - p) = _
  rw [show (p + 1 + 1) - p = 2 by omega]
theorem mp_d_newarray_int {c : ByteArray} {p : Nat} (h0 : mp_nth c.data.toList (p) = some 188) (h1 : mp_nth c.data.toList (p + 1) = some 10) : decode c p = .ok (.newarray .int, 2) := by
  show Except.bind (Except.bind ((Jvm.ClassFile.Reader.u1 : Jvm.ClassFile.Decoder Nat) c p) _) _ = _
  rw [mp_u1_ok h0]
  show Except.bind (Except.bind ((Jvm.ClassFile.Reader.u1 : Jvm.ClassFile.Decoder Nat) c (p + 1)) _) _ = _
  rw [mp_u1_ok h1]
  show Except.ok (_, (p + 1 + 1) - p) = _
  rw [show (p + 1 + 1) - p = 2 by omega]
theorem mp_d_newarray_long {c : ByteArray} {p : Nat} (h0 : mp_nth c.data.toList (p) = some 188) (h1 : mp_nth c.data.toList (p + 1) = some 11) : decode c p = .ok (.newarray .long, 2) := by
  show Except.bind (Except.bind ((Jvm.ClassFile.Reader.u1 : Jvm.ClassFile.Decoder Nat) c p) _) _ = _
  rw [mp_u1_ok h0]
  show Except.bind (Except.bind ((Jvm.ClassFile.Reader.u1 : Jvm.ClassFile.Decoder Nat) c (p + 1)) _) _ = _
  rw [mp_u1_ok h1]
  show Except.ok (_, (p + 1 + 1) - p) = _
  rw [show (p + 1 + 1) - p = 2 by omega]
theorem mp_d_ldc_w {c : ByteArray} {p a b : Nat} (h0 : mp_nth c.data.toList (p) = some 19) (h1 : mp_nth c.data.toList (p + 1) = some a) (h2 : mp_nth c.data.toList (p + 2) = some b) : decode c p = .ok (.ldc_w (a * 256 + b), 3) := by
  show Except.bind (Except.bind ((Jvm.ClassFile.Reader.u1 : Jvm.ClassFile.Decoder Nat) c p) _) _ = _
  rw [mp_u1_ok h0]
  show Except.bind (Except.bind ((Jvm.ClassFile.Reader.u2 : Jvm.ClassFile.Decoder Nat) c (p + 1)) _) _ = _
  rw [mp_u2_ok h1 h2]
  show Except.ok (_, (p + 1 + 2) - p) = _
  rw [show (p + 1 + 2) - p = 3 by omega]
theorem mp_d_ldc2_w {c : ByteArray} {p a b : Nat} (h0 : mp_nth c.data.toList (p) = some 20) (h1 : mp_nth c.data.toList (p + 1) = some a) (h2 : mp_nth c.data.toList (p + 2) = some b) : decode c p = .ok (.ldc2_w (a * 256 + b), 3) := by
  show Except.bind (Except.bind ((Jvm.ClassFile.Reader.u1 : Jvm.ClassFile.Decoder Nat) c p) _) _ = _
  rw [mp_u1_ok h0]
  show Except.bind (Except.bind ((Jvm.ClassFile.Reader.u2 : Jvm.ClassFile.Decoder Nat) c (p + 1)) _) _ = _
  rw [mp_u2_ok h1 h2]
  show Except.ok (_, (p + 1 + 2) - p) = _
  rw [show (p + 1 + 2) - p = 3 by omega]
theorem mp_d_getstatic {c : ByteArray} {p a b : Nat} (h0 : mp_nth c.data.toList (p) = some 178) (h1 : mp_nth c.data.toList (p + 1) = some a) (h2 : mp_nth c.data.toList (p + 2) = some b) : decode c p = .ok (.getstatic (a * 256 + b), 3) := by
  show Except.bind (Except.bind ((Jvm.ClassFile.Reader.u1 : Jvm.ClassFile.Decoder Nat) c p) _) _ = _
  rw [mp_u1_ok h0]
  show Except.bind (Except.bind ((Jvm.ClassFile.Reader.u2 : Jvm.ClassFile.Decoder Nat) c (p + 1)) _) _ = _
  rw [mp_u2_ok h1 h2]
  show Except.ok (_, (p + 1 + 2) - p) = _
  rw [show (p + 1 + 2) - p = 3 by omega]
theorem mp_d_putstatic {c : ByteArray} {p a b : Nat} (h0 : mp_nth c.data.toList (p) = some 179) (h1 : mp_nth c.data.toList (p + 1) = some a) (h2 : mp_nth c.data.toList (p + 2) = some b) : decode c p = .ok (.putstatic (a * 256 + b), 3) := by
  show Except.bind (Except.bind ((Jvm.ClassFile.Reader.u1 : Jvm.ClassFile.Decoder Nat) c p) _) _ = _
  rw [mp_u1_ok h0]
  show Except.bind (Except.bind ((Jvm.ClassFile.Reader.u2 : Jvm.ClassFile.Decoder Nat) c (p + 1)) _) _ = _
  rw [mp_u2_ok h1 h2]
  show Except.ok (_, (p + 1 + 2) - p) = _
  rw [show (p + 1 + 2) - p = 3 by omega]
theorem mp_d_getfield {c : ByteArray} {p a b : Nat} (h0 : mp_nth c.data.toList (p) = some 180) (h1 : mp_nth c.data.toList (p + 1) = some a) (h2 : mp_nth c.data.toList (p + 2) = some b) : decode c p = .ok (.getfield (a * 256 + b), 3) := by
  show Except.bind (Except.bind ((Jvm.ClassFile.Reader.u1 : Jvm.ClassFile.Decoder Nat) c p) _) _ = _
  rw [mp_u1_ok h0]
  show Except.bind (Except.bind ((Jvm.ClassFile.Reader.u2 : Jvm.ClassFile.Decoder Nat) c (p + 1)) _) _ = _
  rw [mp_u2_ok h1 h2]
  show Except.ok (_, (p + 1 + 2) - p) = _
  rw [show (p + 1 + 2) - p = 3 by omega]
theorem mp_d_putfield {c : ByteArray} {p a b : Nat} (h0 : mp_nth c.data.toList (p) = some 181) (h1 : mp_nth c.data.toList (p + 1) = some a) (h2 : mp_nth c.data.toList (p + 2) = some b) : decode c p = .ok (.putfield (a * 256 + b), 3) := by
  show Except.bind (Except.bind ((Jvm.ClassFile.Reader.u1 : Jvm.ClassFile.Decoder Nat) c p) _) _ = _
  rw [mp_u1_ok h0]
  show Except.bind (Except.bind ((Jvm.ClassFile.Reader.u2 : Jvm.ClassFile.Decoder Nat) c (p + 1)) _) _ = _
  rw [mp_u2_ok h1 h2]
  show Except.ok (_, (p + 1 + 2) - p) = _
  rw [show (p + 1 + 2) - p = 3 by omega]
theorem mp_d_invokevirtual {c : ByteArray} {p a b : Nat} (h0 : mp_nth c.data.toList (p) = some 182) (h1 : mp_nth c.data.toList (p + 1) = some a) (h2 : mp_nth c.data.toList (p + 2) = some b) : decode c p = .ok (.invokevirtual (a * 256 + b), 3) := by
  show Except.bind (Except.bind ((Jvm.ClassFile.Reader.u1 : Jvm.ClassFile.Decoder Nat) c p) _) _ = _
  rw [mp_u1_ok h0]
  show Except.bind (Except.bind ((Jvm.ClassFile.Reader.u2 : Jvm.ClassFile.Decoder Nat) c (p + 1)) _) _ = _
  rw [mp_u2_ok h1 h2]
  show Except.ok (_, (p + 1 + 2) - p) = _
  rw [show (p + 1 + 2) - p = 3 by omega]
theorem mp_d_invokespecial {c : ByteArray} {p a b : Nat} (h0 : mp_nth c.data.toList (p) = some 183) (h1 : mp_nth c.data.toList (p + 1) = some a) (h2 : mp_nth c.data.toList (p + 2) = some b) : decode c p = .ok (.invokespecial (a * 256 + b), 3) := by
  show Except.bind (Except.bind ((Jvm.ClassFile.Reader.u1 : Jvm.ClassFile.Decoder Nat) c p) _) _ = _
  rw [mp_u1_ok h0]
  show Except.bind (Except.bind ((Jvm.ClassFile.Reader.u2 : Jvm.ClassFile.Decoder Nat) c (p + 1)) _) _ = _
  rw [mp_u2_ok h1 h2]
  show Except.ok (_, (p + 1 + 2) - p) = _
  rw [show (p + 1 + 2) - p = 3 by omega]
theorem mp_d_invokestatic {c : ByteArray} {p a b : Nat} (h0 : mp_nth c.data.toList (p) = some 184) (h1 : mp_nth c.data.toList (p + 1) = some a) (h2 : mp_nth c.data.toList (p + 2) = some b) : decode c p = .ok (.invokestatic (a * 256 + b), 3) := by
  show Except.bind (Except.bind ((Jvm.ClassFile.Reader.u1 : Jvm.ClassFile.Decoder Nat) c p) _) _ = _
  rw [mp_u1_ok h0]
  show Except.bind (Except.bind ((Jvm.ClassFile.Reader.u2 : Jvm.ClassFile.Decoder Nat) c (p + 1)) _) _ = _
  rw [mp_u2_ok h1 h2]
  show Except.ok (_, (p + 1 + 2) - p) = _
  rw [show (p + 1 + 2) - p = 3 by omega]
theorem mp_d_new {c : ByteArray} {p a b : Nat} (h0 : mp_nth c.data.toList (p) = some 187) (h1 : mp_nth c.data.toList (p + 1) = some a) (h2 : mp_nth c.data.toList (p + 2) = some b) : decode c p = .ok (.new (a * 256 + b), 3) := by
  show Except.bind (Except.bind ((Jvm.ClassFile.Reader.u1 : Jvm.ClassFile.Decoder Nat) c p) _) _ = _
  rw [mp_u1_ok h0]
  show Except.bind (Except.bind ((Jvm.ClassFile.Reader.u2 : Jvm.ClassFile.Decoder Nat) c (p + 1)) _) _ = _
  rw [mp_u2_ok h1 h2]
  show Except.ok (_, (p + 1 + 2) - p) = _
  rw [show (p + 1 + 2) - p = 3 by omega]
theorem mp_d_anewarray {c : ByteArray} {p a b : Nat} (h0 : mp_nth c.data.toList (p) = some 189) (h1 : mp_nth c.data.toList (p + 1) = some a) (h2 : mp_nth c.data.toList (p + 2) = some b) : decode c p = .ok (.anewarray (a * 256 + b), 3) := by
  show Except.bind (Except.bind ((Jvm.ClassFile.Reader.u1 : Jvm.ClassFile.Decoder Nat) c p) _) _ = _
  rw [mp_u1_ok h0]
  show Except.bind (Except.bind ((Jvm.ClassFile.Reader.u2 : Jvm.ClassFile.Decoder Nat) c (p + 1)) _) _ = _
  rw [mp_u2_ok h1 h2]
  show Except.ok (_, (p + 1 + 2) - p) = _
  rw [show (p + 1 + 2) - p = 3 by omega]
theorem mp_d_checkcast {c : ByteArray} {p a b : Nat} (h0 : mp_nth c.data.toList (p) = some 192) (h1 : mp_nth c.data.toList (p + 1) = some a) (h2 : mp_nth c.data.toList (p + 2) = some b) : decode c p = .ok (.checkcast (a * 256 + b), 3) := by
  show Except.bind (Except.bind ((Jvm.ClassFile.Reader.u1 : Jvm.ClassFile.Decoder Nat) c p) _) _ = _
  rw [mp_u1_ok h0]
  show Except.bind (Except.bind ((Jvm.ClassFile.Reader.u2 : Jvm.ClassFile.Decoder Nat) c (p + 1)) _) _ = _
  rw [mp_u2_ok h1 h2]
  show Except.ok (_, (p + 1 + 2) - p) = _
  rw [show (p + 1 + 2) - p = 3 by omega]
theorem mp_d_goto {c : ByteArray} {p a b : Nat} (h0 : mp_nth c.data.toList (p) = some 167) (h1 : mp_nth c.data.toList (p + 1) = some a) (h2 : mp_nth c.data.toList (p + 2) = some b) : decode c p = .ok (.goto (Jvm.ClassFile.Reader.signed 16 (a * 256 + b)), 3) := by
  show Except.bind (Except.bind ((Jvm.ClassFile.Reader.u1 : Jvm.ClassFile.Decoder Nat) c p) _) _ = _
  rw [mp_u1_ok h0]
  show Except.bind (Except.bind ((Jvm.ClassFile.Reader.s2 : Jvm.ClassFile.Decoder Int) c (p + 1)) _) _ = _
  rw [mp_s2_ok h1 h2]
  show Except.ok (_, (p + 1 + 2) - p) = _
  rw [show (p + 1 + 2) - p = 3 by omega]
theorem mp_d_ifnull {c : ByteArray} {p a b : Nat} (h0 : mp_nth c.data.toList (p) = some 198) (h1 : mp_nth c.data.toList (p + 1) = some a) (h2 : mp_nth c.data.toList (p + 2) = some b) : decode c p = .ok (.ifnull (Jvm.ClassFile.Reader.signed 16 (a * 256 + b)), 3) := by
  show Except.bind (Except.bind ((Jvm.ClassFile.Reader.u1 : Jvm.ClassFile.Decoder Nat) c p) _) _ = _
  rw [mp_u1_ok h0]
  show Except.bind (Except.bind ((Jvm.ClassFile.Reader.s2 : Jvm.ClassFile.Decoder Int) c (p + 1)) _) _ = _
  rw [mp_s2_ok h1 h2]
  show Except.ok (_, (p + 1 + 2) - p) = _
  rw [show (p + 1 + 2) - p = 3 by omega]
theorem mp_d_ifnonnull {c : ByteArray} {p a b : Nat} (h0 : mp_nth c.data.toList (p) = some 199) (h1 : mp_nth c.data.toList (p + 1) = some a) (h2 : mp_nth c.data.toList (p + 2) = some b) : decode c p = .ok (.ifnonnull (Jvm.ClassFile.Reader.signed 16 (a * 256 + b)), 3) := by
  show Except.bind (Except.bind ((Jvm.ClassFile.Reader.u1 : Jvm.ClassFile.Decoder Nat) c p) _) _ = _
  rw [mp_u1_ok h0]
  show Except.bind (Except.bind ((Jvm.ClassFile.Reader.s2 : Jvm.ClassFile.Decoder Int) c (p + 1)) _) _ = _
  rw [mp_s2_ok h1 h2]
  show Except.ok (_, (p + 1 + 2) - p) = _
  rw [show (p + 1 + 2) - p = 3 by omega]
theorem mp_d_sipush {c : ByteArray} {p a b : Nat} (h0 : mp_nth c.data.toList (p) = some 17) (h1 : mp_nth c.data.toList (p + 1) = some a) (h2 : mp_nth c.data.toList (p + 2) = some b) : decode c p = .ok (.sipush (Jvm.ClassFile.Reader.signed 16 (a * 256 + b)), 3) := by
  show Except.bind (Except.bind ((Jvm.ClassFile.Reader.u1 : Jvm.ClassFile.Decoder Nat) c p) _) _ = _
  rw [mp_u1_ok h0]
  show Except.bind (Except.bind ((Jvm.ClassFile.Reader.s2 : Jvm.ClassFile.Decoder Int) c (p + 1)) _) _ = _
  rw [mp_s2_ok h1 h2]
  show Except.ok (_, (p + 1 + 2) - p) = _
  rw [show (p + 1 + 2) - p = 3 by omega]
theorem mp_d_ifCond_eq {c : ByteArray} {p a b : Nat} (h0 : mp_nth c.data.toList (p) = some 153) (h1 : mp_nth c.data.toList (p + 1) = some a) (h2 : mp_nth c.data.toList (p + 2) = some b) : decode c p = .ok (.ifCond .eq (Jvm.ClassFile.Reader.signed 16 (a * 256 + b)), 3) := by
  show Except.bind (Except.bind ((Jvm.ClassFile.Reader.u1 : Jvm.ClassFile.Decoder Nat) c p) _) _ = _
  rw [mp_u1_ok h0]
  show Except.bind (Except.bind ((Jvm.ClassFile.Reader.s2 : Jvm.ClassFile.Decoder Int) c (p + 1)) _) _ = _
  rw [mp_s2_ok h1 h2]
  show Except.ok (_, (p + 1 + 2) - p) = _
  rw [show (p + 1 + 2) - p = 3 by omega]
theorem mp_d_ifCond_ne {c : ByteArray} {p a b : Nat} (h0 : mp_nth c.data.toList (p) = some 154) (h1 : mp_nth c.data.toList (p + 1) = some a) (h2 : mp_nth c.data.toList (p + 2) = some b) : decode c p = .ok (.ifCond .ne (Jvm.ClassFile.Reader.signed 16 (a * 256 + b)), 3) := by
  show Except.bind (Except.bind ((Jvm.ClassFile.Reader.u1 : Jvm.ClassFile.Decoder Nat) c p) _) _ = _
  rw [mp_u1_ok h0]
  show Except.bind (Except.bind ((Jvm.ClassFile.Reader.s2 : Jvm.ClassFile.Decoder Int) c (p + 1)) _) _ = _
  rw [mp_s2_ok h1 h2]
  show Except.ok (_, (p + 1 + 2) - p) = _
  rw [show (p + 1 + 2) - p = 3 by omega]
theorem mp_d_ifCond_lt {c : ByteArray} {p a b : Nat} (h0 : mp_nth c.data.toList (p) = some 155) (h1 : mp_nth c.data.toList (p + 1) = some a) (h2 : mp_nth c.data.toList (p + 2) = some b) : decode c p = .ok (.ifCond .lt (Jvm.ClassFile.Reader.signed 16 (a * 256 + b)), 3) := by
  show Except.bind (Except.bind ((Jvm.ClassFile.Reader.u1 : Jvm.ClassFile.Decoder Nat) c p) _) _ = _
  rw [mp_u1_ok h0]
  show Except.bind (Except.bind ((Jvm.ClassFile.Reader.s2 : Jvm.ClassFile.Decoder Int) c (p + 1)) _) _ = _
  rw [mp_s2_ok h1 h2]
  show Except.ok (_, (p + 1 + 2) - p) = _
  rw [show (p + 1 + 2) - p = 3 by omega]
theorem mp_d_ifCond_ge {c : ByteArray} {p a b : Nat} (h0 : mp_nth c.data.toList (p) = some 156) (h1 : mp_nth c.data.toList (p + 1) = some a) (h2 : mp_nth c.data.toList (p + 2) = some b) : decode c p = .ok (.ifCond .ge (Jvm.ClassFile.Reader.signed 16 (a * 256 + b)), 3) := by
  show Except.bind (Except.bind ((Jvm.ClassFile.Reader.u1 : Jvm.ClassFile.Decoder Nat) c p) _) _ = _
  rw [mp_u1_ok h0]
  show Except.bind (Except.bind ((Jvm.ClassFile.Reader.s2 : Jvm.ClassFile.Decoder Int) c (p + 1)) _) _ = _
  rw [mp_s2_ok h1 h2]
  show Except.ok (_, (p + 1 + 2) - p) = _
  rw [show (p + 1 + 2) - p = 3 by omega]
theorem mp_d_ifCond_gt {c : ByteArray} {p a b : Nat} (h0 : mp_nth c.data.toList (p) = some 157) (h1 : mp_nth c.data.toList (p + 1) = some a) (h2 : mp_nth c.data.toList (p + 2) = some b) : decode c p = .ok (.ifCond .gt (Jvm.ClassFile.Reader.signed 16 (a * 256 + b)), 3) := by
  show Except.bind (Except.bind ((Jvm.ClassFile.Reader.u1 : Jvm.ClassFile.Decoder Nat) c p) _) _ = _
  rw [mp_u1_ok h0]
  show Except.bind (Except.bind ((Jvm.ClassFile.Reader.s2 : Jvm.ClassFile.Decoder Int) c (p + 1)) _) _ = _
  rw [mp_s2_ok h1 h2]
  show Except.ok (_, (p + 1 + 2) - p) = _
  rw [show (p + 1 + 2) - p = 3 by omega]
theorem mp_d_ifCond_le {c : ByteArray} {p a b : Nat} (h0 : mp_nth c.data.toList (p) = some 158) (h1 : mp_nth c.data.toList (p + 1) = some a) (h2 : mp_nth c.data.toList (p + 2) = some b) : decode c p = .ok (.ifCond .le (Jvm.ClassFile.Reader.signed 16 (a * 256 + b)), 3) := by
  show Except.bind (Except.bind ((Jvm.ClassFile.Reader.u1 : Jvm.ClassFile.Decoder Nat) c p) _) _ = _
  rw [mp_u1_ok h0]
  show Except.bind (Except.bind ((Jvm.ClassFile.Reader.s2 : Jvm.ClassFile.Decoder Int) c (p + 1)) _) _ = _
  rw [mp_s2_ok h1 h2]
  show Except.ok (_, (p + 1 + 2) - p) = _
  rw [show (p + 1 + 2) - p = 3 by omega]
theorem mp_d_if_icmp_eq {c : ByteArray} {p a b : Nat} (h0 : mp_nth c.data.toList (p) = some 159) (h1 : mp_nth c.data.toList (p + 1) = some a) (h2 : mp_nth c.data.toList (p + 2) = some b) : decode c p = .ok (.if_icmp .eq (Jvm.ClassFile.Reader.signed 16 (a * 256 + b)), 3) := by
  show Except.bind (Except.bind ((Jvm.ClassFile.Reader.u1 : Jvm.ClassFile.Decoder Nat) c p) _) _ = _
  rw [mp_u1_ok h0]
  show Except.bind (Except.bind ((Jvm.ClassFile.Reader.s2 : Jvm.ClassFile.Decoder Int) c (p + 1)) _) _ = _
  rw [mp_s2_ok h1 h2]
  show Except.ok (_, (p + 1 + 2) - p) = _
  rw [show (p + 1 + 2) - p = 3 by omega]
theorem mp_d_if_icmp_ne {c : ByteArray} {p a b : Nat} (h0 : mp_nth c.data.toList (p) = some 160) (h1 : mp_nth c.data.toList (p + 1) = some a) (h2 : mp_nth c.data.toList (p + 2) = some b) : decode c p = .ok (.if_icmp .ne (Jvm.ClassFile.Reader.signed 16 (a * 256 + b)), 3) := by
  show Except.bind (Except.bind ((Jvm.ClassFile.Reader.u1 : Jvm.ClassFile.Decoder Nat) c p) _) _ = _
  rw [mp_u1_ok h0]
  show Except.bind (Except.bind ((Jvm.ClassFile.Reader.s2 : Jvm.ClassFile.Decoder Int) c (p + 1)) _) _ = _
  rw [mp_s2_ok h1 h2]
  show Except.ok (_, (p + 1 + 2) - p) = _
  rw [show (p + 1 + 2) - p = 3 by omega]
theorem mp_d_if_icmp_lt {c : ByteArray} {p a b : Nat} (h0 : mp_nth c.data.toList (p) = some 161) (h1 : mp_nth c.data.toList (p + 1) = some a) (h2 : mp_nth c.data.toList (p + 2) = some b) : decode c p = .ok (.if_icmp .lt (Jvm.ClassFile.Reader.signed 16 (a * 256 + b)), 3) := by
  show Except.bind (Except.bind ((Jvm.ClassFile.Reader.u1 : Jvm.ClassFile.Decoder Nat) c p) _) _ = _
  rw [mp_u1_ok h0]
  show Except.bind (Except.bind ((Jvm.ClassFile.Reader.s2 : Jvm.ClassFile.Decoder Int) c (p + 1)) _) _ = _
  rw [mp_s2_ok h1 h2]
  show Except.ok (_, (p + 1 + 2) - p) = _
  rw [show (p + 1 + 2) - p = 3 by omega]
theorem mp_d_if_icmp_ge {c : ByteArray} {p a b : Nat} (h0 : mp_nth c.data.toList (p) = some 162) (h1 : mp_nth c.data.toList (p + 1) = some a) (h2 : mp_nth c.data.toList (p + 2) = some b) : decode c p = .ok (.if_icmp .ge (Jvm.ClassFile.Reader.signed 16 (a * 256 + b)), 3) := by
  show Except.bind (Except.bind ((Jvm.ClassFile.Reader.u1 : Jvm.ClassFile.Decoder Nat) c p) _) _ = _
  rw [mp_u1_ok h0]
  show Except.bind (Except.bind ((Jvm.ClassFile.Reader.s2 : Jvm.ClassFile.Decoder Int) c (p + 1)) _) _ = _
  rw [mp_s2_ok h1 h2]
  show Except.ok (_, (p + 1 + 2) - p) = _
  rw [show (p + 1 + 2) - p = 3 by omega]
theorem mp_d_if_icmp_gt {c : ByteArray} {p a b : Nat} (h0 : mp_nth c.data.toList (p) = some 163) (h1 : mp_nth c.data.toList (p + 1) = some a) (h2 : mp_nth c.data.toList (p + 2) = some b) : decode c p = .ok (.if_icmp .gt (Jvm.ClassFile.Reader.signed 16 (a * 256 + b)), 3) := by
  show Except.bind (Except.bind ((Jvm.ClassFile.Reader.u1 : Jvm.ClassFile.Decoder Nat) c p) _) _ = _
  rw [mp_u1_ok h0]
  show Except.bind (Except.bind ((Jvm.ClassFile.Reader.s2 : Jvm.ClassFile.Decoder Int) c (p + 1)) _) _ = _
  rw [mp_s2_ok h1 h2]
  show Except.ok (_, (p + 1 + 2) - p) = _
  rw [show (p + 1 + 2) - p = 3 by omega]
theorem mp_d_if_icmp_le {c : ByteArray} {p a b : Nat} (h0 : mp_nth c.data.toList (p) = some 164) (h1 : mp_nth c.data.toList (p + 1) = some a) (h2 : mp_nth c.data.toList (p + 2) = some b) : decode c p = .ok (.if_icmp .le (Jvm.ClassFile.Reader.signed 16 (a * 256 + b)), 3) := by
  show Except.bind (Except.bind ((Jvm.ClassFile.Reader.u1 : Jvm.ClassFile.Decoder Nat) c p) _) _ = _
  rw [mp_u1_ok h0]
  show Except.bind (Except.bind ((Jvm.ClassFile.Reader.s2 : Jvm.ClassFile.Decoder Int) c (p + 1)) _) _ = _
  rw [mp_s2_ok h1 h2]
  show Except.ok (_, (p + 1 + 2) - p) = _
  rw [show (p + 1 + 2) - p = 3 by omega]
def mp_fd (N : Nat) (p : Nat) : Jvm.ClassFile.Instr → Nat → Bool
  | .aconst_null, n => decide (n = 1) && (mp_byt N (p) 1)
  | .iaload, n => decide (n = 1) && (mp_byt N (p) 46)
  | .laload, n => decide (n = 1) && (mp_byt N (p) 47)
  | .aaload, n => decide (n = 1) && (mp_byt N (p) 50)
  | .baload, n => decide (n = 1) && (mp_byt N (p) 51)
  | .iastore, n => decide (n = 1) && (mp_byt N (p) 79)
  | .lastore, n => decide (n = 1) && (mp_byt N (p) 80)
  | .aastore, n => decide (n = 1) && (mp_byt N (p) 83)
  | .bastore, n => decide (n = 1) && (mp_byt N (p) 84)
  | .pop, n => decide (n = 1) && (mp_byt N (p) 87)
  | .pop2, n => decide (n = 1) && (mp_byt N (p) 88)
  | .dup, n => decide (n = 1) && (mp_byt N (p) 89)
  | .dup_x1, n => decide (n = 1) && (mp_byt N (p) 90)
  | .dup2, n => decide (n = 1) && (mp_byt N (p) 92)
  | .iadd, n => decide (n = 1) && (mp_byt N (p) 96)
  | .ladd, n => decide (n = 1) && (mp_byt N (p) 97)
  | .isub, n => decide (n = 1) && (mp_byt N (p) 100)
  | .lsub, n => decide (n = 1) && (mp_byt N (p) 101)
  | .imul, n => decide (n = 1) && (mp_byt N (p) 104)
  | .lmul, n => decide (n = 1) && (mp_byt N (p) 105)
  | .idiv, n => decide (n = 1) && (mp_byt N (p) 108)
  | .ldiv, n => decide (n = 1) && (mp_byt N (p) 109)
  | .irem, n => decide (n = 1) && (mp_byt N (p) 112)
  | .lrem, n => decide (n = 1) && (mp_byt N (p) 113)
  | .ineg, n => decide (n = 1) && (mp_byt N (p) 116)
  | .lneg, n => decide (n = 1) && (mp_byt N (p) 117)
  | .ishl, n => decide (n = 1) && (mp_byt N (p) 120)
  | .lshl, n => decide (n = 1) && (mp_byt N (p) 121)
  | .ishr, n => decide (n = 1) && (mp_byt N (p) 122)
  | .lshr, n => decide (n = 1) && (mp_byt N (p) 123)
  | .iushr, n => decide (n = 1) && (mp_byt N (p) 124)
  | .lushr, n => decide (n = 1) && (mp_byt N (p) 125)
  | .iand, n => decide (n = 1) && (mp_byt N (p) 126)
  | .land, n => decide (n = 1) && (mp_byt N (p) 127)
  | .ior, n => decide (n = 1) && (mp_byt N (p) 128)
  | .lor, n => decide (n = 1) && (mp_byt N (p) 129)
  | .ixor, n => decide (n = 1) && (mp_byt N (p) 130)
  | .lxor, n => decide (n = 1) && (mp_byt N (p) 131)
  | .i2l, n => decide (n = 1) && (mp_byt N (p) 133)
  | .l2i, n => decide (n = 1) && (mp_byt N (p) 136)
  | .i2b, n => decide (n = 1) && (mp_byt N (p) 145)
  | .i2c, n => decide (n = 1) && (mp_byt N (p) 146)
  | .i2s, n => decide (n = 1) && (mp_byt N (p) 147)
  | .lcmp, n => decide (n = 1) && (mp_byt N (p) 148)
  | .ireturn, n => decide (n = 1) && (mp_byt N (p) 172)
  | .lreturn, n => decide (n = 1) && (mp_byt N (p) 173)
  | .areturn, n => decide (n = 1) && (mp_byt N (p) 176)
  | .return_, n => decide (n = 1) && (mp_byt N (p) 177)
  | .arraylength, n => decide (n = 1) && (mp_byt N (p) 190)
  | .iload_n k, n => decide (n = 1) && (mp_byt N (p) (Nat.add 26 k.val))
  | .lload_n k, n => decide (n = 1) && (mp_byt N (p) (Nat.add 30 k.val))
  | .aload_n k, n => decide (n = 1) && (mp_byt N (p) (Nat.add 42 k.val))
  | .istore_n k, n => decide (n = 1) && (mp_byt N (p) (Nat.add 59 k.val))
  | .lstore_n k, n => decide (n = 1) && (mp_byt N (p) (Nat.add 63 k.val))
  | .astore_n k, n => decide (n = 1) && (mp_byt N (p) (Nat.add 75 k.val))
  | .iconst z, n => decide (n = 1) && (mp_byt N p (z + 3).toNat && decide (-1 ≤ z) && decide (z ≤ 5))
  | .lconst k, n => decide (n = 1) && (mp_byt N (p) (Nat.add 9 k.val))
  | .iinc j z, n => decide (n = 3) && (mp_byt N (p) 132 && mp_byt N (p + 1) j && mp_byt N (p + 2) (z % 256).toNat && decide (Jvm.ClassFile.Reader.signed 8 (z % 256).toNat = z))
  | .newarray .boolean, n => decide (n = 2) && (mp_byt N (p) 188 && mp_byt N (p + 1) 4)
  | .newarray .byte, n => decide (n = 2) && (mp_byt N (p) 188 && mp_byt N (p + 1) 8)
  | .newarray .int, n => decide (n = 2) && (mp_byt N (p) 188 && mp_byt N (p + 1) 10)
  | .newarray .long, n => decide (n = 2) && (mp_byt N (p) 188 && mp_byt N (p + 1) 11)
  | .iload j, n => decide (n = 2) && (mp_byt N (p) 21 && mp_byt N (p + 1) j)
  | .lload j, n => decide (n = 2) && (mp_byt N (p) 22 && mp_byt N (p + 1) j)
  | .aload j, n => decide (n = 2) && (mp_byt N (p) 25 && mp_byt N (p + 1) j)
  | .istore j, n => decide (n = 2) && (mp_byt N (p) 54 && mp_byt N (p + 1) j)
  | .lstore j, n => decide (n = 2) && (mp_byt N (p) 55 && mp_byt N (p + 1) j)
  | .astore j, n => decide (n = 2) && (mp_byt N (p) 58 && mp_byt N (p + 1) j)
  | .ldc j, n => decide (n = 2) && (mp_byt N (p) 18 && mp_byt N (p + 1) j)
  | .bipush z, n => decide (n = 2) && (mp_byt N (p) 16 && mp_byt N (p + 1) (z % 256).toNat && decide (Jvm.ClassFile.Reader.signed 8 (z % 256).toNat = z))
  | .ldc_w j, n => decide (n = 3) && (mp_byt N (p) 19 && mp_byt N (p + 1) (j / 256) && mp_byt N (p + 2) (j % 256))
  | .ldc2_w j, n => decide (n = 3) && (mp_byt N (p) 20 && mp_byt N (p + 1) (j / 256) && mp_byt N (p + 2) (j % 256))
  | .getstatic j, n => decide (n = 3) && (mp_byt N (p) 178 && mp_byt N (p + 1) (j / 256) && mp_byt N (p + 2) (j % 256))
  | .putstatic j, n => decide (n = 3) && (mp_byt N (p) 179 && mp_byt N (p + 1) (j / 256) && mp_byt N (p + 2) (j % 256))
  | .getfield j, n => decide (n = 3) && (mp_byt N (p) 180 && mp_byt N (p + 1) (j / 256) && mp_byt N (p + 2) (j % 256))
  | .putfield j, n => decide (n = 3) && (mp_byt N (p) 181 && mp_byt N (p + 1) (j / 256) && mp_byt N (p + 2) (j % 256))
  | .invokevirtual j, n => decide (n = 3) && (mp_byt N (p) 182 && mp_byt N (p + 1) (j / 256) && mp_byt N (p + 2) (j % 256))
  | .invokespecial j, n => decide (n = 3) && (mp_byt N (p) 183 && mp_byt N (p + 1) (j / 256) && mp_byt N (p + 2) (j % 256))
  | .invokestatic j, n => decide (n = 3) && (mp_byt N (p) 184 && mp_byt N (p + 1) (j / 256) && mp_byt N (p + 2) (j % 256))
  | .new j, n => decide (n = 3) && (mp_byt N (p) 187 && mp_byt N (p + 1) (j / 256) && mp_byt N (p + 2) (j % 256))
  | .anewarray j, n => decide (n = 3) && (mp_byt N (p) 189 && mp_byt N (p + 1) (j / 256) && mp_byt N (p + 2) (j % 256))
  | .checkcast j, n => decide (n = 3) && (mp_byt N (p) 192 && mp_byt N (p + 1) (j / 256) && mp_byt N (p + 2) (j % 256))
  | .goto z, n => decide (n = 3) && (mp_byt N (p) 167 && mp_byt N (p + 1) ((z % 65536).toNat / 256) && mp_byt N (p + 2) ((z % 65536).toNat % 256) && decide (Jvm.ClassFile.Reader.signed 16 ((z % 65536).toNat / 256 * 256 + (z % 65536).toNat % 256) = z))
  | .ifnull z, n => decide (n = 3) && (mp_byt N (p) 198 && mp_byt N (p + 1) ((z % 65536).toNat / 256) && mp_byt N (p + 2) ((z % 65536).toNat % 256) && decide (Jvm.ClassFile.Reader.signed 16 ((z % 65536).toNat / 256 * 256 + (z % 65536).toNat % 256) = z))
  | .ifnonnull z, n => decide (n = 3) && (mp_byt N (p) 199 && mp_byt N (p + 1) ((z % 65536).toNat / 256) && mp_byt N (p + 2) ((z % 65536).toNat % 256) && decide (Jvm.ClassFile.Reader.signed 16 ((z % 65536).toNat / 256 * 256 + (z % 65536).toNat % 256) = z))
  | .sipush z, n => decide (n = 3) && (mp_byt N (p) 17 && mp_byt N (p + 1) ((z % 65536).toNat / 256) && mp_byt N (p + 2) ((z % 65536).toNat % 256) && decide (Jvm.ClassFile.Reader.signed 16 ((z % 65536).toNat / 256 * 256 + (z % 65536).toNat % 256) = z))
  | .ifCond .eq z, n => decide (n = 3) && (mp_byt N (p) 153 && mp_byt N (p + 1) ((z % 65536).toNat / 256) && mp_byt N (p + 2) ((z % 65536).toNat % 256) && decide (Jvm.ClassFile.Reader.signed 16 ((z % 65536).toNat / 256 * 256 + (z % 65536).toNat % 256) = z))
  | .ifCond .ne z, n => decide (n = 3) && (mp_byt N (p) 154 && mp_byt N (p + 1) ((z % 65536).toNat / 256) && mp_byt N (p + 2) ((z % 65536).toNat % 256) && decide (Jvm.ClassFile.Reader.signed 16 ((z % 65536).toNat / 256 * 256 + (z % 65536).toNat % 256) = z))
  | .ifCond .lt z, n => decide (n = 3) && (mp_byt N (p) 155 && mp_byt N (p + 1) ((z % 65536).toNat / 256) && mp_byt N (p + 2) ((z % 65536).toNat % 256) && decide (Jvm.ClassFile.Reader.signed 16 ((z % 65536).toNat / 256 * 256 + (z % 65536).toNat % 256) = z))
  | .ifCond .ge z, n => decide (n = 3) && (mp_byt N (p) 156 && mp_byt N (p + 1) ((z % 65536).toNat / 256) && mp_byt N (p + 2) ((z % 65536).toNat % 256) && decide (Jvm.ClassFile.Reader.signed 16 ((z % 65536).toNat / 256 * 256 + (z % 65536).toNat % 256) = z))
  | .ifCond .gt z, n => decide (n = 3) && (mp_byt N (p) 157 && mp_byt N (p + 1) ((z % 65536).toNat / 256) && mp_byt N (p + 2) ((z % 65536).toNat % 256) && decide (Jvm.ClassFile.Reader.signed 16 ((z % 65536).toNat / 256 * 256 + (z % 65536).toNat % 256) = z))
  | .ifCond .le z, n => decide (n = 3) && (mp_byt N (p) 158 && mp_byt N (p + 1) ((z % 65536).toNat / 256) && mp_byt N (p + 2) ((z % 65536).toNat % 256) && decide (Jvm.ClassFile.Reader.signed 16 ((z % 65536).toNat / 256 * 256 + (z % 65536).toNat % 256) = z))
  | .if_icmp .eq z, n => decide (n = 3) && (mp_byt N (p) 159 && mp_byt N (p + 1) ((z % 65536).toNat / 256) && mp_byt N (p + 2) ((z % 65536).toNat % 256) && decide (Jvm.ClassFile.Reader.signed 16 ((z % 65536).toNat / 256 * 256 + (z % 65536).toNat % 256) = z))
  | .if_icmp .ne z, n => decide (n = 3) && (mp_byt N (p) 160 && mp_byt N (p + 1) ((z % 65536).toNat / 256) && mp_byt N (p + 2) ((z % 65536).toNat % 256) && decide (Jvm.ClassFile.Reader.signed 16 ((z % 65536).toNat / 256 * 256 + (z % 65536).toNat % 256) = z))
  | .if_icmp .lt z, n => decide (n = 3) && (mp_byt N (p) 161 && mp_byt N (p + 1) ((z % 65536).toNat / 256) && mp_byt N (p + 2) ((z % 65536).toNat % 256) && decide (Jvm.ClassFile.Reader.signed 16 ((z % 65536).toNat / 256 * 256 + (z % 65536).toNat % 256) = z))
  | .if_icmp .ge z, n => decide (n = 3) && (mp_byt N (p) 162 && mp_byt N (p + 1) ((z % 65536).toNat / 256) && mp_byt N (p + 2) ((z % 65536).toNat % 256) && decide (Jvm.ClassFile.Reader.signed 16 ((z % 65536).toNat / 256 * 256 + (z % 65536).toNat % 256) = z))
  | .if_icmp .gt z, n => decide (n = 3) && (mp_byt N (p) 163 && mp_byt N (p + 1) ((z % 65536).toNat / 256) && mp_byt N (p + 2) ((z % 65536).toNat % 256) && decide (Jvm.ClassFile.Reader.signed 16 ((z % 65536).toNat / 256 * 256 + (z % 65536).toNat % 256) = z))
  | .if_icmp .le z, n => decide (n = 3) && (mp_byt N (p) 164 && mp_byt N (p + 1) ((z % 65536).toNat / 256) && mp_byt N (p + 2) ((z % 65536).toNat % 256) && decide (Jvm.ClassFile.Reader.signed 16 ((z % 65536).toNat / 256 * 256 + (z % 65536).toNat % 256) = z))
  | _, _ => false
theorem mp_fd_ok {c : ByteArray} {N p n : Nat} (hN : mp_pk c.data.toList = N) : ∀ {op : Jvm.ClassFile.Instr}, mp_fd N p op n = true → decode c p = .ok (op, n) := fun {op} h => match op, h with
  | .aconst_null, h => by have h : (decide (n = 1) && (mp_byt N (p) 1)) = true := h; simp only [Bool.and_eq_true, decide_eq_true_eq] at h; obtain ⟨rfl, h0⟩ := h; exact mp_d_aconst_null (mp_byt_ok hN h0)
  | .iaload, h => by have h : (decide (n = 1) && (mp_byt N (p) 46)) = true := h; simp only [Bool.and_eq_true, decide_eq_true_eq] at h; obtain ⟨rfl, h0⟩ := h; exact mp_d_iaload (mp_byt_ok hN h0)
  | .laload, h => by have h : (decide (n = 1) && (mp_byt N (p) 47)) = true := h; simp only [Bool.and_eq_true, decide_eq_true_eq] at h; obtain ⟨rfl, h0⟩ := h; exact mp_d_laload (mp_byt_ok hN h0)
  | .aaload, h => by have h : (decide (n = 1) && (mp_byt N (p) 50)) = true := h; simp only [Bool.and_eq_true, decide_eq_true_eq] at h; obtain ⟨rfl, h0⟩ := h; exact mp_d_aaload (mp_byt_ok hN h0)
  | .baload, h => by have h : (decide (n = 1) && (mp_byt N (p) 51)) = true := h; simp only [Bool.and_eq_true, decide_eq_true_eq] at h; obtain ⟨rfl, h0⟩ := h; exact mp_d_baload (mp_byt_ok hN h0)
  | .iastore, h => by have h : (decide (n = 1) && (mp_byt N (p) 79)) = true := h; simp only [Bool.and_eq_true, decide_eq_true_eq] at h; obtain ⟨rfl, h0⟩ := h; exact mp_d_iastore (mp_byt_ok hN h0)
  | .lastore, h => by have h : (decide (n = 1) && (mp_byt N (p) 80)) = true := h; simp only [Bool.and_eq_true, decide_eq_true_eq] at h; obtain ⟨rfl, h0⟩ := h; exact mp_d_lastore (mp_byt_ok hN h0)
  | .aastore, h => by have h : (decide (n = 1) && (mp_byt N (p) 83)) = true := h; simp only [Bool.and_eq_true, decide_eq_true_eq] at h; obtain ⟨rfl, h0⟩ := h; exact mp_d_aastore (mp_byt_ok hN h0)
  | .bastore, h => by have h : (decide (n = 1) && (mp_byt N (p) 84)) = true := h; simp only [Bool.and_eq_true, decide_eq_true_eq] at h; obtain ⟨rfl, h0⟩ := h; exact mp_d_bastore (mp_byt_ok hN h0)
  | .pop, h => by have h : (decide (n = 1) && (mp_byt N (p) 87)) = true := h; simp only [Bool.and_eq_true, decide_eq_true_eq] at h; obtain ⟨rfl, h0⟩ := h; exact mp_d_pop (mp_byt_ok hN h0)
  | .pop2, h => by have h : (decide (n = 1) && (mp_byt N (p) 88)) = true := h; simp only [Bool.and_eq_true, decide_eq_true_eq] at h; obtain ⟨rfl, h0⟩ := h; exact mp_d_pop2 (mp_byt_ok hN h0)
  | .dup, h => by have h : (decide (n = 1) && (mp_byt N (p) 89)) = true := h; simp only [Bool.and_eq_true, decide_eq_true_eq] at h; obtain ⟨rfl, h0⟩ := h; exact mp_d_dup (mp_byt_ok hN h0)
  | .dup_x1, h => by have h : (decide (n = 1) && (mp_byt N (p) 90)) = true := h; simp only [Bool.and_eq_true, decide_eq_true_eq] at h; obtain ⟨rfl, h0⟩ := h; exact mp_d_dup_x1 (mp_byt_ok hN h0)
  | .dup2, h => by have h : (decide (n = 1) && (mp_byt N (p) 92)) = true := h; simp only [Bool.and_eq_true, decide_eq_true_eq] at h; obtain ⟨rfl, h0⟩ := h; exact mp_d_dup2 (mp_byt_ok hN h0)
  | .iadd, h => by have h : (decide (n = 1) && (mp_byt N (p) 96)) = true := h; simp only [Bool.and_eq_true, decide_eq_true_eq] at h; obtain ⟨rfl, h0⟩ := h; exact mp_d_iadd (mp_byt_ok hN h0)
  | .ladd, h => by have h : (decide (n = 1) && (mp_byt N (p) 97)) = true := h; simp only [Bool.and_eq_true, decide_eq_true_eq] at h; obtain ⟨rfl, h0⟩ := h; exact mp_d_ladd (mp_byt_ok hN h0)
  | .isub, h => by have h : (decide (n = 1) && (mp_byt N (p) 100)) = true := h; simp only [Bool.and_eq_true, decide_eq_true_eq] at h; obtain ⟨rfl, h0⟩ := h; exact mp_d_isub (mp_byt_ok hN h0)
  | .lsub, h => by have h : (decide (n = 1) && (mp_byt N (p) 101)) = true := h; simp only [Bool.and_eq_true, decide_eq_true_eq] at h; obtain ⟨rfl, h0⟩ := h; exact mp_d_lsub (mp_byt_ok hN h0)
  | .imul, h => by have h : (decide (n = 1) && (mp_byt N (p) 104)) = true := h; simp only [Bool.and_eq_true, decide_eq_true_eq] at h; obtain ⟨rfl, h0⟩ := h; exact mp_d_imul (mp_byt_ok hN h0)
  | .lmul, h => by have h : (decide (n = 1) && (mp_byt N (p) 105)) = true := h; simp only [Bool.and_eq_true, decide_eq_true_eq] at h; obtain ⟨rfl, h0⟩ := h; exact mp_d_lmul (mp_byt_ok hN h0)
  | .idiv, h => by have h : (decide (n = 1) && (mp_byt N (p) 108)) = true := h; simp only [Bool.and_eq_true, decide_eq_true_eq] at h; obtain ⟨rfl, h0⟩ := h; exact mp_d_idiv (mp_byt_ok hN h0)
  | .ldiv, h => by have h : (decide (n = 1) && (mp_byt N (p) 109)) = true := h; simp only [Bool.and_eq_true, decide_eq_true_eq] at h; obtain ⟨rfl, h0⟩ := h; exact mp_d_ldiv (mp_byt_ok hN h0)
  | .irem, h => by have h : (decide (n = 1) && (mp_byt N (p) 112)) = true := h; simp only [Bool.and_eq_true, decide_eq_true_eq] at h; obtain ⟨rfl, h0⟩ := h; exact mp_d_irem (mp_byt_ok hN h0)
  | .lrem, h => by have h : (decide (n = 1) && (mp_byt N (p) 113)) = true := h; simp only [Bool.and_eq_true, decide_eq_true_eq] at h; obtain ⟨rfl, h0⟩ := h; exact mp_d_lrem (mp_byt_ok hN h0)
  | .ineg, h => by have h : (decide (n = 1) && (mp_byt N (p) 116)) = true := h; simp only [Bool.and_eq_true, decide_eq_true_eq] at h; obtain ⟨rfl, h0⟩ := h; exact mp_d_ineg (mp_byt_ok hN h0)
  | .lneg, h => by have h : (decide (n = 1) && (mp_byt N (p) 117)) = true := h; simp only [Bool.and_eq_true, decide_eq_true_eq] at h; obtain ⟨rfl, h0⟩ := h; exact mp_d_lneg (mp_byt_ok hN h0)
  | .ishl, h => by have h : (decide (n = 1) && (mp_byt N (p) 120)) = true := h; simp only [Bool.and_eq_true, decide_eq_true_eq] at h; obtain ⟨rfl, h0⟩ := h; exact mp_d_ishl (mp_byt_ok hN h0)
  | .lshl, h => by have h : (decide (n = 1) && (mp_byt N (p) 121)) = true := h; simp only [Bool.and_eq_true, decide_eq_true_eq] at h; obtain ⟨rfl, h0⟩ := h; exact mp_d_lshl (mp_byt_ok hN h0)
  | .ishr, h => by have h : (decide (n = 1) && (mp_byt N (p) 122)) = true := h; simp only [Bool.and_eq_true, decide_eq_true_eq] at h; obtain ⟨rfl, h0⟩ := h; exact mp_d_ishr (mp_byt_ok hN h0)
  | .lshr, h => by have h : (decide (n = 1) && (mp_byt N (p) 123)) = true := h; simp only [Bool.and_eq_true, decide_eq_true_eq] at h; obtain ⟨rfl, h0⟩ := h; exact mp_d_lshr (mp_byt_ok hN h0)
  | .iushr, h => by have h : (decide (n = 1) && (mp_byt N (p) 124)) = true := h; simp only [Bool.and_eq_true, decide_eq_true_eq] at h; obtain ⟨rfl, h0⟩ := h; exact mp_d_iushr (mp_byt_ok hN h0)
  | .lushr, h => by have h : (decide (n = 1) && (mp_byt N (p) 125)) = true := h; simp only [Bool.and_eq_true, decide_eq_true_eq] at h; obtain ⟨rfl, h0⟩ := h; exact mp_d_lushr (mp_byt_ok hN h0)
  | .iand, h => by have h : (decide (n = 1) && (mp_byt N (p) 126)) = true := h; simp only [Bool.and_eq_true, decide_eq_true_eq] at h; obtain ⟨rfl, h0⟩ := h; exact mp_d_iand (mp_byt_ok hN h0)
  | .land, h => by have h : (decide (n = 1) && (mp_byt N (p) 127)) = true := h; simp only [Bool.and_eq_true, decide_eq_true_eq] at h; obtain ⟨rfl, h0⟩ := h; exact mp_d_land (mp_byt_ok hN h0)
  | .ior, h => by have h : (decide (n = 1) && (mp_byt N (p) 128)) = true := h; simp only [Bool.and_eq_true, decide_eq_true_eq] at h; obtain ⟨rfl, h0⟩ := h; exact mp_d_ior (mp_byt_ok hN h0)
  | .lor, h => by have h : (decide (n = 1) && (mp_byt N (p) 129)) = true := h; simp only [Bool.and_eq_true, decide_eq_true_eq] at h; obtain ⟨rfl, h0⟩ := h; exact mp_d_lor (mp_byt_ok hN h0)
  | .ixor, h => by have h : (decide (n = 1) && (mp_byt N (p) 130)) = true := h; simp only [Bool.and_eq_true, decide_eq_true_eq] at h; obtain ⟨rfl, h0⟩ := h; exact mp_d_ixor (mp_byt_ok hN h0)
  | .lxor, h => by have h : (decide (n = 1) && (mp_byt N (p) 131)) = true := h; simp only [Bool.and_eq_true, decide_eq_true_eq] at h; obtain ⟨rfl, h0⟩ := h; exact mp_d_lxor (mp_byt_ok hN h0)
  | .i2l, h => by have h : (decide (n = 1) && (mp_byt N (p) 133)) = true := h; simp only [Bool.and_eq_true, decide_eq_true_eq] at h; obtain ⟨rfl, h0⟩ := h; exact mp_d_i2l (mp_byt_ok hN h0)
  | .l2i, h => by have h : (decide (n = 1) && (mp_byt N (p) 136)) = true := h; simp only [Bool.and_eq_true, decide_eq_true_eq] at h; obtain ⟨rfl, h0⟩ := h; exact mp_d_l2i (mp_byt_ok hN h0)
  | .i2b, h => by have h : (decide (n = 1) && (mp_byt N (p) 145)) = true := h; simp only [Bool.and_eq_true, decide_eq_true_eq] at h; obtain ⟨rfl, h0⟩ := h; exact mp_d_i2b (mp_byt_ok hN h0)
  | .i2c, h => by have h : (decide (n = 1) && (mp_byt N (p) 146)) = true := h; simp only [Bool.and_eq_true, decide_eq_true_eq] at h; obtain ⟨rfl, h0⟩ := h; exact mp_d_i2c (mp_byt_ok hN h0)
  | .i2s, h => by have h : (decide (n = 1) && (mp_byt N (p) 147)) = true := h; simp only [Bool.and_eq_true, decide_eq_true_eq] at h; obtain ⟨rfl, h0⟩ := h; exact mp_d_i2s (mp_byt_ok hN h0)
  | .lcmp, h => by have h : (decide (n = 1) && (mp_byt N (p) 148)) = true := h; simp only [Bool.and_eq_true, decide_eq_true_eq] at h; obtain ⟨rfl, h0⟩ := h; exact mp_d_lcmp (mp_byt_ok hN h0)
  | .ireturn, h => by have h : (decide (n = 1) && (mp_byt N (p) 172)) = true := h; simp only [Bool.and_eq_true, decide_eq_true_eq] at h; obtain ⟨rfl, h0⟩ := h; exact mp_d_ireturn (mp_byt_ok hN h0)
  | .lreturn, h => by have h : (decide (n = 1) && (mp_byt N (p) 173)) = true := h; simp only [Bool.and_eq_true, decide_eq_true_eq] at h; obtain ⟨rfl, h0⟩ := h; exact mp_d_lreturn (mp_byt_ok hN h0)
  | .areturn, h => by have h : (decide (n = 1) && (mp_byt N (p) 176)) = true := h; simp only [Bool.and_eq_true, decide_eq_true_eq] at h; obtain ⟨rfl, h0⟩ := h; exact mp_d_areturn (mp_byt_ok hN h0)
  | .return_, h => by have h : (decide (n = 1) && (mp_byt N (p) 177)) = true := h; simp only [Bool.and_eq_true, decide_eq_true_eq] at h; obtain ⟨rfl, h0⟩ := h; exact mp_d_return_ (mp_byt_ok hN h0)
  | .arraylength, h => by have h : (decide (n = 1) && (mp_byt N (p) 190)) = true := h; simp only [Bool.and_eq_true, decide_eq_true_eq] at h; obtain ⟨rfl, h0⟩ := h; exact mp_d_arraylength (mp_byt_ok hN h0)
  | .iload_n 0, h => by have h : (decide (n = 1) && (mp_byt N (p) (Nat.add 26 (0 : Fin 4).val))) = true := h; simp only [Bool.and_eq_true, decide_eq_true_eq] at h; obtain ⟨rfl, h0⟩ := h; exact mp_d_iload_n0 (mp_byt_ok hN h0)
  | .iload_n 1, h => by have h : (decide (n = 1) && (mp_byt N (p) (Nat.add 26 (1 : Fin 4).val))) = true := h; simp only [Bool.and_eq_true, decide_eq_true_eq] at h; obtain ⟨rfl, h0⟩ := h; exact mp_d_iload_n1 (mp_byt_ok hN h0)
  | .iload_n 2, h => by have h : (decide (n = 1) && (mp_byt N (p) (Nat.add 26 (2 : Fin 4).val))) = true := h; simp only [Bool.and_eq_true, decide_eq_true_eq] at h; obtain ⟨rfl, h0⟩ := h; exact mp_d_iload_n2 (mp_byt_ok hN h0)
  | .iload_n 3, h => by have h : (decide (n = 1) && (mp_byt N (p) (Nat.add 26 (3 : Fin 4).val))) = true := h; simp only [Bool.and_eq_true, decide_eq_true_eq] at h; obtain ⟨rfl, h0⟩ := h; exact mp_d_iload_n3 (mp_byt_ok hN h0)
  | .lload_n 0, h => by have h : (decide (n = 1) && (mp_byt N (p) (Nat.add 30 (0 : Fin 4).val))) = true := h; simp only [Bool.and_eq_true, decide_eq_true_eq] at h; obtain ⟨rfl, h0⟩ := h; exact mp_d_lload_n0 (mp_byt_ok hN h0)
  | .lload_n 1, h => by have h : (decide (n = 1) && (mp_byt N (p) (Nat.add 30 (1 : Fin 4).val))) = true := h; simp only [Bool.and_eq_true, decide_eq_true_eq] at h; obtain ⟨rfl, h0⟩ := h; exact mp_d_lload_n1 (mp_byt_ok hN h0)
  | .lload_n 2, h => by have h : (decide (n = 1) && (mp_byt N (p) (Nat.add 30 (2 : Fin 4).val))) = true := h; simp only [Bool.and_eq_true, decide_eq_true_eq] at h; obtain ⟨rfl, h0⟩ := h; exact mp_d_lload_n2 (mp_byt_ok hN h0)
  | .lload_n 3, h => by have h : (decide (n = 1) && (mp_byt N (p) (Nat.add 30 (3 : Fin 4).val))) = true := h; simp only [Bool.and_eq_true, decide_eq_true_eq] at h; obtain ⟨rfl, h0⟩ := h; exact mp_d_lload_n3 (mp_byt_ok hN h0)
  | .aload_n 0, h => by have h : (decide (n = 1) && (mp_byt N (p) (Nat.add 42 (0 : Fin 4).val))) = true := h; simp only [Bool.and_eq_true, decide_eq_true_eq] at h; obtain ⟨rfl, h0⟩ := h; exact mp_d_aload_n0 (mp_byt_ok hN h0)
  | .aload_n 1, h => by have h : (decide (n = 1) && (mp_byt N (p) (Nat.add 42 (1 : Fin 4).val))) = true := h; simp only [Bool.and_eq_true, decide_eq_true_eq] at h; obtain ⟨rfl, h0⟩ := h; exact mp_d_aload_n1 (mp_byt_ok hN h0)
  | .aload_n 2, h => by have h : (decide (n = 1) && (mp_byt N (p) (Nat.add 42 (2 : Fin 4).val))) = true := h; simp only [Bool.and_eq_true, decide_eq_true_eq] at h; obtain ⟨rfl, h0⟩ := h; exact mp_d_aload_n2 (mp_byt_ok hN h0)
  | .aload_n 3, h => by have h : (decide (n = 1) && (mp_byt N (p) (Nat.add 42 (3 : Fin 4).val))) = true := h; simp only [Bool.and_eq_true, decide_eq_true_eq] at h; obtain ⟨rfl, h0⟩ := h; exact mp_d_aload_n3 (mp_byt_ok hN h0)
  | .istore_n 0, h => by have h : (decide (n = 1) && (mp_byt N (p) (Nat.add 59 (0 : Fin 4).val))) = true := h; simp only [Bool.and_eq_true, decide_eq_true_eq] at h; obtain ⟨rfl, h0⟩ := h; exact mp_d_istore_n0 (mp_byt_ok hN h0)
  | .istore_n 1, h => by have h : (decide (n = 1) && (mp_byt N (p) (Nat.add 59 (1 : Fin 4).val))) = true := h; simp only [Bool.and_eq_true, decide_eq_true_eq] at h; obtain ⟨rfl, h0⟩ := h; exact mp_d_istore_n1 (mp_byt_ok hN h0)
  | .istore_n 2, h => by have h : (decide (n = 1) && (mp_byt N (p) (Nat.add 59 (2 : Fin 4).val))) = true := h; simp only [Bool.and_eq_true, decide_eq_true_eq] at h; obtain ⟨rfl, h0⟩ := h; exact mp_d_istore_n2 (mp_byt_ok hN h0)
  | .istore_n 3, h => by have h : (decide (n = 1) && (mp_byt N (p) (Nat.add 59 (3 : Fin 4).val))) = true := h; simp only [Bool.and_eq_true, decide_eq_true_eq] at h; obtain ⟨rfl, h0⟩ := h; exact mp_d_istore_n3 (mp_byt_ok hN h0)
  | .lstore_n 0, h => by have h : (decide (n = 1) && (mp_byt N (p) (Nat.add 63 (0 : Fin 4).val))) = true := h; simp only [Bool.and_eq_true, decide_eq_true_eq] at h; obtain ⟨rfl, h0⟩ := h; exact mp_d_lstore_n0 (mp_byt_ok hN h0)
  | .lstore_n 1, h => by have h : (decide (n = 1) && (mp_byt N (p) (Nat.add 63 (1 : Fin 4).val))) = true := h; simp only [Bool.and_eq_true, decide_eq_true_eq] at h; obtain ⟨rfl, h0⟩ := h; exact mp_d_lstore_n1 (mp_byt_ok hN h0)
  | .lstore_n 2, h => by have h : (decide (n = 1) && (mp_byt N (p) (Nat.add 63 (2 : Fin 4).val))) = true := h; simp only [Bool.and_eq_true, decide_eq_true_eq] at h; obtain ⟨rfl, h0⟩ := h; exact mp_d_lstore_n2 (mp_byt_ok hN h0)
  | .lstore_n 3, h => by have h : (decide (n = 1) && (mp_byt N (p) (Nat.add 63 (3 : Fin 4).val))) = true := h; simp only [Bool.and_eq_true, decide_eq_true_eq] at h; obtain ⟨rfl, h0⟩ := h; exact mp_d_lstore_n3 (mp_byt_ok hN h0)
  | .astore_n 0, h => by have h : (decide (n = 1) && (mp_byt N (p) (Nat.add 75 (0 : Fin 4).val))) = true := h; simp only [Bool.and_eq_true, decide_eq_true_eq] at h; obtain ⟨rfl, h0⟩ := h; exact mp_d_astore_n0 (mp_byt_ok hN h0)
  | .astore_n 1, h => by have h : (decide (n = 1) && (mp_byt N (p) (Nat.add 75 (1 : Fin 4).val))) = true := h; simp only [Bool.and_eq_true, decide_eq_true_eq] at h; obtain ⟨rfl, h0⟩ := h; exact mp_d_astore_n1 (mp_byt_ok hN h0)
  | .astore_n 2, h => by have h : (decide (n = 1) && (mp_byt N (p) (Nat.add 75 (2 : Fin 4).val))) = true := h; simp only [Bool.and_eq_true, decide_eq_true_eq] at h; obtain ⟨rfl, h0⟩ := h; exact mp_d_astore_n2 (mp_byt_ok hN h0)
  | .astore_n 3, h => by have h : (decide (n = 1) && (mp_byt N (p) (Nat.add 75 (3 : Fin 4).val))) = true := h; simp only [Bool.and_eq_true, decide_eq_true_eq] at h; obtain ⟨rfl, h0⟩ := h; exact mp_d_astore_n3 (mp_byt_ok hN h0)
  | .iconst z, h => by have h : (decide (n = 1) && (mp_byt N p (z + 3).toNat && decide (-1 ≤ z) && decide (z ≤ 5))) = true := h; simp only [Bool.and_eq_true, decide_eq_true_eq] at h; obtain ⟨rfl, ⟨h0, h1⟩, h2⟩ := h; have hz : z = -1 ∨ z = 0 ∨ z = 1 ∨ z = 2 ∨ z = 3 ∨ z = 4 ∨ z = 5 := (by omega); rcases hz with rfl | rfl | rfl | rfl | rfl | rfl | rfl <;> first | exact mp_d_iconst0 (mp_byt_ok hN h0) | exact mp_d_iconst1 (mp_byt_ok hN h0) | exact mp_d_iconst2 (mp_byt_ok hN h0) | exact mp_d_iconst3 (mp_byt_ok hN h0) | exact mp_d_iconst4 (mp_byt_ok hN h0) | exact mp_d_iconst5 (mp_byt_ok hN h0) | exact mp_d_iconst6 (mp_byt_ok hN h0)
  | .lconst 0, h => by have h : (decide (n = 1) && (mp_byt N (p) (Nat.add 9 (0 : Fin 2).val))) = true := h; simp only [Bool.and_eq_true, decide_eq_true_eq] at h; obtain ⟨rfl, h0⟩ := h; exact mp_d_lconst0 (mp_byt_ok hN h0)
  | .lconst 1, h => by have h : (decide (n = 1) && (mp_byt N (p) (Nat.add 9 (1 : Fin 2).val))) = true := h; simp only [Bool.and_eq_true, decide_eq_true_eq] at h; obtain ⟨rfl, h0⟩ := h; exact mp_d_lconst1 (mp_byt_ok hN h0)
  | .iinc j z, h => by have h : (decide (n = 3) && (mp_byt N (p) 132 && mp_byt N (p + 1) j && mp_byt N (p + 2) (z % 256).toNat && decide (Jvm.ClassFile.Reader.signed 8 (z % 256).toNat = z))) = true := h; simp only [Bool.and_eq_true, decide_eq_true_eq] at h; obtain ⟨rfl, ⟨⟨h0, h1⟩, h2⟩, h3⟩ := h; have g := mp_d_iinc (mp_byt_ok hN h0) (mp_byt_ok hN h1) (mp_byt_ok hN h2); rw [h3] at g; exact g
  | .newarray .boolean, h => by have h : (decide (n = 2) && (mp_byt N (p) 188 && mp_byt N (p + 1) 4)) = true := h; simp only [Bool.and_eq_true, decide_eq_true_eq] at h; obtain ⟨rfl, h0, h1⟩ := h; exact mp_d_newarray_boolean (mp_byt_ok hN h0) (mp_byt_ok hN h1)
  | .newarray .byte, h => by have h : (decide (n = 2) && (mp_byt N (p) 188 && mp_byt N (p + 1) 8)) = true := h; simp only [Bool.and_eq_true, decide_eq_true_eq] at h; obtain ⟨rfl, h0, h1⟩ := h; exact mp_d_newarray_byte (mp_byt_ok hN h0) (mp_byt_ok hN h1)
  | .newarray .int, h => by have h : (decide (n = 2) && (mp_byt N (p) 188 && mp_byt N (p + 1) 10)) = true := h; simp only [Bool.and_eq_true, decide_eq_true_eq] at h; obtain ⟨rfl, h0, h1⟩ := h; exact mp_d_newarray_int (mp_byt_ok hN h0) (mp_byt_ok hN h1)
  | .newarray .long, h => by have h : (decide (n = 2) && (mp_byt N (p) 188 && mp_byt N (p + 1) 11)) = true := h; simp only [Bool.and_eq_true, decide_eq_true_eq] at h; obtain ⟨rfl, h0, h1⟩ := h; exact mp_d_newarray_long (mp_byt_ok hN h0) (mp_byt_ok hN h1)
  | .newarray .char, h => (Bool.false_ne_true h).elim
  | .newarray .float, h => (Bool.false_ne_true h).elim
  | .newarray .double, h => (Bool.false_ne_true h).elim
  | .newarray .short, h => (Bool.false_ne_true h).elim
  | .iload j, h => by have h : (decide (n = 2) && (mp_byt N (p) 21 && mp_byt N (p + 1) j)) = true := h; simp only [Bool.and_eq_true, decide_eq_true_eq] at h; obtain ⟨rfl, h0, h1⟩ := h; exact mp_d_iload (mp_byt_ok hN h0) (mp_byt_ok hN h1)
  | .lload j, h => by have h : (decide (n = 2) && (mp_byt N (p) 22 && mp_byt N (p + 1) j)) = true := h; simp only [Bool.and_eq_true, decide_eq_true_eq] at h; obtain ⟨rfl, h0, h1⟩ := h; exact mp_d_lload (mp_byt_ok hN h0) (mp_byt_ok hN h1)
  | .aload j, h => by have h : (decide (n = 2) && (mp_byt N (p) 25 && mp_byt N (p + 1) j)) = true := h; simp only [Bool.and_eq_true, decide_eq_true_eq] at h; obtain ⟨rfl, h0, h1⟩ := h; exact mp_d_aload (mp_byt_ok hN h0) (mp_byt_ok hN h1)
  | .istore j, h => by have h : (decide (n = 2) && (mp_byt N (p) 54 && mp_byt N (p + 1) j)) = true := h; simp only [Bool.and_eq_true, decide_eq_true_eq] at h; obtain ⟨rfl, h0, h1⟩ := h; exact mp_d_istore (mp_byt_ok hN h0) (mp_byt_ok hN h1)
  | .lstore j, h => by have h : (decide (n = 2) && (mp_byt N (p) 55 && mp_byt N (p + 1) j)) = true := h; simp only [Bool.and_eq_true, decide_eq_true_eq] at h; obtain ⟨rfl, h0, h1⟩ := h; exact mp_d_lstore (mp_byt_ok hN h0) (mp_byt_ok hN h1)
  | .astore j, h => by have h : (decide (n = 2) && (mp_byt N (p) 58 && mp_byt N (p + 1) j)) = true := h; simp only [Bool.and_eq_true, decide_eq_true_eq] at h; obtain ⟨rfl, h0, h1⟩ := h; exact mp_d_astore (mp_byt_ok hN h0) (mp_byt_ok hN h1)
  | .ldc j, h => by have h : (decide (n = 2) && (mp_byt N (p) 18 && mp_byt N (p + 1) j)) = true := h; simp only [Bool.and_eq_true, decide_eq_true_eq] at h; obtain ⟨rfl, h0, h1⟩ := h; exact mp_d_ldc (mp_byt_ok hN h0) (mp_byt_ok hN h1)
  | .bipush z, h => by have h : (decide (n = 2) && (mp_byt N (p) 16 && mp_byt N (p + 1) (z % 256).toNat && decide (Jvm.ClassFile.Reader.signed 8 (z % 256).toNat = z))) = true := h; simp only [Bool.and_eq_true, decide_eq_true_eq] at h; obtain ⟨rfl, ⟨h0, h1⟩, h2⟩ := h; have g := mp_d_bipush (mp_byt_ok hN h0) (mp_byt_ok hN h1); rw [h2] at g; exact g
  | .ldc_w j, h => by have h : (decide (n = 3) && (mp_byt N (p) 19 && mp_byt N (p + 1) (j / 256) && mp_byt N (p + 2) (j % 256))) = true := h; simp only [Bool.and_eq_true, decide_eq_true_eq] at h; obtain ⟨rfl, ⟨h0, h1⟩, h2⟩ := h; have g := mp_d_ldc_w (mp_byt_ok hN h0) (mp_byt_ok hN h1) (mp_byt_ok hN h2); rw [show j / 256 * 256 + j % 256 = j by omega] at g; exact g
  | .ldc2_w j, h => by have h : (decide (n = 3) && (mp_byt N (p) 20 && mp_byt N (p + 1) (j / 256) && mp_byt N (p + 2) (j % 256))) = true := h; simp only [Bool.and_eq_true, decide_eq_true_eq] at h; obtain ⟨rfl, ⟨h0, h1⟩, h2⟩ := h; have g := mp_d_ldc2_w (mp_byt_ok hN h0) (mp_byt_ok hN h1) (mp_byt_ok hN h2); rw [show j / 256 * 256 + j % 256 = j by omega] at g; exact g
  | .getstatic j, h => by have h : (decide (n = 3) && (mp_byt N (p) 178 && mp_byt N (p + 1) (j / 256) && mp_byt N (p + 2) (j % 256))) = true := h; simp only [Bool.and_eq_true, decide_eq_true_eq] at h; obtain ⟨rfl, ⟨h0, h1⟩, h2⟩ := h; have g := mp_d_getstatic (mp_byt_ok hN h0) (mp_byt_ok hN h1) (mp_byt_ok hN h2); rw [show j / 256 * 256 + j % 256 = j by omega] at g; exact g
  | .putstatic j, h => by have h : (decide (n = 3) && (mp_byt N (p) 179 && mp_byt N (p + 1) (j / 256) && mp_byt N (p + 2) (j % 256))) = true := h; simp only [Bool.and_eq_true, decide_eq_true_eq] at h; obtain ⟨rfl, ⟨h0, h1⟩, h2⟩ := h; have g := mp_d_putstatic (mp_byt_ok hN h0) (mp_byt_ok hN h1) (mp_byt_ok hN h2); rw [show j / 256 * 256 + j % 256 = j by omega] at g; exact g
  | .getfield j, h => by have h : (decide (n = 3) && (mp_byt N (p) 180 && mp_byt N (p + 1) (j / 256) && mp_byt N (p + 2) (j % 256))) = true := h; simp only [Bool.and_eq_true, decide_eq_true_eq] at h; obtain ⟨rfl, ⟨h0, h1⟩, h2⟩ := h; have g := mp_d_getfield (mp_byt_ok hN h0) (mp_byt_ok hN h1) (mp_byt_ok hN h2); rw [show j / 256 * 256 + j % 256 = j by omega] at g; exact g
  | .putfield j, h => by have h : (decide (n = 3) && (mp_byt N (p) 181 && mp_byt N (p + 1) (j / 256) && mp_byt N (p + 2) (j % 256))) = true := h; simp only [Bool.and_eq_true, decide_eq_true_eq] at h; obtain ⟨rfl, ⟨h0, h1⟩, h2⟩ := h; have g := mp_d_putfield (mp_byt_ok hN h0) (mp_byt_ok hN h1) (mp_byt_ok hN h2); rw [show j / 256 * 256 + j % 256 = j by omega] at g; exact g
  | .invokevirtual j, h => by have h : (decide (n = 3) && (mp_byt N (p) 182 && mp_byt N (p + 1) (j / 256) && mp_byt N (p + 2) (j % 256))) = true := h; simp only [Bool.and_eq_true, decide_eq_true_eq] at h; obtain ⟨rfl, ⟨h0, h1⟩, h2⟩ := h; have g := mp_d_invokevirtual (mp_byt_ok hN h0) (mp_byt_ok hN h1) (mp_byt_ok hN h2); rw [show j / 256 * 256 + j % 256 = j by omega] at g; exact g
  | .invokespecial j, h => by have h : (decide (n = 3) && (mp_byt N (p) 183 && mp_byt N (p + 1) (j / 256) && mp_byt N (p + 2) (j % 256))) = true := h; simp only [Bool.and_eq_true, decide_eq_true_eq] at h; obtain ⟨rfl, ⟨h0, h1⟩, h2⟩ := h; have g := mp_d_invokespecial (mp_byt_ok hN h0) (mp_byt_ok hN h1) (mp_byt_ok hN h2); rw [show j / 256 * 256 + j % 256 = j by omega] at g; exact g
  | .invokestatic j, h => by have h : (decide (n = 3) && (mp_byt N (p) 184 && mp_byt N (p + 1) (j / 256) && mp_byt N (p + 2) (j % 256))) = true := h; simp only [Bool.and_eq_true, decide_eq_true_eq] at h; obtain ⟨rfl, ⟨h0, h1⟩, h2⟩ := h; have g := mp_d_invokestatic (mp_byt_ok hN h0) (mp_byt_ok hN h1) (mp_byt_ok hN h2); rw [show j / 256 * 256 + j % 256 = j by omega] at g; exact g
  | .new j, h => by have h : (decide (n = 3) && (mp_byt N (p) 187 && mp_byt N (p + 1) (j / 256) && mp_byt N (p + 2) (j % 256))) = true := h; simp only [Bool.and_eq_true, decide_eq_true_eq] at h; obtain ⟨rfl, ⟨h0, h1⟩, h2⟩ := h; have g := mp_d_new (mp_byt_ok hN h0) (mp_byt_ok hN h1) (mp_byt_ok hN h2); rw [show j / 256 * 256 + j % 256 = j by omega] at g; exact g
  | .anewarray j, h => by have h : (decide (n = 3) && (mp_byt N (p) 189 && mp_byt N (p + 1) (j / 256) && mp_byt N (p + 2) (j % 256))) = true := h; simp only [Bool.and_eq_true, decide_eq_true_eq] at h; obtain ⟨rfl, ⟨h0, h1⟩, h2⟩ := h; have g := mp_d_anewarray (mp_byt_ok hN h0) (mp_byt_ok hN h1) (mp_byt_ok hN h2); rw [show j / 256 * 256 + j % 256 = j by omega] at g; exact g
  | .checkcast j, h => by have h : (decide (n = 3) && (mp_byt N (p) 192 && mp_byt N (p + 1) (j / 256) && mp_byt N (p + 2) (j % 256))) = true := h; simp only [Bool.and_eq_true, decide_eq_true_eq] at h; obtain ⟨rfl, ⟨h0, h1⟩, h2⟩ := h; have g := mp_d_checkcast (mp_byt_ok hN h0) (mp_byt_ok hN h1) (mp_byt_ok hN h2); rw [show j / 256 * 256 + j % 256 = j by omega] at g; exact g
  | .goto z, h => by have h : (decide (n = 3) && (mp_byt N (p) 167 && mp_byt N (p + 1) ((z % 65536).toNat / 256) && mp_byt N (p + 2) ((z % 65536).toNat % 256) && decide (Jvm.ClassFile.Reader.signed 16 ((z % 65536).toNat / 256 * 256 + (z % 65536).toNat % 256) = z))) = true := h; simp only [Bool.and_eq_true, decide_eq_true_eq] at h; obtain ⟨rfl, ⟨⟨h0, h1⟩, h2⟩, h3⟩ := h; have g := mp_d_goto (mp_byt_ok hN h0) (mp_byt_ok hN h1) (mp_byt_ok hN h2); rw [h3] at g; exact g
  | .ifnull z, h => by have h : (decide (n = 3) && (mp_byt N (p) 198 && mp_byt N (p + 1) ((z % 65536).toNat / 256) && mp_byt N (p + 2) ((z % 65536).toNat % 256) && decide (Jvm.ClassFile.Reader.signed 16 ((z % 65536).toNat / 256 * 256 + (z % 65536).toNat % 256) = z))) = true := h; simp only [Bool.and_eq_true, decide_eq_true_eq] at h; obtain ⟨rfl, ⟨⟨h0, h1⟩, h2⟩, h3⟩ := h; have g := mp_d_ifnull (mp_byt_ok hN h0) (mp_byt_ok hN h1) (mp_byt_ok hN h2); rw [h3] at g; exact g
  | .ifnonnull z, h => by have h : (decide (n = 3) && (mp_byt N (p) 199 && mp_byt N (p + 1) ((z % 65536).toNat / 256) && mp_byt N (p + 2) ((z % 65536).toNat % 256) && decide (Jvm.ClassFile.Reader.signed 16 ((z % 65536).toNat / 256 * 256 + (z % 65536).toNat % 256) = z))) = true := h; simp only [Bool.and_eq_true, decide_eq_true_eq] at h; obtain ⟨rfl, ⟨⟨h0, h1⟩, h2⟩, h3⟩ := h; have g := mp_d_ifnonnull (mp_byt_ok hN h0) (mp_byt_ok hN h1) (mp_byt_ok hN h2); rw [h3] at g; exact g
  | .sipush z, h => by have h : (decide (n = 3) && (mp_byt N (p) 17 && mp_byt N (p + 1) ((z % 65536).toNat / 256) && mp_byt N (p + 2) ((z % 65536).toNat % 256) && decide (Jvm.ClassFile.Reader.signed 16 ((z % 65536).toNat / 256 * 256 + (z % 65536).toNat % 256) = z))) = true := h; simp only [Bool.and_eq_true, decide_eq_true_eq] at h; obtain ⟨rfl, ⟨⟨h0, h1⟩, h2⟩, h3⟩ := h; have g := mp_d_sipush (mp_byt_ok hN h0) (mp_byt_ok hN h1) (mp_byt_ok hN h2); rw [h3] at g; exact g
  | .ifCond .eq z, h => by have h : (decide (n = 3) && (mp_byt N (p) 153 && mp_byt N (p + 1) ((z % 65536).toNat / 256) && mp_byt N (p + 2) ((z % 65536).toNat % 256) && decide (Jvm.ClassFile.Reader.signed 16 ((z % 65536).toNat / 256 * 256 + (z % 65536).toNat % 256) = z))) = true := h; simp only [Bool.and_eq_true, decide_eq_true_eq] at h; obtain ⟨rfl, ⟨⟨h0, h1⟩, h2⟩, h3⟩ := h; have g := mp_d_ifCond_eq (mp_byt_ok hN h0) (mp_byt_ok hN h1) (mp_byt_ok hN h2); rw [h3] at g; exact g
  | .ifCond .ne z, h => by have h : (decide (n = 3) && (mp_byt N (p) 154 && mp_byt N (p + 1) ((z % 65536).toNat / 256) && mp_byt N (p + 2) ((z % 65536).toNat % 256) && decide (Jvm.ClassFile.Reader.signed 16 ((z % 65536).toNat / 256 * 256 + (z % 65536).toNat % 256) = z))) = true := h; simp only [Bool.and_eq_true, decide_eq_true_eq] at h; obtain ⟨rfl, ⟨⟨h0, h1⟩, h2⟩, h3⟩ := h; have g := mp_d_ifCond_ne (mp_byt_ok hN h0) (mp_byt_ok hN h1) (mp_byt_ok hN h2); rw [h3] at g; exact g
  | .ifCond .lt z, h => by have h : (decide (n = 3) && (mp_byt N (p) 155 && mp_byt N (p + 1) ((z % 65536).toNat / 256) && mp_byt N (p + 2) ((z % 65536).toNat % 256) && decide (Jvm.ClassFile.Reader.signed 16 ((z % 65536).toNat / 256 * 256 + (z % 65536).toNat % 256) = z))) = true := h; simp only [Bool.and_eq_true, decide_eq_true_eq] at h; obtain ⟨rfl, ⟨⟨h0, h1⟩, h2⟩, h3⟩ := h; have g := mp_d_ifCond_lt (mp_byt_ok hN h0) (mp_byt_ok hN h1) (mp_byt_ok hN h2); rw [h3] at g; exact g
  | .ifCond .ge z, h => by have h : (decide (n = 3) && (mp_byt N (p) 156 && mp_byt N (p + 1) ((z % 65536).toNat / 256) && mp_byt N (p + 2) ((z % 65536).toNat % 256) && decide (Jvm.ClassFile.Reader.signed 16 ((z % 65536).toNat / 256 * 256 + (z % 65536).toNat % 256) = z))) = true := h; simp only [Bool.and_eq_true, decide_eq_true_eq] at h; obtain ⟨rfl, ⟨⟨h0, h1⟩, h2⟩, h3⟩ := h; have g := mp_d_ifCond_ge (mp_byt_ok hN h0) (mp_byt_ok hN h1) (mp_byt_ok hN h2); rw [h3] at g; exact g
  | .ifCond .gt z, h => by have h : (decide (n = 3) && (mp_byt N (p) 157 && mp_byt N (p + 1) ((z % 65536).toNat / 256) && mp_byt N (p + 2) ((z % 65536).toNat % 256) && decide (Jvm.ClassFile.Reader.signed 16 ((z % 65536).toNat / 256 * 256 + (z % 65536).toNat % 256) = z))) = true := h; simp only [Bool.and_eq_true, decide_eq_true_eq] at h; obtain ⟨rfl, ⟨⟨h0, h1⟩, h2⟩, h3⟩ := h; have g := mp_d_ifCond_gt (mp_byt_ok hN h0) (mp_byt_ok hN h1) (mp_byt_ok hN h2); rw [h3] at g; exact g
  | .ifCond .le z, h => by have h : (decide (n = 3) && (mp_byt N (p) 158 && mp_byt N (p + 1) ((z % 65536).toNat / 256) && mp_byt N (p + 2) ((z % 65536).toNat % 256) && decide (Jvm.ClassFile.Reader.signed 16 ((z % 65536).toNat / 256 * 256 + (z % 65536).toNat % 256) = z))) = true := h; simp only [Bool.and_eq_true, decide_eq_true_eq] at h; obtain ⟨rfl, ⟨⟨h0, h1⟩, h2⟩, h3⟩ := h; have g := mp_d_ifCond_le (mp_byt_ok hN h0) (mp_byt_ok hN h1) (mp_byt_ok hN h2); rw [h3] at g; exact g
  | .if_icmp .eq z, h => by have h : (decide (n = 3) && (mp_byt N (p) 159 && mp_byt N (p + 1) ((z % 65536).toNat / 256) && mp_byt N (p + 2) ((z % 65536).toNat % 256) && decide (Jvm.ClassFile.Reader.signed 16 ((z % 65536).toNat / 256 * 256 + (z % 65536).toNat % 256) = z))) = true := h; simp only [Bool.and_eq_true, decide_eq_true_eq] at h; obtain ⟨rfl, ⟨⟨h0, h1⟩, h2⟩, h3⟩ := h; have g := mp_d_if_icmp_eq (mp_byt_ok hN h0) (mp_byt_ok hN h1) (mp_byt_ok hN h2); rw [h3] at g; exact g
  | .if_icmp .ne z, h => by have h : (decide (n = 3) && (mp_byt N (p) 160 && mp_byt N (p + 1) ((z % 65536).toNat / 256) && mp_byt N (p + 2) ((z % 65536).toNat % 256) && decide (Jvm.ClassFile.Reader.signed 16 ((z % 65536).toNat / 256 * 256 + (z % 65536).toNat % 256) = z))) = true := h; simp only [Bool.and_eq_true, decide_eq_true_eq] at h; obtain ⟨rfl, ⟨⟨h0, h1⟩, h2⟩, h3⟩ := h; have g := mp_d_if_icmp_ne (mp_byt_ok hN h0) (mp_byt_ok hN h1) (mp_byt_ok hN h2); rw [h3] at g; exact g
  | .if_icmp .lt z, h => by have h : (decide (n = 3) && (mp_byt N (p) 161 && mp_byt N (p + 1) ((z % 65536).toNat / 256) && mp_byt N (p + 2) ((z % 65536).toNat % 256) && decide (Jvm.ClassFile.Reader.signed 16 ((z % 65536).toNat / 256 * 256 + (z % 65536).toNat % 256) = z))) = true := h; simp only [Bool.and_eq_true, decide_eq_true_eq] at h; obtain ⟨rfl, ⟨⟨h0, h1⟩, h2⟩, h3⟩ := h; have g := mp_d_if_icmp_lt (mp_byt_ok hN h0) (mp_byt_ok hN h1) (mp_byt_ok hN h2); rw [h3] at g; exact g
  | .if_icmp .ge z, h => by have h : (decide (n = 3) && (mp_byt N (p) 162 && mp_byt N (p + 1) ((z % 65536).toNat / 256) && mp_byt N (p + 2) ((z % 65536).toNat % 256) && decide (Jvm.ClassFile.Reader.signed 16 ((z % 65536).toNat / 256 * 256 + (z % 65536).toNat % 256) = z))) = true := h; simp only [Bool.and_eq_true, decide_eq_true_eq] at h; obtain ⟨rfl, ⟨⟨h0, h1⟩, h2⟩, h3⟩ := h; have g := mp_d_if_icmp_ge (mp_byt_ok hN h0) (mp_byt_ok hN h1) (mp_byt_ok hN h2); rw [h3] at g; exact g
  | .if_icmp .gt z, h => by have h : (decide (n = 3) && (mp_byt N (p) 163 && mp_byt N (p + 1) ((z % 65536).toNat / 256) && mp_byt N (p + 2) ((z % 65536).toNat % 256) && decide (Jvm.ClassFile.Reader.signed 16 ((z % 65536).toNat / 256 * 256 + (z % 65536).toNat % 256) = z))) = true := h; simp only [Bool.and_eq_true, decide_eq_true_eq] at h; obtain ⟨rfl, ⟨⟨h0, h1⟩, h2⟩, h3⟩ := h; have g := mp_d_if_icmp_gt (mp_byt_ok hN h0) (mp_byt_ok hN h1) (mp_byt_ok hN h2); rw [h3] at g; exact g
  | .if_icmp .le z, h => by have h : (decide (n = 3) && (mp_byt N (p) 164 && mp_byt N (p + 1) ((z % 65536).toNat / 256) && mp_byt N (p + 2) ((z % 65536).toNat % 256) && decide (Jvm.ClassFile.Reader.signed 16 ((z % 65536).toNat / 256 * 256 + (z % 65536).toNat % 256) = z))) = true := h; simp only [Bool.and_eq_true, decide_eq_true_eq] at h; obtain ⟨rfl, ⟨⟨h0, h1⟩, h2⟩, h3⟩ := h; have g := mp_d_if_icmp_le (mp_byt_ok hN h0) (mp_byt_ok hN h1) (mp_byt_ok hN h2); rw [h3] at g; exact g
  | .athrow .., h => (Bool.false_ne_true h).elim
  | .caload .., h => (Bool.false_ne_true h).elim
  | .castore .., h => (Bool.false_ne_true h).elim
  | .d2f .., h => (Bool.false_ne_true h).elim
  | .d2i .., h => (Bool.false_ne_true h).elim
  | .d2l .., h => (Bool.false_ne_true h).elim
  | .dadd .., h => (Bool.false_ne_true h).elim
  | .daload .., h => (Bool.false_ne_true h).elim
  | .dastore .., h => (Bool.false_ne_true h).elim
  | .dcmp .., h => (Bool.false_ne_true h).elim
  | .dconst .., h => (Bool.false_ne_true h).elim
  | .ddiv .., h => (Bool.false_ne_true h).elim
  | .dload .., h => (Bool.false_ne_true h).elim
  | .dload_n .., h => (Bool.false_ne_true h).elim
  | .dmul .., h => (Bool.false_ne_true h).elim
  | .dneg .., h => (Bool.false_ne_true h).elim
  | .drem .., h => (Bool.false_ne_true h).elim
  | .dreturn .., h => (Bool.false_ne_true h).elim
  | .dstore .., h => (Bool.false_ne_true h).elim
  | .dstore_n .., h => (Bool.false_ne_true h).elim
  | .dsub .., h => (Bool.false_ne_true h).elim
  | .dup_x2 .., h => (Bool.false_ne_true h).elim
  | .dup2_x1 .., h => (Bool.false_ne_true h).elim
  | .dup2_x2 .., h => (Bool.false_ne_true h).elim
  | .f2d .., h => (Bool.false_ne_true h).elim
  | .f2i .., h => (Bool.false_ne_true h).elim
  | .f2l .., h => (Bool.false_ne_true h).elim
  | .fadd .., h => (Bool.false_ne_true h).elim
  | .faload .., h => (Bool.false_ne_true h).elim
  | .fastore .., h => (Bool.false_ne_true h).elim
  | .fcmp .., h => (Bool.false_ne_true h).elim
  | .fconst .., h => (Bool.false_ne_true h).elim
  | .fdiv .., h => (Bool.false_ne_true h).elim
  | .fload .., h => (Bool.false_ne_true h).elim
  | .fload_n .., h => (Bool.false_ne_true h).elim
  | .fmul .., h => (Bool.false_ne_true h).elim
  | .fneg .., h => (Bool.false_ne_true h).elim
  | .frem .., h => (Bool.false_ne_true h).elim
  | .freturn .., h => (Bool.false_ne_true h).elim
  | .fstore .., h => (Bool.false_ne_true h).elim
  | .fstore_n .., h => (Bool.false_ne_true h).elim
  | .fsub .., h => (Bool.false_ne_true h).elim
  | .goto_w .., h => (Bool.false_ne_true h).elim
  | .i2d .., h => (Bool.false_ne_true h).elim
  | .i2f .., h => (Bool.false_ne_true h).elim
  | .if_acmp .., h => (Bool.false_ne_true h).elim
  | .instanceof .., h => (Bool.false_ne_true h).elim
  | .invokedynamic .., h => (Bool.false_ne_true h).elim
  | .invokeinterface .., h => (Bool.false_ne_true h).elim
  | .jsr .., h => (Bool.false_ne_true h).elim
  | .jsr_w .., h => (Bool.false_ne_true h).elim
  | .l2d .., h => (Bool.false_ne_true h).elim
  | .l2f .., h => (Bool.false_ne_true h).elim
  | .lookupswitch .., h => (Bool.false_ne_true h).elim
  | .monitorenter .., h => (Bool.false_ne_true h).elim
  | .monitorexit .., h => (Bool.false_ne_true h).elim
  | .multianewarray .., h => (Bool.false_ne_true h).elim
  | .nop .., h => (Bool.false_ne_true h).elim
  | .ret .., h => (Bool.false_ne_true h).elim
  | .saload .., h => (Bool.false_ne_true h).elim
  | .sastore .., h => (Bool.false_ne_true h).elim
  | .swap .., h => (Bool.false_ne_true h).elim
  | .tableswitch .., h => (Bool.false_ne_true h).elim
def mp_len : Instr → Nat
  | .bipush _ | .iload _ | .lload _ | .aload _ | .istore _ | .lstore _ | .astore _ | .ldc _ | .newarray _ => 2
  | .sipush _ | .ldc_w _ | .ldc2_w _ | .getfield _ | .putfield _ | .goto _ | .ifCond _ _ | .if_icmp _ _ | .iinc _ _ | .ifnull _ | .ifnonnull _ => 3
  | _ => 1
/-- what of an instruction a program can check -/
def mp_ck (nL : Nat) (ini : Bool) (t : mp_T) (i : mp_I) (pc : Nat) : Bool := match i.1 with
  | .iconst z => decide (Int32.ofInt z = i.2.2.1)
  | .bipush z => decide ((Int8.ofInt z).toInt32 = i.2.2.1)
  | .sipush z => decide ((Int16.ofInt z).toInt32 = i.2.2.1)
  | .lconst z => decide (Int64.ofNat z.val = i.2.2.2)
  | .ldc j => decide ((j, i.2.2.1) ∈ t.2.1)
  | .ldc_w j => decide ((j, i.2.2.1) ∈ t.2.1)
  | .ldc2_w j => decide ((j, i.2.2.2) ∈ t.2.2)
  | .iinc j z => decide (Int32.ofInt z = i.2.2.1) && decide (j < nL)
  | .istore_n j => decide (j.val < nL)
  | .istore j => decide (j < nL)
  | .astore_n j => decide (j.val < nL)
  | .astore j => decide (j < nL)
  | .lstore_n j => decide (j.val + 1 < nL)
  | .lstore j => decide (j + 1 < nL)
  | .getfield j => match i.2.1 with | a :: _ => (match t.1[a]? with | some x => decide (x.1 = j) | none => false) | [] => false
  | .putfield j => match i.2.1 with | a :: _ => (match t.1[a]? with | some x => decide (x.1 = j) && decide (x.2.2.2.1 = true → x.2.2.2.2.1 = true ∧ ini = true) | none => false) | [] => false
  | .goto off => match i.2.1 with | a :: _ => decide ((pc : Int) + off = (a : Int)) | [] => false
  | .ifCond _ off => match i.2.1 with | a :: _ => decide ((pc : Int) + off = (a : Int)) | [] => false
  | .if_icmp _ off => match i.2.1 with | a :: _ => decide ((pc : Int) + off = (a : Int)) | [] => false
  | _ => true
def mp_nx (i : mp_I) (pc : Nat) : Nat := match i.1 with
  | .goto _ => i.2.1.headD 0
  | o => pc + mp_len o
def mp_dec (cc : Nat) (nL : Nat) (ini : Bool) (t : mp_T) : List mp_I → Nat → Bool
  | [], _ => true
  | i :: r, pc => mp_fd cc pc i.1 (mp_len i.1) && mp_ck nL ini t i pc && mp_dec cc nL ini t r (mp_nx i pc)
abbrev mp_K : Type := Nat → List (Nat × Value) → List Value → va_W → Nat → Nat → Prop
def mp_cz (c : Jvm.ClassFile.Cond) (x y : Int32) (K1 K2 : Prop) : Prop := match c with
  | .eq => (x = y → K1) ∧ (x.toInt ≠ y.toInt → K2)
  | .ne => (x.toInt ≠ y.toInt → K1) ∧ (x = y → K2)
  | .lt => (x.toInt < y.toInt → K1) ∧ (y.toInt ≤ x.toInt → K2)
  | .ge => (y.toInt ≤ x.toInt → K1) ∧ (x.toInt < y.toInt → K2)
  | .gt => (y.toInt < x.toInt → K1) ∧ (x.toInt ≤ y.toInt → K2)
  | .le => (x.toInt ≤ y.toInt → K1) ∧ (y.toInt < x.toInt → K2)
def mp_c0 (c : Jvm.ClassFile.Cond) (x : Int32) (K1 K2 : Prop) : Prop := match c with
  | .eq => (x = 0 → K1) ∧ (x.toInt ≠ 0 → K2)
  | .ne => (x.toInt ≠ 0 → K1) ∧ (x = 0 → K2)
  | .lt => (x.toInt < 0 → K1) ∧ (0 ≤ x.toInt → K2)
  | .ge => (0 ≤ x.toInt → K1) ∧ (x.toInt < 0 → K2)
  | .gt => (0 < x.toInt → K1) ∧ (x.toInt ≤ 0 → K2)
  | .le => (x.toInt ≤ 0 → K1) ∧ (0 < x.toInt → K2)
def mp_op (E : mp_E) (X : mp_X) (nL : Nat) (t : mp_T) (rc rs : Nat) (i : mp_I) (pc : Nat) (lv : List (Nat × Value)) (st : List Value) (ws : va_W) (k n : Nat) (K : mp_K) : Prop := match i.1 with
  | .iconst _ => K (pc + 1) lv (.int i.2.2.1 :: st) ws k n
  | .bipush _ => K (pc + 2) lv (.int i.2.2.1 :: st) ws k n
  | .sipush _ => K (pc + 3) lv (.int i.2.2.1 :: st) ws k n
  | .ldc _ => K (pc + 2) lv (.int i.2.2.1 :: st) ws k n
  | .ldc_w _ => K (pc + 3) lv (.int i.2.2.1 :: st) ws k n
  | .ldc2_w _ => K (pc + 3) lv (.long i.2.2.2 :: st) ws k n
  | .lconst _ => K (pc + 1) lv (.long i.2.2.2 :: st) ws k n
  | .iload_n j => mp_vi lv j.val fun x => K (pc + 1) lv (.int x :: st) ws k n
  | .iload j => mp_vi lv j fun x => K (pc + 2) lv (.int x :: st) ws k n
  | .lload_n j => mp_vl lv j.val fun x => K (pc + 1) lv (.long x :: st) ws k n
  | .lload j => mp_vl lv j fun x => K (pc + 2) lv (.long x :: st) ws k n
  | .aload_n j => mp_vr lv j.val fun x => K (pc + 1) lv (.ref x :: st) ws k n
  | .aload j => mp_vr lv j fun x => K (pc + 2) lv (.ref x :: st) ws k n
  | .istore_n j => mp_s1 st fun x st => K (pc + 1) (mp_st1 lv j.val (.int x)) st ws k n
  | .istore j => mp_s1 st fun x st => K (pc + 2) (mp_st1 lv j (.int x)) st ws k n
  | .astore_n j => mp_sr st fun x st => K (pc + 1) (mp_st1 lv j.val (.ref x)) st ws k n
  | .astore j => mp_sr st fun x st => K (pc + 2) (mp_st1 lv j (.ref x)) st ws k n
  | .lstore_n j => mp_sl1 st fun x st => K (pc + 1) (mp_st2 lv j.val (.long x)) st ws k n
  | .lstore j => mp_sl1 st fun x st => K (pc + 2) (mp_st2 lv j (.long x)) st ws k n
  | .iinc j _ => mp_vi lv j fun x => ∀ z, z = x + i.2.2.1 → K (pc + 3) (mp_st1 lv j (.int z)) st ws k n
  | .iadd => mp_s2 st fun x y st => ∀ z, z = x + y → K (pc + 1) lv (.int z :: st) ws k n
  | .isub => mp_s2 st fun x y st => ∀ z, z = x - y → K (pc + 1) lv (.int z :: st) ws k n
  | .imul => mp_s2 st fun x y st => ∀ z, z = x * y → K (pc + 1) lv (.int z :: st) ws k n
  | .idiv => mp_s2 st fun x y st => ¬ y = 0 ∧ ∀ z, z = x / y → K (pc + 1) lv (.int z :: st) ws k n
  | .irem => mp_s2 st fun x y st => ¬ y = 0 ∧ ∀ z, z = x - x / y * y → K (pc + 1) lv (.int z :: st) ws k n
  | .iand => mp_s2 st fun x y st => ∀ z, z = x &&& y → K (pc + 1) lv (.int z :: st) ws k n
  | .ior => mp_s2 st fun x y st => ∀ z, z = x ||| y → K (pc + 1) lv (.int z :: st) ws k n
  | .ixor => mp_s2 st fun x y st => ∀ z, z = x ^^^ y → K (pc + 1) lv (.int z :: st) ws k n
  | .ishl => mp_s2 st fun x y st => ∀ z, z = x <<< (y &&& 31) → K (pc + 1) lv (.int z :: st) ws k n
  | .ishr => mp_s2 st fun x y st => ∀ z, z = x >>> (y &&& 31) → K (pc + 1) lv (.int z :: st) ws k n
  | .ladd => mp_sl2 st fun x y st => ∀ z, z = x + y → K (pc + 1) lv (.long z :: st) ws k n
  | .lsub => mp_sl2 st fun x y st => ∀ z, z = x - y → K (pc + 1) lv (.long z :: st) ws k n
  | .lmul => mp_sl2 st fun x y st => ∀ z, z = x * y → K (pc + 1) lv (.long z :: st) ws k n
  | .ldiv => mp_sl2 st fun x y st => ¬ y = 0 ∧ ∀ z, z = x / y → K (pc + 1) lv (.long z :: st) ws k n
  | .lrem => mp_sl2 st fun x y st => ¬ y = 0 ∧ ∀ z, z = x - x / y * y → K (pc + 1) lv (.long z :: st) ws k n
  | .land => mp_sl2 st fun x y st => ∀ z, z = x &&& y → K (pc + 1) lv (.long z :: st) ws k n
  | .lor => mp_sl2 st fun x y st => ∀ z, z = x ||| y → K (pc + 1) lv (.long z :: st) ws k n
  | .lxor => mp_sl2 st fun x y st => ∀ z, z = x ^^^ y → K (pc + 1) lv (.long z :: st) ws k n
  | .lshl => mp_sli st fun x y st => ∀ z, z = x <<< (y.toInt64 &&& 63) → K (pc + 1) lv (.long z :: st) ws k n
  | .lshr => mp_sli st fun x y st => ∀ z, z = x >>> (y.toInt64 &&& 63) → K (pc + 1) lv (.long z :: st) ws k n
  | .i2l => mp_s1 st fun x st => ∀ z, z = x.toInt64 → K (pc + 1) lv (.long z :: st) ws k n
  | .l2i => mp_sl1 st fun x st => ∀ z, z = x.toInt32 → K (pc + 1) lv (.int z :: st) ws k n
  | .i2b => mp_s1 st fun x st => ∀ z, z = x.toInt8.toInt32 → K (pc + 1) lv (.int z :: st) ws k n
  | .i2s => mp_s1 st fun x st => ∀ z, z = x.toInt16.toInt32 → K (pc + 1) lv (.int z :: st) ws k n
  | .lcmp => mp_sl2 st fun x y st => ∀ z, z = lg_cmp x y → K (pc + 1) lv (.int z :: st) ws k n
  | .dup => match st with | v :: r => v.category = 1 ∧ K (pc + 1) lv (v :: v :: r) ws k n | _ => False
  | .pop => match st with | v :: r => v.category = 1 ∧ K (pc + 1) lv r ws k n | _ => False
  | .dup2 => mp_sir st fun y a r => K (pc + 1) lv (.int y :: .ref a :: .int y :: .ref a :: r) ws k n
  | .getfield _ => match i.2.1 with
    | j :: q0 :: _ => (match t.1[j]? with
      | some x => mp_sr st fun a st => mp_wo ws q0 fun b ci fs => a = b ∧ ci = x.2.1 ∧ (match fs[x.2.2.1]? with | some v => K (pc + 3) lv (v :: st) ws k n | none => False)
      | none => False)
    | _ => False
  | .putfield _ => match i.2.1 with
    | j :: q0 :: _ => (match t.1[j]? with
      | some x => mp_svr st fun v a st => mp_wo ws q0 fun b ci fs => a = b ∧ ci = x.2.1 ∧ narrow x.2.2.2.2.2 v = v ∧ fits x.2.2.2.2.2 v = true ∧ x.2.2.1 < fs.length ∧ K (pc + 3) lv st (ws.set q0 (b, .inr (ci, fs.set x.2.2.1 v))) k n
      | none => False)
    | _ => False
  | .iaload => match i.2.1 with
    | q0 :: _ => mp_sir st fun j a st => mp_wi ws q0 fun b cA N f => a = b ∧ cA = E.2.2 0 ∧ vp_in j N ∧ ∀ z, z = f j.toNatClampNeg → K (pc + 1) lv (.int z :: st) ws k n
    | _ => False
  | .baload => match i.2.1 with
    | [q0] => mp_sir st fun j a st => mp_wi ws q0 fun b cA N f => a = b ∧ cA = E.2.2 1 ∧ vp_in j N ∧ ∀ z, z = f j.toNatClampNeg → K (pc + 1) lv (.int z :: st) ws k n
    | [q0, _] => mp_sir st fun j a st => mp_wi ws q0 fun b cA N f => a = b ∧ cA = E.2.2 3 ∧ vp_in j N ∧ ∀ z, z = f j.toNatClampNeg → K (pc + 1) lv (.int z :: st) ws k n
    | _ => False
  | .laload => match i.2.1 with
    | q0 :: _ => mp_sir st fun j a st => mp_wl ws q0 fun b cA N f => a = b ∧ cA = E.2.2 2 ∧ vp_in j N ∧ ∀ z, z = f j.toNatClampNeg → K (pc + 1) lv (.long z :: st) ws k n
    | _ => False
  | .aaload => match i.2.1 with
    | q0 :: _ => mp_sir st fun j a st => mp_wq ws q0 fun b cA N f => a = b ∧ cA = E.2.2 4 ∧ vp_in j N ∧ ∀ z, z = f j.toNatClampNeg → K (pc + 1) lv (va_rf z :: st) ws k n
    | _ => False
  | .iastore => match i.2.1 with
    | q0 :: _ => mp_siir st fun x j a st => mp_wi ws q0 fun b cA N f => a = b ∧ cA = E.2.2 0 ∧ vp_in j N ∧ ∀ g, g = upd f j.toNatClampNeg x → K (pc + 1) lv st (ws.set q0 (b, .inl (cA, N, .inl g))) k n
    | _ => False
  | .bastore => match i.2.1 with
    | [q0] => mp_siir st fun x j a st => mp_wi ws q0 fun b cA N f => a = b ∧ cA = E.2.2 1 ∧ vp_in j N ∧ ∀ g, g = upd f j.toNatClampNeg (vp_nar .byte x) → K (pc + 1) lv st (ws.set q0 (b, .inl (cA, N, .inl g))) k n
    | [q0, _] => mp_siir st fun x j a st => mp_wi ws q0 fun b cA N f => a = b ∧ cA = E.2.2 3 ∧ vp_in j N ∧ ∀ g, g = upd f j.toNatClampNeg (vp_nar .boolean x) → K (pc + 1) lv st (ws.set q0 (b, .inl (cA, N, .inl g))) k n
    | _ => False
  | .lastore => match i.2.1 with
    | q0 :: _ => mp_slir st fun x j a st => mp_wl ws q0 fun b cA N f => a = b ∧ cA = E.2.2 2 ∧ vp_in j N ∧ ∀ g, g = vp_updL f j.toNatClampNeg x → K (pc + 1) lv st (ws.set q0 (b, .inl (cA, N, .inr (.inl g)))) k n
    | _ => False
  | .arraylength => match i.2.1 with
    | [q0, t0] => mp_sr st fun a st => mp_wa ws q0 fun b cA x => a = b ∧ cA = E.2.2 t0 ∧ t0 < 5 ∧ ∀ z, z = Int32.ofNat x.1 → K (pc + 1) lv (.int z :: st) ws k n
    | _ => False
  | .newarray .int => match i.2.1 with
    | N :: _ => mp_s1 st fun x st => (0 ≤ x.toInt ∧ x.toInt = N) ∧ k + 1 ≤ rc ∧ n + N ≤ rs ∧ N ≤ 100000 ∧ ∀ q, K (pc + 2) lv (.ref q :: st) (ws ++ [(q, .inl (E.2.2 0, N, .inl (fun _ => 0)))]) (k + 1) (n + N)
    | _ => False
  | .newarray .byte => match i.2.1 with
    | N :: _ => mp_s1 st fun x st => (0 ≤ x.toInt ∧ x.toInt = N) ∧ k + 1 ≤ rc ∧ n + N ≤ rs ∧ N ≤ 100000 ∧ ∀ q, K (pc + 2) lv (.ref q :: st) (ws ++ [(q, .inl (E.2.2 1, N, .inl (fun _ => 0)))]) (k + 1) (n + N)
    | _ => False
  | .newarray .long => match i.2.1 with
    | N :: _ => mp_s1 st fun x st => (0 ≤ x.toInt ∧ x.toInt = N) ∧ k + 1 ≤ rc ∧ n + N ≤ rs ∧ N ≤ 100000 ∧ ∀ q, K (pc + 2) lv (.ref q :: st) (ws ++ [(q, .inl (E.2.2 2, N, .inr (.inl (fun _ => 0))))]) (k + 1) (n + N)
    | _ => False
  | .newarray .boolean => match i.2.1 with
    | N :: _ => mp_s1 st fun x st => (0 ≤ x.toInt ∧ x.toInt = N) ∧ k + 1 ≤ rc ∧ n + N ≤ rs ∧ N ≤ 100000 ∧ ∀ q, K (pc + 2) lv (.ref q :: st) (ws ++ [(q, .inl (E.2.2 3, N, .inl (fun _ => 0)))]) (k + 1) (n + N)
    | _ => False
  | .goto _ => K (i.2.1.headD 0) lv st ws k n
  | .ifCond c _ => mp_s1 st fun x st => mp_c0 c x (mp_W E X nL (i.2.1.headD 0) lv st ws k n) (mp_W E X nL (pc + 3) lv st ws k n)
  | .if_icmp c _ => mp_s2 st fun x y st => mp_cz c x y (mp_W E X nL (i.2.1.headD 0) lv st ws k n) (mp_W E X nL (pc + 3) lv st ws k n)
  | _ => False
def mp_wp (E : mp_E) (X : mp_X) (nL : Nat) (t : mp_T) (rc rs : Nat) : List mp_I → mp_K
  | [] => fun pc lv st ws k n => mp_W E X nL pc lv st ws k n
  | i :: r => fun pc lv st ws k n => mp_op E X nL t rc rs i pc lv st ws k n (mp_wp E X nL t rc rs r)
