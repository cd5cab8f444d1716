/-! THE BLOCK RUNNER: W with its locals, stack and world said in one place (mp_W); a block of decoded instructions with hints (mp_wp), run at once (mp_run); calls, ends, contracts (mp_Ct) -/
/-! string constants: their texts in bytes, the class and the entry that names them -/
def mp_sl : List Nat := [5, 2, 3, 4, 6, 2, 4, 5, 7, 2, 5, 4, 5, 4]
def mp_sb : List (List Int32) := [[105, 115, 108, 101, 115], [97, 116], [115, 101, 97], [111, 97, 114, 115], [112, 101, 114, 115, 111, 110], [111, 110], [100, 105, 101, 115], [116, 101, 110, 100, 115], [112, 114, 111, 109, 105, 115, 101], [116, 111], [119, 111, 114, 116, 104], [115, 97, 105, 100], [100, 114, 117, 110, 107], [115, 104, 117, 116]]
def mp_strs : List (String × Nat × String × Nat) := [(RX3, 54, "isles", 0), (RX3, 100, "at", 1), (RX3, 67, "sea", 2), (RX3, 108, "oars", 3), (RX3, 72, "person", 4), (RX3, 117, "on", 5), (RX3, 123, "dies", 6), (RX3, 129, "tends", 7), (RX3, 77, "promise", 8), (RX3, 134, "to", 9), (RX3, 136, "worth", 10), (RX3, 139, "said", 11), (RX3, 148, "drunk", 12), (RX3, 152, "shut", 13)]
abbrev mp_E : Type := (Launch × (Nat → Nat) × (Nat → Nat)) × va_G × (Nat → ClassId)
def mp_S (E : mp_E) (A : Nat → Prop) (U : State) : Prop := vk_S 14 mp_sl mp_sb E.1.2.1 E.1.2.2 A U U.heap ∧ (∀ q ∈ mp_strs, vk_R q.1 q.2.1 q.2.2.1 (E.1.2.1 q.2.2.2) U) ∧ va_Z "java/lang/String" "COMPACT_STRINGS" "Z" (.int 1) A U U.heap ∧ va_Zq "jdk/internal/util/Preconditions" "SIOOBE_FORMATTER" "Ljava/util/function/BiFunction;" A U U.heap
theorem mp_S_same {E : mp_E} {A : Nat → Prop} {u U : State} (hh : U.heap = u.heap) (hv : U.vm = u.vm) (h : mp_S E A u) : mp_S E A U := by
  obtain ⟨h1, h2, h3, h4⟩ := h
  have hm : u.vm.Alike U.vm := by rw [hv]; exact Vm.Alike.refl _
  exact ⟨by rw [hh]; exact h1.moved hm, fun q hq => (h2 q hq).same hv, by rw [hh]; exact h3.moved hm, by rw [hh]; exact h4.moved hm⟩
theorem mp_S_warm {E : mp_E} {A B : Nat → Prop} {s U : State} (hW : s.WarmedH U.vm) (hq : ∀ a : Nat, a < s.heap.size → ¬ A a → U.heap[a]? = s.heap[a]?) (hAB : ∀ q, B q → A q) (h : mp_S E A s) : mp_S E B U := by
  obtain ⟨h1, h2, h3, h4⟩ := h
  exact ⟨((h1.kept hq).moved hW.alike).narrow hAB, fun q hq => (h2 q hq).warm hW, ((h3.kept hq).moved hW.alike).narrow hAB, ((h4.kept hq).moved hW.alike).narrow hAB⟩
def mp_NS (E : mp_E) (A : Nat → Prop) (U : State) : Prop := mp_N U ∧ mp_S E A U
abbrev mp_ty (cA : Nat → ClassId) : List (ClassId × FieldType) := [(cA 0, .int), (cA 1, .byte), (cA 2, .long), (cA 3, .boolean), (cA 4, .object RX7)]
abbrev mp_X : Type := (Program × Env × Room) × (State × MethodId × Array Value × List Frame) × (Method × Code) × ((Nat → Prop) × (State → Prop))
/-- own class, code, locals, (frames, cells, slots, words of locals), what it returns, whether it is a constructor -/
abbrev mp_M : Type := String × ByteArray × Nat × (Nat × Nat × Nat × Nat) × Option FieldType × Bool
def mp_W (E : mp_E) (X : mp_X) (nL pc : Nat) (lv : List (Nat × Value)) (st : List Value) (ws : va_W) (k n : Nat) : Prop :=
  ∀ (H : Heap) (locs : List Loc) (ls : Array Slot), va_P E.2.1 vwCl ws H → va_D X.2.2.2.1 ws → va_S X.2.2.2.1 X.2.1.1.heap H locs → lv_has ls nL lv →
    W X.1.1 E.1.1 X.1.2.1 X.1.2.2 X.2.1.1 X.2.1.2.1 X.2.1.2.2.1 X.2.1.2.2.2 X.2.2.1.1 X.2.2.1.2 H locs k n X.2.2.2.2 (F0 X.2.1.2.1 pc ls st)
def mp_F (E : mp_E) (X : mp_X) (M : mp_M) : Prop :=
  X.1.1.tables.exec = Jvm.exec ∧ X.2.2.1.2.code = M.2.1 ∧ X.2.2.1.2.maxLocals = M.2.2.1 ∧ X.2.1.1.vm.findClass M.1 = some X.2.1.2.1.cls ∧ (∀ w ∈ mp_UT, w.before X.2.1.2.2.1 X.2.1.1 = true) ∧
  va_K E.2.1 vwCl (mp_ty E.2.2) X.2.1.1 ∧ (∀ q : Nat, X.2.1.1.heap.size ≤ q → X.2.2.2.1 q) ∧ X.2.2.1.1.locks = false ∧
  X.1.2.2 = ({ frames := M.2.2.2.1.1, cells := M.2.2.2.1.2.1, slots := M.2.2.2.1.2.2.1, locals := M.2.2.2.1.2.2.2 } : Room) ∧ X.2.2.1.1.sig.returnType = M.2.2.2.2.1 ∧ (M.2.2.2.2.2 = true → X.2.2.1.1.name = "<init>") ∧ mp_NS E X.2.2.2.1 X.2.1.1
/-- an instruction, hints (places), a number -/
abbrev mp_I : Type := Instr × List Nat × Int32 × Int64
abbrev mp_i (o : Instr) : mp_I := (o, [], 0, 0)
abbrev mp_h (o : Instr) (h : List Nat) : mp_I := (o, h, 0, 0)
abbrev mp_c (o : Instr) (v : Int32) : mp_I := (o, [], v, 0)
abbrev mp_cl (o : Instr) (v : Int64) : mp_I := (o, [], 0, v)
/-- fields that a class links: pool number, class, slot, whether final, whether of the class itself, type -/
abbrev mp_L : Type := Nat × Nat × Nat × Bool × Bool × FieldType
abbrev mp_T : Type := List mp_L × List (Nat × Int32) × List (Nat × Int64)
def mp_lk1 (own : String) (x : mp_L) (j : Nat) : Bool := match vwCl[x.2.1]? with
  | none => false
  | some q => decide (x.2.2.1 < q.2.2) && mp_gK j (.fieldLink own x.1 (q.2.1 x.2.2.1).1 (q.2.1 x.2.2.1).2.1 (q.2.1 x.2.2.1).2.2.1) && decide ((q.2.1 x.2.2.1).2.2.2 = x.2.2.2.1) && decide (parseFieldDescriptor (q.2.1 x.2.2.1).2.2.1 = some x.2.2.2.2.2) && decide (x.2.2.2.2.1 = true → (q.2.1 x.2.2.1).1 = own)
def mp_lks (own : String) : List mp_L → List Nat → Bool
  | [], _ => true
  | x :: r, j :: js => mp_lk1 own x j && mp_lks own r js
  | _ :: _, [] => false
def mp_cks (own : String) : List (Nat × Int32) → List Nat → Bool
  | [], _ => true
  | x :: r, j :: js => mp_gK j (.constant own x.1 x.2) && mp_cks own r js
  | _ :: _, [] => false
def mp_cls (own : String) : List (Nat × Int64) → List Nat → Bool
  | [], _ => true
  | x :: r, j :: js => mp_gK j (.constantLong own x.1 x.2) && mp_cls own r js
  | _ :: _, [] => false
def mp_lkP (own : String) (x : mp_L) : Prop := ∃ q : vw_C, vwCl[x.2.1]? = some q ∧ x.2.2.1 < q.2.2 ∧ (Jvm.Cond.fieldLink own x.1 (q.2.1 x.2.2.1).1 (q.2.1 x.2.2.1).2.1 (q.2.1 x.2.2.1).2.2.1) ∈ mp_UT ∧ (q.2.1 x.2.2.1).2.2.2 = x.2.2.2.1 ∧ parseFieldDescriptor (q.2.1 x.2.2.1).2.2.1 = some x.2.2.2.2.2 ∧ (x.2.2.2.2.1 = true → (q.2.1 x.2.2.1).1 = own)
theorem mp_lk1_ok {own : String} {x : mp_L} {j : Nat} (h : mp_lk1 own x j = true) : mp_lkP own x := by
  unfold mp_lk1 at h
  split at h
  · exact absurd h (by decide)
  · rename_i q hq
    simp only [Bool.and_eq_true, decide_eq_true_eq] at h
    obtain ⟨⟨⟨⟨h1, h2⟩, h3⟩, h4⟩, h5⟩ := h
    exact ⟨q, hq, h1, mp_gm h2, h3, h4, h5⟩
theorem mp_lks_ok {own : String} : ∀ {l : List mp_L} {js : List Nat}, mp_lks own l js = true → ∀ x ∈ l, mp_lkP own x
  | [], _, _, x, hx => absurd hx List.not_mem_nil
  | y :: r, [], h, _, _ => absurd h (by simp [mp_lks])
  | y :: r, j :: js, h, x, hx => by
    simp only [mp_lks, Bool.and_eq_true] at h
    rcases List.mem_cons.mp hx with rfl | hx
    · exact mp_lk1_ok h.1
    · exact mp_lks_ok h.2 x hx
theorem mp_cks_ok {own : String} : ∀ {l : List (Nat × Int32)} {js : List Nat}, mp_cks own l js = true → ∀ x ∈ l, (Jvm.Cond.constant own x.1 x.2) ∈ mp_UT
  | [], _, _, x, hx => absurd hx List.not_mem_nil
  | y :: r, [], h, _, _ => absurd h (by simp [mp_cks])
  | y :: r, j :: js, h, x, hx => by
    simp only [mp_cks, Bool.and_eq_true, decide_eq_true_eq] at h
    rcases List.mem_cons.mp hx with rfl | hx
    · exact mp_gm h.1
    · exact mp_cks_ok h.2 x hx
theorem mp_cls_ok {own : String} : ∀ {l : List (Nat × Int64)} {js : List Nat}, mp_cls own l js = true → ∀ x ∈ l, (Jvm.Cond.constantLong own x.1 x.2) ∈ mp_UT
  | [], _, _, x, hx => absurd hx List.not_mem_nil
  | y :: r, [], h, _, _ => absurd h (by simp [mp_cls])
  | y :: r, j :: js, h, x, hx => by
    simp only [mp_cls, Bool.and_eq_true, decide_eq_true_eq] at h
    rcases List.mem_cons.mp hx with rfl | hx
    · exact mp_gm h.1
    · exact mp_cls_ok h.2 x hx
def mp_Tok (own : String) (t : mp_T) : Prop := (∀ x ∈ t.1, mp_lkP own x) ∧ (∀ x ∈ t.2.1, (Jvm.Cond.constant own x.1 x.2) ∈ mp_UT) ∧ (∀ x ∈ t.2.2, (Jvm.Cond.constantLong own x.1 x.2) ∈ mp_UT)
-- locals
def mp_find : List (Nat × Value) → Nat → Option Value
  | [], _ => none
  | q :: r, i => bif Nat.beq q.1 i then some q.2 else mp_find r i
theorem mp_find_mem : ∀ {l : List (Nat × Value)} {i : Nat} {v : Value}, mp_find l i = some v → (i, v) ∈ l
  | [], _, _, h => by cases h
  | q :: r, i, v, h => by
    unfold mp_find at h
    cases hb : Nat.beq q.1 i with
    | true =>
      rw [hb] at h
      have e : q.1 = i := Nat.eq_of_beq_eq_true hb
      have h : some q.2 = some v := h
      cases h
      subst e
      exact List.mem_cons_self
    | false =>
      rw [hb] at h
      exact List.mem_cons_of_mem _ (mp_find_mem h)
def mp_st1 (lv : List (Nat × Value)) (i : Nat) (v : Value) : List (Nat × Value) := (i, v) :: lv.filter (fun q => !(q.1 == i) && !(q.1 + 1 == i && q.2.category == 2))
def mp_st2 (lv : List (Nat × Value)) (i : Nat) (v : Value) : List (Nat × Value) := (i, v) :: lv.filter (fun q => !(q.1 == i) && (!(q.1 == i + 1) && !(q.1 + 1 == i && q.2.category == 2)))
def mp_vi (lv : List (Nat × Value)) (i : Nat) (K : Int32 → Prop) : Prop := match mp_find lv i with | some (.int x) => K x | _ => False
def mp_vl (lv : List (Nat × Value)) (i : Nat) (K : Int64 → Prop) : Prop := match mp_find lv i with | some (.long x) => K x | _ => False
def mp_vr (lv : List (Nat × Value)) (i : Nat) (K : Nat → Prop) : Prop := match mp_find lv i with | some (.ref x) => K x | _ => False
theorem mp_vi_of {lv : List (Nat × Value)} {i : Nat} {K : Int32 → Prop} (h : mp_vi lv i K) : ∃ x, mp_find lv i = some (.int x) ∧ K x := by
  unfold mp_vi at h
  split at h
  · rename_i x hx; exact ⟨x, hx, h⟩
  · exact h.elim
theorem mp_vl_of {lv : List (Nat × Value)} {i : Nat} {K : Int64 → Prop} (h : mp_vl lv i K) : ∃ x, mp_find lv i = some (.long x) ∧ K x := by
  unfold mp_vl at h
  split at h
  · rename_i x hx; exact ⟨x, hx, h⟩
  · exact h.elim
theorem mp_vr_of {lv : List (Nat × Value)} {i : Nat} {K : Nat → Prop} (h : mp_vr lv i K) : ∃ x, mp_find lv i = some (.ref x) ∧ K x := by
  unfold mp_vr at h
  split at h
  · rename_i x hx; exact ⟨x, hx, h⟩
  · exact h.elim
-- the stack
def mp_s1 (st : List Value) (K : Int32 → List Value → Prop) : Prop := match st with | .int x :: r => K x r | _ => False
def mp_s2 (st : List Value) (K : Int32 → Int32 → List Value → Prop) : Prop := match st with | .int y :: .int x :: r => K x y r | _ => False
def mp_sl1 (st : List Value) (K : Int64 → List Value → Prop) : Prop := match st with | .long x :: r => K x r | _ => False
def mp_sl2 (st : List Value) (K : Int64 → Int64 → List Value → Prop) : Prop := match st with | .long y :: .long x :: r => K x y r | _ => False
def mp_sli (st : List Value) (K : Int64 → Int32 → List Value → Prop) : Prop := match st with | .int y :: .long x :: r => K x y r | _ => False
def mp_sr (st : List Value) (K : Nat → List Value → Prop) : Prop := match st with | .ref x :: r => K x r | _ => False
def mp_sir (st : List Value) (K : Int32 → Nat → List Value → Prop) : Prop := match st with | .int i :: .ref a :: r => K i a r | _ => False
def mp_siir (st : List Value) (K : Int32 → Int32 → Nat → List Value → Prop) : Prop := match st with | .int x :: .int i :: .ref a :: r => K x i a r | _ => False
def mp_slir (st : List Value) (K : Int64 → Int32 → Nat → List Value → Prop) : Prop := match st with | .long x :: .int i :: .ref a :: r => K x i a r | _ => False
def mp_svr (st : List Value) (K : Value → Nat → List Value → Prop) : Prop := match st with | v :: .ref a :: r => K v a r | _ => False
theorem mp_s1_of {st : List Value} {K : Int32 → List Value → Prop} (h : mp_s1 st K) : ∃ x r, st = .int x :: r ∧ K x r := by
  unfold mp_s1 at h; split at h
  · exact ⟨_, _, rfl, h⟩
  · exact h.elim
theorem mp_s2_of {st : List Value} {K : Int32 → Int32 → List Value → Prop} (h : mp_s2 st K) : ∃ x y r, st = .int y :: .int x :: r ∧ K x y r := by
  unfold mp_s2 at h; split at h
  · exact ⟨_, _, _, rfl, h⟩
  · exact h.elim
theorem mp_sl1_of {st : List Value} {K : Int64 → List Value → Prop} (h : mp_sl1 st K) : ∃ x r, st = .long x :: r ∧ K x r := by
  unfold mp_sl1 at h; split at h
  · exact ⟨_, _, rfl, h⟩
  · exact h.elim
theorem mp_sl2_of {st : List Value} {K : Int64 → Int64 → List Value → Prop} (h : mp_sl2 st K) : ∃ x y r, st = .long y :: .long x :: r ∧ K x y r := by
  unfold mp_sl2 at h; split at h
  · exact ⟨_, _, _, rfl, h⟩
  · exact h.elim
theorem mp_sli_of {st : List Value} {K : Int64 → Int32 → List Value → Prop} (h : mp_sli st K) : ∃ x y r, st = .int y :: .long x :: r ∧ K x y r := by
  unfold mp_sli at h; split at h
  · exact ⟨_, _, _, rfl, h⟩
  · exact h.elim
theorem mp_sr_of {st : List Value} {K : Nat → List Value → Prop} (h : mp_sr st K) : ∃ x r, st = .ref x :: r ∧ K x r := by
  unfold mp_sr at h; split at h
  · exact ⟨_, _, rfl, h⟩
  · exact h.elim
theorem mp_sir_of {st : List Value} {K : Int32 → Nat → List Value → Prop} (h : mp_sir st K) : ∃ i a r, st = .int i :: .ref a :: r ∧ K i a r := by
  unfold mp_sir at h; split at h
  · exact ⟨_, _, _, rfl, h⟩
  · exact h.elim
theorem mp_siir_of {st : List Value} {K : Int32 → Int32 → Nat → List Value → Prop} (h : mp_siir st K) : ∃ x i a r, st = .int x :: .int i :: .ref a :: r ∧ K x i a r := by
  unfold mp_siir at h; split at h
  · exact ⟨_, _, _, _, rfl, h⟩
  · exact h.elim
theorem mp_slir_of {st : List Value} {K : Int64 → Int32 → Nat → List Value → Prop} (h : mp_slir st K) : ∃ x i a r, st = .long x :: .int i :: .ref a :: r ∧ K x i a r := by
  unfold mp_slir at h; split at h
  · exact ⟨_, _, _, _, rfl, h⟩
  · exact h.elim
theorem mp_svr_of {st : List Value} {K : Value → Nat → List Value → Prop} (h : mp_svr st K) : ∃ v a r, st = v :: .ref a :: r ∧ K v a r := by
  unfold mp_svr at h; split at h
  · exact ⟨_, _, _, rfl, h⟩
  · exact h.elim
-- the world
def mp_wo (ws : va_W) (q : Nat) (K : Nat → Nat → List Value → Prop) : Prop := match ws[q]? with | some (a, .inr (ci, fs)) => K a ci fs | _ => False
def mp_wi (ws : va_W) (q : Nat) (K : Nat → ClassId → Nat → (Nat → Int32) → Prop) : Prop := match ws[q]? with | some (a, .inl (cA, n, .inl f)) => K a cA n f | _ => False
def mp_wl (ws : va_W) (q : Nat) (K : Nat → ClassId → Nat → (Nat → Int64) → Prop) : Prop := match ws[q]? with | some (a, .inl (cA, n, .inr (.inl f))) => K a cA n f | _ => False
def mp_wq (ws : va_W) (q : Nat) (K : Nat → ClassId → Nat → (Nat → Option Nat) → Prop) : Prop := match ws[q]? with | some (a, .inl (cA, n, .inr (.inr (.inr (.inr f))))) => K a cA n f | _ => False
def mp_wa (ws : va_W) (q : Nat) (K : Nat → ClassId → vp_A → Prop) : Prop := match ws[q]? with | some (a, .inl (cA, x)) => K a cA x | _ => False
theorem mp_wo_of {ws : va_W} {q : Nat} {K : Nat → Nat → List Value → Prop} (h : mp_wo ws q K) : ∃ a ci fs, ws[q]? = some (a, .inr (ci, fs)) ∧ K a ci fs := by
  unfold mp_wo at h; split at h
  · rename_i e; exact ⟨_, _, _, e, h⟩
  · exact h.elim
theorem mp_wi_of {ws : va_W} {q : Nat} {K : Nat → ClassId → Nat → (Nat → Int32) → Prop} (h : mp_wi ws q K) : ∃ a cA n f, ws[q]? = some (a, .inl (cA, n, .inl f)) ∧ K a cA n f := by
  unfold mp_wi at h; split at h
  · rename_i e; exact ⟨_, _, _, _, e, h⟩
  · exact h.elim
theorem mp_wl_of {ws : va_W} {q : Nat} {K : Nat → ClassId → Nat → (Nat → Int64) → Prop} (h : mp_wl ws q K) : ∃ a cA n f, ws[q]? = some (a, .inl (cA, n, .inr (.inl f))) ∧ K a cA n f := by
  unfold mp_wl at h; split at h
  · rename_i e; exact ⟨_, _, _, _, e, h⟩
  · exact h.elim
theorem mp_wq_of {ws : va_W} {q : Nat} {K : Nat → ClassId → Nat → (Nat → Option Nat) → Prop} (h : mp_wq ws q K) : ∃ a cA n f, ws[q]? = some (a, .inl (cA, n, .inr (.inr (.inr (.inr f))))) ∧ K a cA n f := by
  unfold mp_wq at h; split at h
  · rename_i e; exact ⟨_, _, _, _, e, h⟩
  · exact h.elim
theorem mp_wa_of {ws : va_W} {q : Nat} {K : Nat → ClassId → vp_A → Prop} (h : mp_wa ws q K) : ∃ a cA x, ws[q]? = some (a, .inl (cA, x)) ∧ K a cA x := by
  unfold mp_wa at h; split at h
  · rename_i e; exact ⟨_, _, _, e, h⟩
  · exact h.elim
def mp_len : Instr → Nat
  | .bipush _ | .iload _ | .lload _ | .aload _ | .istore _ | .lstore _ | .astore _ | .ldc _ | .newarray _ => 2
  | .sipush _ | .ldc_w _ | .ldc2_w _ | .getfield _ | .putfield _ | .goto _ | .ifCond _ _ | .if_icmp _ _ | .iinc _ _ | .ifnull _ | .ifnonnull _ => 3
  | _ => 1
/-- what of an instruction a program can check -/
def mp_ck (nL : Nat) (ini : Bool) (t : mp_T) (i : mp_I) (pc : Nat) : Bool := match i.1 with
  | .iconst z => decide (Int32.ofInt z = i.2.2.1)
  | .bipush z => decide ((Int8.ofInt z).toInt32 = i.2.2.1)
  | .sipush z => decide ((Int16.ofInt z).toInt32 = i.2.2.1)
  | .lconst z => decide (Int64.ofNat z.val = i.2.2.2)
  | .ldc j => decide ((j, i.2.2.1) ∈ t.2.1)
  | .ldc_w j => decide ((j, i.2.2.1) ∈ t.2.1)
  | .ldc2_w j => decide ((j, i.2.2.2) ∈ t.2.2)
  | .iinc j z => decide (Int32.ofInt z = i.2.2.1) && decide (j < nL)
  | .istore_n j => decide (j.val < nL)
  | .istore j => decide (j < nL)
  | .astore_n j => decide (j.val < nL)
  | .astore j => decide (j < nL)
  | .lstore_n j => decide (j.val + 1 < nL)
  | .lstore j => decide (j + 1 < nL)
  | .getfield j => match i.2.1 with | a :: _ => (match t.1[a]? with | some x => decide (x.1 = j) | none => false) | [] => false
  | .putfield j => match i.2.1 with | a :: _ => (match t.1[a]? with | some x => decide (x.1 = j) && decide (x.2.2.2.1 = true → x.2.2.2.2.1 = true ∧ ini = true) | none => false) | [] => false
  | .goto off => match i.2.1 with | a :: _ => decide ((pc : Int) + off = (a : Int)) | [] => false
  | .ifCond _ off => match i.2.1 with | a :: _ => decide ((pc : Int) + off = (a : Int)) | [] => false
  | .if_icmp _ off => match i.2.1 with | a :: _ => decide ((pc : Int) + off = (a : Int)) | [] => false
  | _ => true
def mp_nx (i : mp_I) (pc : Nat) : Nat := match i.1 with
  | .goto _ => i.2.1.headD 0
  | o => pc + mp_len o
def mp_dec (cc : ByteArray) (nL : Nat) (ini : Bool) (t : mp_T) : List mp_I → Nat → Bool
  | [], _ => true
  | i :: r, pc => decide (decode cc pc = .ok (i.1, mp_len i.1)) && mp_ck nL ini t i pc && mp_dec cc nL ini t r (mp_nx i pc)
abbrev mp_K : Type := Nat → List (Nat × Value) → List Value → va_W → Nat → Nat → Prop
def mp_cz (c : Jvm.ClassFile.Cond) (x y : Int32) (K1 K2 : Prop) : Prop := match c with
  | .eq => (x = y → K1) ∧ (x.toInt ≠ y.toInt → K2)
  | .ne => (x.toInt ≠ y.toInt → K1) ∧ (x = y → K2)
  | .lt => (x.toInt < y.toInt → K1) ∧ (y.toInt ≤ x.toInt → K2)
  | .ge => (y.toInt ≤ x.toInt → K1) ∧ (x.toInt < y.toInt → K2)
  | .gt => (y.toInt < x.toInt → K1) ∧ (x.toInt ≤ y.toInt → K2)
  | .le => (x.toInt ≤ y.toInt → K1) ∧ (y.toInt < x.toInt → K2)
def mp_c0 (c : Jvm.ClassFile.Cond) (x : Int32) (K1 K2 : Prop) : Prop := match c with
  | .eq => (x = 0 → K1) ∧ (x.toInt ≠ 0 → K2)
  | .ne => (x.toInt ≠ 0 → K1) ∧ (x = 0 → K2)
  | .lt => (x.toInt < 0 → K1) ∧ (0 ≤ x.toInt → K2)
  | .ge => (0 ≤ x.toInt → K1) ∧ (x.toInt < 0 → K2)
  | .gt => (0 < x.toInt → K1) ∧ (x.toInt ≤ 0 → K2)
  | .le => (x.toInt ≤ 0 → K1) ∧ (0 < x.toInt → K2)
def mp_op (E : mp_E) (X : mp_X) (nL : Nat) (t : mp_T) (rc rs : Nat) (i : mp_I) (pc : Nat) (lv : List (Nat × Value)) (st : List Value) (ws : va_W) (k n : Nat) (K : mp_K) : Prop := match i.1 with
  | .iconst _ => K (pc + 1) lv (.int i.2.2.1 :: st) ws k n
  | .bipush _ => K (pc + 2) lv (.int i.2.2.1 :: st) ws k n
  | .sipush _ => K (pc + 3) lv (.int i.2.2.1 :: st) ws k n
  | .ldc _ => K (pc + 2) lv (.int i.2.2.1 :: st) ws k n
  | .ldc_w _ => K (pc + 3) lv (.int i.2.2.1 :: st) ws k n
  | .ldc2_w _ => K (pc + 3) lv (.long i.2.2.2 :: st) ws k n
  | .lconst _ => K (pc + 1) lv (.long i.2.2.2 :: st) ws k n
  | .iload_n j => mp_vi lv j.val fun x => K (pc + 1) lv (.int x :: st) ws k n
  | .iload j => mp_vi lv j fun x => K (pc + 2) lv (.int x :: st) ws k n
  | .lload_n j => mp_vl lv j.val fun x => K (pc + 1) lv (.long x :: st) ws k n
  | .lload j => mp_vl lv j fun x => K (pc + 2) lv (.long x :: st) ws k n
  | .aload_n j => mp_vr lv j.val fun x => K (pc + 1) lv (.ref x :: st) ws k n
  | .aload j => mp_vr lv j fun x => K (pc + 2) lv (.ref x :: st) ws k n
  | .istore_n j => mp_s1 st fun x st => K (pc + 1) (mp_st1 lv j.val (.int x)) st ws k n
  | .istore j => mp_s1 st fun x st => K (pc + 2) (mp_st1 lv j (.int x)) st ws k n
  | .astore_n j => mp_sr st fun x st => K (pc + 1) (mp_st1 lv j.val (.ref x)) st ws k n
  | .astore j => mp_sr st fun x st => K (pc + 2) (mp_st1 lv j (.ref x)) st ws k n
  | .lstore_n j => mp_sl1 st fun x st => K (pc + 1) (mp_st2 lv j.val (.long x)) st ws k n
  | .lstore j => mp_sl1 st fun x st => K (pc + 2) (mp_st2 lv j (.long x)) st ws k n
  | .iinc j _ => mp_vi lv j fun x => ∀ z, z = x + i.2.2.1 → K (pc + 3) (mp_st1 lv j (.int z)) st ws k n
  | .iadd => mp_s2 st fun x y st => ∀ z, z = x + y → K (pc + 1) lv (.int z :: st) ws k n
  | .isub => mp_s2 st fun x y st => ∀ z, z = x - y → K (pc + 1) lv (.int z :: st) ws k n
  | .imul => mp_s2 st fun x y st => ∀ z, z = x * y → K (pc + 1) lv (.int z :: st) ws k n
  | .idiv => mp_s2 st fun x y st => ¬ y = 0 ∧ ∀ z, z = x / y → K (pc + 1) lv (.int z :: st) ws k n
  | .irem => mp_s2 st fun x y st => ¬ y = 0 ∧ ∀ z, z = x - x / y * y → K (pc + 1) lv (.int z :: st) ws k n
  | .iand => mp_s2 st fun x y st => ∀ z, z = x &&& y → K (pc + 1) lv (.int z :: st) ws k n
  | .ior => mp_s2 st fun x y st => ∀ z, z = x ||| y → K (pc + 1) lv (.int z :: st) ws k n
  | .ixor => mp_s2 st fun x y st => ∀ z, z = x ^^^ y → K (pc + 1) lv (.int z :: st) ws k n
  | .ishl => mp_s2 st fun x y st => ∀ z, z = x <<< (y &&& 31) → K (pc + 1) lv (.int z :: st) ws k n
  | .ishr => mp_s2 st fun x y st => ∀ z, z = x >>> (y &&& 31) → K (pc + 1) lv (.int z :: st) ws k n
  | .ladd => mp_sl2 st fun x y st => ∀ z, z = x + y → K (pc + 1) lv (.long z :: st) ws k n
  | .lsub => mp_sl2 st fun x y st => ∀ z, z = x - y → K (pc + 1) lv (.long z :: st) ws k n
  | .lmul => mp_sl2 st fun x y st => ∀ z, z = x * y → K (pc + 1) lv (.long z :: st) ws k n
  | .ldiv => mp_sl2 st fun x y st => ¬ y = 0 ∧ ∀ z, z = x / y → K (pc + 1) lv (.long z :: st) ws k n
  | .lrem => mp_sl2 st fun x y st => ¬ y = 0 ∧ ∀ z, z = x - x / y * y → K (pc + 1) lv (.long z :: st) ws k n
  | .land => mp_sl2 st fun x y st => ∀ z, z = x &&& y → K (pc + 1) lv (.long z :: st) ws k n
  | .lor => mp_sl2 st fun x y st => ∀ z, z = x ||| y → K (pc + 1) lv (.long z :: st) ws k n
  | .lxor => mp_sl2 st fun x y st => ∀ z, z = x ^^^ y → K (pc + 1) lv (.long z :: st) ws k n
  | .lshl => mp_sli st fun x y st => ∀ z, z = x <<< (y.toInt64 &&& 63) → K (pc + 1) lv (.long z :: st) ws k n
  | .lshr => mp_sli st fun x y st => ∀ z, z = x >>> (y.toInt64 &&& 63) → K (pc + 1) lv (.long z :: st) ws k n
  | .i2l => mp_s1 st fun x st => ∀ z, z = x.toInt64 → K (pc + 1) lv (.long z :: st) ws k n
  | .l2i => mp_sl1 st fun x st => ∀ z, z = x.toInt32 → K (pc + 1) lv (.int z :: st) ws k n
  | .i2b => mp_s1 st fun x st => ∀ z, z = x.toInt8.toInt32 → K (pc + 1) lv (.int z :: st) ws k n
  | .i2s => mp_s1 st fun x st => ∀ z, z = x.toInt16.toInt32 → K (pc + 1) lv (.int z :: st) ws k n
  | .lcmp => mp_sl2 st fun x y st => ∀ z, z = lg_cmp x y → K (pc + 1) lv (.int z :: st) ws k n
  | .dup => match st with | v :: r => v.category = 1 ∧ K (pc + 1) lv (v :: v :: r) ws k n | _ => False
  | .pop => match st with | v :: r => v.category = 1 ∧ K (pc + 1) lv r ws k n | _ => False
  | .dup2 => mp_sir st fun y a r => K (pc + 1) lv (.int y :: .ref a :: .int y :: .ref a :: r) ws k n
  | .getfield _ => match i.2.1 with
    | j :: q0 :: _ => (match t.1[j]? with
      | some x => mp_sr st fun a st => mp_wo ws q0 fun b ci fs => a = b ∧ ci = x.2.1 ∧ (match fs[x.2.2.1]? with | some v => K (pc + 3) lv (v :: st) ws k n | none => False)
      | none => False)
    | _ => False
  | .putfield _ => match i.2.1 with
    | j :: q0 :: _ => (match t.1[j]? with
      | some x => mp_svr st fun v a st => mp_wo ws q0 fun b ci fs => a = b ∧ ci = x.2.1 ∧ narrow x.2.2.2.2.2 v = v ∧ fits x.2.2.2.2.2 v = true ∧ x.2.2.1 < fs.length ∧ K (pc + 3) lv st (ws.set q0 (b, .inr (ci, fs.set x.2.2.1 v))) k n
      | none => False)
    | _ => False
  | .iaload => match i.2.1 with
    | q0 :: _ => mp_sir st fun j a st => mp_wi ws q0 fun b cA N f => a = b ∧ cA = E.2.2 0 ∧ vp_in j N ∧ ∀ z, z = f j.toNatClampNeg → K (pc + 1) lv (.int z :: st) ws k n
    | _ => False
  | .baload => match i.2.1 with
    | [q0] => mp_sir st fun j a st => mp_wi ws q0 fun b cA N f => a = b ∧ cA = E.2.2 1 ∧ vp_in j N ∧ ∀ z, z = f j.toNatClampNeg → K (pc + 1) lv (.int z :: st) ws k n
    | [q0, _] => mp_sir st fun j a st => mp_wi ws q0 fun b cA N f => a = b ∧ cA = E.2.2 3 ∧ vp_in j N ∧ ∀ z, z = f j.toNatClampNeg → K (pc + 1) lv (.int z :: st) ws k n
    | _ => False
  | .laload => match i.2.1 with
    | q0 :: _ => mp_sir st fun j a st => mp_wl ws q0 fun b cA N f => a = b ∧ cA = E.2.2 2 ∧ vp_in j N ∧ ∀ z, z = f j.toNatClampNeg → K (pc + 1) lv (.long z :: st) ws k n
    | _ => False
  | .aaload => match i.2.1 with
    | q0 :: _ => mp_sir st fun j a st => mp_wq ws q0 fun b cA N f => a = b ∧ cA = E.2.2 4 ∧ vp_in j N ∧ ∀ z, z = f j.toNatClampNeg → K (pc + 1) lv (va_rf z :: st) ws k n
    | _ => False
  | .iastore => match i.2.1 with
    | q0 :: _ => mp_siir st fun x j a st => mp_wi ws q0 fun b cA N f => a = b ∧ cA = E.2.2 0 ∧ vp_in j N ∧ ∀ g, g = upd f j.toNatClampNeg x → K (pc + 1) lv st (ws.set q0 (b, .inl (cA, N, .inl g))) k n
    | _ => False
  | .bastore => match i.2.1 with
    | [q0] => mp_siir st fun x j a st => mp_wi ws q0 fun b cA N f => a = b ∧ cA = E.2.2 1 ∧ vp_in j N ∧ ∀ g, g = upd f j.toNatClampNeg (vp_nar .byte x) → K (pc + 1) lv st (ws.set q0 (b, .inl (cA, N, .inl g))) k n
    | [q0, _] => mp_siir st fun x j a st => mp_wi ws q0 fun b cA N f => a = b ∧ cA = E.2.2 3 ∧ vp_in j N ∧ ∀ g, g = upd f j.toNatClampNeg (vp_nar .boolean x) → K (pc + 1) lv st (ws.set q0 (b, .inl (cA, N, .inl g))) k n
    | _ => False
  | .lastore => match i.2.1 with
    | q0 :: _ => mp_slir st fun x j a st => mp_wl ws q0 fun b cA N f => a = b ∧ cA = E.2.2 2 ∧ vp_in j N ∧ ∀ g, g = vp_updL f j.toNatClampNeg x → K (pc + 1) lv st (ws.set q0 (b, .inl (cA, N, .inr (.inl g)))) k n
    | _ => False
  | .arraylength => match i.2.1 with
    | [q0, t0] => mp_sr st fun a st => mp_wa ws q0 fun b cA x => a = b ∧ cA = E.2.2 t0 ∧ t0 < 5 ∧ ∀ z, z = Int32.ofNat x.1 → K (pc + 1) lv (.int z :: st) ws k n
    | _ => False
  | .newarray .int => match i.2.1 with
    | N :: _ => mp_s1 st fun x st => (0 ≤ x.toInt ∧ x.toInt = N) ∧ k + 1 ≤ rc ∧ n + N ≤ rs ∧ N ≤ 100000 ∧ ∀ q, K (pc + 2) lv (.ref q :: st) (ws ++ [(q, .inl (E.2.2 0, N, .inl (fun _ => 0)))]) (k + 1) (n + N)
    | _ => False
  | .newarray .byte => match i.2.1 with
    | N :: _ => mp_s1 st fun x st => (0 ≤ x.toInt ∧ x.toInt = N) ∧ k + 1 ≤ rc ∧ n + N ≤ rs ∧ N ≤ 100000 ∧ ∀ q, K (pc + 2) lv (.ref q :: st) (ws ++ [(q, .inl (E.2.2 1, N, .inl (fun _ => 0)))]) (k + 1) (n + N)
    | _ => False
  | .newarray .long => match i.2.1 with
    | N :: _ => mp_s1 st fun x st => (0 ≤ x.toInt ∧ x.toInt = N) ∧ k + 1 ≤ rc ∧ n + N ≤ rs ∧ N ≤ 100000 ∧ ∀ q, K (pc + 2) lv (.ref q :: st) (ws ++ [(q, .inl (E.2.2 2, N, .inr (.inl (fun _ => 0))))]) (k + 1) (n + N)
    | _ => False
  | .newarray .boolean => match i.2.1 with
    | N :: _ => mp_s1 st fun x st => (0 ≤ x.toInt ∧ x.toInt = N) ∧ k + 1 ≤ rc ∧ n + N ≤ rs ∧ N ≤ 100000 ∧ ∀ q, K (pc + 2) lv (.ref q :: st) (ws ++ [(q, .inl (E.2.2 3, N, .inl (fun _ => 0)))]) (k + 1) (n + N)
    | _ => False
  | .goto _ => K (i.2.1.headD 0) lv st ws k n
  | .ifCond c _ => mp_s1 st fun x st => mp_c0 c x (mp_W E X nL (i.2.1.headD 0) lv st ws k n) (mp_W E X nL (pc + 3) lv st ws k n)
  | .if_icmp c _ => mp_s2 st fun x y st => mp_cz c x y (mp_W E X nL (i.2.1.headD 0) lv st ws k n) (mp_W E X nL (pc + 3) lv st ws k n)
  | _ => False
def mp_wp (E : mp_E) (X : mp_X) (nL : Nat) (t : mp_T) (rc rs : Nat) : List mp_I → mp_K
  | [] => fun pc lv st ws k n => mp_W E X nL pc lv st ws k n
  | i :: r => fun pc lv st ws k n => mp_op E X nL t rc rs i pc lv st ws k n (mp_wp E X nL t rc rs r)
