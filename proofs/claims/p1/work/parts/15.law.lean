-- the law's own frame: the script, its end
def mp_insB : List Nat → List vw_C → Bool
  | _, [] => true
  | j :: js, q :: r => mp_gK j (.instantiable q.1 q.2.2) && mp_insB js r
  | [], _ :: _ => false
theorem mp_ins_ok : ∀ {js : List Nat} {l : List vw_C}, mp_insB js l = true → ∀ q ∈ l, (Jvm.Cond.instantiable q.1 q.2.2) ∈ mp_UT
  | _, [], _, q, hq => absurd hq List.not_mem_nil
  | [], _ :: _, h, _, _ => absurd h (by simp [mp_insB])
  | j :: js, x :: r, h, q, hq => by
    simp only [mp_insB, Bool.and_eq_true] at h
    rcases List.mem_cons.mp hq with rfl | hq
    · exact mp_gm h.1
    · exact mp_ins_ok h.2 q hq
def mp_Lw (E : mp_E) (X : mp_X) (b L : Nat) (xs : Nat → Int32) : Prop :=
  mp_F E X (RL, code, 4, (2048, 600000, 7302250, 84000), ret, false) ∧ va_X b L xs X.2.1.1 X.2.1.1.heap ∧ b < X.2.1.1.heap.size ∧ ¬ X.2.2.2.1 b ∧
  ∀ (pc : Nat) (lv : List (Nat × Value)) (ws : va_W) (k n : Nat), k ≤ 600000 → n ≤ 7302250 → decode code pc = .ok (.ireturn, 1) → mp_W E X 4 pc lv [.int 1] ws k n
section MPL
variable {E : mp_E} {X : mp_X} {b L : Nat} {xs : Nat → Int32} {pc : Nat} {lv : List (Nat × Value)} {rest : List Value} {ws : va_W} {k n : Nat}
theorem mp_lsld (hL : mp_Lw E X b L xs) {i : Int32} (j : Nat) (hi : i.toNatClampNeg = j) (h0 : 0 ≤ i.toInt) (h1 : i.toInt < L) (hdg : decode code pc = .ok (.iaload, 1)) (kk : mp_W E X 4 (pc + 1) lv (.int (xs j) :: rest) ws k n) : mp_W E X 4 pc lv (.int i :: .ref b :: rest) ws k n := by
  intro H locs ls hP hD hS hl
  obtain ⟨hF, hX, hb, hA, -⟩ := hL
  subst hi
  exact va_sld hF.1 hF.2.1 hX hb hA hS (vp_in_iff.mpr ⟨h0, h1⟩) hdg (kk H locs ls hP hD hS hl)
theorem mp_lslen (hL : mp_Lw E X b L xs) {z : Int32} (hz : Int32.ofNat L = z) (hdg : decode code pc = .ok (.arraylength, 1)) (kk : mp_W E X 4 (pc + 1) lv (.int z :: rest) ws k n) : mp_W E X 4 pc lv (.ref b :: rest) ws k n := by
  intro H locs ls hP hD hS hl
  obtain ⟨hF, hX, hb, hA, -⟩ := hL
  subst hz
  exact va_slen hF.1 hF.2.1 hX hb hA hS hdg (kk H locs ls hP hD hS hl)
end MPL

set_option maxRecDepth 100000 in
theorem mp_ins : ∀ q ∈ vwCl, (Jvm.Cond.instantiable q.1 q.2.2) ∈ mp_UT := mp_ins_ok (js := [1185, 1230, 2011, 1030, 2053, 2128, 2094, 1036, 2110, 1022, 6006]) (by decide +kernel)

def mp_w0 (E : mp_E) (q1 q2 : Nat) (bb mm : Nat → Nat) (vs ln wd : Nat → Int32) : va_W := [(q1, .inr (9, [.ref (bb 1), .ref (bb 16), .ref (bb 36), .ref (bb 37), .ref (bb 40), .ref (bb 46), .ref (bb 49), .ref (bb 52), .ref (bb 54)])), ((bb 1), .inr (3, [.ref (bb 2), .int 0, .ref (bb 3), .int 0, .int (-1), .int 0, .int 0, .int 0, .int 0, .int 0])), ((bb 2), .inl (E.2.2 1, 1600, .inl (fun _ => 0))), ((bb 3), .inr (7, [.int 0, .int 0, .int 0, .int 0, .int 0, .int 0, .ref (bb 4), .ref (bb 5), .ref (bb 6), .ref (bb 7), .ref (bb 8), .ref (bb 9), .ref (bb 10), .ref (bb 11), .ref (bb 12), .ref (bb 13), .ref (bb 14), .ref (bb 15)])), ((bb 4), .inl (E.2.2 0, 36, .inl (fun _ => 0))), ((bb 5), .inl (E.2.2 2, 12, .inr (.inl (fun _ => 0)))), ((bb 6), .inl (E.2.2 0, 6, .inl (fun _ => 0))), ((bb 7), .inl (E.2.2 0, 6, .inl (fun _ => 0))), ((bb 8), .inl (E.2.2 0, 6, .inl (fun _ => 0))), ((bb 9), .inl (E.2.2 0, 10, .inl (fun _ => 0))), ((bb 10), .inl (E.2.2 0, 10, .inl (fun _ => 0))), ((bb 11), .inl (E.2.2 0, 10, .inl (fun _ => 0))), ((bb 12), .inl (E.2.2 0, 10, .inl (fun _ => 0))), ((bb 13), .inl (E.2.2 0, 10, .inl (fun _ => 0))), ((bb 14), .inl (E.2.2 0, 10, .inl (fun _ => 0))), ((bb 15), .inl (E.2.2 0, 60, .inl (fun _ => 0))), ((bb 16), .inr (0, [.ref (bb 17), .int 0, .ref (bb 30), .ref (bb 31), .ref (bb 32), .ref (bb 33), .ref (bb 34), .ref (bb 35)])), ((bb 17), .inr (7, [.int 0, .int 0, .int 0, .int 0, .int 0, .int 0, .ref (bb 18), .ref (bb 19), .ref (bb 20), .ref (bb 21), .ref (bb 22), .ref (bb 23), .ref (bb 24), .ref (bb 25), .ref (bb 26), .ref (bb 27), .ref (bb 28), .ref (bb 29)])), ((bb 18), .inl (E.2.2 0, 36, .inl (fun _ => 0))), ((bb 19), .inl (E.2.2 2, 12, .inr (.inl (fun _ => 0)))), ((bb 20), .inl (E.2.2 0, 6, .inl (fun _ => 0))), ((bb 21), .inl (E.2.2 0, 6, .inl (fun _ => 0))), ((bb 22), .inl (E.2.2 0, 6, .inl (fun _ => 0))), ((bb 23), .inl (E.2.2 0, 10, .inl (fun _ => 0))), ((bb 24), .inl (E.2.2 0, 10, .inl (fun _ => 0))), ((bb 25), .inl (E.2.2 0, 10, .inl (fun _ => 0))), ((bb 26), .inl (E.2.2 0, 10, .inl (fun _ => 0))), ((bb 27), .inl (E.2.2 0, 10, .inl (fun _ => 0))), ((bb 28), .inl (E.2.2 0, 10, .inl (fun _ => 0))), ((bb 29), .inl (E.2.2 0, 60, .inl (fun _ => 0))), ((bb 30), .inl (E.2.2 0, 6, .inl (fun _ => 0))), ((bb 31), .inl (E.2.2 0, 6, .inl (fun _ => 0))), ((bb 32), .inl (E.2.2 0, 6, .inl (fun _ => 0))), ((bb 33), .inl (E.2.2 2, 20, .inr (.inl (fun _ => 0)))), ((bb 34), .inl (E.2.2 0, 10, .inl (fun _ => 0))), ((bb 35), .inl (E.2.2 0, 10, .inl (fun _ => 0))), ((bb 36), .inl (E.2.2 4, 3, .inr (.inr (.inr (.inr (fun _ => none)))))), ((bb 37), .inr (1, [.ref (bb 38), .int 0, .int 0, .ref (bb 39)])), ((bb 38), .inl (E.2.2 0, 36, .inl (fun _ => 0))), ((bb 39), .inl (E.2.2 0, 3, .inl (fun _ => 0))), ((bb 40), .inr (2, [.int 0, .int 0, .int 0, .int 0, .ref (bb 41), .ref (bb 42), .ref (bb 43), .ref (bb 44), .ref (bb 45), .int 0, .int 0])), ((bb 41), .inl (E.2.2 0, 432, .inl (fun _ => 0))), ((bb 42), .inl (E.2.2 0, 432, .inl (fun _ => 0))), ((bb 43), .inl (E.2.2 0, 72, .inl (fun _ => 0))), ((bb 44), .inl (E.2.2 0, 78, .inl (fun _ => 0))), ((bb 45), .inl (E.2.2 2, 78, .inr (.inl (fun _ => 0)))), ((bb 46), .inr (4, [.int 0, .int 0, .int 0, .ref (bb 47), .int 0, .int 0, .int 0, .int 0, .int 0, .ref (bb 48)])), ((bb 47), .inl (E.2.2 0, 11, .inl (fun _ => 0))), ((bb 48), .inl (E.2.2 0, 132, .inl (fun _ => 0))), ((bb 49), .inr (6, [.int 0, .ref (bb 50), .ref (bb 51)])), ((bb 50), .inl (E.2.2 0, 8, .inl (fun _ => 0))), ((bb 51), .inl (E.2.2 0, 100, .inl vs)), ((bb 52), .inr (8, [.ref (bb 53), .int 0, .int 0])), ((bb 53), .inl (E.2.2 0, 10, .inl (fun _ => 0))), ((bb 54), .inr (5, [.ref (bb 55), .ref (bb 56), .ref (bb 57)])), ((bb 55), .inl (E.2.2 2, 240, .inr (.inl (fun _ => 0)))), ((bb 56), .inl (E.2.2 0, 4, .inl (fun _ => 0))), ((bb 57), .inl (E.2.2 0, 4, .inl ln)), (q2, .inr (10, [.int 0, .ref (mm 1), .ref (mm 2), .ref (mm 3), .ref (mm 4), .ref (mm 5), .int 0, .int 0, .int 0, .int 0, .int 0, .long 0, .int 0, .int 0, .int 0, .int (-1), .ref (mm 6), .ref (mm 7), .ref (mm 8), .ref (mm 9), .ref (mm 10), .ref (mm 11), .ref (mm 12), .ref (mm 13), .int 0, .ref (mm 14), .ref (mm 15), .ref (mm 16), .ref (mm 17), .int 0, .int 0, .int 0, .ref (mm 18), .ref (mm 19), .int 0, .int 0, .ref (mm 20), .ref (mm 21), .ref (mm 22), .int 0, .int 0, .int 0, .int 0, .ref (mm 23), .ref (mm 24), .ref (mm 25), .int 0])), ((mm 1), .inl (E.2.2 0, 4, .inl wd)), ((mm 2), .inl (E.2.2 0, 4, .inl (fun _ => 0))), ((mm 3), .inl (E.2.2 2, 240, .inr (.inl (fun _ => 0)))), ((mm 4), .inl (E.2.2 2, 60, .inr (.inl (fun _ => 0)))), ((mm 5), .inl (E.2.2 1, 1600, .inl (fun _ => 0))), ((mm 6), .inl (E.2.2 0, 5, .inl (fun _ => 0))), ((mm 7), .inl (E.2.2 0, 25, .inl (fun _ => 0))), ((mm 8), .inl (E.2.2 0, 180, .inl (fun _ => 0))), ((mm 9), .inl (E.2.2 3, 3000, .inl (fun _ => 0))), ((mm 10), .inl (E.2.2 0, 90, .inl (fun _ => 0))), ((mm 11), .inl (E.2.2 0, 300, .inl (fun _ => 0))), ((mm 12), .inl (E.2.2 0, 300, .inl (fun _ => 0))), ((mm 13), .inl (E.2.2 3, 3, .inl (fun _ => 0))), ((mm 14), .inl (E.2.2 0, 6, .inl (fun _ => 0))), ((mm 15), .inl (E.2.2 0, 6, .inl (fun _ => 0))), ((mm 16), .inl (E.2.2 0, 6, .inl (fun _ => 0))), ((mm 17), .inl (E.2.2 3, 1500, .inl (fun _ => 0))), ((mm 18), .inl (E.2.2 0, 78, .inl (fun _ => 0))), ((mm 19), .inl (E.2.2 2, 78, .inr (.inl (fun _ => 0)))), ((mm 20), .inl (E.2.2 0, 6, .inl (fun _ => 0))), ((mm 21), .inl (E.2.2 0, 6, .inl (fun _ => 0))), ((mm 22), .inl (E.2.2 0, 3, .inl (fun _ => 0))), ((mm 23), .inl (E.2.2 0, 12, .inl (fun _ => 0))), ((mm 24), .inl (E.2.2 0, 12, .inl (fun _ => 0))), ((mm 25), .inl (E.2.2 0, 100, .inl (fun _ => 0)))]

set_option maxHeartbeats 4000000 in
set_option maxRecDepth 100000 in
theorem mp_lw_next {E : mp_E} {X : mp_X} {b : Nat} {xs : Nat → Int32} (hL : mp_Lw E X b 6 xs) {k n : Nat} (hk : k ≤ 600000) (hn : n ≤ 7302250) : mp_W E X 4 2219 [(0, .ref b), (3, .int 0)] [] [] k n := by
  have hF : mp_F E X (RL, code, 4, (2048, 600000, 7302250, 84000), ret, false) := hL.1
  show mp_W E X 4 2219 [(0, .ref b), (3, .int 0)] [] [] k n
  refine mp_run hF mp_tabL_ok [mp_c (.iinc 3 6) 6, mp_h (.goto (-2204)) [18], mp_i (.iload_n 3), mp_i (.aload_n 0)] (by decide +kernel) ?_
  intro z1 h2
  obtain rfl : z1 = 6 := h2.trans (by decide)
  show mp_W E X 4 20 [(3, .int 6), (0, .ref b)] [.ref b, .int 6] [] k n
  refine mp_lslen hL (z := 6) (by decide) (by decide +kernel) ?_
  show mp_W E X 4 21 [(3, .int 6), (0, .ref b)] [.int 6, .int 6] [] k n
  refine mp_run hF mp_tabL_ok [mp_c (.bipush 6) 6, mp_i .isub, mp_h (.if_icmp .gt 2201) [2225]] (by decide +kernel) ?_
  intro z3 h4
  obtain rfl : z3 = 0 := h4.trans (by decide)
  refine And.intro (fun _ => ?_) (fun c5 => absurd c5 (by decide))
  show mp_W E X 4 2225 [(3, .int 6), (0, .ref b)] [] [] k n
  refine mp_run hF mp_tabL_ok [mp_c (.iconst 1) 1] (by decide +kernel) ?_
  show mp_W E X 4 2226 [(3, .int 6), (0, .ref b)] [.int 1] [] k n
  exact hL.2.2.2.2 _ _ _ _ _ hk hn (by decide +kernel)

def mp_loffs : Array Int := #[255, 318, 341, 354, 377, 410, 443, 476, 509, 542, 575, 608, 651, 694, 717, 740, 763, 786, 799, 822, 845, 878, 901, 914, 927, 940, 963, 976, 999, 1032, 1075, 1108, 1141, 1175, 1218, 1261, 1294, 1307, 1330, 1363, 1416, 1449, 1492, 1525, 1558, 1591, 1634, 1657, 1680, 1723, 1766, 1819, 1862, 1905, 1938, 1961, 1984, 2007, 2050, 2123]
