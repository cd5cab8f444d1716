set_option maxHeartbeats 4000000 in
set_option maxRecDepth 100000 in
theorem aX9_turn_150 (E : mp_E) (a0 a1 a2 a3 a4 a5 a6 a7 a8 a9 a10 a11 a12 : Nat) (f0 : Nat → Int32) (x0 : Int32) (p0 : ∀ j, j < 4 → f0 j = (-1)) : mp_Ct E yX9_turn cX9_turn 3 (some FieldType.int) 2 0 0 42 [.ref a0, .int x0] [(a0, .inr (9, [.ref a3, .ref a4, .ref a5, .ref a6, .ref a7, .ref a8, .ref a9, .ref a10, .ref a1])), (a1, .inr (5, [.ref a11, .ref a12, .ref a2])), (a2, .inl (E.2.2 0, 4, .inl f0))] (fun v w' => (v = some (.int (-2)) ∧ x0.toInt < 0 ∧ w' = []) ∨ (v = some (.int (-2)) ∧ 0 ≤ x0.toInt ∧ 4 ≤ x0.toInt ∧ w' = []) ∨ (v = some (.int (-6)) ∧ 0 ≤ x0.toInt ∧ x0.toInt < 4 ∧ w' = [])) := by
  refine mp_met false (by decide) (by decide) (Nat.le_of_ble_eq_true rfl) (fun X hF hQ => ?_)
  have hF : mp_F E X (RX9, cX9_turn, 3, (2, 0, 0, 42), (some FieldType.int), false) := hF
  show mp_W E X 3 0 [(0, .ref a0), (1, .int x0)] [] [(a0, .inr (9, [.ref a3, .ref a4, .ref a5, .ref a6, .ref a7, .ref a8, .ref a9, .ref a10, .ref a1])), (a1, .inr (5, [.ref a11, .ref a12, .ref a2])), (a2, .inl (E.2.2 0, 4, .inl f0))] 0 0
  refine mp_run hF mp_tabX9_ok [mp_i (.aload_n 0), mp_i (.iload_n 1)] (by decide +kernel) ?_
  show mp_W E X 3 2 [(0, .ref a0), (1, .int x0)] [.int x0, .ref a0] [(a0, .inr (9, [.ref a3, .ref a4, .ref a5, .ref a6, .ref a7, .ref a8, .ref a9, .ref a10, .ref a1])), (a1, .inr (5, [.ref a11, .ref a12, .ref a2])), (a2, .inl (E.2.2 0, 4, .inl f0))] 0 0
  refine mp_callV hF (As := [.int x0]) (rest := []) (wr := []) (aX9_putInThreat_146 E a0 a1 a2 a3 a4 a5 a6 a7 a8 a9 a10 a11 a12 f0 x0 p0) mp_lkX9_307 0 rfl [0, 1, 2] [] rfl rfl rfl rfl rfl ⟨(Nat.le_of_ble_eq_true rfl), (Nat.le_of_ble_eq_true rfl), (Nat.le_of_ble_eq_true rfl), (Nat.le_of_ble_eq_true rfl)⟩ (Nat.le_of_ble_eq_true rfl) (by decide +kernel) (fun v1 w2 h3 => ?_)
  rcases h3 with ⟨rfl, c4, rfl⟩ | ⟨rfl, c5, c6, rfl⟩ | ⟨rfl, c7, c8, rfl⟩
  · skip
    have c4 : x0.toInt < 0 := c4
    show mp_W E X 3 5 [(0, .ref a0), (1, .int x0)] [.int (-2)] [(a0, .inr (9, [.ref a3, .ref a4, .ref a5, .ref a6, .ref a7, .ref a8, .ref a9, .ref a10, .ref a1])), (a1, .inr (5, [.ref a11, .ref a12, .ref a2])), (a2, .inl (E.2.2 0, 4, .inl f0))] 0 0
    refine mp_run hF mp_tabX9_ok [mp_i (.istore_n 2), mp_i (.iload_n 2), mp_h (.ifCond .eq 7) [14]] (by decide +kernel) ?_
    refine And.intro (fun c9 => absurd c9 (by decide)) (fun _ => ?_)
    show mp_W E X 3 10 [(2, .int (-2)), (0, .ref a0), (1, .int x0)] [] [(a0, .inr (9, [.ref a3, .ref a4, .ref a5, .ref a6, .ref a7, .ref a8, .ref a9, .ref a10, .ref a1])), (a1, .inr (5, [.ref a11, .ref a12, .ref a2])), (a2, .inl (E.2.2 0, 4, .inl f0))] 0 0
    refine mp_run hF mp_tabX9_ok [mp_i (.iload_n 2), mp_h (.goto 10) [21]] (by decide +kernel) ?_
    show mp_W E X 3 21 [(2, .int (-2)), (0, .ref a0), (1, .int x0)] [.int (-2)] [(a0, .inr (9, [.ref a3, .ref a4, .ref a5, .ref a6, .ref a7, .ref a8, .ref a9, .ref a10, .ref a1])), (a1, .inr (5, [.ref a11, .ref a12, .ref a2])), (a2, .inl (E.2.2 0, 4, .inl f0))] 0 0
    exact mp_iret hF hQ rfl rfl (Nat.le_of_ble_eq_true rfl) (Nat.le_of_ble_eq_true rfl) [] (w' := []) rfl rfl (Or.inl ⟨rfl, (by first | omega | decide), rfl⟩) (by decide +kernel)
  · skip
    have c5 : 0 ≤ x0.toInt := c5
    have c6 : 4 ≤ x0.toInt := c6
    show mp_W E X 3 5 [(0, .ref a0), (1, .int x0)] [.int (-2)] [(a0, .inr (9, [.ref a3, .ref a4, .ref a5, .ref a6, .ref a7, .ref a8, .ref a9, .ref a10, .ref a1])), (a1, .inr (5, [.ref a11, .ref a12, .ref a2])), (a2, .inl (E.2.2 0, 4, .inl f0))] 0 0
    refine mp_run hF mp_tabX9_ok [mp_i (.istore_n 2), mp_i (.iload_n 2), mp_h (.ifCond .eq 7) [14]] (by decide +kernel) ?_
    refine And.intro (fun c10 => absurd c10 (by decide)) (fun _ => ?_)
    show mp_W E X 3 10 [(2, .int (-2)), (0, .ref a0), (1, .int x0)] [] [(a0, .inr (9, [.ref a3, .ref a4, .ref a5, .ref a6, .ref a7, .ref a8, .ref a9, .ref a10, .ref a1])), (a1, .inr (5, [.ref a11, .ref a12, .ref a2])), (a2, .inl (E.2.2 0, 4, .inl f0))] 0 0
    refine mp_run hF mp_tabX9_ok [mp_i (.iload_n 2), mp_h (.goto 10) [21]] (by decide +kernel) ?_
    show mp_W E X 3 21 [(2, .int (-2)), (0, .ref a0), (1, .int x0)] [.int (-2)] [(a0, .inr (9, [.ref a3, .ref a4, .ref a5, .ref a6, .ref a7, .ref a8, .ref a9, .ref a10, .ref a1])), (a1, .inr (5, [.ref a11, .ref a12, .ref a2])), (a2, .inl (E.2.2 0, 4, .inl f0))] 0 0
    exact mp_iret hF hQ rfl rfl (Nat.le_of_ble_eq_true rfl) (Nat.le_of_ble_eq_true rfl) [] (w' := []) rfl rfl (Or.inr (Or.inl ⟨rfl, (by first | omega | decide), (by first | omega | decide), rfl⟩)) (by decide +kernel)
  · skip
    have c7 : 0 ≤ x0.toInt := c7
    have c8 : x0.toInt < 4 := c8
    show mp_W E X 3 5 [(0, .ref a0), (1, .int x0)] [.int (-6)] [(a0, .inr (9, [.ref a3, .ref a4, .ref a5, .ref a6, .ref a7, .ref a8, .ref a9, .ref a10, .ref a1])), (a1, .inr (5, [.ref a11, .ref a12, .ref a2])), (a2, .inl (E.2.2 0, 4, .inl f0))] 0 0
    refine mp_run hF mp_tabX9_ok [mp_i (.istore_n 2), mp_i (.iload_n 2), mp_h (.ifCond .eq 7) [14]] (by decide +kernel) ?_
    refine And.intro (fun c11 => absurd c11 (by decide)) (fun _ => ?_)
    show mp_W E X 3 10 [(2, .int (-6)), (0, .ref a0), (1, .int x0)] [] [(a0, .inr (9, [.ref a3, .ref a4, .ref a5, .ref a6, .ref a7, .ref a8, .ref a9, .ref a10, .ref a1])), (a1, .inr (5, [.ref a11, .ref a12, .ref a2])), (a2, .inl (E.2.2 0, 4, .inl f0))] 0 0
    refine mp_run hF mp_tabX9_ok [mp_i (.iload_n 2), mp_h (.goto 10) [21]] (by decide +kernel) ?_
    show mp_W E X 3 21 [(2, .int (-6)), (0, .ref a0), (1, .int x0)] [.int (-6)] [(a0, .inr (9, [.ref a3, .ref a4, .ref a5, .ref a6, .ref a7, .ref a8, .ref a9, .ref a10, .ref a1])), (a1, .inr (5, [.ref a11, .ref a12, .ref a2])), (a2, .inl (E.2.2 0, 4, .inl f0))] 0 0
    exact mp_iret hF hQ rfl rfl (Nat.le_of_ble_eq_true rfl) (Nat.le_of_ble_eq_true rfl) [] (w' := []) rfl rfl (Or.inr (Or.inr ⟨rfl, (by first | omega | decide), (by first | omega | decide), rfl⟩)) (by decide +kernel)
set_option maxHeartbeats 4000000 in
set_option maxRecDepth 100000 in
theorem aX10_turn_151 (E : mp_E) (a0 a1 a2 a3 a4 a5 a6 a7 a8 a9 a10 a11 a12 a13 a14 a15 a16 a17 a18 a19 a20 a21 a22 a23 a24 a25 : Nat) (f0 : Nat → Int32) (x0 : Int32) (p0 : ∀ j, j < 4 → f0 j = (-1)) : mp_Ct E yX10_turn cX10_turn 7 (some FieldType.int) 3 0 0 67 [.ref a0, .int x0] [(a0, .inr (10, [.int 0, .ref a1, .ref a2, .ref a3, .ref a4, .ref a5, .int 0, .int 0, .int 0, .int 0, .int 0, .long 0, .int 0, .int 0, .int 0, .int (-1), .ref a6, .ref a7, .ref a8, .ref a9, .ref a10, .ref a11, .ref a12, .ref a13, .int 0, .ref a14, .ref a15, .ref a16, .ref a17, .int 0, .int 0, .int 0, .ref a18, .ref a19, .int 0, .int 0, .ref a20, .ref a21, .ref a22, .int 0, .int 0, .int 0, .int 0, .ref a23, .ref a24, .ref a25, .int 0])), (a1, .inl (E.2.2 0, 4, .inl f0))] (fun v w' => (v = some (.int (-2)) ∧ x0.toInt < 0 ∧ w' = []) ∨ (v = some (.int (-2)) ∧ 0 ≤ x0.toInt ∧ 3 < x0.toInt ∧ w' = []) ∨ (v = some (.int (-6)) ∧ 0 ≤ x0.toInt ∧ x0.toInt ≤ 3 ∧ w' = [])) := by
  refine mp_met false (by decide) (by decide) (Nat.le_of_ble_eq_true rfl) (fun X hF hQ => ?_)
  have hF : mp_F E X (RX10, cX10_turn, 7, (3, 0, 0, 67), (some FieldType.int), false) := hF
  show mp_W E X 7 0 [(0, .ref a0), (1, .int x0)] [] [(a0, .inr (10, [.int 0, .ref a1, .ref a2, .ref a3, .ref a4, .ref a5, .int 0, .int 0, .int 0, .int 0, .int 0, .long 0, .int 0, .int 0, .int 0, .int (-1), .ref a6, .ref a7, .ref a8, .ref a9, .ref a10, .ref a11, .ref a12, .ref a13, .int 0, .ref a14, .ref a15, .ref a16, .ref a17, .int 0, .int 0, .int 0, .ref a18, .ref a19, .int 0, .int 0, .ref a20, .ref a21, .ref a22, .int 0, .int 0, .int 0, .int 0, .ref a23, .ref a24, .ref a25, .int 0])), (a1, .inl (E.2.2 0, 4, .inl f0))] 0 0
  refine mp_run hF mp_tabX10_ok [mp_i (.aload_n 0), mp_c (.iconst 0) 0, mp_h (.putfield 92) [0, 0]] (by decide +kernel) ?_
  refine And.intro rfl (And.intro rfl (And.intro rfl (And.intro rfl (And.intro (Nat.le_of_ble_eq_true rfl) ?_))))
  show mp_W E X 7 5 [(0, .ref a0), (1, .int x0)] [] [(a0, .inr (10, [.int 0, .ref a1, .ref a2, .ref a3, .ref a4, .ref a5, .int 0, .int 0, .int 0, .int 0, .int 0, .long 0, .int 0, .int 0, .int 0, .int (-1), .ref a6, .ref a7, .ref a8, .ref a9, .ref a10, .ref a11, .ref a12, .ref a13, .int 0, .ref a14, .ref a15, .ref a16, .ref a17, .int 0, .int 0, .int 0, .ref a18, .ref a19, .int 0, .int 0, .ref a20, .ref a21, .ref a22, .int 0, .int 0, .int 0, .int 0, .ref a23, .ref a24, .ref a25, .int 0])), (a1, .inl (E.2.2 0, 4, .inl f0))] 0 0
  refine mp_run hF mp_tabX10_ok [mp_i (.aload_n 0), mp_i (.iload_n 1)] (by decide +kernel) ?_
  show mp_W E X 7 7 [(0, .ref a0), (1, .int x0)] [.int x0, .ref a0] [(a0, .inr (10, [.int 0, .ref a1, .ref a2, .ref a3, .ref a4, .ref a5, .int 0, .int 0, .int 0, .int 0, .int 0, .long 0, .int 0, .int 0, .int 0, .int (-1), .ref a6, .ref a7, .ref a8, .ref a9, .ref a10, .ref a11, .ref a12, .ref a13, .int 0, .ref a14, .ref a15, .ref a16, .ref a17, .int 0, .int 0, .int 0, .ref a18, .ref a19, .int 0, .int 0, .ref a20, .ref a21, .ref a22, .int 0, .int 0, .int 0, .int 0, .ref a23, .ref a24, .ref a25, .int 0])), (a1, .inl (E.2.2 0, 4, .inl f0))] 0 0
  refine mp_callV hF (As := [.int x0]) (rest := []) (wr := []) (aX10_whyNoThreat_148 E a0 a1 a2 a3 a4 a5 a6 a7 a8 a9 a10 a11 a12 a13 a14 a15 a16 a17 a18 a19 a20 a21 a22 a23 a24 a25 f0 x0 p0) mp_lkX10_444 0 rfl [0, 1] [] rfl rfl rfl rfl rfl ⟨(Nat.le_of_ble_eq_true rfl), (Nat.le_of_ble_eq_true rfl), (Nat.le_of_ble_eq_true rfl), (Nat.le_of_ble_eq_true rfl)⟩ (Nat.le_of_ble_eq_true rfl) (by decide +kernel) (fun v1 w2 h3 => ?_)
  rcases h3 with ⟨rfl, c4, rfl⟩ | ⟨rfl, c5, c6, rfl⟩ | ⟨rfl, c7, c8, rfl⟩
  · skip
    have c4 : x0.toInt < 0 := c4
    show mp_W E X 7 10 [(0, .ref a0), (1, .int x0)] [.int (-2)] [(a0, .inr (10, [.int 0, .ref a1, .ref a2, .ref a3, .ref a4, .ref a5, .int 0, .int 0, .int 0, .int 0, .int 0, .long 0, .int 0, .int 0, .int 0, .int (-1), .ref a6, .ref a7, .ref a8, .ref a9, .ref a10, .ref a11, .ref a12, .ref a13, .int 0, .ref a14, .ref a15, .ref a16, .ref a17, .int 0, .int 0, .int 0, .ref a18, .ref a19, .int 0, .int 0, .ref a20, .ref a21, .ref a22, .int 0, .int 0, .int 0, .int 0, .ref a23, .ref a24, .ref a25, .int 0])), (a1, .inl (E.2.2 0, 4, .inl f0))] 0 0
    refine mp_run hF mp_tabX10_ok [mp_i (.istore_n 2), mp_i (.iload_n 2), mp_h (.ifCond .eq 5) [17]] (by decide +kernel) ?_
    refine And.intro (fun c9 => absurd c9 (by decide)) (fun _ => ?_)
    show mp_W E X 7 15 [(2, .int (-2)), (0, .ref a0), (1, .int x0)] [] [(a0, .inr (10, [.int 0, .ref a1, .ref a2, .ref a3, .ref a4, .ref a5, .int 0, .int 0, .int 0, .int 0, .int 0, .long 0, .int 0, .int 0, .int 0, .int (-1), .ref a6, .ref a7, .ref a8, .ref a9, .ref a10, .ref a11, .ref a12, .ref a13, .int 0, .ref a14, .ref a15, .ref a16, .ref a17, .int 0, .int 0, .int 0, .ref a18, .ref a19, .int 0, .int 0, .ref a20, .ref a21, .ref a22, .int 0, .int 0, .int 0, .int 0, .ref a23, .ref a24, .ref a25, .int 0])), (a1, .inl (E.2.2 0, 4, .inl f0))] 0 0
    refine mp_run hF mp_tabX10_ok [mp_i (.iload_n 2)] (by decide +kernel) ?_
    show mp_W E X 7 16 [(2, .int (-2)), (0, .ref a0), (1, .int x0)] [.int (-2)] [(a0, .inr (10, [.int 0, .ref a1, .ref a2, .ref a3, .ref a4, .ref a5, .int 0, .int 0, .int 0, .int 0, .int 0, .long 0, .int 0, .int 0, .int 0, .int (-1), .ref a6, .ref a7, .ref a8, .ref a9, .ref a10, .ref a11, .ref a12, .ref a13, .int 0, .ref a14, .ref a15, .ref a16, .ref a17, .int 0, .int 0, .int 0, .ref a18, .ref a19, .int 0, .int 0, .ref a20, .ref a21, .ref a22, .int 0, .int 0, .int 0, .int 0, .ref a23, .ref a24, .ref a25, .int 0])), (a1, .inl (E.2.2 0, 4, .inl f0))] 0 0
    exact mp_iret hF hQ rfl rfl (Nat.le_of_ble_eq_true rfl) (Nat.le_of_ble_eq_true rfl) [] (w' := []) rfl rfl (Or.inl ⟨rfl, (by first | omega | decide), rfl⟩) (by decide +kernel)
  · skip
    have c5 : 0 ≤ x0.toInt := c5
    have c6 : 3 < x0.toInt := c6
    show mp_W E X 7 10 [(0, .ref a0), (1, .int x0)] [.int (-2)] [(a0, .inr (10, [.int 0, .ref a1, .ref a2, .ref a3, .ref a4, .ref a5, .int 0, .int 0, .int 0, .int 0, .int 0, .long 0, .int 0, .int 0, .int 0, .int (-1), .ref a6, .ref a7, .ref a8, .ref a9, .ref a10, .ref a11, .ref a12, .ref a13, .int 0, .ref a14, .ref a15, .ref a16, .ref a17, .int 0, .int 0, .int 0, .ref a18, .ref a19, .int 0, .int 0, .ref a20, .ref a21, .ref a22, .int 0, .int 0, .int 0, .int 0, .ref a23, .ref a24, .ref a25, .int 0])), (a1, .inl (E.2.2 0, 4, .inl f0))] 0 0
    refine mp_run hF mp_tabX10_ok [mp_i (.istore_n 2), mp_i (.iload_n 2), mp_h (.ifCond .eq 5) [17]] (by decide +kernel) ?_
    refine And.intro (fun c10 => absurd c10 (by decide)) (fun _ => ?_)
    show mp_W E X 7 15 [(2, .int (-2)), (0, .ref a0), (1, .int x0)] [] [(a0, .inr (10, [.int 0, .ref a1, .ref a2, .ref a3, .ref a4, .ref a5, .int 0, .int 0, .int 0, .int 0, .int 0, .long 0, .int 0, .int 0, .int 0, .int (-1), .ref a6, .ref a7, .ref a8, .ref a9, .ref a10, .ref a11, .ref a12, .ref a13, .int 0, .ref a14, .ref a15, .ref a16, .ref a17, .int 0, .int 0, .int 0, .ref a18, .ref a19, .int 0, .int 0, .ref a20, .ref a21, .ref a22, .int 0, .int 0, .int 0, .int 0, .ref a23, .ref a24, .ref a25, .int 0])), (a1, .inl (E.2.2 0, 4, .inl f0))] 0 0
    refine mp_run hF mp_tabX10_ok [mp_i (.iload_n 2)] (by decide +kernel) ?_
    show mp_W E X 7 16 [(2, .int (-2)), (0, .ref a0), (1, .int x0)] [.int (-2)] [(a0, .inr (10, [.int 0, .ref a1, .ref a2, .ref a3, .ref a4, .ref a5, .int 0, .int 0, .int 0, .int 0, .int 0, .long 0, .int 0, .int 0, .int 0, .int (-1), .ref a6, .ref a7, .ref a8, .ref a9, .ref a10, .ref a11, .ref a12, .ref a13, .int 0, .ref a14, .ref a15, .ref a16, .ref a17, .int 0, .int 0, .int 0, .ref a18, .ref a19, .int 0, .int 0, .ref a20, .ref a21, .ref a22, .int 0, .int 0, .int 0, .int 0, .ref a23, .ref a24, .ref a25, .int 0])), (a1, .inl (E.2.2 0, 4, .inl f0))] 0 0
    exact mp_iret hF hQ rfl rfl (Nat.le_of_ble_eq_true rfl) (Nat.le_of_ble_eq_true rfl) [] (w' := []) rfl rfl (Or.inr (Or.inl ⟨rfl, (by first | omega | decide), (by first | omega | decide), rfl⟩)) (by decide +kernel)
  · skip
    have c7 : 0 ≤ x0.toInt := c7
    have c8 : x0.toInt ≤ 3 := c8
    show mp_W E X 7 10 [(0, .ref a0), (1, .int x0)] [.int (-6)] [(a0, .inr (10, [.int 0, .ref a1, .ref a2, .ref a3, .ref a4, .ref a5, .int 0, .int 0, .int 0, .int 0, .int 0, .long 0, .int 0, .int 0, .int 0, .int (-1), .ref a6, .ref a7, .ref a8, .ref a9, .ref a10, .ref a11, .ref a12, .ref a13, .int 0, .ref a14, .ref a15, .ref a16, .ref a17, .int 0, .int 0, .int 0, .ref a18, .ref a19, .int 0, .int 0, .ref a20, .ref a21, .ref a22, .int 0, .int 0, .int 0, .int 0, .ref a23, .ref a24, .ref a25, .int 0])), (a1, .inl (E.2.2 0, 4, .inl f0))] 0 0
    refine mp_run hF mp_tabX10_ok [mp_i (.istore_n 2), mp_i (.iload_n 2), mp_h (.ifCond .eq 5) [17]] (by decide +kernel) ?_
    refine And.intro (fun c11 => absurd c11 (by decide)) (fun _ => ?_)
    show mp_W E X 7 15 [(2, .int (-6)), (0, .ref a0), (1, .int x0)] [] [(a0, .inr (10, [.int 0, .ref a1, .ref a2, .ref a3, .ref a4, .ref a5, .int 0, .int 0, .int 0, .int 0, .int 0, .long 0, .int 0, .int 0, .int 0, .int (-1), .ref a6, .ref a7, .ref a8, .ref a9, .ref a10, .ref a11, .ref a12, .ref a13, .int 0, .ref a14, .ref a15, .ref a16, .ref a17, .int 0, .int 0, .int 0, .ref a18, .ref a19, .int 0, .int 0, .ref a20, .ref a21, .ref a22, .int 0, .int 0, .int 0, .int 0, .ref a23, .ref a24, .ref a25, .int 0])), (a1, .inl (E.2.2 0, 4, .inl f0))] 0 0
    refine mp_run hF mp_tabX10_ok [mp_i (.iload_n 2)] (by decide +kernel) ?_
    show mp_W E X 7 16 [(2, .int (-6)), (0, .ref a0), (1, .int x0)] [.int (-6)] [(a0, .inr (10, [.int 0, .ref a1, .ref a2, .ref a3, .ref a4, .ref a5, .int 0, .int 0, .int 0, .int 0, .int 0, .long 0, .int 0, .int 0, .int 0, .int (-1), .ref a6, .ref a7, .ref a8, .ref a9, .ref a10, .ref a11, .ref a12, .ref a13, .int 0, .ref a14, .ref a15, .ref a16, .ref a17, .int 0, .int 0, .int 0, .ref a18, .ref a19, .int 0, .int 0, .ref a20, .ref a21, .ref a22, .int 0, .int 0, .int 0, .int 0, .ref a23, .ref a24, .ref a25, .int 0])), (a1, .inl (E.2.2 0, 4, .inl f0))] 0 0
    exact mp_iret hF hQ rfl rfl (Nat.le_of_ble_eq_true rfl) (Nat.le_of_ble_eq_true rfl) [] (w' := []) rfl rfl (Or.inr (Or.inr ⟨rfl, (by first | omega | decide), (by first | omega | decide), rfl⟩)) (by decide +kernel)
set_option maxHeartbeats 4000000 in
set_option maxRecDepth 100000 in
theorem aX9_canDraw_152 (E : mp_E) (a0 a1 a2 a3 a4 a5 a6 a7 a8 a9 a10 a11 a12 a13 a14 a15 a16 a17 a18 a19 a20 a21 a22 a23 a24 a25 a26 a27 a28 : Nat) (x0 : Int32) (x1 : Int32) (x2 : Int32) : mp_Ct E yX9_canDraw cX9_canDraw 4 (some FieldType.boolean) 1 0 0 21 [.ref a0, .int x0, .int x1, .int x2] [(a0, .inr (9, [.ref a3, .ref a1, .ref a4, .ref a5, .ref a6, .ref a7, .ref a8, .ref a9, .ref a10])), (a1, .inr (0, [.ref a2, .int 0, .ref a11, .ref a12, .ref a13, .ref a14, .ref a15, .ref a16])), (a2, .inr (7, [.int 0, .int 0, .int 0, .int 0, .int 0, .int 0, .ref a17, .ref a18, .ref a19, .ref a20, .ref a21, .ref a22, .ref a23, .ref a24, .ref a25, .ref a26, .ref a27, .ref a28]))] (fun v w' => v = some (.int 0) ∧ w' = [(a0, .inr (9, [.ref a3, .ref a1, .ref a4, .ref a5, .ref a6, .ref a7, .ref a8, .ref a9, .ref a10])), (a1, .inr (0, [.ref a2, .int 0, .ref a11, .ref a12, .ref a13, .ref a14, .ref a15, .ref a16])), (a2, .inr (7, [.int 0, .int 0, .int 0, .int 0, .int 0, .int 0, .ref a17, .ref a18, .ref a19, .ref a20, .ref a21, .ref a22, .ref a23, .ref a24, .ref a25, .ref a26, .ref a27, .ref a28]))]) := by
  refine mp_met false (by decide) (by decide) (Nat.le_of_ble_eq_true rfl) (fun X hF hQ => ?_)
  have hF : mp_F E X (RX9, cX9_canDraw, 4, (1, 0, 0, 21), (some FieldType.boolean), false) := hF
  show mp_W E X 4 0 [(0, .ref a0), (1, .int x0), (2, .int x1), (3, .int x2)] [] [(a0, .inr (9, [.ref a3, .ref a1, .ref a4, .ref a5, .ref a6, .ref a7, .ref a8, .ref a9, .ref a10])), (a1, .inr (0, [.ref a2, .int 0, .ref a11, .ref a12, .ref a13, .ref a14, .ref a15, .ref a16])), (a2, .inr (7, [.int 0, .int 0, .int 0, .int 0, .int 0, .int 0, .ref a17, .ref a18, .ref a19, .ref a20, .ref a21, .ref a22, .ref a23, .ref a24, .ref a25, .ref a26, .ref a27, .ref a28]))] 0 0
  refine mp_run hF mp_tabX9_ok [mp_i (.aload_n 0), mp_h (.getfield 19) [37, 0], mp_h (.getfield 83) [20, 1], mp_i (.iload_n 3)] (by decide +kernel) ?_
  refine And.intro rfl (And.intro rfl ?_)
  refine And.intro rfl (And.intro rfl ?_)
  show mp_W E X 4 8 [(0, .ref a0), (1, .int x0), (2, .int x1), (3, .int x2)] [.int x2, .ref a2] [(a0, .inr (9, [.ref a3, .ref a1, .ref a4, .ref a5, .ref a6, .ref a7, .ref a8, .ref a9, .ref a10])), (a1, .inr (0, [.ref a2, .int 0, .ref a11, .ref a12, .ref a13, .ref a14, .ref a15, .ref a16])), (a2, .inr (7, [.int 0, .int 0, .int 0, .int 0, .int 0, .int 0, .ref a17, .ref a18, .ref a19, .ref a20, .ref a21, .ref a22, .ref a23, .ref a24, .ref a25, .ref a26, .ref a27, .ref a28]))] 0 0
  refine mp_callV hF (As := [.int x2]) (rest := []) (wr := [(a0, .inr (9, [.ref a3, .ref a1, .ref a4, .ref a5, .ref a6, .ref a7, .ref a8, .ref a9, .ref a10])), (a1, .inr (0, [.ref a2, .int 0, .ref a11, .ref a12, .ref a13, .ref a14, .ref a15, .ref a16]))]) (aX7_isPromise_45 E a2 a17 a18 a19 a20 a21 a22 a23 a24 a25 a26 a27 a28 x2) mp_lkX9_120 2 rfl [2] [0, 1] rfl rfl rfl rfl rfl ⟨(Nat.le_of_ble_eq_true rfl), (Nat.le_of_ble_eq_true rfl), (Nat.le_of_ble_eq_true rfl), (Nat.le_of_ble_eq_true rfl)⟩ (Nat.le_of_ble_eq_true rfl) (by decide +kernel) (fun v1 w2 h3 => ?_)
  obtain ⟨rfl, rfl⟩ := h3
  show mp_W E X 4 11 [(0, .ref a0), (1, .int x0), (2, .int x1), (3, .int x2)] [.int 0] [(a0, .inr (9, [.ref a3, .ref a1, .ref a4, .ref a5, .ref a6, .ref a7, .ref a8, .ref a9, .ref a10])), (a1, .inr (0, [.ref a2, .int 0, .ref a11, .ref a12, .ref a13, .ref a14, .ref a15, .ref a16])), (a2, .inr (7, [.int 0, .int 0, .int 0, .int 0, .int 0, .int 0, .ref a17, .ref a18, .ref a19, .ref a20, .ref a21, .ref a22, .ref a23, .ref a24, .ref a25, .ref a26, .ref a27, .ref a28]))] 0 0
  refine mp_run hF mp_tabX9_ok [mp_h (.ifCond .eq 43) [54]] (by decide +kernel) ?_
  refine And.intro (fun _ => ?_) (fun c4 => absurd c4 (by decide))
  show mp_W E X 4 54 [(0, .ref a0), (1, .int x0), (2, .int x1), (3, .int x2)] [] [(a0, .inr (9, [.ref a3, .ref a1, .ref a4, .ref a5, .ref a6, .ref a7, .ref a8, .ref a9, .ref a10])), (a1, .inr (0, [.ref a2, .int 0, .ref a11, .ref a12, .ref a13, .ref a14, .ref a15, .ref a16])), (a2, .inr (7, [.int 0, .int 0, .int 0, .int 0, .int 0, .int 0, .ref a17, .ref a18, .ref a19, .ref a20, .ref a21, .ref a22, .ref a23, .ref a24, .ref a25, .ref a26, .ref a27, .ref a28]))] 0 0
  refine mp_run hF mp_tabX9_ok [mp_c (.iconst 0) 0] (by decide +kernel) ?_
  show mp_W E X 4 55 [(0, .ref a0), (1, .int x0), (2, .int x1), (3, .int x2)] [.int 0] [(a0, .inr (9, [.ref a3, .ref a1, .ref a4, .ref a5, .ref a6, .ref a7, .ref a8, .ref a9, .ref a10])), (a1, .inr (0, [.ref a2, .int 0, .ref a11, .ref a12, .ref a13, .ref a14, .ref a15, .ref a16])), (a2, .inr (7, [.int 0, .int 0, .int 0, .int 0, .int 0, .int 0, .ref a17, .ref a18, .ref a19, .ref a20, .ref a21, .ref a22, .ref a23, .ref a24, .ref a25, .ref a26, .ref a27, .ref a28]))] 0 0
  exact mp_iret hF hQ rfl (by decide) (Nat.le_of_ble_eq_true rfl) (Nat.le_of_ble_eq_true rfl) [0, 1, 2] (w' := [(a0, .inr (9, [.ref a3, .ref a1, .ref a4, .ref a5, .ref a6, .ref a7, .ref a8, .ref a9, .ref a10])), (a1, .inr (0, [.ref a2, .int 0, .ref a11, .ref a12, .ref a13, .ref a14, .ref a15, .ref a16])), (a2, .inr (7, [.int 0, .int 0, .int 0, .int 0, .int 0, .int 0, .ref a17, .ref a18, .ref a19, .ref a20, .ref a21, .ref a22, .ref a23, .ref a24, .ref a25, .ref a26, .ref a27, .ref a28]))]) rfl rfl ⟨rfl, rfl⟩ (by decide +kernel)
set_option maxHeartbeats 4000000 in
set_option maxRecDepth 100000 in
theorem aX9_drawn_153 (E : mp_E) (a0 a1 a2 a3 a4 a5 a6 a7 a8 a9 a10 a11 a12 a13 a14 a15 a16 a17 a18 a19 a20 a21 a22 a23 a24 a25 a26 a27 a28 : Nat) (x0 : Int32) (x1 : Int32) (x2 : Int32) : mp_Ct E yX9_drawn cX9_drawn 4 (some FieldType.int) 2 0 0 44 [.ref a0, .int x0, .int x1, .int x2] [(a0, .inr (9, [.ref a3, .ref a1, .ref a4, .ref a5, .ref a6, .ref a7, .ref a8, .ref a9, .ref a10])), (a1, .inr (0, [.ref a2, .int 0, .ref a11, .ref a12, .ref a13, .ref a14, .ref a15, .ref a16])), (a2, .inr (7, [.int 0, .int 0, .int 0, .int 0, .int 0, .int 0, .ref a17, .ref a18, .ref a19, .ref a20, .ref a21, .ref a22, .ref a23, .ref a24, .ref a25, .ref a26, .ref a27, .ref a28]))] (fun v w' => v = some (.int (-2)) ∧ w' = []) := by
  refine mp_met false (by decide) (by decide) (Nat.le_of_ble_eq_true rfl) (fun X hF hQ => ?_)
  have hF : mp_F E X (RX9, cX9_drawn, 4, (2, 0, 0, 44), (some FieldType.int), false) := hF
  show mp_W E X 4 0 [(0, .ref a0), (1, .int x0), (2, .int x1), (3, .int x2)] [] [(a0, .inr (9, [.ref a3, .ref a1, .ref a4, .ref a5, .ref a6, .ref a7, .ref a8, .ref a9, .ref a10])), (a1, .inr (0, [.ref a2, .int 0, .ref a11, .ref a12, .ref a13, .ref a14, .ref a15, .ref a16])), (a2, .inr (7, [.int 0, .int 0, .int 0, .int 0, .int 0, .int 0, .ref a17, .ref a18, .ref a19, .ref a20, .ref a21, .ref a22, .ref a23, .ref a24, .ref a25, .ref a26, .ref a27, .ref a28]))] 0 0
  refine mp_run hF mp_tabX9_ok [mp_i (.aload_n 0), mp_i (.iload_n 1), mp_i (.iload_n 2), mp_i (.iload_n 3)] (by decide +kernel) ?_
  show mp_W E X 4 4 [(0, .ref a0), (1, .int x0), (2, .int x1), (3, .int x2)] [.int x2, .int x1, .int x0, .ref a0] [(a0, .inr (9, [.ref a3, .ref a1, .ref a4, .ref a5, .ref a6, .ref a7, .ref a8, .ref a9, .ref a10])), (a1, .inr (0, [.ref a2, .int 0, .ref a11, .ref a12, .ref a13, .ref a14, .ref a15, .ref a16])), (a2, .inr (7, [.int 0, .int 0, .int 0, .int 0, .int 0, .int 0, .ref a17, .ref a18, .ref a19, .ref a20, .ref a21, .ref a22, .ref a23, .ref a24, .ref a25, .ref a26, .ref a27, .ref a28]))] 0 0
  refine mp_callV hF (As := [.int x0, .int x1, .int x2]) (rest := []) (wr := []) (aX9_canDraw_152 E a0 a1 a2 a3 a4 a5 a6 a7 a8 a9 a10 a11 a12 a13 a14 a15 a16 a17 a18 a19 a20 a21 a22 a23 a24 a25 a26 a27 a28 x0 x1 x2) mp_lkX9_316 0 rfl [0, 1, 2] [] rfl rfl rfl rfl rfl ⟨(Nat.le_of_ble_eq_true rfl), (Nat.le_of_ble_eq_true rfl), (Nat.le_of_ble_eq_true rfl), (Nat.le_of_ble_eq_true rfl)⟩ (Nat.le_of_ble_eq_true rfl) (by decide +kernel) (fun v1 w2 h3 => ?_)
  obtain ⟨rfl, rfl⟩ := h3
  show mp_W E X 4 7 [(0, .ref a0), (1, .int x0), (2, .int x1), (3, .int x2)] [.int 0] [(a0, .inr (9, [.ref a3, .ref a1, .ref a4, .ref a5, .ref a6, .ref a7, .ref a8, .ref a9, .ref a10])), (a1, .inr (0, [.ref a2, .int 0, .ref a11, .ref a12, .ref a13, .ref a14, .ref a15, .ref a16])), (a2, .inr (7, [.int 0, .int 0, .int 0, .int 0, .int 0, .int 0, .ref a17, .ref a18, .ref a19, .ref a20, .ref a21, .ref a22, .ref a23, .ref a24, .ref a25, .ref a26, .ref a27, .ref a28]))] 0 0
  refine mp_run hF mp_tabX9_ok [mp_h (.ifCond .ne 6) [13]] (by decide +kernel) ?_
  refine And.intro (fun c4 => absurd c4 (by decide)) (fun _ => ?_)
  show mp_W E X 4 10 [(0, .ref a0), (1, .int x0), (2, .int x1), (3, .int x2)] [] [(a0, .inr (9, [.ref a3, .ref a1, .ref a4, .ref a5, .ref a6, .ref a7, .ref a8, .ref a9, .ref a10])), (a1, .inr (0, [.ref a2, .int 0, .ref a11, .ref a12, .ref a13, .ref a14, .ref a15, .ref a16])), (a2, .inr (7, [.int 0, .int 0, .int 0, .int 0, .int 0, .int 0, .ref a17, .ref a18, .ref a19, .ref a20, .ref a21, .ref a22, .ref a23, .ref a24, .ref a25, .ref a26, .ref a27, .ref a28]))] 0 0
  refine mp_run hF mp_tabX9_ok [mp_c (.bipush (-2)) (-2)] (by decide +kernel) ?_
  show mp_W E X 4 12 [(0, .ref a0), (1, .int x0), (2, .int x1), (3, .int x2)] [.int (-2)] [(a0, .inr (9, [.ref a3, .ref a1, .ref a4, .ref a5, .ref a6, .ref a7, .ref a8, .ref a9, .ref a10])), (a1, .inr (0, [.ref a2, .int 0, .ref a11, .ref a12, .ref a13, .ref a14, .ref a15, .ref a16])), (a2, .inr (7, [.int 0, .int 0, .int 0, .int 0, .int 0, .int 0, .ref a17, .ref a18, .ref a19, .ref a20, .ref a21, .ref a22, .ref a23, .ref a24, .ref a25, .ref a26, .ref a27, .ref a28]))] 0 0
  exact mp_iret hF hQ rfl rfl (Nat.le_of_ble_eq_true rfl) (Nat.le_of_ble_eq_true rfl) [] (w' := []) rfl rfl ⟨rfl, rfl⟩ (by decide +kernel)
set_option maxHeartbeats 4000000 in
set_option maxRecDepth 100000 in
theorem aX10_in_154 (E : mp_E) (x0 : Int64) : mp_Ct E yX10_in cX10_in 6 (some FieldType.boolean) 0 0 0 0 [.long x0, .long 0, .long 2000000000] [] (fun v w' => (v = some (.int 0) ∧ x0.toInt < 0 ∧ w' = []) ∨ (v = some (.int 0) ∧ 0 ≤ x0.toInt ∧ 2000000000 < x0.toInt ∧ w' = []) ∨ (v = some (.int 1) ∧ 0 ≤ x0.toInt ∧ x0.toInt ≤ 2000000000 ∧ w' = [])) := by
  refine mp_met false (by decide) (by decide) (Nat.le_of_ble_eq_true rfl) (fun X hF hQ => ?_)
  have hF : mp_F E X (RX10, cX10_in, 6, (0, 0, 0, 0), (some FieldType.boolean), false) := hF
  show mp_W E X 6 0 [(0, .long x0), (2, .long 0), (4, .long 2000000000)] [] [] 0 0
  refine mp_run hF mp_tabX10_ok [mp_i (.lload_n 0), mp_i (.lload_n 2), mp_i .lcmp, mp_h (.ifCond .lt 14) [17]] (by decide +kernel) ?_
  intro z1 h2
  refine And.intro (fun c3 => ?_) (fun c3 => ?_)
  · have c3 : x0.toInt < 0 := mp_lc_lt h2 c3
    show mp_W E X 6 17 [(0, .long x0), (2, .long 0), (4, .long 2000000000)] [] [] 0 0
    refine mp_run hF mp_tabX10_ok [mp_c (.iconst 0) 0] (by decide +kernel) ?_
    show mp_W E X 6 18 [(0, .long x0), (2, .long 0), (4, .long 2000000000)] [.int 0] [] 0 0
    exact mp_iret hF hQ rfl (by decide) (Nat.le_of_ble_eq_true rfl) (Nat.le_of_ble_eq_true rfl) [] (w' := []) rfl rfl (Or.inl ⟨rfl, (by first | omega | decide), rfl⟩) (by decide +kernel)
  · have c3 : 0 ≤ x0.toInt := mp_lc_ge h2 c3
    show mp_W E X 6 6 [(0, .long x0), (2, .long 0), (4, .long 2000000000)] [] [] 0 0
    refine mp_run hF mp_tabX10_ok [mp_i (.lload_n 0), mp_i (.lload 4), mp_i .lcmp, mp_h (.ifCond .gt 7) [17]] (by decide +kernel) ?_
    intro z4 h5
    refine And.intro (fun c6 => ?_) (fun c6 => ?_)
    · have c6 : 2000000000 < x0.toInt := mp_lc_gt h5 c6
      show mp_W E X 6 17 [(0, .long x0), (2, .long 0), (4, .long 2000000000)] [] [] 0 0
      refine mp_run hF mp_tabX10_ok [mp_c (.iconst 0) 0] (by decide +kernel) ?_
      show mp_W E X 6 18 [(0, .long x0), (2, .long 0), (4, .long 2000000000)] [.int 0] [] 0 0
      exact mp_iret hF hQ rfl (by decide) (Nat.le_of_ble_eq_true rfl) (Nat.le_of_ble_eq_true rfl) [] (w' := []) rfl rfl (Or.inr (Or.inl ⟨rfl, (by first | omega | decide), (by first | omega | decide), rfl⟩)) (by decide +kernel)
    · have c6 : x0.toInt ≤ 2000000000 := mp_lc_le h5 c6
      show mp_W E X 6 13 [(0, .long x0), (2, .long 0), (4, .long 2000000000)] [] [] 0 0
      refine mp_run hF mp_tabX10_ok [mp_c (.iconst 1) 1, mp_h (.goto 4) [18]] (by decide +kernel) ?_
      show mp_W E X 6 18 [(0, .long x0), (2, .long 0), (4, .long 2000000000)] [.int 1] [] 0 0
      exact mp_iret hF hQ rfl (by decide) (Nat.le_of_ble_eq_true rfl) (Nat.le_of_ble_eq_true rfl) [] (w' := []) rfl rfl (Or.inr (Or.inr ⟨rfl, (by first | omega | decide), (by first | omega | decide), rfl⟩)) (by decide +kernel)
set_option maxHeartbeats 4000000 in
set_option maxRecDepth 100000 in
theorem aX10_in_155 (E : mp_E) (x0 : Int64) : mp_Ct E yX10_in cX10_in 6 (some FieldType.boolean) 0 0 0 0 [.long x0, .long 1, .long 40] [] (fun v w' => (v = some (.int 0) ∧ x0.toInt < 1 ∧ w' = []) ∨ (v = some (.int 0) ∧ 1 ≤ x0.toInt ∧ 40 < x0.toInt ∧ w' = []) ∨ (v = some (.int 1) ∧ 1 ≤ x0.toInt ∧ x0.toInt ≤ 40 ∧ w' = [])) := by
  refine mp_met false (by decide) (by decide) (Nat.le_of_ble_eq_true rfl) (fun X hF hQ => ?_)
  have hF : mp_F E X (RX10, cX10_in, 6, (0, 0, 0, 0), (some FieldType.boolean), false) := hF
  show mp_W E X 6 0 [(0, .long x0), (2, .long 1), (4, .long 40)] [] [] 0 0
  refine mp_run hF mp_tabX10_ok [mp_i (.lload_n 0), mp_i (.lload_n 2), mp_i .lcmp, mp_h (.ifCond .lt 14) [17]] (by decide +kernel) ?_
  intro z1 h2
  refine And.intro (fun c3 => ?_) (fun c3 => ?_)
  · have c3 : x0.toInt < 1 := mp_lc_lt h2 c3
    show mp_W E X 6 17 [(0, .long x0), (2, .long 1), (4, .long 40)] [] [] 0 0
    refine mp_run hF mp_tabX10_ok [mp_c (.iconst 0) 0] (by decide +kernel) ?_
    show mp_W E X 6 18 [(0, .long x0), (2, .long 1), (4, .long 40)] [.int 0] [] 0 0
    exact mp_iret hF hQ rfl (by decide) (Nat.le_of_ble_eq_true rfl) (Nat.le_of_ble_eq_true rfl) [] (w' := []) rfl rfl (Or.inl ⟨rfl, (by first | omega | decide), rfl⟩) (by decide +kernel)
  · have c3 : 1 ≤ x0.toInt := mp_lc_ge h2 c3
    show mp_W E X 6 6 [(0, .long x0), (2, .long 1), (4, .long 40)] [] [] 0 0
    refine mp_run hF mp_tabX10_ok [mp_i (.lload_n 0), mp_i (.lload 4), mp_i .lcmp, mp_h (.ifCond .gt 7) [17]] (by decide +kernel) ?_
    intro z4 h5
    refine And.intro (fun c6 => ?_) (fun c6 => ?_)
    · have c6 : 40 < x0.toInt := mp_lc_gt h5 c6
      show mp_W E X 6 17 [(0, .long x0), (2, .long 1), (4, .long 40)] [] [] 0 0
      refine mp_run hF mp_tabX10_ok [mp_c (.iconst 0) 0] (by decide +kernel) ?_
      show mp_W E X 6 18 [(0, .long x0), (2, .long 1), (4, .long 40)] [.int 0] [] 0 0
      exact mp_iret hF hQ rfl (by decide) (Nat.le_of_ble_eq_true rfl) (Nat.le_of_ble_eq_true rfl) [] (w' := []) rfl rfl (Or.inr (Or.inl ⟨rfl, (by first | omega | decide), (by first | omega | decide), rfl⟩)) (by decide +kernel)
    · have c6 : x0.toInt ≤ 40 := mp_lc_le h5 c6
      show mp_W E X 6 13 [(0, .long x0), (2, .long 1), (4, .long 40)] [] [] 0 0
      refine mp_run hF mp_tabX10_ok [mp_c (.iconst 1) 1, mp_h (.goto 4) [18]] (by decide +kernel) ?_
      show mp_W E X 6 18 [(0, .long x0), (2, .long 1), (4, .long 40)] [.int 1] [] 0 0
      exact mp_iret hF hQ rfl (by decide) (Nat.le_of_ble_eq_true rfl) (Nat.le_of_ble_eq_true rfl) [] (w' := []) rfl rfl (Or.inr (Or.inr ⟨rfl, (by first | omega | decide), (by first | omega | decide), rfl⟩)) (by decide +kernel)
set_option maxHeartbeats 4000000 in
set_option maxRecDepth 100000 in
theorem aX10_isDraw_156 (E : mp_E) (a0 a1 a2 a3 a4 a5 a6 a7 a8 a9 a10 a11 a12 a13 a14 a15 a16 a17 a18 a19 a20 a21 a22 a23 a24 a25 : Nat) (x0 : Int32) (x1 : Int32) (x2 : Int32) : mp_Ct E yX10_isDraw cX10_isDraw 4 (some FieldType.boolean) 2 0 0 46 [.ref a0, .int x0, .int x1, .int x2] [(a0, .inr (10, [.int 0, .ref a2, .ref a3, .ref a4, .ref a5, .ref a6, .int 0, .int 0, .int 0, .int 0, .int 0, .long 0, .int 0, .int 0, .int 0, .int (-1), .ref a7, .ref a1, .ref a8, .ref a9, .ref a10, .ref a11, .ref a12, .ref a13, .int 0, .ref a14, .ref a15, .ref a16, .ref a17, .int 0, .int 0, .int 0, .ref a18, .ref a19, .int 0, .int 0, .ref a20, .ref a21, .ref a22, .int 0, .int 0, .int 0, .int 0, .ref a23, .ref a24, .ref a25, .int 0])), (a1, .inl (E.2.2 0, 25, .inl (fun _ => 0)))] (fun v w' => v = some (.int 0) ∧ w' = [(a0, .inr (10, [.int 0, .ref a2, .ref a3, .ref a4, .ref a5, .ref a6, .int 0, .int 0, .int 0, .int 0, .int 0, .long 0, .int 0, .int 0, .int 0, .int (-1), .ref a7, .ref a1, .ref a8, .ref a9, .ref a10, .ref a11, .ref a12, .ref a13, .int 0, .ref a14, .ref a15, .ref a16, .ref a17, .int 0, .int 0, .int 0, .ref a18, .ref a19, .int 0, .int 0, .ref a20, .ref a21, .ref a22, .int 0, .int 0, .int 0, .int 0, .ref a23, .ref a24, .ref a25, .int 0])), (a1, .inl (E.2.2 0, 25, .inl (fun _ => 0)))]) := by
  refine mp_met false (by decide) (by decide) (Nat.le_of_ble_eq_true rfl) (fun X hF hQ => ?_)
  have hF : mp_F E X (RX10, cX10_isDraw, 4, (2, 0, 0, 46), (some FieldType.boolean), false) := hF
  show mp_W E X 4 0 [(0, .ref a0), (1, .int x0), (2, .int x1), (3, .int x2)] [] [(a0, .inr (10, [.int 0, .ref a2, .ref a3, .ref a4, .ref a5, .ref a6, .int 0, .int 0, .int 0, .int 0, .int 0, .long 0, .int 0, .int 0, .int 0, .int (-1), .ref a7, .ref a1, .ref a8, .ref a9, .ref a10, .ref a11, .ref a12, .ref a13, .int 0, .ref a14, .ref a15, .ref a16, .ref a17, .int 0, .int 0, .int 0, .ref a18, .ref a19, .int 0, .int 0, .ref a20, .ref a21, .ref a22, .int 0, .int 0, .int 0, .int 0, .ref a23, .ref a24, .ref a25, .int 0])), (a1, .inl (E.2.2 0, 25, .inl (fun _ => 0)))] 0 0
  refine mp_run hF mp_tabX10_ok [mp_i (.iload_n 1), mp_i .i2l, mp_cl (.lconst 0) 0, mp_cl (.ldc2_w 463) 2000000000] (by decide +kernel) ?_
  intro z1 h2
  have e3 : z1.toInt = x0.toInt := mp_i2l h2
  show mp_W E X 4 6 [(0, .ref a0), (1, .int x0), (2, .int x1), (3, .int x2)] [.long 2000000000, .long 0, .long z1] [(a0, .inr (10, [.int 0, .ref a2, .ref a3, .ref a4, .ref a5, .ref a6, .int 0, .int 0, .int 0, .int 0, .int 0, .long 0, .int 0, .int 0, .int 0, .int (-1), .ref a7, .ref a1, .ref a8, .ref a9, .ref a10, .ref a11, .ref a12, .ref a13, .int 0, .ref a14, .ref a15, .ref a16, .ref a17, .int 0, .int 0, .int 0, .ref a18, .ref a19, .int 0, .int 0, .ref a20, .ref a21, .ref a22, .int 0, .int 0, .int 0, .int 0, .ref a23, .ref a24, .ref a25, .int 0])), (a1, .inl (E.2.2 0, 25, .inl (fun _ => 0)))] 0 0
  refine mp_callS hF (As := [.long z1, .long 0, .long 2000000000]) (rest := []) (wr := [(a0, .inr (10, [.int 0, .ref a2, .ref a3, .ref a4, .ref a5, .ref a6, .int 0, .int 0, .int 0, .int 0, .int 0, .long 0, .int 0, .int 0, .int 0, .int (-1), .ref a7, .ref a1, .ref a8, .ref a9, .ref a10, .ref a11, .ref a12, .ref a13, .int 0, .ref a14, .ref a15, .ref a16, .ref a17, .int 0, .int 0, .int 0, .ref a18, .ref a19, .int 0, .int 0, .ref a20, .ref a21, .ref a22, .int 0, .int 0, .int 0, .int 0, .ref a23, .ref a24, .ref a25, .int 0])), (a1, .inl (E.2.2 0, 25, .inl (fun _ => 0)))]) (aX10_in_154 E z1) mp_lkX10_97 [] [0, 1] rfl rfl rfl rfl rfl ⟨(Nat.le_of_ble_eq_true rfl), (Nat.le_of_ble_eq_true rfl), (Nat.le_of_ble_eq_true rfl), (Nat.le_of_ble_eq_true rfl)⟩ (Nat.le_of_ble_eq_true rfl) (by decide +kernel) (fun v4 w5 h6 => ?_)
  rcases h6 with ⟨rfl, c7, rfl⟩ | ⟨rfl, c8, c9, rfl⟩ | ⟨rfl, c10, c11, rfl⟩
  · skip
    have c7 : z1.toInt < 0 := c7
    show mp_W E X 4 9 [(0, .ref a0), (1, .int x0), (2, .int x1), (3, .int x2)] [.int 0] [(a0, .inr (10, [.int 0, .ref a2, .ref a3, .ref a4, .ref a5, .ref a6, .int 0, .int 0, .int 0, .int 0, .int 0, .long 0, .int 0, .int 0, .int 0, .int (-1), .ref a7, .ref a1, .ref a8, .ref a9, .ref a10, .ref a11, .ref a12, .ref a13, .int 0, .ref a14, .ref a15, .ref a16, .ref a17, .int 0, .int 0, .int 0, .ref a18, .ref a19, .int 0, .int 0, .ref a20, .ref a21, .ref a22, .int 0, .int 0, .int 0, .int 0, .ref a23, .ref a24, .ref a25, .int 0])), (a1, .inl (E.2.2 0, 25, .inl (fun _ => 0)))] 0 0
    refine mp_run hF mp_tabX10_ok [mp_h (.ifCond .eq 27) [36]] (by decide +kernel) ?_
    refine And.intro (fun _ => ?_) (fun c12 => absurd c12 (by decide))
    show mp_W E X 4 36 [(0, .ref a0), (1, .int x0), (2, .int x1), (3, .int x2)] [] [(a0, .inr (10, [.int 0, .ref a2, .ref a3, .ref a4, .ref a5, .ref a6, .int 0, .int 0, .int 0, .int 0, .int 0, .long 0, .int 0, .int 0, .int 0, .int (-1), .ref a7, .ref a1, .ref a8, .ref a9, .ref a10, .ref a11, .ref a12, .ref a13, .int 0, .ref a14, .ref a15, .ref a16, .ref a17, .int 0, .int 0, .int 0, .ref a18, .ref a19, .int 0, .int 0, .ref a20, .ref a21, .ref a22, .int 0, .int 0, .int 0, .int 0, .ref a23, .ref a24, .ref a25, .int 0])), (a1, .inl (E.2.2 0, 25, .inl (fun _ => 0)))] 0 0
    refine mp_run hF mp_tabX10_ok [mp_c (.iconst 0) 0] (by decide +kernel) ?_
    show mp_W E X 4 37 [(0, .ref a0), (1, .int x0), (2, .int x1), (3, .int x2)] [.int 0] [(a0, .inr (10, [.int 0, .ref a2, .ref a3, .ref a4, .ref a5, .ref a6, .int 0, .int 0, .int 0, .int 0, .int 0, .long 0, .int 0, .int 0, .int 0, .int (-1), .ref a7, .ref a1, .ref a8, .ref a9, .ref a10, .ref a11, .ref a12, .ref a13, .int 0, .ref a14, .ref a15, .ref a16, .ref a17, .int 0, .int 0, .int 0, .ref a18, .ref a19, .int 0, .int 0, .ref a20, .ref a21, .ref a22, .int 0, .int 0, .int 0, .int 0, .ref a23, .ref a24, .ref a25, .int 0])), (a1, .inl (E.2.2 0, 25, .inl (fun _ => 0)))] 0 0
    exact mp_iret hF hQ rfl (by decide) (Nat.le_of_ble_eq_true rfl) (Nat.le_of_ble_eq_true rfl) [0, 1] (w' := [(a0, .inr (10, [.int 0, .ref a2, .ref a3, .ref a4, .ref a5, .ref a6, .int 0, .int 0, .int 0, .int 0, .int 0, .long 0, .int 0, .int 0, .int 0, .int (-1), .ref a7, .ref a1, .ref a8, .ref a9, .ref a10, .ref a11, .ref a12, .ref a13, .int 0, .ref a14, .ref a15, .ref a16, .ref a17, .int 0, .int 0, .int 0, .ref a18, .ref a19, .int 0, .int 0, .ref a20, .ref a21, .ref a22, .int 0, .int 0, .int 0, .int 0, .ref a23, .ref a24, .ref a25, .int 0])), (a1, .inl (E.2.2 0, 25, .inl (fun _ => 0)))]) rfl rfl ⟨rfl, rfl⟩ (by decide +kernel)
  · skip
    have c8 : 0 ≤ z1.toInt := c8
    have c9 : 2000000000 < z1.toInt := c9
    show mp_W E X 4 9 [(0, .ref a0), (1, .int x0), (2, .int x1), (3, .int x2)] [.int 0] [(a0, .inr (10, [.int 0, .ref a2, .ref a3, .ref a4, .ref a5, .ref a6, .int 0, .int 0, .int 0, .int 0, .int 0, .long 0, .int 0, .int 0, .int 0, .int (-1), .ref a7, .ref a1, .ref a8, .ref a9, .ref a10, .ref a11, .ref a12, .ref a13, .int 0, .ref a14, .ref a15, .ref a16, .ref a17, .int 0, .int 0, .int 0, .ref a18, .ref a19, .int 0, .int 0, .ref a20, .ref a21, .ref a22, .int 0, .int 0, .int 0, .int 0, .ref a23, .ref a24, .ref a25, .int 0])), (a1, .inl (E.2.2 0, 25, .inl (fun _ => 0)))] 0 0
    refine mp_run hF mp_tabX10_ok [mp_h (.ifCond .eq 27) [36]] (by decide +kernel) ?_
    refine And.intro (fun _ => ?_) (fun c13 => absurd c13 (by decide))
    show mp_W E X 4 36 [(0, .ref a0), (1, .int x0), (2, .int x1), (3, .int x2)] [] [(a0, .inr (10, [.int 0, .ref a2, .ref a3, .ref a4, .ref a5, .ref a6, .int 0, .int 0, .int 0, .int 0, .int 0, .long 0, .int 0, .int 0, .int 0, .int (-1), .ref a7, .ref a1, .ref a8, .ref a9, .ref a10, .ref a11, .ref a12, .ref a13, .int 0, .ref a14, .ref a15, .ref a16, .ref a17, .int 0, .int 0, .int 0, .ref a18, .ref a19, .int 0, .int 0, .ref a20, .ref a21, .ref a22, .int 0, .int 0, .int 0, .int 0, .ref a23, .ref a24, .ref a25, .int 0])), (a1, .inl (E.2.2 0, 25, .inl (fun _ => 0)))] 0 0
    refine mp_run hF mp_tabX10_ok [mp_c (.iconst 0) 0] (by decide +kernel) ?_
    show mp_W E X 4 37 [(0, .ref a0), (1, .int x0), (2, .int x1), (3, .int x2)] [.int 0] [(a0, .inr (10, [.int 0, .ref a2, .ref a3, .ref a4, .ref a5, .ref a6, .int 0, .int 0, .int 0, .int 0, .int 0, .long 0, .int 0, .int 0, .int 0, .int (-1), .ref a7, .ref a1, .ref a8, .ref a9, .ref a10, .ref a11, .ref a12, .ref a13, .int 0, .ref a14, .ref a15, .ref a16, .ref a17, .int 0, .int 0, .int 0, .ref a18, .ref a19, .int 0, .int 0, .ref a20, .ref a21, .ref a22, .int 0, .int 0, .int 0, .int 0, .ref a23, .ref a24, .ref a25, .int 0])), (a1, .inl (E.2.2 0, 25, .inl (fun _ => 0)))] 0 0
    exact mp_iret hF hQ rfl (by decide) (Nat.le_of_ble_eq_true rfl) (Nat.le_of_ble_eq_true rfl) [0, 1] (w' := [(a0, .inr (10, [.int 0, .ref a2, .ref a3, .ref a4, .ref a5, .ref a6, .int 0, .int 0, .int 0, .int 0, .int 0, .long 0, .int 0, .int 0, .int 0, .int (-1), .ref a7, .ref a1, .ref a8, .ref a9, .ref a10, .ref a11, .ref a12, .ref a13, .int 0, .ref a14, .ref a15, .ref a16, .ref a17, .int 0, .int 0, .int 0, .ref a18, .ref a19, .int 0, .int 0, .ref a20, .ref a21, .ref a22, .int 0, .int 0, .int 0, .int 0, .ref a23, .ref a24, .ref a25, .int 0])), (a1, .inl (E.2.2 0, 25, .inl (fun _ => 0)))]) rfl rfl ⟨rfl, rfl⟩ (by decide +kernel)
  · skip
    have c10 : 0 ≤ z1.toInt := c10
    have c11 : z1.toInt ≤ 2000000000 := c11
    show mp_W E X 4 9 [(0, .ref a0), (1, .int x0), (2, .int x1), (3, .int x2)] [.int 1] [(a0, .inr (10, [.int 0, .ref a2, .ref a3, .ref a4, .ref a5, .ref a6, .int 0, .int 0, .int 0, .int 0, .int 0, .long 0, .int 0, .int 0, .int 0, .int (-1), .ref a7, .ref a1, .ref a8, .ref a9, .ref a10, .ref a11, .ref a12, .ref a13, .int 0, .ref a14, .ref a15, .ref a16, .ref a17, .int 0, .int 0, .int 0, .ref a18, .ref a19, .int 0, .int 0, .ref a20, .ref a21, .ref a22, .int 0, .int 0, .int 0, .int 0, .ref a23, .ref a24, .ref a25, .int 0])), (a1, .inl (E.2.2 0, 25, .inl (fun _ => 0)))] 0 0
    refine mp_run hF mp_tabX10_ok [mp_h (.ifCond .eq 27) [36]] (by decide +kernel) ?_
    refine And.intro (fun c14 => absurd c14 (by decide)) (fun _ => ?_)
    show mp_W E X 4 12 [(0, .ref a0), (1, .int x0), (2, .int x1), (3, .int x2)] [] [(a0, .inr (10, [.int 0, .ref a2, .ref a3, .ref a4, .ref a5, .ref a6, .int 0, .int 0, .int 0, .int 0, .int 0, .long 0, .int 0, .int 0, .int 0, .int (-1), .ref a7, .ref a1, .ref a8, .ref a9, .ref a10, .ref a11, .ref a12, .ref a13, .int 0, .ref a14, .ref a15, .ref a16, .ref a17, .int 0, .int 0, .int 0, .ref a18, .ref a19, .int 0, .int 0, .ref a20, .ref a21, .ref a22, .int 0, .int 0, .int 0, .int 0, .ref a23, .ref a24, .ref a25, .int 0])), (a1, .inl (E.2.2 0, 25, .inl (fun _ => 0)))] 0 0
    refine mp_run hF mp_tabX10_ok [mp_i (.iload_n 2), mp_i .i2l, mp_cl (.lconst 1) 1, mp_cl (.ldc2_w 465) 40] (by decide +kernel) ?_
    intro z15 h16
    have e17 : z15.toInt = x1.toInt := mp_i2l h16
    show mp_W E X 4 18 [(0, .ref a0), (1, .int x0), (2, .int x1), (3, .int x2)] [.long 40, .long 1, .long z15] [(a0, .inr (10, [.int 0, .ref a2, .ref a3, .ref a4, .ref a5, .ref a6, .int 0, .int 0, .int 0, .int 0, .int 0, .long 0, .int 0, .int 0, .int 0, .int (-1), .ref a7, .ref a1, .ref a8, .ref a9, .ref a10, .ref a11, .ref a12, .ref a13, .int 0, .ref a14, .ref a15, .ref a16, .ref a17, .int 0, .int 0, .int 0, .ref a18, .ref a19, .int 0, .int 0, .ref a20, .ref a21, .ref a22, .int 0, .int 0, .int 0, .int 0, .ref a23, .ref a24, .ref a25, .int 0])), (a1, .inl (E.2.2 0, 25, .inl (fun _ => 0)))] 0 0
    refine mp_callS hF (As := [.long z15, .long 1, .long 40]) (rest := []) (wr := [(a0, .inr (10, [.int 0, .ref a2, .ref a3, .ref a4, .ref a5, .ref a6, .int 0, .int 0, .int 0, .int 0, .int 0, .long 0, .int 0, .int 0, .int 0, .int (-1), .ref a7, .ref a1, .ref a8, .ref a9, .ref a10, .ref a11, .ref a12, .ref a13, .int 0, .ref a14, .ref a15, .ref a16, .ref a17, .int 0, .int 0, .int 0, .ref a18, .ref a19, .int 0, .int 0, .ref a20, .ref a21, .ref a22, .int 0, .int 0, .int 0, .int 0, .ref a23, .ref a24, .ref a25, .int 0])), (a1, .inl (E.2.2 0, 25, .inl (fun _ => 0)))]) (aX10_in_155 E z15) mp_lkX10_97 [] [0, 1] rfl rfl rfl rfl rfl ⟨(Nat.le_of_ble_eq_true rfl), (Nat.le_of_ble_eq_true rfl), (Nat.le_of_ble_eq_true rfl), (Nat.le_of_ble_eq_true rfl)⟩ (Nat.le_of_ble_eq_true rfl) (by decide +kernel) (fun v18 w19 h20 => ?_)
    rcases h20 with ⟨rfl, c21, rfl⟩ | ⟨rfl, c22, c23, rfl⟩ | ⟨rfl, c24, c25, rfl⟩
    · skip
      have c21 : z15.toInt < 1 := c21
      show mp_W E X 4 21 [(0, .ref a0), (1, .int x0), (2, .int x1), (3, .int x2)] [.int 0] [(a0, .inr (10, [.int 0, .ref a2, .ref a3, .ref a4, .ref a5, .ref a6, .int 0, .int 0, .int 0, .int 0, .int 0, .long 0, .int 0, .int 0, .int 0, .int (-1), .ref a7, .ref a1, .ref a8, .ref a9, .ref a10, .ref a11, .ref a12, .ref a13, .int 0, .ref a14, .ref a15, .ref a16, .ref a17, .int 0, .int 0, .int 0, .ref a18, .ref a19, .int 0, .int 0, .ref a20, .ref a21, .ref a22, .int 0, .int 0, .int 0, .int 0, .ref a23, .ref a24, .ref a25, .int 0])), (a1, .inl (E.2.2 0, 25, .inl (fun _ => 0)))] 0 0
      refine mp_run hF mp_tabX10_ok [mp_h (.ifCond .eq 15) [36]] (by decide +kernel) ?_
      refine And.intro (fun _ => ?_) (fun c26 => absurd c26 (by decide))
      show mp_W E X 4 36 [(0, .ref a0), (1, .int x0), (2, .int x1), (3, .int x2)] [] [(a0, .inr (10, [.int 0, .ref a2, .ref a3, .ref a4, .ref a5, .ref a6, .int 0, .int 0, .int 0, .int 0, .int 0, .long 0, .int 0, .int 0, .int 0, .int (-1), .ref a7, .ref a1, .ref a8, .ref a9, .ref a10, .ref a11, .ref a12, .ref a13, .int 0, .ref a14, .ref a15, .ref a16, .ref a17, .int 0, .int 0, .int 0, .ref a18, .ref a19, .int 0, .int 0, .ref a20, .ref a21, .ref a22, .int 0, .int 0, .int 0, .int 0, .ref a23, .ref a24, .ref a25, .int 0])), (a1, .inl (E.2.2 0, 25, .inl (fun _ => 0)))] 0 0
      refine mp_run hF mp_tabX10_ok [mp_c (.iconst 0) 0] (by decide +kernel) ?_
      show mp_W E X 4 37 [(0, .ref a0), (1, .int x0), (2, .int x1), (3, .int x2)] [.int 0] [(a0, .inr (10, [.int 0, .ref a2, .ref a3, .ref a4, .ref a5, .ref a6, .int 0, .int 0, .int 0, .int 0, .int 0, .long 0, .int 0, .int 0, .int 0, .int (-1), .ref a7, .ref a1, .ref a8, .ref a9, .ref a10, .ref a11, .ref a12, .ref a13, .int 0, .ref a14, .ref a15, .ref a16, .ref a17, .int 0, .int 0, .int 0, .ref a18, .ref a19, .int 0, .int 0, .ref a20, .ref a21, .ref a22, .int 0, .int 0, .int 0, .int 0, .ref a23, .ref a24, .ref a25, .int 0])), (a1, .inl (E.2.2 0, 25, .inl (fun _ => 0)))] 0 0
      exact mp_iret hF hQ rfl (by decide) (Nat.le_of_ble_eq_true rfl) (Nat.le_of_ble_eq_true rfl) [0, 1] (w' := [(a0, .inr (10, [.int 0, .ref a2, .ref a3, .ref a4, .ref a5, .ref a6, .int 0, .int 0, .int 0, .int 0, .int 0, .long 0, .int 0, .int 0, .int 0, .int (-1), .ref a7, .ref a1, .ref a8, .ref a9, .ref a10, .ref a11, .ref a12, .ref a13, .int 0, .ref a14, .ref a15, .ref a16, .ref a17, .int 0, .int 0, .int 0, .ref a18, .ref a19, .int 0, .int 0, .ref a20, .ref a21, .ref a22, .int 0, .int 0, .int 0, .int 0, .ref a23, .ref a24, .ref a25, .int 0])), (a1, .inl (E.2.2 0, 25, .inl (fun _ => 0)))]) rfl rfl ⟨rfl, rfl⟩ (by decide +kernel)
    · skip
      have c22 : 1 ≤ z15.toInt := c22
      have c23 : 40 < z15.toInt := c23
      show mp_W E X 4 21 [(0, .ref a0), (1, .int x0), (2, .int x1), (3, .int x2)] [.int 0] [(a0, .inr (10, [.int 0, .ref a2, .ref a3, .ref a4, .ref a5, .ref a6, .int 0, .int 0, .int 0, .int 0, .int 0, .long 0, .int 0, .int 0, .int 0, .int (-1), .ref a7, .ref a1, .ref a8, .ref a9, .ref a10, .ref a11, .ref a12, .ref a13, .int 0, .ref a14, .ref a15, .ref a16, .ref a17, .int 0, .int 0, .int 0, .ref a18, .ref a19, .int 0, .int 0, .ref a20, .ref a21, .ref a22, .int 0, .int 0, .int 0, .int 0, .ref a23, .ref a24, .ref a25, .int 0])), (a1, .inl (E.2.2 0, 25, .inl (fun _ => 0)))] 0 0
      refine mp_run hF mp_tabX10_ok [mp_h (.ifCond .eq 15) [36]] (by decide +kernel) ?_
      refine And.intro (fun _ => ?_) (fun c27 => absurd c27 (by decide))
      show mp_W E X 4 36 [(0, .ref a0), (1, .int x0), (2, .int x1), (3, .int x2)] [] [(a0, .inr (10, [.int 0, .ref a2, .ref a3, .ref a4, .ref a5, .ref a6, .int 0, .int 0, .int 0, .int 0, .int 0, .long 0, .int 0, .int 0, .int 0, .int (-1), .ref a7, .ref a1, .ref a8, .ref a9, .ref a10, .ref a11, .ref a12, .ref a13, .int 0, .ref a14, .ref a15, .ref a16, .ref a17, .int 0, .int 0, .int 0, .ref a18, .ref a19, .int 0, .int 0, .ref a20, .ref a21, .ref a22, .int 0, .int 0, .int 0, .int 0, .ref a23, .ref a24, .ref a25, .int 0])), (a1, .inl (E.2.2 0, 25, .inl (fun _ => 0)))] 0 0
      refine mp_run hF mp_tabX10_ok [mp_c (.iconst 0) 0] (by decide +kernel) ?_
      show mp_W E X 4 37 [(0, .ref a0), (1, .int x0), (2, .int x1), (3, .int x2)] [.int 0] [(a0, .inr (10, [.int 0, .ref a2, .ref a3, .ref a4, .ref a5, .ref a6, .int 0, .int 0, .int 0, .int 0, .int 0, .long 0, .int 0, .int 0, .int 0, .int (-1), .ref a7, .ref a1, .ref a8, .ref a9, .ref a10, .ref a11, .ref a12, .ref a13, .int 0, .ref a14, .ref a15, .ref a16, .ref a17, .int 0, .int 0, .int 0, .ref a18, .ref a19, .int 0, .int 0, .ref a20, .ref a21, .ref a22, .int 0, .int 0, .int 0, .int 0, .ref a23, .ref a24, .ref a25, .int 0])), (a1, .inl (E.2.2 0, 25, .inl (fun _ => 0)))] 0 0
      exact mp_iret hF hQ rfl (by decide) (Nat.le_of_ble_eq_true rfl) (Nat.le_of_ble_eq_true rfl) [0, 1] (w' := [(a0, .inr (10, [.int 0, .ref a2, .ref a3, .ref a4, .ref a5, .ref a6, .int 0, .int 0, .int 0, .int 0, .int 0, .long 0, .int 0, .int 0, .int 0, .int (-1), .ref a7, .ref a1, .ref a8, .ref a9, .ref a10, .ref a11, .ref a12, .ref a13, .int 0, .ref a14, .ref a15, .ref a16, .ref a17, .int 0, .int 0, .int 0, .ref a18, .ref a19, .int 0, .int 0, .ref a20, .ref a21, .ref a22, .int 0, .int 0, .int 0, .int 0, .ref a23, .ref a24, .ref a25, .int 0])), (a1, .inl (E.2.2 0, 25, .inl (fun _ => 0)))]) rfl rfl ⟨rfl, rfl⟩ (by decide +kernel)
    · skip
      have c24 : 1 ≤ z15.toInt := c24
      have c25 : z15.toInt ≤ 40 := c25
      show mp_W E X 4 21 [(0, .ref a0), (1, .int x0), (2, .int x1), (3, .int x2)] [.int 1] [(a0, .inr (10, [.int 0, .ref a2, .ref a3, .ref a4, .ref a5, .ref a6, .int 0, .int 0, .int 0, .int 0, .int 0, .long 0, .int 0, .int 0, .int 0, .int (-1), .ref a7, .ref a1, .ref a8, .ref a9, .ref a10, .ref a11, .ref a12, .ref a13, .int 0, .ref a14, .ref a15, .ref a16, .ref a17, .int 0, .int 0, .int 0, .ref a18, .ref a19, .int 0, .int 0, .ref a20, .ref a21, .ref a22, .int 0, .int 0, .int 0, .int 0, .ref a23, .ref a24, .ref a25, .int 0])), (a1, .inl (E.2.2 0, 25, .inl (fun _ => 0)))] 0 0
      refine mp_run hF mp_tabX10_ok [mp_h (.ifCond .eq 15) [36]] (by decide +kernel) ?_
      refine And.intro (fun c28 => absurd c28 (by decide)) (fun _ => ?_)
      show mp_W E X 4 24 [(0, .ref a0), (1, .int x0), (2, .int x1), (3, .int x2)] [] [(a0, .inr (10, [.int 0, .ref a2, .ref a3, .ref a4, .ref a5, .ref a6, .int 0, .int 0, .int 0, .int 0, .int 0, .long 0, .int 0, .int 0, .int 0, .int (-1), .ref a7, .ref a1, .ref a8, .ref a9, .ref a10, .ref a11, .ref a12, .ref a13, .int 0, .ref a14, .ref a15, .ref a16, .ref a17, .int 0, .int 0, .int 0, .ref a18, .ref a19, .int 0, .int 0, .ref a20, .ref a21, .ref a22, .int 0, .int 0, .int 0, .int 0, .ref a23, .ref a24, .ref a25, .int 0])), (a1, .inl (E.2.2 0, 25, .inl (fun _ => 0)))] 0 0
      refine mp_run hF mp_tabX10_ok [mp_i (.aload_n 0), mp_i (.iload_n 3)] (by decide +kernel) ?_
      show mp_W E X 4 26 [(0, .ref a0), (1, .int x0), (2, .int x1), (3, .int x2)] [.int x2, .ref a0] [(a0, .inr (10, [.int 0, .ref a2, .ref a3, .ref a4, .ref a5, .ref a6, .int 0, .int 0, .int 0, .int 0, .int 0, .long 0, .int 0, .int 0, .int 0, .int (-1), .ref a7, .ref a1, .ref a8, .ref a9, .ref a10, .ref a11, .ref a12, .ref a13, .int 0, .ref a14, .ref a15, .ref a16, .ref a17, .int 0, .int 0, .int 0, .ref a18, .ref a19, .int 0, .int 0, .ref a20, .ref a21, .ref a22, .int 0, .int 0, .int 0, .int 0, .ref a23, .ref a24, .ref a25, .int 0])), (a1, .inl (E.2.2 0, 25, .inl (fun _ => 0)))] 0 0
      refine mp_callV hF (As := [.int x2]) (rest := []) (wr := []) (aX10_isPromise_47 E a0 a1 a2 a3 a4 a5 a6 a7 a8 a9 a10 a11 a12 a13 a14 a15 a16 a17 a18 a19 a20 a21 a22 a23 a24 a25 x2) mp_lkX10_262 0 rfl [0, 1] [] rfl rfl rfl rfl rfl ⟨(Nat.le_of_ble_eq_true rfl), (Nat.le_of_ble_eq_true rfl), (Nat.le_of_ble_eq_true rfl), (Nat.le_of_ble_eq_true rfl)⟩ (Nat.le_of_ble_eq_true rfl) (by decide +kernel) (fun v29 w30 h31 => ?_)
      obtain ⟨rfl, rfl⟩ := h31
      show mp_W E X 4 29 [(0, .ref a0), (1, .int x0), (2, .int x1), (3, .int x2)] [.int 0] [(a0, .inr (10, [.int 0, .ref a2, .ref a3, .ref a4, .ref a5, .ref a6, .int 0, .int 0, .int 0, .int 0, .int 0, .long 0, .int 0, .int 0, .int 0, .int (-1), .ref a7, .ref a1, .ref a8, .ref a9, .ref a10, .ref a11, .ref a12, .ref a13, .int 0, .ref a14, .ref a15, .ref a16, .ref a17, .int 0, .int 0, .int 0, .ref a18, .ref a19, .int 0, .int 0, .ref a20, .ref a21, .ref a22, .int 0, .int 0, .int 0, .int 0, .ref a23, .ref a24, .ref a25, .int 0])), (a1, .inl (E.2.2 0, 25, .inl (fun _ => 0)))] 0 0
      refine mp_run hF mp_tabX10_ok [mp_h (.ifCond .eq 7) [36]] (by decide +kernel) ?_
      refine And.intro (fun _ => ?_) (fun c32 => absurd c32 (by decide))
      show mp_W E X 4 36 [(0, .ref a0), (1, .int x0), (2, .int x1), (3, .int x2)] [] [(a0, .inr (10, [.int 0, .ref a2, .ref a3, .ref a4, .ref a5, .ref a6, .int 0, .int 0, .int 0, .int 0, .int 0, .long 0, .int 0, .int 0, .int 0, .int (-1), .ref a7, .ref a1, .ref a8, .ref a9, .ref a10, .ref a11, .ref a12, .ref a13, .int 0, .ref a14, .ref a15, .ref a16, .ref a17, .int 0, .int 0, .int 0, .ref a18, .ref a19, .int 0, .int 0, .ref a20, .ref a21, .ref a22, .int 0, .int 0, .int 0, .int 0, .ref a23, .ref a24, .ref a25, .int 0])), (a1, .inl (E.2.2 0, 25, .inl (fun _ => 0)))] 0 0
      refine mp_run hF mp_tabX10_ok [mp_c (.iconst 0) 0] (by decide +kernel) ?_
      show mp_W E X 4 37 [(0, .ref a0), (1, .int x0), (2, .int x1), (3, .int x2)] [.int 0] [(a0, .inr (10, [.int 0, .ref a2, .ref a3, .ref a4, .ref a5, .ref a6, .int 0, .int 0, .int 0, .int 0, .int 0, .long 0, .int 0, .int 0, .int 0, .int (-1), .ref a7, .ref a1, .ref a8, .ref a9, .ref a10, .ref a11, .ref a12, .ref a13, .int 0, .ref a14, .ref a15, .ref a16, .ref a17, .int 0, .int 0, .int 0, .ref a18, .ref a19, .int 0, .int 0, .ref a20, .ref a21, .ref a22, .int 0, .int 0, .int 0, .int 0, .ref a23, .ref a24, .ref a25, .int 0])), (a1, .inl (E.2.2 0, 25, .inl (fun _ => 0)))] 0 0
      exact mp_iret hF hQ rfl (by decide) (Nat.le_of_ble_eq_true rfl) (Nat.le_of_ble_eq_true rfl) [0, 1] (w' := [(a0, .inr (10, [.int 0, .ref a2, .ref a3, .ref a4, .ref a5, .ref a6, .int 0, .int 0, .int 0, .int 0, .int 0, .long 0, .int 0, .int 0, .int 0, .int (-1), .ref a7, .ref a1, .ref a8, .ref a9, .ref a10, .ref a11, .ref a12, .ref a13, .int 0, .ref a14, .ref a15, .ref a16, .ref a17, .int 0, .int 0, .int 0, .ref a18, .ref a19, .int 0, .int 0, .ref a20, .ref a21, .ref a22, .int 0, .int 0, .int 0, .int 0, .ref a23, .ref a24, .ref a25, .int 0])), (a1, .inl (E.2.2 0, 25, .inl (fun _ => 0)))]) rfl rfl ⟨rfl, rfl⟩ (by decide +kernel)
set_option maxHeartbeats 4000000 in
set_option maxRecDepth 100000 in
theorem aX10_drawn_157 (E : mp_E) (a0 a1 a2 a3 a4 a5 a6 a7 a8 a9 a10 a11 a12 a13 a14 a15 a16 a17 a18 a19 a20 a21 a22 a23 a24 a25 : Nat) (x0 : Int32) (x1 : Int32) (x2 : Int32) : mp_Ct E yX10_drawn cX10_drawn 4 (some FieldType.int) 3 0 0 69 [.ref a0, .int x0, .int x1, .int x2] [(a0, .inr (10, [.int 0, .ref a2, .ref a3, .ref a4, .ref a5, .ref a6, .int 0, .int 0, .int 0, .int 0, .int 0, .long 0, .int 0, .int 0, .int 0, .int (-1), .ref a7, .ref a1, .ref a8, .ref a9, .ref a10, .ref a11, .ref a12, .ref a13, .int 0, .ref a14, .ref a15, .ref a16, .ref a17, .int 0, .int 0, .int 0, .ref a18, .ref a19, .int 0, .int 0, .ref a20, .ref a21, .ref a22, .int 0, .int 0, .int 0, .int 0, .ref a23, .ref a24, .ref a25, .int 0])), (a1, .inl (E.2.2 0, 25, .inl (fun _ => 0)))] (fun v w' => v = some (.int (-2)) ∧ w' = []) := by
  refine mp_met false (by decide) (by decide) (Nat.le_of_ble_eq_true rfl) (fun X hF hQ => ?_)
  have hF : mp_F E X (RX10, cX10_drawn, 4, (3, 0, 0, 69), (some FieldType.int), false) := hF
  show mp_W E X 4 0 [(0, .ref a0), (1, .int x0), (2, .int x1), (3, .int x2)] [] [(a0, .inr (10, [.int 0, .ref a2, .ref a3, .ref a4, .ref a5, .ref a6, .int 0, .int 0, .int 0, .int 0, .int 0, .long 0, .int 0, .int 0, .int 0, .int (-1), .ref a7, .ref a1, .ref a8, .ref a9, .ref a10, .ref a11, .ref a12, .ref a13, .int 0, .ref a14, .ref a15, .ref a16, .ref a17, .int 0, .int 0, .int 0, .ref a18, .ref a19, .int 0, .int 0, .ref a20, .ref a21, .ref a22, .int 0, .int 0, .int 0, .int 0, .ref a23, .ref a24, .ref a25, .int 0])), (a1, .inl (E.2.2 0, 25, .inl (fun _ => 0)))] 0 0
  refine mp_run hF mp_tabX10_ok [mp_i (.aload_n 0), mp_c (.iconst 0) 0, mp_h (.putfield 92) [0, 0]] (by decide +kernel) ?_
  refine And.intro rfl (And.intro rfl (And.intro rfl (And.intro rfl (And.intro (Nat.le_of_ble_eq_true rfl) ?_))))
  show mp_W E X 4 5 [(0, .ref a0), (1, .int x0), (2, .int x1), (3, .int x2)] [] [(a0, .inr (10, [.int 0, .ref a2, .ref a3, .ref a4, .ref a5, .ref a6, .int 0, .int 0, .int 0, .int 0, .int 0, .long 0, .int 0, .int 0, .int 0, .int (-1), .ref a7, .ref a1, .ref a8, .ref a9, .ref a10, .ref a11, .ref a12, .ref a13, .int 0, .ref a14, .ref a15, .ref a16, .ref a17, .int 0, .int 0, .int 0, .ref a18, .ref a19, .int 0, .int 0, .ref a20, .ref a21, .ref a22, .int 0, .int 0, .int 0, .int 0, .ref a23, .ref a24, .ref a25, .int 0])), (a1, .inl (E.2.2 0, 25, .inl (fun _ => 0)))] 0 0
  refine mp_run hF mp_tabX10_ok [mp_i (.aload_n 0), mp_i (.iload_n 1), mp_i (.iload_n 2), mp_i (.iload_n 3)] (by decide +kernel) ?_
  show mp_W E X 4 9 [(0, .ref a0), (1, .int x0), (2, .int x1), (3, .int x2)] [.int x2, .int x1, .int x0, .ref a0] [(a0, .inr (10, [.int 0, .ref a2, .ref a3, .ref a4, .ref a5, .ref a6, .int 0, .int 0, .int 0, .int 0, .int 0, .long 0, .int 0, .int 0, .int 0, .int (-1), .ref a7, .ref a1, .ref a8, .ref a9, .ref a10, .ref a11, .ref a12, .ref a13, .int 0, .ref a14, .ref a15, .ref a16, .ref a17, .int 0, .int 0, .int 0, .ref a18, .ref a19, .int 0, .int 0, .ref a20, .ref a21, .ref a22, .int 0, .int 0, .int 0, .int 0, .ref a23, .ref a24, .ref a25, .int 0])), (a1, .inl (E.2.2 0, 25, .inl (fun _ => 0)))] 0 0
  refine mp_callV hF (As := [.int x0, .int x1, .int x2]) (rest := []) (wr := []) (aX10_isDraw_156 E a0 a1 a2 a3 a4 a5 a6 a7 a8 a9 a10 a11 a12 a13 a14 a15 a16 a17 a18 a19 a20 a21 a22 a23 a24 a25 x0 x1 x2) mp_lkX10_467 0 rfl [0, 1] [] rfl rfl rfl rfl rfl ⟨(Nat.le_of_ble_eq_true rfl), (Nat.le_of_ble_eq_true rfl), (Nat.le_of_ble_eq_true rfl), (Nat.le_of_ble_eq_true rfl)⟩ (Nat.le_of_ble_eq_true rfl) (by decide +kernel) (fun v1 w2 h3 => ?_)
  obtain ⟨rfl, rfl⟩ := h3
  show mp_W E X 4 12 [(0, .ref a0), (1, .int x0), (2, .int x1), (3, .int x2)] [.int 0] [(a0, .inr (10, [.int 0, .ref a2, .ref a3, .ref a4, .ref a5, .ref a6, .int 0, .int 0, .int 0, .int 0, .int 0, .long 0, .int 0, .int 0, .int 0, .int (-1), .ref a7, .ref a1, .ref a8, .ref a9, .ref a10, .ref a11, .ref a12, .ref a13, .int 0, .ref a14, .ref a15, .ref a16, .ref a17, .int 0, .int 0, .int 0, .ref a18, .ref a19, .int 0, .int 0, .ref a20, .ref a21, .ref a22, .int 0, .int 0, .int 0, .int 0, .ref a23, .ref a24, .ref a25, .int 0])), (a1, .inl (E.2.2 0, 25, .inl (fun _ => 0)))] 0 0
  refine mp_run hF mp_tabX10_ok [mp_h (.ifCond .eq 14) [26]] (by decide +kernel) ?_
  refine And.intro (fun _ => ?_) (fun c4 => absurd c4 (by decide))
  show mp_W E X 4 26 [(0, .ref a0), (1, .int x0), (2, .int x1), (3, .int x2)] [] [(a0, .inr (10, [.int 0, .ref a2, .ref a3, .ref a4, .ref a5, .ref a6, .int 0, .int 0, .int 0, .int 0, .int 0, .long 0, .int 0, .int 0, .int 0, .int (-1), .ref a7, .ref a1, .ref a8, .ref a9, .ref a10, .ref a11, .ref a12, .ref a13, .int 0, .ref a14, .ref a15, .ref a16, .ref a17, .int 0, .int 0, .int 0, .ref a18, .ref a19, .int 0, .int 0, .ref a20, .ref a21, .ref a22, .int 0, .int 0, .int 0, .int 0, .ref a23, .ref a24, .ref a25, .int 0])), (a1, .inl (E.2.2 0, 25, .inl (fun _ => 0)))] 0 0
  refine mp_run hF mp_tabX10_ok [mp_c (.bipush (-2)) (-2)] (by decide +kernel) ?_
  show mp_W E X 4 28 [(0, .ref a0), (1, .int x0), (2, .int x1), (3, .int x2)] [.int (-2)] [(a0, .inr (10, [.int 0, .ref a2, .ref a3, .ref a4, .ref a5, .ref a6, .int 0, .int 0, .int 0, .int 0, .int 0, .long 0, .int 0, .int 0, .int 0, .int (-1), .ref a7, .ref a1, .ref a8, .ref a9, .ref a10, .ref a11, .ref a12, .ref a13, .int 0, .ref a14, .ref a15, .ref a16, .ref a17, .int 0, .int 0, .int 0, .ref a18, .ref a19, .int 0, .int 0, .ref a20, .ref a21, .ref a22, .int 0, .int 0, .int 0, .int 0, .ref a23, .ref a24, .ref a25, .int 0])), (a1, .inl (E.2.2 0, 25, .inl (fun _ => 0)))] 0 0
  exact mp_iret hF hQ rfl rfl (Nat.le_of_ble_eq_true rfl) (Nat.le_of_ble_eq_true rfl) [] (w' := []) rfl rfl ⟨rfl, rfl⟩ (by decide +kernel)
set_option maxHeartbeats 4000000 in
set_option maxRecDepth 100000 in
theorem aX9_often_158 (E : mp_E) (a0 a1 a2 a3 a4 a5 a6 a7 a8 a9 a10 a11 a12 a13 a14 a15 a16 a17 a18 a19 a20 a21 a22 a23 a24 a25 a26 a27 a28 : Nat) (x0 : Int32) (x1 : Int32) (x2 : Int32) : mp_Ct E yX9_often cX9_often 4 (some FieldType.int) 2 0 0 44 [.ref a0, .int x0, .int x1, .int x2] [(a0, .inr (9, [.ref a3, .ref a1, .ref a4, .ref a5, .ref a6, .ref a7, .ref a8, .ref a9, .ref a10])), (a1, .inr (0, [.ref a2, .int 0, .ref a11, .ref a12, .ref a13, .ref a14, .ref a15, .ref a16])), (a2, .inr (7, [.int 0, .int 0, .int 0, .int 0, .int 0, .int 0, .ref a17, .ref a18, .ref a19, .ref a20, .ref a21, .ref a22, .ref a23, .ref a24, .ref a25, .ref a26, .ref a27, .ref a28]))] (fun v w' => v = some (.int (-2)) ∧ w' = []) := by
  refine mp_met false (by decide) (by decide) (Nat.le_of_ble_eq_true rfl) (fun X hF hQ => ?_)
  have hF : mp_F E X (RX9, cX9_often, 4, (2, 0, 0, 44), (some FieldType.int), false) := hF
  show mp_W E X 4 0 [(0, .ref a0), (1, .int x0), (2, .int x1), (3, .int x2)] [] [(a0, .inr (9, [.ref a3, .ref a1, .ref a4, .ref a5, .ref a6, .ref a7, .ref a8, .ref a9, .ref a10])), (a1, .inr (0, [.ref a2, .int 0, .ref a11, .ref a12, .ref a13, .ref a14, .ref a15, .ref a16])), (a2, .inr (7, [.int 0, .int 0, .int 0, .int 0, .int 0, .int 0, .ref a17, .ref a18, .ref a19, .ref a20, .ref a21, .ref a22, .ref a23, .ref a24, .ref a25, .ref a26, .ref a27, .ref a28]))] 0 0
  refine mp_run hF mp_tabX9_ok [mp_i (.aload_n 0), mp_i (.iload_n 1), mp_i (.iload_n 2), mp_i (.iload_n 3)] (by decide +kernel) ?_
  show mp_W E X 4 4 [(0, .ref a0), (1, .int x0), (2, .int x1), (3, .int x2)] [.int x2, .int x1, .int x0, .ref a0] [(a0, .inr (9, [.ref a3, .ref a1, .ref a4, .ref a5, .ref a6, .ref a7, .ref a8, .ref a9, .ref a10])), (a1, .inr (0, [.ref a2, .int 0, .ref a11, .ref a12, .ref a13, .ref a14, .ref a15, .ref a16])), (a2, .inr (7, [.int 0, .int 0, .int 0, .int 0, .int 0, .int 0, .ref a17, .ref a18, .ref a19, .ref a20, .ref a21, .ref a22, .ref a23, .ref a24, .ref a25, .ref a26, .ref a27, .ref a28]))] 0 0
  refine mp_callV hF (As := [.int x0, .int x1, .int x2]) (rest := []) (wr := []) (aX9_canDraw_152 E a0 a1 a2 a3 a4 a5 a6 a7 a8 a9 a10 a11 a12 a13 a14 a15 a16 a17 a18 a19 a20 a21 a22 a23 a24 a25 a26 a27 a28 x0 x1 x2) mp_lkX9_316 0 rfl [0, 1, 2] [] rfl rfl rfl rfl rfl ⟨(Nat.le_of_ble_eq_true rfl), (Nat.le_of_ble_eq_true rfl), (Nat.le_of_ble_eq_true rfl), (Nat.le_of_ble_eq_true rfl)⟩ (Nat.le_of_ble_eq_true rfl) (by decide +kernel) (fun v1 w2 h3 => ?_)
  obtain ⟨rfl, rfl⟩ := h3
  show mp_W E X 4 7 [(0, .ref a0), (1, .int x0), (2, .int x1), (3, .int x2)] [.int 0] [(a0, .inr (9, [.ref a3, .ref a1, .ref a4, .ref a5, .ref a6, .ref a7, .ref a8, .ref a9, .ref a10])), (a1, .inr (0, [.ref a2, .int 0, .ref a11, .ref a12, .ref a13, .ref a14, .ref a15, .ref a16])), (a2, .inr (7, [.int 0, .int 0, .int 0, .int 0, .int 0, .int 0, .ref a17, .ref a18, .ref a19, .ref a20, .ref a21, .ref a22, .ref a23, .ref a24, .ref a25, .ref a26, .ref a27, .ref a28]))] 0 0
  refine mp_run hF mp_tabX9_ok [mp_h (.ifCond .ne 6) [13]] (by decide +kernel) ?_
  refine And.intro (fun c4 => absurd c4 (by decide)) (fun _ => ?_)
  show mp_W E X 4 10 [(0, .ref a0), (1, .int x0), (2, .int x1), (3, .int x2)] [] [(a0, .inr (9, [.ref a3, .ref a1, .ref a4, .ref a5, .ref a6, .ref a7, .ref a8, .ref a9, .ref a10])), (a1, .inr (0, [.ref a2, .int 0, .ref a11, .ref a12, .ref a13, .ref a14, .ref a15, .ref a16])), (a2, .inr (7, [.int 0, .int 0, .int 0, .int 0, .int 0, .int 0, .ref a17, .ref a18, .ref a19, .ref a20, .ref a21, .ref a22, .ref a23, .ref a24, .ref a25, .ref a26, .ref a27, .ref a28]))] 0 0
  refine mp_run hF mp_tabX9_ok [mp_c (.bipush (-2)) (-2)] (by decide +kernel) ?_
  show mp_W E X 4 12 [(0, .ref a0), (1, .int x0), (2, .int x1), (3, .int x2)] [.int (-2)] [(a0, .inr (9, [.ref a3, .ref a1, .ref a4, .ref a5, .ref a6, .ref a7, .ref a8, .ref a9, .ref a10])), (a1, .inr (0, [.ref a2, .int 0, .ref a11, .ref a12, .ref a13, .ref a14, .ref a15, .ref a16])), (a2, .inr (7, [.int 0, .int 0, .int 0, .int 0, .int 0, .int 0, .ref a17, .ref a18, .ref a19, .ref a20, .ref a21, .ref a22, .ref a23, .ref a24, .ref a25, .ref a26, .ref a27, .ref a28]))] 0 0
  exact mp_iret hF hQ rfl rfl (Nat.le_of_ble_eq_true rfl) (Nat.le_of_ble_eq_true rfl) [] (w' := []) rfl rfl ⟨rfl, rfl⟩ (by decide +kernel)
set_option maxHeartbeats 4000000 in
set_option maxRecDepth 100000 in
theorem aX10_often_159 (E : mp_E) (a0 a1 a2 a3 a4 a5 a6 a7 a8 a9 a10 a11 a12 a13 a14 a15 a16 a17 a18 a19 a20 a21 a22 a23 a24 a25 : Nat) (x0 : Int32) (x1 : Int32) (x2 : Int32) : mp_Ct E yX10_often cX10_often 4 (some FieldType.int) 3 0 0 69 [.ref a0, .int x0, .int x1, .int x2] [(a0, .inr (10, [.int 0, .ref a2, .ref a3, .ref a4, .ref a5, .ref a6, .int 0, .int 0, .int 0, .int 0, .int 0, .long 0, .int 0, .int 0, .int 0, .int (-1), .ref a7, .ref a1, .ref a8, .ref a9, .ref a10, .ref a11, .ref a12, .ref a13, .int 0, .ref a14, .ref a15, .ref a16, .ref a17, .int 0, .int 0, .int 0, .ref a18, .ref a19, .int 0, .int 0, .ref a20, .ref a21, .ref a22, .int 0, .int 0, .int 0, .int 0, .ref a23, .ref a24, .ref a25, .int 0])), (a1, .inl (E.2.2 0, 25, .inl (fun _ => 0)))] (fun v w' => v = some (.int (-2)) ∧ w' = []) := by
  refine mp_met false (by decide) (by decide) (Nat.le_of_ble_eq_true rfl) (fun X hF hQ => ?_)
  have hF : mp_F E X (RX10, cX10_often, 4, (3, 0, 0, 69), (some FieldType.int), false) := hF
  show mp_W E X 4 0 [(0, .ref a0), (1, .int x0), (2, .int x1), (3, .int x2)] [] [(a0, .inr (10, [.int 0, .ref a2, .ref a3, .ref a4, .ref a5, .ref a6, .int 0, .int 0, .int 0, .int 0, .int 0, .long 0, .int 0, .int 0, .int 0, .int (-1), .ref a7, .ref a1, .ref a8, .ref a9, .ref a10, .ref a11, .ref a12, .ref a13, .int 0, .ref a14, .ref a15, .ref a16, .ref a17, .int 0, .int 0, .int 0, .ref a18, .ref a19, .int 0, .int 0, .ref a20, .ref a21, .ref a22, .int 0, .int 0, .int 0, .int 0, .ref a23, .ref a24, .ref a25, .int 0])), (a1, .inl (E.2.2 0, 25, .inl (fun _ => 0)))] 0 0
  refine mp_run hF mp_tabX10_ok [mp_i (.aload_n 0), mp_c (.iconst 0) 0, mp_h (.putfield 92) [0, 0]] (by decide +kernel) ?_
  refine And.intro rfl (And.intro rfl (And.intro rfl (And.intro rfl (And.intro (Nat.le_of_ble_eq_true rfl) ?_))))
  show mp_W E X 4 5 [(0, .ref a0), (1, .int x0), (2, .int x1), (3, .int x2)] [] [(a0, .inr (10, [.int 0, .ref a2, .ref a3, .ref a4, .ref a5, .ref a6, .int 0, .int 0, .int 0, .int 0, .int 0, .long 0, .int 0, .int 0, .int 0, .int (-1), .ref a7, .ref a1, .ref a8, .ref a9, .ref a10, .ref a11, .ref a12, .ref a13, .int 0, .ref a14, .ref a15, .ref a16, .ref a17, .int 0, .int 0, .int 0, .ref a18, .ref a19, .int 0, .int 0, .ref a20, .ref a21, .ref a22, .int 0, .int 0, .int 0, .int 0, .ref a23, .ref a24, .ref a25, .int 0])), (a1, .inl (E.2.2 0, 25, .inl (fun _ => 0)))] 0 0
  refine mp_run hF mp_tabX10_ok [mp_i (.aload_n 0), mp_i (.iload_n 1), mp_i (.iload_n 2), mp_i (.iload_n 3)] (by decide +kernel) ?_
  show mp_W E X 4 9 [(0, .ref a0), (1, .int x0), (2, .int x1), (3, .int x2)] [.int x2, .int x1, .int x0, .ref a0] [(a0, .inr (10, [.int 0, .ref a2, .ref a3, .ref a4, .ref a5, .ref a6, .int 0, .int 0, .int 0, .int 0, .int 0, .long 0, .int 0, .int 0, .int 0, .int (-1), .ref a7, .ref a1, .ref a8, .ref a9, .ref a10, .ref a11, .ref a12, .ref a13, .int 0, .ref a14, .ref a15, .ref a16, .ref a17, .int 0, .int 0, .int 0, .ref a18, .ref a19, .int 0, .int 0, .ref a20, .ref a21, .ref a22, .int 0, .int 0, .int 0, .int 0, .ref a23, .ref a24, .ref a25, .int 0])), (a1, .inl (E.2.2 0, 25, .inl (fun _ => 0)))] 0 0
  refine mp_callV hF (As := [.int x0, .int x1, .int x2]) (rest := []) (wr := []) (aX10_isDraw_156 E a0 a1 a2 a3 a4 a5 a6 a7 a8 a9 a10 a11 a12 a13 a14 a15 a16 a17 a18 a19 a20 a21 a22 a23 a24 a25 x0 x1 x2) mp_lkX10_467 0 rfl [0, 1] [] rfl rfl rfl rfl rfl ⟨(Nat.le_of_ble_eq_true rfl), (Nat.le_of_ble_eq_true rfl), (Nat.le_of_ble_eq_true rfl), (Nat.le_of_ble_eq_true rfl)⟩ (Nat.le_of_ble_eq_true rfl) (by decide +kernel) (fun v1 w2 h3 => ?_)
  obtain ⟨rfl, rfl⟩ := h3
  show mp_W E X 4 12 [(0, .ref a0), (1, .int x0), (2, .int x1), (3, .int x2)] [.int 0] [(a0, .inr (10, [.int 0, .ref a2, .ref a3, .ref a4, .ref a5, .ref a6, .int 0, .int 0, .int 0, .int 0, .int 0, .long 0, .int 0, .int 0, .int 0, .int (-1), .ref a7, .ref a1, .ref a8, .ref a9, .ref a10, .ref a11, .ref a12, .ref a13, .int 0, .ref a14, .ref a15, .ref a16, .ref a17, .int 0, .int 0, .int 0, .ref a18, .ref a19, .int 0, .int 0, .ref a20, .ref a21, .ref a22, .int 0, .int 0, .int 0, .int 0, .ref a23, .ref a24, .ref a25, .int 0])), (a1, .inl (E.2.2 0, 25, .inl (fun _ => 0)))] 0 0
  refine mp_run hF mp_tabX10_ok [mp_h (.ifCond .ne 6) [18]] (by decide +kernel) ?_
  refine And.intro (fun c4 => absurd c4 (by decide)) (fun _ => ?_)
  show mp_W E X 4 15 [(0, .ref a0), (1, .int x0), (2, .int x1), (3, .int x2)] [] [(a0, .inr (10, [.int 0, .ref a2, .ref a3, .ref a4, .ref a5, .ref a6, .int 0, .int 0, .int 0, .int 0, .int 0, .long 0, .int 0, .int 0, .int 0, .int (-1), .ref a7, .ref a1, .ref a8, .ref a9, .ref a10, .ref a11, .ref a12, .ref a13, .int 0, .ref a14, .ref a15, .ref a16, .ref a17, .int 0, .int 0, .int 0, .ref a18, .ref a19, .int 0, .int 0, .ref a20, .ref a21, .ref a22, .int 0, .int 0, .int 0, .int 0, .ref a23, .ref a24, .ref a25, .int 0])), (a1, .inl (E.2.2 0, 25, .inl (fun _ => 0)))] 0 0
  refine mp_run hF mp_tabX10_ok [mp_c (.bipush (-2)) (-2)] (by decide +kernel) ?_
  show mp_W E X 4 17 [(0, .ref a0), (1, .int x0), (2, .int x1), (3, .int x2)] [.int (-2)] [(a0, .inr (10, [.int 0, .ref a2, .ref a3, .ref a4, .ref a5, .ref a6, .int 0, .int 0, .int 0, .int 0, .int 0, .long 0, .int 0, .int 0, .int 0, .int (-1), .ref a7, .ref a1, .ref a8, .ref a9, .ref a10, .ref a11, .ref a12, .ref a13, .int 0, .ref a14, .ref a15, .ref a16, .ref a17, .int 0, .int 0, .int 0, .ref a18, .ref a19, .int 0, .int 0, .ref a20, .ref a21, .ref a22, .int 0, .int 0, .int 0, .int 0, .ref a23, .ref a24, .ref a25, .int 0])), (a1, .inl (E.2.2 0, 25, .inl (fun _ => 0)))] 0 0
  exact mp_iret hF hQ rfl rfl (Nat.le_of_ble_eq_true rfl) (Nat.le_of_ble_eq_true rfl) [] (w' := []) rfl rfl ⟨rfl, rfl⟩ (by decide +kernel)
set_option maxHeartbeats 4000000 in
set_option maxRecDepth 100000 in
theorem aX9_lucky_160 (E : mp_E) (a0 a1 a2 a3 a4 a5 a6 a7 a8 a9 a10 a11 a12 a13 a14 a15 a16 a17 a18 a19 a20 a21 a22 a23 a24 a25 a26 a27 a28 : Nat) (x0 : Int32) (x1 : Int32) (x2 : Int32) (x3 : Int32) : mp_Ct E yX9_lucky cX9_lucky 7 (some FieldType.int) 2 0 0 44 [.ref a0, .int x0, .int x1, .int x2, .int x3] [(a0, .inr (9, [.ref a3, .ref a1, .ref a4, .ref a5, .ref a6, .ref a7, .ref a8, .ref a9, .ref a10])), (a1, .inr (0, [.ref a2, .int 0, .ref a11, .ref a12, .ref a13, .ref a14, .ref a15, .ref a16])), (a2, .inr (7, [.int 0, .int 0, .int 0, .int 0, .int 0, .int 0, .ref a17, .ref a18, .ref a19, .ref a20, .ref a21, .ref a22, .ref a23, .ref a24, .ref a25, .ref a26, .ref a27, .ref a28]))] (fun v w' => v = some (.int (-2)) ∧ w' = []) := by
  refine mp_met false (by decide) (by decide) (Nat.le_of_ble_eq_true rfl) (fun X hF hQ => ?_)
  have hF : mp_F E X (RX9, cX9_lucky, 7, (2, 0, 0, 44), (some FieldType.int), false) := hF
  show mp_W E X 7 0 [(0, .ref a0), (1, .int x0), (2, .int x1), (3, .int x2), (4, .int x3)] [] [(a0, .inr (9, [.ref a3, .ref a1, .ref a4, .ref a5, .ref a6, .ref a7, .ref a8, .ref a9, .ref a10])), (a1, .inr (0, [.ref a2, .int 0, .ref a11, .ref a12, .ref a13, .ref a14, .ref a15, .ref a16])), (a2, .inr (7, [.int 0, .int 0, .int 0, .int 0, .int 0, .int 0, .ref a17, .ref a18, .ref a19, .ref a20, .ref a21, .ref a22, .ref a23, .ref a24, .ref a25, .ref a26, .ref a27, .ref a28]))] 0 0
  refine mp_run hF mp_tabX9_ok [mp_i (.aload_n 0), mp_i (.iload_n 1), mp_i (.iload_n 3), mp_i (.iload 4)] (by decide +kernel) ?_
  show mp_W E X 7 5 [(0, .ref a0), (1, .int x0), (2, .int x1), (3, .int x2), (4, .int x3)] [.int x3, .int x2, .int x0, .ref a0] [(a0, .inr (9, [.ref a3, .ref a1, .ref a4, .ref a5, .ref a6, .ref a7, .ref a8, .ref a9, .ref a10])), (a1, .inr (0, [.ref a2, .int 0, .ref a11, .ref a12, .ref a13, .ref a14, .ref a15, .ref a16])), (a2, .inr (7, [.int 0, .int 0, .int 0, .int 0, .int 0, .int 0, .ref a17, .ref a18, .ref a19, .ref a20, .ref a21, .ref a22, .ref a23, .ref a24, .ref a25, .ref a26, .ref a27, .ref a28]))] 0 0
  refine mp_callV hF (As := [.int x0, .int x2, .int x3]) (rest := []) (wr := []) (aX9_canDraw_152 E a0 a1 a2 a3 a4 a5 a6 a7 a8 a9 a10 a11 a12 a13 a14 a15 a16 a17 a18 a19 a20 a21 a22 a23 a24 a25 a26 a27 a28 x0 x2 x3) mp_lkX9_316 0 rfl [0, 1, 2] [] rfl rfl rfl rfl rfl ⟨(Nat.le_of_ble_eq_true rfl), (Nat.le_of_ble_eq_true rfl), (Nat.le_of_ble_eq_true rfl), (Nat.le_of_ble_eq_true rfl)⟩ (Nat.le_of_ble_eq_true rfl) (by decide +kernel) (fun v1 w2 h3 => ?_)
  obtain ⟨rfl, rfl⟩ := h3
  show mp_W E X 7 8 [(0, .ref a0), (1, .int x0), (2, .int x1), (3, .int x2), (4, .int x3)] [.int 0] [(a0, .inr (9, [.ref a3, .ref a1, .ref a4, .ref a5, .ref a6, .ref a7, .ref a8, .ref a9, .ref a10])), (a1, .inr (0, [.ref a2, .int 0, .ref a11, .ref a12, .ref a13, .ref a14, .ref a15, .ref a16])), (a2, .inr (7, [.int 0, .int 0, .int 0, .int 0, .int 0, .int 0, .ref a17, .ref a18, .ref a19, .ref a20, .ref a21, .ref a22, .ref a23, .ref a24, .ref a25, .ref a26, .ref a27, .ref a28]))] 0 0
  refine mp_run hF mp_tabX9_ok [mp_h (.ifCond .eq 14) [22]] (by decide +kernel) ?_
  refine And.intro (fun _ => ?_) (fun c4 => absurd c4 (by decide))
  show mp_W E X 7 22 [(0, .ref a0), (1, .int x0), (2, .int x1), (3, .int x2), (4, .int x3)] [] [(a0, .inr (9, [.ref a3, .ref a1, .ref a4, .ref a5, .ref a6, .ref a7, .ref a8, .ref a9, .ref a10])), (a1, .inr (0, [.ref a2, .int 0, .ref a11, .ref a12, .ref a13, .ref a14, .ref a15, .ref a16])), (a2, .inr (7, [.int 0, .int 0, .int 0, .int 0, .int 0, .int 0, .ref a17, .ref a18, .ref a19, .ref a20, .ref a21, .ref a22, .ref a23, .ref a24, .ref a25, .ref a26, .ref a27, .ref a28]))] 0 0
  refine mp_run hF mp_tabX9_ok [mp_c (.bipush (-2)) (-2)] (by decide +kernel) ?_
  show mp_W E X 7 24 [(0, .ref a0), (1, .int x0), (2, .int x1), (3, .int x2), (4, .int x3)] [.int (-2)] [(a0, .inr (9, [.ref a3, .ref a1, .ref a4, .ref a5, .ref a6, .ref a7, .ref a8, .ref a9, .ref a10])), (a1, .inr (0, [.ref a2, .int 0, .ref a11, .ref a12, .ref a13, .ref a14, .ref a15, .ref a16])), (a2, .inr (7, [.int 0, .int 0, .int 0, .int 0, .int 0, .int 0, .ref a17, .ref a18, .ref a19, .ref a20, .ref a21, .ref a22, .ref a23, .ref a24, .ref a25, .ref a26, .ref a27, .ref a28]))] 0 0
  exact mp_iret hF hQ rfl rfl (Nat.le_of_ble_eq_true rfl) (Nat.le_of_ble_eq_true rfl) [] (w' := []) rfl rfl ⟨rfl, rfl⟩ (by decide +kernel)
set_option maxHeartbeats 4000000 in
set_option maxRecDepth 100000 in
theorem aX10_lucky_161 (E : mp_E) (a0 a1 a2 a3 a4 a5 a6 a7 a8 a9 a10 a11 a12 a13 a14 a15 a16 a17 a18 a19 a20 a21 a22 a23 a24 a25 : Nat) (x0 : Int32) (x1 : Int32) (x2 : Int32) (x3 : Int32) : mp_Ct E yX10_lucky cX10_lucky 7 (some FieldType.int) 3 0 0 69 [.ref a0, .int x0, .int x1, .int x2, .int x3] [(a0, .inr (10, [.int 0, .ref a2, .ref a3, .ref a4, .ref a5, .ref a6, .int 0, .int 0, .int 0, .int 0, .int 0, .long 0, .int 0, .int 0, .int 0, .int (-1), .ref a7, .ref a1, .ref a8, .ref a9, .ref a10, .ref a11, .ref a12, .ref a13, .int 0, .ref a14, .ref a15, .ref a16, .ref a17, .int 0, .int 0, .int 0, .ref a18, .ref a19, .int 0, .int 0, .ref a20, .ref a21, .ref a22, .int 0, .int 0, .int 0, .int 0, .ref a23, .ref a24, .ref a25, .int 0])), (a1, .inl (E.2.2 0, 25, .inl (fun _ => 0)))] (fun v w' => v = some (.int (-2)) ∧ w' = []) := by
  refine mp_met false (by decide) (by decide) (Nat.le_of_ble_eq_true rfl) (fun X hF hQ => ?_)
  have hF : mp_F E X (RX10, cX10_lucky, 7, (3, 0, 0, 69), (some FieldType.int), false) := hF
  show mp_W E X 7 0 [(0, .ref a0), (1, .int x0), (2, .int x1), (3, .int x2), (4, .int x3)] [] [(a0, .inr (10, [.int 0, .ref a2, .ref a3, .ref a4, .ref a5, .ref a6, .int 0, .int 0, .int 0, .int 0, .int 0, .long 0, .int 0, .int 0, .int 0, .int (-1), .ref a7, .ref a1, .ref a8, .ref a9, .ref a10, .ref a11, .ref a12, .ref a13, .int 0, .ref a14, .ref a15, .ref a16, .ref a17, .int 0, .int 0, .int 0, .ref a18, .ref a19, .int 0, .int 0, .ref a20, .ref a21, .ref a22, .int 0, .int 0, .int 0, .int 0, .ref a23, .ref a24, .ref a25, .int 0])), (a1, .inl (E.2.2 0, 25, .inl (fun _ => 0)))] 0 0
  refine mp_run hF mp_tabX10_ok [mp_i (.aload_n 0), mp_c (.iconst 0) 0, mp_h (.putfield 92) [0, 0]] (by decide +kernel) ?_
  refine And.intro rfl (And.intro rfl (And.intro rfl (And.intro rfl (And.intro (Nat.le_of_ble_eq_true rfl) ?_))))
  show mp_W E X 7 5 [(0, .ref a0), (1, .int x0), (2, .int x1), (3, .int x2), (4, .int x3)] [] [(a0, .inr (10, [.int 0, .ref a2, .ref a3, .ref a4, .ref a5, .ref a6, .int 0, .int 0, .int 0, .int 0, .int 0, .long 0, .int 0, .int 0, .int 0, .int (-1), .ref a7, .ref a1, .ref a8, .ref a9, .ref a10, .ref a11, .ref a12, .ref a13, .int 0, .ref a14, .ref a15, .ref a16, .ref a17, .int 0, .int 0, .int 0, .ref a18, .ref a19, .int 0, .int 0, .ref a20, .ref a21, .ref a22, .int 0, .int 0, .int 0, .int 0, .ref a23, .ref a24, .ref a25, .int 0])), (a1, .inl (E.2.2 0, 25, .inl (fun _ => 0)))] 0 0
  refine mp_run hF mp_tabX10_ok [mp_i (.aload_n 0), mp_i (.iload_n 1), mp_i (.iload_n 3), mp_i (.iload 4)] (by decide +kernel) ?_
  show mp_W E X 7 10 [(0, .ref a0), (1, .int x0), (2, .int x1), (3, .int x2), (4, .int x3)] [.int x3, .int x2, .int x0, .ref a0] [(a0, .inr (10, [.int 0, .ref a2, .ref a3, .ref a4, .ref a5, .ref a6, .int 0, .int 0, .int 0, .int 0, .int 0, .long 0, .int 0, .int 0, .int 0, .int (-1), .ref a7, .ref a1, .ref a8, .ref a9, .ref a10, .ref a11, .ref a12, .ref a13, .int 0, .ref a14, .ref a15, .ref a16, .ref a17, .int 0, .int 0, .int 0, .ref a18, .ref a19, .int 0, .int 0, .ref a20, .ref a21, .ref a22, .int 0, .int 0, .int 0, .int 0, .ref a23, .ref a24, .ref a25, .int 0])), (a1, .inl (E.2.2 0, 25, .inl (fun _ => 0)))] 0 0
  refine mp_callV hF (As := [.int x0, .int x2, .int x3]) (rest := []) (wr := []) (aX10_isDraw_156 E a0 a1 a2 a3 a4 a5 a6 a7 a8 a9 a10 a11 a12 a13 a14 a15 a16 a17 a18 a19 a20 a21 a22 a23 a24 a25 x0 x2 x3) mp_lkX10_467 0 rfl [0, 1] [] rfl rfl rfl rfl rfl ⟨(Nat.le_of_ble_eq_true rfl), (Nat.le_of_ble_eq_true rfl), (Nat.le_of_ble_eq_true rfl), (Nat.le_of_ble_eq_true rfl)⟩ (Nat.le_of_ble_eq_true rfl) (by decide +kernel) (fun v1 w2 h3 => ?_)
  obtain ⟨rfl, rfl⟩ := h3
  show mp_W E X 7 13 [(0, .ref a0), (1, .int x0), (2, .int x1), (3, .int x2), (4, .int x3)] [.int 0] [(a0, .inr (10, [.int 0, .ref a2, .ref a3, .ref a4, .ref a5, .ref a6, .int 0, .int 0, .int 0, .int 0, .int 0, .long 0, .int 0, .int 0, .int 0, .int (-1), .ref a7, .ref a1, .ref a8, .ref a9, .ref a10, .ref a11, .ref a12, .ref a13, .int 0, .ref a14, .ref a15, .ref a16, .ref a17, .int 0, .int 0, .int 0, .ref a18, .ref a19, .int 0, .int 0, .ref a20, .ref a21, .ref a22, .int 0, .int 0, .int 0, .int 0, .ref a23, .ref a24, .ref a25, .int 0])), (a1, .inl (E.2.2 0, 25, .inl (fun _ => 0)))] 0 0
  refine mp_run hF mp_tabX10_ok [mp_h (.ifCond .eq 15) [28]] (by decide +kernel) ?_
  refine And.intro (fun _ => ?_) (fun c4 => absurd c4 (by decide))
  show mp_W E X 7 28 [(0, .ref a0), (1, .int x0), (2, .int x1), (3, .int x2), (4, .int x3)] [] [(a0, .inr (10, [.int 0, .ref a2, .ref a3, .ref a4, .ref a5, .ref a6, .int 0, .int 0, .int 0, .int 0, .int 0, .long 0, .int 0, .int 0, .int 0, .int (-1), .ref a7, .ref a1, .ref a8, .ref a9, .ref a10, .ref a11, .ref a12, .ref a13, .int 0, .ref a14, .ref a15, .ref a16, .ref a17, .int 0, .int 0, .int 0, .ref a18, .ref a19, .int 0, .int 0, .ref a20, .ref a21, .ref a22, .int 0, .int 0, .int 0, .int 0, .ref a23, .ref a24, .ref a25, .int 0])), (a1, .inl (E.2.2 0, 25, .inl (fun _ => 0)))] 0 0
  refine mp_run hF mp_tabX10_ok [mp_c (.bipush (-2)) (-2)] (by decide +kernel) ?_
  show mp_W E X 7 30 [(0, .ref a0), (1, .int x0), (2, .int x1), (3, .int x2), (4, .int x3)] [.int (-2)] [(a0, .inr (10, [.int 0, .ref a2, .ref a3, .ref a4, .ref a5, .ref a6, .int 0, .int 0, .int 0, .int 0, .int 0, .long 0, .int 0, .int 0, .int 0, .int (-1), .ref a7, .ref a1, .ref a8, .ref a9, .ref a10, .ref a11, .ref a12, .ref a13, .int 0, .ref a14, .ref a15, .ref a16, .ref a17, .int 0, .int 0, .int 0, .ref a18, .ref a19, .int 0, .int 0, .ref a20, .ref a21, .ref a22, .int 0, .int 0, .int 0, .int 0, .ref a23, .ref a24, .ref a25, .int 0])), (a1, .inl (E.2.2 0, 25, .inl (fun _ => 0)))] 0 0
  exact mp_iret hF hQ rfl rfl (Nat.le_of_ble_eq_true rfl) (Nat.le_of_ble_eq_true rfl) [] (w' := []) rfl rfl ⟨rfl, rfl⟩ (by decide +kernel)
set_option maxHeartbeats 4000000 in
set_option maxRecDepth 100000 in
theorem aX9_promises_162 (E : mp_E) (a0 a1 a2 a3 a4 a5 a6 a7 a8 a9 a10 a11 a12 a13 a14 a15 a16 a17 a18 a19 a20 a21 a22 a23 a24 a25 a26 a27 a28 : Nat) (x0 : Int32) (x1 : Int32) (x2 : Int32) : mp_Ct E yX9_promises cX9_promises 5 (some FieldType.int) 2 0 0 43 [.ref a0, .int x0, .int x1, .int x2] [(a0, .inr (9, [.ref a3, .ref a1, .ref a4, .ref a5, .ref a6, .ref a7, .ref a8, .ref a9, .ref a10])), (a1, .inr (0, [.ref a2, .int 0, .ref a11, .ref a12, .ref a13, .ref a14, .ref a15, .ref a16])), (a2, .inr (7, [.int 0, .int 0, .int 0, .int 0, .int 0, .int 0, .ref a17, .ref a18, .ref a19, .ref a20, .ref a21, .ref a22, .ref a23, .ref a24, .ref a25, .ref a26, .ref a27, .ref a28]))] (fun v w' => v = some (.int (-2)) ∧ w' = []) := by
  refine mp_met false (by decide) (by decide) (Nat.le_of_ble_eq_true rfl) (fun X hF hQ => ?_)
  have hF : mp_F E X (RX9, cX9_promises, 5, (2, 0, 0, 43), (some FieldType.int), false) := hF
  show mp_W E X 5 0 [(0, .ref a0), (1, .int x0), (2, .int x1), (3, .int x2)] [] [(a0, .inr (9, [.ref a3, .ref a1, .ref a4, .ref a5, .ref a6, .ref a7, .ref a8, .ref a9, .ref a10])), (a1, .inr (0, [.ref a2, .int 0, .ref a11, .ref a12, .ref a13, .ref a14, .ref a15, .ref a16])), (a2, .inr (7, [.int 0, .int 0, .int 0, .int 0, .int 0, .int 0, .ref a17, .ref a18, .ref a19, .ref a20, .ref a21, .ref a22, .ref a23, .ref a24, .ref a25, .ref a26, .ref a27, .ref a28]))] 0 0
  refine mp_run hF mp_tabX9_ok [mp_i (.aload_n 0), mp_h (.getfield 19) [37, 0], mp_h (.getfield 83) [20, 1], mp_i (.astore 4), mp_i (.aload_n 0), mp_i (.iload_n 1), mp_i (.iload_n 2)] (by decide +kernel) ?_
  refine And.intro rfl (And.intro rfl ?_)
  refine And.intro rfl (And.intro rfl ?_)
  show mp_W E X 5 12 [(4, .ref a2), (0, .ref a0), (1, .int x0), (2, .int x1), (3, .int x2)] [.int x1, .int x0, .ref a0] [(a0, .inr (9, [.ref a3, .ref a1, .ref a4, .ref a5, .ref a6, .ref a7, .ref a8, .ref a9, .ref a10])), (a1, .inr (0, [.ref a2, .int 0, .ref a11, .ref a12, .ref a13, .ref a14, .ref a15, .ref a16])), (a2, .inr (7, [.int 0, .int 0, .int 0, .int 0, .int 0, .int 0, .ref a17, .ref a18, .ref a19, .ref a20, .ref a21, .ref a22, .ref a23, .ref a24, .ref a25, .ref a26, .ref a27, .ref a28]))] 0 0
  refine mp_callV hF (As := [.int x0, .int x1]) (rest := []) (wr := []) (aX9_arePair_61 E a0 a1 a2 a3 a4 a5 a6 a7 a8 a9 a10 a11 a12 a13 a14 a15 a16 a17 a18 a19 a20 a21 a22 a23 a24 a25 a26 a27 a28 x0 x1) mp_lkX9_169 0 rfl [0, 1, 2] [] rfl rfl rfl rfl rfl ⟨(Nat.le_of_ble_eq_true rfl), (Nat.le_of_ble_eq_true rfl), (Nat.le_of_ble_eq_true rfl), (Nat.le_of_ble_eq_true rfl)⟩ (Nat.le_of_ble_eq_true rfl) (by decide +kernel) (fun v1 w2 h3 => ?_)
  obtain ⟨rfl, rfl⟩ := h3
  show mp_W E X 5 15 [(4, .ref a2), (0, .ref a0), (1, .int x0), (2, .int x1), (3, .int x2)] [.int 0] [(a0, .inr (9, [.ref a3, .ref a1, .ref a4, .ref a5, .ref a6, .ref a7, .ref a8, .ref a9, .ref a10])), (a1, .inr (0, [.ref a2, .int 0, .ref a11, .ref a12, .ref a13, .ref a14, .ref a15, .ref a16])), (a2, .inr (7, [.int 0, .int 0, .int 0, .int 0, .int 0, .int 0, .ref a17, .ref a18, .ref a19, .ref a20, .ref a21, .ref a22, .ref a23, .ref a24, .ref a25, .ref a26, .ref a27, .ref a28]))] 0 0
  refine mp_run hF mp_tabX9_ok [mp_h (.ifCond .eq 15) [30]] (by decide +kernel) ?_
  refine And.intro (fun _ => ?_) (fun c4 => absurd c4 (by decide))
  show mp_W E X 5 30 [(4, .ref a2), (0, .ref a0), (1, .int x0), (2, .int x1), (3, .int x2)] [] [(a0, .inr (9, [.ref a3, .ref a1, .ref a4, .ref a5, .ref a6, .ref a7, .ref a8, .ref a9, .ref a10])), (a1, .inr (0, [.ref a2, .int 0, .ref a11, .ref a12, .ref a13, .ref a14, .ref a15, .ref a16])), (a2, .inr (7, [.int 0, .int 0, .int 0, .int 0, .int 0, .int 0, .ref a17, .ref a18, .ref a19, .ref a20, .ref a21, .ref a22, .ref a23, .ref a24, .ref a25, .ref a26, .ref a27, .ref a28]))] 0 0
  refine mp_run hF mp_tabX9_ok [mp_c (.bipush (-2)) (-2)] (by decide +kernel) ?_
  show mp_W E X 5 32 [(4, .ref a2), (0, .ref a0), (1, .int x0), (2, .int x1), (3, .int x2)] [.int (-2)] [(a0, .inr (9, [.ref a3, .ref a1, .ref a4, .ref a5, .ref a6, .ref a7, .ref a8, .ref a9, .ref a10])), (a1, .inr (0, [.ref a2, .int 0, .ref a11, .ref a12, .ref a13, .ref a14, .ref a15, .ref a16])), (a2, .inr (7, [.int 0, .int 0, .int 0, .int 0, .int 0, .int 0, .ref a17, .ref a18, .ref a19, .ref a20, .ref a21, .ref a22, .ref a23, .ref a24, .ref a25, .ref a26, .ref a27, .ref a28]))] 0 0
  exact mp_iret hF hQ rfl rfl (Nat.le_of_ble_eq_true rfl) (Nat.le_of_ble_eq_true rfl) [] (w' := []) rfl rfl ⟨rfl, rfl⟩ (by decide +kernel)
set_option maxHeartbeats 4000000 in
set_option maxRecDepth 100000 in
theorem aX10_promises_163 (E : mp_E) (a0 a1 a2 a3 a4 a5 a6 a7 a8 a9 a10 a11 a12 a13 a14 a15 a16 a17 a18 a19 a20 a21 a22 a23 a24 a25 : Nat) (x0 : Int32) (x1 : Int32) (x2 : Int32) : mp_Ct E yX10_promises cX10_promises 5 (some FieldType.int) 3 0 0 68 [.ref a0, .int x0, .int x1, .int x2] [(a0, .inr (10, [.int 0, .ref a2, .ref a3, .ref a4, .ref a5, .ref a6, .int 0, .int 0, .int 0, .int 0, .int 0, .long 0, .int 0, .int 0, .int 0, .int (-1), .ref a7, .ref a1, .ref a8, .ref a9, .ref a10, .ref a11, .ref a12, .ref a13, .int 0, .ref a14, .ref a15, .ref a16, .ref a17, .int 0, .int 0, .int 0, .ref a18, .ref a19, .int 0, .int 0, .ref a20, .ref a21, .ref a22, .int 0, .int 0, .int 0, .int 0, .ref a23, .ref a24, .ref a25, .int 0])), (a1, .inl (E.2.2 0, 25, .inl (fun _ => 0)))] (fun v w' => v = some (.int (-2)) ∧ w' = []) := by
  refine mp_met false (by decide) (by decide) (Nat.le_of_ble_eq_true rfl) (fun X hF hQ => ?_)
  have hF : mp_F E X (RX10, cX10_promises, 5, (3, 0, 0, 68), (some FieldType.int), false) := hF
  show mp_W E X 5 0 [(0, .ref a0), (1, .int x0), (2, .int x1), (3, .int x2)] [] [(a0, .inr (10, [.int 0, .ref a2, .ref a3, .ref a4, .ref a5, .ref a6, .int 0, .int 0, .int 0, .int 0, .int 0, .long 0, .int 0, .int 0, .int 0, .int (-1), .ref a7, .ref a1, .ref a8, .ref a9, .ref a10, .ref a11, .ref a12, .ref a13, .int 0, .ref a14, .ref a15, .ref a16, .ref a17, .int 0, .int 0, .int 0, .ref a18, .ref a19, .int 0, .int 0, .ref a20, .ref a21, .ref a22, .int 0, .int 0, .int 0, .int 0, .ref a23, .ref a24, .ref a25, .int 0])), (a1, .inl (E.2.2 0, 25, .inl (fun _ => 0)))] 0 0
  refine mp_run hF mp_tabX10_ok [mp_i (.aload_n 0), mp_c (.iconst 0) 0, mp_h (.putfield 92) [0, 0]] (by decide +kernel) ?_
  refine And.intro rfl (And.intro rfl (And.intro rfl (And.intro rfl (And.intro (Nat.le_of_ble_eq_true rfl) ?_))))
  show mp_W E X 5 5 [(0, .ref a0), (1, .int x0), (2, .int x1), (3, .int x2)] [] [(a0, .inr (10, [.int 0, .ref a2, .ref a3, .ref a4, .ref a5, .ref a6, .int 0, .int 0, .int 0, .int 0, .int 0, .long 0, .int 0, .int 0, .int 0, .int (-1), .ref a7, .ref a1, .ref a8, .ref a9, .ref a10, .ref a11, .ref a12, .ref a13, .int 0, .ref a14, .ref a15, .ref a16, .ref a17, .int 0, .int 0, .int 0, .ref a18, .ref a19, .int 0, .int 0, .ref a20, .ref a21, .ref a22, .int 0, .int 0, .int 0, .int 0, .ref a23, .ref a24, .ref a25, .int 0])), (a1, .inl (E.2.2 0, 25, .inl (fun _ => 0)))] 0 0
  refine mp_run hF mp_tabX10_ok [mp_i (.aload_n 0), mp_i (.iload_n 1), mp_i (.iload_n 2)] (by decide +kernel) ?_
  show mp_W E X 5 8 [(0, .ref a0), (1, .int x0), (2, .int x1), (3, .int x2)] [.int x1, .int x0, .ref a0] [(a0, .inr (10, [.int 0, .ref a2, .ref a3, .ref a4, .ref a5, .ref a6, .int 0, .int 0, .int 0, .int 0, .int 0, .long 0, .int 0, .int 0, .int 0, .int (-1), .ref a7, .ref a1, .ref a8, .ref a9, .ref a10, .ref a11, .ref a12, .ref a13, .int 0, .ref a14, .ref a15, .ref a16, .ref a17, .int 0, .int 0, .int 0, .ref a18, .ref a19, .int 0, .int 0, .ref a20, .ref a21, .ref a22, .int 0, .int 0, .int 0, .int 0, .ref a23, .ref a24, .ref a25, .int 0])), (a1, .inl (E.2.2 0, 25, .inl (fun _ => 0)))] 0 0
  refine mp_callV hF (As := [.int x0, .int x1]) (rest := []) (wr := []) (aX10_areTwo_63 E a0 a1 a2 a3 a4 a5 a6 a7 a8 a9 a10 a11 a12 a13 a14 a15 a16 a17 a18 a19 a20 a21 a22 a23 a24 a25 x0 x1) mp_lkX10_294 0 rfl [0, 1] [] rfl rfl rfl rfl rfl ⟨(Nat.le_of_ble_eq_true rfl), (Nat.le_of_ble_eq_true rfl), (Nat.le_of_ble_eq_true rfl), (Nat.le_of_ble_eq_true rfl)⟩ (Nat.le_of_ble_eq_true rfl) (by decide +kernel) (fun v1 w2 h3 => ?_)
  obtain ⟨rfl, rfl⟩ := h3
  show mp_W E X 5 11 [(0, .ref a0), (1, .int x0), (2, .int x1), (3, .int x2)] [.int 0] [(a0, .inr (10, [.int 0, .ref a2, .ref a3, .ref a4, .ref a5, .ref a6, .int 0, .int 0, .int 0, .int 0, .int 0, .long 0, .int 0, .int 0, .int 0, .int (-1), .ref a7, .ref a1, .ref a8, .ref a9, .ref a10, .ref a11, .ref a12, .ref a13, .int 0, .ref a14, .ref a15, .ref a16, .ref a17, .int 0, .int 0, .int 0, .ref a18, .ref a19, .int 0, .int 0, .ref a20, .ref a21, .ref a22, .int 0, .int 0, .int 0, .int 0, .ref a23, .ref a24, .ref a25, .int 0])), (a1, .inl (E.2.2 0, 25, .inl (fun _ => 0)))] 0 0
  refine mp_run hF mp_tabX10_ok [mp_h (.ifCond .eq 15) [26]] (by decide +kernel) ?_
  refine And.intro (fun _ => ?_) (fun c4 => absurd c4 (by decide))
  show mp_W E X 5 26 [(0, .ref a0), (1, .int x0), (2, .int x1), (3, .int x2)] [] [(a0, .inr (10, [.int 0, .ref a2, .ref a3, .ref a4, .ref a5, .ref a6, .int 0, .int 0, .int 0, .int 0, .int 0, .long 0, .int 0, .int 0, .int 0, .int (-1), .ref a7, .ref a1, .ref a8, .ref a9, .ref a10, .ref a11, .ref a12, .ref a13, .int 0, .ref a14, .ref a15, .ref a16, .ref a17, .int 0, .int 0, .int 0, .ref a18, .ref a19, .int 0, .int 0, .ref a20, .ref a21, .ref a22, .int 0, .int 0, .int 0, .int 0, .ref a23, .ref a24, .ref a25, .int 0])), (a1, .inl (E.2.2 0, 25, .inl (fun _ => 0)))] 0 0
  refine mp_run hF mp_tabX10_ok [mp_c (.bipush (-2)) (-2)] (by decide +kernel) ?_
  show mp_W E X 5 28 [(0, .ref a0), (1, .int x0), (2, .int x1), (3, .int x2)] [.int (-2)] [(a0, .inr (10, [.int 0, .ref a2, .ref a3, .ref a4, .ref a5, .ref a6, .int 0, .int 0, .int 0, .int 0, .int 0, .long 0, .int 0, .int 0, .int 0, .int (-1), .ref a7, .ref a1, .ref a8, .ref a9, .ref a10, .ref a11, .ref a12, .ref a13, .int 0, .ref a14, .ref a15, .ref a16, .ref a17, .int 0, .int 0, .int 0, .ref a18, .ref a19, .int 0, .int 0, .ref a20, .ref a21, .ref a22, .int 0, .int 0, .int 0, .int 0, .ref a23, .ref a24, .ref a25, .int 0])), (a1, .inl (E.2.2 0, 25, .inl (fun _ => 0)))] 0 0
  exact mp_iret hF hQ rfl rfl (Nat.le_of_ble_eq_true rfl) (Nat.le_of_ble_eq_true rfl) [] (w' := []) rfl rfl ⟨rfl, rfl⟩ (by decide +kernel)
set_option maxHeartbeats 4000000 in
set_option maxRecDepth 100000 in
theorem aX9_shuts_164 (E : mp_E) (a0 a1 a2 a3 a4 a5 a6 a7 a8 a9 a10 a11 a12 a13 a14 a15 a16 a17 a18 a19 a20 a21 a22 a23 a24 a25 a26 a27 a28 : Nat) (x0 : Int32) (x1 : Int32) (x2 : Int32) : mp_Ct E yX9_shuts cX9_shuts 6 (some FieldType.int) 1 0 0 21 [.ref a0, .int x0, .int x1, .int x2] [(a0, .inr (9, [.ref a3, .ref a1, .ref a4, .ref a5, .ref a6, .ref a7, .ref a8, .ref a9, .ref a10])), (a1, .inr (0, [.ref a2, .int 0, .ref a11, .ref a12, .ref a13, .ref a14, .ref a15, .ref a16])), (a2, .inr (7, [.int 0, .int 0, .int 0, .int 0, .int 0, .int 0, .ref a17, .ref a18, .ref a19, .ref a20, .ref a21, .ref a22, .ref a23, .ref a24, .ref a25, .ref a26, .ref a27, .ref a28]))] (fun v w' => v = some (.int (-2)) ∧ w' = []) := by
  refine mp_met false (by decide) (by decide) (Nat.le_of_ble_eq_true rfl) (fun X hF hQ => ?_)
  have hF : mp_F E X (RX9, cX9_shuts, 6, (1, 0, 0, 21), (some FieldType.int), false) := hF
  show mp_W E X 6 0 [(0, .ref a0), (1, .int x0), (2, .int x1), (3, .int x2)] [] [(a0, .inr (9, [.ref a3, .ref a1, .ref a4, .ref a5, .ref a6, .ref a7, .ref a8, .ref a9, .ref a10])), (a1, .inr (0, [.ref a2, .int 0, .ref a11, .ref a12, .ref a13, .ref a14, .ref a15, .ref a16])), (a2, .inr (7, [.int 0, .int 0, .int 0, .int 0, .int 0, .int 0, .ref a17, .ref a18, .ref a19, .ref a20, .ref a21, .ref a22, .ref a23, .ref a24, .ref a25, .ref a26, .ref a27, .ref a28]))] 0 0
  refine mp_run hF mp_tabX9_ok [mp_i (.aload_n 0), mp_h (.getfield 19) [37, 0], mp_h (.getfield 83) [20, 1], mp_i (.astore 4), mp_i (.aload 4), mp_i (.iload_n 1)] (by decide +kernel) ?_
  refine And.intro rfl (And.intro rfl ?_)
  refine And.intro rfl (And.intro rfl ?_)
  show mp_W E X 6 12 [(4, .ref a2), (0, .ref a0), (1, .int x0), (2, .int x1), (3, .int x2)] [.int x0, .ref a2] [(a0, .inr (9, [.ref a3, .ref a1, .ref a4, .ref a5, .ref a6, .ref a7, .ref a8, .ref a9, .ref a10])), (a1, .inr (0, [.ref a2, .int 0, .ref a11, .ref a12, .ref a13, .ref a14, .ref a15, .ref a16])), (a2, .inr (7, [.int 0, .int 0, .int 0, .int 0, .int 0, .int 0, .ref a17, .ref a18, .ref a19, .ref a20, .ref a21, .ref a22, .ref a23, .ref a24, .ref a25, .ref a26, .ref a27, .ref a28]))] 0 0
  refine mp_callV hF (As := [.int x0]) (rest := []) (wr := [(a0, .inr (9, [.ref a3, .ref a1, .ref a4, .ref a5, .ref a6, .ref a7, .ref a8, .ref a9, .ref a10])), (a1, .inr (0, [.ref a2, .int 0, .ref a11, .ref a12, .ref a13, .ref a14, .ref a15, .ref a16]))]) (aX7_isIsle_49 E a2 a17 a18 a19 a20 a21 a22 a23 a24 a25 a26 a27 a28 x0) mp_lkX9_141 2 rfl [2] [0, 1] rfl rfl rfl rfl rfl ⟨(Nat.le_of_ble_eq_true rfl), (Nat.le_of_ble_eq_true rfl), (Nat.le_of_ble_eq_true rfl), (Nat.le_of_ble_eq_true rfl)⟩ (Nat.le_of_ble_eq_true rfl) (by decide +kernel) (fun v1 w2 h3 => ?_)
  obtain ⟨rfl, rfl⟩ := h3
  show mp_W E X 6 15 [(4, .ref a2), (0, .ref a0), (1, .int x0), (2, .int x1), (3, .int x2)] [.int 0] [(a0, .inr (9, [.ref a3, .ref a1, .ref a4, .ref a5, .ref a6, .ref a7, .ref a8, .ref a9, .ref a10])), (a1, .inr (0, [.ref a2, .int 0, .ref a11, .ref a12, .ref a13, .ref a14, .ref a15, .ref a16])), (a2, .inr (7, [.int 0, .int 0, .int 0, .int 0, .int 0, .int 0, .ref a17, .ref a18, .ref a19, .ref a20, .ref a21, .ref a22, .ref a23, .ref a24, .ref a25, .ref a26, .ref a27, .ref a28]))] 0 0
  refine mp_run hF mp_tabX9_ok [mp_h (.ifCond .eq 19) [34]] (by decide +kernel) ?_
  refine And.intro (fun _ => ?_) (fun c4 => absurd c4 (by decide))
  show mp_W E X 6 34 [(4, .ref a2), (0, .ref a0), (1, .int x0), (2, .int x1), (3, .int x2)] [] [(a0, .inr (9, [.ref a3, .ref a1, .ref a4, .ref a5, .ref a6, .ref a7, .ref a8, .ref a9, .ref a10])), (a1, .inr (0, [.ref a2, .int 0, .ref a11, .ref a12, .ref a13, .ref a14, .ref a15, .ref a16])), (a2, .inr (7, [.int 0, .int 0, .int 0, .int 0, .int 0, .int 0, .ref a17, .ref a18, .ref a19, .ref a20, .ref a21, .ref a22, .ref a23, .ref a24, .ref a25, .ref a26, .ref a27, .ref a28]))] 0 0
  refine mp_run hF mp_tabX9_ok [mp_c (.bipush (-2)) (-2)] (by decide +kernel) ?_
  show mp_W E X 6 36 [(4, .ref a2), (0, .ref a0), (1, .int x0), (2, .int x1), (3, .int x2)] [.int (-2)] [(a0, .inr (9, [.ref a3, .ref a1, .ref a4, .ref a5, .ref a6, .ref a7, .ref a8, .ref a9, .ref a10])), (a1, .inr (0, [.ref a2, .int 0, .ref a11, .ref a12, .ref a13, .ref a14, .ref a15, .ref a16])), (a2, .inr (7, [.int 0, .int 0, .int 0, .int 0, .int 0, .int 0, .ref a17, .ref a18, .ref a19, .ref a20, .ref a21, .ref a22, .ref a23, .ref a24, .ref a25, .ref a26, .ref a27, .ref a28]))] 0 0
  exact mp_iret hF hQ rfl rfl (Nat.le_of_ble_eq_true rfl) (Nat.le_of_ble_eq_true rfl) [] (w' := []) rfl rfl ⟨rfl, rfl⟩ (by decide +kernel)
set_option maxHeartbeats 4000000 in
set_option maxRecDepth 100000 in
theorem aX10_shuts_165 (E : mp_E) (a0 a1 a2 a3 a4 a5 a6 a7 a8 a9 a10 a11 a12 a13 a14 a15 a16 a17 a18 a19 a20 a21 a22 a23 a24 a25 : Nat) (x0 : Int32) (x1 : Int32) (x2 : Int32) : mp_Ct E yX10_shuts cX10_shuts 5 (some FieldType.int) 2 0 0 46 [.ref a0, .int x0, .int x1, .int x2] [(a0, .inr (10, [.int 0, .ref a2, .ref a3, .ref a4, .ref a5, .ref a6, .int 0, .int 0, .int 0, .int 0, .int 0, .long 0, .int 0, .int 0, .int 0, .int (-1), .ref a7, .ref a1, .ref a8, .ref a9, .ref a10, .ref a11, .ref a12, .ref a13, .int 0, .ref a14, .ref a15, .ref a16, .ref a17, .int 0, .int 0, .int 0, .ref a18, .ref a19, .int 0, .int 0, .ref a20, .ref a21, .ref a22, .int 0, .int 0, .int 0, .int 0, .ref a23, .ref a24, .ref a25, .int 0])), (a1, .inl (E.2.2 0, 25, .inl (fun _ => 0)))] (fun v w' => v = some (.int (-2)) ∧ w' = []) := by
  refine mp_met false (by decide) (by decide) (Nat.le_of_ble_eq_true rfl) (fun X hF hQ => ?_)
  have hF : mp_F E X (RX10, cX10_shuts, 5, (2, 0, 0, 46), (some FieldType.int), false) := hF
  show mp_W E X 5 0 [(0, .ref a0), (1, .int x0), (2, .int x1), (3, .int x2)] [] [(a0, .inr (10, [.int 0, .ref a2, .ref a3, .ref a4, .ref a5, .ref a6, .int 0, .int 0, .int 0, .int 0, .int 0, .long 0, .int 0, .int 0, .int 0, .int (-1), .ref a7, .ref a1, .ref a8, .ref a9, .ref a10, .ref a11, .ref a12, .ref a13, .int 0, .ref a14, .ref a15, .ref a16, .ref a17, .int 0, .int 0, .int 0, .ref a18, .ref a19, .int 0, .int 0, .ref a20, .ref a21, .ref a22, .int 0, .int 0, .int 0, .int 0, .ref a23, .ref a24, .ref a25, .int 0])), (a1, .inl (E.2.2 0, 25, .inl (fun _ => 0)))] 0 0
  refine mp_run hF mp_tabX10_ok [mp_i (.aload_n 0), mp_c (.iconst 0) 0, mp_h (.putfield 92) [0, 0]] (by decide +kernel) ?_
  refine And.intro rfl (And.intro rfl (And.intro rfl (And.intro rfl (And.intro (Nat.le_of_ble_eq_true rfl) ?_))))
  show mp_W E X 5 5 [(0, .ref a0), (1, .int x0), (2, .int x1), (3, .int x2)] [] [(a0, .inr (10, [.int 0, .ref a2, .ref a3, .ref a4, .ref a5, .ref a6, .int 0, .int 0, .int 0, .int 0, .int 0, .long 0, .int 0, .int 0, .int 0, .int (-1), .ref a7, .ref a1, .ref a8, .ref a9, .ref a10, .ref a11, .ref a12, .ref a13, .int 0, .ref a14, .ref a15, .ref a16, .ref a17, .int 0, .int 0, .int 0, .ref a18, .ref a19, .int 0, .int 0, .ref a20, .ref a21, .ref a22, .int 0, .int 0, .int 0, .int 0, .ref a23, .ref a24, .ref a25, .int 0])), (a1, .inl (E.2.2 0, 25, .inl (fun _ => 0)))] 0 0
  refine mp_run hF mp_tabX10_ok [mp_i (.aload_n 0), mp_i (.iload_n 1)] (by decide +kernel) ?_
  show mp_W E X 5 7 [(0, .ref a0), (1, .int x0), (2, .int x1), (3, .int x2)] [.int x0, .ref a0] [(a0, .inr (10, [.int 0, .ref a2, .ref a3, .ref a4, .ref a5, .ref a6, .int 0, .int 0, .int 0, .int 0, .int 0, .long 0, .int 0, .int 0, .int 0, .int (-1), .ref a7, .ref a1, .ref a8, .ref a9, .ref a10, .ref a11, .ref a12, .ref a13, .int 0, .ref a14, .ref a15, .ref a16, .ref a17, .int 0, .int 0, .int 0, .ref a18, .ref a19, .int 0, .int 0, .ref a20, .ref a21, .ref a22, .int 0, .int 0, .int 0, .int 0, .ref a23, .ref a24, .ref a25, .int 0])), (a1, .inl (E.2.2 0, 25, .inl (fun _ => 0)))] 0 0
  refine mp_callV hF (As := [.int x0]) (rest := []) (wr := []) (aX10_isIsle_51 E a0 a1 a2 a3 a4 a5 a6 a7 a8 a9 a10 a11 a12 a13 a14 a15 a16 a17 a18 a19 a20 a21 a22 a23 a24 a25 x0) mp_lkX10_270 0 rfl [0, 1] [] rfl rfl rfl rfl rfl ⟨(Nat.le_of_ble_eq_true rfl), (Nat.le_of_ble_eq_true rfl), (Nat.le_of_ble_eq_true rfl), (Nat.le_of_ble_eq_true rfl)⟩ (Nat.le_of_ble_eq_true rfl) (by decide +kernel) (fun v1 w2 h3 => ?_)
  obtain ⟨rfl, rfl⟩ := h3
  show mp_W E X 5 10 [(0, .ref a0), (1, .int x0), (2, .int x1), (3, .int x2)] [.int 0] [(a0, .inr (10, [.int 0, .ref a2, .ref a3, .ref a4, .ref a5, .ref a6, .int 0, .int 0, .int 0, .int 0, .int 0, .long 0, .int 0, .int 0, .int 0, .int (-1), .ref a7, .ref a1, .ref a8, .ref a9, .ref a10, .ref a11, .ref a12, .ref a13, .int 0, .ref a14, .ref a15, .ref a16, .ref a17, .int 0, .int 0, .int 0, .ref a18, .ref a19, .int 0, .int 0, .ref a20, .ref a21, .ref a22, .int 0, .int 0, .int 0, .int 0, .ref a23, .ref a24, .ref a25, .int 0])), (a1, .inl (E.2.2 0, 25, .inl (fun _ => 0)))] 0 0
  refine mp_run hF mp_tabX10_ok [mp_h (.ifCond .eq 20) [30]] (by decide +kernel) ?_
  refine And.intro (fun _ => ?_) (fun c4 => absurd c4 (by decide))
  show mp_W E X 5 30 [(0, .ref a0), (1, .int x0), (2, .int x1), (3, .int x2)] [] [(a0, .inr (10, [.int 0, .ref a2, .ref a3, .ref a4, .ref a5, .ref a6, .int 0, .int 0, .int 0, .int 0, .int 0, .long 0, .int 0, .int 0, .int 0, .int (-1), .ref a7, .ref a1, .ref a8, .ref a9, .ref a10, .ref a11, .ref a12, .ref a13, .int 0, .ref a14, .ref a15, .ref a16, .ref a17, .int 0, .int 0, .int 0, .ref a18, .ref a19, .int 0, .int 0, .ref a20, .ref a21, .ref a22, .int 0, .int 0, .int 0, .int 0, .ref a23, .ref a24, .ref a25, .int 0])), (a1, .inl (E.2.2 0, 25, .inl (fun _ => 0)))] 0 0
  refine mp_run hF mp_tabX10_ok [mp_c (.bipush (-2)) (-2)] (by decide +kernel) ?_
  show mp_W E X 5 32 [(0, .ref a0), (1, .int x0), (2, .int x1), (3, .int x2)] [.int (-2)] [(a0, .inr (10, [.int 0, .ref a2, .ref a3, .ref a4, .ref a5, .ref a6, .int 0, .int 0, .int 0, .int 0, .int 0, .long 0, .int 0, .int 0, .int 0, .int (-1), .ref a7, .ref a1, .ref a8, .ref a9, .ref a10, .ref a11, .ref a12, .ref a13, .int 0, .ref a14, .ref a15, .ref a16, .ref a17, .int 0, .int 0, .int 0, .ref a18, .ref a19, .int 0, .int 0, .ref a20, .ref a21, .ref a22, .int 0, .int 0, .int 0, .int 0, .ref a23, .ref a24, .ref a25, .int 0])), (a1, .inl (E.2.2 0, 25, .inl (fun _ => 0)))] 0 0
  exact mp_iret hF hQ rfl rfl (Nat.le_of_ble_eq_true rfl) (Nat.le_of_ble_eq_true rfl) [] (w' := []) rfl rfl ⟨rfl, rfl⟩ (by decide +kernel)
set_option maxHeartbeats 4000000 in
set_option maxRecDepth 100000 in
theorem aX9_tends_166 (E : mp_E) (a0 a1 a2 a3 a4 a5 a6 a7 a8 a9 a10 a11 a12 a13 a14 a15 a16 a17 a18 a19 a20 a21 a22 a23 a24 a25 a26 a27 a28 : Nat) (x0 : Int32) (x1 : Int32) : mp_Ct E yX9_tends cX9_tends 4 (some FieldType.int) 1 0 0 21 [.ref a0, .int x0, .int x1] [(a0, .inr (9, [.ref a3, .ref a1, .ref a4, .ref a5, .ref a6, .ref a7, .ref a8, .ref a9, .ref a10])), (a1, .inr (0, [.ref a2, .int 0, .ref a11, .ref a12, .ref a13, .ref a14, .ref a15, .ref a16])), (a2, .inr (7, [.int 0, .int 0, .int 0, .int 0, .int 0, .int 0, .ref a17, .ref a18, .ref a19, .ref a20, .ref a21, .ref a22, .ref a23, .ref a24, .ref a25, .ref a26, .ref a27, .ref a28]))] (fun v w' => v = some (.int (-2)) ∧ w' = []) := by
  refine mp_met false (by decide) (by decide) (Nat.le_of_ble_eq_true rfl) (fun X hF hQ => ?_)
  have hF : mp_F E X (RX9, cX9_tends, 4, (1, 0, 0, 21), (some FieldType.int), false) := hF
  show mp_W E X 4 0 [(0, .ref a0), (1, .int x0), (2, .int x1)] [] [(a0, .inr (9, [.ref a3, .ref a1, .ref a4, .ref a5, .ref a6, .ref a7, .ref a8, .ref a9, .ref a10])), (a1, .inr (0, [.ref a2, .int 0, .ref a11, .ref a12, .ref a13, .ref a14, .ref a15, .ref a16])), (a2, .inr (7, [.int 0, .int 0, .int 0, .int 0, .int 0, .int 0, .ref a17, .ref a18, .ref a19, .ref a20, .ref a21, .ref a22, .ref a23, .ref a24, .ref a25, .ref a26, .ref a27, .ref a28]))] 0 0
  refine mp_run hF mp_tabX9_ok [mp_i (.aload_n 0), mp_h (.getfield 19) [37, 0], mp_h (.getfield 83) [20, 1], mp_i (.iload_n 1)] (by decide +kernel) ?_
  refine And.intro rfl (And.intro rfl ?_)
  refine And.intro rfl (And.intro rfl ?_)
  show mp_W E X 4 8 [(0, .ref a0), (1, .int x0), (2, .int x1)] [.int x0, .ref a2] [(a0, .inr (9, [.ref a3, .ref a1, .ref a4, .ref a5, .ref a6, .ref a7, .ref a8, .ref a9, .ref a10])), (a1, .inr (0, [.ref a2, .int 0, .ref a11, .ref a12, .ref a13, .ref a14, .ref a15, .ref a16])), (a2, .inr (7, [.int 0, .int 0, .int 0, .int 0, .int 0, .int 0, .ref a17, .ref a18, .ref a19, .ref a20, .ref a21, .ref a22, .ref a23, .ref a24, .ref a25, .ref a26, .ref a27, .ref a28]))] 0 0
  refine mp_callV hF (As := [.int x0]) (rest := []) (wr := [(a0, .inr (9, [.ref a3, .ref a1, .ref a4, .ref a5, .ref a6, .ref a7, .ref a8, .ref a9, .ref a10])), (a1, .inr (0, [.ref a2, .int 0, .ref a11, .ref a12, .ref a13, .ref a14, .ref a15, .ref a16]))]) (aX7_isPerson_40 E a2 a17 a18 a19 a20 a21 a22 a23 a24 a25 a26 a27 a28 x0) mp_lkX9_106 2 rfl [2] [0, 1] rfl rfl rfl rfl rfl ⟨(Nat.le_of_ble_eq_true rfl), (Nat.le_of_ble_eq_true rfl), (Nat.le_of_ble_eq_true rfl), (Nat.le_of_ble_eq_true rfl)⟩ (Nat.le_of_ble_eq_true rfl) (by decide +kernel) (fun v1 w2 h3 => ?_)
  obtain ⟨rfl, rfl⟩ := h3
  show mp_W E X 4 11 [(0, .ref a0), (1, .int x0), (2, .int x1)] [.int 0] [(a0, .inr (9, [.ref a3, .ref a1, .ref a4, .ref a5, .ref a6, .ref a7, .ref a8, .ref a9, .ref a10])), (a1, .inr (0, [.ref a2, .int 0, .ref a11, .ref a12, .ref a13, .ref a14, .ref a15, .ref a16])), (a2, .inr (7, [.int 0, .int 0, .int 0, .int 0, .int 0, .int 0, .ref a17, .ref a18, .ref a19, .ref a20, .ref a21, .ref a22, .ref a23, .ref a24, .ref a25, .ref a26, .ref a27, .ref a28]))] 0 0
  refine mp_run hF mp_tabX9_ok [mp_h (.ifCond .eq 13) [24]] (by decide +kernel) ?_
  refine And.intro (fun _ => ?_) (fun c4 => absurd c4 (by decide))
  show mp_W E X 4 24 [(0, .ref a0), (1, .int x0), (2, .int x1)] [] [(a0, .inr (9, [.ref a3, .ref a1, .ref a4, .ref a5, .ref a6, .ref a7, .ref a8, .ref a9, .ref a10])), (a1, .inr (0, [.ref a2, .int 0, .ref a11, .ref a12, .ref a13, .ref a14, .ref a15, .ref a16])), (a2, .inr (7, [.int 0, .int 0, .int 0, .int 0, .int 0, .int 0, .ref a17, .ref a18, .ref a19, .ref a20, .ref a21, .ref a22, .ref a23, .ref a24, .ref a25, .ref a26, .ref a27, .ref a28]))] 0 0
  refine mp_run hF mp_tabX9_ok [mp_c (.bipush (-2)) (-2)] (by decide +kernel) ?_
  show mp_W E X 4 26 [(0, .ref a0), (1, .int x0), (2, .int x1)] [.int (-2)] [(a0, .inr (9, [.ref a3, .ref a1, .ref a4, .ref a5, .ref a6, .ref a7, .ref a8, .ref a9, .ref a10])), (a1, .inr (0, [.ref a2, .int 0, .ref a11, .ref a12, .ref a13, .ref a14, .ref a15, .ref a16])), (a2, .inr (7, [.int 0, .int 0, .int 0, .int 0, .int 0, .int 0, .ref a17, .ref a18, .ref a19, .ref a20, .ref a21, .ref a22, .ref a23, .ref a24, .ref a25, .ref a26, .ref a27, .ref a28]))] 0 0
  exact mp_iret hF hQ rfl rfl (Nat.le_of_ble_eq_true rfl) (Nat.le_of_ble_eq_true rfl) [] (w' := []) rfl rfl ⟨rfl, rfl⟩ (by decide +kernel)
set_option maxHeartbeats 4000000 in
set_option maxRecDepth 100000 in
theorem aX10_tends_167 (E : mp_E) (a0 a1 a2 a3 a4 a5 a6 a7 a8 a9 a10 a11 a12 a13 a14 a15 a16 a17 a18 a19 a20 a21 a22 a23 a24 a25 : Nat) (x0 : Int32) (x1 : Int32) : mp_Ct E yX10_tends cX10_tends 4 (some FieldType.int) 2 0 0 46 [.ref a0, .int x0, .int x1] [(a0, .inr (10, [.int 0, .ref a2, .ref a3, .ref a4, .ref a5, .ref a6, .int 0, .int 0, .int 0, .int 0, .int 0, .long 0, .int 0, .int 0, .int 0, .int (-1), .ref a7, .ref a1, .ref a8, .ref a9, .ref a10, .ref a11, .ref a12, .ref a13, .int 0, .ref a14, .ref a15, .ref a16, .ref a17, .int 0, .int 0, .int 0, .ref a18, .ref a19, .int 0, .int 0, .ref a20, .ref a21, .ref a22, .int 0, .int 0, .int 0, .int 0, .ref a23, .ref a24, .ref a25, .int 0])), (a1, .inl (E.2.2 0, 25, .inl (fun _ => 0)))] (fun v w' => v = some (.int (-2)) ∧ w' = []) := by
  refine mp_met false (by decide) (by decide) (Nat.le_of_ble_eq_true rfl) (fun X hF hQ => ?_)
  have hF : mp_F E X (RX10, cX10_tends, 4, (2, 0, 0, 46), (some FieldType.int), false) := hF
  show mp_W E X 4 0 [(0, .ref a0), (1, .int x0), (2, .int x1)] [] [(a0, .inr (10, [.int 0, .ref a2, .ref a3, .ref a4, .ref a5, .ref a6, .int 0, .int 0, .int 0, .int 0, .int 0, .long 0, .int 0, .int 0, .int 0, .int (-1), .ref a7, .ref a1, .ref a8, .ref a9, .ref a10, .ref a11, .ref a12, .ref a13, .int 0, .ref a14, .ref a15, .ref a16, .ref a17, .int 0, .int 0, .int 0, .ref a18, .ref a19, .int 0, .int 0, .ref a20, .ref a21, .ref a22, .int 0, .int 0, .int 0, .int 0, .ref a23, .ref a24, .ref a25, .int 0])), (a1, .inl (E.2.2 0, 25, .inl (fun _ => 0)))] 0 0
  refine mp_run hF mp_tabX10_ok [mp_i (.aload_n 0), mp_c (.iconst 0) 0, mp_h (.putfield 92) [0, 0]] (by decide +kernel) ?_
  refine And.intro rfl (And.intro rfl (And.intro rfl (And.intro rfl (And.intro (Nat.le_of_ble_eq_true rfl) ?_))))
  show mp_W E X 4 5 [(0, .ref a0), (1, .int x0), (2, .int x1)] [] [(a0, .inr (10, [.int 0, .ref a2, .ref a3, .ref a4, .ref a5, .ref a6, .int 0, .int 0, .int 0, .int 0, .int 0, .long 0, .int 0, .int 0, .int 0, .int (-1), .ref a7, .ref a1, .ref a8, .ref a9, .ref a10, .ref a11, .ref a12, .ref a13, .int 0, .ref a14, .ref a15, .ref a16, .ref a17, .int 0, .int 0, .int 0, .ref a18, .ref a19, .int 0, .int 0, .ref a20, .ref a21, .ref a22, .int 0, .int 0, .int 0, .int 0, .ref a23, .ref a24, .ref a25, .int 0])), (a1, .inl (E.2.2 0, 25, .inl (fun _ => 0)))] 0 0
  refine mp_run hF mp_tabX10_ok [mp_i (.aload_n 0), mp_i (.iload_n 1)] (by decide +kernel) ?_
  show mp_W E X 4 7 [(0, .ref a0), (1, .int x0), (2, .int x1)] [.int x0, .ref a0] [(a0, .inr (10, [.int 0, .ref a2, .ref a3, .ref a4, .ref a5, .ref a6, .int 0, .int 0, .int 0, .int 0, .int 0, .long 0, .int 0, .int 0, .int 0, .int (-1), .ref a7, .ref a1, .ref a8, .ref a9, .ref a10, .ref a11, .ref a12, .ref a13, .int 0, .ref a14, .ref a15, .ref a16, .ref a17, .int 0, .int 0, .int 0, .ref a18, .ref a19, .int 0, .int 0, .ref a20, .ref a21, .ref a22, .int 0, .int 0, .int 0, .int 0, .ref a23, .ref a24, .ref a25, .int 0])), (a1, .inl (E.2.2 0, 25, .inl (fun _ => 0)))] 0 0
  refine mp_callV hF (As := [.int x0]) (rest := []) (wr := []) (aX10_isPerson_43 E a0 a1 a2 a3 a4 a5 a6 a7 a8 a9 a10 a11 a12 a13 a14 a15 a16 a17 a18 a19 a20 a21 a22 a23 a24 a25 x0) mp_lkX10_255 0 rfl [0, 1] [] rfl rfl rfl rfl rfl ⟨(Nat.le_of_ble_eq_true rfl), (Nat.le_of_ble_eq_true rfl), (Nat.le_of_ble_eq_true rfl), (Nat.le_of_ble_eq_true rfl)⟩ (Nat.le_of_ble_eq_true rfl) (by decide +kernel) (fun v1 w2 h3 => ?_)
  obtain ⟨rfl, rfl⟩ := h3
  show mp_W E X 4 10 [(0, .ref a0), (1, .int x0), (2, .int x1)] [.int 0] [(a0, .inr (10, [.int 0, .ref a2, .ref a3, .ref a4, .ref a5, .ref a6, .int 0, .int 0, .int 0, .int 0, .int 0, .long 0, .int 0, .int 0, .int 0, .int (-1), .ref a7, .ref a1, .ref a8, .ref a9, .ref a10, .ref a11, .ref a12, .ref a13, .int 0, .ref a14, .ref a15, .ref a16, .ref a17, .int 0, .int 0, .int 0, .ref a18, .ref a19, .int 0, .int 0, .ref a20, .ref a21, .ref a22, .int 0, .int 0, .int 0, .int 0, .ref a23, .ref a24, .ref a25, .int 0])), (a1, .inl (E.2.2 0, 25, .inl (fun _ => 0)))] 0 0
  refine mp_run hF mp_tabX10_ok [mp_h (.ifCond .eq 15) [25]] (by decide +kernel) ?_
  refine And.intro (fun _ => ?_) (fun c4 => absurd c4 (by decide))
  show mp_W E X 4 25 [(0, .ref a0), (1, .int x0), (2, .int x1)] [] [(a0, .inr (10, [.int 0, .ref a2, .ref a3, .ref a4, .ref a5, .ref a6, .int 0, .int 0, .int 0, .int 0, .int 0, .long 0, .int 0, .int 0, .int 0, .int (-1), .ref a7, .ref a1, .ref a8, .ref a9, .ref a10, .ref a11, .ref a12, .ref a13, .int 0, .ref a14, .ref a15, .ref a16, .ref a17, .int 0, .int 0, .int 0, .ref a18, .ref a19, .int 0, .int 0, .ref a20, .ref a21, .ref a22, .int 0, .int 0, .int 0, .int 0, .ref a23, .ref a24, .ref a25, .int 0])), (a1, .inl (E.2.2 0, 25, .inl (fun _ => 0)))] 0 0
  refine mp_run hF mp_tabX10_ok [mp_c (.bipush (-2)) (-2)] (by decide +kernel) ?_
  show mp_W E X 4 27 [(0, .ref a0), (1, .int x0), (2, .int x1)] [.int (-2)] [(a0, .inr (10, [.int 0, .ref a2, .ref a3, .ref a4, .ref a5, .ref a6, .int 0, .int 0, .int 0, .int 0, .int 0, .long 0, .int 0, .int 0, .int 0, .int (-1), .ref a7, .ref a1, .ref a8, .ref a9, .ref a10, .ref a11, .ref a12, .ref a13, .int 0, .ref a14, .ref a15, .ref a16, .ref a17, .int 0, .int 0, .int 0, .ref a18, .ref a19, .int 0, .int 0, .ref a20, .ref a21, .ref a22, .int 0, .int 0, .int 0, .int 0, .ref a23, .ref a24, .ref a25, .int 0])), (a1, .inl (E.2.2 0, 25, .inl (fun _ => 0)))] 0 0
  exact mp_iret hF hQ rfl rfl (Nat.le_of_ble_eq_true rfl) (Nat.le_of_ble_eq_true rfl) [] (w' := []) rfl rfl ⟨rfl, rfl⟩ (by decide +kernel)
set_option maxHeartbeats 4000000 in
set_option maxRecDepth 100000 in
theorem aX7_countSeas_168 (E : mp_E) (a0 a1 a2 a3 a4 a5 a6 a7 a8 a9 a10 a11 a12 : Nat) : mp_Ct E yX7_countSeas cX7_countSeas 3 (some FieldType.int) 0 0 0 0 [.ref a0] [(a0, .inr (7, [.int 0, .int 0, .int 0, .int 0, .int 0, .int 0, .ref a1, .ref a2, .ref a3, .ref a4, .ref a5, .ref a6, .ref a7, .ref a8, .ref a9, .ref a10, .ref a11, .ref a12])), (a1, .inl (E.2.2 0, 36, .inl (fun _ => 0)))] (fun v w' => v = some (.int 0) ∧ w' = [(a0, .inr (7, [.int 0, .int 0, .int 0, .int 0, .int 0, .int 0, .ref a1, .ref a2, .ref a3, .ref a4, .ref a5, .ref a6, .ref a7, .ref a8, .ref a9, .ref a10, .ref a11, .ref a12])), (a1, .inl (E.2.2 0, 36, .inl (fun _ => 0)))]) := by
  refine mp_met false (by decide) (by decide) (Nat.le_of_ble_eq_true rfl) (fun X hF hQ => ?_)
  have hF : mp_F E X (RX7, cX7_countSeas, 3, (0, 0, 0, 0), (some FieldType.int), false) := hF
  show mp_W E X 3 0 [(0, .ref a0)] [] [(a0, .inr (7, [.int 0, .int 0, .int 0, .int 0, .int 0, .int 0, .ref a1, .ref a2, .ref a3, .ref a4, .ref a5, .ref a6, .ref a7, .ref a8, .ref a9, .ref a10, .ref a11, .ref a12])), (a1, .inl (E.2.2 0, 36, .inl (fun _ => 0)))] 0 0
  refine mp_run hF mp_tabX7_ok [mp_c (.iconst 0) 0, mp_i (.istore_n 1), mp_c (.iconst 0) 0, mp_i (.istore_n 2)] (by decide +kernel) ?_
  show mp_W E X 3 4 [(2, .int 0), (1, .int 0), (0, .ref a0)] [] [(a0, .inr (7, [.int 0, .int 0, .int 0, .int 0, .int 0, .int 0, .ref a1, .ref a2, .ref a3, .ref a4, .ref a5, .ref a6, .ref a7, .ref a8, .ref a9, .ref a10, .ref a11, .ref a12])), (a1, .inl (E.2.2 0, 36, .inl (fun _ => 0)))] 0 0
  have lp1 : ∀ (d2 : Nat) (i4 : Int32), 0 ≤ i4.toInt → i4.toInt + d2 = 36 → mp_W E X 3 4 [(2, .int i4), (1, .int 0), (0, .ref a0)] [] [(a0, .inr (7, [.int 0, .int 0, .int 0, .int 0, .int 0, .int 0, .ref a1, .ref a2, .ref a3, .ref a4, .ref a5, .ref a6, .ref a7, .ref a8, .ref a9, .ref a10, .ref a11, .ref a12])), (a1, .inl (E.2.2 0, 36, .inl (fun _ => 0)))] 0 0 := by
    intro d2
    induction d2 with
    | zero =>
      intro i4  h5 h6
      refine mp_run hF mp_tabX7_ok [mp_i (.iload_n 2), mp_i (.aload_n 0), mp_h (.getfield 9) [6, 0], mp_h .arraylength [1, 0], mp_h (.if_icmp .ge 21) [31]] (by decide +kernel) ?_
      refine And.intro rfl (And.intro rfl ?_)
      refine And.intro rfl (And.intro rfl (And.intro (by decide) ?_))
      intro z7 h8
      obtain rfl : z7 = 36 := h8.trans (by decide)
      refine And.intro (fun c9 => ?_) (fun c9 => ?_)
      · have c9 : 36 ≤ i4.toInt := c9
        show mp_W E X 3 31 [(2, .int i4), (1, .int 0), (0, .ref a0)] [] [(a0, .inr (7, [.int 0, .int 0, .int 0, .int 0, .int 0, .int 0, .ref a1, .ref a2, .ref a3, .ref a4, .ref a5, .ref a6, .ref a7, .ref a8, .ref a9, .ref a10, .ref a11, .ref a12])), (a1, .inl (E.2.2 0, 36, .inl (fun _ => 0)))] 0 0
        refine mp_run hF mp_tabX7_ok [mp_i (.iload_n 1), mp_c (.iconst 2) 2, mp_i .idiv] (by decide +kernel) ?_
        refine And.intro (by decide) ?_
        intro z10 h11
        obtain rfl : z10 = 0 := h11.trans (by decide)
        show mp_W E X 3 34 [(2, .int i4), (1, .int 0), (0, .ref a0)] [.int 0] [(a0, .inr (7, [.int 0, .int 0, .int 0, .int 0, .int 0, .int 0, .ref a1, .ref a2, .ref a3, .ref a4, .ref a5, .ref a6, .ref a7, .ref a8, .ref a9, .ref a10, .ref a11, .ref a12])), (a1, .inl (E.2.2 0, 36, .inl (fun _ => 0)))] 0 0
        exact mp_iret hF hQ rfl rfl (Nat.le_of_ble_eq_true rfl) (Nat.le_of_ble_eq_true rfl) [0, 1] (w' := [(a0, .inr (7, [.int 0, .int 0, .int 0, .int 0, .int 0, .int 0, .ref a1, .ref a2, .ref a3, .ref a4, .ref a5, .ref a6, .ref a7, .ref a8, .ref a9, .ref a10, .ref a11, .ref a12])), (a1, .inl (E.2.2 0, 36, .inl (fun _ => 0)))]) rfl rfl ⟨rfl, rfl⟩ (by decide +kernel)
      · have c9 : i4.toInt < 36 := c9
        exfalso; omega
    | succ d2 ih3 =>
      intro i4  h5 h6
      refine mp_run hF mp_tabX7_ok [mp_i (.iload_n 2), mp_i (.aload_n 0), mp_h (.getfield 9) [6, 0], mp_h .arraylength [1, 0], mp_h (.if_icmp .ge 21) [31]] (by decide +kernel) ?_
      refine And.intro rfl (And.intro rfl ?_)
      refine And.intro rfl (And.intro rfl (And.intro (by decide) ?_))
      intro z12 h13
      obtain rfl : z12 = 36 := h13.trans (by decide)
      refine And.intro (fun c14 => ?_) (fun c14 => ?_)
      · have c14 : 36 ≤ i4.toInt := c14
        exfalso; omega
      · have c14 : i4.toInt < 36 := c14
        show mp_W E X 3 13 [(2, .int i4), (1, .int 0), (0, .ref a0)] [] [(a0, .inr (7, [.int 0, .int 0, .int 0, .int 0, .int 0, .int 0, .ref a1, .ref a2, .ref a3, .ref a4, .ref a5, .ref a6, .ref a7, .ref a8, .ref a9, .ref a10, .ref a11, .ref a12])), (a1, .inl (E.2.2 0, 36, .inl (fun _ => 0)))] 0 0
        refine mp_run hF mp_tabX7_ok [mp_i (.aload_n 0), mp_h (.getfield 9) [6, 0], mp_i (.iload_n 2), mp_h .iaload [1], mp_h (.ifCond .le 6) [25]] (by decide +kernel) ?_
        refine And.intro rfl (And.intro rfl ?_)
        refine And.intro rfl (And.intro rfl (And.intro (vp_in_iff.mpr (by omega)) ?_))
        intro z15 h16
        obtain rfl : z15 = 0 := h16
        refine And.intro (fun _ => ?_) (fun c17 => absurd c17 (by decide))
        show mp_W E X 3 25 [(2, .int i4), (1, .int 0), (0, .ref a0)] [] [(a0, .inr (7, [.int 0, .int 0, .int 0, .int 0, .int 0, .int 0, .ref a1, .ref a2, .ref a3, .ref a4, .ref a5, .ref a6, .ref a7, .ref a8, .ref a9, .ref a10, .ref a11, .ref a12])), (a1, .inl (E.2.2 0, 36, .inl (fun _ => 0)))] 0 0
        refine mp_run hF mp_tabX7_ok [mp_c (.iinc 2 1) 1, mp_h (.goto (-24)) [4]] (by decide +kernel) ?_
        intro z18 h19
        have e20 : z18.toInt = i4.toInt + 1 := mp_add (a := i4.toInt) (b := 1) h19 rfl (by decide) (by omega) (by omega)
        show mp_W E X 3 4 [(2, .int z18), (1, .int 0), (0, .ref a0)] [] [(a0, .inr (7, [.int 0, .int 0, .int 0, .int 0, .int 0, .int 0, .ref a1, .ref a2, .ref a3, .ref a4, .ref a5, .ref a6, .ref a7, .ref a8, .ref a9, .ref a10, .ref a11, .ref a12])), (a1, .inl (E.2.2 0, 36, .inl (fun _ => 0)))] 0 0
        exact mp_sub [0, 1, 2] rfl [0, 1] rfl rfl (ih3 z18  (by omega) (by omega))
  exact mp_sub [0, 1, 2] rfl [0, 1] rfl rfl (lp1 36 0  (by decide) (by decide))
set_option maxHeartbeats 4000000 in
set_option maxRecDepth 100000 in
theorem aJ13_bitCount_95d88_169 (E : mp_E)  : mp_Ct E yJ13_bitCount_95d88 cJ13_bitCount_95d88 2 (some FieldType.int) 0 0 0 0 [.long 0] [] (fun v w' => v = some (.int 0) ∧ w' = []) := by
  refine mp_met false (by decide) (by decide) (Nat.le_of_ble_eq_true rfl) (fun X hF hQ => ?_)
  have hF : mp_F E X (RJ13, cJ13_bitCount_95d88, 2, (0, 0, 0, 0), (some FieldType.int), false) := hF
  show mp_W E X 2 0 [(0, .long 0)] [] [] 0 0
  refine mp_run hF mp_tabJ13_ok [mp_i (.lload_n 0), mp_i (.lload_n 0), mp_c (.iconst 1) 1] (by decide +kernel) ?_
  show mp_W E X 2 3 [(0, .long 0)] [.int 1, .long 0, .long 0] [] 0 0
  refine mp_lushr hF (by decide +kernel) (fun z1 h2 => ?_)
  obtain rfl : z1 = 0 := h2.trans (by decide +kernel)
  show mp_W E X 2 4 [(0, .long 0)] [.long 0, .long 0] [] 0 0
  refine mp_run hF mp_tabJ13_ok [mp_cl (.ldc2_w 314) 6148914691236517205, mp_i .land, mp_i .lsub, mp_i (.lstore_n 0), mp_i (.lload_n 0), mp_cl (.ldc2_w 316) 3689348814741910323, mp_i .land, mp_i (.lload_n 0), mp_c (.iconst 2) 2] (by decide +kernel) ?_
  intro z3 h4
  obtain rfl : z3 = 0 := h4.trans (by decide +kernel)
  intro z5 h6
  obtain rfl : z5 = 0 := h6.trans (by decide +kernel)
  intro z7 h8
  obtain rfl : z7 = 0 := h8.trans (by decide +kernel)
  show mp_W E X 2 17 [(0, .long 0)] [.int 2, .long 0, .long 0] [] 0 0
  refine mp_lushr hF (by decide +kernel) (fun z9 h10 => ?_)
  obtain rfl : z9 = 0 := h10.trans (by decide +kernel)
  show mp_W E X 2 18 [(0, .long 0)] [.long 0, .long 0] [] 0 0
  refine mp_run hF mp_tabJ13_ok [mp_cl (.ldc2_w 316) 3689348814741910323, mp_i .land, mp_i .ladd, mp_i (.lstore_n 0), mp_i (.lload_n 0), mp_i (.lload_n 0), mp_c (.iconst 4) 4] (by decide +kernel) ?_
  intro z11 h12
  obtain rfl : z11 = 0 := h12.trans (by decide +kernel)
  intro z13 h14
  obtain rfl : z13 = 0 := h14.trans (by decide +kernel)
  show mp_W E X 2 27 [(0, .long 0)] [.int 4, .long 0, .long 0] [] 0 0
  refine mp_lushr hF (by decide +kernel) (fun z15 h16 => ?_)
  obtain rfl : z15 = 0 := h16.trans (by decide +kernel)
  show mp_W E X 2 28 [(0, .long 0)] [.long 0, .long 0] [] 0 0
  refine mp_run hF mp_tabJ13_ok [mp_i .ladd, mp_cl (.ldc2_w 318) 1085102592571150095, mp_i .land, mp_i (.lstore_n 0), mp_i (.lload_n 0), mp_i (.lload_n 0), mp_c (.bipush 8) 8] (by decide +kernel) ?_
  intro z17 h18
  obtain rfl : z17 = 0 := h18.trans (by decide +kernel)
  intro z19 h20
  obtain rfl : z19 = 0 := h20.trans (by decide +kernel)
  show mp_W E X 2 38 [(0, .long 0)] [.int 8, .long 0, .long 0] [] 0 0
  refine mp_lushr hF (by decide +kernel) (fun z21 h22 => ?_)
  obtain rfl : z21 = 0 := h22.trans (by decide +kernel)
  show mp_W E X 2 39 [(0, .long 0)] [.long 0, .long 0] [] 0 0
  refine mp_run hF mp_tabJ13_ok [mp_i .ladd, mp_i (.lstore_n 0), mp_i (.lload_n 0), mp_i (.lload_n 0), mp_c (.bipush 16) 16] (by decide +kernel) ?_
  intro z23 h24
  obtain rfl : z23 = 0 := h24.trans (by decide +kernel)
  show mp_W E X 2 45 [(0, .long 0)] [.int 16, .long 0, .long 0] [] 0 0
  refine mp_lushr hF (by decide +kernel) (fun z25 h26 => ?_)
  obtain rfl : z25 = 0 := h26.trans (by decide +kernel)
  show mp_W E X 2 46 [(0, .long 0)] [.long 0, .long 0] [] 0 0
  refine mp_run hF mp_tabJ13_ok [mp_i .ladd, mp_i (.lstore_n 0), mp_i (.lload_n 0), mp_i (.lload_n 0), mp_c (.bipush 32) 32] (by decide +kernel) ?_
  intro z27 h28
  obtain rfl : z27 = 0 := h28.trans (by decide +kernel)
  show mp_W E X 2 52 [(0, .long 0)] [.int 32, .long 0, .long 0] [] 0 0
  refine mp_lushr hF (by decide +kernel) (fun z29 h30 => ?_)
  obtain rfl : z29 = 0 := h30.trans (by decide +kernel)
  show mp_W E X 2 53 [(0, .long 0)] [.long 0, .long 0] [] 0 0
  refine mp_run hF mp_tabJ13_ok [mp_i .ladd, mp_i (.lstore_n 0), mp_i (.lload_n 0), mp_i .l2i, mp_c (.bipush 127) 127, mp_i .iand] (by decide +kernel) ?_
  intro z31 h32
  obtain rfl : z31 = 0 := h32.trans (by decide +kernel)
  intro z33 h34
  obtain rfl : z33 = 0 := h34.trans (by decide)
  intro z35 h36
  obtain rfl : z35 = 0 := h36.trans (by decide)
  show mp_W E X 2 60 [(0, .long 0)] [.int 0] [] 0 0
  exact mp_iret hF hQ rfl rfl (Nat.le_of_ble_eq_true rfl) (Nat.le_of_ble_eq_true rfl) [] (w' := []) rfl rfl ⟨rfl, rfl⟩ (by decide +kernel)
set_option maxHeartbeats 4000000 in
set_option maxRecDepth 100000 in
theorem aX7_countShut_170 (E : mp_E) (a0 a1 a2 a3 a4 a5 a6 a7 a8 a9 a10 a11 a12 : Nat) : mp_Ct E yX7_countShut cX7_countShut 3 (some FieldType.int) 1 0 0 21 [.ref a0] [(a0, .inr (7, [.int 0, .int 0, .int 0, .int 0, .int 0, .int 0, .ref a2, .ref a1, .ref a3, .ref a4, .ref a5, .ref a6, .ref a7, .ref a8, .ref a9, .ref a10, .ref a11, .ref a12])), (a1, .inl (E.2.2 2, 12, .inr (.inl (fun _ => 0))))] (fun v w' => v = some (.int 0) ∧ w' = [(a0, .inr (7, [.int 0, .int 0, .int 0, .int 0, .int 0, .int 0, .ref a2, .ref a1, .ref a3, .ref a4, .ref a5, .ref a6, .ref a7, .ref a8, .ref a9, .ref a10, .ref a11, .ref a12])), (a1, .inl (E.2.2 2, 12, .inr (.inl (fun _ => 0))))]) := by
  refine mp_met false (by decide) (by decide) (Nat.le_of_ble_eq_true rfl) (fun X hF hQ => ?_)
  have hF : mp_F E X (RX7, cX7_countShut, 3, (1, 0, 0, 21), (some FieldType.int), false) := hF
  show mp_W E X 3 0 [(0, .ref a0)] [] [(a0, .inr (7, [.int 0, .int 0, .int 0, .int 0, .int 0, .int 0, .ref a2, .ref a1, .ref a3, .ref a4, .ref a5, .ref a6, .ref a7, .ref a8, .ref a9, .ref a10, .ref a11, .ref a12])), (a1, .inl (E.2.2 2, 12, .inr (.inl (fun _ => 0))))] 0 0
  refine mp_run hF mp_tabX7_ok [mp_c (.iconst 0) 0, mp_i (.istore_n 1), mp_c (.iconst 0) 0, mp_i (.istore_n 2), mp_i (.iload_n 2), mp_i (.aload_n 0), mp_h (.getfield 15) [7, 0], mp_h .arraylength [1, 2], mp_h (.if_icmp .ge 21) [31]] (by decide +kernel) ?_
  refine And.intro rfl (And.intro rfl ?_)
  refine And.intro rfl (And.intro rfl (And.intro (by decide) ?_))
  intro z1 h2
  obtain rfl : z1 = 12 := h2.trans (by decide)
  refine And.intro (fun c3 => absurd c3 (by decide)) (fun _ => ?_)
  show mp_W E X 3 13 [(2, .int 0), (1, .int 0), (0, .ref a0)] [] [(a0, .inr (7, [.int 0, .int 0, .int 0, .int 0, .int 0, .int 0, .ref a2, .ref a1, .ref a3, .ref a4, .ref a5, .ref a6, .ref a7, .ref a8, .ref a9, .ref a10, .ref a11, .ref a12])), (a1, .inl (E.2.2 2, 12, .inr (.inl (fun _ => 0))))] 0 0
  refine mp_run hF mp_tabX7_ok [mp_i (.iload_n 1), mp_i (.aload_n 0), mp_h (.getfield 15) [7, 0], mp_i (.iload_n 2), mp_h .laload [1]] (by decide +kernel) ?_
  refine And.intro rfl (And.intro rfl ?_)
  refine And.intro rfl (And.intro rfl (And.intro (vp_in_iff.mpr (by decide)) ?_))
  intro z4 h5
  obtain rfl : z4 = 0 := h5
  show mp_W E X 3 20 [(2, .int 0), (1, .int 0), (0, .ref a0)] [.long 0, .int 0] [(a0, .inr (7, [.int 0, .int 0, .int 0, .int 0, .int 0, .int 0, .ref a2, .ref a1, .ref a3, .ref a4, .ref a5, .ref a6, .ref a7, .ref a8, .ref a9, .ref a10, .ref a11, .ref a12])), (a1, .inl (E.2.2 2, 12, .inr (.inl (fun _ => 0))))] 0 0
  refine mp_callS hF (As := [.long 0]) (rest := [.int 0]) (wr := [(a0, .inr (7, [.int 0, .int 0, .int 0, .int 0, .int 0, .int 0, .ref a2, .ref a1, .ref a3, .ref a4, .ref a5, .ref a6, .ref a7, .ref a8, .ref a9, .ref a10, .ref a11, .ref a12])), (a1, .inl (E.2.2 2, 12, .inr (.inl (fun _ => 0))))]) (aJ13_bitCount_95d88_169 E ) mp_lkX7_85 [] [0, 1] rfl rfl rfl rfl rfl ⟨(Nat.le_of_ble_eq_true rfl), (Nat.le_of_ble_eq_true rfl), (Nat.le_of_ble_eq_true rfl), (Nat.le_of_ble_eq_true rfl)⟩ (Nat.le_of_ble_eq_true rfl) (by decide +kernel) (fun v6 w7 h8 => ?_)
  obtain ⟨rfl, rfl⟩ := h8
  show mp_W E X 3 23 [(2, .int 0), (1, .int 0), (0, .ref a0)] [.int 0, .int 0] [(a0, .inr (7, [.int 0, .int 0, .int 0, .int 0, .int 0, .int 0, .ref a2, .ref a1, .ref a3, .ref a4, .ref a5, .ref a6, .ref a7, .ref a8, .ref a9, .ref a10, .ref a11, .ref a12])), (a1, .inl (E.2.2 2, 12, .inr (.inl (fun _ => 0))))] 0 0
  refine mp_run hF mp_tabX7_ok [mp_i .iadd, mp_i (.istore_n 1), mp_c (.iinc 2 1) 1, mp_h (.goto (-24)) [4], mp_i (.iload_n 2), mp_i (.aload_n 0), mp_h (.getfield 15) [7, 0], mp_h .arraylength [1, 2], mp_h (.if_icmp .ge 21) [31]] (by decide +kernel) ?_
  intro z9 h10
  obtain rfl : z9 = 0 := h10.trans (by decide)
  intro z11 h12
  obtain rfl : z11 = 1 := h12.trans (by decide)
  refine And.intro rfl (And.intro rfl ?_)
  refine And.intro rfl (And.intro rfl (And.intro (by decide) ?_))
  intro z13 h14
  obtain rfl : z13 = 12 := h14.trans (by decide)
  refine And.intro (fun c15 => absurd c15 (by decide)) (fun _ => ?_)
  show mp_W E X 3 13 [(2, .int 1), (1, .int 0), (0, .ref a0)] [] [(a0, .inr (7, [.int 0, .int 0, .int 0, .int 0, .int 0, .int 0, .ref a2, .ref a1, .ref a3, .ref a4, .ref a5, .ref a6, .ref a7, .ref a8, .ref a9, .ref a10, .ref a11, .ref a12])), (a1, .inl (E.2.2 2, 12, .inr (.inl (fun _ => 0))))] 0 0
  refine mp_run hF mp_tabX7_ok [mp_i (.iload_n 1), mp_i (.aload_n 0), mp_h (.getfield 15) [7, 0], mp_i (.iload_n 2), mp_h .laload [1]] (by decide +kernel) ?_
  refine And.intro rfl (And.intro rfl ?_)
  refine And.intro rfl (And.intro rfl (And.intro (vp_in_iff.mpr (by decide)) ?_))
  intro z16 h17
  obtain rfl : z16 = 0 := h17
  show mp_W E X 3 20 [(2, .int 1), (1, .int 0), (0, .ref a0)] [.long 0, .int 0] [(a0, .inr (7, [.int 0, .int 0, .int 0, .int 0, .int 0, .int 0, .ref a2, .ref a1, .ref a3, .ref a4, .ref a5, .ref a6, .ref a7, .ref a8, .ref a9, .ref a10, .ref a11, .ref a12])), (a1, .inl (E.2.2 2, 12, .inr (.inl (fun _ => 0))))] 0 0
  refine mp_callS hF (As := [.long 0]) (rest := [.int 0]) (wr := [(a0, .inr (7, [.int 0, .int 0, .int 0, .int 0, .int 0, .int 0, .ref a2, .ref a1, .ref a3, .ref a4, .ref a5, .ref a6, .ref a7, .ref a8, .ref a9, .ref a10, .ref a11, .ref a12])), (a1, .inl (E.2.2 2, 12, .inr (.inl (fun _ => 0))))]) (aJ13_bitCount_95d88_169 E ) mp_lkX7_85 [] [0, 1] rfl rfl rfl rfl rfl ⟨(Nat.le_of_ble_eq_true rfl), (Nat.le_of_ble_eq_true rfl), (Nat.le_of_ble_eq_true rfl), (Nat.le_of_ble_eq_true rfl)⟩ (Nat.le_of_ble_eq_true rfl) (by decide +kernel) (fun v18 w19 h20 => ?_)
  obtain ⟨rfl, rfl⟩ := h20
  show mp_W E X 3 23 [(2, .int 1), (1, .int 0), (0, .ref a0)] [.int 0, .int 0] [(a0, .inr (7, [.int 0, .int 0, .int 0, .int 0, .int 0, .int 0, .ref a2, .ref a1, .ref a3, .ref a4, .ref a5, .ref a6, .ref a7, .ref a8, .ref a9, .ref a10, .ref a11, .ref a12])), (a1, .inl (E.2.2 2, 12, .inr (.inl (fun _ => 0))))] 0 0
  refine mp_run hF mp_tabX7_ok [mp_i .iadd, mp_i (.istore_n 1), mp_c (.iinc 2 1) 1, mp_h (.goto (-24)) [4], mp_i (.iload_n 2), mp_i (.aload_n 0), mp_h (.getfield 15) [7, 0], mp_h .arraylength [1, 2], mp_h (.if_icmp .ge 21) [31]] (by decide +kernel) ?_
  intro z21 h22
  obtain rfl : z21 = 0 := h22.trans (by decide)
  intro z23 h24
  obtain rfl : z23 = 2 := h24.trans (by decide)
  refine And.intro rfl (And.intro rfl ?_)
  refine And.intro rfl (And.intro rfl (And.intro (by decide) ?_))
  intro z25 h26
  obtain rfl : z25 = 12 := h26.trans (by decide)
  refine And.intro (fun c27 => absurd c27 (by decide)) (fun _ => ?_)
  show mp_W E X 3 13 [(2, .int 2), (1, .int 0), (0, .ref a0)] [] [(a0, .inr (7, [.int 0, .int 0, .int 0, .int 0, .int 0, .int 0, .ref a2, .ref a1, .ref a3, .ref a4, .ref a5, .ref a6, .ref a7, .ref a8, .ref a9, .ref a10, .ref a11, .ref a12])), (a1, .inl (E.2.2 2, 12, .inr (.inl (fun _ => 0))))] 0 0
  refine mp_run hF mp_tabX7_ok [mp_i (.iload_n 1), mp_i (.aload_n 0), mp_h (.getfield 15) [7, 0], mp_i (.iload_n 2), mp_h .laload [1]] (by decide +kernel) ?_
  refine And.intro rfl (And.intro rfl ?_)
  refine And.intro rfl (And.intro rfl (And.intro (vp_in_iff.mpr (by decide)) ?_))
  intro z28 h29
  obtain rfl : z28 = 0 := h29
  show mp_W E X 3 20 [(2, .int 2), (1, .int 0), (0, .ref a0)] [.long 0, .int 0] [(a0, .inr (7, [.int 0, .int 0, .int 0, .int 0, .int 0, .int 0, .ref a2, .ref a1, .ref a3, .ref a4, .ref a5, .ref a6, .ref a7, .ref a8, .ref a9, .ref a10, .ref a11, .ref a12])), (a1, .inl (E.2.2 2, 12, .inr (.inl (fun _ => 0))))] 0 0
  refine mp_callS hF (As := [.long 0]) (rest := [.int 0]) (wr := [(a0, .inr (7, [.int 0, .int 0, .int 0, .int 0, .int 0, .int 0, .ref a2, .ref a1, .ref a3, .ref a4, .ref a5, .ref a6, .ref a7, .ref a8, .ref a9, .ref a10, .ref a11, .ref a12])), (a1, .inl (E.2.2 2, 12, .inr (.inl (fun _ => 0))))]) (aJ13_bitCount_95d88_169 E ) mp_lkX7_85 [] [0, 1] rfl rfl rfl rfl rfl ⟨(Nat.le_of_ble_eq_true rfl), (Nat.le_of_ble_eq_true rfl), (Nat.le_of_ble_eq_true rfl), (Nat.le_of_ble_eq_true rfl)⟩ (Nat.le_of_ble_eq_true rfl) (by decide +kernel) (fun v30 w31 h32 => ?_)
  obtain ⟨rfl, rfl⟩ := h32
  show mp_W E X 3 23 [(2, .int 2), (1, .int 0), (0, .ref a0)] [.int 0, .int 0] [(a0, .inr (7, [.int 0, .int 0, .int 0, .int 0, .int 0, .int 0, .ref a2, .ref a1, .ref a3, .ref a4, .ref a5, .ref a6, .ref a7, .ref a8, .ref a9, .ref a10, .ref a11, .ref a12])), (a1, .inl (E.2.2 2, 12, .inr (.inl (fun _ => 0))))] 0 0
  refine mp_run hF mp_tabX7_ok [mp_i .iadd, mp_i (.istore_n 1), mp_c (.iinc 2 1) 1, mp_h (.goto (-24)) [4], mp_i (.iload_n 2), mp_i (.aload_n 0), mp_h (.getfield 15) [7, 0], mp_h .arraylength [1, 2], mp_h (.if_icmp .ge 21) [31]] (by decide +kernel) ?_
  intro z33 h34
  obtain rfl : z33 = 0 := h34.trans (by decide)
  intro z35 h36
  obtain rfl : z35 = 3 := h36.trans (by decide)
  refine And.intro rfl (And.intro rfl ?_)
  refine And.intro rfl (And.intro rfl (And.intro (by decide) ?_))
  intro z37 h38
  obtain rfl : z37 = 12 := h38.trans (by decide)
  refine And.intro (fun c39 => absurd c39 (by decide)) (fun _ => ?_)
  show mp_W E X 3 13 [(2, .int 3), (1, .int 0), (0, .ref a0)] [] [(a0, .inr (7, [.int 0, .int 0, .int 0, .int 0, .int 0, .int 0, .ref a2, .ref a1, .ref a3, .ref a4, .ref a5, .ref a6, .ref a7, .ref a8, .ref a9, .ref a10, .ref a11, .ref a12])), (a1, .inl (E.2.2 2, 12, .inr (.inl (fun _ => 0))))] 0 0
  refine mp_run hF mp_tabX7_ok [mp_i (.iload_n 1), mp_i (.aload_n 0), mp_h (.getfield 15) [7, 0], mp_i (.iload_n 2), mp_h .laload [1]] (by decide +kernel) ?_
  refine And.intro rfl (And.intro rfl ?_)
  refine And.intro rfl (And.intro rfl (And.intro (vp_in_iff.mpr (by decide)) ?_))
  intro z40 h41
  obtain rfl : z40 = 0 := h41
  show mp_W E X 3 20 [(2, .int 3), (1, .int 0), (0, .ref a0)] [.long 0, .int 0] [(a0, .inr (7, [.int 0, .int 0, .int 0, .int 0, .int 0, .int 0, .ref a2, .ref a1, .ref a3, .ref a4, .ref a5, .ref a6, .ref a7, .ref a8, .ref a9, .ref a10, .ref a11, .ref a12])), (a1, .inl (E.2.2 2, 12, .inr (.inl (fun _ => 0))))] 0 0
  refine mp_callS hF (As := [.long 0]) (rest := [.int 0]) (wr := [(a0, .inr (7, [.int 0, .int 0, .int 0, .int 0, .int 0, .int 0, .ref a2, .ref a1, .ref a3, .ref a4, .ref a5, .ref a6, .ref a7, .ref a8, .ref a9, .ref a10, .ref a11, .ref a12])), (a1, .inl (E.2.2 2, 12, .inr (.inl (fun _ => 0))))]) (aJ13_bitCount_95d88_169 E ) mp_lkX7_85 [] [0, 1] rfl rfl rfl rfl rfl ⟨(Nat.le_of_ble_eq_true rfl), (Nat.le_of_ble_eq_true rfl), (Nat.le_of_ble_eq_true rfl), (Nat.le_of_ble_eq_true rfl)⟩ (Nat.le_of_ble_eq_true rfl) (by decide +kernel) (fun v42 w43 h44 => ?_)
  obtain ⟨rfl, rfl⟩ := h44
  show mp_W E X 3 23 [(2, .int 3), (1, .int 0), (0, .ref a0)] [.int 0, .int 0] [(a0, .inr (7, [.int 0, .int 0, .int 0, .int 0, .int 0, .int 0, .ref a2, .ref a1, .ref a3, .ref a4, .ref a5, .ref a6, .ref a7, .ref a8, .ref a9, .ref a10, .ref a11, .ref a12])), (a1, .inl (E.2.2 2, 12, .inr (.inl (fun _ => 0))))] 0 0
  refine mp_run hF mp_tabX7_ok [mp_i .iadd, mp_i (.istore_n 1), mp_c (.iinc 2 1) 1, mp_h (.goto (-24)) [4], mp_i (.iload_n 2), mp_i (.aload_n 0), mp_h (.getfield 15) [7, 0], mp_h .arraylength [1, 2], mp_h (.if_icmp .ge 21) [31]] (by decide +kernel) ?_
  intro z45 h46
  obtain rfl : z45 = 0 := h46.trans (by decide)
  intro z47 h48
  obtain rfl : z47 = 4 := h48.trans (by decide)
  refine And.intro rfl (And.intro rfl ?_)
  refine And.intro rfl (And.intro rfl (And.intro (by decide) ?_))
  intro z49 h50
  obtain rfl : z49 = 12 := h50.trans (by decide)
  refine And.intro (fun c51 => absurd c51 (by decide)) (fun _ => ?_)
  show mp_W E X 3 13 [(2, .int 4), (1, .int 0), (0, .ref a0)] [] [(a0, .inr (7, [.int 0, .int 0, .int 0, .int 0, .int 0, .int 0, .ref a2, .ref a1, .ref a3, .ref a4, .ref a5, .ref a6, .ref a7, .ref a8, .ref a9, .ref a10, .ref a11, .ref a12])), (a1, .inl (E.2.2 2, 12, .inr (.inl (fun _ => 0))))] 0 0
  refine mp_run hF mp_tabX7_ok [mp_i (.iload_n 1), mp_i (.aload_n 0), mp_h (.getfield 15) [7, 0], mp_i (.iload_n 2), mp_h .laload [1]] (by decide +kernel) ?_
  refine And.intro rfl (And.intro rfl ?_)
  refine And.intro rfl (And.intro rfl (And.intro (vp_in_iff.mpr (by decide)) ?_))
  intro z52 h53
  obtain rfl : z52 = 0 := h53
  show mp_W E X 3 20 [(2, .int 4), (1, .int 0), (0, .ref a0)] [.long 0, .int 0] [(a0, .inr (7, [.int 0, .int 0, .int 0, .int 0, .int 0, .int 0, .ref a2, .ref a1, .ref a3, .ref a4, .ref a5, .ref a6, .ref a7, .ref a8, .ref a9, .ref a10, .ref a11, .ref a12])), (a1, .inl (E.2.2 2, 12, .inr (.inl (fun _ => 0))))] 0 0
  refine mp_callS hF (As := [.long 0]) (rest := [.int 0]) (wr := [(a0, .inr (7, [.int 0, .int 0, .int 0, .int 0, .int 0, .int 0, .ref a2, .ref a1, .ref a3, .ref a4, .ref a5, .ref a6, .ref a7, .ref a8, .ref a9, .ref a10, .ref a11, .ref a12])), (a1, .inl (E.2.2 2, 12, .inr (.inl (fun _ => 0))))]) (aJ13_bitCount_95d88_169 E ) mp_lkX7_85 [] [0, 1] rfl rfl rfl rfl rfl ⟨(Nat.le_of_ble_eq_true rfl), (Nat.le_of_ble_eq_true rfl), (Nat.le_of_ble_eq_true rfl), (Nat.le_of_ble_eq_true rfl)⟩ (Nat.le_of_ble_eq_true rfl) (by decide +kernel) (fun v54 w55 h56 => ?_)
  obtain ⟨rfl, rfl⟩ := h56
  show mp_W E X 3 23 [(2, .int 4), (1, .int 0), (0, .ref a0)] [.int 0, .int 0] [(a0, .inr (7, [.int 0, .int 0, .int 0, .int 0, .int 0, .int 0, .ref a2, .ref a1, .ref a3, .ref a4, .ref a5, .ref a6, .ref a7, .ref a8, .ref a9, .ref a10, .ref a11, .ref a12])), (a1, .inl (E.2.2 2, 12, .inr (.inl (fun _ => 0))))] 0 0
  refine mp_run hF mp_tabX7_ok [mp_i .iadd, mp_i (.istore_n 1), mp_c (.iinc 2 1) 1, mp_h (.goto (-24)) [4], mp_i (.iload_n 2), mp_i (.aload_n 0), mp_h (.getfield 15) [7, 0], mp_h .arraylength [1, 2], mp_h (.if_icmp .ge 21) [31]] (by decide +kernel) ?_
  intro z57 h58
  obtain rfl : z57 = 0 := h58.trans (by decide)
  intro z59 h60
  obtain rfl : z59 = 5 := h60.trans (by decide)
  refine And.intro rfl (And.intro rfl ?_)
  refine And.intro rfl (And.intro rfl (And.intro (by decide) ?_))
  intro z61 h62
  obtain rfl : z61 = 12 := h62.trans (by decide)
  refine And.intro (fun c63 => absurd c63 (by decide)) (fun _ => ?_)
  show mp_W E X 3 13 [(2, .int 5), (1, .int 0), (0, .ref a0)] [] [(a0, .inr (7, [.int 0, .int 0, .int 0, .int 0, .int 0, .int 0, .ref a2, .ref a1, .ref a3, .ref a4, .ref a5, .ref a6, .ref a7, .ref a8, .ref a9, .ref a10, .ref a11, .ref a12])), (a1, .inl (E.2.2 2, 12, .inr (.inl (fun _ => 0))))] 0 0
  refine mp_run hF mp_tabX7_ok [mp_i (.iload_n 1), mp_i (.aload_n 0), mp_h (.getfield 15) [7, 0], mp_i (.iload_n 2), mp_h .laload [1]] (by decide +kernel) ?_
  refine And.intro rfl (And.intro rfl ?_)
  refine And.intro rfl (And.intro rfl (And.intro (vp_in_iff.mpr (by decide)) ?_))
  intro z64 h65
  obtain rfl : z64 = 0 := h65
  show mp_W E X 3 20 [(2, .int 5), (1, .int 0), (0, .ref a0)] [.long 0, .int 0] [(a0, .inr (7, [.int 0, .int 0, .int 0, .int 0, .int 0, .int 0, .ref a2, .ref a1, .ref a3, .ref a4, .ref a5, .ref a6, .ref a7, .ref a8, .ref a9, .ref a10, .ref a11, .ref a12])), (a1, .inl (E.2.2 2, 12, .inr (.inl (fun _ => 0))))] 0 0
  refine mp_callS hF (As := [.long 0]) (rest := [.int 0]) (wr := [(a0, .inr (7, [.int 0, .int 0, .int 0, .int 0, .int 0, .int 0, .ref a2, .ref a1, .ref a3, .ref a4, .ref a5, .ref a6, .ref a7, .ref a8, .ref a9, .ref a10, .ref a11, .ref a12])), (a1, .inl (E.2.2 2, 12, .inr (.inl (fun _ => 0))))]) (aJ13_bitCount_95d88_169 E ) mp_lkX7_85 [] [0, 1] rfl rfl rfl rfl rfl ⟨(Nat.le_of_ble_eq_true rfl), (Nat.le_of_ble_eq_true rfl), (Nat.le_of_ble_eq_true rfl), (Nat.le_of_ble_eq_true rfl)⟩ (Nat.le_of_ble_eq_true rfl) (by decide +kernel) (fun v66 w67 h68 => ?_)
  obtain ⟨rfl, rfl⟩ := h68
  show mp_W E X 3 23 [(2, .int 5), (1, .int 0), (0, .ref a0)] [.int 0, .int 0] [(a0, .inr (7, [.int 0, .int 0, .int 0, .int 0, .int 0, .int 0, .ref a2, .ref a1, .ref a3, .ref a4, .ref a5, .ref a6, .ref a7, .ref a8, .ref a9, .ref a10, .ref a11, .ref a12])), (a1, .inl (E.2.2 2, 12, .inr (.inl (fun _ => 0))))] 0 0
  refine mp_run hF mp_tabX7_ok [mp_i .iadd, mp_i (.istore_n 1), mp_c (.iinc 2 1) 1, mp_h (.goto (-24)) [4], mp_i (.iload_n 2), mp_i (.aload_n 0), mp_h (.getfield 15) [7, 0], mp_h .arraylength [1, 2], mp_h (.if_icmp .ge 21) [31]] (by decide +kernel) ?_
  intro z69 h70
  obtain rfl : z69 = 0 := h70.trans (by decide)
  intro z71 h72
  obtain rfl : z71 = 6 := h72.trans (by decide)
  refine And.intro rfl (And.intro rfl ?_)
  refine And.intro rfl (And.intro rfl (And.intro (by decide) ?_))
  intro z73 h74
  obtain rfl : z73 = 12 := h74.trans (by decide)
  refine And.intro (fun c75 => absurd c75 (by decide)) (fun _ => ?_)
  show mp_W E X 3 13 [(2, .int 6), (1, .int 0), (0, .ref a0)] [] [(a0, .inr (7, [.int 0, .int 0, .int 0, .int 0, .int 0, .int 0, .ref a2, .ref a1, .ref a3, .ref a4, .ref a5, .ref a6, .ref a7, .ref a8, .ref a9, .ref a10, .ref a11, .ref a12])), (a1, .inl (E.2.2 2, 12, .inr (.inl (fun _ => 0))))] 0 0
  refine mp_run hF mp_tabX7_ok [mp_i (.iload_n 1), mp_i (.aload_n 0), mp_h (.getfield 15) [7, 0], mp_i (.iload_n 2), mp_h .laload [1]] (by decide +kernel) ?_
  refine And.intro rfl (And.intro rfl ?_)
  refine And.intro rfl (And.intro rfl (And.intro (vp_in_iff.mpr (by decide)) ?_))
  intro z76 h77
  obtain rfl : z76 = 0 := h77
  show mp_W E X 3 20 [(2, .int 6), (1, .int 0), (0, .ref a0)] [.long 0, .int 0] [(a0, .inr (7, [.int 0, .int 0, .int 0, .int 0, .int 0, .int 0, .ref a2, .ref a1, .ref a3, .ref a4, .ref a5, .ref a6, .ref a7, .ref a8, .ref a9, .ref a10, .ref a11, .ref a12])), (a1, .inl (E.2.2 2, 12, .inr (.inl (fun _ => 0))))] 0 0
  refine mp_callS hF (As := [.long 0]) (rest := [.int 0]) (wr := [(a0, .inr (7, [.int 0, .int 0, .int 0, .int 0, .int 0, .int 0, .ref a2, .ref a1, .ref a3, .ref a4, .ref a5, .ref a6, .ref a7, .ref a8, .ref a9, .ref a10, .ref a11, .ref a12])), (a1, .inl (E.2.2 2, 12, .inr (.inl (fun _ => 0))))]) (aJ13_bitCount_95d88_169 E ) mp_lkX7_85 [] [0, 1] rfl rfl rfl rfl rfl ⟨(Nat.le_of_ble_eq_true rfl), (Nat.le_of_ble_eq_true rfl), (Nat.le_of_ble_eq_true rfl), (Nat.le_of_ble_eq_true rfl)⟩ (Nat.le_of_ble_eq_true rfl) (by decide +kernel) (fun v78 w79 h80 => ?_)
  obtain ⟨rfl, rfl⟩ := h80
  show mp_W E X 3 23 [(2, .int 6), (1, .int 0), (0, .ref a0)] [.int 0, .int 0] [(a0, .inr (7, [.int 0, .int 0, .int 0, .int 0, .int 0, .int 0, .ref a2, .ref a1, .ref a3, .ref a4, .ref a5, .ref a6, .ref a7, .ref a8, .ref a9, .ref a10, .ref a11, .ref a12])), (a1, .inl (E.2.2 2, 12, .inr (.inl (fun _ => 0))))] 0 0
  refine mp_run hF mp_tabX7_ok [mp_i .iadd, mp_i (.istore_n 1), mp_c (.iinc 2 1) 1, mp_h (.goto (-24)) [4], mp_i (.iload_n 2), mp_i (.aload_n 0), mp_h (.getfield 15) [7, 0], mp_h .arraylength [1, 2], mp_h (.if_icmp .ge 21) [31]] (by decide +kernel) ?_
  intro z81 h82
  obtain rfl : z81 = 0 := h82.trans (by decide)
  intro z83 h84
  obtain rfl : z83 = 7 := h84.trans (by decide)
  refine And.intro rfl (And.intro rfl ?_)
  refine And.intro rfl (And.intro rfl (And.intro (by decide) ?_))
  intro z85 h86
  obtain rfl : z85 = 12 := h86.trans (by decide)
  refine And.intro (fun c87 => absurd c87 (by decide)) (fun _ => ?_)
  show mp_W E X 3 13 [(2, .int 7), (1, .int 0), (0, .ref a0)] [] [(a0, .inr (7, [.int 0, .int 0, .int 0, .int 0, .int 0, .int 0, .ref a2, .ref a1, .ref a3, .ref a4, .ref a5, .ref a6, .ref a7, .ref a8, .ref a9, .ref a10, .ref a11, .ref a12])), (a1, .inl (E.2.2 2, 12, .inr (.inl (fun _ => 0))))] 0 0
  refine mp_run hF mp_tabX7_ok [mp_i (.iload_n 1), mp_i (.aload_n 0), mp_h (.getfield 15) [7, 0], mp_i (.iload_n 2), mp_h .laload [1]] (by decide +kernel) ?_
  refine And.intro rfl (And.intro rfl ?_)
  refine And.intro rfl (And.intro rfl (And.intro (vp_in_iff.mpr (by decide)) ?_))
  intro z88 h89
  obtain rfl : z88 = 0 := h89
  show mp_W E X 3 20 [(2, .int 7), (1, .int 0), (0, .ref a0)] [.long 0, .int 0] [(a0, .inr (7, [.int 0, .int 0, .int 0, .int 0, .int 0, .int 0, .ref a2, .ref a1, .ref a3, .ref a4, .ref a5, .ref a6, .ref a7, .ref a8, .ref a9, .ref a10, .ref a11, .ref a12])), (a1, .inl (E.2.2 2, 12, .inr (.inl (fun _ => 0))))] 0 0
  refine mp_callS hF (As := [.long 0]) (rest := [.int 0]) (wr := [(a0, .inr (7, [.int 0, .int 0, .int 0, .int 0, .int 0, .int 0, .ref a2, .ref a1, .ref a3, .ref a4, .ref a5, .ref a6, .ref a7, .ref a8, .ref a9, .ref a10, .ref a11, .ref a12])), (a1, .inl (E.2.2 2, 12, .inr (.inl (fun _ => 0))))]) (aJ13_bitCount_95d88_169 E ) mp_lkX7_85 [] [0, 1] rfl rfl rfl rfl rfl ⟨(Nat.le_of_ble_eq_true rfl), (Nat.le_of_ble_eq_true rfl), (Nat.le_of_ble_eq_true rfl), (Nat.le_of_ble_eq_true rfl)⟩ (Nat.le_of_ble_eq_true rfl) (by decide +kernel) (fun v90 w91 h92 => ?_)
  obtain ⟨rfl, rfl⟩ := h92
  show mp_W E X 3 23 [(2, .int 7), (1, .int 0), (0, .ref a0)] [.int 0, .int 0] [(a0, .inr (7, [.int 0, .int 0, .int 0, .int 0, .int 0, .int 0, .ref a2, .ref a1, .ref a3, .ref a4, .ref a5, .ref a6, .ref a7, .ref a8, .ref a9, .ref a10, .ref a11, .ref a12])), (a1, .inl (E.2.2 2, 12, .inr (.inl (fun _ => 0))))] 0 0
  refine mp_run hF mp_tabX7_ok [mp_i .iadd, mp_i (.istore_n 1), mp_c (.iinc 2 1) 1, mp_h (.goto (-24)) [4], mp_i (.iload_n 2), mp_i (.aload_n 0), mp_h (.getfield 15) [7, 0], mp_h .arraylength [1, 2], mp_h (.if_icmp .ge 21) [31]] (by decide +kernel) ?_
  intro z93 h94
  obtain rfl : z93 = 0 := h94.trans (by decide)
  intro z95 h96
  obtain rfl : z95 = 8 := h96.trans (by decide)
  refine And.intro rfl (And.intro rfl ?_)
  refine And.intro rfl (And.intro rfl (And.intro (by decide) ?_))
  intro z97 h98
  obtain rfl : z97 = 12 := h98.trans (by decide)
  refine And.intro (fun c99 => absurd c99 (by decide)) (fun _ => ?_)
  show mp_W E X 3 13 [(2, .int 8), (1, .int 0), (0, .ref a0)] [] [(a0, .inr (7, [.int 0, .int 0, .int 0, .int 0, .int 0, .int 0, .ref a2, .ref a1, .ref a3, .ref a4, .ref a5, .ref a6, .ref a7, .ref a8, .ref a9, .ref a10, .ref a11, .ref a12])), (a1, .inl (E.2.2 2, 12, .inr (.inl (fun _ => 0))))] 0 0
  refine mp_run hF mp_tabX7_ok [mp_i (.iload_n 1), mp_i (.aload_n 0), mp_h (.getfield 15) [7, 0], mp_i (.iload_n 2), mp_h .laload [1]] (by decide +kernel) ?_
  refine And.intro rfl (And.intro rfl ?_)
  refine And.intro rfl (And.intro rfl (And.intro (vp_in_iff.mpr (by decide)) ?_))
  intro z100 h101
  obtain rfl : z100 = 0 := h101
  show mp_W E X 3 20 [(2, .int 8), (1, .int 0), (0, .ref a0)] [.long 0, .int 0] [(a0, .inr (7, [.int 0, .int 0, .int 0, .int 0, .int 0, .int 0, .ref a2, .ref a1, .ref a3, .ref a4, .ref a5, .ref a6, .ref a7, .ref a8, .ref a9, .ref a10, .ref a11, .ref a12])), (a1, .inl (E.2.2 2, 12, .inr (.inl (fun _ => 0))))] 0 0
  refine mp_callS hF (As := [.long 0]) (rest := [.int 0]) (wr := [(a0, .inr (7, [.int 0, .int 0, .int 0, .int 0, .int 0, .int 0, .ref a2, .ref a1, .ref a3, .ref a4, .ref a5, .ref a6, .ref a7, .ref a8, .ref a9, .ref a10, .ref a11, .ref a12])), (a1, .inl (E.2.2 2, 12, .inr (.inl (fun _ => 0))))]) (aJ13_bitCount_95d88_169 E ) mp_lkX7_85 [] [0, 1] rfl rfl rfl rfl rfl ⟨(Nat.le_of_ble_eq_true rfl), (Nat.le_of_ble_eq_true rfl), (Nat.le_of_ble_eq_true rfl), (Nat.le_of_ble_eq_true rfl)⟩ (Nat.le_of_ble_eq_true rfl) (by decide +kernel) (fun v102 w103 h104 => ?_)
  obtain ⟨rfl, rfl⟩ := h104
  show mp_W E X 3 23 [(2, .int 8), (1, .int 0), (0, .ref a0)] [.int 0, .int 0] [(a0, .inr (7, [.int 0, .int 0, .int 0, .int 0, .int 0, .int 0, .ref a2, .ref a1, .ref a3, .ref a4, .ref a5, .ref a6, .ref a7, .ref a8, .ref a9, .ref a10, .ref a11, .ref a12])), (a1, .inl (E.2.2 2, 12, .inr (.inl (fun _ => 0))))] 0 0
  refine mp_run hF mp_tabX7_ok [mp_i .iadd, mp_i (.istore_n 1), mp_c (.iinc 2 1) 1, mp_h (.goto (-24)) [4], mp_i (.iload_n 2), mp_i (.aload_n 0), mp_h (.getfield 15) [7, 0], mp_h .arraylength [1, 2], mp_h (.if_icmp .ge 21) [31]] (by decide +kernel) ?_
  intro z105 h106
  obtain rfl : z105 = 0 := h106.trans (by decide)
  intro z107 h108
  obtain rfl : z107 = 9 := h108.trans (by decide)
  refine And.intro rfl (And.intro rfl ?_)
  refine And.intro rfl (And.intro rfl (And.intro (by decide) ?_))
  intro z109 h110
  obtain rfl : z109 = 12 := h110.trans (by decide)
  refine And.intro (fun c111 => absurd c111 (by decide)) (fun _ => ?_)
  show mp_W E X 3 13 [(2, .int 9), (1, .int 0), (0, .ref a0)] [] [(a0, .inr (7, [.int 0, .int 0, .int 0, .int 0, .int 0, .int 0, .ref a2, .ref a1, .ref a3, .ref a4, .ref a5, .ref a6, .ref a7, .ref a8, .ref a9, .ref a10, .ref a11, .ref a12])), (a1, .inl (E.2.2 2, 12, .inr (.inl (fun _ => 0))))] 0 0
  refine mp_run hF mp_tabX7_ok [mp_i (.iload_n 1), mp_i (.aload_n 0), mp_h (.getfield 15) [7, 0], mp_i (.iload_n 2), mp_h .laload [1]] (by decide +kernel) ?_
  refine And.intro rfl (And.intro rfl ?_)
  refine And.intro rfl (And.intro rfl (And.intro (vp_in_iff.mpr (by decide)) ?_))
  intro z112 h113
  obtain rfl : z112 = 0 := h113
  show mp_W E X 3 20 [(2, .int 9), (1, .int 0), (0, .ref a0)] [.long 0, .int 0] [(a0, .inr (7, [.int 0, .int 0, .int 0, .int 0, .int 0, .int 0, .ref a2, .ref a1, .ref a3, .ref a4, .ref a5, .ref a6, .ref a7, .ref a8, .ref a9, .ref a10, .ref a11, .ref a12])), (a1, .inl (E.2.2 2, 12, .inr (.inl (fun _ => 0))))] 0 0
  refine mp_callS hF (As := [.long 0]) (rest := [.int 0]) (wr := [(a0, .inr (7, [.int 0, .int 0, .int 0, .int 0, .int 0, .int 0, .ref a2, .ref a1, .ref a3, .ref a4, .ref a5, .ref a6, .ref a7, .ref a8, .ref a9, .ref a10, .ref a11, .ref a12])), (a1, .inl (E.2.2 2, 12, .inr (.inl (fun _ => 0))))]) (aJ13_bitCount_95d88_169 E ) mp_lkX7_85 [] [0, 1] rfl rfl rfl rfl rfl ⟨(Nat.le_of_ble_eq_true rfl), (Nat.le_of_ble_eq_true rfl), (Nat.le_of_ble_eq_true rfl), (Nat.le_of_ble_eq_true rfl)⟩ (Nat.le_of_ble_eq_true rfl) (by decide +kernel) (fun v114 w115 h116 => ?_)
  obtain ⟨rfl, rfl⟩ := h116
  show mp_W E X 3 23 [(2, .int 9), (1, .int 0), (0, .ref a0)] [.int 0, .int 0] [(a0, .inr (7, [.int 0, .int 0, .int 0, .int 0, .int 0, .int 0, .ref a2, .ref a1, .ref a3, .ref a4, .ref a5, .ref a6, .ref a7, .ref a8, .ref a9, .ref a10, .ref a11, .ref a12])), (a1, .inl (E.2.2 2, 12, .inr (.inl (fun _ => 0))))] 0 0
  refine mp_run hF mp_tabX7_ok [mp_i .iadd, mp_i (.istore_n 1), mp_c (.iinc 2 1) 1, mp_h (.goto (-24)) [4], mp_i (.iload_n 2), mp_i (.aload_n 0), mp_h (.getfield 15) [7, 0], mp_h .arraylength [1, 2], mp_h (.if_icmp .ge 21) [31]] (by decide +kernel) ?_
  intro z117 h118
  obtain rfl : z117 = 0 := h118.trans (by decide)
  intro z119 h120
  obtain rfl : z119 = 10 := h120.trans (by decide)
  refine And.intro rfl (And.intro rfl ?_)
  refine And.intro rfl (And.intro rfl (And.intro (by decide) ?_))
  intro z121 h122
  obtain rfl : z121 = 12 := h122.trans (by decide)
  refine And.intro (fun c123 => absurd c123 (by decide)) (fun _ => ?_)
  show mp_W E X 3 13 [(2, .int 10), (1, .int 0), (0, .ref a0)] [] [(a0, .inr (7, [.int 0, .int 0, .int 0, .int 0, .int 0, .int 0, .ref a2, .ref a1, .ref a3, .ref a4, .ref a5, .ref a6, .ref a7, .ref a8, .ref a9, .ref a10, .ref a11, .ref a12])), (a1, .inl (E.2.2 2, 12, .inr (.inl (fun _ => 0))))] 0 0
  refine mp_run hF mp_tabX7_ok [mp_i (.iload_n 1), mp_i (.aload_n 0), mp_h (.getfield 15) [7, 0], mp_i (.iload_n 2), mp_h .laload [1]] (by decide +kernel) ?_
  refine And.intro rfl (And.intro rfl ?_)
  refine And.intro rfl (And.intro rfl (And.intro (vp_in_iff.mpr (by decide)) ?_))
  intro z124 h125
  obtain rfl : z124 = 0 := h125
  show mp_W E X 3 20 [(2, .int 10), (1, .int 0), (0, .ref a0)] [.long 0, .int 0] [(a0, .inr (7, [.int 0, .int 0, .int 0, .int 0, .int 0, .int 0, .ref a2, .ref a1, .ref a3, .ref a4, .ref a5, .ref a6, .ref a7, .ref a8, .ref a9, .ref a10, .ref a11, .ref a12])), (a1, .inl (E.2.2 2, 12, .inr (.inl (fun _ => 0))))] 0 0
  refine mp_callS hF (As := [.long 0]) (rest := [.int 0]) (wr := [(a0, .inr (7, [.int 0, .int 0, .int 0, .int 0, .int 0, .int 0, .ref a2, .ref a1, .ref a3, .ref a4, .ref a5, .ref a6, .ref a7, .ref a8, .ref a9, .ref a10, .ref a11, .ref a12])), (a1, .inl (E.2.2 2, 12, .inr (.inl (fun _ => 0))))]) (aJ13_bitCount_95d88_169 E ) mp_lkX7_85 [] [0, 1] rfl rfl rfl rfl rfl ⟨(Nat.le_of_ble_eq_true rfl), (Nat.le_of_ble_eq_true rfl), (Nat.le_of_ble_eq_true rfl), (Nat.le_of_ble_eq_true rfl)⟩ (Nat.le_of_ble_eq_true rfl) (by decide +kernel) (fun v126 w127 h128 => ?_)
  obtain ⟨rfl, rfl⟩ := h128
  show mp_W E X 3 23 [(2, .int 10), (1, .int 0), (0, .ref a0)] [.int 0, .int 0] [(a0, .inr (7, [.int 0, .int 0, .int 0, .int 0, .int 0, .int 0, .ref a2, .ref a1, .ref a3, .ref a4, .ref a5, .ref a6, .ref a7, .ref a8, .ref a9, .ref a10, .ref a11, .ref a12])), (a1, .inl (E.2.2 2, 12, .inr (.inl (fun _ => 0))))] 0 0
  refine mp_run hF mp_tabX7_ok [mp_i .iadd, mp_i (.istore_n 1), mp_c (.iinc 2 1) 1, mp_h (.goto (-24)) [4], mp_i (.iload_n 2), mp_i (.aload_n 0), mp_h (.getfield 15) [7, 0], mp_h .arraylength [1, 2], mp_h (.if_icmp .ge 21) [31]] (by decide +kernel) ?_
  intro z129 h130
  obtain rfl : z129 = 0 := h130.trans (by decide)
  intro z131 h132
  obtain rfl : z131 = 11 := h132.trans (by decide)
  refine And.intro rfl (And.intro rfl ?_)
  refine And.intro rfl (And.intro rfl (And.intro (by decide) ?_))
  intro z133 h134
  obtain rfl : z133 = 12 := h134.trans (by decide)
  refine And.intro (fun c135 => absurd c135 (by decide)) (fun _ => ?_)
  show mp_W E X 3 13 [(2, .int 11), (1, .int 0), (0, .ref a0)] [] [(a0, .inr (7, [.int 0, .int 0, .int 0, .int 0, .int 0, .int 0, .ref a2, .ref a1, .ref a3, .ref a4, .ref a5, .ref a6, .ref a7, .ref a8, .ref a9, .ref a10, .ref a11, .ref a12])), (a1, .inl (E.2.2 2, 12, .inr (.inl (fun _ => 0))))] 0 0
  refine mp_run hF mp_tabX7_ok [mp_i (.iload_n 1), mp_i (.aload_n 0), mp_h (.getfield 15) [7, 0], mp_i (.iload_n 2), mp_h .laload [1]] (by decide +kernel) ?_
  refine And.intro rfl (And.intro rfl ?_)
  refine And.intro rfl (And.intro rfl (And.intro (vp_in_iff.mpr (by decide)) ?_))
  intro z136 h137
  obtain rfl : z136 = 0 := h137
  show mp_W E X 3 20 [(2, .int 11), (1, .int 0), (0, .ref a0)] [.long 0, .int 0] [(a0, .inr (7, [.int 0, .int 0, .int 0, .int 0, .int 0, .int 0, .ref a2, .ref a1, .ref a3, .ref a4, .ref a5, .ref a6, .ref a7, .ref a8, .ref a9, .ref a10, .ref a11, .ref a12])), (a1, .inl (E.2.2 2, 12, .inr (.inl (fun _ => 0))))] 0 0
  refine mp_callS hF (As := [.long 0]) (rest := [.int 0]) (wr := [(a0, .inr (7, [.int 0, .int 0, .int 0, .int 0, .int 0, .int 0, .ref a2, .ref a1, .ref a3, .ref a4, .ref a5, .ref a6, .ref a7, .ref a8, .ref a9, .ref a10, .ref a11, .ref a12])), (a1, .inl (E.2.2 2, 12, .inr (.inl (fun _ => 0))))]) (aJ13_bitCount_95d88_169 E ) mp_lkX7_85 [] [0, 1] rfl rfl rfl rfl rfl ⟨(Nat.le_of_ble_eq_true rfl), (Nat.le_of_ble_eq_true rfl), (Nat.le_of_ble_eq_true rfl), (Nat.le_of_ble_eq_true rfl)⟩ (Nat.le_of_ble_eq_true rfl) (by decide +kernel) (fun v138 w139 h140 => ?_)
  obtain ⟨rfl, rfl⟩ := h140
  show mp_W E X 3 23 [(2, .int 11), (1, .int 0), (0, .ref a0)] [.int 0, .int 0] [(a0, .inr (7, [.int 0, .int 0, .int 0, .int 0, .int 0, .int 0, .ref a2, .ref a1, .ref a3, .ref a4, .ref a5, .ref a6, .ref a7, .ref a8, .ref a9, .ref a10, .ref a11, .ref a12])), (a1, .inl (E.2.2 2, 12, .inr (.inl (fun _ => 0))))] 0 0
  refine mp_run hF mp_tabX7_ok [mp_i .iadd, mp_i (.istore_n 1), mp_c (.iinc 2 1) 1, mp_h (.goto (-24)) [4], mp_i (.iload_n 2), mp_i (.aload_n 0), mp_h (.getfield 15) [7, 0], mp_h .arraylength [1, 2], mp_h (.if_icmp .ge 21) [31]] (by decide +kernel) ?_
  intro z141 h142
  obtain rfl : z141 = 0 := h142.trans (by decide)
  intro z143 h144
  obtain rfl : z143 = 12 := h144.trans (by decide)
  refine And.intro rfl (And.intro rfl ?_)
  refine And.intro rfl (And.intro rfl (And.intro (by decide) ?_))
  intro z145 h146
  obtain rfl : z145 = 12 := h146.trans (by decide)
  refine And.intro (fun _ => ?_) (fun c147 => absurd c147 (by decide))
  show mp_W E X 3 31 [(2, .int 12), (1, .int 0), (0, .ref a0)] [] [(a0, .inr (7, [.int 0, .int 0, .int 0, .int 0, .int 0, .int 0, .ref a2, .ref a1, .ref a3, .ref a4, .ref a5, .ref a6, .ref a7, .ref a8, .ref a9, .ref a10, .ref a11, .ref a12])), (a1, .inl (E.2.2 2, 12, .inr (.inl (fun _ => 0))))] 0 0
  refine mp_run hF mp_tabX7_ok [mp_i (.iload_n 1)] (by decide +kernel) ?_
  show mp_W E X 3 32 [(2, .int 12), (1, .int 0), (0, .ref a0)] [.int 0] [(a0, .inr (7, [.int 0, .int 0, .int 0, .int 0, .int 0, .int 0, .ref a2, .ref a1, .ref a3, .ref a4, .ref a5, .ref a6, .ref a7, .ref a8, .ref a9, .ref a10, .ref a11, .ref a12])), (a1, .inl (E.2.2 2, 12, .inr (.inl (fun _ => 0))))] 0 0
  exact mp_iret hF hQ rfl rfl (Nat.le_of_ble_eq_true rfl) (Nat.le_of_ble_eq_true rfl) [0, 1] (w' := [(a0, .inr (7, [.int 0, .int 0, .int 0, .int 0, .int 0, .int 0, .ref a2, .ref a1, .ref a3, .ref a4, .ref a5, .ref a6, .ref a7, .ref a8, .ref a9, .ref a10, .ref a11, .ref a12])), (a1, .inl (E.2.2 2, 12, .inr (.inl (fun _ => 0))))]) rfl rfl ⟨rfl, rfl⟩ (by decide +kernel)
set_option maxHeartbeats 4000000 in
set_option maxRecDepth 100000 in
theorem aX5_isTaken_171 (E : mp_E) (a0 a1 a2 a3 : Nat) (f0 : Nat → Int32) (p0 : ∀ j, j < 4 → f0 j = (-1)) : mp_Ct E yX5_isTaken cX5_isTaken 2 (some FieldType.boolean) 0 0 0 0 [.ref a0, .int 0] [(a0, .inr (5, [.ref a2, .ref a3, .ref a1])), (a1, .inl (E.2.2 0, 4, .inl f0))] (fun v w' => v = some (.int 0) ∧ w' = [(a0, .inr (5, [.ref a2, .ref a3, .ref a1])), (a1, .inl (E.2.2 0, 4, .inl f0))]) := by
  refine mp_met false (by decide) (by decide) (Nat.le_of_ble_eq_true rfl) (fun X hF hQ => ?_)
  have hF : mp_F E X (RX5, cX5_isTaken, 2, (0, 0, 0, 0), (some FieldType.boolean), false) := hF
  show mp_W E X 2 0 [(0, .ref a0), (1, .int 0)] [] [(a0, .inr (5, [.ref a2, .ref a3, .ref a1])), (a1, .inl (E.2.2 0, 4, .inl f0))] 0 0
  refine mp_run hF mp_tabX5_ok [mp_i (.aload_n 0), mp_h (.getfield 19) [2, 0], mp_i (.iload_n 1), mp_h .iaload [1], mp_c (.iconst (-1)) (-1), mp_h (.if_icmp .eq 7) [14]] (by decide +kernel) ?_
  refine And.intro rfl (And.intro rfl ?_)
  refine And.intro rfl (And.intro rfl (And.intro (vp_in_iff.mpr (by decide)) ?_))
  intro z1 h2
  obtain rfl : z1 = (-1) := mp_at h2 (by decide) (p0 0 (by decide))
  refine And.intro (fun _ => ?_) (fun c3 => absurd c3 (by decide))
  show mp_W E X 2 14 [(0, .ref a0), (1, .int 0)] [] [(a0, .inr (5, [.ref a2, .ref a3, .ref a1])), (a1, .inl (E.2.2 0, 4, .inl f0))] 0 0
  refine mp_run hF mp_tabX5_ok [mp_c (.iconst 0) 0] (by decide +kernel) ?_
  show mp_W E X 2 15 [(0, .ref a0), (1, .int 0)] [.int 0] [(a0, .inr (5, [.ref a2, .ref a3, .ref a1])), (a1, .inl (E.2.2 0, 4, .inl f0))] 0 0
  exact mp_iret hF hQ rfl (by decide) (Nat.le_of_ble_eq_true rfl) (Nat.le_of_ble_eq_true rfl) [0, 1] (w' := [(a0, .inr (5, [.ref a2, .ref a3, .ref a1])), (a1, .inl (E.2.2 0, 4, .inl f0))]) rfl rfl ⟨rfl, rfl⟩ (by decide +kernel)
set_option maxHeartbeats 4000000 in
set_option maxRecDepth 100000 in
theorem aX5_isTaken_172 (E : mp_E) (a0 a1 a2 a3 : Nat) (f0 : Nat → Int32) (p0 : ∀ j, j < 4 → f0 j = (-1)) : mp_Ct E yX5_isTaken cX5_isTaken 2 (some FieldType.boolean) 0 0 0 0 [.ref a0, .int 1] [(a0, .inr (5, [.ref a2, .ref a3, .ref a1])), (a1, .inl (E.2.2 0, 4, .inl f0))] (fun v w' => v = some (.int 0) ∧ w' = [(a0, .inr (5, [.ref a2, .ref a3, .ref a1])), (a1, .inl (E.2.2 0, 4, .inl f0))]) := by
  refine mp_met false (by decide) (by decide) (Nat.le_of_ble_eq_true rfl) (fun X hF hQ => ?_)
  have hF : mp_F E X (RX5, cX5_isTaken, 2, (0, 0, 0, 0), (some FieldType.boolean), false) := hF
  show mp_W E X 2 0 [(0, .ref a0), (1, .int 1)] [] [(a0, .inr (5, [.ref a2, .ref a3, .ref a1])), (a1, .inl (E.2.2 0, 4, .inl f0))] 0 0
  refine mp_run hF mp_tabX5_ok [mp_i (.aload_n 0), mp_h (.getfield 19) [2, 0], mp_i (.iload_n 1), mp_h .iaload [1], mp_c (.iconst (-1)) (-1), mp_h (.if_icmp .eq 7) [14]] (by decide +kernel) ?_
  refine And.intro rfl (And.intro rfl ?_)
  refine And.intro rfl (And.intro rfl (And.intro (vp_in_iff.mpr (by decide)) ?_))
  intro z1 h2
  obtain rfl : z1 = (-1) := mp_at h2 (by decide) (p0 1 (by decide))
  refine And.intro (fun _ => ?_) (fun c3 => absurd c3 (by decide))
  show mp_W E X 2 14 [(0, .ref a0), (1, .int 1)] [] [(a0, .inr (5, [.ref a2, .ref a3, .ref a1])), (a1, .inl (E.2.2 0, 4, .inl f0))] 0 0
  refine mp_run hF mp_tabX5_ok [mp_c (.iconst 0) 0] (by decide +kernel) ?_
  show mp_W E X 2 15 [(0, .ref a0), (1, .int 1)] [.int 0] [(a0, .inr (5, [.ref a2, .ref a3, .ref a1])), (a1, .inl (E.2.2 0, 4, .inl f0))] 0 0
  exact mp_iret hF hQ rfl (by decide) (Nat.le_of_ble_eq_true rfl) (Nat.le_of_ble_eq_true rfl) [0, 1] (w' := [(a0, .inr (5, [.ref a2, .ref a3, .ref a1])), (a1, .inl (E.2.2 0, 4, .inl f0))]) rfl rfl ⟨rfl, rfl⟩ (by decide +kernel)
set_option maxHeartbeats 4000000 in
set_option maxRecDepth 100000 in
theorem aX5_isTaken_173 (E : mp_E) (a0 a1 a2 a3 : Nat) (f0 : Nat → Int32) (p0 : ∀ j, j < 4 → f0 j = (-1)) : mp_Ct E yX5_isTaken cX5_isTaken 2 (some FieldType.boolean) 0 0 0 0 [.ref a0, .int 2] [(a0, .inr (5, [.ref a2, .ref a3, .ref a1])), (a1, .inl (E.2.2 0, 4, .inl f0))] (fun v w' => v = some (.int 0) ∧ w' = [(a0, .inr (5, [.ref a2, .ref a3, .ref a1])), (a1, .inl (E.2.2 0, 4, .inl f0))]) := by
  refine mp_met false (by decide) (by decide) (Nat.le_of_ble_eq_true rfl) (fun X hF hQ => ?_)
  have hF : mp_F E X (RX5, cX5_isTaken, 2, (0, 0, 0, 0), (some FieldType.boolean), false) := hF
  show mp_W E X 2 0 [(0, .ref a0), (1, .int 2)] [] [(a0, .inr (5, [.ref a2, .ref a3, .ref a1])), (a1, .inl (E.2.2 0, 4, .inl f0))] 0 0
  refine mp_run hF mp_tabX5_ok [mp_i (.aload_n 0), mp_h (.getfield 19) [2, 0], mp_i (.iload_n 1), mp_h .iaload [1], mp_c (.iconst (-1)) (-1), mp_h (.if_icmp .eq 7) [14]] (by decide +kernel) ?_
  refine And.intro rfl (And.intro rfl ?_)
  refine And.intro rfl (And.intro rfl (And.intro (vp_in_iff.mpr (by decide)) ?_))
  intro z1 h2
  obtain rfl : z1 = (-1) := mp_at h2 (by decide) (p0 2 (by decide))
  refine And.intro (fun _ => ?_) (fun c3 => absurd c3 (by decide))
  show mp_W E X 2 14 [(0, .ref a0), (1, .int 2)] [] [(a0, .inr (5, [.ref a2, .ref a3, .ref a1])), (a1, .inl (E.2.2 0, 4, .inl f0))] 0 0
  refine mp_run hF mp_tabX5_ok [mp_c (.iconst 0) 0] (by decide +kernel) ?_
  show mp_W E X 2 15 [(0, .ref a0), (1, .int 2)] [.int 0] [(a0, .inr (5, [.ref a2, .ref a3, .ref a1])), (a1, .inl (E.2.2 0, 4, .inl f0))] 0 0
  exact mp_iret hF hQ rfl (by decide) (Nat.le_of_ble_eq_true rfl) (Nat.le_of_ble_eq_true rfl) [0, 1] (w' := [(a0, .inr (5, [.ref a2, .ref a3, .ref a1])), (a1, .inl (E.2.2 0, 4, .inl f0))]) rfl rfl ⟨rfl, rfl⟩ (by decide +kernel)
set_option maxHeartbeats 4000000 in
set_option maxRecDepth 100000 in
theorem aX5_isTaken_174 (E : mp_E) (a0 a1 a2 a3 : Nat) (f0 : Nat → Int32) (p0 : ∀ j, j < 4 → f0 j = (-1)) : mp_Ct E yX5_isTaken cX5_isTaken 2 (some FieldType.boolean) 0 0 0 0 [.ref a0, .int 3] [(a0, .inr (5, [.ref a2, .ref a3, .ref a1])), (a1, .inl (E.2.2 0, 4, .inl f0))] (fun v w' => v = some (.int 0) ∧ w' = [(a0, .inr (5, [.ref a2, .ref a3, .ref a1])), (a1, .inl (E.2.2 0, 4, .inl f0))]) := by
  refine mp_met false (by decide) (by decide) (Nat.le_of_ble_eq_true rfl) (fun X hF hQ => ?_)
  have hF : mp_F E X (RX5, cX5_isTaken, 2, (0, 0, 0, 0), (some FieldType.boolean), false) := hF
  show mp_W E X 2 0 [(0, .ref a0), (1, .int 3)] [] [(a0, .inr (5, [.ref a2, .ref a3, .ref a1])), (a1, .inl (E.2.2 0, 4, .inl f0))] 0 0
  refine mp_run hF mp_tabX5_ok [mp_i (.aload_n 0), mp_h (.getfield 19) [2, 0], mp_i (.iload_n 1), mp_h .iaload [1], mp_c (.iconst (-1)) (-1), mp_h (.if_icmp .eq 7) [14]] (by decide +kernel) ?_
  refine And.intro rfl (And.intro rfl ?_)
  refine And.intro rfl (And.intro rfl (And.intro (vp_in_iff.mpr (by decide)) ?_))
  intro z1 h2
  obtain rfl : z1 = (-1) := mp_at h2 (by decide) (p0 3 (by decide))
  refine And.intro (fun _ => ?_) (fun c3 => absurd c3 (by decide))
  show mp_W E X 2 14 [(0, .ref a0), (1, .int 3)] [] [(a0, .inr (5, [.ref a2, .ref a3, .ref a1])), (a1, .inl (E.2.2 0, 4, .inl f0))] 0 0
  refine mp_run hF mp_tabX5_ok [mp_c (.iconst 0) 0] (by decide +kernel) ?_
  show mp_W E X 2 15 [(0, .ref a0), (1, .int 3)] [.int 0] [(a0, .inr (5, [.ref a2, .ref a3, .ref a1])), (a1, .inl (E.2.2 0, 4, .inl f0))] 0 0
  exact mp_iret hF hQ rfl (by decide) (Nat.le_of_ble_eq_true rfl) (Nat.le_of_ble_eq_true rfl) [0, 1] (w' := [(a0, .inr (5, [.ref a2, .ref a3, .ref a1])), (a1, .inl (E.2.2 0, 4, .inl f0))]) rfl rfl ⟨rfl, rfl⟩ (by decide +kernel)
set_option maxHeartbeats 4000000 in
set_option maxRecDepth 100000 in
theorem aX5_countTaken_175 (E : mp_E) (a0 a1 a2 a3 : Nat) (f0 : Nat → Int32) (p0 : ∀ j, j < 4 → f0 j = (-1)) : mp_Ct E yX5_countTaken cX5_countTaken 3 (some FieldType.int) 1 0 0 21 [.ref a0] [(a0, .inr (5, [.ref a2, .ref a3, .ref a1])), (a1, .inl (E.2.2 0, 4, .inl f0))] (fun v w' => v = some (.int 0) ∧ w' = [(a0, .inr (5, [.ref a2, .ref a3, .ref a1])), (a1, .inl (E.2.2 0, 4, .inl f0))]) := by
  refine mp_met false (by decide) (by decide) (Nat.le_of_ble_eq_true rfl) (fun X hF hQ => ?_)
  have hF : mp_F E X (RX5, cX5_countTaken, 3, (1, 0, 0, 21), (some FieldType.int), false) := hF
  show mp_W E X 3 0 [(0, .ref a0)] [] [(a0, .inr (5, [.ref a2, .ref a3, .ref a1])), (a1, .inl (E.2.2 0, 4, .inl f0))] 0 0
  refine mp_run hF mp_tabX5_ok [mp_c (.iconst 0) 0, mp_i (.istore_n 1), mp_c (.iconst 0) 0, mp_i (.istore_n 2), mp_i (.iload_n 2), mp_c (.iconst 4) 4, mp_h (.if_icmp .ge 20) [26]] (by decide +kernel) ?_
  refine And.intro (fun c1 => absurd c1 (by decide)) (fun _ => ?_)
  show mp_W E X 3 9 [(2, .int 0), (1, .int 0), (0, .ref a0)] [] [(a0, .inr (5, [.ref a2, .ref a3, .ref a1])), (a1, .inl (E.2.2 0, 4, .inl f0))] 0 0
  refine mp_run hF mp_tabX5_ok [mp_i (.aload_n 0), mp_i (.iload_n 2)] (by decide +kernel) ?_
  show mp_W E X 3 11 [(2, .int 0), (1, .int 0), (0, .ref a0)] [.int 0, .ref a0] [(a0, .inr (5, [.ref a2, .ref a3, .ref a1])), (a1, .inl (E.2.2 0, 4, .inl f0))] 0 0
  refine mp_callV hF (As := [.int 0]) (rest := []) (wr := []) (aX5_isTaken_171 E a0 a1 a2 a3 f0 p0) mp_lkX5_22 0 rfl [0, 1] [] rfl rfl rfl rfl rfl ⟨(Nat.le_of_ble_eq_true rfl), (Nat.le_of_ble_eq_true rfl), (Nat.le_of_ble_eq_true rfl), (Nat.le_of_ble_eq_true rfl)⟩ (Nat.le_of_ble_eq_true rfl) (by decide +kernel) (fun v2 w3 h4 => ?_)
  obtain ⟨rfl, rfl⟩ := h4
  show mp_W E X 3 14 [(2, .int 0), (1, .int 0), (0, .ref a0)] [.int 0] [(a0, .inr (5, [.ref a2, .ref a3, .ref a1])), (a1, .inl (E.2.2 0, 4, .inl f0))] 0 0
  refine mp_run hF mp_tabX5_ok [mp_h (.ifCond .eq 6) [20]] (by decide +kernel) ?_
  refine And.intro (fun _ => ?_) (fun c5 => absurd c5 (by decide))
  show mp_W E X 3 20 [(2, .int 0), (1, .int 0), (0, .ref a0)] [] [(a0, .inr (5, [.ref a2, .ref a3, .ref a1])), (a1, .inl (E.2.2 0, 4, .inl f0))] 0 0
  refine mp_run hF mp_tabX5_ok [mp_c (.iinc 2 1) 1, mp_h (.goto (-19)) [4], mp_i (.iload_n 2), mp_c (.iconst 4) 4, mp_h (.if_icmp .ge 20) [26]] (by decide +kernel) ?_
  intro z6 h7
  obtain rfl : z6 = 1 := h7.trans (by decide)
  refine And.intro (fun c8 => absurd c8 (by decide)) (fun _ => ?_)
  show mp_W E X 3 9 [(2, .int 1), (1, .int 0), (0, .ref a0)] [] [(a0, .inr (5, [.ref a2, .ref a3, .ref a1])), (a1, .inl (E.2.2 0, 4, .inl f0))] 0 0
  refine mp_run hF mp_tabX5_ok [mp_i (.aload_n 0), mp_i (.iload_n 2)] (by decide +kernel) ?_
  show mp_W E X 3 11 [(2, .int 1), (1, .int 0), (0, .ref a0)] [.int 1, .ref a0] [(a0, .inr (5, [.ref a2, .ref a3, .ref a1])), (a1, .inl (E.2.2 0, 4, .inl f0))] 0 0
  refine mp_callV hF (As := [.int 1]) (rest := []) (wr := []) (aX5_isTaken_172 E a0 a1 a2 a3 f0 p0) mp_lkX5_22 0 rfl [0, 1] [] rfl rfl rfl rfl rfl ⟨(Nat.le_of_ble_eq_true rfl), (Nat.le_of_ble_eq_true rfl), (Nat.le_of_ble_eq_true rfl), (Nat.le_of_ble_eq_true rfl)⟩ (Nat.le_of_ble_eq_true rfl) (by decide +kernel) (fun v9 w10 h11 => ?_)
  obtain ⟨rfl, rfl⟩ := h11
  show mp_W E X 3 14 [(2, .int 1), (1, .int 0), (0, .ref a0)] [.int 0] [(a0, .inr (5, [.ref a2, .ref a3, .ref a1])), (a1, .inl (E.2.2 0, 4, .inl f0))] 0 0
  refine mp_run hF mp_tabX5_ok [mp_h (.ifCond .eq 6) [20]] (by decide +kernel) ?_
  refine And.intro (fun _ => ?_) (fun c12 => absurd c12 (by decide))
  show mp_W E X 3 20 [(2, .int 1), (1, .int 0), (0, .ref a0)] [] [(a0, .inr (5, [.ref a2, .ref a3, .ref a1])), (a1, .inl (E.2.2 0, 4, .inl f0))] 0 0
  refine mp_run hF mp_tabX5_ok [mp_c (.iinc 2 1) 1, mp_h (.goto (-19)) [4], mp_i (.iload_n 2), mp_c (.iconst 4) 4, mp_h (.if_icmp .ge 20) [26]] (by decide +kernel) ?_
  intro z13 h14
  obtain rfl : z13 = 2 := h14.trans (by decide)
  refine And.intro (fun c15 => absurd c15 (by decide)) (fun _ => ?_)
  show mp_W E X 3 9 [(2, .int 2), (1, .int 0), (0, .ref a0)] [] [(a0, .inr (5, [.ref a2, .ref a3, .ref a1])), (a1, .inl (E.2.2 0, 4, .inl f0))] 0 0
  refine mp_run hF mp_tabX5_ok [mp_i (.aload_n 0), mp_i (.iload_n 2)] (by decide +kernel) ?_
  show mp_W E X 3 11 [(2, .int 2), (1, .int 0), (0, .ref a0)] [.int 2, .ref a0] [(a0, .inr (5, [.ref a2, .ref a3, .ref a1])), (a1, .inl (E.2.2 0, 4, .inl f0))] 0 0
  refine mp_callV hF (As := [.int 2]) (rest := []) (wr := []) (aX5_isTaken_173 E a0 a1 a2 a3 f0 p0) mp_lkX5_22 0 rfl [0, 1] [] rfl rfl rfl rfl rfl ⟨(Nat.le_of_ble_eq_true rfl), (Nat.le_of_ble_eq_true rfl), (Nat.le_of_ble_eq_true rfl), (Nat.le_of_ble_eq_true rfl)⟩ (Nat.le_of_ble_eq_true rfl) (by decide +kernel) (fun v16 w17 h18 => ?_)
  obtain ⟨rfl, rfl⟩ := h18
  show mp_W E X 3 14 [(2, .int 2), (1, .int 0), (0, .ref a0)] [.int 0] [(a0, .inr (5, [.ref a2, .ref a3, .ref a1])), (a1, .inl (E.2.2 0, 4, .inl f0))] 0 0
  refine mp_run hF mp_tabX5_ok [mp_h (.ifCond .eq 6) [20]] (by decide +kernel) ?_
  refine And.intro (fun _ => ?_) (fun c19 => absurd c19 (by decide))
  show mp_W E X 3 20 [(2, .int 2), (1, .int 0), (0, .ref a0)] [] [(a0, .inr (5, [.ref a2, .ref a3, .ref a1])), (a1, .inl (E.2.2 0, 4, .inl f0))] 0 0
  refine mp_run hF mp_tabX5_ok [mp_c (.iinc 2 1) 1, mp_h (.goto (-19)) [4], mp_i (.iload_n 2), mp_c (.iconst 4) 4, mp_h (.if_icmp .ge 20) [26]] (by decide +kernel) ?_
  intro z20 h21
  obtain rfl : z20 = 3 := h21.trans (by decide)
  refine And.intro (fun c22 => absurd c22 (by decide)) (fun _ => ?_)
  show mp_W E X 3 9 [(2, .int 3), (1, .int 0), (0, .ref a0)] [] [(a0, .inr (5, [.ref a2, .ref a3, .ref a1])), (a1, .inl (E.2.2 0, 4, .inl f0))] 0 0
  refine mp_run hF mp_tabX5_ok [mp_i (.aload_n 0), mp_i (.iload_n 2)] (by decide +kernel) ?_
  show mp_W E X 3 11 [(2, .int 3), (1, .int 0), (0, .ref a0)] [.int 3, .ref a0] [(a0, .inr (5, [.ref a2, .ref a3, .ref a1])), (a1, .inl (E.2.2 0, 4, .inl f0))] 0 0
  refine mp_callV hF (As := [.int 3]) (rest := []) (wr := []) (aX5_isTaken_174 E a0 a1 a2 a3 f0 p0) mp_lkX5_22 0 rfl [0, 1] [] rfl rfl rfl rfl rfl ⟨(Nat.le_of_ble_eq_true rfl), (Nat.le_of_ble_eq_true rfl), (Nat.le_of_ble_eq_true rfl), (Nat.le_of_ble_eq_true rfl)⟩ (Nat.le_of_ble_eq_true rfl) (by decide +kernel) (fun v23 w24 h25 => ?_)
  obtain ⟨rfl, rfl⟩ := h25
  show mp_W E X 3 14 [(2, .int 3), (1, .int 0), (0, .ref a0)] [.int 0] [(a0, .inr (5, [.ref a2, .ref a3, .ref a1])), (a1, .inl (E.2.2 0, 4, .inl f0))] 0 0
  refine mp_run hF mp_tabX5_ok [mp_h (.ifCond .eq 6) [20]] (by decide +kernel) ?_
  refine And.intro (fun _ => ?_) (fun c26 => absurd c26 (by decide))
  show mp_W E X 3 20 [(2, .int 3), (1, .int 0), (0, .ref a0)] [] [(a0, .inr (5, [.ref a2, .ref a3, .ref a1])), (a1, .inl (E.2.2 0, 4, .inl f0))] 0 0
  refine mp_run hF mp_tabX5_ok [mp_c (.iinc 2 1) 1, mp_h (.goto (-19)) [4], mp_i (.iload_n 2), mp_c (.iconst 4) 4, mp_h (.if_icmp .ge 20) [26]] (by decide +kernel) ?_
  intro z27 h28
  obtain rfl : z27 = 4 := h28.trans (by decide)
  refine And.intro (fun _ => ?_) (fun c29 => absurd c29 (by decide))
  show mp_W E X 3 26 [(2, .int 4), (1, .int 0), (0, .ref a0)] [] [(a0, .inr (5, [.ref a2, .ref a3, .ref a1])), (a1, .inl (E.2.2 0, 4, .inl f0))] 0 0
  refine mp_run hF mp_tabX5_ok [mp_i (.iload_n 1)] (by decide +kernel) ?_
  show mp_W E X 3 27 [(2, .int 4), (1, .int 0), (0, .ref a0)] [.int 0] [(a0, .inr (5, [.ref a2, .ref a3, .ref a1])), (a1, .inl (E.2.2 0, 4, .inl f0))] 0 0
  exact mp_iret hF hQ rfl rfl (Nat.le_of_ble_eq_true rfl) (Nat.le_of_ble_eq_true rfl) [0, 1] (w' := [(a0, .inr (5, [.ref a2, .ref a3, .ref a1])), (a1, .inl (E.2.2 0, 4, .inl f0))]) rfl rfl ⟨rfl, rfl⟩ (by decide +kernel)
set_option maxHeartbeats 4000000 in
set_option maxRecDepth 100000 in
theorem aX9_count_176 (E : mp_E) (a0 a1 a2 a3 a4 a5 a6 a7 a8 a9 a10 a11 a12 a13 a14 a15 a16 a17 a18 a19 a20 a21 a22 a23 a24 a25 a26 a27 a28 a29 a30 a31 a32 a33 : Nat) (f0 : Nat → Int32) (x0 : Int32) (p0 : ∀ j, j < 4 → f0 j = (-1)) : mp_Ct E yX9_count cX9_count 3 (some FieldType.int) 2 0 0 43 [.ref a0, .int x0] [(a0, .inr (9, [.ref a1, .ref a2, .ref a8, .ref a9, .ref a10, .ref a11, .ref a12, .ref a13, .ref a6])), (a1, .inr (3, [.ref a14, .int 0, .ref a15, .int 0, .int (-1), .int 0, .int 0, .int 0, .int 0, .int 0])), (a2, .inr (0, [.ref a3, .int 0, .ref a16, .ref a17, .ref a18, .ref a19, .ref a20, .ref a21])), (a3, .inr (7, [.int 0, .int 0, .int 0, .int 0, .int 0, .int 0, .ref a4, .ref a5, .ref a22, .ref a23, .ref a24, .ref a25, .ref a26, .ref a27, .ref a28, .ref a29, .ref a30, .ref a31])), (a4, .inl (E.2.2 0, 36, .inl (fun _ => 0))), (a5, .inl (E.2.2 2, 12, .inr (.inl (fun _ => 0)))), (a6, .inr (5, [.ref a32, .ref a33, .ref a7])), (a7, .inl (E.2.2 0, 4, .inl f0))] (fun v w' => (v = some (.int (-1)) ∧ x0.toInt < 0 ∧ w' = []) ∨ (v = some (.int (-1)) ∧ 9 < x0.toInt ∧ w' = []) ∨ (v = some (.int 0) ∧ x0.toInt = 0 ∧ w' = []) ∨ (v = some (.int 0) ∧ x0.toInt = 1 ∧ w' = []) ∨ (v = some (.int 0) ∧ x0.toInt = 2 ∧ w' = []) ∨ (v = some (.int 0) ∧ x0.toInt = 3 ∧ w' = []) ∨ (v = some (.int 0) ∧ x0.toInt = 4 ∧ w' = []) ∨ (v = some (.int 0) ∧ x0.toInt = 5 ∧ w' = []) ∨ (v = some (.int 0) ∧ x0.toInt = 6 ∧ w' = []) ∨ (v = some (.int 0) ∧ x0.toInt = 7 ∧ w' = []) ∨ (v = some (.int 0) ∧ x0.toInt = 8 ∧ w' = []) ∨ (v = some (.int 0) ∧ x0.toInt = 9 ∧ w' = [])) := by
  refine mp_met false (by decide) (by decide) (Nat.le_of_ble_eq_true rfl) (fun X hF hQ => ?_)
  have hF : mp_F E X (RX9, cX9_count, 3, (2, 0, 0, 43), (some FieldType.int), false) := hF
  show mp_W E X 3 0 [(0, .ref a0), (1, .int x0)] [] [(a0, .inr (9, [.ref a1, .ref a2, .ref a8, .ref a9, .ref a10, .ref a11, .ref a12, .ref a13, .ref a6])), (a1, .inr (3, [.ref a14, .int 0, .ref a15, .int 0, .int (-1), .int 0, .int 0, .int 0, .int 0, .int 0])), (a2, .inr (0, [.ref a3, .int 0, .ref a16, .ref a17, .ref a18, .ref a19, .ref a20, .ref a21])), (a3, .inr (7, [.int 0, .int 0, .int 0, .int 0, .int 0, .int 0, .ref a4, .ref a5, .ref a22, .ref a23, .ref a24, .ref a25, .ref a26, .ref a27, .ref a28, .ref a29, .ref a30, .ref a31])), (a4, .inl (E.2.2 0, 36, .inl (fun _ => 0))), (a5, .inl (E.2.2 2, 12, .inr (.inl (fun _ => 0)))), (a6, .inr (5, [.ref a32, .ref a33, .ref a7])), (a7, .inl (E.2.2 0, 4, .inl f0))] 0 0
  refine mp_run hF mp_tabX9_ok [mp_i (.aload_n 0), mp_h (.getfield 19) [37, 0], mp_h (.getfield 83) [20, 2], mp_i (.astore_n 2), mp_i (.iload_n 1)] (by decide +kernel) ?_
  refine And.intro rfl (And.intro rfl ?_)
  refine And.intro rfl (And.intro rfl ?_)
  show mp_W E X 3 9 [(2, .ref a3), (0, .ref a0), (1, .int x0)] [.int x0] [(a0, .inr (9, [.ref a1, .ref a2, .ref a8, .ref a9, .ref a10, .ref a11, .ref a12, .ref a13, .ref a6])), (a1, .inr (3, [.ref a14, .int 0, .ref a15, .int 0, .int (-1), .int 0, .int 0, .int 0, .int 0, .int 0])), (a2, .inr (0, [.ref a3, .int 0, .ref a16, .ref a17, .ref a18, .ref a19, .ref a20, .ref a21])), (a3, .inr (7, [.int 0, .int 0, .int 0, .int 0, .int 0, .int 0, .ref a4, .ref a5, .ref a22, .ref a23, .ref a24, .ref a25, .ref a26, .ref a27, .ref a28, .ref a29, .ref a30, .ref a31])), (a4, .inl (E.2.2 0, 36, .inl (fun _ => 0))), (a5, .inl (E.2.2 2, 12, .inr (.inl (fun _ => 0)))), (a6, .inr (5, [.ref a32, .ref a33, .ref a7])), (a7, .inl (E.2.2 0, 4, .inl f0))] 0 0
  rcases (show x0.toInt < 0 ∨ 9 < x0.toInt ∨ x0.toInt = 0 ∨ x0.toInt = 1 ∨ x0.toInt = 2 ∨ x0.toInt = 3 ∨ x0.toInt = 4 ∨ x0.toInt = 5 ∨ x0.toInt = 6 ∨ x0.toInt = 7 ∨ x0.toInt = 8 ∨ x0.toInt = 9 by omega) with c1 | c1 | c1 | c1 | c1 | c1 | c1 | c1 | c1 | c1 | c1 | c1
  · refine mp_tabOut hF (dflt := 111) (lo := 0) (hi := 9) (offs := #[55, 60, 65, 70, 75, 80, 85, 90, 98, 103]) (len := 55) (by decide +kernel) (Or.inl c1) (tgt := 120) (by decide) ?_
    show mp_W E X 3 120 [(2, .ref a3), (0, .ref a0), (1, .int x0)] [] [(a0, .inr (9, [.ref a1, .ref a2, .ref a8, .ref a9, .ref a10, .ref a11, .ref a12, .ref a13, .ref a6])), (a1, .inr (3, [.ref a14, .int 0, .ref a15, .int 0, .int (-1), .int 0, .int 0, .int 0, .int 0, .int 0])), (a2, .inr (0, [.ref a3, .int 0, .ref a16, .ref a17, .ref a18, .ref a19, .ref a20, .ref a21])), (a3, .inr (7, [.int 0, .int 0, .int 0, .int 0, .int 0, .int 0, .ref a4, .ref a5, .ref a22, .ref a23, .ref a24, .ref a25, .ref a26, .ref a27, .ref a28, .ref a29, .ref a30, .ref a31])), (a4, .inl (E.2.2 0, 36, .inl (fun _ => 0))), (a5, .inl (E.2.2 2, 12, .inr (.inl (fun _ => 0)))), (a6, .inr (5, [.ref a32, .ref a33, .ref a7])), (a7, .inl (E.2.2 0, 4, .inl f0))] 0 0
    refine mp_run hF mp_tabX9_ok [mp_c (.iconst (-1)) (-1)] (by decide +kernel) ?_
    show mp_W E X 3 121 [(2, .ref a3), (0, .ref a0), (1, .int x0)] [.int (-1)] [(a0, .inr (9, [.ref a1, .ref a2, .ref a8, .ref a9, .ref a10, .ref a11, .ref a12, .ref a13, .ref a6])), (a1, .inr (3, [.ref a14, .int 0, .ref a15, .int 0, .int (-1), .int 0, .int 0, .int 0, .int 0, .int 0])), (a2, .inr (0, [.ref a3, .int 0, .ref a16, .ref a17, .ref a18, .ref a19, .ref a20, .ref a21])), (a3, .inr (7, [.int 0, .int 0, .int 0, .int 0, .int 0, .int 0, .ref a4, .ref a5, .ref a22, .ref a23, .ref a24, .ref a25, .ref a26, .ref a27, .ref a28, .ref a29, .ref a30, .ref a31])), (a4, .inl (E.2.2 0, 36, .inl (fun _ => 0))), (a5, .inl (E.2.2 2, 12, .inr (.inl (fun _ => 0)))), (a6, .inr (5, [.ref a32, .ref a33, .ref a7])), (a7, .inl (E.2.2 0, 4, .inl f0))] 0 0
    exact mp_iret hF hQ rfl rfl (Nat.le_of_ble_eq_true rfl) (Nat.le_of_ble_eq_true rfl) [] (w' := []) rfl rfl (Or.inl ⟨rfl, (by first | omega | decide), rfl⟩) (by decide +kernel)
  · refine mp_tabOut hF (dflt := 111) (lo := 0) (hi := 9) (offs := #[55, 60, 65, 70, 75, 80, 85, 90, 98, 103]) (len := 55) (by decide +kernel) (Or.inr c1) (tgt := 120) (by decide) ?_
    show mp_W E X 3 120 [(2, .ref a3), (0, .ref a0), (1, .int x0)] [] [(a0, .inr (9, [.ref a1, .ref a2, .ref a8, .ref a9, .ref a10, .ref a11, .ref a12, .ref a13, .ref a6])), (a1, .inr (3, [.ref a14, .int 0, .ref a15, .int 0, .int (-1), .int 0, .int 0, .int 0, .int 0, .int 0])), (a2, .inr (0, [.ref a3, .int 0, .ref a16, .ref a17, .ref a18, .ref a19, .ref a20, .ref a21])), (a3, .inr (7, [.int 0, .int 0, .int 0, .int 0, .int 0, .int 0, .ref a4, .ref a5, .ref a22, .ref a23, .ref a24, .ref a25, .ref a26, .ref a27, .ref a28, .ref a29, .ref a30, .ref a31])), (a4, .inl (E.2.2 0, 36, .inl (fun _ => 0))), (a5, .inl (E.2.2 2, 12, .inr (.inl (fun _ => 0)))), (a6, .inr (5, [.ref a32, .ref a33, .ref a7])), (a7, .inl (E.2.2 0, 4, .inl f0))] 0 0
    refine mp_run hF mp_tabX9_ok [mp_c (.iconst (-1)) (-1)] (by decide +kernel) ?_
    show mp_W E X 3 121 [(2, .ref a3), (0, .ref a0), (1, .int x0)] [.int (-1)] [(a0, .inr (9, [.ref a1, .ref a2, .ref a8, .ref a9, .ref a10, .ref a11, .ref a12, .ref a13, .ref a6])), (a1, .inr (3, [.ref a14, .int 0, .ref a15, .int 0, .int (-1), .int 0, .int 0, .int 0, .int 0, .int 0])), (a2, .inr (0, [.ref a3, .int 0, .ref a16, .ref a17, .ref a18, .ref a19, .ref a20, .ref a21])), (a3, .inr (7, [.int 0, .int 0, .int 0, .int 0, .int 0, .int 0, .ref a4, .ref a5, .ref a22, .ref a23, .ref a24, .ref a25, .ref a26, .ref a27, .ref a28, .ref a29, .ref a30, .ref a31])), (a4, .inl (E.2.2 0, 36, .inl (fun _ => 0))), (a5, .inl (E.2.2 2, 12, .inr (.inl (fun _ => 0)))), (a6, .inr (5, [.ref a32, .ref a33, .ref a7])), (a7, .inl (E.2.2 0, 4, .inl f0))] 0 0
    exact mp_iret hF hQ rfl rfl (Nat.le_of_ble_eq_true rfl) (Nat.le_of_ble_eq_true rfl) [] (w' := []) rfl rfl (Or.inr (Or.inl ⟨rfl, (by first | omega | decide), rfl⟩)) (by decide +kernel)
  · refine mp_tabIn hF (dflt := 111) (lo := 0) (hi := 9) (offs := #[55, 60, 65, 70, 75, 80, 85, 90, 98, 103]) (len := 55) (off := 55) (tgt := 64) (by decide +kernel) (by omega) (by omega) (by rw [c1]; rfl) (by decide) ?_
    show mp_W E X 3 64 [(2, .ref a3), (0, .ref a0), (1, .int x0)] [] [(a0, .inr (9, [.ref a1, .ref a2, .ref a8, .ref a9, .ref a10, .ref a11, .ref a12, .ref a13, .ref a6])), (a1, .inr (3, [.ref a14, .int 0, .ref a15, .int 0, .int (-1), .int 0, .int 0, .int 0, .int 0, .int 0])), (a2, .inr (0, [.ref a3, .int 0, .ref a16, .ref a17, .ref a18, .ref a19, .ref a20, .ref a21])), (a3, .inr (7, [.int 0, .int 0, .int 0, .int 0, .int 0, .int 0, .ref a4, .ref a5, .ref a22, .ref a23, .ref a24, .ref a25, .ref a26, .ref a27, .ref a28, .ref a29, .ref a30, .ref a31])), (a4, .inl (E.2.2 0, 36, .inl (fun _ => 0))), (a5, .inl (E.2.2 2, 12, .inr (.inl (fun _ => 0)))), (a6, .inr (5, [.ref a32, .ref a33, .ref a7])), (a7, .inl (E.2.2 0, 4, .inl f0))] 0 0
    refine mp_run hF mp_tabX9_ok [mp_i (.aload_n 2), mp_h (.getfield 220) [1, 3]] (by decide +kernel) ?_
    refine And.intro rfl (And.intro rfl ?_)
    show mp_W E X 3 68 [(2, .ref a3), (0, .ref a0), (1, .int x0)] [.int 0] [(a0, .inr (9, [.ref a1, .ref a2, .ref a8, .ref a9, .ref a10, .ref a11, .ref a12, .ref a13, .ref a6])), (a1, .inr (3, [.ref a14, .int 0, .ref a15, .int 0, .int (-1), .int 0, .int 0, .int 0, .int 0, .int 0])), (a2, .inr (0, [.ref a3, .int 0, .ref a16, .ref a17, .ref a18, .ref a19, .ref a20, .ref a21])), (a3, .inr (7, [.int 0, .int 0, .int 0, .int 0, .int 0, .int 0, .ref a4, .ref a5, .ref a22, .ref a23, .ref a24, .ref a25, .ref a26, .ref a27, .ref a28, .ref a29, .ref a30, .ref a31])), (a4, .inl (E.2.2 0, 36, .inl (fun _ => 0))), (a5, .inl (E.2.2 2, 12, .inr (.inl (fun _ => 0)))), (a6, .inr (5, [.ref a32, .ref a33, .ref a7])), (a7, .inl (E.2.2 0, 4, .inl f0))] 0 0
    exact mp_iret hF hQ rfl rfl (Nat.le_of_ble_eq_true rfl) (Nat.le_of_ble_eq_true rfl) [] (w' := []) rfl rfl (Or.inr (Or.inr (Or.inl ⟨rfl, (by first | omega | decide), rfl⟩))) (by decide +kernel)
  · refine mp_tabIn hF (dflt := 111) (lo := 0) (hi := 9) (offs := #[55, 60, 65, 70, 75, 80, 85, 90, 98, 103]) (len := 55) (off := 60) (tgt := 69) (by decide +kernel) (by omega) (by omega) (by rw [c1]; rfl) (by decide) ?_
    show mp_W E X 3 69 [(2, .ref a3), (0, .ref a0), (1, .int x0)] [] [(a0, .inr (9, [.ref a1, .ref a2, .ref a8, .ref a9, .ref a10, .ref a11, .ref a12, .ref a13, .ref a6])), (a1, .inr (3, [.ref a14, .int 0, .ref a15, .int 0, .int (-1), .int 0, .int 0, .int 0, .int 0, .int 0])), (a2, .inr (0, [.ref a3, .int 0, .ref a16, .ref a17, .ref a18, .ref a19, .ref a20, .ref a21])), (a3, .inr (7, [.int 0, .int 0, .int 0, .int 0, .int 0, .int 0, .ref a4, .ref a5, .ref a22, .ref a23, .ref a24, .ref a25, .ref a26, .ref a27, .ref a28, .ref a29, .ref a30, .ref a31])), (a4, .inl (E.2.2 0, 36, .inl (fun _ => 0))), (a5, .inl (E.2.2 2, 12, .inr (.inl (fun _ => 0)))), (a6, .inr (5, [.ref a32, .ref a33, .ref a7])), (a7, .inl (E.2.2 0, 4, .inl f0))] 0 0
    refine mp_run hF mp_tabX9_ok [mp_i (.aload_n 2), mp_h (.getfield 337) [3, 3]] (by decide +kernel) ?_
    refine And.intro rfl (And.intro rfl ?_)
    show mp_W E X 3 73 [(2, .ref a3), (0, .ref a0), (1, .int x0)] [.int 0] [(a0, .inr (9, [.ref a1, .ref a2, .ref a8, .ref a9, .ref a10, .ref a11, .ref a12, .ref a13, .ref a6])), (a1, .inr (3, [.ref a14, .int 0, .ref a15, .int 0, .int (-1), .int 0, .int 0, .int 0, .int 0, .int 0])), (a2, .inr (0, [.ref a3, .int 0, .ref a16, .ref a17, .ref a18, .ref a19, .ref a20, .ref a21])), (a3, .inr (7, [.int 0, .int 0, .int 0, .int 0, .int 0, .int 0, .ref a4, .ref a5, .ref a22, .ref a23, .ref a24, .ref a25, .ref a26, .ref a27, .ref a28, .ref a29, .ref a30, .ref a31])), (a4, .inl (E.2.2 0, 36, .inl (fun _ => 0))), (a5, .inl (E.2.2 2, 12, .inr (.inl (fun _ => 0)))), (a6, .inr (5, [.ref a32, .ref a33, .ref a7])), (a7, .inl (E.2.2 0, 4, .inl f0))] 0 0
    exact mp_iret hF hQ rfl rfl (Nat.le_of_ble_eq_true rfl) (Nat.le_of_ble_eq_true rfl) [] (w' := []) rfl rfl (Or.inr (Or.inr (Or.inr (Or.inl ⟨rfl, (by first | omega | decide), rfl⟩)))) (by decide +kernel)
  · refine mp_tabIn hF (dflt := 111) (lo := 0) (hi := 9) (offs := #[55, 60, 65, 70, 75, 80, 85, 90, 98, 103]) (len := 55) (off := 65) (tgt := 74) (by decide +kernel) (by omega) (by omega) (by rw [c1]; rfl) (by decide) ?_
    show mp_W E X 3 74 [(2, .ref a3), (0, .ref a0), (1, .int x0)] [] [(a0, .inr (9, [.ref a1, .ref a2, .ref a8, .ref a9, .ref a10, .ref a11, .ref a12, .ref a13, .ref a6])), (a1, .inr (3, [.ref a14, .int 0, .ref a15, .int 0, .int (-1), .int 0, .int 0, .int 0, .int 0, .int 0])), (a2, .inr (0, [.ref a3, .int 0, .ref a16, .ref a17, .ref a18, .ref a19, .ref a20, .ref a21])), (a3, .inr (7, [.int 0, .int 0, .int 0, .int 0, .int 0, .int 0, .ref a4, .ref a5, .ref a22, .ref a23, .ref a24, .ref a25, .ref a26, .ref a27, .ref a28, .ref a29, .ref a30, .ref a31])), (a4, .inl (E.2.2 0, 36, .inl (fun _ => 0))), (a5, .inl (E.2.2 2, 12, .inr (.inl (fun _ => 0)))), (a6, .inr (5, [.ref a32, .ref a33, .ref a7])), (a7, .inl (E.2.2 0, 4, .inl f0))] 0 0
    refine mp_run hF mp_tabX9_ok [mp_i (.aload_n 2), mp_h (.getfield 196) [4, 3]] (by decide +kernel) ?_
    refine And.intro rfl (And.intro rfl ?_)
    show mp_W E X 3 78 [(2, .ref a3), (0, .ref a0), (1, .int x0)] [.int 0] [(a0, .inr (9, [.ref a1, .ref a2, .ref a8, .ref a9, .ref a10, .ref a11, .ref a12, .ref a13, .ref a6])), (a1, .inr (3, [.ref a14, .int 0, .ref a15, .int 0, .int (-1), .int 0, .int 0, .int 0, .int 0, .int 0])), (a2, .inr (0, [.ref a3, .int 0, .ref a16, .ref a17, .ref a18, .ref a19, .ref a20, .ref a21])), (a3, .inr (7, [.int 0, .int 0, .int 0, .int 0, .int 0, .int 0, .ref a4, .ref a5, .ref a22, .ref a23, .ref a24, .ref a25, .ref a26, .ref a27, .ref a28, .ref a29, .ref a30, .ref a31])), (a4, .inl (E.2.2 0, 36, .inl (fun _ => 0))), (a5, .inl (E.2.2 2, 12, .inr (.inl (fun _ => 0)))), (a6, .inr (5, [.ref a32, .ref a33, .ref a7])), (a7, .inl (E.2.2 0, 4, .inl f0))] 0 0
    exact mp_iret hF hQ rfl rfl (Nat.le_of_ble_eq_true rfl) (Nat.le_of_ble_eq_true rfl) [] (w' := []) rfl rfl (Or.inr (Or.inr (Or.inr (Or.inr (Or.inl ⟨rfl, (by first | omega | decide), rfl⟩))))) (by decide +kernel)
  · refine mp_tabIn hF (dflt := 111) (lo := 0) (hi := 9) (offs := #[55, 60, 65, 70, 75, 80, 85, 90, 98, 103]) (len := 55) (off := 70) (tgt := 79) (by decide +kernel) (by omega) (by omega) (by rw [c1]; rfl) (by decide) ?_
    show mp_W E X 3 79 [(2, .ref a3), (0, .ref a0), (1, .int x0)] [] [(a0, .inr (9, [.ref a1, .ref a2, .ref a8, .ref a9, .ref a10, .ref a11, .ref a12, .ref a13, .ref a6])), (a1, .inr (3, [.ref a14, .int 0, .ref a15, .int 0, .int (-1), .int 0, .int 0, .int 0, .int 0, .int 0])), (a2, .inr (0, [.ref a3, .int 0, .ref a16, .ref a17, .ref a18, .ref a19, .ref a20, .ref a21])), (a3, .inr (7, [.int 0, .int 0, .int 0, .int 0, .int 0, .int 0, .ref a4, .ref a5, .ref a22, .ref a23, .ref a24, .ref a25, .ref a26, .ref a27, .ref a28, .ref a29, .ref a30, .ref a31])), (a4, .inl (E.2.2 0, 36, .inl (fun _ => 0))), (a5, .inl (E.2.2 2, 12, .inr (.inl (fun _ => 0)))), (a6, .inr (5, [.ref a32, .ref a33, .ref a7])), (a7, .inl (E.2.2 0, 4, .inl f0))] 0 0
    refine mp_run hF mp_tabX9_ok [mp_i (.aload_n 2)] (by decide +kernel) ?_
    show mp_W E X 3 80 [(2, .ref a3), (0, .ref a0), (1, .int x0)] [.ref a3] [(a0, .inr (9, [.ref a1, .ref a2, .ref a8, .ref a9, .ref a10, .ref a11, .ref a12, .ref a13, .ref a6])), (a1, .inr (3, [.ref a14, .int 0, .ref a15, .int 0, .int (-1), .int 0, .int 0, .int 0, .int 0, .int 0])), (a2, .inr (0, [.ref a3, .int 0, .ref a16, .ref a17, .ref a18, .ref a19, .ref a20, .ref a21])), (a3, .inr (7, [.int 0, .int 0, .int 0, .int 0, .int 0, .int 0, .ref a4, .ref a5, .ref a22, .ref a23, .ref a24, .ref a25, .ref a26, .ref a27, .ref a28, .ref a29, .ref a30, .ref a31])), (a4, .inl (E.2.2 0, 36, .inl (fun _ => 0))), (a5, .inl (E.2.2 2, 12, .inr (.inl (fun _ => 0)))), (a6, .inr (5, [.ref a32, .ref a33, .ref a7])), (a7, .inl (E.2.2 0, 4, .inl f0))] 0 0
    refine mp_callV hF (As := []) (rest := []) (wr := [(a0, .inr (9, [.ref a1, .ref a2, .ref a8, .ref a9, .ref a10, .ref a11, .ref a12, .ref a13, .ref a6])), (a1, .inr (3, [.ref a14, .int 0, .ref a15, .int 0, .int (-1), .int 0, .int 0, .int 0, .int 0, .int 0])), (a2, .inr (0, [.ref a3, .int 0, .ref a16, .ref a17, .ref a18, .ref a19, .ref a20, .ref a21])), (a5, .inl (E.2.2 2, 12, .inr (.inl (fun _ => 0)))), (a6, .inr (5, [.ref a32, .ref a33, .ref a7])), (a7, .inl (E.2.2 0, 4, .inl f0))]) (aX7_countSeas_168 E a3 a4 a5 a22 a23 a24 a25 a26 a27 a28 a29 a30 a31) mp_lkX9_340 3 rfl [3, 4] [0, 1, 2, 5, 6, 7] rfl rfl rfl rfl rfl ⟨(Nat.le_of_ble_eq_true rfl), (Nat.le_of_ble_eq_true rfl), (Nat.le_of_ble_eq_true rfl), (Nat.le_of_ble_eq_true rfl)⟩ (Nat.le_of_ble_eq_true rfl) (by decide +kernel) (fun v2 w3 h4 => ?_)
    obtain ⟨rfl, rfl⟩ := h4
    show mp_W E X 3 83 [(2, .ref a3), (0, .ref a0), (1, .int x0)] [.int 0] [(a0, .inr (9, [.ref a1, .ref a2, .ref a8, .ref a9, .ref a10, .ref a11, .ref a12, .ref a13, .ref a6])), (a1, .inr (3, [.ref a14, .int 0, .ref a15, .int 0, .int (-1), .int 0, .int 0, .int 0, .int 0, .int 0])), (a2, .inr (0, [.ref a3, .int 0, .ref a16, .ref a17, .ref a18, .ref a19, .ref a20, .ref a21])), (a5, .inl (E.2.2 2, 12, .inr (.inl (fun _ => 0)))), (a6, .inr (5, [.ref a32, .ref a33, .ref a7])), (a7, .inl (E.2.2 0, 4, .inl f0)), (a3, .inr (7, [.int 0, .int 0, .int 0, .int 0, .int 0, .int 0, .ref a4, .ref a5, .ref a22, .ref a23, .ref a24, .ref a25, .ref a26, .ref a27, .ref a28, .ref a29, .ref a30, .ref a31])), (a4, .inl (E.2.2 0, 36, .inl (fun _ => 0)))] 0 0
    exact mp_iret hF hQ rfl rfl (Nat.le_of_ble_eq_true rfl) (Nat.le_of_ble_eq_true rfl) [] (w' := []) rfl rfl (Or.inr (Or.inr (Or.inr (Or.inr (Or.inr (Or.inl ⟨rfl, (by first | omega | decide), rfl⟩)))))) (by decide +kernel)
  · refine mp_tabIn hF (dflt := 111) (lo := 0) (hi := 9) (offs := #[55, 60, 65, 70, 75, 80, 85, 90, 98, 103]) (len := 55) (off := 75) (tgt := 84) (by decide +kernel) (by omega) (by omega) (by rw [c1]; rfl) (by decide) ?_
    show mp_W E X 3 84 [(2, .ref a3), (0, .ref a0), (1, .int x0)] [] [(a0, .inr (9, [.ref a1, .ref a2, .ref a8, .ref a9, .ref a10, .ref a11, .ref a12, .ref a13, .ref a6])), (a1, .inr (3, [.ref a14, .int 0, .ref a15, .int 0, .int (-1), .int 0, .int 0, .int 0, .int 0, .int 0])), (a2, .inr (0, [.ref a3, .int 0, .ref a16, .ref a17, .ref a18, .ref a19, .ref a20, .ref a21])), (a3, .inr (7, [.int 0, .int 0, .int 0, .int 0, .int 0, .int 0, .ref a4, .ref a5, .ref a22, .ref a23, .ref a24, .ref a25, .ref a26, .ref a27, .ref a28, .ref a29, .ref a30, .ref a31])), (a4, .inl (E.2.2 0, 36, .inl (fun _ => 0))), (a5, .inl (E.2.2 2, 12, .inr (.inl (fun _ => 0)))), (a6, .inr (5, [.ref a32, .ref a33, .ref a7])), (a7, .inl (E.2.2 0, 4, .inl f0))] 0 0
    refine mp_run hF mp_tabX9_ok [mp_i (.aload_n 2)] (by decide +kernel) ?_
    show mp_W E X 3 85 [(2, .ref a3), (0, .ref a0), (1, .int x0)] [.ref a3] [(a0, .inr (9, [.ref a1, .ref a2, .ref a8, .ref a9, .ref a10, .ref a11, .ref a12, .ref a13, .ref a6])), (a1, .inr (3, [.ref a14, .int 0, .ref a15, .int 0, .int (-1), .int 0, .int 0, .int 0, .int 0, .int 0])), (a2, .inr (0, [.ref a3, .int 0, .ref a16, .ref a17, .ref a18, .ref a19, .ref a20, .ref a21])), (a3, .inr (7, [.int 0, .int 0, .int 0, .int 0, .int 0, .int 0, .ref a4, .ref a5, .ref a22, .ref a23, .ref a24, .ref a25, .ref a26, .ref a27, .ref a28, .ref a29, .ref a30, .ref a31])), (a4, .inl (E.2.2 0, 36, .inl (fun _ => 0))), (a5, .inl (E.2.2 2, 12, .inr (.inl (fun _ => 0)))), (a6, .inr (5, [.ref a32, .ref a33, .ref a7])), (a7, .inl (E.2.2 0, 4, .inl f0))] 0 0
    refine mp_callV hF (As := []) (rest := []) (wr := [(a0, .inr (9, [.ref a1, .ref a2, .ref a8, .ref a9, .ref a10, .ref a11, .ref a12, .ref a13, .ref a6])), (a1, .inr (3, [.ref a14, .int 0, .ref a15, .int 0, .int (-1), .int 0, .int 0, .int 0, .int 0, .int 0])), (a2, .inr (0, [.ref a3, .int 0, .ref a16, .ref a17, .ref a18, .ref a19, .ref a20, .ref a21])), (a4, .inl (E.2.2 0, 36, .inl (fun _ => 0))), (a6, .inr (5, [.ref a32, .ref a33, .ref a7])), (a7, .inl (E.2.2 0, 4, .inl f0))]) (aX7_countShut_170 E a3 a5 a4 a22 a23 a24 a25 a26 a27 a28 a29 a30 a31) mp_lkX9_343 3 rfl [3, 5] [0, 1, 2, 4, 6, 7] rfl rfl rfl rfl rfl ⟨(Nat.le_of_ble_eq_true rfl), (Nat.le_of_ble_eq_true rfl), (Nat.le_of_ble_eq_true rfl), (Nat.le_of_ble_eq_true rfl)⟩ (Nat.le_of_ble_eq_true rfl) (by decide +kernel) (fun v5 w6 h7 => ?_)
    obtain ⟨rfl, rfl⟩ := h7
    show mp_W E X 3 88 [(2, .ref a3), (0, .ref a0), (1, .int x0)] [.int 0] [(a0, .inr (9, [.ref a1, .ref a2, .ref a8, .ref a9, .ref a10, .ref a11, .ref a12, .ref a13, .ref a6])), (a1, .inr (3, [.ref a14, .int 0, .ref a15, .int 0, .int (-1), .int 0, .int 0, .int 0, .int 0, .int 0])), (a2, .inr (0, [.ref a3, .int 0, .ref a16, .ref a17, .ref a18, .ref a19, .ref a20, .ref a21])), (a4, .inl (E.2.2 0, 36, .inl (fun _ => 0))), (a6, .inr (5, [.ref a32, .ref a33, .ref a7])), (a7, .inl (E.2.2 0, 4, .inl f0)), (a3, .inr (7, [.int 0, .int 0, .int 0, .int 0, .int 0, .int 0, .ref a4, .ref a5, .ref a22, .ref a23, .ref a24, .ref a25, .ref a26, .ref a27, .ref a28, .ref a29, .ref a30, .ref a31])), (a5, .inl (E.2.2 2, 12, .inr (.inl (fun _ => 0))))] 0 0
    exact mp_iret hF hQ rfl rfl (Nat.le_of_ble_eq_true rfl) (Nat.le_of_ble_eq_true rfl) [] (w' := []) rfl rfl (Or.inr (Or.inr (Or.inr (Or.inr (Or.inr (Or.inr (Or.inl ⟨rfl, (by first | omega | decide), rfl⟩))))))) (by decide +kernel)
  · refine mp_tabIn hF (dflt := 111) (lo := 0) (hi := 9) (offs := #[55, 60, 65, 70, 75, 80, 85, 90, 98, 103]) (len := 55) (off := 80) (tgt := 89) (by decide +kernel) (by omega) (by omega) (by rw [c1]; rfl) (by decide) ?_
    show mp_W E X 3 89 [(2, .ref a3), (0, .ref a0), (1, .int x0)] [] [(a0, .inr (9, [.ref a1, .ref a2, .ref a8, .ref a9, .ref a10, .ref a11, .ref a12, .ref a13, .ref a6])), (a1, .inr (3, [.ref a14, .int 0, .ref a15, .int 0, .int (-1), .int 0, .int 0, .int 0, .int 0, .int 0])), (a2, .inr (0, [.ref a3, .int 0, .ref a16, .ref a17, .ref a18, .ref a19, .ref a20, .ref a21])), (a3, .inr (7, [.int 0, .int 0, .int 0, .int 0, .int 0, .int 0, .ref a4, .ref a5, .ref a22, .ref a23, .ref a24, .ref a25, .ref a26, .ref a27, .ref a28, .ref a29, .ref a30, .ref a31])), (a4, .inl (E.2.2 0, 36, .inl (fun _ => 0))), (a5, .inl (E.2.2 2, 12, .inr (.inl (fun _ => 0)))), (a6, .inr (5, [.ref a32, .ref a33, .ref a7])), (a7, .inl (E.2.2 0, 4, .inl f0))] 0 0
    refine mp_run hF mp_tabX9_ok [mp_i (.aload_n 2), mp_h (.getfield 214) [5, 3]] (by decide +kernel) ?_
    refine And.intro rfl (And.intro rfl ?_)
    show mp_W E X 3 93 [(2, .ref a3), (0, .ref a0), (1, .int x0)] [.int 0] [(a0, .inr (9, [.ref a1, .ref a2, .ref a8, .ref a9, .ref a10, .ref a11, .ref a12, .ref a13, .ref a6])), (a1, .inr (3, [.ref a14, .int 0, .ref a15, .int 0, .int (-1), .int 0, .int 0, .int 0, .int 0, .int 0])), (a2, .inr (0, [.ref a3, .int 0, .ref a16, .ref a17, .ref a18, .ref a19, .ref a20, .ref a21])), (a3, .inr (7, [.int 0, .int 0, .int 0, .int 0, .int 0, .int 0, .ref a4, .ref a5, .ref a22, .ref a23, .ref a24, .ref a25, .ref a26, .ref a27, .ref a28, .ref a29, .ref a30, .ref a31])), (a4, .inl (E.2.2 0, 36, .inl (fun _ => 0))), (a5, .inl (E.2.2 2, 12, .inr (.inl (fun _ => 0)))), (a6, .inr (5, [.ref a32, .ref a33, .ref a7])), (a7, .inl (E.2.2 0, 4, .inl f0))] 0 0
    exact mp_iret hF hQ rfl rfl (Nat.le_of_ble_eq_true rfl) (Nat.le_of_ble_eq_true rfl) [] (w' := []) rfl rfl (Or.inr (Or.inr (Or.inr (Or.inr (Or.inr (Or.inr (Or.inr (Or.inl ⟨rfl, (by first | omega | decide), rfl⟩)))))))) (by decide +kernel)
  · refine mp_tabIn hF (dflt := 111) (lo := 0) (hi := 9) (offs := #[55, 60, 65, 70, 75, 80, 85, 90, 98, 103]) (len := 55) (off := 85) (tgt := 94) (by decide +kernel) (by omega) (by omega) (by rw [c1]; rfl) (by decide) ?_
    show mp_W E X 3 94 [(2, .ref a3), (0, .ref a0), (1, .int x0)] [] [(a0, .inr (9, [.ref a1, .ref a2, .ref a8, .ref a9, .ref a10, .ref a11, .ref a12, .ref a13, .ref a6])), (a1, .inr (3, [.ref a14, .int 0, .ref a15, .int 0, .int (-1), .int 0, .int 0, .int 0, .int 0, .int 0])), (a2, .inr (0, [.ref a3, .int 0, .ref a16, .ref a17, .ref a18, .ref a19, .ref a20, .ref a21])), (a3, .inr (7, [.int 0, .int 0, .int 0, .int 0, .int 0, .int 0, .ref a4, .ref a5, .ref a22, .ref a23, .ref a24, .ref a25, .ref a26, .ref a27, .ref a28, .ref a29, .ref a30, .ref a31])), (a4, .inl (E.2.2 0, 36, .inl (fun _ => 0))), (a5, .inl (E.2.2 2, 12, .inr (.inl (fun _ => 0)))), (a6, .inr (5, [.ref a32, .ref a33, .ref a7])), (a7, .inl (E.2.2 0, 4, .inl f0))] 0 0
    refine mp_run hF mp_tabX9_ok [mp_i (.aload_n 2), mp_h (.getfield 97) [0, 3]] (by decide +kernel) ?_
    refine And.intro rfl (And.intro rfl ?_)
    show mp_W E X 3 98 [(2, .ref a3), (0, .ref a0), (1, .int x0)] [.int 0] [(a0, .inr (9, [.ref a1, .ref a2, .ref a8, .ref a9, .ref a10, .ref a11, .ref a12, .ref a13, .ref a6])), (a1, .inr (3, [.ref a14, .int 0, .ref a15, .int 0, .int (-1), .int 0, .int 0, .int 0, .int 0, .int 0])), (a2, .inr (0, [.ref a3, .int 0, .ref a16, .ref a17, .ref a18, .ref a19, .ref a20, .ref a21])), (a3, .inr (7, [.int 0, .int 0, .int 0, .int 0, .int 0, .int 0, .ref a4, .ref a5, .ref a22, .ref a23, .ref a24, .ref a25, .ref a26, .ref a27, .ref a28, .ref a29, .ref a30, .ref a31])), (a4, .inl (E.2.2 0, 36, .inl (fun _ => 0))), (a5, .inl (E.2.2 2, 12, .inr (.inl (fun _ => 0)))), (a6, .inr (5, [.ref a32, .ref a33, .ref a7])), (a7, .inl (E.2.2 0, 4, .inl f0))] 0 0
    exact mp_iret hF hQ rfl rfl (Nat.le_of_ble_eq_true rfl) (Nat.le_of_ble_eq_true rfl) [] (w' := []) rfl rfl (Or.inr (Or.inr (Or.inr (Or.inr (Or.inr (Or.inr (Or.inr (Or.inr (Or.inl ⟨rfl, (by first | omega | decide), rfl⟩))))))))) (by decide +kernel)
  · refine mp_tabIn hF (dflt := 111) (lo := 0) (hi := 9) (offs := #[55, 60, 65, 70, 75, 80, 85, 90, 98, 103]) (len := 55) (off := 90) (tgt := 99) (by decide +kernel) (by omega) (by omega) (by rw [c1]; rfl) (by decide) ?_
    show mp_W E X 3 99 [(2, .ref a3), (0, .ref a0), (1, .int x0)] [] [(a0, .inr (9, [.ref a1, .ref a2, .ref a8, .ref a9, .ref a10, .ref a11, .ref a12, .ref a13, .ref a6])), (a1, .inr (3, [.ref a14, .int 0, .ref a15, .int 0, .int (-1), .int 0, .int 0, .int 0, .int 0, .int 0])), (a2, .inr (0, [.ref a3, .int 0, .ref a16, .ref a17, .ref a18, .ref a19, .ref a20, .ref a21])), (a3, .inr (7, [.int 0, .int 0, .int 0, .int 0, .int 0, .int 0, .ref a4, .ref a5, .ref a22, .ref a23, .ref a24, .ref a25, .ref a26, .ref a27, .ref a28, .ref a29, .ref a30, .ref a31])), (a4, .inl (E.2.2 0, 36, .inl (fun _ => 0))), (a5, .inl (E.2.2 2, 12, .inr (.inl (fun _ => 0)))), (a6, .inr (5, [.ref a32, .ref a33, .ref a7])), (a7, .inl (E.2.2 0, 4, .inl f0))] 0 0
    refine mp_run hF mp_tabX9_ok [mp_i (.aload_n 0), mp_h (.getfield 10) [36, 0], mp_h (.getfield 71) [16, 1]] (by decide +kernel) ?_
    refine And.intro rfl (And.intro rfl ?_)
    refine And.intro rfl (And.intro rfl ?_)
    show mp_W E X 3 106 [(2, .ref a3), (0, .ref a0), (1, .int x0)] [.int 0] [(a0, .inr (9, [.ref a1, .ref a2, .ref a8, .ref a9, .ref a10, .ref a11, .ref a12, .ref a13, .ref a6])), (a1, .inr (3, [.ref a14, .int 0, .ref a15, .int 0, .int (-1), .int 0, .int 0, .int 0, .int 0, .int 0])), (a2, .inr (0, [.ref a3, .int 0, .ref a16, .ref a17, .ref a18, .ref a19, .ref a20, .ref a21])), (a3, .inr (7, [.int 0, .int 0, .int 0, .int 0, .int 0, .int 0, .ref a4, .ref a5, .ref a22, .ref a23, .ref a24, .ref a25, .ref a26, .ref a27, .ref a28, .ref a29, .ref a30, .ref a31])), (a4, .inl (E.2.2 0, 36, .inl (fun _ => 0))), (a5, .inl (E.2.2 2, 12, .inr (.inl (fun _ => 0)))), (a6, .inr (5, [.ref a32, .ref a33, .ref a7])), (a7, .inl (E.2.2 0, 4, .inl f0))] 0 0
    exact mp_iret hF hQ rfl rfl (Nat.le_of_ble_eq_true rfl) (Nat.le_of_ble_eq_true rfl) [] (w' := []) rfl rfl (Or.inr (Or.inr (Or.inr (Or.inr (Or.inr (Or.inr (Or.inr (Or.inr (Or.inr (Or.inl ⟨rfl, (by first | omega | decide), rfl⟩)))))))))) (by decide +kernel)
  · refine mp_tabIn hF (dflt := 111) (lo := 0) (hi := 9) (offs := #[55, 60, 65, 70, 75, 80, 85, 90, 98, 103]) (len := 55) (off := 98) (tgt := 107) (by decide +kernel) (by omega) (by omega) (by rw [c1]; rfl) (by decide) ?_
    show mp_W E X 3 107 [(2, .ref a3), (0, .ref a0), (1, .int x0)] [] [(a0, .inr (9, [.ref a1, .ref a2, .ref a8, .ref a9, .ref a10, .ref a11, .ref a12, .ref a13, .ref a6])), (a1, .inr (3, [.ref a14, .int 0, .ref a15, .int 0, .int (-1), .int 0, .int 0, .int 0, .int 0, .int 0])), (a2, .inr (0, [.ref a3, .int 0, .ref a16, .ref a17, .ref a18, .ref a19, .ref a20, .ref a21])), (a3, .inr (7, [.int 0, .int 0, .int 0, .int 0, .int 0, .int 0, .ref a4, .ref a5, .ref a22, .ref a23, .ref a24, .ref a25, .ref a26, .ref a27, .ref a28, .ref a29, .ref a30, .ref a31])), (a4, .inl (E.2.2 0, 36, .inl (fun _ => 0))), (a5, .inl (E.2.2 2, 12, .inr (.inl (fun _ => 0)))), (a6, .inr (5, [.ref a32, .ref a33, .ref a7])), (a7, .inl (E.2.2 0, 4, .inl f0))] 0 0
    refine mp_run hF mp_tabX9_ok [mp_i (.aload_n 2), mp_h (.getfield 346) [2, 3]] (by decide +kernel) ?_
    refine And.intro rfl (And.intro rfl ?_)
    show mp_W E X 3 111 [(2, .ref a3), (0, .ref a0), (1, .int x0)] [.int 0] [(a0, .inr (9, [.ref a1, .ref a2, .ref a8, .ref a9, .ref a10, .ref a11, .ref a12, .ref a13, .ref a6])), (a1, .inr (3, [.ref a14, .int 0, .ref a15, .int 0, .int (-1), .int 0, .int 0, .int 0, .int 0, .int 0])), (a2, .inr (0, [.ref a3, .int 0, .ref a16, .ref a17, .ref a18, .ref a19, .ref a20, .ref a21])), (a3, .inr (7, [.int 0, .int 0, .int 0, .int 0, .int 0, .int 0, .ref a4, .ref a5, .ref a22, .ref a23, .ref a24, .ref a25, .ref a26, .ref a27, .ref a28, .ref a29, .ref a30, .ref a31])), (a4, .inl (E.2.2 0, 36, .inl (fun _ => 0))), (a5, .inl (E.2.2 2, 12, .inr (.inl (fun _ => 0)))), (a6, .inr (5, [.ref a32, .ref a33, .ref a7])), (a7, .inl (E.2.2 0, 4, .inl f0))] 0 0
    exact mp_iret hF hQ rfl rfl (Nat.le_of_ble_eq_true rfl) (Nat.le_of_ble_eq_true rfl) [] (w' := []) rfl rfl (Or.inr (Or.inr (Or.inr (Or.inr (Or.inr (Or.inr (Or.inr (Or.inr (Or.inr (Or.inr (Or.inl ⟨rfl, (by first | omega | decide), rfl⟩))))))))))) (by decide +kernel)
  · refine mp_tabIn hF (dflt := 111) (lo := 0) (hi := 9) (offs := #[55, 60, 65, 70, 75, 80, 85, 90, 98, 103]) (len := 55) (off := 103) (tgt := 112) (by decide +kernel) (by omega) (by omega) (by rw [c1]; rfl) (by decide) ?_
    show mp_W E X 3 112 [(2, .ref a3), (0, .ref a0), (1, .int x0)] [] [(a0, .inr (9, [.ref a1, .ref a2, .ref a8, .ref a9, .ref a10, .ref a11, .ref a12, .ref a13, .ref a6])), (a1, .inr (3, [.ref a14, .int 0, .ref a15, .int 0, .int (-1), .int 0, .int 0, .int 0, .int 0, .int 0])), (a2, .inr (0, [.ref a3, .int 0, .ref a16, .ref a17, .ref a18, .ref a19, .ref a20, .ref a21])), (a3, .inr (7, [.int 0, .int 0, .int 0, .int 0, .int 0, .int 0, .ref a4, .ref a5, .ref a22, .ref a23, .ref a24, .ref a25, .ref a26, .ref a27, .ref a28, .ref a29, .ref a30, .ref a31])), (a4, .inl (E.2.2 0, 36, .inl (fun _ => 0))), (a5, .inl (E.2.2 2, 12, .inr (.inl (fun _ => 0)))), (a6, .inr (5, [.ref a32, .ref a33, .ref a7])), (a7, .inl (E.2.2 0, 4, .inl f0))] 0 0
    refine mp_run hF mp_tabX9_ok [mp_i (.aload_n 0), mp_h (.getfield 67) [44, 0]] (by decide +kernel) ?_
    refine And.intro rfl (And.intro rfl ?_)
    show mp_W E X 3 116 [(2, .ref a3), (0, .ref a0), (1, .int x0)] [.ref a6] [(a0, .inr (9, [.ref a1, .ref a2, .ref a8, .ref a9, .ref a10, .ref a11, .ref a12, .ref a13, .ref a6])), (a1, .inr (3, [.ref a14, .int 0, .ref a15, .int 0, .int (-1), .int 0, .int 0, .int 0, .int 0, .int 0])), (a2, .inr (0, [.ref a3, .int 0, .ref a16, .ref a17, .ref a18, .ref a19, .ref a20, .ref a21])), (a3, .inr (7, [.int 0, .int 0, .int 0, .int 0, .int 0, .int 0, .ref a4, .ref a5, .ref a22, .ref a23, .ref a24, .ref a25, .ref a26, .ref a27, .ref a28, .ref a29, .ref a30, .ref a31])), (a4, .inl (E.2.2 0, 36, .inl (fun _ => 0))), (a5, .inl (E.2.2 2, 12, .inr (.inl (fun _ => 0)))), (a6, .inr (5, [.ref a32, .ref a33, .ref a7])), (a7, .inl (E.2.2 0, 4, .inl f0))] 0 0
    refine mp_callV hF (As := []) (rest := []) (wr := [(a0, .inr (9, [.ref a1, .ref a2, .ref a8, .ref a9, .ref a10, .ref a11, .ref a12, .ref a13, .ref a6])), (a1, .inr (3, [.ref a14, .int 0, .ref a15, .int 0, .int (-1), .int 0, .int 0, .int 0, .int 0, .int 0])), (a2, .inr (0, [.ref a3, .int 0, .ref a16, .ref a17, .ref a18, .ref a19, .ref a20, .ref a21])), (a3, .inr (7, [.int 0, .int 0, .int 0, .int 0, .int 0, .int 0, .ref a4, .ref a5, .ref a22, .ref a23, .ref a24, .ref a25, .ref a26, .ref a27, .ref a28, .ref a29, .ref a30, .ref a31])), (a4, .inl (E.2.2 0, 36, .inl (fun _ => 0))), (a5, .inl (E.2.2 2, 12, .inr (.inl (fun _ => 0))))]) (aX5_countTaken_175 E a6 a7 a32 a33 f0 p0) mp_lkX9_347 6 rfl [6, 7] [0, 1, 2, 3, 4, 5] rfl rfl rfl rfl rfl ⟨(Nat.le_of_ble_eq_true rfl), (Nat.le_of_ble_eq_true rfl), (Nat.le_of_ble_eq_true rfl), (Nat.le_of_ble_eq_true rfl)⟩ (Nat.le_of_ble_eq_true rfl) (by decide +kernel) (fun v8 w9 h10 => ?_)
    obtain ⟨rfl, rfl⟩ := h10
    show mp_W E X 3 119 [(2, .ref a3), (0, .ref a0), (1, .int x0)] [.int 0] [(a0, .inr (9, [.ref a1, .ref a2, .ref a8, .ref a9, .ref a10, .ref a11, .ref a12, .ref a13, .ref a6])), (a1, .inr (3, [.ref a14, .int 0, .ref a15, .int 0, .int (-1), .int 0, .int 0, .int 0, .int 0, .int 0])), (a2, .inr (0, [.ref a3, .int 0, .ref a16, .ref a17, .ref a18, .ref a19, .ref a20, .ref a21])), (a3, .inr (7, [.int 0, .int 0, .int 0, .int 0, .int 0, .int 0, .ref a4, .ref a5, .ref a22, .ref a23, .ref a24, .ref a25, .ref a26, .ref a27, .ref a28, .ref a29, .ref a30, .ref a31])), (a4, .inl (E.2.2 0, 36, .inl (fun _ => 0))), (a5, .inl (E.2.2 2, 12, .inr (.inl (fun _ => 0)))), (a6, .inr (5, [.ref a32, .ref a33, .ref a7])), (a7, .inl (E.2.2 0, 4, .inl f0))] 0 0
    exact mp_iret hF hQ rfl rfl (Nat.le_of_ble_eq_true rfl) (Nat.le_of_ble_eq_true rfl) [] (w' := []) rfl rfl (Or.inr (Or.inr (Or.inr (Or.inr (Or.inr (Or.inr (Or.inr (Or.inr (Or.inr (Or.inr (Or.inr ⟨rfl, (by first | omega | decide), rfl⟩))))))))))) (by decide +kernel)
set_option maxHeartbeats 4000000 in
set_option maxRecDepth 100000 in
theorem aX10_count_177 (E : mp_E) (a0 a1 a2 a3 a4 a5 a6 a7 a8 a9 a10 a11 a12 a13 a14 a15 a16 a17 a18 a19 a20 a21 a22 a23 a24 a25 : Nat) (f0 : Nat → Int32) (x0 : Int32) (p0 : ∀ j, j < 4 → f0 j = (-1)) : mp_Ct E yX10_count cX10_count 4 (some FieldType.int) 0 0 0 0 [.ref a0, .int x0] [(a0, .inr (10, [.int 0, .ref a1, .ref a6, .ref a7, .ref a8, .ref a9, .int 0, .int 0, .int 0, .int 0, .int 0, .long 0, .int 0, .int 0, .int 0, .int (-1), .ref a2, .ref a3, .ref a4, .ref a5, .ref a10, .ref a11, .ref a12, .ref a13, .int 0, .ref a14, .ref a15, .ref a16, .ref a17, .int 0, .int 0, .int 0, .ref a18, .ref a19, .int 0, .int 0, .ref a20, .ref a21, .ref a22, .int 0, .int 0, .int 0, .int 0, .ref a23, .ref a24, .ref a25, .int 0])), (a1, .inl (E.2.2 0, 4, .inl f0)), (a2, .inl (E.2.2 0, 5, .inl (fun _ => 0))), (a3, .inl (E.2.2 0, 25, .inl (fun _ => 0))), (a4, .inl (E.2.2 0, 180, .inl (fun _ => 0))), (a5, .inl (E.2.2 3, 3000, .inl (fun _ => 0)))] (fun v w' => (v = some (.int (-1)) ∧ x0.toInt < 0 ∧ w' = []) ∨ (v = some (.int (-1)) ∧ 9 < x0.toInt ∧ w' = []) ∨ (v = some (.int 0) ∧ x0.toInt = 0 ∧ w' = []) ∨ (v = some (.int 0) ∧ x0.toInt = 1 ∧ w' = []) ∨ (v = some (.int 0) ∧ x0.toInt = 2 ∧ w' = []) ∨ (v = some (.int 0) ∧ x0.toInt = 3 ∧ w' = []) ∨ (v = some (.int 0) ∧ x0.toInt = 4 ∧ w' = []) ∨ (v = some (.int 0) ∧ x0.toInt = 5 ∧ w' = []) ∨ (v = some (.int 0) ∧ x0.toInt = 6 ∧ w' = []) ∨ (v = some (.int 0) ∧ x0.toInt = 7 ∧ w' = []) ∨ (v = some (.int 0) ∧ x0.toInt = 8 ∧ w' = []) ∨ (v = some (.int 0) ∧ x0.toInt = 9 ∧ w' = [])) := by
  refine mp_met false (by decide) (by decide) (Nat.le_of_ble_eq_true rfl) (fun X hF hQ => ?_)
  have hF : mp_F E X (RX10, cX10_count, 4, (0, 0, 0, 0), (some FieldType.int), false) := hF
  show mp_W E X 4 0 [(0, .ref a0), (1, .int x0)] [] [(a0, .inr (10, [.int 0, .ref a1, .ref a6, .ref a7, .ref a8, .ref a9, .int 0, .int 0, .int 0, .int 0, .int 0, .long 0, .int 0, .int 0, .int 0, .int (-1), .ref a2, .ref a3, .ref a4, .ref a5, .ref a10, .ref a11, .ref a12, .ref a13, .int 0, .ref a14, .ref a15, .ref a16, .ref a17, .int 0, .int 0, .int 0, .ref a18, .ref a19, .int 0, .int 0, .ref a20, .ref a21, .ref a22, .int 0, .int 0, .int 0, .int 0, .ref a23, .ref a24, .ref a25, .int 0])), (a1, .inl (E.2.2 0, 4, .inl f0)), (a2, .inl (E.2.2 0, 5, .inl (fun _ => 0))), (a3, .inl (E.2.2 0, 25, .inl (fun _ => 0))), (a4, .inl (E.2.2 0, 180, .inl (fun _ => 0))), (a5, .inl (E.2.2 3, 3000, .inl (fun _ => 0)))] 0 0
  refine mp_run hF mp_tabX10_ok [mp_i (.aload_n 0), mp_c (.iconst 0) 0, mp_h (.putfield 92) [0, 0]] (by decide +kernel) ?_
  refine And.intro rfl (And.intro rfl (And.intro rfl (And.intro rfl (And.intro (Nat.le_of_ble_eq_true rfl) ?_))))
  show mp_W E X 4 5 [(0, .ref a0), (1, .int x0)] [] [(a0, .inr (10, [.int 0, .ref a1, .ref a6, .ref a7, .ref a8, .ref a9, .int 0, .int 0, .int 0, .int 0, .int 0, .long 0, .int 0, .int 0, .int 0, .int (-1), .ref a2, .ref a3, .ref a4, .ref a5, .ref a10, .ref a11, .ref a12, .ref a13, .int 0, .ref a14, .ref a15, .ref a16, .ref a17, .int 0, .int 0, .int 0, .ref a18, .ref a19, .int 0, .int 0, .ref a20, .ref a21, .ref a22, .int 0, .int 0, .int 0, .int 0, .ref a23, .ref a24, .ref a25, .int 0])), (a1, .inl (E.2.2 0, 4, .inl f0)), (a2, .inl (E.2.2 0, 5, .inl (fun _ => 0))), (a3, .inl (E.2.2 0, 25, .inl (fun _ => 0))), (a4, .inl (E.2.2 0, 180, .inl (fun _ => 0))), (a5, .inl (E.2.2 3, 3000, .inl (fun _ => 0)))] 0 0
  refine mp_run hF mp_tabX10_ok [mp_c (.iconst 0) 0, mp_i (.istore_n 2), mp_i (.iload_n 1)] (by decide +kernel) ?_
  show mp_W E X 4 8 [(2, .int 0), (0, .ref a0), (1, .int x0)] [.int x0] [(a0, .inr (10, [.int 0, .ref a1, .ref a6, .ref a7, .ref a8, .ref a9, .int 0, .int 0, .int 0, .int 0, .int 0, .long 0, .int 0, .int 0, .int 0, .int (-1), .ref a2, .ref a3, .ref a4, .ref a5, .ref a10, .ref a11, .ref a12, .ref a13, .int 0, .ref a14, .ref a15, .ref a16, .ref a17, .int 0, .int 0, .int 0, .ref a18, .ref a19, .int 0, .int 0, .ref a20, .ref a21, .ref a22, .int 0, .int 0, .int 0, .int 0, .ref a23, .ref a24, .ref a25, .int 0])), (a1, .inl (E.2.2 0, 4, .inl f0)), (a2, .inl (E.2.2 0, 5, .inl (fun _ => 0))), (a3, .inl (E.2.2 0, 25, .inl (fun _ => 0))), (a4, .inl (E.2.2 0, 180, .inl (fun _ => 0))), (a5, .inl (E.2.2 3, 3000, .inl (fun _ => 0)))] 0 0
  rcases (show x0.toInt < 0 ∨ 9 < x0.toInt ∨ x0.toInt = 0 ∨ x0.toInt = 1 ∨ x0.toInt = 2 ∨ x0.toInt = 3 ∨ x0.toInt = 4 ∨ x0.toInt = 5 ∨ x0.toInt = 6 ∨ x0.toInt = 7 ∨ x0.toInt = 8 ∨ x0.toInt = 9 by omega) with c1 | c1 | c1 | c1 | c1 | c1 | c1 | c1 | c1 | c1 | c1 | c1
  · refine mp_tabOut hF (dflt := 205) (lo := 0) (hi := 9) (offs := #[56, 63, 70, 77, 112, 146, 153, 160, 165, 172]) (len := 56) (by decide +kernel) (Or.inl c1) (tgt := 213) (by decide) ?_
    show mp_W E X 4 213 [(2, .int 0), (0, .ref a0), (1, .int x0)] [] [(a0, .inr (10, [.int 0, .ref a1, .ref a6, .ref a7, .ref a8, .ref a9, .int 0, .int 0, .int 0, .int 0, .int 0, .long 0, .int 0, .int 0, .int 0, .int (-1), .ref a2, .ref a3, .ref a4, .ref a5, .ref a10, .ref a11, .ref a12, .ref a13, .int 0, .ref a14, .ref a15, .ref a16, .ref a17, .int 0, .int 0, .int 0, .ref a18, .ref a19, .int 0, .int 0, .ref a20, .ref a21, .ref a22, .int 0, .int 0, .int 0, .int 0, .ref a23, .ref a24, .ref a25, .int 0])), (a1, .inl (E.2.2 0, 4, .inl f0)), (a2, .inl (E.2.2 0, 5, .inl (fun _ => 0))), (a3, .inl (E.2.2 0, 25, .inl (fun _ => 0))), (a4, .inl (E.2.2 0, 180, .inl (fun _ => 0))), (a5, .inl (E.2.2 3, 3000, .inl (fun _ => 0)))] 0 0
    refine mp_run hF mp_tabX10_ok [mp_c (.iconst (-1)) (-1)] (by decide +kernel) ?_
    show mp_W E X 4 214 [(2, .int 0), (0, .ref a0), (1, .int x0)] [.int (-1)] [(a0, .inr (10, [.int 0, .ref a1, .ref a6, .ref a7, .ref a8, .ref a9, .int 0, .int 0, .int 0, .int 0, .int 0, .long 0, .int 0, .int 0, .int 0, .int (-1), .ref a2, .ref a3, .ref a4, .ref a5, .ref a10, .ref a11, .ref a12, .ref a13, .int 0, .ref a14, .ref a15, .ref a16, .ref a17, .int 0, .int 0, .int 0, .ref a18, .ref a19, .int 0, .int 0, .ref a20, .ref a21, .ref a22, .int 0, .int 0, .int 0, .int 0, .ref a23, .ref a24, .ref a25, .int 0])), (a1, .inl (E.2.2 0, 4, .inl f0)), (a2, .inl (E.2.2 0, 5, .inl (fun _ => 0))), (a3, .inl (E.2.2 0, 25, .inl (fun _ => 0))), (a4, .inl (E.2.2 0, 180, .inl (fun _ => 0))), (a5, .inl (E.2.2 3, 3000, .inl (fun _ => 0)))] 0 0
    exact mp_iret hF hQ rfl rfl (Nat.le_of_ble_eq_true rfl) (Nat.le_of_ble_eq_true rfl) [] (w' := []) rfl rfl (Or.inl ⟨rfl, (by first | omega | decide), rfl⟩) (by decide +kernel)
  · refine mp_tabOut hF (dflt := 205) (lo := 0) (hi := 9) (offs := #[56, 63, 70, 77, 112, 146, 153, 160, 165, 172]) (len := 56) (by decide +kernel) (Or.inr c1) (tgt := 213) (by decide) ?_
    show mp_W E X 4 213 [(2, .int 0), (0, .ref a0), (1, .int x0)] [] [(a0, .inr (10, [.int 0, .ref a1, .ref a6, .ref a7, .ref a8, .ref a9, .int 0, .int 0, .int 0, .int 0, .int 0, .long 0, .int 0, .int 0, .int 0, .int (-1), .ref a2, .ref a3, .ref a4, .ref a5, .ref a10, .ref a11, .ref a12, .ref a13, .int 0, .ref a14, .ref a15, .ref a16, .ref a17, .int 0, .int 0, .int 0, .ref a18, .ref a19, .int 0, .int 0, .ref a20, .ref a21, .ref a22, .int 0, .int 0, .int 0, .int 0, .ref a23, .ref a24, .ref a25, .int 0])), (a1, .inl (E.2.2 0, 4, .inl f0)), (a2, .inl (E.2.2 0, 5, .inl (fun _ => 0))), (a3, .inl (E.2.2 0, 25, .inl (fun _ => 0))), (a4, .inl (E.2.2 0, 180, .inl (fun _ => 0))), (a5, .inl (E.2.2 3, 3000, .inl (fun _ => 0)))] 0 0
    refine mp_run hF mp_tabX10_ok [mp_c (.iconst (-1)) (-1)] (by decide +kernel) ?_
    show mp_W E X 4 214 [(2, .int 0), (0, .ref a0), (1, .int x0)] [.int (-1)] [(a0, .inr (10, [.int 0, .ref a1, .ref a6, .ref a7, .ref a8, .ref a9, .int 0, .int 0, .int 0, .int 0, .int 0, .long 0, .int 0, .int 0, .int 0, .int (-1), .ref a2, .ref a3, .ref a4, .ref a5, .ref a10, .ref a11, .ref a12, .ref a13, .int 0, .ref a14, .ref a15, .ref a16, .ref a17, .int 0, .int 0, .int 0, .ref a18, .ref a19, .int 0, .int 0, .ref a20, .ref a21, .ref a22, .int 0, .int 0, .int 0, .int 0, .ref a23, .ref a24, .ref a25, .int 0])), (a1, .inl (E.2.2 0, 4, .inl f0)), (a2, .inl (E.2.2 0, 5, .inl (fun _ => 0))), (a3, .inl (E.2.2 0, 25, .inl (fun _ => 0))), (a4, .inl (E.2.2 0, 180, .inl (fun _ => 0))), (a5, .inl (E.2.2 3, 3000, .inl (fun _ => 0)))] 0 0
    exact mp_iret hF hQ rfl rfl (Nat.le_of_ble_eq_true rfl) (Nat.le_of_ble_eq_true rfl) [] (w' := []) rfl rfl (Or.inr (Or.inl ⟨rfl, (by first | omega | decide), rfl⟩)) (by decide +kernel)
  · refine mp_tabIn hF (dflt := 205) (lo := 0) (hi := 9) (offs := #[56, 63, 70, 77, 112, 146, 153, 160, 165, 172]) (len := 56) (off := 56) (tgt := 64) (by decide +kernel) (by omega) (by omega) (by rw [c1]; rfl) (by decide) ?_
    show mp_W E X 4 64 [(2, .int 0), (0, .ref a0), (1, .int x0)] [] [(a0, .inr (10, [.int 0, .ref a1, .ref a6, .ref a7, .ref a8, .ref a9, .int 0, .int 0, .int 0, .int 0, .int 0, .long 0, .int 0, .int 0, .int 0, .int (-1), .ref a2, .ref a3, .ref a4, .ref a5, .ref a10, .ref a11, .ref a12, .ref a13, .int 0, .ref a14, .ref a15, .ref a16, .ref a17, .int 0, .int 0, .int 0, .ref a18, .ref a19, .int 0, .int 0, .ref a20, .ref a21, .ref a22, .int 0, .int 0, .int 0, .int 0, .ref a23, .ref a24, .ref a25, .int 0])), (a1, .inl (E.2.2 0, 4, .inl f0)), (a2, .inl (E.2.2 0, 5, .inl (fun _ => 0))), (a3, .inl (E.2.2 0, 25, .inl (fun _ => 0))), (a4, .inl (E.2.2 0, 180, .inl (fun _ => 0))), (a5, .inl (E.2.2 3, 3000, .inl (fun _ => 0)))] 0 0
    refine mp_run hF mp_tabX10_ok [mp_i (.aload_n 0), mp_h (.getfield 34) [17, 0], mp_c (.iconst 0) 0, mp_h .iaload [3]] (by decide +kernel) ?_
    refine And.intro rfl (And.intro rfl ?_)
    refine And.intro rfl (And.intro rfl (And.intro (vp_in_iff.mpr (by decide)) ?_))
    intro z2 h3
    obtain rfl : z2 = 0 := h3
    show mp_W E X 4 70 [(2, .int 0), (0, .ref a0), (1, .int x0)] [.int 0] [(a0, .inr (10, [.int 0, .ref a1, .ref a6, .ref a7, .ref a8, .ref a9, .int 0, .int 0, .int 0, .int 0, .int 0, .long 0, .int 0, .int 0, .int 0, .int (-1), .ref a2, .ref a3, .ref a4, .ref a5, .ref a10, .ref a11, .ref a12, .ref a13, .int 0, .ref a14, .ref a15, .ref a16, .ref a17, .int 0, .int 0, .int 0, .ref a18, .ref a19, .int 0, .int 0, .ref a20, .ref a21, .ref a22, .int 0, .int 0, .int 0, .int 0, .ref a23, .ref a24, .ref a25, .int 0])), (a1, .inl (E.2.2 0, 4, .inl f0)), (a2, .inl (E.2.2 0, 5, .inl (fun _ => 0))), (a3, .inl (E.2.2 0, 25, .inl (fun _ => 0))), (a4, .inl (E.2.2 0, 180, .inl (fun _ => 0))), (a5, .inl (E.2.2 3, 3000, .inl (fun _ => 0)))] 0 0
    exact mp_iret hF hQ rfl rfl (Nat.le_of_ble_eq_true rfl) (Nat.le_of_ble_eq_true rfl) [] (w' := []) rfl rfl (Or.inr (Or.inr (Or.inl ⟨rfl, (by first | omega | decide), rfl⟩))) (by decide +kernel)
  · refine mp_tabIn hF (dflt := 205) (lo := 0) (hi := 9) (offs := #[56, 63, 70, 77, 112, 146, 153, 160, 165, 172]) (len := 56) (off := 63) (tgt := 71) (by decide +kernel) (by omega) (by omega) (by rw [c1]; rfl) (by decide) ?_
    show mp_W E X 4 71 [(2, .int 0), (0, .ref a0), (1, .int x0)] [] [(a0, .inr (10, [.int 0, .ref a1, .ref a6, .ref a7, .ref a8, .ref a9, .int 0, .int 0, .int 0, .int 0, .int 0, .long 0, .int 0, .int 0, .int 0, .int (-1), .ref a2, .ref a3, .ref a4, .ref a5, .ref a10, .ref a11, .ref a12, .ref a13, .int 0, .ref a14, .ref a15, .ref a16, .ref a17, .int 0, .int 0, .int 0, .ref a18, .ref a19, .int 0, .int 0, .ref a20, .ref a21, .ref a22, .int 0, .int 0, .int 0, .int 0, .ref a23, .ref a24, .ref a25, .int 0])), (a1, .inl (E.2.2 0, 4, .inl f0)), (a2, .inl (E.2.2 0, 5, .inl (fun _ => 0))), (a3, .inl (E.2.2 0, 25, .inl (fun _ => 0))), (a4, .inl (E.2.2 0, 180, .inl (fun _ => 0))), (a5, .inl (E.2.2 3, 3000, .inl (fun _ => 0)))] 0 0
    refine mp_run hF mp_tabX10_ok [mp_i (.aload_n 0), mp_h (.getfield 34) [17, 0], mp_c (.iconst 2) 2, mp_h .iaload [3]] (by decide +kernel) ?_
    refine And.intro rfl (And.intro rfl ?_)
    refine And.intro rfl (And.intro rfl (And.intro (vp_in_iff.mpr (by decide)) ?_))
    intro z4 h5
    obtain rfl : z4 = 0 := h5
    show mp_W E X 4 77 [(2, .int 0), (0, .ref a0), (1, .int x0)] [.int 0] [(a0, .inr (10, [.int 0, .ref a1, .ref a6, .ref a7, .ref a8, .ref a9, .int 0, .int 0, .int 0, .int 0, .int 0, .long 0, .int 0, .int 0, .int 0, .int (-1), .ref a2, .ref a3, .ref a4, .ref a5, .ref a10, .ref a11, .ref a12, .ref a13, .int 0, .ref a14, .ref a15, .ref a16, .ref a17, .int 0, .int 0, .int 0, .ref a18, .ref a19, .int 0, .int 0, .ref a20, .ref a21, .ref a22, .int 0, .int 0, .int 0, .int 0, .ref a23, .ref a24, .ref a25, .int 0])), (a1, .inl (E.2.2 0, 4, .inl f0)), (a2, .inl (E.2.2 0, 5, .inl (fun _ => 0))), (a3, .inl (E.2.2 0, 25, .inl (fun _ => 0))), (a4, .inl (E.2.2 0, 180, .inl (fun _ => 0))), (a5, .inl (E.2.2 3, 3000, .inl (fun _ => 0)))] 0 0
    exact mp_iret hF hQ rfl rfl (Nat.le_of_ble_eq_true rfl) (Nat.le_of_ble_eq_true rfl) [] (w' := []) rfl rfl (Or.inr (Or.inr (Or.inr (Or.inl ⟨rfl, (by first | omega | decide), rfl⟩)))) (by decide +kernel)
  · refine mp_tabIn hF (dflt := 205) (lo := 0) (hi := 9) (offs := #[56, 63, 70, 77, 112, 146, 153, 160, 165, 172]) (len := 56) (off := 70) (tgt := 78) (by decide +kernel) (by omega) (by omega) (by rw [c1]; rfl) (by decide) ?_
    show mp_W E X 4 78 [(2, .int 0), (0, .ref a0), (1, .int x0)] [] [(a0, .inr (10, [.int 0, .ref a1, .ref a6, .ref a7, .ref a8, .ref a9, .int 0, .int 0, .int 0, .int 0, .int 0, .long 0, .int 0, .int 0, .int 0, .int (-1), .ref a2, .ref a3, .ref a4, .ref a5, .ref a10, .ref a11, .ref a12, .ref a13, .int 0, .ref a14, .ref a15, .ref a16, .ref a17, .int 0, .int 0, .int 0, .ref a18, .ref a19, .int 0, .int 0, .ref a20, .ref a21, .ref a22, .int 0, .int 0, .int 0, .int 0, .ref a23, .ref a24, .ref a25, .int 0])), (a1, .inl (E.2.2 0, 4, .inl f0)), (a2, .inl (E.2.2 0, 5, .inl (fun _ => 0))), (a3, .inl (E.2.2 0, 25, .inl (fun _ => 0))), (a4, .inl (E.2.2 0, 180, .inl (fun _ => 0))), (a5, .inl (E.2.2 3, 3000, .inl (fun _ => 0)))] 0 0
    refine mp_run hF mp_tabX10_ok [mp_i (.aload_n 0), mp_h (.getfield 34) [17, 0], mp_c (.iconst 3) 3, mp_h .iaload [3]] (by decide +kernel) ?_
    refine And.intro rfl (And.intro rfl ?_)
    refine And.intro rfl (And.intro rfl (And.intro (vp_in_iff.mpr (by decide)) ?_))
    intro z6 h7
    obtain rfl : z6 = 0 := h7
    show mp_W E X 4 84 [(2, .int 0), (0, .ref a0), (1, .int x0)] [.int 0] [(a0, .inr (10, [.int 0, .ref a1, .ref a6, .ref a7, .ref a8, .ref a9, .int 0, .int 0, .int 0, .int 0, .int 0, .long 0, .int 0, .int 0, .int 0, .int (-1), .ref a2, .ref a3, .ref a4, .ref a5, .ref a10, .ref a11, .ref a12, .ref a13, .int 0, .ref a14, .ref a15, .ref a16, .ref a17, .int 0, .int 0, .int 0, .ref a18, .ref a19, .int 0, .int 0, .ref a20, .ref a21, .ref a22, .int 0, .int 0, .int 0, .int 0, .ref a23, .ref a24, .ref a25, .int 0])), (a1, .inl (E.2.2 0, 4, .inl f0)), (a2, .inl (E.2.2 0, 5, .inl (fun _ => 0))), (a3, .inl (E.2.2 0, 25, .inl (fun _ => 0))), (a4, .inl (E.2.2 0, 180, .inl (fun _ => 0))), (a5, .inl (E.2.2 3, 3000, .inl (fun _ => 0)))] 0 0
    exact mp_iret hF hQ rfl rfl (Nat.le_of_ble_eq_true rfl) (Nat.le_of_ble_eq_true rfl) [] (w' := []) rfl rfl (Or.inr (Or.inr (Or.inr (Or.inr (Or.inl ⟨rfl, (by first | omega | decide), rfl⟩))))) (by decide +kernel)
  · refine mp_tabIn hF (dflt := 205) (lo := 0) (hi := 9) (offs := #[56, 63, 70, 77, 112, 146, 153, 160, 165, 172]) (len := 56) (off := 77) (tgt := 85) (by decide +kernel) (by omega) (by omega) (by rw [c1]; rfl) (by decide) ?_
    show mp_W E X 4 85 [(2, .int 0), (0, .ref a0), (1, .int x0)] [] [(a0, .inr (10, [.int 0, .ref a1, .ref a6, .ref a7, .ref a8, .ref a9, .int 0, .int 0, .int 0, .int 0, .int 0, .long 0, .int 0, .int 0, .int 0, .int (-1), .ref a2, .ref a3, .ref a4, .ref a5, .ref a10, .ref a11, .ref a12, .ref a13, .int 0, .ref a14, .ref a15, .ref a16, .ref a17, .int 0, .int 0, .int 0, .ref a18, .ref a19, .int 0, .int 0, .ref a20, .ref a21, .ref a22, .int 0, .int 0, .int 0, .int 0, .ref a23, .ref a24, .ref a25, .int 0])), (a1, .inl (E.2.2 0, 4, .inl f0)), (a2, .inl (E.2.2 0, 5, .inl (fun _ => 0))), (a3, .inl (E.2.2 0, 25, .inl (fun _ => 0))), (a4, .inl (E.2.2 0, 180, .inl (fun _ => 0))), (a5, .inl (E.2.2 3, 3000, .inl (fun _ => 0)))] 0 0
    refine mp_run hF mp_tabX10_ok [mp_c (.iconst 0) 0, mp_i (.istore_n 3)] (by decide +kernel) ?_
    show mp_W E X 4 87 [(3, .int 0), (2, .int 0), (0, .ref a0), (1, .int x0)] [] [(a0, .inr (10, [.int 0, .ref a1, .ref a6, .ref a7, .ref a8, .ref a9, .int 0, .int 0, .int 0, .int 0, .int 0, .long 0, .int 0, .int 0, .int 0, .int (-1), .ref a2, .ref a3, .ref a4, .ref a5, .ref a10, .ref a11, .ref a12, .ref a13, .int 0, .ref a14, .ref a15, .ref a16, .ref a17, .int 0, .int 0, .int 0, .ref a18, .ref a19, .int 0, .int 0, .ref a20, .ref a21, .ref a22, .int 0, .int 0, .int 0, .int 0, .ref a23, .ref a24, .ref a25, .int 0])), (a1, .inl (E.2.2 0, 4, .inl f0)), (a2, .inl (E.2.2 0, 5, .inl (fun _ => 0))), (a3, .inl (E.2.2 0, 25, .inl (fun _ => 0))), (a4, .inl (E.2.2 0, 180, .inl (fun _ => 0))), (a5, .inl (E.2.2 3, 3000, .inl (fun _ => 0)))] 0 0
    have lp8 : ∀ (d9 : Nat) (i11 : Int32), 0 ≤ i11.toInt → i11.toInt + d9 = 36 → mp_W E X 4 87 [(3, .int i11), (2, .int 0), (0, .ref a0), (1, .int x0)] [] [(a0, .inr (10, [.int 0, .ref a1, .ref a6, .ref a7, .ref a8, .ref a9, .int 0, .int 0, .int 0, .int 0, .int 0, .long 0, .int 0, .int 0, .int 0, .int (-1), .ref a2, .ref a3, .ref a4, .ref a5, .ref a10, .ref a11, .ref a12, .ref a13, .int 0, .ref a14, .ref a15, .ref a16, .ref a17, .int 0, .int 0, .int 0, .ref a18, .ref a19, .int 0, .int 0, .ref a20, .ref a21, .ref a22, .int 0, .int 0, .int 0, .int 0, .ref a23, .ref a24, .ref a25, .int 0])), (a1, .inl (E.2.2 0, 4, .inl f0)), (a2, .inl (E.2.2 0, 5, .inl (fun _ => 0))), (a3, .inl (E.2.2 0, 25, .inl (fun _ => 0))), (a4, .inl (E.2.2 0, 180, .inl (fun _ => 0))), (a5, .inl (E.2.2 3, 3000, .inl (fun _ => 0)))] 0 0 := by
      intro d9
      induction d9 with
      | zero =>
        intro i11  h12 h13
        refine mp_run hF mp_tabX10_ok [mp_i (.iload_n 3), mp_c (.bipush 36) 36, mp_h (.if_icmp .ge 26) [116]] (by decide +kernel) ?_
        refine And.intro (fun c14 => ?_) (fun c14 => ?_)
        · have c14 : 36 ≤ i11.toInt := c14
          show mp_W E X 4 116 [(3, .int i11), (2, .int 0), (0, .ref a0), (1, .int x0)] [] [(a0, .inr (10, [.int 0, .ref a1, .ref a6, .ref a7, .ref a8, .ref a9, .int 0, .int 0, .int 0, .int 0, .int 0, .long 0, .int 0, .int 0, .int 0, .int (-1), .ref a2, .ref a3, .ref a4, .ref a5, .ref a10, .ref a11, .ref a12, .ref a13, .int 0, .ref a14, .ref a15, .ref a16, .ref a17, .int 0, .int 0, .int 0, .ref a18, .ref a19, .int 0, .int 0, .ref a20, .ref a21, .ref a22, .int 0, .int 0, .int 0, .int 0, .ref a23, .ref a24, .ref a25, .int 0])), (a1, .inl (E.2.2 0, 4, .inl f0)), (a2, .inl (E.2.2 0, 5, .inl (fun _ => 0))), (a3, .inl (E.2.2 0, 25, .inl (fun _ => 0))), (a4, .inl (E.2.2 0, 180, .inl (fun _ => 0))), (a5, .inl (E.2.2 3, 3000, .inl (fun _ => 0)))] 0 0
          refine mp_run hF mp_tabX10_ok [mp_i (.iload_n 2), mp_c (.iconst 2) 2, mp_i .idiv] (by decide +kernel) ?_
          refine And.intro (by decide) ?_
          intro z15 h16
          obtain rfl : z15 = 0 := h16.trans (by decide)
          show mp_W E X 4 119 [(3, .int i11), (2, .int 0), (0, .ref a0), (1, .int x0)] [.int 0] [(a0, .inr (10, [.int 0, .ref a1, .ref a6, .ref a7, .ref a8, .ref a9, .int 0, .int 0, .int 0, .int 0, .int 0, .long 0, .int 0, .int 0, .int 0, .int (-1), .ref a2, .ref a3, .ref a4, .ref a5, .ref a10, .ref a11, .ref a12, .ref a13, .int 0, .ref a14, .ref a15, .ref a16, .ref a17, .int 0, .int 0, .int 0, .ref a18, .ref a19, .int 0, .int 0, .ref a20, .ref a21, .ref a22, .int 0, .int 0, .int 0, .int 0, .ref a23, .ref a24, .ref a25, .int 0])), (a1, .inl (E.2.2 0, 4, .inl f0)), (a2, .inl (E.2.2 0, 5, .inl (fun _ => 0))), (a3, .inl (E.2.2 0, 25, .inl (fun _ => 0))), (a4, .inl (E.2.2 0, 180, .inl (fun _ => 0))), (a5, .inl (E.2.2 3, 3000, .inl (fun _ => 0)))] 0 0
          exact mp_iret hF hQ rfl rfl (Nat.le_of_ble_eq_true rfl) (Nat.le_of_ble_eq_true rfl) [] (w' := []) rfl rfl (Or.inr (Or.inr (Or.inr (Or.inr (Or.inr (Or.inl ⟨rfl, (by first | omega | decide), rfl⟩)))))) (by decide +kernel)
        · have c14 : i11.toInt < 36 := c14
          exfalso; omega
      | succ d9 ih10 =>
        intro i11  h12 h13
        refine mp_run hF mp_tabX10_ok [mp_i (.iload_n 3), mp_c (.bipush 36) 36, mp_h (.if_icmp .ge 26) [116]] (by decide +kernel) ?_
        refine And.intro (fun c17 => ?_) (fun c17 => ?_)
        · have c17 : 36 ≤ i11.toInt := c17
          exfalso; omega
        · have c17 : i11.toInt < 36 := c17
          show mp_W E X 4 93 [(3, .int i11), (2, .int 0), (0, .ref a0), (1, .int x0)] [] [(a0, .inr (10, [.int 0, .ref a1, .ref a6, .ref a7, .ref a8, .ref a9, .int 0, .int 0, .int 0, .int 0, .int 0, .long 0, .int 0, .int 0, .int 0, .int (-1), .ref a2, .ref a3, .ref a4, .ref a5, .ref a10, .ref a11, .ref a12, .ref a13, .int 0, .ref a14, .ref a15, .ref a16, .ref a17, .int 0, .int 0, .int 0, .ref a18, .ref a19, .int 0, .int 0, .ref a20, .ref a21, .ref a22, .int 0, .int 0, .int 0, .int 0, .ref a23, .ref a24, .ref a25, .int 0])), (a1, .inl (E.2.2 0, 4, .inl f0)), (a2, .inl (E.2.2 0, 5, .inl (fun _ => 0))), (a3, .inl (E.2.2 0, 25, .inl (fun _ => 0))), (a4, .inl (E.2.2 0, 180, .inl (fun _ => 0))), (a5, .inl (E.2.2 3, 3000, .inl (fun _ => 0)))] 0 0
          refine mp_run hF mp_tabX10_ok [mp_i (.iload_n 2), mp_i (.aload_n 0), mp_h (.getfield 37) [18, 0], mp_i (.iload_n 3), mp_h .iaload [4], mp_h (.ifCond .le 7) [107]] (by decide +kernel) ?_
          refine And.intro rfl (And.intro rfl ?_)
          refine And.intro rfl (And.intro rfl (And.intro (vp_in_iff.mpr (by omega)) ?_))
          intro z18 h19
          obtain rfl : z18 = 0 := h19
          refine And.intro (fun _ => ?_) (fun c20 => absurd c20 (by decide))
          show mp_W E X 4 107 [(3, .int i11), (2, .int 0), (0, .ref a0), (1, .int x0)] [.int 0] [(a0, .inr (10, [.int 0, .ref a1, .ref a6, .ref a7, .ref a8, .ref a9, .int 0, .int 0, .int 0, .int 0, .int 0, .long 0, .int 0, .int 0, .int 0, .int (-1), .ref a2, .ref a3, .ref a4, .ref a5, .ref a10, .ref a11, .ref a12, .ref a13, .int 0, .ref a14, .ref a15, .ref a16, .ref a17, .int 0, .int 0, .int 0, .ref a18, .ref a19, .int 0, .int 0, .ref a20, .ref a21, .ref a22, .int 0, .int 0, .int 0, .int 0, .ref a23, .ref a24, .ref a25, .int 0])), (a1, .inl (E.2.2 0, 4, .inl f0)), (a2, .inl (E.2.2 0, 5, .inl (fun _ => 0))), (a3, .inl (E.2.2 0, 25, .inl (fun _ => 0))), (a4, .inl (E.2.2 0, 180, .inl (fun _ => 0))), (a5, .inl (E.2.2 3, 3000, .inl (fun _ => 0)))] 0 0
          refine mp_run hF mp_tabX10_ok [mp_c (.iconst 0) 0, mp_i .iadd, mp_i (.istore_n 2), mp_c (.iinc 3 1) 1, mp_h (.goto (-26)) [87]] (by decide +kernel) ?_
          intro z21 h22
          obtain rfl : z21 = 0 := h22.trans (by decide)
          intro z23 h24
          have e25 : z23.toInt = i11.toInt + 1 := mp_add (a := i11.toInt) (b := 1) h24 rfl (by decide) (by omega) (by omega)
          show mp_W E X 4 87 [(3, .int z23), (2, .int 0), (0, .ref a0), (1, .int x0)] [] [(a0, .inr (10, [.int 0, .ref a1, .ref a6, .ref a7, .ref a8, .ref a9, .int 0, .int 0, .int 0, .int 0, .int 0, .long 0, .int 0, .int 0, .int 0, .int (-1), .ref a2, .ref a3, .ref a4, .ref a5, .ref a10, .ref a11, .ref a12, .ref a13, .int 0, .ref a14, .ref a15, .ref a16, .ref a17, .int 0, .int 0, .int 0, .ref a18, .ref a19, .int 0, .int 0, .ref a20, .ref a21, .ref a22, .int 0, .int 0, .int 0, .int 0, .ref a23, .ref a24, .ref a25, .int 0])), (a1, .inl (E.2.2 0, 4, .inl f0)), (a2, .inl (E.2.2 0, 5, .inl (fun _ => 0))), (a3, .inl (E.2.2 0, 25, .inl (fun _ => 0))), (a4, .inl (E.2.2 0, 180, .inl (fun _ => 0))), (a5, .inl (E.2.2 3, 3000, .inl (fun _ => 0)))] 0 0
          exact mp_sub [0, 1, 2, 3] rfl [0, 1, 2, 3, 4, 5] rfl rfl (ih10 z23  (by omega) (by omega))
    exact mp_sub [0, 1, 2, 3] rfl [0, 1, 2, 3, 4, 5] rfl rfl (lp8 36 0  (by decide) (by decide))
  · refine mp_tabIn hF (dflt := 205) (lo := 0) (hi := 9) (offs := #[56, 63, 70, 77, 112, 146, 153, 160, 165, 172]) (len := 56) (off := 112) (tgt := 120) (by decide +kernel) (by omega) (by omega) (by rw [c1]; rfl) (by decide) ?_
    show mp_W E X 4 120 [(2, .int 0), (0, .ref a0), (1, .int x0)] [] [(a0, .inr (10, [.int 0, .ref a1, .ref a6, .ref a7, .ref a8, .ref a9, .int 0, .int 0, .int 0, .int 0, .int 0, .long 0, .int 0, .int 0, .int 0, .int (-1), .ref a2, .ref a3, .ref a4, .ref a5, .ref a10, .ref a11, .ref a12, .ref a13, .int 0, .ref a14, .ref a15, .ref a16, .ref a17, .int 0, .int 0, .int 0, .ref a18, .ref a19, .int 0, .int 0, .ref a20, .ref a21, .ref a22, .int 0, .int 0, .int 0, .int 0, .ref a23, .ref a24, .ref a25, .int 0])), (a1, .inl (E.2.2 0, 4, .inl f0)), (a2, .inl (E.2.2 0, 5, .inl (fun _ => 0))), (a3, .inl (E.2.2 0, 25, .inl (fun _ => 0))), (a4, .inl (E.2.2 0, 180, .inl (fun _ => 0))), (a5, .inl (E.2.2 3, 3000, .inl (fun _ => 0)))] 0 0
    refine mp_run hF mp_tabX10_ok [mp_c (.iconst 0) 0, mp_i (.istore_n 3)] (by decide +kernel) ?_
    show mp_W E X 4 122 [(3, .int 0), (2, .int 0), (0, .ref a0), (1, .int x0)] [] [(a0, .inr (10, [.int 0, .ref a1, .ref a6, .ref a7, .ref a8, .ref a9, .int 0, .int 0, .int 0, .int 0, .int 0, .long 0, .int 0, .int 0, .int 0, .int (-1), .ref a2, .ref a3, .ref a4, .ref a5, .ref a10, .ref a11, .ref a12, .ref a13, .int 0, .ref a14, .ref a15, .ref a16, .ref a17, .int 0, .int 0, .int 0, .ref a18, .ref a19, .int 0, .int 0, .ref a20, .ref a21, .ref a22, .int 0, .int 0, .int 0, .int 0, .ref a23, .ref a24, .ref a25, .int 0])), (a1, .inl (E.2.2 0, 4, .inl f0)), (a2, .inl (E.2.2 0, 5, .inl (fun _ => 0))), (a3, .inl (E.2.2 0, 25, .inl (fun _ => 0))), (a4, .inl (E.2.2 0, 180, .inl (fun _ => 0))), (a5, .inl (E.2.2 3, 3000, .inl (fun _ => 0)))] 0 0
    have lp26 : ∀ (d27 : Nat) (i29 : Int32), 0 ≤ i29.toInt → i29.toInt + d27 = 600 → mp_W E X 4 122 [(3, .int i29), (2, .int 0), (0, .ref a0), (1, .int x0)] [] [(a0, .inr (10, [.int 0, .ref a1, .ref a6, .ref a7, .ref a8, .ref a9, .int 0, .int 0, .int 0, .int 0, .int 0, .long 0, .int 0, .int 0, .int 0, .int (-1), .ref a2, .ref a3, .ref a4, .ref a5, .ref a10, .ref a11, .ref a12, .ref a13, .int 0, .ref a14, .ref a15, .ref a16, .ref a17, .int 0, .int 0, .int 0, .ref a18, .ref a19, .int 0, .int 0, .ref a20, .ref a21, .ref a22, .int 0, .int 0, .int 0, .int 0, .ref a23, .ref a24, .ref a25, .int 0])), (a1, .inl (E.2.2 0, 4, .inl f0)), (a2, .inl (E.2.2 0, 5, .inl (fun _ => 0))), (a3, .inl (E.2.2 0, 25, .inl (fun _ => 0))), (a4, .inl (E.2.2 0, 180, .inl (fun _ => 0))), (a5, .inl (E.2.2 3, 3000, .inl (fun _ => 0)))] 0 0 := by
      intro d27
      induction d27 with
      | zero =>
        intro i29  h30 h31
        refine mp_run hF mp_tabX10_ok [mp_i (.iload_n 3), mp_c (.sipush 600) 600, mp_h (.if_icmp .ge 26) [152]] (by decide +kernel) ?_
        refine And.intro (fun c32 => ?_) (fun c32 => ?_)
        · have c32 : 600 ≤ i29.toInt := c32
          show mp_W E X 4 152 [(3, .int i29), (2, .int 0), (0, .ref a0), (1, .int x0)] [] [(a0, .inr (10, [.int 0, .ref a1, .ref a6, .ref a7, .ref a8, .ref a9, .int 0, .int 0, .int 0, .int 0, .int 0, .long 0, .int 0, .int 0, .int 0, .int (-1), .ref a2, .ref a3, .ref a4, .ref a5, .ref a10, .ref a11, .ref a12, .ref a13, .int 0, .ref a14, .ref a15, .ref a16, .ref a17, .int 0, .int 0, .int 0, .ref a18, .ref a19, .int 0, .int 0, .ref a20, .ref a21, .ref a22, .int 0, .int 0, .int 0, .int 0, .ref a23, .ref a24, .ref a25, .int 0])), (a1, .inl (E.2.2 0, 4, .inl f0)), (a2, .inl (E.2.2 0, 5, .inl (fun _ => 0))), (a3, .inl (E.2.2 0, 25, .inl (fun _ => 0))), (a4, .inl (E.2.2 0, 180, .inl (fun _ => 0))), (a5, .inl (E.2.2 3, 3000, .inl (fun _ => 0)))] 0 0
          refine mp_run hF mp_tabX10_ok [mp_i (.iload_n 2)] (by decide +kernel) ?_
          show mp_W E X 4 153 [(3, .int i29), (2, .int 0), (0, .ref a0), (1, .int x0)] [.int 0] [(a0, .inr (10, [.int 0, .ref a1, .ref a6, .ref a7, .ref a8, .ref a9, .int 0, .int 0, .int 0, .int 0, .int 0, .long 0, .int 0, .int 0, .int 0, .int (-1), .ref a2, .ref a3, .ref a4, .ref a5, .ref a10, .ref a11, .ref a12, .ref a13, .int 0, .ref a14, .ref a15, .ref a16, .ref a17, .int 0, .int 0, .int 0, .ref a18, .ref a19, .int 0, .int 0, .ref a20, .ref a21, .ref a22, .int 0, .int 0, .int 0, .int 0, .ref a23, .ref a24, .ref a25, .int 0])), (a1, .inl (E.2.2 0, 4, .inl f0)), (a2, .inl (E.2.2 0, 5, .inl (fun _ => 0))), (a3, .inl (E.2.2 0, 25, .inl (fun _ => 0))), (a4, .inl (E.2.2 0, 180, .inl (fun _ => 0))), (a5, .inl (E.2.2 3, 3000, .inl (fun _ => 0)))] 0 0
          exact mp_iret hF hQ rfl rfl (Nat.le_of_ble_eq_true rfl) (Nat.le_of_ble_eq_true rfl) [] (w' := []) rfl rfl (Or.inr (Or.inr (Or.inr (Or.inr (Or.inr (Or.inr (Or.inl ⟨rfl, (by first | omega | decide), rfl⟩))))))) (by decide +kernel)
        · have c32 : i29.toInt < 600 := c32
          exfalso; omega
      | succ d27 ih28 =>
        intro i29  h30 h31
        refine mp_run hF mp_tabX10_ok [mp_i (.iload_n 3), mp_c (.sipush 600) 600, mp_h (.if_icmp .ge 26) [152]] (by decide +kernel) ?_
        refine And.intro (fun c33 => ?_) (fun c33 => ?_)
        · have c33 : 600 ≤ i29.toInt := c33
          exfalso; omega
        · have c33 : i29.toInt < 600 := c33
          show mp_W E X 4 129 [(3, .int i29), (2, .int 0), (0, .ref a0), (1, .int x0)] [] [(a0, .inr (10, [.int 0, .ref a1, .ref a6, .ref a7, .ref a8, .ref a9, .int 0, .int 0, .int 0, .int 0, .int 0, .long 0, .int 0, .int 0, .int 0, .int (-1), .ref a2, .ref a3, .ref a4, .ref a5, .ref a10, .ref a11, .ref a12, .ref a13, .int 0, .ref a14, .ref a15, .ref a16, .ref a17, .int 0, .int 0, .int 0, .ref a18, .ref a19, .int 0, .int 0, .ref a20, .ref a21, .ref a22, .int 0, .int 0, .int 0, .int 0, .ref a23, .ref a24, .ref a25, .int 0])), (a1, .inl (E.2.2 0, 4, .inl f0)), (a2, .inl (E.2.2 0, 5, .inl (fun _ => 0))), (a3, .inl (E.2.2 0, 25, .inl (fun _ => 0))), (a4, .inl (E.2.2 0, 180, .inl (fun _ => 0))), (a5, .inl (E.2.2 3, 3000, .inl (fun _ => 0)))] 0 0
          refine mp_run hF mp_tabX10_ok [mp_i (.iload_n 2), mp_i (.aload_n 0), mp_h (.getfield 40) [19, 0], mp_i (.iload_n 3), mp_h .baload [5, 0], mp_h (.ifCond .eq 7) [143]] (by decide +kernel) ?_
          refine And.intro rfl (And.intro rfl ?_)
          refine And.intro rfl (And.intro rfl (And.intro (vp_in_iff.mpr (by omega)) ?_))
          intro z34 h35
          obtain rfl : z34 = 0 := h35
          refine And.intro (fun _ => ?_) (fun c36 => absurd c36 (by decide))
          show mp_W E X 4 143 [(3, .int i29), (2, .int 0), (0, .ref a0), (1, .int x0)] [.int 0] [(a0, .inr (10, [.int 0, .ref a1, .ref a6, .ref a7, .ref a8, .ref a9, .int 0, .int 0, .int 0, .int 0, .int 0, .long 0, .int 0, .int 0, .int 0, .int (-1), .ref a2, .ref a3, .ref a4, .ref a5, .ref a10, .ref a11, .ref a12, .ref a13, .int 0, .ref a14, .ref a15, .ref a16, .ref a17, .int 0, .int 0, .int 0, .ref a18, .ref a19, .int 0, .int 0, .ref a20, .ref a21, .ref a22, .int 0, .int 0, .int 0, .int 0, .ref a23, .ref a24, .ref a25, .int 0])), (a1, .inl (E.2.2 0, 4, .inl f0)), (a2, .inl (E.2.2 0, 5, .inl (fun _ => 0))), (a3, .inl (E.2.2 0, 25, .inl (fun _ => 0))), (a4, .inl (E.2.2 0, 180, .inl (fun _ => 0))), (a5, .inl (E.2.2 3, 3000, .inl (fun _ => 0)))] 0 0
          refine mp_run hF mp_tabX10_ok [mp_c (.iconst 0) 0, mp_i .iadd, mp_i (.istore_n 2), mp_c (.iinc 3 1) 1, mp_h (.goto (-27)) [122]] (by decide +kernel) ?_
          intro z37 h38
          obtain rfl : z37 = 0 := h38.trans (by decide)
          intro z39 h40
          have e41 : z39.toInt = i29.toInt + 1 := mp_add (a := i29.toInt) (b := 1) h40 rfl (by decide) (by omega) (by omega)
          show mp_W E X 4 122 [(3, .int z39), (2, .int 0), (0, .ref a0), (1, .int x0)] [] [(a0, .inr (10, [.int 0, .ref a1, .ref a6, .ref a7, .ref a8, .ref a9, .int 0, .int 0, .int 0, .int 0, .int 0, .long 0, .int 0, .int 0, .int 0, .int (-1), .ref a2, .ref a3, .ref a4, .ref a5, .ref a10, .ref a11, .ref a12, .ref a13, .int 0, .ref a14, .ref a15, .ref a16, .ref a17, .int 0, .int 0, .int 0, .ref a18, .ref a19, .int 0, .int 0, .ref a20, .ref a21, .ref a22, .int 0, .int 0, .int 0, .int 0, .ref a23, .ref a24, .ref a25, .int 0])), (a1, .inl (E.2.2 0, 4, .inl f0)), (a2, .inl (E.2.2 0, 5, .inl (fun _ => 0))), (a3, .inl (E.2.2 0, 25, .inl (fun _ => 0))), (a4, .inl (E.2.2 0, 180, .inl (fun _ => 0))), (a5, .inl (E.2.2 3, 3000, .inl (fun _ => 0)))] 0 0
          exact mp_sub [0, 1, 2, 3] rfl [0, 1, 2, 3, 4, 5] rfl rfl (ih28 z39  (by omega) (by omega))
    exact mp_sub [0, 1, 2, 3] rfl [0, 1, 2, 3, 4, 5] rfl rfl (lp26 600 0  (by decide) (by decide))
  · refine mp_tabIn hF (dflt := 205) (lo := 0) (hi := 9) (offs := #[56, 63, 70, 77, 112, 146, 153, 160, 165, 172]) (len := 56) (off := 146) (tgt := 154) (by decide +kernel) (by omega) (by omega) (by rw [c1]; rfl) (by decide) ?_
    show mp_W E X 4 154 [(2, .int 0), (0, .ref a0), (1, .int x0)] [] [(a0, .inr (10, [.int 0, .ref a1, .ref a6, .ref a7, .ref a8, .ref a9, .int 0, .int 0, .int 0, .int 0, .int 0, .long 0, .int 0, .int 0, .int 0, .int (-1), .ref a2, .ref a3, .ref a4, .ref a5, .ref a10, .ref a11, .ref a12, .ref a13, .int 0, .ref a14, .ref a15, .ref a16, .ref a17, .int 0, .int 0, .int 0, .ref a18, .ref a19, .int 0, .int 0, .ref a20, .ref a21, .ref a22, .int 0, .int 0, .int 0, .int 0, .ref a23, .ref a24, .ref a25, .int 0])), (a1, .inl (E.2.2 0, 4, .inl f0)), (a2, .inl (E.2.2 0, 5, .inl (fun _ => 0))), (a3, .inl (E.2.2 0, 25, .inl (fun _ => 0))), (a4, .inl (E.2.2 0, 180, .inl (fun _ => 0))), (a5, .inl (E.2.2 3, 3000, .inl (fun _ => 0)))] 0 0
    refine mp_run hF mp_tabX10_ok [mp_i (.aload_n 0), mp_h (.getfield 34) [17, 0], mp_c (.iconst 4) 4, mp_h .iaload [3]] (by decide +kernel) ?_
    refine And.intro rfl (And.intro rfl ?_)
    refine And.intro rfl (And.intro rfl (And.intro (vp_in_iff.mpr (by decide)) ?_))
    intro z42 h43
    obtain rfl : z42 = 0 := h43
    show mp_W E X 4 160 [(2, .int 0), (0, .ref a0), (1, .int x0)] [.int 0] [(a0, .inr (10, [.int 0, .ref a1, .ref a6, .ref a7, .ref a8, .ref a9, .int 0, .int 0, .int 0, .int 0, .int 0, .long 0, .int 0, .int 0, .int 0, .int (-1), .ref a2, .ref a3, .ref a4, .ref a5, .ref a10, .ref a11, .ref a12, .ref a13, .int 0, .ref a14, .ref a15, .ref a16, .ref a17, .int 0, .int 0, .int 0, .ref a18, .ref a19, .int 0, .int 0, .ref a20, .ref a21, .ref a22, .int 0, .int 0, .int 0, .int 0, .ref a23, .ref a24, .ref a25, .int 0])), (a1, .inl (E.2.2 0, 4, .inl f0)), (a2, .inl (E.2.2 0, 5, .inl (fun _ => 0))), (a3, .inl (E.2.2 0, 25, .inl (fun _ => 0))), (a4, .inl (E.2.2 0, 180, .inl (fun _ => 0))), (a5, .inl (E.2.2 3, 3000, .inl (fun _ => 0)))] 0 0
    exact mp_iret hF hQ rfl rfl (Nat.le_of_ble_eq_true rfl) (Nat.le_of_ble_eq_true rfl) [] (w' := []) rfl rfl (Or.inr (Or.inr (Or.inr (Or.inr (Or.inr (Or.inr (Or.inr (Or.inl ⟨rfl, (by first | omega | decide), rfl⟩)))))))) (by decide +kernel)
  · refine mp_tabIn hF (dflt := 205) (lo := 0) (hi := 9) (offs := #[56, 63, 70, 77, 112, 146, 153, 160, 165, 172]) (len := 56) (off := 153) (tgt := 161) (by decide +kernel) (by omega) (by omega) (by rw [c1]; rfl) (by decide) ?_
    show mp_W E X 4 161 [(2, .int 0), (0, .ref a0), (1, .int x0)] [] [(a0, .inr (10, [.int 0, .ref a1, .ref a6, .ref a7, .ref a8, .ref a9, .int 0, .int 0, .int 0, .int 0, .int 0, .long 0, .int 0, .int 0, .int 0, .int (-1), .ref a2, .ref a3, .ref a4, .ref a5, .ref a10, .ref a11, .ref a12, .ref a13, .int 0, .ref a14, .ref a15, .ref a16, .ref a17, .int 0, .int 0, .int 0, .ref a18, .ref a19, .int 0, .int 0, .ref a20, .ref a21, .ref a22, .int 0, .int 0, .int 0, .int 0, .ref a23, .ref a24, .ref a25, .int 0])), (a1, .inl (E.2.2 0, 4, .inl f0)), (a2, .inl (E.2.2 0, 5, .inl (fun _ => 0))), (a3, .inl (E.2.2 0, 25, .inl (fun _ => 0))), (a4, .inl (E.2.2 0, 180, .inl (fun _ => 0))), (a5, .inl (E.2.2 3, 3000, .inl (fun _ => 0)))] 0 0
    refine mp_run hF mp_tabX10_ok [mp_i (.aload_n 0), mp_h (.getfield 31) [16, 0], mp_c (.iconst 0) 0, mp_h .iaload [2]] (by decide +kernel) ?_
    refine And.intro rfl (And.intro rfl ?_)
    refine And.intro rfl (And.intro rfl (And.intro (vp_in_iff.mpr (by decide)) ?_))
    intro z44 h45
    obtain rfl : z44 = 0 := h45
    show mp_W E X 4 167 [(2, .int 0), (0, .ref a0), (1, .int x0)] [.int 0] [(a0, .inr (10, [.int 0, .ref a1, .ref a6, .ref a7, .ref a8, .ref a9, .int 0, .int 0, .int 0, .int 0, .int 0, .long 0, .int 0, .int 0, .int 0, .int (-1), .ref a2, .ref a3, .ref a4, .ref a5, .ref a10, .ref a11, .ref a12, .ref a13, .int 0, .ref a14, .ref a15, .ref a16, .ref a17, .int 0, .int 0, .int 0, .ref a18, .ref a19, .int 0, .int 0, .ref a20, .ref a21, .ref a22, .int 0, .int 0, .int 0, .int 0, .ref a23, .ref a24, .ref a25, .int 0])), (a1, .inl (E.2.2 0, 4, .inl f0)), (a2, .inl (E.2.2 0, 5, .inl (fun _ => 0))), (a3, .inl (E.2.2 0, 25, .inl (fun _ => 0))), (a4, .inl (E.2.2 0, 180, .inl (fun _ => 0))), (a5, .inl (E.2.2 3, 3000, .inl (fun _ => 0)))] 0 0
    exact mp_iret hF hQ rfl rfl (Nat.le_of_ble_eq_true rfl) (Nat.le_of_ble_eq_true rfl) [] (w' := []) rfl rfl (Or.inr (Or.inr (Or.inr (Or.inr (Or.inr (Or.inr (Or.inr (Or.inr (Or.inl ⟨rfl, (by first | omega | decide), rfl⟩))))))))) (by decide +kernel)
  · refine mp_tabIn hF (dflt := 205) (lo := 0) (hi := 9) (offs := #[56, 63, 70, 77, 112, 146, 153, 160, 165, 172]) (len := 56) (off := 160) (tgt := 168) (by decide +kernel) (by omega) (by omega) (by rw [c1]; rfl) (by decide) ?_
    show mp_W E X 4 168 [(2, .int 0), (0, .ref a0), (1, .int x0)] [] [(a0, .inr (10, [.int 0, .ref a1, .ref a6, .ref a7, .ref a8, .ref a9, .int 0, .int 0, .int 0, .int 0, .int 0, .long 0, .int 0, .int 0, .int 0, .int (-1), .ref a2, .ref a3, .ref a4, .ref a5, .ref a10, .ref a11, .ref a12, .ref a13, .int 0, .ref a14, .ref a15, .ref a16, .ref a17, .int 0, .int 0, .int 0, .ref a18, .ref a19, .int 0, .int 0, .ref a20, .ref a21, .ref a22, .int 0, .int 0, .int 0, .int 0, .ref a23, .ref a24, .ref a25, .int 0])), (a1, .inl (E.2.2 0, 4, .inl f0)), (a2, .inl (E.2.2 0, 5, .inl (fun _ => 0))), (a3, .inl (E.2.2 0, 25, .inl (fun _ => 0))), (a4, .inl (E.2.2 0, 180, .inl (fun _ => 0))), (a5, .inl (E.2.2 3, 3000, .inl (fun _ => 0)))] 0 0
    refine mp_run hF mp_tabX10_ok [mp_i (.aload_n 0), mp_h (.getfield 109) [6, 0]] (by decide +kernel) ?_
    refine And.intro rfl (And.intro rfl ?_)
    show mp_W E X 4 172 [(2, .int 0), (0, .ref a0), (1, .int x0)] [.int 0] [(a0, .inr (10, [.int 0, .ref a1, .ref a6, .ref a7, .ref a8, .ref a9, .int 0, .int 0, .int 0, .int 0, .int 0, .long 0, .int 0, .int 0, .int 0, .int (-1), .ref a2, .ref a3, .ref a4, .ref a5, .ref a10, .ref a11, .ref a12, .ref a13, .int 0, .ref a14, .ref a15, .ref a16, .ref a17, .int 0, .int 0, .int 0, .ref a18, .ref a19, .int 0, .int 0, .ref a20, .ref a21, .ref a22, .int 0, .int 0, .int 0, .int 0, .ref a23, .ref a24, .ref a25, .int 0])), (a1, .inl (E.2.2 0, 4, .inl f0)), (a2, .inl (E.2.2 0, 5, .inl (fun _ => 0))), (a3, .inl (E.2.2 0, 25, .inl (fun _ => 0))), (a4, .inl (E.2.2 0, 180, .inl (fun _ => 0))), (a5, .inl (E.2.2 3, 3000, .inl (fun _ => 0)))] 0 0
    exact mp_iret hF hQ rfl rfl (Nat.le_of_ble_eq_true rfl) (Nat.le_of_ble_eq_true rfl) [] (w' := []) rfl rfl (Or.inr (Or.inr (Or.inr (Or.inr (Or.inr (Or.inr (Or.inr (Or.inr (Or.inr (Or.inl ⟨rfl, (by first | omega | decide), rfl⟩)))))))))) (by decide +kernel)
  · refine mp_tabIn hF (dflt := 205) (lo := 0) (hi := 9) (offs := #[56, 63, 70, 77, 112, 146, 153, 160, 165, 172]) (len := 56) (off := 165) (tgt := 173) (by decide +kernel) (by omega) (by omega) (by rw [c1]; rfl) (by decide) ?_
    show mp_W E X 4 173 [(2, .int 0), (0, .ref a0), (1, .int x0)] [] [(a0, .inr (10, [.int 0, .ref a1, .ref a6, .ref a7, .ref a8, .ref a9, .int 0, .int 0, .int 0, .int 0, .int 0, .long 0, .int 0, .int 0, .int 0, .int (-1), .ref a2, .ref a3, .ref a4, .ref a5, .ref a10, .ref a11, .ref a12, .ref a13, .int 0, .ref a14, .ref a15, .ref a16, .ref a17, .int 0, .int 0, .int 0, .ref a18, .ref a19, .int 0, .int 0, .ref a20, .ref a21, .ref a22, .int 0, .int 0, .int 0, .int 0, .ref a23, .ref a24, .ref a25, .int 0])), (a1, .inl (E.2.2 0, 4, .inl f0)), (a2, .inl (E.2.2 0, 5, .inl (fun _ => 0))), (a3, .inl (E.2.2 0, 25, .inl (fun _ => 0))), (a4, .inl (E.2.2 0, 180, .inl (fun _ => 0))), (a5, .inl (E.2.2 3, 3000, .inl (fun _ => 0)))] 0 0
    refine mp_run hF mp_tabX10_ok [mp_i (.aload_n 0), mp_h (.getfield 34) [17, 0], mp_c (.iconst 1) 1, mp_h .iaload [3]] (by decide +kernel) ?_
    refine And.intro rfl (And.intro rfl ?_)
    refine And.intro rfl (And.intro rfl (And.intro (vp_in_iff.mpr (by decide)) ?_))
    intro z46 h47
    obtain rfl : z46 = 0 := h47
    show mp_W E X 4 179 [(2, .int 0), (0, .ref a0), (1, .int x0)] [.int 0] [(a0, .inr (10, [.int 0, .ref a1, .ref a6, .ref a7, .ref a8, .ref a9, .int 0, .int 0, .int 0, .int 0, .int 0, .long 0, .int 0, .int 0, .int 0, .int (-1), .ref a2, .ref a3, .ref a4, .ref a5, .ref a10, .ref a11, .ref a12, .ref a13, .int 0, .ref a14, .ref a15, .ref a16, .ref a17, .int 0, .int 0, .int 0, .ref a18, .ref a19, .int 0, .int 0, .ref a20, .ref a21, .ref a22, .int 0, .int 0, .int 0, .int 0, .ref a23, .ref a24, .ref a25, .int 0])), (a1, .inl (E.2.2 0, 4, .inl f0)), (a2, .inl (E.2.2 0, 5, .inl (fun _ => 0))), (a3, .inl (E.2.2 0, 25, .inl (fun _ => 0))), (a4, .inl (E.2.2 0, 180, .inl (fun _ => 0))), (a5, .inl (E.2.2 3, 3000, .inl (fun _ => 0)))] 0 0
    exact mp_iret hF hQ rfl rfl (Nat.le_of_ble_eq_true rfl) (Nat.le_of_ble_eq_true rfl) [] (w' := []) rfl rfl (Or.inr (Or.inr (Or.inr (Or.inr (Or.inr (Or.inr (Or.inr (Or.inr (Or.inr (Or.inr (Or.inl ⟨rfl, (by first | omega | decide), rfl⟩))))))))))) (by decide +kernel)
  · refine mp_tabIn hF (dflt := 205) (lo := 0) (hi := 9) (offs := #[56, 63, 70, 77, 112, 146, 153, 160, 165, 172]) (len := 56) (off := 172) (tgt := 180) (by decide +kernel) (by omega) (by omega) (by rw [c1]; rfl) (by decide) ?_
    show mp_W E X 4 180 [(2, .int 0), (0, .ref a0), (1, .int x0)] [] [(a0, .inr (10, [.int 0, .ref a1, .ref a6, .ref a7, .ref a8, .ref a9, .int 0, .int 0, .int 0, .int 0, .int 0, .long 0, .int 0, .int 0, .int 0, .int (-1), .ref a2, .ref a3, .ref a4, .ref a5, .ref a10, .ref a11, .ref a12, .ref a13, .int 0, .ref a14, .ref a15, .ref a16, .ref a17, .int 0, .int 0, .int 0, .ref a18, .ref a19, .int 0, .int 0, .ref a20, .ref a21, .ref a22, .int 0, .int 0, .int 0, .int 0, .ref a23, .ref a24, .ref a25, .int 0])), (a1, .inl (E.2.2 0, 4, .inl f0)), (a2, .inl (E.2.2 0, 5, .inl (fun _ => 0))), (a3, .inl (E.2.2 0, 25, .inl (fun _ => 0))), (a4, .inl (E.2.2 0, 180, .inl (fun _ => 0))), (a5, .inl (E.2.2 3, 3000, .inl (fun _ => 0)))] 0 0
    refine mp_run hF mp_tabX10_ok [mp_c (.iconst 0) 0, mp_i (.istore_n 3), mp_i (.iload_n 3), mp_c (.iconst 4) 4, mp_h (.if_icmp .ge 27) [211]] (by decide +kernel) ?_
    refine And.intro (fun c48 => absurd c48 (by decide)) (fun _ => ?_)
    show mp_W E X 4 187 [(3, .int 0), (2, .int 0), (0, .ref a0), (1, .int x0)] [] [(a0, .inr (10, [.int 0, .ref a1, .ref a6, .ref a7, .ref a8, .ref a9, .int 0, .int 0, .int 0, .int 0, .int 0, .long 0, .int 0, .int 0, .int 0, .int (-1), .ref a2, .ref a3, .ref a4, .ref a5, .ref a10, .ref a11, .ref a12, .ref a13, .int 0, .ref a14, .ref a15, .ref a16, .ref a17, .int 0, .int 0, .int 0, .ref a18, .ref a19, .int 0, .int 0, .ref a20, .ref a21, .ref a22, .int 0, .int 0, .int 0, .int 0, .ref a23, .ref a24, .ref a25, .int 0])), (a1, .inl (E.2.2 0, 4, .inl f0)), (a2, .inl (E.2.2 0, 5, .inl (fun _ => 0))), (a3, .inl (E.2.2 0, 25, .inl (fun _ => 0))), (a4, .inl (E.2.2 0, 180, .inl (fun _ => 0))), (a5, .inl (E.2.2 3, 3000, .inl (fun _ => 0)))] 0 0
    refine mp_run hF mp_tabX10_ok [mp_i (.iload_n 2), mp_i (.aload_n 0), mp_h (.getfield 7) [1, 0], mp_i (.iload_n 3), mp_h .iaload [1], mp_c (.iconst (-1)) (-1), mp_h (.if_icmp .ne 7) [202]] (by decide +kernel) ?_
    refine And.intro rfl (And.intro rfl ?_)
    refine And.intro rfl (And.intro rfl (And.intro (vp_in_iff.mpr (by decide)) ?_))
    intro z49 h50
    obtain rfl : z49 = (-1) := mp_at h50 (by decide) (p0 0 (by decide))
    refine And.intro (fun c51 => absurd c51 (by decide)) (fun _ => ?_)
    show mp_W E X 4 198 [(3, .int 0), (2, .int 0), (0, .ref a0), (1, .int x0)] [.int 0] [(a0, .inr (10, [.int 0, .ref a1, .ref a6, .ref a7, .ref a8, .ref a9, .int 0, .int 0, .int 0, .int 0, .int 0, .long 0, .int 0, .int 0, .int 0, .int (-1), .ref a2, .ref a3, .ref a4, .ref a5, .ref a10, .ref a11, .ref a12, .ref a13, .int 0, .ref a14, .ref a15, .ref a16, .ref a17, .int 0, .int 0, .int 0, .ref a18, .ref a19, .int 0, .int 0, .ref a20, .ref a21, .ref a22, .int 0, .int 0, .int 0, .int 0, .ref a23, .ref a24, .ref a25, .int 0])), (a1, .inl (E.2.2 0, 4, .inl f0)), (a2, .inl (E.2.2 0, 5, .inl (fun _ => 0))), (a3, .inl (E.2.2 0, 25, .inl (fun _ => 0))), (a4, .inl (E.2.2 0, 180, .inl (fun _ => 0))), (a5, .inl (E.2.2 3, 3000, .inl (fun _ => 0)))] 0 0
    refine mp_run hF mp_tabX10_ok [mp_c (.iconst 0) 0, mp_h (.goto 4) [203], mp_i .iadd, mp_i (.istore_n 2), mp_c (.iinc 3 1) 1, mp_h (.goto (-26)) [182], mp_i (.iload_n 3), mp_c (.iconst 4) 4, mp_h (.if_icmp .ge 27) [211]] (by decide +kernel) ?_
    intro z52 h53
    obtain rfl : z52 = 0 := h53.trans (by decide)
    intro z54 h55
    obtain rfl : z54 = 1 := h55.trans (by decide)
    refine And.intro (fun c56 => absurd c56 (by decide)) (fun _ => ?_)
    show mp_W E X 4 187 [(3, .int 1), (2, .int 0), (0, .ref a0), (1, .int x0)] [] [(a0, .inr (10, [.int 0, .ref a1, .ref a6, .ref a7, .ref a8, .ref a9, .int 0, .int 0, .int 0, .int 0, .int 0, .long 0, .int 0, .int 0, .int 0, .int (-1), .ref a2, .ref a3, .ref a4, .ref a5, .ref a10, .ref a11, .ref a12, .ref a13, .int 0, .ref a14, .ref a15, .ref a16, .ref a17, .int 0, .int 0, .int 0, .ref a18, .ref a19, .int 0, .int 0, .ref a20, .ref a21, .ref a22, .int 0, .int 0, .int 0, .int 0, .ref a23, .ref a24, .ref a25, .int 0])), (a1, .inl (E.2.2 0, 4, .inl f0)), (a2, .inl (E.2.2 0, 5, .inl (fun _ => 0))), (a3, .inl (E.2.2 0, 25, .inl (fun _ => 0))), (a4, .inl (E.2.2 0, 180, .inl (fun _ => 0))), (a5, .inl (E.2.2 3, 3000, .inl (fun _ => 0)))] 0 0
    refine mp_run hF mp_tabX10_ok [mp_i (.iload_n 2), mp_i (.aload_n 0), mp_h (.getfield 7) [1, 0], mp_i (.iload_n 3), mp_h .iaload [1], mp_c (.iconst (-1)) (-1), mp_h (.if_icmp .ne 7) [202]] (by decide +kernel) ?_
    refine And.intro rfl (And.intro rfl ?_)
    refine And.intro rfl (And.intro rfl (And.intro (vp_in_iff.mpr (by decide)) ?_))
    intro z57 h58
    obtain rfl : z57 = (-1) := mp_at h58 (by decide) (p0 1 (by decide))
    refine And.intro (fun c59 => absurd c59 (by decide)) (fun _ => ?_)
    show mp_W E X 4 198 [(3, .int 1), (2, .int 0), (0, .ref a0), (1, .int x0)] [.int 0] [(a0, .inr (10, [.int 0, .ref a1, .ref a6, .ref a7, .ref a8, .ref a9, .int 0, .int 0, .int 0, .int 0, .int 0, .long 0, .int 0, .int 0, .int 0, .int (-1), .ref a2, .ref a3, .ref a4, .ref a5, .ref a10, .ref a11, .ref a12, .ref a13, .int 0, .ref a14, .ref a15, .ref a16, .ref a17, .int 0, .int 0, .int 0, .ref a18, .ref a19, .int 0, .int 0, .ref a20, .ref a21, .ref a22, .int 0, .int 0, .int 0, .int 0, .ref a23, .ref a24, .ref a25, .int 0])), (a1, .inl (E.2.2 0, 4, .inl f0)), (a2, .inl (E.2.2 0, 5, .inl (fun _ => 0))), (a3, .inl (E.2.2 0, 25, .inl (fun _ => 0))), (a4, .inl (E.2.2 0, 180, .inl (fun _ => 0))), (a5, .inl (E.2.2 3, 3000, .inl (fun _ => 0)))] 0 0
    refine mp_run hF mp_tabX10_ok [mp_c (.iconst 0) 0, mp_h (.goto 4) [203], mp_i .iadd, mp_i (.istore_n 2), mp_c (.iinc 3 1) 1, mp_h (.goto (-26)) [182], mp_i (.iload_n 3), mp_c (.iconst 4) 4, mp_h (.if_icmp .ge 27) [211]] (by decide +kernel) ?_
    intro z60 h61
    obtain rfl : z60 = 0 := h61.trans (by decide)
    intro z62 h63
    obtain rfl : z62 = 2 := h63.trans (by decide)
    refine And.intro (fun c64 => absurd c64 (by decide)) (fun _ => ?_)
    show mp_W E X 4 187 [(3, .int 2), (2, .int 0), (0, .ref a0), (1, .int x0)] [] [(a0, .inr (10, [.int 0, .ref a1, .ref a6, .ref a7, .ref a8, .ref a9, .int 0, .int 0, .int 0, .int 0, .int 0, .long 0, .int 0, .int 0, .int 0, .int (-1), .ref a2, .ref a3, .ref a4, .ref a5, .ref a10, .ref a11, .ref a12, .ref a13, .int 0, .ref a14, .ref a15, .ref a16, .ref a17, .int 0, .int 0, .int 0, .ref a18, .ref a19, .int 0, .int 0, .ref a20, .ref a21, .ref a22, .int 0, .int 0, .int 0, .int 0, .ref a23, .ref a24, .ref a25, .int 0])), (a1, .inl (E.2.2 0, 4, .inl f0)), (a2, .inl (E.2.2 0, 5, .inl (fun _ => 0))), (a3, .inl (E.2.2 0, 25, .inl (fun _ => 0))), (a4, .inl (E.2.2 0, 180, .inl (fun _ => 0))), (a5, .inl (E.2.2 3, 3000, .inl (fun _ => 0)))] 0 0
    refine mp_run hF mp_tabX10_ok [mp_i (.iload_n 2), mp_i (.aload_n 0), mp_h (.getfield 7) [1, 0], mp_i (.iload_n 3), mp_h .iaload [1], mp_c (.iconst (-1)) (-1), mp_h (.if_icmp .ne 7) [202]] (by decide +kernel) ?_
    refine And.intro rfl (And.intro rfl ?_)
    refine And.intro rfl (And.intro rfl (And.intro (vp_in_iff.mpr (by decide)) ?_))
    intro z65 h66
    obtain rfl : z65 = (-1) := mp_at h66 (by decide) (p0 2 (by decide))
    refine And.intro (fun c67 => absurd c67 (by decide)) (fun _ => ?_)
    show mp_W E X 4 198 [(3, .int 2), (2, .int 0), (0, .ref a0), (1, .int x0)] [.int 0] [(a0, .inr (10, [.int 0, .ref a1, .ref a6, .ref a7, .ref a8, .ref a9, .int 0, .int 0, .int 0, .int 0, .int 0, .long 0, .int 0, .int 0, .int 0, .int (-1), .ref a2, .ref a3, .ref a4, .ref a5, .ref a10, .ref a11, .ref a12, .ref a13, .int 0, .ref a14, .ref a15, .ref a16, .ref a17, .int 0, .int 0, .int 0, .ref a18, .ref a19, .int 0, .int 0, .ref a20, .ref a21, .ref a22, .int 0, .int 0, .int 0, .int 0, .ref a23, .ref a24, .ref a25, .int 0])), (a1, .inl (E.2.2 0, 4, .inl f0)), (a2, .inl (E.2.2 0, 5, .inl (fun _ => 0))), (a3, .inl (E.2.2 0, 25, .inl (fun _ => 0))), (a4, .inl (E.2.2 0, 180, .inl (fun _ => 0))), (a5, .inl (E.2.2 3, 3000, .inl (fun _ => 0)))] 0 0
    refine mp_run hF mp_tabX10_ok [mp_c (.iconst 0) 0, mp_h (.goto 4) [203], mp_i .iadd, mp_i (.istore_n 2), mp_c (.iinc 3 1) 1, mp_h (.goto (-26)) [182], mp_i (.iload_n 3), mp_c (.iconst 4) 4, mp_h (.if_icmp .ge 27) [211]] (by decide +kernel) ?_
    intro z68 h69
    obtain rfl : z68 = 0 := h69.trans (by decide)
    intro z70 h71
    obtain rfl : z70 = 3 := h71.trans (by decide)
    refine And.intro (fun c72 => absurd c72 (by decide)) (fun _ => ?_)
    show mp_W E X 4 187 [(3, .int 3), (2, .int 0), (0, .ref a0), (1, .int x0)] [] [(a0, .inr (10, [.int 0, .ref a1, .ref a6, .ref a7, .ref a8, .ref a9, .int 0, .int 0, .int 0, .int 0, .int 0, .long 0, .int 0, .int 0, .int 0, .int (-1), .ref a2, .ref a3, .ref a4, .ref a5, .ref a10, .ref a11, .ref a12, .ref a13, .int 0, .ref a14, .ref a15, .ref a16, .ref a17, .int 0, .int 0, .int 0, .ref a18, .ref a19, .int 0, .int 0, .ref a20, .ref a21, .ref a22, .int 0, .int 0, .int 0, .int 0, .ref a23, .ref a24, .ref a25, .int 0])), (a1, .inl (E.2.2 0, 4, .inl f0)), (a2, .inl (E.2.2 0, 5, .inl (fun _ => 0))), (a3, .inl (E.2.2 0, 25, .inl (fun _ => 0))), (a4, .inl (E.2.2 0, 180, .inl (fun _ => 0))), (a5, .inl (E.2.2 3, 3000, .inl (fun _ => 0)))] 0 0
    refine mp_run hF mp_tabX10_ok [mp_i (.iload_n 2), mp_i (.aload_n 0), mp_h (.getfield 7) [1, 0], mp_i (.iload_n 3), mp_h .iaload [1], mp_c (.iconst (-1)) (-1), mp_h (.if_icmp .ne 7) [202]] (by decide +kernel) ?_
    refine And.intro rfl (And.intro rfl ?_)
    refine And.intro rfl (And.intro rfl (And.intro (vp_in_iff.mpr (by decide)) ?_))
    intro z73 h74
    obtain rfl : z73 = (-1) := mp_at h74 (by decide) (p0 3 (by decide))
    refine And.intro (fun c75 => absurd c75 (by decide)) (fun _ => ?_)
    show mp_W E X 4 198 [(3, .int 3), (2, .int 0), (0, .ref a0), (1, .int x0)] [.int 0] [(a0, .inr (10, [.int 0, .ref a1, .ref a6, .ref a7, .ref a8, .ref a9, .int 0, .int 0, .int 0, .int 0, .int 0, .long 0, .int 0, .int 0, .int 0, .int (-1), .ref a2, .ref a3, .ref a4, .ref a5, .ref a10, .ref a11, .ref a12, .ref a13, .int 0, .ref a14, .ref a15, .ref a16, .ref a17, .int 0, .int 0, .int 0, .ref a18, .ref a19, .int 0, .int 0, .ref a20, .ref a21, .ref a22, .int 0, .int 0, .int 0, .int 0, .ref a23, .ref a24, .ref a25, .int 0])), (a1, .inl (E.2.2 0, 4, .inl f0)), (a2, .inl (E.2.2 0, 5, .inl (fun _ => 0))), (a3, .inl (E.2.2 0, 25, .inl (fun _ => 0))), (a4, .inl (E.2.2 0, 180, .inl (fun _ => 0))), (a5, .inl (E.2.2 3, 3000, .inl (fun _ => 0)))] 0 0
    refine mp_run hF mp_tabX10_ok [mp_c (.iconst 0) 0, mp_h (.goto 4) [203], mp_i .iadd, mp_i (.istore_n 2), mp_c (.iinc 3 1) 1, mp_h (.goto (-26)) [182], mp_i (.iload_n 3), mp_c (.iconst 4) 4, mp_h (.if_icmp .ge 27) [211]] (by decide +kernel) ?_
    intro z76 h77
    obtain rfl : z76 = 0 := h77.trans (by decide)
    intro z78 h79
    obtain rfl : z78 = 4 := h79.trans (by decide)
    refine And.intro (fun _ => ?_) (fun c80 => absurd c80 (by decide))
    show mp_W E X 4 211 [(3, .int 4), (2, .int 0), (0, .ref a0), (1, .int x0)] [] [(a0, .inr (10, [.int 0, .ref a1, .ref a6, .ref a7, .ref a8, .ref a9, .int 0, .int 0, .int 0, .int 0, .int 0, .long 0, .int 0, .int 0, .int 0, .int (-1), .ref a2, .ref a3, .ref a4, .ref a5, .ref a10, .ref a11, .ref a12, .ref a13, .int 0, .ref a14, .ref a15, .ref a16, .ref a17, .int 0, .int 0, .int 0, .ref a18, .ref a19, .int 0, .int 0, .ref a20, .ref a21, .ref a22, .int 0, .int 0, .int 0, .int 0, .ref a23, .ref a24, .ref a25, .int 0])), (a1, .inl (E.2.2 0, 4, .inl f0)), (a2, .inl (E.2.2 0, 5, .inl (fun _ => 0))), (a3, .inl (E.2.2 0, 25, .inl (fun _ => 0))), (a4, .inl (E.2.2 0, 180, .inl (fun _ => 0))), (a5, .inl (E.2.2 3, 3000, .inl (fun _ => 0)))] 0 0
    refine mp_run hF mp_tabX10_ok [mp_i (.iload_n 2)] (by decide +kernel) ?_
    show mp_W E X 4 212 [(3, .int 4), (2, .int 0), (0, .ref a0), (1, .int x0)] [.int 0] [(a0, .inr (10, [.int 0, .ref a1, .ref a6, .ref a7, .ref a8, .ref a9, .int 0, .int 0, .int 0, .int 0, .int 0, .long 0, .int 0, .int 0, .int 0, .int (-1), .ref a2, .ref a3, .ref a4, .ref a5, .ref a10, .ref a11, .ref a12, .ref a13, .int 0, .ref a14, .ref a15, .ref a16, .ref a17, .int 0, .int 0, .int 0, .ref a18, .ref a19, .int 0, .int 0, .ref a20, .ref a21, .ref a22, .int 0, .int 0, .int 0, .int 0, .ref a23, .ref a24, .ref a25, .int 0])), (a1, .inl (E.2.2 0, 4, .inl f0)), (a2, .inl (E.2.2 0, 5, .inl (fun _ => 0))), (a3, .inl (E.2.2 0, 25, .inl (fun _ => 0))), (a4, .inl (E.2.2 0, 180, .inl (fun _ => 0))), (a5, .inl (E.2.2 3, 3000, .inl (fun _ => 0)))] 0 0
    exact mp_iret hF hQ rfl rfl (Nat.le_of_ble_eq_true rfl) (Nat.le_of_ble_eq_true rfl) [] (w' := []) rfl rfl (Or.inr (Or.inr (Or.inr (Or.inr (Or.inr (Or.inr (Or.inr (Or.inr (Or.inr (Or.inr (Or.inr ⟨rfl, (by first | omega | decide), rfl⟩))))))))))) (by decide +kernel)
