set_option maxHeartbeats 4000000 in
set_option maxRecDepth 100000 in
theorem bX5_cut_179 (E : mp_E) (x0 : Int64) (x1 : Int32) : mp_Ct E yX5_cut cX5_cut 3 (some FieldType.long) 0 0 0 0 [.long x0, .int x1] [] (fun v w' => ∃ r1 : Int64, v = some (.long r1) ∧ w' = []) := by
  refine mp_met false (by decide) (by decide) (Nat.le_of_ble_eq_true rfl) (fun X hF hQ => ?_)
  have hF : mp_F E X (RX5, cX5_cut, 3, (0, 0, 0, 0), (some FieldType.long), false) := hF
  show mp_W E X 3 0 [(0, .long x0), (2, .int x1)] [] [] 0 0
  refine mp_run hF mp_tabX5_ok [mp_i (.iload_n 2)] (by decide +kernel) ?_
  show mp_W E X 3 1 [(0, .long x0), (2, .int x1)] [.int x1] [] 0 0
  rcases (show x1.toInt < 0 ∨ 2 < x1.toInt ∨ x1.toInt = 0 ∨ x1.toInt = 1 ∨ x1.toInt = 2 by omega) with c_1 | c_1 | c_1 | c_1 | c_1
  · refine mp_tabOut hF (dflt := 41) (lo := 0) (hi := 2) (offs := #[27, 32, 37]) (len := 27) (by decide +kernel) (Or.inl c_1) (tgt := 42) (by decide) ?_
    show mp_W E X 3 42 [(0, .long x0), (2, .int x1)] [] [] 0 0
    refine mp_run hF mp_tabX5_ok [mp_i (.lload_n 0)] (by decide +kernel) ?_
    show mp_W E X 3 43 [(0, .long x0), (2, .int x1)] [.long x0] [] 0 0
    exact mp_lret hF hQ rfl (Nat.le_of_ble_eq_true rfl) (Nat.le_of_ble_eq_true rfl) [] (w' := []) rfl rfl ⟨x0, rfl, rfl⟩ (by decide +kernel)
  · refine mp_tabOut hF (dflt := 41) (lo := 0) (hi := 2) (offs := #[27, 32, 37]) (len := 27) (by decide +kernel) (Or.inr c_1) (tgt := 42) (by decide) ?_
    show mp_W E X 3 42 [(0, .long x0), (2, .int x1)] [] [] 0 0
    refine mp_run hF mp_tabX5_ok [mp_i (.lload_n 0)] (by decide +kernel) ?_
    show mp_W E X 3 43 [(0, .long x0), (2, .int x1)] [.long x0] [] 0 0
    exact mp_lret hF hQ rfl (Nat.le_of_ble_eq_true rfl) (Nat.le_of_ble_eq_true rfl) [] (w' := []) rfl rfl ⟨x0, rfl, rfl⟩ (by decide +kernel)
  · refine mp_tabIn hF (dflt := 41) (lo := 0) (hi := 2) (offs := #[27, 32, 37]) (len := 27) (off := 27) (tgt := 28) (by decide +kernel) (by omega) (by omega) (by rw [c_1]; rfl) (by decide) ?_
    show mp_W E X 3 28 [(0, .long x0), (2, .int x1)] [] [] 0 0
    refine mp_run hF mp_tabX5_ok [mp_i (.lload_n 0), mp_i .l2i, mp_i .i2b, mp_i .i2l] (by decide +kernel) ?_
    intro z_2 h_3
    intro z_4 h_5
    intro z_6 h_7
    have e_8 : z_6.toInt = z_4.toInt := mp_i2l h_7
    show mp_W E X 3 32 [(0, .long x0), (2, .int x1)] [.long z_6] [] 0 0
    exact mp_lret hF hQ rfl (Nat.le_of_ble_eq_true rfl) (Nat.le_of_ble_eq_true rfl) [] (w' := []) rfl rfl ⟨z_6, rfl, rfl⟩ (by decide +kernel)
  · refine mp_tabIn hF (dflt := 41) (lo := 0) (hi := 2) (offs := #[27, 32, 37]) (len := 27) (off := 32) (tgt := 33) (by decide +kernel) (by omega) (by omega) (by rw [c_1]; rfl) (by decide) ?_
    show mp_W E X 3 33 [(0, .long x0), (2, .int x1)] [] [] 0 0
    refine mp_run hF mp_tabX5_ok [mp_i (.lload_n 0), mp_i .l2i, mp_i .i2s, mp_i .i2l] (by decide +kernel) ?_
    intro z_9 h_10
    intro z_11 h_12
    intro z_13 h_14
    have e_15 : z_13.toInt = z_11.toInt := mp_i2l h_14
    show mp_W E X 3 37 [(0, .long x0), (2, .int x1)] [.long z_13] [] 0 0
    exact mp_lret hF hQ rfl (Nat.le_of_ble_eq_true rfl) (Nat.le_of_ble_eq_true rfl) [] (w' := []) rfl rfl ⟨z_13, rfl, rfl⟩ (by decide +kernel)
  · refine mp_tabIn hF (dflt := 41) (lo := 0) (hi := 2) (offs := #[27, 32, 37]) (len := 27) (off := 37) (tgt := 38) (by decide +kernel) (by omega) (by omega) (by rw [c_1]; rfl) (by decide) ?_
    show mp_W E X 3 38 [(0, .long x0), (2, .int x1)] [] [] 0 0
    refine mp_run hF mp_tabX5_ok [mp_i (.lload_n 0), mp_i .l2i, mp_i .i2l] (by decide +kernel) ?_
    intro z_16 h_17
    intro z_18 h_19
    have e_20 : z_18.toInt = z_16.toInt := mp_i2l h_19
    show mp_W E X 3 41 [(0, .long x0), (2, .int x1)] [.long z_18] [] 0 0
    exact mp_lret hF hQ rfl (Nat.le_of_ble_eq_true rfl) (Nat.le_of_ble_eq_true rfl) [] (w' := []) rfl rfl ⟨z_18, rfl, rfl⟩ (by decide +kernel)
set_option maxHeartbeats 4000000 in
set_option maxRecDepth 100000 in
theorem bX5_put_180 (E : mp_E) (a0 a1 a2 a3 : Nat) (f0 : Nat → Int64) (f1 : Nat → Int32) (x0 : Int32) (x1 : Int32) (x2 : Int64) (l_x0 : 0 ≤ x0.toInt) (u_x0 : x0.toInt ≤ 3) (l_x1 : 0 ≤ x1.toInt) (u_x1 : x1.toInt ≤ 59) : mp_Ct E yX5_put cX5_put 5 none 1 0 0 22 [.ref a0, .int x0, .int x1, .long x2] [(a0, .inr (5, [.ref a1, .ref a2, .ref a3])), (a1, .inl (E.2.2 2, 240, .inr (.inl f0))), (a2, .inl (E.2.2 0, 4, .inl f1))] (fun v w' => ∃ h1 : Nat → Int64, v = none ∧ w' = [(a0, .inr (5, [.ref a1, .ref a2, .ref a3])), (a1, .inl (E.2.2 2, 240, .inr (.inl h1))), (a2, .inl (E.2.2 0, 4, .inl f1))]) := by
  refine mp_met false (by decide) (by decide) (Nat.le_of_ble_eq_true rfl) (fun X hF hQ => ?_)
  have hF : mp_F E X (RX5, cX5_put, 5, (1, 0, 0, 22), none, false) := hF
  show mp_W E X 5 0 [(0, .ref a0), (1, .int x0), (2, .int x1), (3, .long x2)] [] [(a0, .inr (5, [.ref a1, .ref a2, .ref a3])), (a1, .inl (E.2.2 2, 240, .inr (.inl f0))), (a2, .inl (E.2.2 0, 4, .inl f1))] 0 0
  refine mp_run hF mp_tabX5_ok [mp_i (.aload_n 0), mp_h (.getfield 9) [0, 0], mp_i (.iload_n 1), mp_c (.bipush 60) 60, mp_i .imul, mp_i (.iload_n 2), mp_i .iadd, mp_i (.lload_n 3), mp_i (.aload_n 0), mp_h (.getfield 15) [1, 0], mp_i (.iload_n 1), mp_h .iaload [2]] (by decide +kernel) ?_
  refine And.intro rfl (And.intro rfl ?_)
  intro z_1 h_2
  have e_3 : z_1.toInt = x0.toInt * 60 := mp_mul (a := x0.toInt) (b := 60) h_2 rfl (by decide) (by omega) (by omega)
  intro z_4 h_5
  have e_6 : z_4.toInt = z_1.toInt + x1.toInt := mp_add (a := z_1.toInt) (b := x1.toInt) h_5 rfl rfl (by omega) (by omega)
  refine And.intro rfl (And.intro rfl ?_)
  refine And.intro rfl (And.intro rfl (And.intro (vp_in_iff.mpr (by omega)) ?_))
  intro z_7 h_8
  show mp_W E X 5 17 [(0, .ref a0), (1, .int x0), (2, .int x1), (3, .long x2)] [.int z_7, .long x2, .int z_4, .ref a1] [(a0, .inr (5, [.ref a1, .ref a2, .ref a3])), (a1, .inl (E.2.2 2, 240, .inr (.inl f0))), (a2, .inl (E.2.2 0, 4, .inl f1))] 0 0
  refine mp_callS hF (As := [.long x2, .int z_7]) (rest := [.int z_4, .ref a1]) (wr := [(a0, .inr (5, [.ref a1, .ref a2, .ref a3])), (a1, .inl (E.2.2 2, 240, .inr (.inl f0))), (a2, .inl (E.2.2 0, 4, .inl f1))]) (bX5_cut_179 E x2 z_7) mp_lkX5_26 [] [0, 1, 2] rfl rfl rfl rfl rfl ⟨(Nat.le_of_ble_eq_true rfl), (Nat.le_of_ble_eq_true rfl), (Nat.le_of_ble_eq_true rfl), (Nat.le_of_ble_eq_true rfl)⟩ (Nat.le_of_ble_eq_true rfl) (by decide +kernel) (fun v_9 w_10 h_11 => ?_)
  obtain ⟨r_12, rfl, rfl⟩ := h_11
  show mp_W E X 5 20 [(0, .ref a0), (1, .int x0), (2, .int x1), (3, .long x2)] [.long r_12, .int z_4, .ref a1] [(a0, .inr (5, [.ref a1, .ref a2, .ref a3])), (a1, .inl (E.2.2 2, 240, .inr (.inl f0))), (a2, .inl (E.2.2 0, 4, .inl f1))] 0 0
  refine mp_run hF mp_tabX5_ok [mp_h .lastore [1]] (by decide +kernel) ?_
  refine And.intro rfl (And.intro rfl (And.intro (vp_in_iff.mpr (by omega)) ?_))
  intro g_13 h_14
  show mp_W E X 5 21 [(0, .ref a0), (1, .int x0), (2, .int x1), (3, .long x2)] [] [(a0, .inr (5, [.ref a1, .ref a2, .ref a3])), (a1, .inl (E.2.2 2, 240, .inr (.inl g_13))), (a2, .inl (E.2.2 0, 4, .inl f1))] 0 0
  exact mp_vret hF hQ rfl (Nat.le_of_ble_eq_true rfl) (Nat.le_of_ble_eq_true rfl) [0, 1, 2] (w' := [(a0, .inr (5, [.ref a1, .ref a2, .ref a3])), (a1, .inl (E.2.2 2, 240, .inr (.inl g_13))), (a2, .inl (E.2.2 0, 4, .inl f1))]) rfl rfl ⟨g_13, rfl, rfl⟩ (by decide +kernel)
set_option maxHeartbeats 4000000 in
set_option maxRecDepth 100000 in
theorem bX9_write_181 (E : mp_E) (a0 a1 a2 a3 a4 a5 a6 a7 a8 a9 a10 a11 a12 : Nat) (f0 : Nat → Int64) (f1 : Nat → Int32) (f2 : Nat → Int32) (x0 : Int32) (x1 : Int32) (x2 : Int64) (p0 : mp_all f2 4 (-1) 60) : mp_Ct E yX9_write cX9_write 5 (some FieldType.int) 2 0 0 46 [.ref a0, .int x0, .int x1, .long x2] [(a0, .inr (9, [.ref a5, .ref a6, .ref a7, .ref a8, .ref a9, .ref a10, .ref a11, .ref a12, .ref a1])), (a1, .inr (5, [.ref a2, .ref a3, .ref a4])), (a2, .inl (E.2.2 2, 240, .inr (.inl f0))), (a3, .inl (E.2.2 0, 4, .inl f1)), (a4, .inl (E.2.2 0, 4, .inl f2))] (fun v w' => ∃ h1 : Nat → Int64, ∃ r2 : Int32, v = some (.int r2) ∧ (-7) ≤ r2.toInt ∧ r2.toInt ≤ 0 ∧ w' = [(a0, .inr (9, [.ref a5, .ref a6, .ref a7, .ref a8, .ref a9, .ref a10, .ref a11, .ref a12, .ref a1])), (a1, .inr (5, [.ref a2, .ref a3, .ref a4])), (a2, .inl (E.2.2 2, 240, .inr (.inl h1))), (a3, .inl (E.2.2 0, 4, .inl f1)), (a4, .inl (E.2.2 0, 4, .inl f2))]) := by
  refine mp_met false (by decide) (by decide) (Nat.le_of_ble_eq_true rfl) (fun X hF hQ => ?_)
  have hF : mp_F E X (RX9, cX9_write, 5, (2, 0, 0, 46), (some FieldType.int), false) := hF
  show mp_W E X 5 0 [(0, .ref a0), (1, .int x0), (2, .int x1), (3, .long x2)] [] [(a0, .inr (9, [.ref a5, .ref a6, .ref a7, .ref a8, .ref a9, .ref a10, .ref a11, .ref a12, .ref a1])), (a1, .inr (5, [.ref a2, .ref a3, .ref a4])), (a2, .inl (E.2.2 2, 240, .inr (.inl f0))), (a3, .inl (E.2.2 0, 4, .inl f1)), (a4, .inl (E.2.2 0, 4, .inl f2))] 0 0
  refine mp_run hF mp_tabX9_ok [mp_i (.aload_n 0), mp_h (.getfield 67) [44, 0], mp_i (.iload_n 1)] (by decide +kernel) ?_
  refine And.intro rfl (And.intro rfl ?_)
  show mp_W E X 5 5 [(0, .ref a0), (1, .int x0), (2, .int x1), (3, .long x2)] [.int x0, .ref a1] [(a0, .inr (9, [.ref a5, .ref a6, .ref a7, .ref a8, .ref a9, .ref a10, .ref a11, .ref a12, .ref a1])), (a1, .inr (5, [.ref a2, .ref a3, .ref a4])), (a2, .inl (E.2.2 2, 240, .inr (.inl f0))), (a3, .inl (E.2.2 0, 4, .inl f1)), (a4, .inl (E.2.2 0, 4, .inl f2))] 0 0
  refine mp_callV hF (As := [.int x0]) (rest := []) (wr := [(a0, .inr (9, [.ref a5, .ref a6, .ref a7, .ref a8, .ref a9, .ref a10, .ref a11, .ref a12, .ref a1])), (a1, .inr (5, [.ref a2, .ref a3, .ref a4])), (a2, .inl (E.2.2 2, 240, .inr (.inl f0))), (a3, .inl (E.2.2 0, 4, .inl f1)), (a4, .inl (E.2.2 0, 4, .inl f2))]) (bX5_isSlot_134 E a1 x0) mp_lkX9_351 1 rfl [] [0, 1, 2, 3, 4] rfl rfl rfl rfl rfl ⟨(Nat.le_of_ble_eq_true rfl), (Nat.le_of_ble_eq_true rfl), (Nat.le_of_ble_eq_true rfl), (Nat.le_of_ble_eq_true rfl)⟩ (Nat.le_of_ble_eq_true rfl) (by decide +kernel) (fun v_1 w_2 h_3 => ?_)
  rcases h_3 with ⟨rfl, rfl⟩ | ⟨rfl, c_4, c_5, rfl⟩
  · skip
    show mp_W E X 5 8 [(0, .ref a0), (1, .int x0), (2, .int x1), (3, .long x2)] [.int 0] [(a0, .inr (9, [.ref a5, .ref a6, .ref a7, .ref a8, .ref a9, .ref a10, .ref a11, .ref a12, .ref a1])), (a1, .inr (5, [.ref a2, .ref a3, .ref a4])), (a2, .inl (E.2.2 2, 240, .inr (.inl f0))), (a3, .inl (E.2.2 0, 4, .inl f1)), (a4, .inl (E.2.2 0, 4, .inl f2))] 0 0
    refine mp_run hF mp_tabX9_ok [mp_h (.ifCond .ne 6) [14]] (by decide +kernel) ?_
    refine And.intro (fun c_6 => absurd c_6 (by decide)) (fun _ => ?_)
    show mp_W E X 5 11 [(0, .ref a0), (1, .int x0), (2, .int x1), (3, .long x2)] [] [(a0, .inr (9, [.ref a5, .ref a6, .ref a7, .ref a8, .ref a9, .ref a10, .ref a11, .ref a12, .ref a1])), (a1, .inr (5, [.ref a2, .ref a3, .ref a4])), (a2, .inl (E.2.2 2, 240, .inr (.inl f0))), (a3, .inl (E.2.2 0, 4, .inl f1)), (a4, .inl (E.2.2 0, 4, .inl f2))] 0 0
    refine mp_run hF mp_tabX9_ok [mp_c (.bipush (-2)) (-2)] (by decide +kernel) ?_
    show mp_W E X 5 13 [(0, .ref a0), (1, .int x0), (2, .int x1), (3, .long x2)] [.int (-2)] [(a0, .inr (9, [.ref a5, .ref a6, .ref a7, .ref a8, .ref a9, .ref a10, .ref a11, .ref a12, .ref a1])), (a1, .inr (5, [.ref a2, .ref a3, .ref a4])), (a2, .inl (E.2.2 2, 240, .inr (.inl f0))), (a3, .inl (E.2.2 0, 4, .inl f1)), (a4, .inl (E.2.2 0, 4, .inl f2))] 0 0
    exact mp_iret hF hQ rfl rfl (Nat.le_of_ble_eq_true rfl) (Nat.le_of_ble_eq_true rfl) [0, 1, 2, 3, 4] (w' := [(a0, .inr (9, [.ref a5, .ref a6, .ref a7, .ref a8, .ref a9, .ref a10, .ref a11, .ref a12, .ref a1])), (a1, .inr (5, [.ref a2, .ref a3, .ref a4])), (a2, .inl (E.2.2 2, 240, .inr (.inl f0))), (a3, .inl (E.2.2 0, 4, .inl f1)), (a4, .inl (E.2.2 0, 4, .inl f2))]) rfl rfl ⟨f0, (-2), rfl, (by decide), (by decide), rfl⟩ (by decide +kernel)
  · skip
    have c_4 : 0 ≤ x0.toInt := c_4
    have c_5 : x0.toInt < 4 := c_5
    show mp_W E X 5 8 [(0, .ref a0), (1, .int x0), (2, .int x1), (3, .long x2)] [.int 1] [(a0, .inr (9, [.ref a5, .ref a6, .ref a7, .ref a8, .ref a9, .ref a10, .ref a11, .ref a12, .ref a1])), (a1, .inr (5, [.ref a2, .ref a3, .ref a4])), (a2, .inl (E.2.2 2, 240, .inr (.inl f0))), (a3, .inl (E.2.2 0, 4, .inl f1)), (a4, .inl (E.2.2 0, 4, .inl f2))] 0 0
    refine mp_run hF mp_tabX9_ok [mp_h (.ifCond .ne 6) [14]] (by decide +kernel) ?_
    refine And.intro (fun _ => ?_) (fun c_7 => absurd c_7 (by decide))
    show mp_W E X 5 14 [(0, .ref a0), (1, .int x0), (2, .int x1), (3, .long x2)] [] [(a0, .inr (9, [.ref a5, .ref a6, .ref a7, .ref a8, .ref a9, .ref a10, .ref a11, .ref a12, .ref a1])), (a1, .inr (5, [.ref a2, .ref a3, .ref a4])), (a2, .inl (E.2.2 2, 240, .inr (.inl f0))), (a3, .inl (E.2.2 0, 4, .inl f1)), (a4, .inl (E.2.2 0, 4, .inl f2))] 0 0
    refine mp_run hF mp_tabX9_ok [mp_i (.aload_n 0), mp_h (.getfield 67) [44, 0], mp_i (.iload_n 1)] (by decide +kernel) ?_
    refine And.intro rfl (And.intro rfl ?_)
    show mp_W E X 5 19 [(0, .ref a0), (1, .int x0), (2, .int x1), (3, .long x2)] [.int x0, .ref a1] [(a0, .inr (9, [.ref a5, .ref a6, .ref a7, .ref a8, .ref a9, .ref a10, .ref a11, .ref a12, .ref a1])), (a1, .inr (5, [.ref a2, .ref a3, .ref a4])), (a2, .inl (E.2.2 2, 240, .inr (.inl f0))), (a3, .inl (E.2.2 0, 4, .inl f1)), (a4, .inl (E.2.2 0, 4, .inl f2))] 0 0
    refine mp_callV hF (As := [.int x0]) (rest := []) (wr := [(a0, .inr (9, [.ref a5, .ref a6, .ref a7, .ref a8, .ref a9, .ref a10, .ref a11, .ref a12, .ref a1])), (a2, .inl (E.2.2 2, 240, .inr (.inl f0))), (a3, .inl (E.2.2 0, 4, .inl f1))]) (bX5_isTaken_135 E a1 a4 a2 a3 f2 x0 p0 (by omega) (by omega)) mp_lkX9_358 1 rfl [1, 4] [0, 2, 3] rfl rfl rfl rfl rfl ⟨(Nat.le_of_ble_eq_true rfl), (Nat.le_of_ble_eq_true rfl), (Nat.le_of_ble_eq_true rfl), (Nat.le_of_ble_eq_true rfl)⟩ (Nat.le_of_ble_eq_true rfl) (by decide +kernel) (fun v_8 w_9 h_10 => ?_)
    rcases h_10 with ⟨rfl, rfl⟩ | ⟨rfl, rfl⟩
    · skip
      show mp_W E X 5 22 [(0, .ref a0), (1, .int x0), (2, .int x1), (3, .long x2)] [.int 0] [(a0, .inr (9, [.ref a5, .ref a6, .ref a7, .ref a8, .ref a9, .ref a10, .ref a11, .ref a12, .ref a1])), (a2, .inl (E.2.2 2, 240, .inr (.inl f0))), (a3, .inl (E.2.2 0, 4, .inl f1)), (a1, .inr (5, [.ref a2, .ref a3, .ref a4])), (a4, .inl (E.2.2 0, 4, .inl f2))] 0 0
      refine mp_run hF mp_tabX9_ok [mp_h (.ifCond .ne 6) [28]] (by decide +kernel) ?_
      refine And.intro (fun c_11 => absurd c_11 (by decide)) (fun _ => ?_)
      show mp_W E X 5 25 [(0, .ref a0), (1, .int x0), (2, .int x1), (3, .long x2)] [] [(a0, .inr (9, [.ref a5, .ref a6, .ref a7, .ref a8, .ref a9, .ref a10, .ref a11, .ref a12, .ref a1])), (a2, .inl (E.2.2 2, 240, .inr (.inl f0))), (a3, .inl (E.2.2 0, 4, .inl f1)), (a1, .inr (5, [.ref a2, .ref a3, .ref a4])), (a4, .inl (E.2.2 0, 4, .inl f2))] 0 0
      refine mp_run hF mp_tabX9_ok [mp_c (.bipush (-6)) (-6)] (by decide +kernel) ?_
      show mp_W E X 5 27 [(0, .ref a0), (1, .int x0), (2, .int x1), (3, .long x2)] [.int (-6)] [(a0, .inr (9, [.ref a5, .ref a6, .ref a7, .ref a8, .ref a9, .ref a10, .ref a11, .ref a12, .ref a1])), (a2, .inl (E.2.2 2, 240, .inr (.inl f0))), (a3, .inl (E.2.2 0, 4, .inl f1)), (a1, .inr (5, [.ref a2, .ref a3, .ref a4])), (a4, .inl (E.2.2 0, 4, .inl f2))] 0 0
      exact mp_iret hF hQ rfl rfl (Nat.le_of_ble_eq_true rfl) (Nat.le_of_ble_eq_true rfl) [0, 3, 1, 2, 4] (w' := [(a0, .inr (9, [.ref a5, .ref a6, .ref a7, .ref a8, .ref a9, .ref a10, .ref a11, .ref a12, .ref a1])), (a1, .inr (5, [.ref a2, .ref a3, .ref a4])), (a2, .inl (E.2.2 2, 240, .inr (.inl f0))), (a3, .inl (E.2.2 0, 4, .inl f1)), (a4, .inl (E.2.2 0, 4, .inl f2))]) rfl rfl ⟨f0, (-6), rfl, (by decide), (by decide), rfl⟩ (by decide +kernel)
    · skip
      show mp_W E X 5 22 [(0, .ref a0), (1, .int x0), (2, .int x1), (3, .long x2)] [.int 1] [(a0, .inr (9, [.ref a5, .ref a6, .ref a7, .ref a8, .ref a9, .ref a10, .ref a11, .ref a12, .ref a1])), (a2, .inl (E.2.2 2, 240, .inr (.inl f0))), (a3, .inl (E.2.2 0, 4, .inl f1)), (a1, .inr (5, [.ref a2, .ref a3, .ref a4])), (a4, .inl (E.2.2 0, 4, .inl f2))] 0 0
      refine mp_run hF mp_tabX9_ok [mp_h (.ifCond .ne 6) [28]] (by decide +kernel) ?_
      refine And.intro (fun _ => ?_) (fun c_12 => absurd c_12 (by decide))
      show mp_W E X 5 28 [(0, .ref a0), (1, .int x0), (2, .int x1), (3, .long x2)] [] [(a0, .inr (9, [.ref a5, .ref a6, .ref a7, .ref a8, .ref a9, .ref a10, .ref a11, .ref a12, .ref a1])), (a2, .inl (E.2.2 2, 240, .inr (.inl f0))), (a3, .inl (E.2.2 0, 4, .inl f1)), (a1, .inr (5, [.ref a2, .ref a3, .ref a4])), (a4, .inl (E.2.2 0, 4, .inl f2))] 0 0
      refine mp_run hF mp_tabX9_ok [mp_i (.iload_n 2), mp_h (.ifCond .lt 16) [45]] (by decide +kernel) ?_
      refine And.intro (fun c_13 => ?_) (fun c_13 => ?_)
      · have c_13 : x1.toInt < 0 := c_13
        show mp_W E X 5 45 [(0, .ref a0), (1, .int x0), (2, .int x1), (3, .long x2)] [] [(a0, .inr (9, [.ref a5, .ref a6, .ref a7, .ref a8, .ref a9, .ref a10, .ref a11, .ref a12, .ref a1])), (a2, .inl (E.2.2 2, 240, .inr (.inl f0))), (a3, .inl (E.2.2 0, 4, .inl f1)), (a1, .inr (5, [.ref a2, .ref a3, .ref a4])), (a4, .inl (E.2.2 0, 4, .inl f2))] 0 0
        refine mp_run hF mp_tabX9_ok [mp_c (.bipush (-7)) (-7)] (by decide +kernel) ?_
        show mp_W E X 5 47 [(0, .ref a0), (1, .int x0), (2, .int x1), (3, .long x2)] [.int (-7)] [(a0, .inr (9, [.ref a5, .ref a6, .ref a7, .ref a8, .ref a9, .ref a10, .ref a11, .ref a12, .ref a1])), (a2, .inl (E.2.2 2, 240, .inr (.inl f0))), (a3, .inl (E.2.2 0, 4, .inl f1)), (a1, .inr (5, [.ref a2, .ref a3, .ref a4])), (a4, .inl (E.2.2 0, 4, .inl f2))] 0 0
        exact mp_iret hF hQ rfl rfl (Nat.le_of_ble_eq_true rfl) (Nat.le_of_ble_eq_true rfl) [0, 3, 1, 2, 4] (w' := [(a0, .inr (9, [.ref a5, .ref a6, .ref a7, .ref a8, .ref a9, .ref a10, .ref a11, .ref a12, .ref a1])), (a1, .inr (5, [.ref a2, .ref a3, .ref a4])), (a2, .inl (E.2.2 2, 240, .inr (.inl f0))), (a3, .inl (E.2.2 0, 4, .inl f1)), (a4, .inl (E.2.2 0, 4, .inl f2))]) rfl rfl ⟨f0, (-7), rfl, (by decide), (by decide), rfl⟩ (by decide +kernel)
      · have c_13 : 0 ≤ x1.toInt := c_13
        show mp_W E X 5 32 [(0, .ref a0), (1, .int x0), (2, .int x1), (3, .long x2)] [] [(a0, .inr (9, [.ref a5, .ref a6, .ref a7, .ref a8, .ref a9, .ref a10, .ref a11, .ref a12, .ref a1])), (a2, .inl (E.2.2 2, 240, .inr (.inl f0))), (a3, .inl (E.2.2 0, 4, .inl f1)), (a1, .inr (5, [.ref a2, .ref a3, .ref a4])), (a4, .inl (E.2.2 0, 4, .inl f2))] 0 0
        refine mp_run hF mp_tabX9_ok [mp_i (.iload_n 2), mp_i (.aload_n 0), mp_h (.getfield 67) [44, 0], mp_h (.getfield 361) [35, 3], mp_i (.iload_n 1), mp_h .iaload [4], mp_h (.if_icmp .lt 6) [48]] (by decide +kernel) ?_
        refine And.intro rfl (And.intro rfl ?_)
        refine And.intro rfl (And.intro rfl ?_)
        refine And.intro rfl (And.intro rfl (And.intro (vp_in_iff.mpr (by omega)) ?_))
        intro z_14 h_15
        have e_16 : (-1) ≤ z_14.toInt ∧ z_14.toInt ≤ 60 := mp_all_ld h_15 p0 (by omega) (by omega)
        refine And.intro (fun c_17 => ?_) (fun c_17 => ?_)
        · have c_17 : x1.toInt < z_14.toInt := c_17
          show mp_W E X 5 48 [(0, .ref a0), (1, .int x0), (2, .int x1), (3, .long x2)] [] [(a0, .inr (9, [.ref a5, .ref a6, .ref a7, .ref a8, .ref a9, .ref a10, .ref a11, .ref a12, .ref a1])), (a2, .inl (E.2.2 2, 240, .inr (.inl f0))), (a3, .inl (E.2.2 0, 4, .inl f1)), (a1, .inr (5, [.ref a2, .ref a3, .ref a4])), (a4, .inl (E.2.2 0, 4, .inl f2))] 0 0
          refine mp_run hF mp_tabX9_ok [mp_i (.aload_n 0), mp_h (.getfield 67) [44, 0], mp_i (.iload_n 1), mp_i (.iload_n 2), mp_i (.lload_n 3)] (by decide +kernel) ?_
          refine And.intro rfl (And.intro rfl ?_)
          show mp_W E X 5 55 [(0, .ref a0), (1, .int x0), (2, .int x1), (3, .long x2)] [.long x2, .int x1, .int x0, .ref a1] [(a0, .inr (9, [.ref a5, .ref a6, .ref a7, .ref a8, .ref a9, .ref a10, .ref a11, .ref a12, .ref a1])), (a2, .inl (E.2.2 2, 240, .inr (.inl f0))), (a3, .inl (E.2.2 0, 4, .inl f1)), (a1, .inr (5, [.ref a2, .ref a3, .ref a4])), (a4, .inl (E.2.2 0, 4, .inl f2))] 0 0
          refine mp_callV hF (As := [.int x0, .int x1, .long x2]) (rest := []) (wr := [(a0, .inr (9, [.ref a5, .ref a6, .ref a7, .ref a8, .ref a9, .ref a10, .ref a11, .ref a12, .ref a1])), (a4, .inl (E.2.2 0, 4, .inl f2))]) (bX5_put_180 E a1 a2 a3 a4 f0 f1 x0 x1 x2 (by omega) (by omega) (by omega) (by omega)) mp_lkX9_364 3 rfl [3, 1, 2] [0, 4] rfl rfl rfl rfl rfl ⟨(Nat.le_of_ble_eq_true rfl), (Nat.le_of_ble_eq_true rfl), (Nat.le_of_ble_eq_true rfl), (Nat.le_of_ble_eq_true rfl)⟩ (Nat.le_of_ble_eq_true rfl) (by decide +kernel) (fun v_18 w_19 h_20 => ?_)
          obtain ⟨g_21, rfl, rfl⟩ := h_20
          show mp_W E X 5 58 [(0, .ref a0), (1, .int x0), (2, .int x1), (3, .long x2)] [] [(a0, .inr (9, [.ref a5, .ref a6, .ref a7, .ref a8, .ref a9, .ref a10, .ref a11, .ref a12, .ref a1])), (a4, .inl (E.2.2 0, 4, .inl f2)), (a1, .inr (5, [.ref a2, .ref a3, .ref a4])), (a2, .inl (E.2.2 2, 240, .inr (.inl g_21))), (a3, .inl (E.2.2 0, 4, .inl f1))] 0 0
          refine mp_run hF mp_tabX9_ok [mp_c (.iconst 0) 0] (by decide +kernel) ?_
          show mp_W E X 5 59 [(0, .ref a0), (1, .int x0), (2, .int x1), (3, .long x2)] [.int 0] [(a0, .inr (9, [.ref a5, .ref a6, .ref a7, .ref a8, .ref a9, .ref a10, .ref a11, .ref a12, .ref a1])), (a4, .inl (E.2.2 0, 4, .inl f2)), (a1, .inr (5, [.ref a2, .ref a3, .ref a4])), (a2, .inl (E.2.2 2, 240, .inr (.inl g_21))), (a3, .inl (E.2.2 0, 4, .inl f1))] 0 0
          exact mp_iret hF hQ rfl rfl (Nat.le_of_ble_eq_true rfl) (Nat.le_of_ble_eq_true rfl) [0, 2, 3, 4, 1] (w' := [(a0, .inr (9, [.ref a5, .ref a6, .ref a7, .ref a8, .ref a9, .ref a10, .ref a11, .ref a12, .ref a1])), (a1, .inr (5, [.ref a2, .ref a3, .ref a4])), (a2, .inl (E.2.2 2, 240, .inr (.inl g_21))), (a3, .inl (E.2.2 0, 4, .inl f1)), (a4, .inl (E.2.2 0, 4, .inl f2))]) rfl rfl ⟨g_21, 0, rfl, (by decide), (by decide), rfl⟩ (by decide +kernel)
        · have c_17 : z_14.toInt ≤ x1.toInt := c_17
          show mp_W E X 5 45 [(0, .ref a0), (1, .int x0), (2, .int x1), (3, .long x2)] [] [(a0, .inr (9, [.ref a5, .ref a6, .ref a7, .ref a8, .ref a9, .ref a10, .ref a11, .ref a12, .ref a1])), (a2, .inl (E.2.2 2, 240, .inr (.inl f0))), (a3, .inl (E.2.2 0, 4, .inl f1)), (a1, .inr (5, [.ref a2, .ref a3, .ref a4])), (a4, .inl (E.2.2 0, 4, .inl f2))] 0 0
          refine mp_run hF mp_tabX9_ok [mp_c (.bipush (-7)) (-7)] (by decide +kernel) ?_
          show mp_W E X 5 47 [(0, .ref a0), (1, .int x0), (2, .int x1), (3, .long x2)] [.int (-7)] [(a0, .inr (9, [.ref a5, .ref a6, .ref a7, .ref a8, .ref a9, .ref a10, .ref a11, .ref a12, .ref a1])), (a2, .inl (E.2.2 2, 240, .inr (.inl f0))), (a3, .inl (E.2.2 0, 4, .inl f1)), (a1, .inr (5, [.ref a2, .ref a3, .ref a4])), (a4, .inl (E.2.2 0, 4, .inl f2))] 0 0
          exact mp_iret hF hQ rfl rfl (Nat.le_of_ble_eq_true rfl) (Nat.le_of_ble_eq_true rfl) [0, 3, 1, 2, 4] (w' := [(a0, .inr (9, [.ref a5, .ref a6, .ref a7, .ref a8, .ref a9, .ref a10, .ref a11, .ref a12, .ref a1])), (a1, .inr (5, [.ref a2, .ref a3, .ref a4])), (a2, .inl (E.2.2 2, 240, .inr (.inl f0))), (a3, .inl (E.2.2 0, 4, .inl f1)), (a4, .inl (E.2.2 0, 4, .inl f2))]) rfl rfl ⟨f0, (-7), rfl, (by decide), (by decide), rfl⟩ (by decide +kernel)
set_option maxHeartbeats 4000000 in
set_option maxRecDepth 100000 in
theorem bX5_holds_182 (E : mp_E) (a0 a1 a2 a3 : Nat) (f0 : Nat → Int32) (x0 : Int32) (x1 : Int32) (x2 : Int32) (p0 : mp_all f0 4 (-1) 60) (l_x0 : 0 ≤ x0.toInt) (u_x0 : x0.toInt ≤ 3) : mp_Ct E yX5_holds cX5_holds 4 (some FieldType.boolean) 0 0 0 0 [.ref a0, .int x0, .int x1, .int x2] [(a0, .inr (5, [.ref a2, .ref a3, .ref a1])), (a1, .inl (E.2.2 0, 4, .inl f0))] (fun v w' => (v = some (.int 0) ∧ w' = [(a0, .inr (5, [.ref a2, .ref a3, .ref a1])), (a1, .inl (E.2.2 0, 4, .inl f0))]) ∨ (v = some (.int 1) ∧ 0 ≤ x1.toInt ∧ 0 ≤ x2.toInt ∧ (x1.toInt + x2.toInt ≤ 60) ∧ w' = [(a0, .inr (5, [.ref a2, .ref a3, .ref a1])), (a1, .inl (E.2.2 0, 4, .inl f0))])) := by
  refine mp_met false (by decide) (by decide) (Nat.le_of_ble_eq_true rfl) (fun X hF hQ => ?_)
  have hF : mp_F E X (RX5, cX5_holds, 4, (0, 0, 0, 0), (some FieldType.boolean), false) := hF
  show mp_W E X 4 0 [(0, .ref a0), (1, .int x0), (2, .int x1), (3, .int x2)] [] [(a0, .inr (5, [.ref a2, .ref a3, .ref a1])), (a1, .inl (E.2.2 0, 4, .inl f0))] 0 0
  refine mp_run hF mp_tabX5_ok [mp_i (.iload_n 2), mp_h (.ifCond .lt 27) [28]] (by decide +kernel) ?_
  refine And.intro (fun c_1 => ?_) (fun c_1 => ?_)
  · have c_1 : x1.toInt < 0 := c_1
    show mp_W E X 4 28 [(0, .ref a0), (1, .int x0), (2, .int x1), (3, .int x2)] [] [(a0, .inr (5, [.ref a2, .ref a3, .ref a1])), (a1, .inl (E.2.2 0, 4, .inl f0))] 0 0
    refine mp_run hF mp_tabX5_ok [mp_c (.iconst 0) 0] (by decide +kernel) ?_
    show mp_W E X 4 29 [(0, .ref a0), (1, .int x0), (2, .int x1), (3, .int x2)] [.int 0] [(a0, .inr (5, [.ref a2, .ref a3, .ref a1])), (a1, .inl (E.2.2 0, 4, .inl f0))] 0 0
    exact mp_iret hF hQ rfl (by decide) (Nat.le_of_ble_eq_true rfl) (Nat.le_of_ble_eq_true rfl) [0, 1] (w' := [(a0, .inr (5, [.ref a2, .ref a3, .ref a1])), (a1, .inl (E.2.2 0, 4, .inl f0))]) rfl rfl (Or.inl ⟨rfl, rfl⟩) (by decide +kernel)
  · have c_1 : 0 ≤ x1.toInt := c_1
    show mp_W E X 4 4 [(0, .ref a0), (1, .int x0), (2, .int x1), (3, .int x2)] [] [(a0, .inr (5, [.ref a2, .ref a3, .ref a1])), (a1, .inl (E.2.2 0, 4, .inl f0))] 0 0
    refine mp_run hF mp_tabX5_ok [mp_i (.iload_n 3), mp_h (.ifCond .lt 23) [28]] (by decide +kernel) ?_
    refine And.intro (fun c_2 => ?_) (fun c_2 => ?_)
    · have c_2 : x2.toInt < 0 := c_2
      show mp_W E X 4 28 [(0, .ref a0), (1, .int x0), (2, .int x1), (3, .int x2)] [] [(a0, .inr (5, [.ref a2, .ref a3, .ref a1])), (a1, .inl (E.2.2 0, 4, .inl f0))] 0 0
      refine mp_run hF mp_tabX5_ok [mp_c (.iconst 0) 0] (by decide +kernel) ?_
      show mp_W E X 4 29 [(0, .ref a0), (1, .int x0), (2, .int x1), (3, .int x2)] [.int 0] [(a0, .inr (5, [.ref a2, .ref a3, .ref a1])), (a1, .inl (E.2.2 0, 4, .inl f0))] 0 0
      exact mp_iret hF hQ rfl (by decide) (Nat.le_of_ble_eq_true rfl) (Nat.le_of_ble_eq_true rfl) [0, 1] (w' := [(a0, .inr (5, [.ref a2, .ref a3, .ref a1])), (a1, .inl (E.2.2 0, 4, .inl f0))]) rfl rfl (Or.inl ⟨rfl, rfl⟩) (by decide +kernel)
    · have c_2 : 0 ≤ x2.toInt := c_2
      show mp_W E X 4 8 [(0, .ref a0), (1, .int x0), (2, .int x1), (3, .int x2)] [] [(a0, .inr (5, [.ref a2, .ref a3, .ref a1])), (a1, .inl (E.2.2 0, 4, .inl f0))] 0 0
      refine mp_run hF mp_tabX5_ok [mp_i (.iload_n 2), mp_i .i2l, mp_i (.iload_n 3), mp_i .i2l, mp_i .ladd, mp_i (.aload_n 0), mp_h (.getfield 19) [2, 0], mp_i (.iload_n 1), mp_h .iaload [1], mp_i .i2l, mp_i .lcmp, mp_h (.ifCond .gt 7) [28]] (by decide +kernel) ?_
      intro z_3 h_4
      have e_5 : z_3.toInt = x1.toInt := mp_i2l h_4
      intro z_6 h_7
      have e_8 : z_6.toInt = x2.toInt := mp_i2l h_7
      intro z_9 h_10
      have e_11 := mp_bnd x1
      have e_12 := mp_bnd x2
      have e_13 : z_9.toInt = z_3.toInt + z_6.toInt := mp_ladd (a := z_3.toInt) (b := z_6.toInt) h_10 rfl rfl (by omega) (by omega)
      refine And.intro rfl (And.intro rfl ?_)
      refine And.intro rfl (And.intro rfl (And.intro (vp_in_iff.mpr (by omega)) ?_))
      intro z_14 h_15
      have e_16 : (-1) ≤ z_14.toInt ∧ z_14.toInt ≤ 60 := mp_all_ld h_15 p0 (by omega) (by omega)
      intro z_17 h_18
      have e_19 : z_17.toInt = z_14.toInt := mp_i2l h_18
      intro z_20 h_21
      refine And.intro (fun c_22 => ?_) (fun c_22 => ?_)
      · have c_22 : z_17.toInt < z_9.toInt := mp_lc_gt h_21 c_22
        show mp_W E X 4 28 [(0, .ref a0), (1, .int x0), (2, .int x1), (3, .int x2)] [] [(a0, .inr (5, [.ref a2, .ref a3, .ref a1])), (a1, .inl (E.2.2 0, 4, .inl f0))] 0 0
        refine mp_run hF mp_tabX5_ok [mp_c (.iconst 0) 0] (by decide +kernel) ?_
        show mp_W E X 4 29 [(0, .ref a0), (1, .int x0), (2, .int x1), (3, .int x2)] [.int 0] [(a0, .inr (5, [.ref a2, .ref a3, .ref a1])), (a1, .inl (E.2.2 0, 4, .inl f0))] 0 0
        exact mp_iret hF hQ rfl (by decide) (Nat.le_of_ble_eq_true rfl) (Nat.le_of_ble_eq_true rfl) [0, 1] (w' := [(a0, .inr (5, [.ref a2, .ref a3, .ref a1])), (a1, .inl (E.2.2 0, 4, .inl f0))]) rfl rfl (Or.inl ⟨rfl, rfl⟩) (by decide +kernel)
      · have c_22 : z_9.toInt ≤ z_17.toInt := mp_lc_le h_21 c_22
        show mp_W E X 4 24 [(0, .ref a0), (1, .int x0), (2, .int x1), (3, .int x2)] [] [(a0, .inr (5, [.ref a2, .ref a3, .ref a1])), (a1, .inl (E.2.2 0, 4, .inl f0))] 0 0
        refine mp_run hF mp_tabX5_ok [mp_c (.iconst 1) 1, mp_h (.goto 4) [29]] (by decide +kernel) ?_
        show mp_W E X 4 29 [(0, .ref a0), (1, .int x0), (2, .int x1), (3, .int x2)] [.int 1] [(a0, .inr (5, [.ref a2, .ref a3, .ref a1])), (a1, .inl (E.2.2 0, 4, .inl f0))] 0 0
        exact mp_iret hF hQ rfl (by decide) (Nat.le_of_ble_eq_true rfl) (Nat.le_of_ble_eq_true rfl) [0, 1] (w' := [(a0, .inr (5, [.ref a2, .ref a3, .ref a1])), (a1, .inl (E.2.2 0, 4, .inl f0))]) rfl rfl (Or.inr ⟨rfl, (by first | omega | decide), (by first | omega | decide), (by first | omega | decide), rfl⟩) (by decide +kernel)
set_option maxHeartbeats 4000000 in
set_option maxRecDepth 100000 in
theorem bX5_move_183 (E : mp_E) (a0 a1 a2 a3 : Nat) (f0 : Nat → Int64) (x0 : Int32) (x1 : Int32) (x2 : Int32) (x3 : Int32) (x4 : Int32) (l_x0 : 0 ≤ x0.toInt) (u_x0 : x0.toInt ≤ 3) (l_x1 : 0 ≤ x1.toInt) (u_x1 : x1.toInt ≤ 60) (l_x2 : 0 ≤ x2.toInt) (u_x2 : x2.toInt ≤ 3) (l_x3 : 0 ≤ x3.toInt) (u_x3 : x3.toInt ≤ 60) (l_x4 : 0 ≤ x4.toInt) (u_x4 : x4.toInt ≤ 60) (q0 : x1.toInt + x4.toInt ≤ 60) (q1 : x3.toInt + x4.toInt ≤ 60) : mp_Ct E yX5_move cX5_move 6 none 1 0 0 18 [.ref a0, .int x0, .int x1, .int x2, .int x3, .int x4] [(a0, .inr (5, [.ref a1, .ref a2, .ref a3])), (a1, .inl (E.2.2 2, 240, .inr (.inl f0)))] (fun v w' => ∃ h1 : Nat → Int64, v = none ∧ w' = [(a0, .inr (5, [.ref a1, .ref a2, .ref a3])), (a1, .inl (E.2.2 2, 240, .inr (.inl h1)))]) := by
  refine mp_met false (by decide) (by decide) (Nat.le_of_ble_eq_true rfl) (fun X hF hQ => ?_)
  have hF : mp_F E X (RX5, cX5_move, 6, (1, 0, 0, 18), none, false) := hF
  show mp_W E X 6 0 [(0, .ref a0), (1, .int x0), (2, .int x1), (3, .int x2), (4, .int x3), (5, .int x4)] [] [(a0, .inr (5, [.ref a1, .ref a2, .ref a3])), (a1, .inl (E.2.2 2, 240, .inr (.inl f0)))] 0 0
  refine mp_run hF mp_tabX5_ok [mp_i (.aload_n 0), mp_h (.getfield 9) [0, 0], mp_i (.iload_n 1), mp_c (.bipush 60) 60, mp_i .imul, mp_i (.iload_n 2), mp_i .iadd, mp_i (.aload_n 0), mp_h (.getfield 9) [0, 0], mp_i (.iload_n 3), mp_c (.bipush 60) 60, mp_i .imul, mp_i (.iload 4), mp_i .iadd, mp_i (.iload 5)] (by decide +kernel) ?_
  refine And.intro rfl (And.intro rfl ?_)
  intro z_1 h_2
  have e_3 : z_1.toInt = x0.toInt * 60 := mp_mul (a := x0.toInt) (b := 60) h_2 rfl (by decide) (by omega) (by omega)
  intro z_4 h_5
  have e_6 : z_4.toInt = z_1.toInt + x1.toInt := mp_add (a := z_1.toInt) (b := x1.toInt) h_5 rfl rfl (by omega) (by omega)
  refine And.intro rfl (And.intro rfl ?_)
  intro z_7 h_8
  have e_9 : z_7.toInt = x2.toInt * 60 := mp_mul (a := x2.toInt) (b := 60) h_8 rfl (by decide) (by omega) (by omega)
  intro z_10 h_11
  have e_12 : z_10.toInt = z_7.toInt + x3.toInt := mp_add (a := z_7.toInt) (b := x3.toInt) h_11 rfl rfl (by omega) (by omega)
  show mp_W E X 6 23 [(0, .ref a0), (1, .int x0), (2, .int x1), (3, .int x2), (4, .int x3), (5, .int x4)] [.int x4, .int z_10, .ref a1, .int z_4, .ref a1] [(a0, .inr (5, [.ref a1, .ref a2, .ref a3])), (a1, .inl (E.2.2 2, 240, .inr (.inl f0)))] 0 0
  refine mp_copyl hF (idx := 30) (mp_gm (j := 6004) (by decide +kernel)) 1 1 rfl rfl (by omega) (by omega) (by omega) (by omega) (by omega) ⟨(Nat.le_of_ble_eq_true rfl), (Nat.le_of_ble_eq_true rfl)⟩ (by decide +kernel) (fun g_13 h_14 => ?_)
  show mp_W E X 6 26 [(0, .ref a0), (1, .int x0), (2, .int x1), (3, .int x2), (4, .int x3), (5, .int x4)] [] [(a0, .inr (5, [.ref a1, .ref a2, .ref a3])), (a1, .inl (E.2.2 2, 240, .inr (.inl g_13)))] 0 0
  exact mp_vret hF hQ rfl (Nat.le_of_ble_eq_true rfl) (Nat.le_of_ble_eq_true rfl) [0, 1] (w' := [(a0, .inr (5, [.ref a1, .ref a2, .ref a3])), (a1, .inl (E.2.2 2, 240, .inr (.inl g_13)))]) rfl rfl ⟨g_13, rfl, rfl⟩ (by decide +kernel)
set_option maxHeartbeats 4000000 in
set_option maxRecDepth 100000 in
theorem bX9_paste_184 (E : mp_E) (a0 a1 a2 a3 a4 a5 a6 a7 a8 a9 a10 a11 a12 : Nat) (f0 : Nat → Int64) (f1 : Nat → Int32) (f2 : Nat → Int32) (x0 : Int32) (x1 : Int32) (x2 : Int32) (x3 : Int32) (x4 : Int32) (p0 : mp_all f2 4 (-1) 60) : mp_Ct E yX9_paste cX9_paste 6 (some FieldType.int) 2 0 0 43 [.ref a0, .int x0, .int x1, .int x2, .int x3, .int x4] [(a0, .inr (9, [.ref a5, .ref a6, .ref a7, .ref a8, .ref a9, .ref a10, .ref a11, .ref a12, .ref a1])), (a1, .inr (5, [.ref a2, .ref a3, .ref a4])), (a2, .inl (E.2.2 2, 240, .inr (.inl f0))), (a3, .inl (E.2.2 0, 4, .inl f1)), (a4, .inl (E.2.2 0, 4, .inl f2))] (fun v w' => ∃ h1 : Nat → Int64, ∃ r2 : Int32, v = some (.int r2) ∧ (-8) ≤ r2.toInt ∧ r2.toInt ≤ 0 ∧ w' = [(a0, .inr (9, [.ref a5, .ref a6, .ref a7, .ref a8, .ref a9, .ref a10, .ref a11, .ref a12, .ref a1])), (a1, .inr (5, [.ref a2, .ref a3, .ref a4])), (a2, .inl (E.2.2 2, 240, .inr (.inl h1))), (a3, .inl (E.2.2 0, 4, .inl f1)), (a4, .inl (E.2.2 0, 4, .inl f2))]) := by
  refine mp_met false (by decide) (by decide) (Nat.le_of_ble_eq_true rfl) (fun X hF hQ => ?_)
  have hF : mp_F E X (RX9, cX9_paste, 6, (2, 0, 0, 43), (some FieldType.int), false) := hF
  show mp_W E X 6 0 [(0, .ref a0), (1, .int x0), (2, .int x1), (3, .int x2), (4, .int x3), (5, .int x4)] [] [(a0, .inr (9, [.ref a5, .ref a6, .ref a7, .ref a8, .ref a9, .ref a10, .ref a11, .ref a12, .ref a1])), (a1, .inr (5, [.ref a2, .ref a3, .ref a4])), (a2, .inl (E.2.2 2, 240, .inr (.inl f0))), (a3, .inl (E.2.2 0, 4, .inl f1)), (a4, .inl (E.2.2 0, 4, .inl f2))] 0 0
  refine mp_run hF mp_tabX9_ok [mp_i (.aload_n 0), mp_h (.getfield 67) [44, 0], mp_i (.iload_n 1)] (by decide +kernel) ?_
  refine And.intro rfl (And.intro rfl ?_)
  show mp_W E X 6 5 [(0, .ref a0), (1, .int x0), (2, .int x1), (3, .int x2), (4, .int x3), (5, .int x4)] [.int x0, .ref a1] [(a0, .inr (9, [.ref a5, .ref a6, .ref a7, .ref a8, .ref a9, .ref a10, .ref a11, .ref a12, .ref a1])), (a1, .inr (5, [.ref a2, .ref a3, .ref a4])), (a2, .inl (E.2.2 2, 240, .inr (.inl f0))), (a3, .inl (E.2.2 0, 4, .inl f1)), (a4, .inl (E.2.2 0, 4, .inl f2))] 0 0
  refine mp_callV hF (As := [.int x0]) (rest := []) (wr := [(a0, .inr (9, [.ref a5, .ref a6, .ref a7, .ref a8, .ref a9, .ref a10, .ref a11, .ref a12, .ref a1])), (a1, .inr (5, [.ref a2, .ref a3, .ref a4])), (a2, .inl (E.2.2 2, 240, .inr (.inl f0))), (a3, .inl (E.2.2 0, 4, .inl f1)), (a4, .inl (E.2.2 0, 4, .inl f2))]) (bX5_isSlot_134 E a1 x0) mp_lkX9_351 1 rfl [] [0, 1, 2, 3, 4] rfl rfl rfl rfl rfl ⟨(Nat.le_of_ble_eq_true rfl), (Nat.le_of_ble_eq_true rfl), (Nat.le_of_ble_eq_true rfl), (Nat.le_of_ble_eq_true rfl)⟩ (Nat.le_of_ble_eq_true rfl) (by decide +kernel) (fun v_1 w_2 h_3 => ?_)
  rcases h_3 with ⟨rfl, rfl⟩ | ⟨rfl, c_4, c_5, rfl⟩
  · skip
    show mp_W E X 6 8 [(0, .ref a0), (1, .int x0), (2, .int x1), (3, .int x2), (4, .int x3), (5, .int x4)] [.int 0] [(a0, .inr (9, [.ref a5, .ref a6, .ref a7, .ref a8, .ref a9, .ref a10, .ref a11, .ref a12, .ref a1])), (a1, .inr (5, [.ref a2, .ref a3, .ref a4])), (a2, .inl (E.2.2 2, 240, .inr (.inl f0))), (a3, .inl (E.2.2 0, 4, .inl f1)), (a4, .inl (E.2.2 0, 4, .inl f2))] 0 0
    refine mp_run hF mp_tabX9_ok [mp_h (.ifCond .eq 14) [22]] (by decide +kernel) ?_
    refine And.intro (fun _ => ?_) (fun c_6 => absurd c_6 (by decide))
    show mp_W E X 6 22 [(0, .ref a0), (1, .int x0), (2, .int x1), (3, .int x2), (4, .int x3), (5, .int x4)] [] [(a0, .inr (9, [.ref a5, .ref a6, .ref a7, .ref a8, .ref a9, .ref a10, .ref a11, .ref a12, .ref a1])), (a1, .inr (5, [.ref a2, .ref a3, .ref a4])), (a2, .inl (E.2.2 2, 240, .inr (.inl f0))), (a3, .inl (E.2.2 0, 4, .inl f1)), (a4, .inl (E.2.2 0, 4, .inl f2))] 0 0
    refine mp_run hF mp_tabX9_ok [mp_c (.bipush (-2)) (-2)] (by decide +kernel) ?_
    show mp_W E X 6 24 [(0, .ref a0), (1, .int x0), (2, .int x1), (3, .int x2), (4, .int x3), (5, .int x4)] [.int (-2)] [(a0, .inr (9, [.ref a5, .ref a6, .ref a7, .ref a8, .ref a9, .ref a10, .ref a11, .ref a12, .ref a1])), (a1, .inr (5, [.ref a2, .ref a3, .ref a4])), (a2, .inl (E.2.2 2, 240, .inr (.inl f0))), (a3, .inl (E.2.2 0, 4, .inl f1)), (a4, .inl (E.2.2 0, 4, .inl f2))] 0 0
    exact mp_iret hF hQ rfl rfl (Nat.le_of_ble_eq_true rfl) (Nat.le_of_ble_eq_true rfl) [0, 1, 2, 3, 4] (w' := [(a0, .inr (9, [.ref a5, .ref a6, .ref a7, .ref a8, .ref a9, .ref a10, .ref a11, .ref a12, .ref a1])), (a1, .inr (5, [.ref a2, .ref a3, .ref a4])), (a2, .inl (E.2.2 2, 240, .inr (.inl f0))), (a3, .inl (E.2.2 0, 4, .inl f1)), (a4, .inl (E.2.2 0, 4, .inl f2))]) rfl rfl ⟨f0, (-2), rfl, (by decide), (by decide), rfl⟩ (by decide +kernel)
  · skip
    have c_4 : 0 ≤ x0.toInt := c_4
    have c_5 : x0.toInt < 4 := c_5
    show mp_W E X 6 8 [(0, .ref a0), (1, .int x0), (2, .int x1), (3, .int x2), (4, .int x3), (5, .int x4)] [.int 1] [(a0, .inr (9, [.ref a5, .ref a6, .ref a7, .ref a8, .ref a9, .ref a10, .ref a11, .ref a12, .ref a1])), (a1, .inr (5, [.ref a2, .ref a3, .ref a4])), (a2, .inl (E.2.2 2, 240, .inr (.inl f0))), (a3, .inl (E.2.2 0, 4, .inl f1)), (a4, .inl (E.2.2 0, 4, .inl f2))] 0 0
    refine mp_run hF mp_tabX9_ok [mp_h (.ifCond .eq 14) [22]] (by decide +kernel) ?_
    refine And.intro (fun c_7 => absurd c_7 (by decide)) (fun _ => ?_)
    show mp_W E X 6 11 [(0, .ref a0), (1, .int x0), (2, .int x1), (3, .int x2), (4, .int x3), (5, .int x4)] [] [(a0, .inr (9, [.ref a5, .ref a6, .ref a7, .ref a8, .ref a9, .ref a10, .ref a11, .ref a12, .ref a1])), (a1, .inr (5, [.ref a2, .ref a3, .ref a4])), (a2, .inl (E.2.2 2, 240, .inr (.inl f0))), (a3, .inl (E.2.2 0, 4, .inl f1)), (a4, .inl (E.2.2 0, 4, .inl f2))] 0 0
    refine mp_run hF mp_tabX9_ok [mp_i (.aload_n 0), mp_h (.getfield 67) [44, 0], mp_i (.iload_n 3)] (by decide +kernel) ?_
    refine And.intro rfl (And.intro rfl ?_)
    show mp_W E X 6 16 [(0, .ref a0), (1, .int x0), (2, .int x1), (3, .int x2), (4, .int x3), (5, .int x4)] [.int x2, .ref a1] [(a0, .inr (9, [.ref a5, .ref a6, .ref a7, .ref a8, .ref a9, .ref a10, .ref a11, .ref a12, .ref a1])), (a1, .inr (5, [.ref a2, .ref a3, .ref a4])), (a2, .inl (E.2.2 2, 240, .inr (.inl f0))), (a3, .inl (E.2.2 0, 4, .inl f1)), (a4, .inl (E.2.2 0, 4, .inl f2))] 0 0
    refine mp_callV hF (As := [.int x2]) (rest := []) (wr := [(a0, .inr (9, [.ref a5, .ref a6, .ref a7, .ref a8, .ref a9, .ref a10, .ref a11, .ref a12, .ref a1])), (a1, .inr (5, [.ref a2, .ref a3, .ref a4])), (a2, .inl (E.2.2 2, 240, .inr (.inl f0))), (a3, .inl (E.2.2 0, 4, .inl f1)), (a4, .inl (E.2.2 0, 4, .inl f2))]) (bX5_isSlot_134 E a1 x2) mp_lkX9_351 1 rfl [] [0, 1, 2, 3, 4] rfl rfl rfl rfl rfl ⟨(Nat.le_of_ble_eq_true rfl), (Nat.le_of_ble_eq_true rfl), (Nat.le_of_ble_eq_true rfl), (Nat.le_of_ble_eq_true rfl)⟩ (Nat.le_of_ble_eq_true rfl) (by decide +kernel) (fun v_8 w_9 h_10 => ?_)
    rcases h_10 with ⟨rfl, rfl⟩ | ⟨rfl, c_11, c_12, rfl⟩
    · skip
      show mp_W E X 6 19 [(0, .ref a0), (1, .int x0), (2, .int x1), (3, .int x2), (4, .int x3), (5, .int x4)] [.int 0] [(a0, .inr (9, [.ref a5, .ref a6, .ref a7, .ref a8, .ref a9, .ref a10, .ref a11, .ref a12, .ref a1])), (a1, .inr (5, [.ref a2, .ref a3, .ref a4])), (a2, .inl (E.2.2 2, 240, .inr (.inl f0))), (a3, .inl (E.2.2 0, 4, .inl f1)), (a4, .inl (E.2.2 0, 4, .inl f2))] 0 0
      refine mp_run hF mp_tabX9_ok [mp_h (.ifCond .ne 6) [25]] (by decide +kernel) ?_
      refine And.intro (fun c_13 => absurd c_13 (by decide)) (fun _ => ?_)
      show mp_W E X 6 22 [(0, .ref a0), (1, .int x0), (2, .int x1), (3, .int x2), (4, .int x3), (5, .int x4)] [] [(a0, .inr (9, [.ref a5, .ref a6, .ref a7, .ref a8, .ref a9, .ref a10, .ref a11, .ref a12, .ref a1])), (a1, .inr (5, [.ref a2, .ref a3, .ref a4])), (a2, .inl (E.2.2 2, 240, .inr (.inl f0))), (a3, .inl (E.2.2 0, 4, .inl f1)), (a4, .inl (E.2.2 0, 4, .inl f2))] 0 0
      refine mp_run hF mp_tabX9_ok [mp_c (.bipush (-2)) (-2)] (by decide +kernel) ?_
      show mp_W E X 6 24 [(0, .ref a0), (1, .int x0), (2, .int x1), (3, .int x2), (4, .int x3), (5, .int x4)] [.int (-2)] [(a0, .inr (9, [.ref a5, .ref a6, .ref a7, .ref a8, .ref a9, .ref a10, .ref a11, .ref a12, .ref a1])), (a1, .inr (5, [.ref a2, .ref a3, .ref a4])), (a2, .inl (E.2.2 2, 240, .inr (.inl f0))), (a3, .inl (E.2.2 0, 4, .inl f1)), (a4, .inl (E.2.2 0, 4, .inl f2))] 0 0
      exact mp_iret hF hQ rfl rfl (Nat.le_of_ble_eq_true rfl) (Nat.le_of_ble_eq_true rfl) [0, 1, 2, 3, 4] (w' := [(a0, .inr (9, [.ref a5, .ref a6, .ref a7, .ref a8, .ref a9, .ref a10, .ref a11, .ref a12, .ref a1])), (a1, .inr (5, [.ref a2, .ref a3, .ref a4])), (a2, .inl (E.2.2 2, 240, .inr (.inl f0))), (a3, .inl (E.2.2 0, 4, .inl f1)), (a4, .inl (E.2.2 0, 4, .inl f2))]) rfl rfl ⟨f0, (-2), rfl, (by decide), (by decide), rfl⟩ (by decide +kernel)
    · skip
      have c_11 : 0 ≤ x2.toInt := c_11
      have c_12 : x2.toInt < 4 := c_12
      show mp_W E X 6 19 [(0, .ref a0), (1, .int x0), (2, .int x1), (3, .int x2), (4, .int x3), (5, .int x4)] [.int 1] [(a0, .inr (9, [.ref a5, .ref a6, .ref a7, .ref a8, .ref a9, .ref a10, .ref a11, .ref a12, .ref a1])), (a1, .inr (5, [.ref a2, .ref a3, .ref a4])), (a2, .inl (E.2.2 2, 240, .inr (.inl f0))), (a3, .inl (E.2.2 0, 4, .inl f1)), (a4, .inl (E.2.2 0, 4, .inl f2))] 0 0
      refine mp_run hF mp_tabX9_ok [mp_h (.ifCond .ne 6) [25]] (by decide +kernel) ?_
      refine And.intro (fun _ => ?_) (fun c_14 => absurd c_14 (by decide))
      show mp_W E X 6 25 [(0, .ref a0), (1, .int x0), (2, .int x1), (3, .int x2), (4, .int x3), (5, .int x4)] [] [(a0, .inr (9, [.ref a5, .ref a6, .ref a7, .ref a8, .ref a9, .ref a10, .ref a11, .ref a12, .ref a1])), (a1, .inr (5, [.ref a2, .ref a3, .ref a4])), (a2, .inl (E.2.2 2, 240, .inr (.inl f0))), (a3, .inl (E.2.2 0, 4, .inl f1)), (a4, .inl (E.2.2 0, 4, .inl f2))] 0 0
      refine mp_run hF mp_tabX9_ok [mp_i (.aload_n 0), mp_h (.getfield 67) [44, 0], mp_i (.iload_n 1)] (by decide +kernel) ?_
      refine And.intro rfl (And.intro rfl ?_)
      show mp_W E X 6 30 [(0, .ref a0), (1, .int x0), (2, .int x1), (3, .int x2), (4, .int x3), (5, .int x4)] [.int x0, .ref a1] [(a0, .inr (9, [.ref a5, .ref a6, .ref a7, .ref a8, .ref a9, .ref a10, .ref a11, .ref a12, .ref a1])), (a1, .inr (5, [.ref a2, .ref a3, .ref a4])), (a2, .inl (E.2.2 2, 240, .inr (.inl f0))), (a3, .inl (E.2.2 0, 4, .inl f1)), (a4, .inl (E.2.2 0, 4, .inl f2))] 0 0
      refine mp_callV hF (As := [.int x0]) (rest := []) (wr := [(a0, .inr (9, [.ref a5, .ref a6, .ref a7, .ref a8, .ref a9, .ref a10, .ref a11, .ref a12, .ref a1])), (a2, .inl (E.2.2 2, 240, .inr (.inl f0))), (a3, .inl (E.2.2 0, 4, .inl f1))]) (bX5_isTaken_135 E a1 a4 a2 a3 f2 x0 p0 (by omega) (by omega)) mp_lkX9_358 1 rfl [1, 4] [0, 2, 3] rfl rfl rfl rfl rfl ⟨(Nat.le_of_ble_eq_true rfl), (Nat.le_of_ble_eq_true rfl), (Nat.le_of_ble_eq_true rfl), (Nat.le_of_ble_eq_true rfl)⟩ (Nat.le_of_ble_eq_true rfl) (by decide +kernel) (fun v_15 w_16 h_17 => ?_)
      rcases h_17 with ⟨rfl, rfl⟩ | ⟨rfl, rfl⟩
      · skip
        show mp_W E X 6 33 [(0, .ref a0), (1, .int x0), (2, .int x1), (3, .int x2), (4, .int x3), (5, .int x4)] [.int 0] [(a0, .inr (9, [.ref a5, .ref a6, .ref a7, .ref a8, .ref a9, .ref a10, .ref a11, .ref a12, .ref a1])), (a2, .inl (E.2.2 2, 240, .inr (.inl f0))), (a3, .inl (E.2.2 0, 4, .inl f1)), (a1, .inr (5, [.ref a2, .ref a3, .ref a4])), (a4, .inl (E.2.2 0, 4, .inl f2))] 0 0
        refine mp_run hF mp_tabX9_ok [mp_h (.ifCond .eq 14) [47]] (by decide +kernel) ?_
        refine And.intro (fun _ => ?_) (fun c_18 => absurd c_18 (by decide))
        show mp_W E X 6 47 [(0, .ref a0), (1, .int x0), (2, .int x1), (3, .int x2), (4, .int x3), (5, .int x4)] [] [(a0, .inr (9, [.ref a5, .ref a6, .ref a7, .ref a8, .ref a9, .ref a10, .ref a11, .ref a12, .ref a1])), (a2, .inl (E.2.2 2, 240, .inr (.inl f0))), (a3, .inl (E.2.2 0, 4, .inl f1)), (a1, .inr (5, [.ref a2, .ref a3, .ref a4])), (a4, .inl (E.2.2 0, 4, .inl f2))] 0 0
        refine mp_run hF mp_tabX9_ok [mp_c (.bipush (-6)) (-6)] (by decide +kernel) ?_
        show mp_W E X 6 49 [(0, .ref a0), (1, .int x0), (2, .int x1), (3, .int x2), (4, .int x3), (5, .int x4)] [.int (-6)] [(a0, .inr (9, [.ref a5, .ref a6, .ref a7, .ref a8, .ref a9, .ref a10, .ref a11, .ref a12, .ref a1])), (a2, .inl (E.2.2 2, 240, .inr (.inl f0))), (a3, .inl (E.2.2 0, 4, .inl f1)), (a1, .inr (5, [.ref a2, .ref a3, .ref a4])), (a4, .inl (E.2.2 0, 4, .inl f2))] 0 0
        exact mp_iret hF hQ rfl rfl (Nat.le_of_ble_eq_true rfl) (Nat.le_of_ble_eq_true rfl) [0, 3, 1, 2, 4] (w' := [(a0, .inr (9, [.ref a5, .ref a6, .ref a7, .ref a8, .ref a9, .ref a10, .ref a11, .ref a12, .ref a1])), (a1, .inr (5, [.ref a2, .ref a3, .ref a4])), (a2, .inl (E.2.2 2, 240, .inr (.inl f0))), (a3, .inl (E.2.2 0, 4, .inl f1)), (a4, .inl (E.2.2 0, 4, .inl f2))]) rfl rfl ⟨f0, (-6), rfl, (by decide), (by decide), rfl⟩ (by decide +kernel)
      · skip
        show mp_W E X 6 33 [(0, .ref a0), (1, .int x0), (2, .int x1), (3, .int x2), (4, .int x3), (5, .int x4)] [.int 1] [(a0, .inr (9, [.ref a5, .ref a6, .ref a7, .ref a8, .ref a9, .ref a10, .ref a11, .ref a12, .ref a1])), (a2, .inl (E.2.2 2, 240, .inr (.inl f0))), (a3, .inl (E.2.2 0, 4, .inl f1)), (a1, .inr (5, [.ref a2, .ref a3, .ref a4])), (a4, .inl (E.2.2 0, 4, .inl f2))] 0 0
        refine mp_run hF mp_tabX9_ok [mp_h (.ifCond .eq 14) [47]] (by decide +kernel) ?_
        refine And.intro (fun c_19 => absurd c_19 (by decide)) (fun _ => ?_)
        show mp_W E X 6 36 [(0, .ref a0), (1, .int x0), (2, .int x1), (3, .int x2), (4, .int x3), (5, .int x4)] [] [(a0, .inr (9, [.ref a5, .ref a6, .ref a7, .ref a8, .ref a9, .ref a10, .ref a11, .ref a12, .ref a1])), (a2, .inl (E.2.2 2, 240, .inr (.inl f0))), (a3, .inl (E.2.2 0, 4, .inl f1)), (a1, .inr (5, [.ref a2, .ref a3, .ref a4])), (a4, .inl (E.2.2 0, 4, .inl f2))] 0 0
        refine mp_run hF mp_tabX9_ok [mp_i (.aload_n 0), mp_h (.getfield 67) [44, 0], mp_i (.iload_n 3)] (by decide +kernel) ?_
        refine And.intro rfl (And.intro rfl ?_)
        show mp_W E X 6 41 [(0, .ref a0), (1, .int x0), (2, .int x1), (3, .int x2), (4, .int x3), (5, .int x4)] [.int x2, .ref a1] [(a0, .inr (9, [.ref a5, .ref a6, .ref a7, .ref a8, .ref a9, .ref a10, .ref a11, .ref a12, .ref a1])), (a2, .inl (E.2.2 2, 240, .inr (.inl f0))), (a3, .inl (E.2.2 0, 4, .inl f1)), (a1, .inr (5, [.ref a2, .ref a3, .ref a4])), (a4, .inl (E.2.2 0, 4, .inl f2))] 0 0
        refine mp_callV hF (As := [.int x2]) (rest := []) (wr := [(a0, .inr (9, [.ref a5, .ref a6, .ref a7, .ref a8, .ref a9, .ref a10, .ref a11, .ref a12, .ref a1])), (a2, .inl (E.2.2 2, 240, .inr (.inl f0))), (a3, .inl (E.2.2 0, 4, .inl f1))]) (bX5_isTaken_135 E a1 a4 a2 a3 f2 x2 p0 (by omega) (by omega)) mp_lkX9_358 3 rfl [3, 4] [0, 1, 2] rfl rfl rfl rfl rfl ⟨(Nat.le_of_ble_eq_true rfl), (Nat.le_of_ble_eq_true rfl), (Nat.le_of_ble_eq_true rfl), (Nat.le_of_ble_eq_true rfl)⟩ (Nat.le_of_ble_eq_true rfl) (by decide +kernel) (fun v_20 w_21 h_22 => ?_)
        rcases h_22 with ⟨rfl, rfl⟩ | ⟨rfl, rfl⟩
        · skip
          show mp_W E X 6 44 [(0, .ref a0), (1, .int x0), (2, .int x1), (3, .int x2), (4, .int x3), (5, .int x4)] [.int 0] [(a0, .inr (9, [.ref a5, .ref a6, .ref a7, .ref a8, .ref a9, .ref a10, .ref a11, .ref a12, .ref a1])), (a2, .inl (E.2.2 2, 240, .inr (.inl f0))), (a3, .inl (E.2.2 0, 4, .inl f1)), (a1, .inr (5, [.ref a2, .ref a3, .ref a4])), (a4, .inl (E.2.2 0, 4, .inl f2))] 0 0
          refine mp_run hF mp_tabX9_ok [mp_h (.ifCond .ne 6) [50]] (by decide +kernel) ?_
          refine And.intro (fun c_23 => absurd c_23 (by decide)) (fun _ => ?_)
          show mp_W E X 6 47 [(0, .ref a0), (1, .int x0), (2, .int x1), (3, .int x2), (4, .int x3), (5, .int x4)] [] [(a0, .inr (9, [.ref a5, .ref a6, .ref a7, .ref a8, .ref a9, .ref a10, .ref a11, .ref a12, .ref a1])), (a2, .inl (E.2.2 2, 240, .inr (.inl f0))), (a3, .inl (E.2.2 0, 4, .inl f1)), (a1, .inr (5, [.ref a2, .ref a3, .ref a4])), (a4, .inl (E.2.2 0, 4, .inl f2))] 0 0
          refine mp_run hF mp_tabX9_ok [mp_c (.bipush (-6)) (-6)] (by decide +kernel) ?_
          show mp_W E X 6 49 [(0, .ref a0), (1, .int x0), (2, .int x1), (3, .int x2), (4, .int x3), (5, .int x4)] [.int (-6)] [(a0, .inr (9, [.ref a5, .ref a6, .ref a7, .ref a8, .ref a9, .ref a10, .ref a11, .ref a12, .ref a1])), (a2, .inl (E.2.2 2, 240, .inr (.inl f0))), (a3, .inl (E.2.2 0, 4, .inl f1)), (a1, .inr (5, [.ref a2, .ref a3, .ref a4])), (a4, .inl (E.2.2 0, 4, .inl f2))] 0 0
          exact mp_iret hF hQ rfl rfl (Nat.le_of_ble_eq_true rfl) (Nat.le_of_ble_eq_true rfl) [0, 3, 1, 2, 4] (w' := [(a0, .inr (9, [.ref a5, .ref a6, .ref a7, .ref a8, .ref a9, .ref a10, .ref a11, .ref a12, .ref a1])), (a1, .inr (5, [.ref a2, .ref a3, .ref a4])), (a2, .inl (E.2.2 2, 240, .inr (.inl f0))), (a3, .inl (E.2.2 0, 4, .inl f1)), (a4, .inl (E.2.2 0, 4, .inl f2))]) rfl rfl ⟨f0, (-6), rfl, (by decide), (by decide), rfl⟩ (by decide +kernel)
        · skip
          show mp_W E X 6 44 [(0, .ref a0), (1, .int x0), (2, .int x1), (3, .int x2), (4, .int x3), (5, .int x4)] [.int 1] [(a0, .inr (9, [.ref a5, .ref a6, .ref a7, .ref a8, .ref a9, .ref a10, .ref a11, .ref a12, .ref a1])), (a2, .inl (E.2.2 2, 240, .inr (.inl f0))), (a3, .inl (E.2.2 0, 4, .inl f1)), (a1, .inr (5, [.ref a2, .ref a3, .ref a4])), (a4, .inl (E.2.2 0, 4, .inl f2))] 0 0
          refine mp_run hF mp_tabX9_ok [mp_h (.ifCond .ne 6) [50]] (by decide +kernel) ?_
          refine And.intro (fun _ => ?_) (fun c_24 => absurd c_24 (by decide))
          show mp_W E X 6 50 [(0, .ref a0), (1, .int x0), (2, .int x1), (3, .int x2), (4, .int x3), (5, .int x4)] [] [(a0, .inr (9, [.ref a5, .ref a6, .ref a7, .ref a8, .ref a9, .ref a10, .ref a11, .ref a12, .ref a1])), (a2, .inl (E.2.2 2, 240, .inr (.inl f0))), (a3, .inl (E.2.2 0, 4, .inl f1)), (a1, .inr (5, [.ref a2, .ref a3, .ref a4])), (a4, .inl (E.2.2 0, 4, .inl f2))] 0 0
          refine mp_run hF mp_tabX9_ok [mp_i (.aload_n 0), mp_h (.getfield 67) [44, 0], mp_h (.getfield 368) [34, 3], mp_i (.iload_n 1), mp_h .iaload [2], mp_i (.aload_n 0), mp_h (.getfield 67) [44, 0], mp_h (.getfield 368) [34, 3], mp_i (.iload_n 3), mp_h .iaload [2], mp_h (.if_icmp .eq 6) [74]] (by decide +kernel) ?_
          refine And.intro rfl (And.intro rfl ?_)
          refine And.intro rfl (And.intro rfl ?_)
          refine And.intro rfl (And.intro rfl (And.intro (vp_in_iff.mpr (by omega)) ?_))
          intro z_25 h_26
          refine And.intro rfl (And.intro rfl ?_)
          refine And.intro rfl (And.intro rfl ?_)
          refine And.intro rfl (And.intro rfl (And.intro (vp_in_iff.mpr (by omega)) ?_))
          intro z_27 h_28
          refine And.intro (fun c_29 => ?_) (fun c_29 => ?_)
          · have c_29 : z_25.toInt = z_27.toInt := (congrArg Int32.toInt c_29)
            show mp_W E X 6 74 [(0, .ref a0), (1, .int x0), (2, .int x1), (3, .int x2), (4, .int x3), (5, .int x4)] [] [(a0, .inr (9, [.ref a5, .ref a6, .ref a7, .ref a8, .ref a9, .ref a10, .ref a11, .ref a12, .ref a1])), (a2, .inl (E.2.2 2, 240, .inr (.inl f0))), (a3, .inl (E.2.2 0, 4, .inl f1)), (a1, .inr (5, [.ref a2, .ref a3, .ref a4])), (a4, .inl (E.2.2 0, 4, .inl f2))] 0 0
            refine mp_run hF mp_tabX9_ok [mp_i (.aload_n 0), mp_h (.getfield 67) [44, 0], mp_i (.iload_n 1), mp_i (.iload_n 2), mp_i (.iload 5)] (by decide +kernel) ?_
            refine And.intro rfl (And.intro rfl ?_)
            show mp_W E X 6 82 [(0, .ref a0), (1, .int x0), (2, .int x1), (3, .int x2), (4, .int x3), (5, .int x4)] [.int x4, .int x1, .int x0, .ref a1] [(a0, .inr (9, [.ref a5, .ref a6, .ref a7, .ref a8, .ref a9, .ref a10, .ref a11, .ref a12, .ref a1])), (a2, .inl (E.2.2 2, 240, .inr (.inl f0))), (a3, .inl (E.2.2 0, 4, .inl f1)), (a1, .inr (5, [.ref a2, .ref a3, .ref a4])), (a4, .inl (E.2.2 0, 4, .inl f2))] 0 0
            refine mp_callV hF (As := [.int x0, .int x1, .int x4]) (rest := []) (wr := [(a0, .inr (9, [.ref a5, .ref a6, .ref a7, .ref a8, .ref a9, .ref a10, .ref a11, .ref a12, .ref a1])), (a2, .inl (E.2.2 2, 240, .inr (.inl f0))), (a3, .inl (E.2.2 0, 4, .inl f1))]) (bX5_holds_182 E a1 a4 a2 a3 f2 x0 x1 x4 p0 (by omega) (by omega)) mp_lkX9_371 3 rfl [3, 4] [0, 1, 2] rfl rfl rfl rfl rfl ⟨(Nat.le_of_ble_eq_true rfl), (Nat.le_of_ble_eq_true rfl), (Nat.le_of_ble_eq_true rfl), (Nat.le_of_ble_eq_true rfl)⟩ (Nat.le_of_ble_eq_true rfl) (by decide +kernel) (fun v_30 w_31 h_32 => ?_)
            rcases h_32 with ⟨rfl, rfl⟩ | ⟨rfl, c_33, c_34, x_35, rfl⟩
            · skip
              show mp_W E X 6 85 [(0, .ref a0), (1, .int x0), (2, .int x1), (3, .int x2), (4, .int x3), (5, .int x4)] [.int 0] [(a0, .inr (9, [.ref a5, .ref a6, .ref a7, .ref a8, .ref a9, .ref a10, .ref a11, .ref a12, .ref a1])), (a2, .inl (E.2.2 2, 240, .inr (.inl f0))), (a3, .inl (E.2.2 0, 4, .inl f1)), (a1, .inr (5, [.ref a2, .ref a3, .ref a4])), (a4, .inl (E.2.2 0, 4, .inl f2))] 0 0
              refine mp_run hF mp_tabX9_ok [mp_h (.ifCond .eq 18) [103]] (by decide +kernel) ?_
              refine And.intro (fun _ => ?_) (fun c_36 => absurd c_36 (by decide))
              show mp_W E X 6 103 [(0, .ref a0), (1, .int x0), (2, .int x1), (3, .int x2), (4, .int x3), (5, .int x4)] [] [(a0, .inr (9, [.ref a5, .ref a6, .ref a7, .ref a8, .ref a9, .ref a10, .ref a11, .ref a12, .ref a1])), (a2, .inl (E.2.2 2, 240, .inr (.inl f0))), (a3, .inl (E.2.2 0, 4, .inl f1)), (a1, .inr (5, [.ref a2, .ref a3, .ref a4])), (a4, .inl (E.2.2 0, 4, .inl f2))] 0 0
              refine mp_run hF mp_tabX9_ok [mp_c (.bipush (-7)) (-7)] (by decide +kernel) ?_
              show mp_W E X 6 105 [(0, .ref a0), (1, .int x0), (2, .int x1), (3, .int x2), (4, .int x3), (5, .int x4)] [.int (-7)] [(a0, .inr (9, [.ref a5, .ref a6, .ref a7, .ref a8, .ref a9, .ref a10, .ref a11, .ref a12, .ref a1])), (a2, .inl (E.2.2 2, 240, .inr (.inl f0))), (a3, .inl (E.2.2 0, 4, .inl f1)), (a1, .inr (5, [.ref a2, .ref a3, .ref a4])), (a4, .inl (E.2.2 0, 4, .inl f2))] 0 0
              exact mp_iret hF hQ rfl rfl (Nat.le_of_ble_eq_true rfl) (Nat.le_of_ble_eq_true rfl) [0, 3, 1, 2, 4] (w' := [(a0, .inr (9, [.ref a5, .ref a6, .ref a7, .ref a8, .ref a9, .ref a10, .ref a11, .ref a12, .ref a1])), (a1, .inr (5, [.ref a2, .ref a3, .ref a4])), (a2, .inl (E.2.2 2, 240, .inr (.inl f0))), (a3, .inl (E.2.2 0, 4, .inl f1)), (a4, .inl (E.2.2 0, 4, .inl f2))]) rfl rfl ⟨f0, (-7), rfl, (by decide), (by decide), rfl⟩ (by decide +kernel)
            · skip
              have c_33 : 0 ≤ x1.toInt := c_33
              have c_34 : 0 ≤ x4.toInt := c_34
              show mp_W E X 6 85 [(0, .ref a0), (1, .int x0), (2, .int x1), (3, .int x2), (4, .int x3), (5, .int x4)] [.int 1] [(a0, .inr (9, [.ref a5, .ref a6, .ref a7, .ref a8, .ref a9, .ref a10, .ref a11, .ref a12, .ref a1])), (a2, .inl (E.2.2 2, 240, .inr (.inl f0))), (a3, .inl (E.2.2 0, 4, .inl f1)), (a1, .inr (5, [.ref a2, .ref a3, .ref a4])), (a4, .inl (E.2.2 0, 4, .inl f2))] 0 0
              refine mp_run hF mp_tabX9_ok [mp_h (.ifCond .eq 18) [103]] (by decide +kernel) ?_
              refine And.intro (fun c_37 => absurd c_37 (by decide)) (fun _ => ?_)
              show mp_W E X 6 88 [(0, .ref a0), (1, .int x0), (2, .int x1), (3, .int x2), (4, .int x3), (5, .int x4)] [] [(a0, .inr (9, [.ref a5, .ref a6, .ref a7, .ref a8, .ref a9, .ref a10, .ref a11, .ref a12, .ref a1])), (a2, .inl (E.2.2 2, 240, .inr (.inl f0))), (a3, .inl (E.2.2 0, 4, .inl f1)), (a1, .inr (5, [.ref a2, .ref a3, .ref a4])), (a4, .inl (E.2.2 0, 4, .inl f2))] 0 0
              refine mp_run hF mp_tabX9_ok [mp_i (.aload_n 0), mp_h (.getfield 67) [44, 0], mp_i (.iload_n 3), mp_i (.iload 4), mp_i (.iload 5)] (by decide +kernel) ?_
              refine And.intro rfl (And.intro rfl ?_)
              show mp_W E X 6 97 [(0, .ref a0), (1, .int x0), (2, .int x1), (3, .int x2), (4, .int x3), (5, .int x4)] [.int x4, .int x3, .int x2, .ref a1] [(a0, .inr (9, [.ref a5, .ref a6, .ref a7, .ref a8, .ref a9, .ref a10, .ref a11, .ref a12, .ref a1])), (a2, .inl (E.2.2 2, 240, .inr (.inl f0))), (a3, .inl (E.2.2 0, 4, .inl f1)), (a1, .inr (5, [.ref a2, .ref a3, .ref a4])), (a4, .inl (E.2.2 0, 4, .inl f2))] 0 0
              refine mp_callV hF (As := [.int x2, .int x3, .int x4]) (rest := []) (wr := [(a0, .inr (9, [.ref a5, .ref a6, .ref a7, .ref a8, .ref a9, .ref a10, .ref a11, .ref a12, .ref a1])), (a2, .inl (E.2.2 2, 240, .inr (.inl f0))), (a3, .inl (E.2.2 0, 4, .inl f1))]) (bX5_holds_182 E a1 a4 a2 a3 f2 x2 x3 x4 p0 (by omega) (by omega)) mp_lkX9_371 3 rfl [3, 4] [0, 1, 2] rfl rfl rfl rfl rfl ⟨(Nat.le_of_ble_eq_true rfl), (Nat.le_of_ble_eq_true rfl), (Nat.le_of_ble_eq_true rfl), (Nat.le_of_ble_eq_true rfl)⟩ (Nat.le_of_ble_eq_true rfl) (by decide +kernel) (fun v_38 w_39 h_40 => ?_)
              rcases h_40 with ⟨rfl, rfl⟩ | ⟨rfl, c_41, c_42, x_43, rfl⟩
              · skip
                show mp_W E X 6 100 [(0, .ref a0), (1, .int x0), (2, .int x1), (3, .int x2), (4, .int x3), (5, .int x4)] [.int 0] [(a0, .inr (9, [.ref a5, .ref a6, .ref a7, .ref a8, .ref a9, .ref a10, .ref a11, .ref a12, .ref a1])), (a2, .inl (E.2.2 2, 240, .inr (.inl f0))), (a3, .inl (E.2.2 0, 4, .inl f1)), (a1, .inr (5, [.ref a2, .ref a3, .ref a4])), (a4, .inl (E.2.2 0, 4, .inl f2))] 0 0
                refine mp_run hF mp_tabX9_ok [mp_h (.ifCond .ne 6) [106]] (by decide +kernel) ?_
                refine And.intro (fun c_44 => absurd c_44 (by decide)) (fun _ => ?_)
                show mp_W E X 6 103 [(0, .ref a0), (1, .int x0), (2, .int x1), (3, .int x2), (4, .int x3), (5, .int x4)] [] [(a0, .inr (9, [.ref a5, .ref a6, .ref a7, .ref a8, .ref a9, .ref a10, .ref a11, .ref a12, .ref a1])), (a2, .inl (E.2.2 2, 240, .inr (.inl f0))), (a3, .inl (E.2.2 0, 4, .inl f1)), (a1, .inr (5, [.ref a2, .ref a3, .ref a4])), (a4, .inl (E.2.2 0, 4, .inl f2))] 0 0
                refine mp_run hF mp_tabX9_ok [mp_c (.bipush (-7)) (-7)] (by decide +kernel) ?_
                show mp_W E X 6 105 [(0, .ref a0), (1, .int x0), (2, .int x1), (3, .int x2), (4, .int x3), (5, .int x4)] [.int (-7)] [(a0, .inr (9, [.ref a5, .ref a6, .ref a7, .ref a8, .ref a9, .ref a10, .ref a11, .ref a12, .ref a1])), (a2, .inl (E.2.2 2, 240, .inr (.inl f0))), (a3, .inl (E.2.2 0, 4, .inl f1)), (a1, .inr (5, [.ref a2, .ref a3, .ref a4])), (a4, .inl (E.2.2 0, 4, .inl f2))] 0 0
                exact mp_iret hF hQ rfl rfl (Nat.le_of_ble_eq_true rfl) (Nat.le_of_ble_eq_true rfl) [0, 3, 1, 2, 4] (w' := [(a0, .inr (9, [.ref a5, .ref a6, .ref a7, .ref a8, .ref a9, .ref a10, .ref a11, .ref a12, .ref a1])), (a1, .inr (5, [.ref a2, .ref a3, .ref a4])), (a2, .inl (E.2.2 2, 240, .inr (.inl f0))), (a3, .inl (E.2.2 0, 4, .inl f1)), (a4, .inl (E.2.2 0, 4, .inl f2))]) rfl rfl ⟨f0, (-7), rfl, (by decide), (by decide), rfl⟩ (by decide +kernel)
              · skip
                have c_41 : 0 ≤ x3.toInt := c_41
                have c_42 : 0 ≤ x4.toInt := c_42
                show mp_W E X 6 100 [(0, .ref a0), (1, .int x0), (2, .int x1), (3, .int x2), (4, .int x3), (5, .int x4)] [.int 1] [(a0, .inr (9, [.ref a5, .ref a6, .ref a7, .ref a8, .ref a9, .ref a10, .ref a11, .ref a12, .ref a1])), (a2, .inl (E.2.2 2, 240, .inr (.inl f0))), (a3, .inl (E.2.2 0, 4, .inl f1)), (a1, .inr (5, [.ref a2, .ref a3, .ref a4])), (a4, .inl (E.2.2 0, 4, .inl f2))] 0 0
                refine mp_run hF mp_tabX9_ok [mp_h (.ifCond .ne 6) [106]] (by decide +kernel) ?_
                refine And.intro (fun _ => ?_) (fun c_45 => absurd c_45 (by decide))
                show mp_W E X 6 106 [(0, .ref a0), (1, .int x0), (2, .int x1), (3, .int x2), (4, .int x3), (5, .int x4)] [] [(a0, .inr (9, [.ref a5, .ref a6, .ref a7, .ref a8, .ref a9, .ref a10, .ref a11, .ref a12, .ref a1])), (a2, .inl (E.2.2 2, 240, .inr (.inl f0))), (a3, .inl (E.2.2 0, 4, .inl f1)), (a1, .inr (5, [.ref a2, .ref a3, .ref a4])), (a4, .inl (E.2.2 0, 4, .inl f2))] 0 0
                refine mp_run hF mp_tabX9_ok [mp_i (.aload_n 0), mp_h (.getfield 67) [44, 0], mp_i (.iload_n 1), mp_i (.iload_n 2), mp_i (.iload_n 3), mp_i (.iload 4), mp_i (.iload 5)] (by decide +kernel) ?_
                refine And.intro rfl (And.intro rfl ?_)
                show mp_W E X 6 117 [(0, .ref a0), (1, .int x0), (2, .int x1), (3, .int x2), (4, .int x3), (5, .int x4)] [.int x4, .int x3, .int x2, .int x1, .int x0, .ref a1] [(a0, .inr (9, [.ref a5, .ref a6, .ref a7, .ref a8, .ref a9, .ref a10, .ref a11, .ref a12, .ref a1])), (a2, .inl (E.2.2 2, 240, .inr (.inl f0))), (a3, .inl (E.2.2 0, 4, .inl f1)), (a1, .inr (5, [.ref a2, .ref a3, .ref a4])), (a4, .inl (E.2.2 0, 4, .inl f2))] 0 0
                refine mp_callV hF (As := [.int x0, .int x1, .int x2, .int x3, .int x4]) (rest := []) (wr := [(a0, .inr (9, [.ref a5, .ref a6, .ref a7, .ref a8, .ref a9, .ref a10, .ref a11, .ref a12, .ref a1])), (a3, .inl (E.2.2 0, 4, .inl f1)), (a4, .inl (E.2.2 0, 4, .inl f2))]) (bX5_move_183 E a1 a2 a3 a4 f0 x0 x1 x2 x3 x4 (by omega) (by omega) (by omega) (by omega) (by omega) (by omega) (by omega) (by omega) (by omega) (by omega) (by omega) (by omega)) mp_lkX9_374 3 rfl [3, 1] [0, 2, 4] rfl rfl rfl rfl rfl ⟨(Nat.le_of_ble_eq_true rfl), (Nat.le_of_ble_eq_true rfl), (Nat.le_of_ble_eq_true rfl), (Nat.le_of_ble_eq_true rfl)⟩ (Nat.le_of_ble_eq_true rfl) (by decide +kernel) (fun v_46 w_47 h_48 => ?_)
                obtain ⟨g_49, rfl, rfl⟩ := h_48
                show mp_W E X 6 120 [(0, .ref a0), (1, .int x0), (2, .int x1), (3, .int x2), (4, .int x3), (5, .int x4)] [] [(a0, .inr (9, [.ref a5, .ref a6, .ref a7, .ref a8, .ref a9, .ref a10, .ref a11, .ref a12, .ref a1])), (a3, .inl (E.2.2 0, 4, .inl f1)), (a4, .inl (E.2.2 0, 4, .inl f2)), (a1, .inr (5, [.ref a2, .ref a3, .ref a4])), (a2, .inl (E.2.2 2, 240, .inr (.inl g_49)))] 0 0
                refine mp_run hF mp_tabX9_ok [mp_c (.iconst 0) 0] (by decide +kernel) ?_
                show mp_W E X 6 121 [(0, .ref a0), (1, .int x0), (2, .int x1), (3, .int x2), (4, .int x3), (5, .int x4)] [.int 0] [(a0, .inr (9, [.ref a5, .ref a6, .ref a7, .ref a8, .ref a9, .ref a10, .ref a11, .ref a12, .ref a1])), (a3, .inl (E.2.2 0, 4, .inl f1)), (a4, .inl (E.2.2 0, 4, .inl f2)), (a1, .inr (5, [.ref a2, .ref a3, .ref a4])), (a2, .inl (E.2.2 2, 240, .inr (.inl g_49)))] 0 0
                exact mp_iret hF hQ rfl rfl (Nat.le_of_ble_eq_true rfl) (Nat.le_of_ble_eq_true rfl) [0, 3, 4, 1, 2] (w' := [(a0, .inr (9, [.ref a5, .ref a6, .ref a7, .ref a8, .ref a9, .ref a10, .ref a11, .ref a12, .ref a1])), (a1, .inr (5, [.ref a2, .ref a3, .ref a4])), (a2, .inl (E.2.2 2, 240, .inr (.inl g_49))), (a3, .inl (E.2.2 0, 4, .inl f1)), (a4, .inl (E.2.2 0, 4, .inl f2))]) rfl rfl ⟨g_49, 0, rfl, (by decide), (by decide), rfl⟩ (by decide +kernel)
          · have c_29 : z_25.toInt ≠ z_27.toInt := c_29
            show mp_W E X 6 71 [(0, .ref a0), (1, .int x0), (2, .int x1), (3, .int x2), (4, .int x3), (5, .int x4)] [] [(a0, .inr (9, [.ref a5, .ref a6, .ref a7, .ref a8, .ref a9, .ref a10, .ref a11, .ref a12, .ref a1])), (a2, .inl (E.2.2 2, 240, .inr (.inl f0))), (a3, .inl (E.2.2 0, 4, .inl f1)), (a1, .inr (5, [.ref a2, .ref a3, .ref a4])), (a4, .inl (E.2.2 0, 4, .inl f2))] 0 0
            refine mp_run hF mp_tabX9_ok [mp_c (.bipush (-8)) (-8)] (by decide +kernel) ?_
            show mp_W E X 6 73 [(0, .ref a0), (1, .int x0), (2, .int x1), (3, .int x2), (4, .int x3), (5, .int x4)] [.int (-8)] [(a0, .inr (9, [.ref a5, .ref a6, .ref a7, .ref a8, .ref a9, .ref a10, .ref a11, .ref a12, .ref a1])), (a2, .inl (E.2.2 2, 240, .inr (.inl f0))), (a3, .inl (E.2.2 0, 4, .inl f1)), (a1, .inr (5, [.ref a2, .ref a3, .ref a4])), (a4, .inl (E.2.2 0, 4, .inl f2))] 0 0
            exact mp_iret hF hQ rfl rfl (Nat.le_of_ble_eq_true rfl) (Nat.le_of_ble_eq_true rfl) [0, 3, 1, 2, 4] (w' := [(a0, .inr (9, [.ref a5, .ref a6, .ref a7, .ref a8, .ref a9, .ref a10, .ref a11, .ref a12, .ref a1])), (a1, .inr (5, [.ref a2, .ref a3, .ref a4])), (a2, .inl (E.2.2 2, 240, .inr (.inl f0))), (a3, .inl (E.2.2 0, 4, .inl f1)), (a4, .inl (E.2.2 0, 4, .inl f2))]) rfl rfl ⟨f0, (-8), rfl, (by decide), (by decide), rfl⟩ (by decide +kernel)
