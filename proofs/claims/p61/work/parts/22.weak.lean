set_option maxHeartbeats 4000000 in
set_option maxRecDepth 100000 in
theorem bX9_row_180 (E : mp_E) (a0 a1 a2 a3 a4 a5 a6 a7 a8 a9 a10 a11 a12 : Nat) (f0 : Nat → Int64) (f1 : Nat → Int32) (f2 : Nat → Int32) (x0 : Int32) (x1 : Int32) (x2 : Int32) (p0 : mp_all f2 4 (-1) 60) : mp_Ct E yX9_row cX9_row 4 (some FieldType.int) 1 0 0 24 [.ref a0, .int x0, .int x1, .int x2] [(mp_ob9 a0 a5 a6 a7 a8 a9 a10 a11 a12 a1), (mp_ob5 a1 a2 a3 a4), (mp_arL E a2 240 f0), (mp_arI E a3 0 4 f1), (mp_arI E a4 0 4 f2)] (fun v w' => (v = some (.int (-2)) ∧ (x0.toInt < 0 ∨ 3 < x0.toInt ∨ x1.toInt < 0 ∨ 3 < x1.toInt ∨ 60 < x2.toInt) ∧ w' = [(mp_ob9 a0 a5 a6 a7 a8 a9 a10 a11 a12 a1), (mp_ob5 a1 a2 a3 a4), (mp_arL E a2 240 f0), (mp_arI E a3 0 4 f1), (mp_arI E a4 0 4 f2)]) ∨ (∃ h1 : Nat → Int64, ∃ h2 : Nat → Int32, ∃ h3 : Nat → Int32, v = some (.int 0) ∧ 0 ≤ x0.toInt ∧ x0.toInt < 4 ∧ 0 ≤ x1.toInt ∧ x1.toInt < 4 ∧ x2.toInt ≤ 60 ∧ 0 ≤ x2.toInt ∧ mp_all h3 4 (-1) 60 ∧ (0 ≤ x0.toInt ∧ x0.toInt ≤ 3 ∧ 0 ≤ x1.toInt ∧ x1.toInt ≤ 3 ∧ 0 ≤ x2.toInt ∧ x2.toInt ≤ 60) ∧ (h2 = upd f1 x0.toNatClampNeg x1) ∧ (h3 = upd f2 x0.toNatClampNeg x2) ∧ w' = [(mp_ob9 a0 a5 a6 a7 a8 a9 a10 a11 a12 a1), (mp_ob5 a1 a2 a3 a4), (mp_arL E a2 240 h1), (mp_arI E a3 0 4 h2), (mp_arI E a4 0 4 h3)]) ∨ (v = some (.int (-3)) ∧ 0 ≤ x0.toInt ∧ x0.toInt < 4 ∧ 0 ≤ x1.toInt ∧ x1.toInt < 4 ∧ x2.toInt ≤ 60 ∧ x2.toInt < 0 ∧ (0 ≤ x0.toInt ∧ x0.toInt ≤ 3 ∧ 0 ≤ x1.toInt ∧ x1.toInt ≤ 3 ∧ x2.toInt < 0) ∧ w' = [(mp_ob9 a0 a5 a6 a7 a8 a9 a10 a11 a12 a1), (mp_ob5 a1 a2 a3 a4), (mp_arL E a2 240 f0), (mp_arI E a3 0 4 f1), (mp_arI E a4 0 4 f2)])) := by
  refine mp_met false (by decide) (by decide) (Nat.le_of_ble_eq_true rfl) (fun X hF hQ => ?_)
  have hF : mp_F E X (RX9, cX9_row, 4, (1, 0, 0, 24), (some FieldType.int), false) := hF
  let w1_ : va_W := [(mp_ob9 a0 a5 a6 a7 a8 a9 a10 a11 a12 a1), (mp_ob5 a1 a2 a3 a4), (mp_arL E a2 240 f0), (mp_arI E a3 0 4 f1), (mp_arI E a4 0 4 f2)]
  show mp_W E X 4 0 [(0, .ref a0), (1, .int x0), (2, .int x1), (3, .int x2)] [] w1_ 0 0
  refine mp_run mp_k_cX9_row_ok hF mp_tabX9_ok [mp_i (.aload_n 0), mp_h (.getfield 67) [44, 0], mp_i (.iload_n 1)] (by decide +kernel) ?_
  refine And.intro rfl (And.intro rfl ?_)
  show mp_W E X 4 5 [(0, .ref a0), (1, .int x0), (2, .int x1), (3, .int x2)] [.int x0, .ref a1] w1_ 0 0
  refine mp_callV hF (As := [.int x0]) (rest := []) (wr := w1_) (bX5_isSlot_138 E a1 x0) mp_lkX9_351 1 rfl [] [0, 1, 2, 3, 4] rfl rfl rfl rfl rfl ⟨(Nat.le_of_ble_eq_true rfl), (Nat.le_of_ble_eq_true rfl), (Nat.le_of_ble_eq_true rfl), (Nat.le_of_ble_eq_true rfl)⟩ (Nat.le_of_ble_eq_true rfl) (by first | exact mp_fd_ok mp_k_cX9_row_ok (by decide +kernel) | decide +kernel) (fun v_1 w_2 h_3 => ?_)
  rcases h_3 with ⟨rfl, x_4, rfl⟩ | ⟨rfl, c_5, c_6, x_7, rfl⟩
  · skip
    show mp_W E X 4 8 [(0, .ref a0), (1, .int x0), (2, .int x1), (3, .int x2)] [.int 0] w1_ 0 0
    refine mp_run mp_k_cX9_row_ok hF mp_tabX9_ok [mp_h (.ifCond .eq 18) [26]] (by decide +kernel) ?_
    refine And.intro (fun _ => ?_) (fun c_8 => absurd c_8 (by decide))
    show mp_W E X 4 26 [(0, .ref a0), (1, .int x0), (2, .int x1), (3, .int x2)] [] w1_ 0 0
    refine mp_run mp_k_cX9_row_ok hF mp_tabX9_ok [mp_c (.bipush (-2)) (-2)] (by decide +kernel) ?_
    show mp_W E X 4 28 [(0, .ref a0), (1, .int x0), (2, .int x1), (3, .int x2)] [.int (-2)] w1_ 0 0
    exact mp_iret hF hQ rfl rfl (Nat.le_of_ble_eq_true rfl) (Nat.le_of_ble_eq_true rfl) [0, 1, 2, 3, 4] (w' := w1_) rfl rfl (Or.inl ⟨rfl, (by first | omega | (have h8 : (0 : Int64).toInt = 0 := rfl; have h9 : (3 : Int64).toInt = 3 := rfl; have h10 : (0 : Int32).toInt = 0 := rfl; have h11 : (3 : Int32).toInt = 3 := rfl; have h12 : (60 : Int32).toInt = 60 := rfl; have h13 : (-1 : Int32).toInt = -1 := rfl; omega)), rfl⟩) (by first | exact mp_fd_ok mp_k_cX9_row_ok (by decide +kernel) | decide +kernel)
  · skip
    have c_5 : 0 ≤ x0.toInt := c_5
    have c_6 : x0.toInt < 4 := c_6
    show mp_W E X 4 8 [(0, .ref a0), (1, .int x0), (2, .int x1), (3, .int x2)] [.int 1] w1_ 0 0
    refine mp_run mp_k_cX9_row_ok hF mp_tabX9_ok [mp_h (.ifCond .eq 18) [26]] (by decide +kernel) ?_
    refine And.intro (fun c_9 => absurd c_9 (by decide)) (fun _ => ?_)
    show mp_W E X 4 11 [(0, .ref a0), (1, .int x0), (2, .int x1), (3, .int x2)] [] w1_ 0 0
    refine mp_run mp_k_cX9_row_ok hF mp_tabX9_ok [mp_i (.iload_n 2), mp_h (.ifCond .lt 14) [26]] (by decide +kernel) ?_
    refine And.intro (fun c_10 => ?_) (fun c_10 => ?_)
    · have c_10 : x1.toInt < 0 := c_10
      show mp_W E X 4 26 [(0, .ref a0), (1, .int x0), (2, .int x1), (3, .int x2)] [] w1_ 0 0
      refine mp_run mp_k_cX9_row_ok hF mp_tabX9_ok [mp_c (.bipush (-2)) (-2)] (by decide +kernel) ?_
      show mp_W E X 4 28 [(0, .ref a0), (1, .int x0), (2, .int x1), (3, .int x2)] [.int (-2)] w1_ 0 0
      exact mp_iret hF hQ rfl rfl (Nat.le_of_ble_eq_true rfl) (Nat.le_of_ble_eq_true rfl) [0, 1, 2, 3, 4] (w' := w1_) rfl rfl (Or.inl ⟨rfl, (by first | omega | (have h8 : (0 : Int64).toInt = 0 := rfl; have h9 : (3 : Int64).toInt = 3 := rfl; have h10 : (0 : Int32).toInt = 0 := rfl; have h11 : (3 : Int32).toInt = 3 := rfl; have h12 : (60 : Int32).toInt = 60 := rfl; have h13 : (-1 : Int32).toInt = -1 := rfl; omega)), rfl⟩) (by first | exact mp_fd_ok mp_k_cX9_row_ok (by decide +kernel) | decide +kernel)
    · have c_10 : 0 ≤ x1.toInt := c_10
      show mp_W E X 4 15 [(0, .ref a0), (1, .int x0), (2, .int x1), (3, .int x2)] [] w1_ 0 0
      refine mp_run mp_k_cX9_row_ok hF mp_tabX9_ok [mp_i (.iload_n 2), mp_c (.iconst 4) 4, mp_h (.if_icmp .ge 9) [26]] (by decide +kernel) ?_
      refine And.intro (fun c_11 => ?_) (fun c_11 => ?_)
      · have c_11 : 4 ≤ x1.toInt := c_11
        show mp_W E X 4 26 [(0, .ref a0), (1, .int x0), (2, .int x1), (3, .int x2)] [] w1_ 0 0
        refine mp_run mp_k_cX9_row_ok hF mp_tabX9_ok [mp_c (.bipush (-2)) (-2)] (by decide +kernel) ?_
        show mp_W E X 4 28 [(0, .ref a0), (1, .int x0), (2, .int x1), (3, .int x2)] [.int (-2)] w1_ 0 0
        exact mp_iret hF hQ rfl rfl (Nat.le_of_ble_eq_true rfl) (Nat.le_of_ble_eq_true rfl) [0, 1, 2, 3, 4] (w' := w1_) rfl rfl (Or.inl ⟨rfl, (by first | omega | (have h8 : (0 : Int64).toInt = 0 := rfl; have h9 : (3 : Int64).toInt = 3 := rfl; have h10 : (0 : Int32).toInt = 0 := rfl; have h11 : (3 : Int32).toInt = 3 := rfl; have h12 : (60 : Int32).toInt = 60 := rfl; have h13 : (-1 : Int32).toInt = -1 := rfl; omega)), rfl⟩) (by first | exact mp_fd_ok mp_k_cX9_row_ok (by decide +kernel) | decide +kernel)
      · have c_11 : x1.toInt < 4 := c_11
        show mp_W E X 4 20 [(0, .ref a0), (1, .int x0), (2, .int x1), (3, .int x2)] [] w1_ 0 0
        refine mp_run mp_k_cX9_row_ok hF mp_tabX9_ok [mp_i (.iload_n 3), mp_c (.bipush 60) 60, mp_h (.if_icmp .le 6) [29]] (by decide +kernel) ?_
        refine And.intro (fun c_12 => ?_) (fun c_12 => ?_)
        · have c_12 : x2.toInt ≤ 60 := c_12
          show mp_W E X 4 29 [(0, .ref a0), (1, .int x0), (2, .int x1), (3, .int x2)] [] w1_ 0 0
          refine mp_run mp_k_cX9_row_ok hF mp_tabX9_ok [mp_i (.iload_n 3), mp_h (.ifCond .ge 6) [36]] (by decide +kernel) ?_
          refine And.intro (fun c_13 => ?_) (fun c_13 => ?_)
          · have c_13 : 0 ≤ x2.toInt := c_13
            show mp_W E X 4 36 [(0, .ref a0), (1, .int x0), (2, .int x1), (3, .int x2)] [] w1_ 0 0
            refine mp_run mp_k_cX9_row_ok hF mp_tabX9_ok [mp_i (.aload_n 0), mp_h (.getfield 67) [44, 0], mp_i (.iload_n 1), mp_i (.iload_n 2), mp_i (.iload_n 3)] (by decide +kernel) ?_
            refine And.intro rfl (And.intro rfl ?_)
            show mp_W E X 4 43 [(0, .ref a0), (1, .int x0), (2, .int x1), (3, .int x2)] [.int x2, .int x1, .int x0, .ref a1] w1_ 0 0
            refine mp_callV hF (As := [.int x0, .int x1, .int x2]) (rest := []) (wr := [(mp_ob9 a0 a5 a6 a7 a8 a9 a10 a11 a12 a1)]) (bX5_lay_179 E a1 a2 a3 a4 f0 f1 f2 x0 x1 x2 p0 (by omega) (by omega) (by omega) (by omega)) mp_lkX9_354 1 rfl [1, 2, 3, 4] [0] rfl rfl rfl rfl rfl ⟨(Nat.le_of_ble_eq_true rfl), (Nat.le_of_ble_eq_true rfl), (Nat.le_of_ble_eq_true rfl), (Nat.le_of_ble_eq_true rfl)⟩ (Nat.le_of_ble_eq_true rfl) (by first | exact mp_fd_ok mp_k_cX9_row_ok (by decide +kernel) | decide +kernel) (fun v_14 w_15 h_16 => ?_)
            refine h_16.elim fun g_17 q_23 => q_23.elim fun g_18 q_24 => q_24.elim fun g_19 q_25 => q_25.elim fun e_26 q_27 => q_27.elim fun p_20 q_28 => q_28.elim fun x_21 q_29 => q_29.elim fun x_22 e_30 => ?_
            clear h_16 q_23 q_24 q_25 q_27 q_28 q_29
            subst e_26
            subst e_30
            let w2_ : va_W := [(mp_ob9 a0 a5 a6 a7 a8 a9 a10 a11 a12 a1), (mp_ob5 a1 a2 a3 a4), (mp_arL E a2 240 g_17), (mp_arI E a3 0 4 g_18), (mp_arI E a4 0 4 g_19)]
            show mp_W E X 4 46 [(0, .ref a0), (1, .int x0), (2, .int x1), (3, .int x2)] [] w2_ 0 0
            refine mp_run mp_k_cX9_row_ok hF mp_tabX9_ok [mp_c (.iconst 0) 0] (by decide +kernel) ?_
            show mp_W E X 4 47 [(0, .ref a0), (1, .int x0), (2, .int x1), (3, .int x2)] [.int 0] w2_ 0 0
            exact mp_iret hF hQ rfl rfl (Nat.le_of_ble_eq_true rfl) (Nat.le_of_ble_eq_true rfl) [0, 1, 2, 3, 4] (w' := w2_) rfl rfl (Or.inr (Or.inl ⟨g_17, g_18, g_19, rfl, (by first | omega | decide), (by first | omega | decide), (by first | omega | decide), (by first | omega | decide), (by first | omega | decide), (by first | omega | decide), p_20, (by first | omega | (have h8 : (0 : Int64).toInt = 0 := rfl; have h9 : (3 : Int64).toInt = 3 := rfl; have h10 : (0 : Int32).toInt = 0 := rfl; have h11 : (3 : Int32).toInt = 3 := rfl; have h12 : (60 : Int32).toInt = 60 := rfl; have h13 : (-1 : Int32).toInt = -1 := rfl; omega)), x_21, x_22, rfl⟩)) (by first | exact mp_fd_ok mp_k_cX9_row_ok (by decide +kernel) | decide +kernel)
          · have c_13 : x2.toInt < 0 := c_13
            show mp_W E X 4 33 [(0, .ref a0), (1, .int x0), (2, .int x1), (3, .int x2)] [] w1_ 0 0
            refine mp_run mp_k_cX9_row_ok hF mp_tabX9_ok [mp_c (.bipush (-3)) (-3)] (by decide +kernel) ?_
            show mp_W E X 4 35 [(0, .ref a0), (1, .int x0), (2, .int x1), (3, .int x2)] [.int (-3)] w1_ 0 0
            exact mp_iret hF hQ rfl rfl (Nat.le_of_ble_eq_true rfl) (Nat.le_of_ble_eq_true rfl) [0, 1, 2, 3, 4] (w' := w1_) rfl rfl (Or.inr (Or.inr ⟨rfl, (by first | omega | decide), (by first | omega | decide), (by first | omega | decide), (by first | omega | decide), (by first | omega | decide), (by first | omega | decide), (by first | omega | (have h8 : (0 : Int64).toInt = 0 := rfl; have h9 : (3 : Int64).toInt = 3 := rfl; have h10 : (0 : Int32).toInt = 0 := rfl; have h11 : (3 : Int32).toInt = 3 := rfl; have h12 : (60 : Int32).toInt = 60 := rfl; have h13 : (-1 : Int32).toInt = -1 := rfl; omega)), rfl⟩)) (by first | exact mp_fd_ok mp_k_cX9_row_ok (by decide +kernel) | decide +kernel)
        · have c_12 : 60 < x2.toInt := c_12
          show mp_W E X 4 26 [(0, .ref a0), (1, .int x0), (2, .int x1), (3, .int x2)] [] w1_ 0 0
          refine mp_run mp_k_cX9_row_ok hF mp_tabX9_ok [mp_c (.bipush (-2)) (-2)] (by decide +kernel) ?_
          show mp_W E X 4 28 [(0, .ref a0), (1, .int x0), (2, .int x1), (3, .int x2)] [.int (-2)] w1_ 0 0
          exact mp_iret hF hQ rfl rfl (Nat.le_of_ble_eq_true rfl) (Nat.le_of_ble_eq_true rfl) [0, 1, 2, 3, 4] (w' := w1_) rfl rfl (Or.inl ⟨rfl, (by first | omega | (have h8 : (0 : Int64).toInt = 0 := rfl; have h9 : (3 : Int64).toInt = 3 := rfl; have h10 : (0 : Int32).toInt = 0 := rfl; have h11 : (3 : Int32).toInt = 3 := rfl; have h12 : (60 : Int32).toInt = 60 := rfl; have h13 : (-1 : Int32).toInt = -1 := rfl; omega)), rfl⟩) (by first | exact mp_fd_ok mp_k_cX9_row_ok (by decide +kernel) | decide +kernel)
set_option maxHeartbeats 4000000 in
set_option maxRecDepth 100000 in
theorem bX5_cut_181 (E : mp_E) (x0 : Int64) (x1 : Int32) : mp_Ct E yX5_cut cX5_cut 3 (some FieldType.long) 0 0 0 0 [.long x0, .int x1] [] (fun v w' => ∃ r1 : Int64, v = some (.long r1) ∧ w' = []) := by
  refine mp_met false (by decide) (by decide) (Nat.le_of_ble_eq_true rfl) (fun X hF hQ => ?_)
  have hF : mp_F E X (RX5, cX5_cut, 3, (0, 0, 0, 0), (some FieldType.long), false) := hF
  show mp_W E X 3 0 [(0, .long x0), (2, .int x1)] [] [] 0 0
  refine mp_run mp_k_cX5_cut_ok hF mp_tabX5_ok [mp_i (.iload_n 2)] (by decide +kernel) ?_
  show mp_W E X 3 1 [(0, .long x0), (2, .int x1)] [.int x1] [] 0 0
  rcases (mp_swc_0_2 x1.toInt) with c_1 | c_1 | c_1 | c_1 | c_1
  · refine mp_tabOut hF (dflt := 41) (lo := 0) (hi := 2) (offs := #[27, 32, 37]) (len := 27) (by first | exact mp_fd_ok mp_k_cX5_cut_ok (by decide +kernel) | decide +kernel) (Or.inl c_1) (tgt := 42) (by decide) ?_
    show mp_W E X 3 42 [(0, .long x0), (2, .int x1)] [] [] 0 0
    refine mp_run mp_k_cX5_cut_ok hF mp_tabX5_ok [mp_i (.lload_n 0)] (by decide +kernel) ?_
    show mp_W E X 3 43 [(0, .long x0), (2, .int x1)] [.long x0] [] 0 0
    exact mp_lret hF hQ rfl (Nat.le_of_ble_eq_true rfl) (Nat.le_of_ble_eq_true rfl) [] (w' := []) rfl rfl ⟨x0, rfl, rfl⟩ (by first | exact mp_fd_ok mp_k_cX5_cut_ok (by decide +kernel) | decide +kernel)
  · refine mp_tabOut hF (dflt := 41) (lo := 0) (hi := 2) (offs := #[27, 32, 37]) (len := 27) (by first | exact mp_fd_ok mp_k_cX5_cut_ok (by decide +kernel) | decide +kernel) (Or.inr c_1) (tgt := 42) (by decide) ?_
    show mp_W E X 3 42 [(0, .long x0), (2, .int x1)] [] [] 0 0
    refine mp_run mp_k_cX5_cut_ok hF mp_tabX5_ok [mp_i (.lload_n 0)] (by decide +kernel) ?_
    show mp_W E X 3 43 [(0, .long x0), (2, .int x1)] [.long x0] [] 0 0
    exact mp_lret hF hQ rfl (Nat.le_of_ble_eq_true rfl) (Nat.le_of_ble_eq_true rfl) [] (w' := []) rfl rfl ⟨x0, rfl, rfl⟩ (by first | exact mp_fd_ok mp_k_cX5_cut_ok (by decide +kernel) | decide +kernel)
  · refine mp_tabIn hF (dflt := 41) (lo := 0) (hi := 2) (offs := #[27, 32, 37]) (len := 27) (off := 27) (tgt := 28) (by first | exact mp_fd_ok mp_k_cX5_cut_ok (by decide +kernel) | decide +kernel) (by omega) (by omega) (by rw [c_1]; rfl) (by decide) ?_
    show mp_W E X 3 28 [(0, .long x0), (2, .int x1)] [] [] 0 0
    refine mp_run mp_k_cX5_cut_ok hF mp_tabX5_ok [mp_i (.lload_n 0), mp_i .l2i, mp_i .i2b, mp_i .i2l] (by decide +kernel) ?_
    intro z_2 h_3
    intro z_4 h_5
    intro z_6 h_7
    have e_8 : z_6.toInt = z_4.toInt := mp_i2l h_7
    show mp_W E X 3 32 [(0, .long x0), (2, .int x1)] [.long z_6] [] 0 0
    exact mp_lret hF hQ rfl (Nat.le_of_ble_eq_true rfl) (Nat.le_of_ble_eq_true rfl) [] (w' := []) rfl rfl ⟨z_6, rfl, rfl⟩ (by first | exact mp_fd_ok mp_k_cX5_cut_ok (by decide +kernel) | decide +kernel)
  · refine mp_tabIn hF (dflt := 41) (lo := 0) (hi := 2) (offs := #[27, 32, 37]) (len := 27) (off := 32) (tgt := 33) (by first | exact mp_fd_ok mp_k_cX5_cut_ok (by decide +kernel) | decide +kernel) (by omega) (by omega) (by rw [c_1]; rfl) (by decide) ?_
    show mp_W E X 3 33 [(0, .long x0), (2, .int x1)] [] [] 0 0
    refine mp_run mp_k_cX5_cut_ok hF mp_tabX5_ok [mp_i (.lload_n 0), mp_i .l2i, mp_i .i2s, mp_i .i2l] (by decide +kernel) ?_
    intro z_9 h_10
    intro z_11 h_12
    intro z_13 h_14
    have e_15 : z_13.toInt = z_11.toInt := mp_i2l h_14
    show mp_W E X 3 37 [(0, .long x0), (2, .int x1)] [.long z_13] [] 0 0
    exact mp_lret hF hQ rfl (Nat.le_of_ble_eq_true rfl) (Nat.le_of_ble_eq_true rfl) [] (w' := []) rfl rfl ⟨z_13, rfl, rfl⟩ (by first | exact mp_fd_ok mp_k_cX5_cut_ok (by decide +kernel) | decide +kernel)
  · refine mp_tabIn hF (dflt := 41) (lo := 0) (hi := 2) (offs := #[27, 32, 37]) (len := 27) (off := 37) (tgt := 38) (by first | exact mp_fd_ok mp_k_cX5_cut_ok (by decide +kernel) | decide +kernel) (by omega) (by omega) (by rw [c_1]; rfl) (by decide) ?_
    show mp_W E X 3 38 [(0, .long x0), (2, .int x1)] [] [] 0 0
    refine mp_run mp_k_cX5_cut_ok hF mp_tabX5_ok [mp_i (.lload_n 0), mp_i .l2i, mp_i .i2l] (by decide +kernel) ?_
    intro z_16 h_17
    intro z_18 h_19
    have e_20 : z_18.toInt = z_16.toInt := mp_i2l h_19
    show mp_W E X 3 41 [(0, .long x0), (2, .int x1)] [.long z_18] [] 0 0
    exact mp_lret hF hQ rfl (Nat.le_of_ble_eq_true rfl) (Nat.le_of_ble_eq_true rfl) [] (w' := []) rfl rfl ⟨z_18, rfl, rfl⟩ (by first | exact mp_fd_ok mp_k_cX5_cut_ok (by decide +kernel) | decide +kernel)
set_option maxHeartbeats 4000000 in
set_option maxRecDepth 100000 in
theorem bX5_put_182 (E : mp_E) (a0 a1 a2 a3 : Nat) (f0 : Nat → Int64) (f1 : Nat → Int32) (x0 : Int32) (x1 : Int32) (x2 : Int64) (l_x0 : 0 ≤ x0.toInt) (u_x0 : x0.toInt ≤ 3) (l_x1 : 0 ≤ x1.toInt) (u_x1 : x1.toInt ≤ 59) : mp_Ct E yX5_put cX5_put 5 none 1 0 0 22 [.ref a0, .int x0, .int x1, .long x2] [(mp_ob5 a0 a1 a2 a3), (mp_arL E a1 240 f0), (mp_arI E a2 0 4 f1)] (fun v w' => ∃ h1 : Nat → Int64, v = none ∧ w' = [(mp_ob5 a0 a1 a2 a3), (mp_arL E a1 240 h1), (mp_arI E a2 0 4 f1)]) := by
  refine mp_met false (by decide) (by decide) (Nat.le_of_ble_eq_true rfl) (fun X hF hQ => ?_)
  have hF : mp_F E X (RX5, cX5_put, 5, (1, 0, 0, 22), none, false) := hF
  show mp_W E X 5 0 [(0, .ref a0), (1, .int x0), (2, .int x1), (3, .long x2)] [] [(mp_ob5 a0 a1 a2 a3), (mp_arL E a1 240 f0), (mp_arI E a2 0 4 f1)] 0 0
  refine mp_run mp_k_cX5_put_ok hF mp_tabX5_ok [mp_i (.aload_n 0), mp_h (.getfield 9) [0, 0], mp_i (.iload_n 1), mp_c (.bipush 60) 60, mp_i .imul, mp_i (.iload_n 2), mp_i .iadd, mp_i (.lload_n 3), mp_i (.aload_n 0), mp_h (.getfield 15) [1, 0], mp_i (.iload_n 1), mp_h .iaload [2]] (by decide +kernel) ?_
  refine And.intro rfl (And.intro rfl ?_)
  intro z_1 h_2
  have e_3 : z_1.toInt = x0.toInt * 60 := mp_mul (a := x0.toInt) (b := 60) h_2 rfl (by decide) (by omega) (by omega)
  intro z_4 h_5
  have e_6 : z_4.toInt = z_1.toInt + x1.toInt := mp_add (a := z_1.toInt) (b := x1.toInt) h_5 rfl rfl (by omega) (by omega)
  refine And.intro rfl (And.intro rfl ?_)
  refine And.intro rfl (And.intro rfl (And.intro (vp_in_iff.mpr (by omega)) ?_))
  intro z_7 h_8
  show mp_W E X 5 17 [(0, .ref a0), (1, .int x0), (2, .int x1), (3, .long x2)] [.int z_7, .long x2, .int z_4, .ref a1] [(mp_ob5 a0 a1 a2 a3), (mp_arL E a1 240 f0), (mp_arI E a2 0 4 f1)] 0 0
  refine mp_callS hF (As := [.long x2, .int z_7]) (rest := [.int z_4, .ref a1]) (wr := [(mp_ob5 a0 a1 a2 a3), (mp_arL E a1 240 f0), (mp_arI E a2 0 4 f1)]) (bX5_cut_181 E x2 z_7) mp_lkX5_26 [] [0, 1, 2] rfl rfl rfl rfl rfl ⟨(Nat.le_of_ble_eq_true rfl), (Nat.le_of_ble_eq_true rfl), (Nat.le_of_ble_eq_true rfl), (Nat.le_of_ble_eq_true rfl)⟩ (Nat.le_of_ble_eq_true rfl) (by first | exact mp_fd_ok mp_k_cX5_put_ok (by decide +kernel) | decide +kernel) (fun v_9 w_10 h_11 => ?_)
  obtain ⟨r_12, rfl, rfl⟩ := h_11
  show mp_W E X 5 20 [(0, .ref a0), (1, .int x0), (2, .int x1), (3, .long x2)] [.long r_12, .int z_4, .ref a1] [(mp_ob5 a0 a1 a2 a3), (mp_arL E a1 240 f0), (mp_arI E a2 0 4 f1)] 0 0
  refine mp_run mp_k_cX5_put_ok hF mp_tabX5_ok [mp_h .lastore [1]] (by decide +kernel) ?_
  refine And.intro rfl (And.intro rfl (And.intro (vp_in_iff.mpr (by omega)) ?_))
  intro g_13 h_14
  show mp_W E X 5 21 [(0, .ref a0), (1, .int x0), (2, .int x1), (3, .long x2)] [] [(mp_ob5 a0 a1 a2 a3), (mp_arL E a1 240 g_13), (mp_arI E a2 0 4 f1)] 0 0
  exact mp_vret hF hQ rfl (Nat.le_of_ble_eq_true rfl) (Nat.le_of_ble_eq_true rfl) [0, 1, 2] (w' := [(mp_ob5 a0 a1 a2 a3), (mp_arL E a1 240 g_13), (mp_arI E a2 0 4 f1)]) rfl rfl ⟨g_13, rfl, rfl⟩ (by first | exact mp_fd_ok mp_k_cX5_put_ok (by decide +kernel) | decide +kernel)
set_option maxHeartbeats 4000000 in
set_option maxRecDepth 100000 in
theorem bX9_write_183 (E : mp_E) (a0 a1 a2 a3 a4 a5 a6 a7 a8 a9 a10 a11 a12 : Nat) (f0 : Nat → Int64) (f1 : Nat → Int32) (f2 : Nat → Int32) (x0 : Int32) (x1 : Int32) (x2 : Int64) (p0 : mp_all f2 4 (-1) 60) : mp_Ct E yX9_write cX9_write 5 (some FieldType.int) 2 0 0 46 [.ref a0, .int x0, .int x1, .long x2] [(mp_ob9 a0 a5 a6 a7 a8 a9 a10 a11 a12 a1), (mp_ob5 a1 a2 a3 a4), (mp_arL E a2 240 f0), (mp_arI E a3 0 4 f1), (mp_arI E a4 0 4 f2)] (fun v w' => (v = some (.int (-2)) ∧ (x0.toInt < 0 ∨ 3 < x0.toInt) ∧ w' = [(mp_ob9 a0 a5 a6 a7 a8 a9 a10 a11 a12 a1), (mp_ob5 a1 a2 a3 a4), (mp_arL E a2 240 f0), (mp_arI E a3 0 4 f1), (mp_arI E a4 0 4 f2)]) ∨ (v = some (.int (-6)) ∧ 0 ≤ x0.toInt ∧ x0.toInt < 4 ∧ (0 ≤ x0.toInt ∧ x0.toInt ≤ 3 ∧ (f2 x0.toInt.toNat).toInt = -1) ∧ w' = [(mp_ob9 a0 a5 a6 a7 a8 a9 a10 a11 a12 a1), (mp_ob5 a1 a2 a3 a4), (mp_arL E a2 240 f0), (mp_arI E a3 0 4 f1), (mp_arI E a4 0 4 f2)]) ∨ (v = some (.int (-7)) ∧ 0 ≤ x0.toInt ∧ x0.toInt < 4 ∧ (0 ≤ x0.toInt ∧ x0.toInt ≤ 3 ∧ (f2 x0.toInt.toNat).toInt ≠ -1 ∧ (x1.toInt < 0 ∨ (f2 x0.toInt.toNat).toInt ≤ x1.toInt)) ∧ w' = [(mp_ob9 a0 a5 a6 a7 a8 a9 a10 a11 a12 a1), (mp_ob5 a1 a2 a3 a4), (mp_arL E a2 240 f0), (mp_arI E a3 0 4 f1), (mp_arI E a4 0 4 f2)]) ∨ (∃ h1 : Nat → Int64, v = some (.int 0) ∧ 0 ≤ x0.toInt ∧ x0.toInt < 4 ∧ 0 ≤ x1.toInt ∧ (0 ≤ x0.toInt ∧ x0.toInt ≤ 3 ∧ (f2 x0.toInt.toNat).toInt ≠ -1 ∧ 0 ≤ x1.toInt ∧ x1.toInt < (f2 x0.toInt.toNat).toInt) ∧ w' = [(mp_ob9 a0 a5 a6 a7 a8 a9 a10 a11 a12 a1), (mp_ob5 a1 a2 a3 a4), (mp_arL E a2 240 h1), (mp_arI E a3 0 4 f1), (mp_arI E a4 0 4 f2)])) := by
  refine mp_met false (by decide) (by decide) (Nat.le_of_ble_eq_true rfl) (fun X hF hQ => ?_)
  have hF : mp_F E X (RX9, cX9_write, 5, (2, 0, 0, 46), (some FieldType.int), false) := hF
  let w1_ : va_W := [(mp_ob9 a0 a5 a6 a7 a8 a9 a10 a11 a12 a1), (mp_ob5 a1 a2 a3 a4), (mp_arL E a2 240 f0), (mp_arI E a3 0 4 f1), (mp_arI E a4 0 4 f2)]
  show mp_W E X 5 0 [(0, .ref a0), (1, .int x0), (2, .int x1), (3, .long x2)] [] w1_ 0 0
  refine mp_run mp_k_cX9_write_ok hF mp_tabX9_ok [mp_i (.aload_n 0), mp_h (.getfield 67) [44, 0], mp_i (.iload_n 1)] (by decide +kernel) ?_
  refine And.intro rfl (And.intro rfl ?_)
  show mp_W E X 5 5 [(0, .ref a0), (1, .int x0), (2, .int x1), (3, .long x2)] [.int x0, .ref a1] w1_ 0 0
  refine mp_callV hF (As := [.int x0]) (rest := []) (wr := w1_) (bX5_isSlot_138 E a1 x0) mp_lkX9_351 1 rfl [] [0, 1, 2, 3, 4] rfl rfl rfl rfl rfl ⟨(Nat.le_of_ble_eq_true rfl), (Nat.le_of_ble_eq_true rfl), (Nat.le_of_ble_eq_true rfl), (Nat.le_of_ble_eq_true rfl)⟩ (Nat.le_of_ble_eq_true rfl) (by first | exact mp_fd_ok mp_k_cX9_write_ok (by decide +kernel) | decide +kernel) (fun v_1 w_2 h_3 => ?_)
  rcases h_3 with ⟨rfl, x_4, rfl⟩ | ⟨rfl, c_5, c_6, x_7, rfl⟩
  · skip
    show mp_W E X 5 8 [(0, .ref a0), (1, .int x0), (2, .int x1), (3, .long x2)] [.int 0] w1_ 0 0
    refine mp_run mp_k_cX9_write_ok hF mp_tabX9_ok [mp_h (.ifCond .ne 6) [14]] (by decide +kernel) ?_
    refine And.intro (fun c_8 => absurd c_8 (by decide)) (fun _ => ?_)
    show mp_W E X 5 11 [(0, .ref a0), (1, .int x0), (2, .int x1), (3, .long x2)] [] w1_ 0 0
    refine mp_run mp_k_cX9_write_ok hF mp_tabX9_ok [mp_c (.bipush (-2)) (-2)] (by decide +kernel) ?_
    show mp_W E X 5 13 [(0, .ref a0), (1, .int x0), (2, .int x1), (3, .long x2)] [.int (-2)] w1_ 0 0
    exact mp_iret hF hQ rfl rfl (Nat.le_of_ble_eq_true rfl) (Nat.le_of_ble_eq_true rfl) [0, 1, 2, 3, 4] (w' := w1_) rfl rfl (Or.inl ⟨rfl, (by first | omega | (have h8 : (0 : Int64).toInt = 0 := rfl; have h9 : (3 : Int64).toInt = 3 := rfl; have h10 : (0 : Int32).toInt = 0 := rfl; have h11 : (3 : Int32).toInt = 3 := rfl; have h12 : (60 : Int32).toInt = 60 := rfl; have h13 : (-1 : Int32).toInt = -1 := rfl; omega)), rfl⟩) (by first | exact mp_fd_ok mp_k_cX9_write_ok (by decide +kernel) | decide +kernel)
  · skip
    have c_5 : 0 ≤ x0.toInt := c_5
    have c_6 : x0.toInt < 4 := c_6
    show mp_W E X 5 8 [(0, .ref a0), (1, .int x0), (2, .int x1), (3, .long x2)] [.int 1] w1_ 0 0
    refine mp_run mp_k_cX9_write_ok hF mp_tabX9_ok [mp_h (.ifCond .ne 6) [14]] (by decide +kernel) ?_
    refine And.intro (fun _ => ?_) (fun c_9 => absurd c_9 (by decide))
    show mp_W E X 5 14 [(0, .ref a0), (1, .int x0), (2, .int x1), (3, .long x2)] [] w1_ 0 0
    refine mp_run mp_k_cX9_write_ok hF mp_tabX9_ok [mp_i (.aload_n 0), mp_h (.getfield 67) [44, 0], mp_i (.iload_n 1)] (by decide +kernel) ?_
    refine And.intro rfl (And.intro rfl ?_)
    show mp_W E X 5 19 [(0, .ref a0), (1, .int x0), (2, .int x1), (3, .long x2)] [.int x0, .ref a1] w1_ 0 0
    refine mp_callV hF (As := [.int x0]) (rest := []) (wr := [(mp_ob9 a0 a5 a6 a7 a8 a9 a10 a11 a12 a1), (mp_arL E a2 240 f0), (mp_arI E a3 0 4 f1)]) (bX5_isTaken_139 E a1 a4 a2 a3 f2 x0 p0 (by omega) (by omega)) mp_lkX9_358 1 rfl [1, 4] [0, 2, 3] rfl rfl rfl rfl rfl ⟨(Nat.le_of_ble_eq_true rfl), (Nat.le_of_ble_eq_true rfl), (Nat.le_of_ble_eq_true rfl), (Nat.le_of_ble_eq_true rfl)⟩ (Nat.le_of_ble_eq_true rfl) (by first | exact mp_fd_ok mp_k_cX9_write_ok (by decide +kernel) | decide +kernel) (fun v_10 w_11 h_12 => ?_)
    rcases h_12 with ⟨rfl, x_13, rfl⟩ | ⟨rfl, x_14, rfl⟩
    · skip
      let w2_ : va_W := [(mp_ob9 a0 a5 a6 a7 a8 a9 a10 a11 a12 a1), (mp_arL E a2 240 f0), (mp_arI E a3 0 4 f1), (mp_ob5 a1 a2 a3 a4), (mp_arI E a4 0 4 f2)]
      show mp_W E X 5 22 [(0, .ref a0), (1, .int x0), (2, .int x1), (3, .long x2)] [.int 0] w2_ 0 0
      refine mp_run mp_k_cX9_write_ok hF mp_tabX9_ok [mp_h (.ifCond .ne 6) [28]] (by decide +kernel) ?_
      refine And.intro (fun c_15 => absurd c_15 (by decide)) (fun _ => ?_)
      show mp_W E X 5 25 [(0, .ref a0), (1, .int x0), (2, .int x1), (3, .long x2)] [] w2_ 0 0
      refine mp_run mp_k_cX9_write_ok hF mp_tabX9_ok [mp_c (.bipush (-6)) (-6)] (by decide +kernel) ?_
      show mp_W E X 5 27 [(0, .ref a0), (1, .int x0), (2, .int x1), (3, .long x2)] [.int (-6)] w2_ 0 0
      exact mp_iret hF hQ rfl rfl (Nat.le_of_ble_eq_true rfl) (Nat.le_of_ble_eq_true rfl) [0, 3, 1, 2, 4] (w' := w1_) rfl rfl (Or.inr (Or.inl ⟨rfl, (by first | omega | decide), (by first | omega | decide), (by first | omega | (have h8 : (0 : Int64).toInt = 0 := rfl; have h9 : (3 : Int64).toInt = 3 := rfl; have h10 : (0 : Int32).toInt = 0 := rfl; have h11 : (3 : Int32).toInt = 3 := rfl; have h12 : (60 : Int32).toInt = 60 := rfl; have h13 : (-1 : Int32).toInt = -1 := rfl; omega)), rfl⟩)) (by first | exact mp_fd_ok mp_k_cX9_write_ok (by decide +kernel) | decide +kernel)
    · skip
      let w3_ : va_W := [(mp_ob9 a0 a5 a6 a7 a8 a9 a10 a11 a12 a1), (mp_arL E a2 240 f0), (mp_arI E a3 0 4 f1), (mp_ob5 a1 a2 a3 a4), (mp_arI E a4 0 4 f2)]
      show mp_W E X 5 22 [(0, .ref a0), (1, .int x0), (2, .int x1), (3, .long x2)] [.int 1] w3_ 0 0
      refine mp_run mp_k_cX9_write_ok hF mp_tabX9_ok [mp_h (.ifCond .ne 6) [28]] (by decide +kernel) ?_
      refine And.intro (fun _ => ?_) (fun c_16 => absurd c_16 (by decide))
      show mp_W E X 5 28 [(0, .ref a0), (1, .int x0), (2, .int x1), (3, .long x2)] [] w3_ 0 0
      refine mp_run mp_k_cX9_write_ok hF mp_tabX9_ok [mp_i (.iload_n 2), mp_h (.ifCond .lt 16) [45]] (by decide +kernel) ?_
      refine And.intro (fun c_17 => ?_) (fun c_17 => ?_)
      · have c_17 : x1.toInt < 0 := c_17
        show mp_W E X 5 45 [(0, .ref a0), (1, .int x0), (2, .int x1), (3, .long x2)] [] w3_ 0 0
        refine mp_run mp_k_cX9_write_ok hF mp_tabX9_ok [mp_c (.bipush (-7)) (-7)] (by decide +kernel) ?_
        show mp_W E X 5 47 [(0, .ref a0), (1, .int x0), (2, .int x1), (3, .long x2)] [.int (-7)] w3_ 0 0
        exact mp_iret hF hQ rfl rfl (Nat.le_of_ble_eq_true rfl) (Nat.le_of_ble_eq_true rfl) [0, 3, 1, 2, 4] (w' := w1_) rfl rfl (Or.inr (Or.inr (Or.inl ⟨rfl, (by first | omega | decide), (by first | omega | decide), (by first | omega | (have h8 : (0 : Int64).toInt = 0 := rfl; have h9 : (3 : Int64).toInt = 3 := rfl; have h10 : (0 : Int32).toInt = 0 := rfl; have h11 : (3 : Int32).toInt = 3 := rfl; have h12 : (60 : Int32).toInt = 60 := rfl; have h13 : (-1 : Int32).toInt = -1 := rfl; omega)), rfl⟩))) (by first | exact mp_fd_ok mp_k_cX9_write_ok (by decide +kernel) | decide +kernel)
      · have c_17 : 0 ≤ x1.toInt := c_17
        show mp_W E X 5 32 [(0, .ref a0), (1, .int x0), (2, .int x1), (3, .long x2)] [] w3_ 0 0
        refine mp_run mp_k_cX9_write_ok hF mp_tabX9_ok [mp_i (.iload_n 2), mp_i (.aload_n 0), mp_h (.getfield 67) [44, 0], mp_h (.getfield 361) [35, 3], mp_i (.iload_n 1), mp_h .iaload [4], mp_h (.if_icmp .lt 6) [48]] (by decide +kernel) ?_
        refine And.intro rfl (And.intro rfl ?_)
        refine And.intro rfl (And.intro rfl ?_)
        refine And.intro rfl (And.intro rfl (And.intro (vp_in_iff.mpr (by omega)) ?_))
        intro z_18 h_19
        have e_20 : (-1) ≤ z_18.toInt ∧ z_18.toInt ≤ 60 := mp_all_ld h_19 p0 (by omega) (by omega)
        have e_21 : z_18.toInt = (f2 x0.toInt.toNat).toInt := congrArg Int32.toInt h_19
        refine And.intro (fun c_22 => ?_) (fun c_22 => ?_)
        · have c_22 : x1.toInt < z_18.toInt := c_22
          show mp_W E X 5 48 [(0, .ref a0), (1, .int x0), (2, .int x1), (3, .long x2)] [] w3_ 0 0
          refine mp_run mp_k_cX9_write_ok hF mp_tabX9_ok [mp_i (.aload_n 0), mp_h (.getfield 67) [44, 0], mp_i (.iload_n 1), mp_i (.iload_n 2), mp_i (.lload_n 3)] (by decide +kernel) ?_
          refine And.intro rfl (And.intro rfl ?_)
          show mp_W E X 5 55 [(0, .ref a0), (1, .int x0), (2, .int x1), (3, .long x2)] [.long x2, .int x1, .int x0, .ref a1] w3_ 0 0
          refine mp_callV hF (As := [.int x0, .int x1, .long x2]) (rest := []) (wr := [(mp_ob9 a0 a5 a6 a7 a8 a9 a10 a11 a12 a1), (mp_arI E a4 0 4 f2)]) (bX5_put_182 E a1 a2 a3 a4 f0 f1 x0 x1 x2 (by omega) (by omega) (by omega) (by omega)) mp_lkX9_364 3 rfl [3, 1, 2] [0, 4] rfl rfl rfl rfl rfl ⟨(Nat.le_of_ble_eq_true rfl), (Nat.le_of_ble_eq_true rfl), (Nat.le_of_ble_eq_true rfl), (Nat.le_of_ble_eq_true rfl)⟩ (Nat.le_of_ble_eq_true rfl) (by first | exact mp_fd_ok mp_k_cX9_write_ok (by decide +kernel) | decide +kernel) (fun v_23 w_24 h_25 => ?_)
          obtain ⟨g_26, rfl, rfl⟩ := h_25
          let w4_ : va_W := [(mp_ob9 a0 a5 a6 a7 a8 a9 a10 a11 a12 a1), (mp_arI E a4 0 4 f2), (mp_ob5 a1 a2 a3 a4), (mp_arL E a2 240 g_26), (mp_arI E a3 0 4 f1)]
          show mp_W E X 5 58 [(0, .ref a0), (1, .int x0), (2, .int x1), (3, .long x2)] [] w4_ 0 0
          refine mp_run mp_k_cX9_write_ok hF mp_tabX9_ok [mp_c (.iconst 0) 0] (by decide +kernel) ?_
          show mp_W E X 5 59 [(0, .ref a0), (1, .int x0), (2, .int x1), (3, .long x2)] [.int 0] w4_ 0 0
          exact mp_iret hF hQ rfl rfl (Nat.le_of_ble_eq_true rfl) (Nat.le_of_ble_eq_true rfl) [0, 2, 3, 4, 1] (w' := [(mp_ob9 a0 a5 a6 a7 a8 a9 a10 a11 a12 a1), (mp_ob5 a1 a2 a3 a4), (mp_arL E a2 240 g_26), (mp_arI E a3 0 4 f1), (mp_arI E a4 0 4 f2)]) rfl rfl (Or.inr (Or.inr (Or.inr ⟨g_26, rfl, (by first | omega | decide), (by first | omega | decide), (by first | omega | decide), (by first | omega | (have h8 : (0 : Int64).toInt = 0 := rfl; have h9 : (3 : Int64).toInt = 3 := rfl; have h10 : (0 : Int32).toInt = 0 := rfl; have h11 : (3 : Int32).toInt = 3 := rfl; have h12 : (60 : Int32).toInt = 60 := rfl; have h13 : (-1 : Int32).toInt = -1 := rfl; omega)), rfl⟩))) (by first | exact mp_fd_ok mp_k_cX9_write_ok (by decide +kernel) | decide +kernel)
        · have c_22 : z_18.toInt ≤ x1.toInt := c_22
          show mp_W E X 5 45 [(0, .ref a0), (1, .int x0), (2, .int x1), (3, .long x2)] [] w3_ 0 0
          refine mp_run mp_k_cX9_write_ok hF mp_tabX9_ok [mp_c (.bipush (-7)) (-7)] (by decide +kernel) ?_
          show mp_W E X 5 47 [(0, .ref a0), (1, .int x0), (2, .int x1), (3, .long x2)] [.int (-7)] w3_ 0 0
          exact mp_iret hF hQ rfl rfl (Nat.le_of_ble_eq_true rfl) (Nat.le_of_ble_eq_true rfl) [0, 3, 1, 2, 4] (w' := w1_) rfl rfl (Or.inr (Or.inr (Or.inl ⟨rfl, (by first | omega | decide), (by first | omega | decide), (by first | omega | (have h8 : (0 : Int64).toInt = 0 := rfl; have h9 : (3 : Int64).toInt = 3 := rfl; have h10 : (0 : Int32).toInt = 0 := rfl; have h11 : (3 : Int32).toInt = 3 := rfl; have h12 : (60 : Int32).toInt = 60 := rfl; have h13 : (-1 : Int32).toInt = -1 := rfl; omega)), rfl⟩))) (by first | exact mp_fd_ok mp_k_cX9_write_ok (by decide +kernel) | decide +kernel)
set_option maxHeartbeats 4000000 in
set_option maxRecDepth 100000 in
theorem bX5_holds_184 (E : mp_E) (a0 a1 a2 a3 : Nat) (f0 : Nat → Int32) (x0 : Int32) (x1 : Int32) (x2 : Int32) (p0 : mp_all f0 4 (-1) 60) (l_x0 : 0 ≤ x0.toInt) (u_x0 : x0.toInt ≤ 3) : mp_Ct E yX5_holds cX5_holds 4 (some FieldType.boolean) 0 0 0 0 [.ref a0, .int x0, .int x1, .int x2] [(mp_ob5 a0 a2 a3 a1), (mp_arI E a1 0 4 f0)] (fun v w' => (v = some (.int 0) ∧ (x1.toInt < 0 ∨ x2.toInt < 0 ∨ (f0 x0.toInt.toNat).toInt < x1.toInt + x2.toInt) ∧ w' = [(mp_ob5 a0 a2 a3 a1), (mp_arI E a1 0 4 f0)]) ∨ (v = some (.int 1) ∧ 0 ≤ x1.toInt ∧ 0 ≤ x2.toInt ∧ (0 ≤ x1.toInt ∧ 0 ≤ x2.toInt ∧ x1.toInt + x2.toInt ≤ (f0 x0.toInt.toNat).toInt) ∧ (x1.toInt + x2.toInt ≤ 60) ∧ w' = [(mp_ob5 a0 a2 a3 a1), (mp_arI E a1 0 4 f0)])) := by
  refine mp_met false (by decide) (by decide) (Nat.le_of_ble_eq_true rfl) (fun X hF hQ => ?_)
  have hF : mp_F E X (RX5, cX5_holds, 4, (0, 0, 0, 0), (some FieldType.boolean), false) := hF
  show mp_W E X 4 0 [(0, .ref a0), (1, .int x0), (2, .int x1), (3, .int x2)] [] [(mp_ob5 a0 a2 a3 a1), (mp_arI E a1 0 4 f0)] 0 0
  refine mp_run mp_k_cX5_holds_ok hF mp_tabX5_ok [mp_i (.iload_n 2), mp_h (.ifCond .lt 27) [28]] (by decide +kernel) ?_
  refine And.intro (fun c_1 => ?_) (fun c_1 => ?_)
  · have c_1 : x1.toInt < 0 := c_1
    show mp_W E X 4 28 [(0, .ref a0), (1, .int x0), (2, .int x1), (3, .int x2)] [] [(mp_ob5 a0 a2 a3 a1), (mp_arI E a1 0 4 f0)] 0 0
    refine mp_run mp_k_cX5_holds_ok hF mp_tabX5_ok [mp_c (.iconst 0) 0] (by decide +kernel) ?_
    show mp_W E X 4 29 [(0, .ref a0), (1, .int x0), (2, .int x1), (3, .int x2)] [.int 0] [(mp_ob5 a0 a2 a3 a1), (mp_arI E a1 0 4 f0)] 0 0
    exact mp_iret hF hQ rfl (by decide) (Nat.le_of_ble_eq_true rfl) (Nat.le_of_ble_eq_true rfl) [0, 1] (w' := [(mp_ob5 a0 a2 a3 a1), (mp_arI E a1 0 4 f0)]) rfl rfl (Or.inl ⟨rfl, (by first | (first | exact mp_o893 c_1 | omega) | (have h8 : (0 : Int64).toInt = 0 := rfl; have h9 : (3 : Int64).toInt = 3 := rfl; have h10 : (0 : Int32).toInt = 0 := rfl; have h11 : (3 : Int32).toInt = 3 := rfl; have h12 : (60 : Int32).toInt = 60 := rfl; have h13 : (-1 : Int32).toInt = -1 := rfl; omega)), rfl⟩) (by first | exact mp_fd_ok mp_k_cX5_holds_ok (by decide +kernel) | decide +kernel)
  · have c_1 : 0 ≤ x1.toInt := c_1
    show mp_W E X 4 4 [(0, .ref a0), (1, .int x0), (2, .int x1), (3, .int x2)] [] [(mp_ob5 a0 a2 a3 a1), (mp_arI E a1 0 4 f0)] 0 0
    refine mp_run mp_k_cX5_holds_ok hF mp_tabX5_ok [mp_i (.iload_n 3), mp_h (.ifCond .lt 23) [28]] (by decide +kernel) ?_
    refine And.intro (fun c_2 => ?_) (fun c_2 => ?_)
    · have c_2 : x2.toInt < 0 := c_2
      show mp_W E X 4 28 [(0, .ref a0), (1, .int x0), (2, .int x1), (3, .int x2)] [] [(mp_ob5 a0 a2 a3 a1), (mp_arI E a1 0 4 f0)] 0 0
      refine mp_run mp_k_cX5_holds_ok hF mp_tabX5_ok [mp_c (.iconst 0) 0] (by decide +kernel) ?_
      show mp_W E X 4 29 [(0, .ref a0), (1, .int x0), (2, .int x1), (3, .int x2)] [.int 0] [(mp_ob5 a0 a2 a3 a1), (mp_arI E a1 0 4 f0)] 0 0
      exact mp_iret hF hQ rfl (by decide) (Nat.le_of_ble_eq_true rfl) (Nat.le_of_ble_eq_true rfl) [0, 1] (w' := [(mp_ob5 a0 a2 a3 a1), (mp_arI E a1 0 4 f0)]) rfl rfl (Or.inl ⟨rfl, (by first | (first | exact mp_o894 c_2 | omega) | (have h8 : (0 : Int64).toInt = 0 := rfl; have h9 : (3 : Int64).toInt = 3 := rfl; have h10 : (0 : Int32).toInt = 0 := rfl; have h11 : (3 : Int32).toInt = 3 := rfl; have h12 : (60 : Int32).toInt = 60 := rfl; have h13 : (-1 : Int32).toInt = -1 := rfl; omega)), rfl⟩) (by first | exact mp_fd_ok mp_k_cX5_holds_ok (by decide +kernel) | decide +kernel)
    · have c_2 : 0 ≤ x2.toInt := c_2
      show mp_W E X 4 8 [(0, .ref a0), (1, .int x0), (2, .int x1), (3, .int x2)] [] [(mp_ob5 a0 a2 a3 a1), (mp_arI E a1 0 4 f0)] 0 0
      refine mp_run mp_k_cX5_holds_ok hF mp_tabX5_ok [mp_i (.iload_n 2), mp_i .i2l, mp_i (.iload_n 3), mp_i .i2l, mp_i .ladd, mp_i (.aload_n 0), mp_h (.getfield 19) [2, 0], mp_i (.iload_n 1), mp_h .iaload [1], mp_i .i2l, mp_i .lcmp, mp_h (.ifCond .gt 7) [28]] (by decide +kernel) ?_
      intro z_3 h_4
      have e_5 : z_3.toInt = x1.toInt := mp_i2l h_4
      intro z_6 h_7
      have e_8 : z_6.toInt = x2.toInt := mp_i2l h_7
      intro z_9 h_10
      have e_11 := mp_bnd x1
      have e_12 := mp_bnd x2
      have e_13 : z_9.toInt = z_3.toInt + z_6.toInt := mp_ladd (a := z_3.toInt) (b := z_6.toInt) h_10 rfl rfl (by (first | exact mp_o895 c_1 e_5 c_2 e_8 | omega)) (by (first | exact mp_o896 e_5 e_11 e_8 e_12 | omega))
      refine And.intro rfl (And.intro rfl ?_)
      refine And.intro rfl (And.intro rfl (And.intro (vp_in_iff.mpr (by (first | exact mp_o637 l_x0 u_x0 | omega))) ?_))
      intro z_14 h_15
      have e_16 : (-1) ≤ z_14.toInt ∧ z_14.toInt ≤ 60 := mp_all_ld h_15 p0 (by (first | exact l_x0 | omega)) (by (first | exact mp_o638 u_x0 | omega))
      have e_17 : z_14.toInt = (f0 x0.toInt.toNat).toInt := congrArg Int32.toInt h_15
      intro z_18 h_19
      have e_20 : z_18.toInt = z_14.toInt := mp_i2l h_19
      intro z_21 h_22
      refine And.intro (fun c_23 => ?_) (fun c_23 => ?_)
      · have c_23 : z_18.toInt < z_9.toInt := mp_lc_gt h_22 c_23
        show mp_W E X 4 28 [(0, .ref a0), (1, .int x0), (2, .int x1), (3, .int x2)] [] [(mp_ob5 a0 a2 a3 a1), (mp_arI E a1 0 4 f0)] 0 0
        refine mp_run mp_k_cX5_holds_ok hF mp_tabX5_ok [mp_c (.iconst 0) 0] (by decide +kernel) ?_
        show mp_W E X 4 29 [(0, .ref a0), (1, .int x0), (2, .int x1), (3, .int x2)] [.int 0] [(mp_ob5 a0 a2 a3 a1), (mp_arI E a1 0 4 f0)] 0 0
        exact mp_iret hF hQ rfl (by decide) (Nat.le_of_ble_eq_true rfl) (Nat.le_of_ble_eq_true rfl) [0, 1] (w' := [(mp_ob5 a0 a2 a3 a1), (mp_arI E a1 0 4 f0)]) rfl rfl (Or.inl ⟨rfl, (by first | (first | exact mp_o897 e_5 e_8 e_13 c_23 e_17 e_20 | omega) | (have h8 : (0 : Int64).toInt = 0 := rfl; have h9 : (3 : Int64).toInt = 3 := rfl; have h10 : (0 : Int32).toInt = 0 := rfl; have h11 : (3 : Int32).toInt = 3 := rfl; have h12 : (60 : Int32).toInt = 60 := rfl; have h13 : (-1 : Int32).toInt = -1 := rfl; omega)), rfl⟩) (by first | exact mp_fd_ok mp_k_cX5_holds_ok (by decide +kernel) | decide +kernel)
      · have c_23 : z_9.toInt ≤ z_18.toInt := mp_lc_le h_22 c_23
        show mp_W E X 4 24 [(0, .ref a0), (1, .int x0), (2, .int x1), (3, .int x2)] [] [(mp_ob5 a0 a2 a3 a1), (mp_arI E a1 0 4 f0)] 0 0
        refine mp_run mp_k_cX5_holds_ok hF mp_tabX5_ok [mp_c (.iconst 1) 1, mp_h (.goto 4) [29]] (by decide +kernel) ?_
        show mp_W E X 4 29 [(0, .ref a0), (1, .int x0), (2, .int x1), (3, .int x2)] [.int 1] [(mp_ob5 a0 a2 a3 a1), (mp_arI E a1 0 4 f0)] 0 0
        exact mp_iret hF hQ rfl (by decide) (Nat.le_of_ble_eq_true rfl) (Nat.le_of_ble_eq_true rfl) [0, 1] (w' := [(mp_ob5 a0 a2 a3 a1), (mp_arI E a1 0 4 f0)]) rfl rfl (Or.inr ⟨rfl, (by first | (first | exact c_1 | omega) | decide), (by first | (first | exact c_2 | omega) | decide), (by first | (first | exact mp_o898 c_1 c_2 e_5 e_8 e_13 e_17 e_20 c_23 | omega) | (have h8 : (0 : Int64).toInt = 0 := rfl; have h9 : (3 : Int64).toInt = 3 := rfl; have h10 : (0 : Int32).toInt = 0 := rfl; have h11 : (3 : Int32).toInt = 3 := rfl; have h12 : (60 : Int32).toInt = 60 := rfl; have h13 : (-1 : Int32).toInt = -1 := rfl; omega)), (by first | (first | exact mp_o899 e_5 e_8 e_13 c_23 e_20 e_16 | omega) | (have h8 : (0 : Int64).toInt = 0 := rfl; have h9 : (3 : Int64).toInt = 3 := rfl; have h10 : (0 : Int32).toInt = 0 := rfl; have h11 : (3 : Int32).toInt = 3 := rfl; have h12 : (60 : Int32).toInt = 60 := rfl; have h13 : (-1 : Int32).toInt = -1 := rfl; omega)), rfl⟩) (by first | exact mp_fd_ok mp_k_cX5_holds_ok (by decide +kernel) | decide +kernel)
set_option maxHeartbeats 4000000 in
set_option maxRecDepth 100000 in
theorem bX5_move_185 (E : mp_E) (a0 a1 a2 a3 : Nat) (f0 : Nat → Int64) (x0 : Int32) (x1 : Int32) (x2 : Int32) (x3 : Int32) (x4 : Int32) (l_x0 : 0 ≤ x0.toInt) (u_x0 : x0.toInt ≤ 3) (l_x1 : 0 ≤ x1.toInt) (u_x1 : x1.toInt ≤ 60) (l_x2 : 0 ≤ x2.toInt) (u_x2 : x2.toInt ≤ 3) (l_x3 : 0 ≤ x3.toInt) (u_x3 : x3.toInt ≤ 60) (l_x4 : 0 ≤ x4.toInt) (u_x4 : x4.toInt ≤ 60) (q0 : x1.toInt + x4.toInt ≤ 60) (q1 : x3.toInt + x4.toInt ≤ 60) : mp_Ct E yX5_move cX5_move 6 none 1 0 0 18 [.ref a0, .int x0, .int x1, .int x2, .int x3, .int x4] [(mp_ob5 a0 a1 a2 a3), (mp_arL E a1 240 f0)] (fun v w' => ∃ h1 : Nat → Int64, v = none ∧ w' = [(mp_ob5 a0 a1 a2 a3), (mp_arL E a1 240 h1)]) := by
  refine mp_met false (by decide) (by decide) (Nat.le_of_ble_eq_true rfl) (fun X hF hQ => ?_)
  have hF : mp_F E X (RX5, cX5_move, 6, (1, 0, 0, 18), none, false) := hF
  show mp_W E X 6 0 [(0, .ref a0), (1, .int x0), (2, .int x1), (3, .int x2), (4, .int x3), (5, .int x4)] [] [(mp_ob5 a0 a1 a2 a3), (mp_arL E a1 240 f0)] 0 0
  refine mp_run mp_k_cX5_move_ok hF mp_tabX5_ok [mp_i (.aload_n 0), mp_h (.getfield 9) [0, 0], mp_i (.iload_n 1), mp_c (.bipush 60) 60, mp_i .imul, mp_i (.iload_n 2), mp_i .iadd, mp_i (.aload_n 0), mp_h (.getfield 9) [0, 0], mp_i (.iload_n 3), mp_c (.bipush 60) 60, mp_i .imul, mp_i (.iload 4), mp_i .iadd, mp_i (.iload 5)] (by decide +kernel) ?_
  refine And.intro rfl (And.intro rfl ?_)
  intro z_1 h_2
  have e_3 : z_1.toInt = x0.toInt * 60 := mp_mul (a := x0.toInt) (b := 60) h_2 rfl (by decide) (by omega) (by omega)
  intro z_4 h_5
  have e_6 : z_4.toInt = z_1.toInt + x1.toInt := mp_add (a := z_1.toInt) (b := x1.toInt) h_5 rfl rfl (by omega) (by omega)
  refine And.intro rfl (And.intro rfl ?_)
  intro z_7 h_8
  have e_9 : z_7.toInt = x2.toInt * 60 := mp_mul (a := x2.toInt) (b := 60) h_8 rfl (by decide) (by omega) (by omega)
  intro z_10 h_11
  have e_12 : z_10.toInt = z_7.toInt + x3.toInt := mp_add (a := z_7.toInt) (b := x3.toInt) h_11 rfl rfl (by omega) (by omega)
  show mp_W E X 6 23 [(0, .ref a0), (1, .int x0), (2, .int x1), (3, .int x2), (4, .int x3), (5, .int x4)] [.int x4, .int z_10, .ref a1, .int z_4, .ref a1] [(mp_ob5 a0 a1 a2 a3), (mp_arL E a1 240 f0)] 0 0
  refine mp_copyl hF (idx := 30) (mp_gm (j := 6004) (by decide +kernel)) 1 1 rfl rfl (by omega) (by omega) (by omega) (by omega) (by omega) ⟨(Nat.le_of_ble_eq_true rfl), (Nat.le_of_ble_eq_true rfl)⟩ (by first | exact mp_fd_ok mp_k_cX5_move_ok (by decide +kernel) | decide +kernel) (fun g_13 h_14 => ?_)
  show mp_W E X 6 26 [(0, .ref a0), (1, .int x0), (2, .int x1), (3, .int x2), (4, .int x3), (5, .int x4)] [] [(mp_ob5 a0 a1 a2 a3), (mp_arL E a1 240 g_13)] 0 0
  exact mp_vret hF hQ rfl (Nat.le_of_ble_eq_true rfl) (Nat.le_of_ble_eq_true rfl) [0, 1] (w' := [(mp_ob5 a0 a1 a2 a3), (mp_arL E a1 240 g_13)]) rfl rfl ⟨g_13, rfl, rfl⟩ (by first | exact mp_fd_ok mp_k_cX5_move_ok (by decide +kernel) | decide +kernel)
set_option maxHeartbeats 4000000 in
set_option maxRecDepth 100000 in
theorem bX9_paste_186 (E : mp_E) (a0 a1 a2 a3 a4 a5 a6 a7 a8 a9 a10 a11 a12 : Nat) (f0 : Nat → Int64) (f1 : Nat → Int32) (f2 : Nat → Int32) (x0 : Int32) (x1 : Int32) (x2 : Int32) (x3 : Int32) (x4 : Int32) (p0 : mp_all f2 4 (-1) 60) : mp_Ct E yX9_paste cX9_paste 6 (some FieldType.int) 2 0 0 43 [.ref a0, .int x0, .int x1, .int x2, .int x3, .int x4] [(mp_ob9 a0 a5 a6 a7 a8 a9 a10 a11 a12 a1), (mp_ob5 a1 a2 a3 a4), (mp_arL E a2 240 f0), (mp_arI E a3 0 4 f1), (mp_arI E a4 0 4 f2)] (fun v w' => (v = some (.int (-2)) ∧ (x0.toInt < 0 ∨ 3 < x0.toInt ∨ x2.toInt < 0 ∨ 3 < x2.toInt) ∧ w' = [(mp_ob9 a0 a5 a6 a7 a8 a9 a10 a11 a12 a1), (mp_ob5 a1 a2 a3 a4), (mp_arL E a2 240 f0), (mp_arI E a3 0 4 f1), (mp_arI E a4 0 4 f2)]) ∨ (v = some (.int (-6)) ∧ 0 ≤ x0.toInt ∧ x0.toInt < 4 ∧ 0 ≤ x2.toInt ∧ x2.toInt < 4 ∧ (0 ≤ x0.toInt ∧ x0.toInt ≤ 3 ∧ 0 ≤ x2.toInt ∧ x2.toInt ≤ 3 ∧ ((f2 x0.toInt.toNat).toInt = -1 ∨ (f2 x2.toInt.toNat).toInt = -1)) ∧ w' = [(mp_ob9 a0 a5 a6 a7 a8 a9 a10 a11 a12 a1), (mp_ob5 a1 a2 a3 a4), (mp_arL E a2 240 f0), (mp_arI E a3 0 4 f1), (mp_arI E a4 0 4 f2)]) ∨ (v = some (.int (-7)) ∧ 0 ≤ x0.toInt ∧ x0.toInt < 4 ∧ 0 ≤ x2.toInt ∧ x2.toInt < 4 ∧ (0 ≤ x0.toInt ∧ x0.toInt ≤ 3 ∧ 0 ≤ x2.toInt ∧ x2.toInt ≤ 3 ∧ (f2 x0.toInt.toNat).toInt ≠ -1 ∧ (f2 x2.toInt.toNat).toInt ≠ -1 ∧ (f1 x0.toInt.toNat).toInt = (f1 x2.toInt.toNat).toInt ∧ (x1.toInt < 0 ∨ x3.toInt < 0 ∨ x4.toInt < 0 ∨ (f2 x0.toInt.toNat).toInt < x1.toInt + x4.toInt ∨ (f2 x2.toInt.toNat).toInt < x3.toInt + x4.toInt)) ∧ w' = [(mp_ob9 a0 a5 a6 a7 a8 a9 a10 a11 a12 a1), (mp_ob5 a1 a2 a3 a4), (mp_arL E a2 240 f0), (mp_arI E a3 0 4 f1), (mp_arI E a4 0 4 f2)]) ∨ (∃ h1 : Nat → Int64, v = some (.int 0) ∧ 0 ≤ x0.toInt ∧ x0.toInt < 4 ∧ 0 ≤ x2.toInt ∧ x2.toInt < 4 ∧ 0 ≤ x1.toInt ∧ 0 ≤ x4.toInt ∧ 0 ≤ x3.toInt ∧ (0 ≤ x0.toInt ∧ x0.toInt ≤ 3 ∧ 0 ≤ x2.toInt ∧ x2.toInt ≤ 3 ∧ (f2 x0.toInt.toNat).toInt ≠ -1 ∧ (f2 x2.toInt.toNat).toInt ≠ -1 ∧ (f1 x0.toInt.toNat).toInt = (f1 x2.toInt.toNat).toInt ∧ 0 ≤ x1.toInt ∧ 0 ≤ x3.toInt ∧ 0 ≤ x4.toInt ∧ x1.toInt + x4.toInt ≤ (f2 x0.toInt.toNat).toInt ∧ x3.toInt + x4.toInt ≤ (f2 x2.toInt.toNat).toInt) ∧ w' = [(mp_ob9 a0 a5 a6 a7 a8 a9 a10 a11 a12 a1), (mp_ob5 a1 a2 a3 a4), (mp_arL E a2 240 h1), (mp_arI E a3 0 4 f1), (mp_arI E a4 0 4 f2)]) ∨ (v = some (.int (-8)) ∧ 0 ≤ x0.toInt ∧ x0.toInt < 4 ∧ 0 ≤ x2.toInt ∧ x2.toInt < 4 ∧ (0 ≤ x0.toInt ∧ x0.toInt ≤ 3 ∧ 0 ≤ x2.toInt ∧ x2.toInt ≤ 3 ∧ (f2 x0.toInt.toNat).toInt ≠ -1 ∧ (f2 x2.toInt.toNat).toInt ≠ -1 ∧ (f1 x0.toInt.toNat).toInt ≠ (f1 x2.toInt.toNat).toInt) ∧ w' = [(mp_ob9 a0 a5 a6 a7 a8 a9 a10 a11 a12 a1), (mp_ob5 a1 a2 a3 a4), (mp_arL E a2 240 f0), (mp_arI E a3 0 4 f1), (mp_arI E a4 0 4 f2)])) := by
  refine mp_met false (by decide) (by decide) (Nat.le_of_ble_eq_true rfl) (fun X hF hQ => ?_)
  have hF : mp_F E X (RX9, cX9_paste, 6, (2, 0, 0, 43), (some FieldType.int), false) := hF
  let w1_ : va_W := [(mp_ob9 a0 a5 a6 a7 a8 a9 a10 a11 a12 a1), (mp_ob5 a1 a2 a3 a4), (mp_arL E a2 240 f0), (mp_arI E a3 0 4 f1), (mp_arI E a4 0 4 f2)]
  show mp_W E X 6 0 [(0, .ref a0), (1, .int x0), (2, .int x1), (3, .int x2), (4, .int x3), (5, .int x4)] [] w1_ 0 0
  refine mp_run mp_k_cX9_paste_ok hF mp_tabX9_ok [mp_i (.aload_n 0), mp_h (.getfield 67) [44, 0], mp_i (.iload_n 1)] (by decide +kernel) ?_
  refine And.intro rfl (And.intro rfl ?_)
  show mp_W E X 6 5 [(0, .ref a0), (1, .int x0), (2, .int x1), (3, .int x2), (4, .int x3), (5, .int x4)] [.int x0, .ref a1] w1_ 0 0
  refine mp_callV hF (As := [.int x0]) (rest := []) (wr := w1_) (bX5_isSlot_138 E a1 x0) mp_lkX9_351 1 rfl [] [0, 1, 2, 3, 4] rfl rfl rfl rfl rfl ⟨(Nat.le_of_ble_eq_true rfl), (Nat.le_of_ble_eq_true rfl), (Nat.le_of_ble_eq_true rfl), (Nat.le_of_ble_eq_true rfl)⟩ (Nat.le_of_ble_eq_true rfl) (by first | exact mp_fd_ok mp_k_cX9_paste_ok (by decide +kernel) | decide +kernel) (fun v_1 w_2 h_3 => ?_)
  rcases h_3 with ⟨rfl, x_4, rfl⟩ | ⟨rfl, c_5, c_6, x_7, rfl⟩
  · skip
    show mp_W E X 6 8 [(0, .ref a0), (1, .int x0), (2, .int x1), (3, .int x2), (4, .int x3), (5, .int x4)] [.int 0] w1_ 0 0
    refine mp_run mp_k_cX9_paste_ok hF mp_tabX9_ok [mp_h (.ifCond .eq 14) [22]] (by decide +kernel) ?_
    refine And.intro (fun _ => ?_) (fun c_8 => absurd c_8 (by decide))
    show mp_W E X 6 22 [(0, .ref a0), (1, .int x0), (2, .int x1), (3, .int x2), (4, .int x3), (5, .int x4)] [] w1_ 0 0
    refine mp_run mp_k_cX9_paste_ok hF mp_tabX9_ok [mp_c (.bipush (-2)) (-2)] (by decide +kernel) ?_
    show mp_W E X 6 24 [(0, .ref a0), (1, .int x0), (2, .int x1), (3, .int x2), (4, .int x3), (5, .int x4)] [.int (-2)] w1_ 0 0
    exact mp_iret hF hQ rfl rfl (Nat.le_of_ble_eq_true rfl) (Nat.le_of_ble_eq_true rfl) [0, 1, 2, 3, 4] (w' := w1_) rfl rfl (Or.inl ⟨rfl, (by first | omega | (have h8 : (0 : Int64).toInt = 0 := rfl; have h9 : (3 : Int64).toInt = 3 := rfl; have h10 : (0 : Int32).toInt = 0 := rfl; have h11 : (3 : Int32).toInt = 3 := rfl; have h12 : (60 : Int32).toInt = 60 := rfl; have h13 : (-1 : Int32).toInt = -1 := rfl; omega)), rfl⟩) (by first | exact mp_fd_ok mp_k_cX9_paste_ok (by decide +kernel) | decide +kernel)
  · skip
    have c_5 : 0 ≤ x0.toInt := c_5
    have c_6 : x0.toInt < 4 := c_6
    show mp_W E X 6 8 [(0, .ref a0), (1, .int x0), (2, .int x1), (3, .int x2), (4, .int x3), (5, .int x4)] [.int 1] w1_ 0 0
    refine mp_run mp_k_cX9_paste_ok hF mp_tabX9_ok [mp_h (.ifCond .eq 14) [22]] (by decide +kernel) ?_
    refine And.intro (fun c_9 => absurd c_9 (by decide)) (fun _ => ?_)
    show mp_W E X 6 11 [(0, .ref a0), (1, .int x0), (2, .int x1), (3, .int x2), (4, .int x3), (5, .int x4)] [] w1_ 0 0
    refine mp_run mp_k_cX9_paste_ok hF mp_tabX9_ok [mp_i (.aload_n 0), mp_h (.getfield 67) [44, 0], mp_i (.iload_n 3)] (by decide +kernel) ?_
    refine And.intro rfl (And.intro rfl ?_)
    show mp_W E X 6 16 [(0, .ref a0), (1, .int x0), (2, .int x1), (3, .int x2), (4, .int x3), (5, .int x4)] [.int x2, .ref a1] w1_ 0 0
    refine mp_callV hF (As := [.int x2]) (rest := []) (wr := w1_) (bX5_isSlot_138 E a1 x2) mp_lkX9_351 1 rfl [] [0, 1, 2, 3, 4] rfl rfl rfl rfl rfl ⟨(Nat.le_of_ble_eq_true rfl), (Nat.le_of_ble_eq_true rfl), (Nat.le_of_ble_eq_true rfl), (Nat.le_of_ble_eq_true rfl)⟩ (Nat.le_of_ble_eq_true rfl) (by first | exact mp_fd_ok mp_k_cX9_paste_ok (by decide +kernel) | decide +kernel) (fun v_10 w_11 h_12 => ?_)
    rcases h_12 with ⟨rfl, x_13, rfl⟩ | ⟨rfl, c_14, c_15, x_16, rfl⟩
    · skip
      show mp_W E X 6 19 [(0, .ref a0), (1, .int x0), (2, .int x1), (3, .int x2), (4, .int x3), (5, .int x4)] [.int 0] w1_ 0 0
      refine mp_run mp_k_cX9_paste_ok hF mp_tabX9_ok [mp_h (.ifCond .ne 6) [25]] (by decide +kernel) ?_
      refine And.intro (fun c_17 => absurd c_17 (by decide)) (fun _ => ?_)
      show mp_W E X 6 22 [(0, .ref a0), (1, .int x0), (2, .int x1), (3, .int x2), (4, .int x3), (5, .int x4)] [] w1_ 0 0
      refine mp_run mp_k_cX9_paste_ok hF mp_tabX9_ok [mp_c (.bipush (-2)) (-2)] (by decide +kernel) ?_
      show mp_W E X 6 24 [(0, .ref a0), (1, .int x0), (2, .int x1), (3, .int x2), (4, .int x3), (5, .int x4)] [.int (-2)] w1_ 0 0
      exact mp_iret hF hQ rfl rfl (Nat.le_of_ble_eq_true rfl) (Nat.le_of_ble_eq_true rfl) [0, 1, 2, 3, 4] (w' := w1_) rfl rfl (Or.inl ⟨rfl, (by first | omega | (have h8 : (0 : Int64).toInt = 0 := rfl; have h9 : (3 : Int64).toInt = 3 := rfl; have h10 : (0 : Int32).toInt = 0 := rfl; have h11 : (3 : Int32).toInt = 3 := rfl; have h12 : (60 : Int32).toInt = 60 := rfl; have h13 : (-1 : Int32).toInt = -1 := rfl; omega)), rfl⟩) (by first | exact mp_fd_ok mp_k_cX9_paste_ok (by decide +kernel) | decide +kernel)
    · skip
      have c_14 : 0 ≤ x2.toInt := c_14
      have c_15 : x2.toInt < 4 := c_15
      show mp_W E X 6 19 [(0, .ref a0), (1, .int x0), (2, .int x1), (3, .int x2), (4, .int x3), (5, .int x4)] [.int 1] w1_ 0 0
      refine mp_run mp_k_cX9_paste_ok hF mp_tabX9_ok [mp_h (.ifCond .ne 6) [25]] (by decide +kernel) ?_
      refine And.intro (fun _ => ?_) (fun c_18 => absurd c_18 (by decide))
      show mp_W E X 6 25 [(0, .ref a0), (1, .int x0), (2, .int x1), (3, .int x2), (4, .int x3), (5, .int x4)] [] w1_ 0 0
      refine mp_run mp_k_cX9_paste_ok hF mp_tabX9_ok [mp_i (.aload_n 0), mp_h (.getfield 67) [44, 0], mp_i (.iload_n 1)] (by decide +kernel) ?_
      refine And.intro rfl (And.intro rfl ?_)
      show mp_W E X 6 30 [(0, .ref a0), (1, .int x0), (2, .int x1), (3, .int x2), (4, .int x3), (5, .int x4)] [.int x0, .ref a1] w1_ 0 0
      refine mp_callV hF (As := [.int x0]) (rest := []) (wr := [(mp_ob9 a0 a5 a6 a7 a8 a9 a10 a11 a12 a1), (mp_arL E a2 240 f0), (mp_arI E a3 0 4 f1)]) (bX5_isTaken_139 E a1 a4 a2 a3 f2 x0 p0 (by omega) (by omega)) mp_lkX9_358 1 rfl [1, 4] [0, 2, 3] rfl rfl rfl rfl rfl ⟨(Nat.le_of_ble_eq_true rfl), (Nat.le_of_ble_eq_true rfl), (Nat.le_of_ble_eq_true rfl), (Nat.le_of_ble_eq_true rfl)⟩ (Nat.le_of_ble_eq_true rfl) (by first | exact mp_fd_ok mp_k_cX9_paste_ok (by decide +kernel) | decide +kernel) (fun v_19 w_20 h_21 => ?_)
      rcases h_21 with ⟨rfl, x_22, rfl⟩ | ⟨rfl, x_23, rfl⟩
      · skip
        let w2_ : va_W := [(mp_ob9 a0 a5 a6 a7 a8 a9 a10 a11 a12 a1), (mp_arL E a2 240 f0), (mp_arI E a3 0 4 f1), (mp_ob5 a1 a2 a3 a4), (mp_arI E a4 0 4 f2)]
        show mp_W E X 6 33 [(0, .ref a0), (1, .int x0), (2, .int x1), (3, .int x2), (4, .int x3), (5, .int x4)] [.int 0] w2_ 0 0
        refine mp_run mp_k_cX9_paste_ok hF mp_tabX9_ok [mp_h (.ifCond .eq 14) [47]] (by decide +kernel) ?_
        refine And.intro (fun _ => ?_) (fun c_24 => absurd c_24 (by decide))
        show mp_W E X 6 47 [(0, .ref a0), (1, .int x0), (2, .int x1), (3, .int x2), (4, .int x3), (5, .int x4)] [] w2_ 0 0
        refine mp_run mp_k_cX9_paste_ok hF mp_tabX9_ok [mp_c (.bipush (-6)) (-6)] (by decide +kernel) ?_
        show mp_W E X 6 49 [(0, .ref a0), (1, .int x0), (2, .int x1), (3, .int x2), (4, .int x3), (5, .int x4)] [.int (-6)] w2_ 0 0
        exact mp_iret hF hQ rfl rfl (Nat.le_of_ble_eq_true rfl) (Nat.le_of_ble_eq_true rfl) [0, 3, 1, 2, 4] (w' := w1_) rfl rfl (Or.inr (Or.inl ⟨rfl, (by first | omega | decide), (by first | omega | decide), (by first | omega | decide), (by first | omega | decide), (by first | omega | (have h8 : (0 : Int64).toInt = 0 := rfl; have h9 : (3 : Int64).toInt = 3 := rfl; have h10 : (0 : Int32).toInt = 0 := rfl; have h11 : (3 : Int32).toInt = 3 := rfl; have h12 : (60 : Int32).toInt = 60 := rfl; have h13 : (-1 : Int32).toInt = -1 := rfl; omega)), rfl⟩)) (by first | exact mp_fd_ok mp_k_cX9_paste_ok (by decide +kernel) | decide +kernel)
      · skip
        let w3_ : va_W := [(mp_ob9 a0 a5 a6 a7 a8 a9 a10 a11 a12 a1), (mp_arL E a2 240 f0), (mp_arI E a3 0 4 f1), (mp_ob5 a1 a2 a3 a4), (mp_arI E a4 0 4 f2)]
        show mp_W E X 6 33 [(0, .ref a0), (1, .int x0), (2, .int x1), (3, .int x2), (4, .int x3), (5, .int x4)] [.int 1] w3_ 0 0
        refine mp_run mp_k_cX9_paste_ok hF mp_tabX9_ok [mp_h (.ifCond .eq 14) [47]] (by decide +kernel) ?_
        refine And.intro (fun c_25 => absurd c_25 (by decide)) (fun _ => ?_)
        show mp_W E X 6 36 [(0, .ref a0), (1, .int x0), (2, .int x1), (3, .int x2), (4, .int x3), (5, .int x4)] [] w3_ 0 0
        refine mp_run mp_k_cX9_paste_ok hF mp_tabX9_ok [mp_i (.aload_n 0), mp_h (.getfield 67) [44, 0], mp_i (.iload_n 3)] (by decide +kernel) ?_
        refine And.intro rfl (And.intro rfl ?_)
        show mp_W E X 6 41 [(0, .ref a0), (1, .int x0), (2, .int x1), (3, .int x2), (4, .int x3), (5, .int x4)] [.int x2, .ref a1] w3_ 0 0
        refine mp_callV hF (As := [.int x2]) (rest := []) (wr := [(mp_ob9 a0 a5 a6 a7 a8 a9 a10 a11 a12 a1), (mp_arL E a2 240 f0), (mp_arI E a3 0 4 f1)]) (bX5_isTaken_139 E a1 a4 a2 a3 f2 x2 p0 (by omega) (by omega)) mp_lkX9_358 3 rfl [3, 4] [0, 1, 2] rfl rfl rfl rfl rfl ⟨(Nat.le_of_ble_eq_true rfl), (Nat.le_of_ble_eq_true rfl), (Nat.le_of_ble_eq_true rfl), (Nat.le_of_ble_eq_true rfl)⟩ (Nat.le_of_ble_eq_true rfl) (by first | exact mp_fd_ok mp_k_cX9_paste_ok (by decide +kernel) | decide +kernel) (fun v_26 w_27 h_28 => ?_)
        rcases h_28 with ⟨rfl, x_29, rfl⟩ | ⟨rfl, x_30, rfl⟩
        · skip
          show mp_W E X 6 44 [(0, .ref a0), (1, .int x0), (2, .int x1), (3, .int x2), (4, .int x3), (5, .int x4)] [.int 0] w3_ 0 0
          refine mp_run mp_k_cX9_paste_ok hF mp_tabX9_ok [mp_h (.ifCond .ne 6) [50]] (by decide +kernel) ?_
          refine And.intro (fun c_31 => absurd c_31 (by decide)) (fun _ => ?_)
          show mp_W E X 6 47 [(0, .ref a0), (1, .int x0), (2, .int x1), (3, .int x2), (4, .int x3), (5, .int x4)] [] w3_ 0 0
          refine mp_run mp_k_cX9_paste_ok hF mp_tabX9_ok [mp_c (.bipush (-6)) (-6)] (by decide +kernel) ?_
          show mp_W E X 6 49 [(0, .ref a0), (1, .int x0), (2, .int x1), (3, .int x2), (4, .int x3), (5, .int x4)] [.int (-6)] w3_ 0 0
          exact mp_iret hF hQ rfl rfl (Nat.le_of_ble_eq_true rfl) (Nat.le_of_ble_eq_true rfl) [0, 3, 1, 2, 4] (w' := w1_) rfl rfl (Or.inr (Or.inl ⟨rfl, (by first | omega | decide), (by first | omega | decide), (by first | omega | decide), (by first | omega | decide), (by first | omega | (have h8 : (0 : Int64).toInt = 0 := rfl; have h9 : (3 : Int64).toInt = 3 := rfl; have h10 : (0 : Int32).toInt = 0 := rfl; have h11 : (3 : Int32).toInt = 3 := rfl; have h12 : (60 : Int32).toInt = 60 := rfl; have h13 : (-1 : Int32).toInt = -1 := rfl; omega)), rfl⟩)) (by first | exact mp_fd_ok mp_k_cX9_paste_ok (by decide +kernel) | decide +kernel)
        · skip
          show mp_W E X 6 44 [(0, .ref a0), (1, .int x0), (2, .int x1), (3, .int x2), (4, .int x3), (5, .int x4)] [.int 1] w3_ 0 0
          refine mp_run mp_k_cX9_paste_ok hF mp_tabX9_ok [mp_h (.ifCond .ne 6) [50]] (by decide +kernel) ?_
          refine And.intro (fun _ => ?_) (fun c_32 => absurd c_32 (by decide))
          show mp_W E X 6 50 [(0, .ref a0), (1, .int x0), (2, .int x1), (3, .int x2), (4, .int x3), (5, .int x4)] [] w3_ 0 0
          refine mp_run mp_k_cX9_paste_ok hF mp_tabX9_ok [mp_i (.aload_n 0), mp_h (.getfield 67) [44, 0], mp_h (.getfield 368) [34, 3], mp_i (.iload_n 1), mp_h .iaload [2], mp_i (.aload_n 0), mp_h (.getfield 67) [44, 0], mp_h (.getfield 368) [34, 3], mp_i (.iload_n 3), mp_h .iaload [2], mp_h (.if_icmp .eq 6) [74]] (by decide +kernel) ?_
          refine And.intro rfl (And.intro rfl ?_)
          refine And.intro rfl (And.intro rfl ?_)
          refine And.intro rfl (And.intro rfl (And.intro (vp_in_iff.mpr (by omega)) ?_))
          intro z_33 h_34
          have e_35 : z_33.toInt = (f1 x0.toInt.toNat).toInt := congrArg Int32.toInt h_34
          refine And.intro rfl (And.intro rfl ?_)
          refine And.intro rfl (And.intro rfl ?_)
          refine And.intro rfl (And.intro rfl (And.intro (vp_in_iff.mpr (by omega)) ?_))
          intro z_36 h_37
          have e_38 : z_36.toInt = (f1 x2.toInt.toNat).toInt := congrArg Int32.toInt h_37
          refine And.intro (fun c_39 => ?_) (fun c_39 => ?_)
          · have c_39 : z_33.toInt = z_36.toInt := (congrArg Int32.toInt c_39)
            show mp_W E X 6 74 [(0, .ref a0), (1, .int x0), (2, .int x1), (3, .int x2), (4, .int x3), (5, .int x4)] [] w3_ 0 0
            refine mp_run mp_k_cX9_paste_ok hF mp_tabX9_ok [mp_i (.aload_n 0), mp_h (.getfield 67) [44, 0], mp_i (.iload_n 1), mp_i (.iload_n 2), mp_i (.iload 5)] (by decide +kernel) ?_
            refine And.intro rfl (And.intro rfl ?_)
            show mp_W E X 6 82 [(0, .ref a0), (1, .int x0), (2, .int x1), (3, .int x2), (4, .int x3), (5, .int x4)] [.int x4, .int x1, .int x0, .ref a1] w3_ 0 0
            refine mp_callV hF (As := [.int x0, .int x1, .int x4]) (rest := []) (wr := [(mp_ob9 a0 a5 a6 a7 a8 a9 a10 a11 a12 a1), (mp_arL E a2 240 f0), (mp_arI E a3 0 4 f1)]) (bX5_holds_184 E a1 a4 a2 a3 f2 x0 x1 x4 p0 (by omega) (by omega)) mp_lkX9_371 3 rfl [3, 4] [0, 1, 2] rfl rfl rfl rfl rfl ⟨(Nat.le_of_ble_eq_true rfl), (Nat.le_of_ble_eq_true rfl), (Nat.le_of_ble_eq_true rfl), (Nat.le_of_ble_eq_true rfl)⟩ (Nat.le_of_ble_eq_true rfl) (by first | exact mp_fd_ok mp_k_cX9_paste_ok (by decide +kernel) | decide +kernel) (fun v_40 w_41 h_42 => ?_)
            refine h_42.elim (fun q_48 => ?_) (fun q_49 => ?_)
            · skip
              refine q_48.elim fun e_50 q_51 => q_51.elim fun x_43 e_52 => ?_
              clear h_42 q_48 q_51
              subst e_50
              subst e_52
              show mp_W E X 6 85 [(0, .ref a0), (1, .int x0), (2, .int x1), (3, .int x2), (4, .int x3), (5, .int x4)] [.int 0] w3_ 0 0
              refine mp_run mp_k_cX9_paste_ok hF mp_tabX9_ok [mp_h (.ifCond .eq 18) [103]] (by decide +kernel) ?_
              refine And.intro (fun _ => ?_) (fun c_53 => absurd c_53 (by decide))
              show mp_W E X 6 103 [(0, .ref a0), (1, .int x0), (2, .int x1), (3, .int x2), (4, .int x3), (5, .int x4)] [] w3_ 0 0
              refine mp_run mp_k_cX9_paste_ok hF mp_tabX9_ok [mp_c (.bipush (-7)) (-7)] (by decide +kernel) ?_
              show mp_W E X 6 105 [(0, .ref a0), (1, .int x0), (2, .int x1), (3, .int x2), (4, .int x3), (5, .int x4)] [.int (-7)] w3_ 0 0
              exact mp_iret hF hQ rfl rfl (Nat.le_of_ble_eq_true rfl) (Nat.le_of_ble_eq_true rfl) [0, 3, 1, 2, 4] (w' := w1_) rfl rfl (Or.inr (Or.inr (Or.inl ⟨rfl, (by first | omega | decide), (by first | omega | decide), (by first | omega | decide), (by first | omega | decide), (by first | omega | (have h8 : (0 : Int64).toInt = 0 := rfl; have h9 : (3 : Int64).toInt = 3 := rfl; have h10 : (0 : Int32).toInt = 0 := rfl; have h11 : (3 : Int32).toInt = 3 := rfl; have h12 : (60 : Int32).toInt = 60 := rfl; have h13 : (-1 : Int32).toInt = -1 := rfl; omega)), rfl⟩))) (by first | exact mp_fd_ok mp_k_cX9_paste_ok (by decide +kernel) | decide +kernel)
            · skip
              refine q_49.elim fun e_54 q_55 => q_55.elim fun c_44 q_56 => q_56.elim fun c_45 q_57 => q_57.elim fun x_46 q_58 => q_58.elim fun x_47 e_59 => ?_
              clear h_42 q_49 q_55 q_56 q_57 q_58
              subst e_54
              subst e_59
              have c_44 : 0 ≤ x1.toInt := c_44
              have c_45 : 0 ≤ x4.toInt := c_45
              show mp_W E X 6 85 [(0, .ref a0), (1, .int x0), (2, .int x1), (3, .int x2), (4, .int x3), (5, .int x4)] [.int 1] w3_ 0 0
              refine mp_run mp_k_cX9_paste_ok hF mp_tabX9_ok [mp_h (.ifCond .eq 18) [103]] (by decide +kernel) ?_
              refine And.intro (fun c_60 => absurd c_60 (by decide)) (fun _ => ?_)
              show mp_W E X 6 88 [(0, .ref a0), (1, .int x0), (2, .int x1), (3, .int x2), (4, .int x3), (5, .int x4)] [] w3_ 0 0
              refine mp_run mp_k_cX9_paste_ok hF mp_tabX9_ok [mp_i (.aload_n 0), mp_h (.getfield 67) [44, 0], mp_i (.iload_n 3), mp_i (.iload 4), mp_i (.iload 5)] (by decide +kernel) ?_
              refine And.intro rfl (And.intro rfl ?_)
              show mp_W E X 6 97 [(0, .ref a0), (1, .int x0), (2, .int x1), (3, .int x2), (4, .int x3), (5, .int x4)] [.int x4, .int x3, .int x2, .ref a1] w3_ 0 0
              refine mp_callV hF (As := [.int x2, .int x3, .int x4]) (rest := []) (wr := [(mp_ob9 a0 a5 a6 a7 a8 a9 a10 a11 a12 a1), (mp_arL E a2 240 f0), (mp_arI E a3 0 4 f1)]) (bX5_holds_184 E a1 a4 a2 a3 f2 x2 x3 x4 p0 (by omega) (by omega)) mp_lkX9_371 3 rfl [3, 4] [0, 1, 2] rfl rfl rfl rfl rfl ⟨(Nat.le_of_ble_eq_true rfl), (Nat.le_of_ble_eq_true rfl), (Nat.le_of_ble_eq_true rfl), (Nat.le_of_ble_eq_true rfl)⟩ (Nat.le_of_ble_eq_true rfl) (by first | exact mp_fd_ok mp_k_cX9_paste_ok (by decide +kernel) | decide +kernel) (fun v_61 w_62 h_63 => ?_)
              refine h_63.elim (fun q_69 => ?_) (fun q_70 => ?_)
              · skip
                refine q_69.elim fun e_71 q_72 => q_72.elim fun x_64 e_73 => ?_
                clear h_63 q_69 q_72
                subst e_71
                subst e_73
                show mp_W E X 6 100 [(0, .ref a0), (1, .int x0), (2, .int x1), (3, .int x2), (4, .int x3), (5, .int x4)] [.int 0] w3_ 0 0
                refine mp_run mp_k_cX9_paste_ok hF mp_tabX9_ok [mp_h (.ifCond .ne 6) [106]] (by decide +kernel) ?_
                refine And.intro (fun c_74 => absurd c_74 (by decide)) (fun _ => ?_)
                show mp_W E X 6 103 [(0, .ref a0), (1, .int x0), (2, .int x1), (3, .int x2), (4, .int x3), (5, .int x4)] [] w3_ 0 0
                refine mp_run mp_k_cX9_paste_ok hF mp_tabX9_ok [mp_c (.bipush (-7)) (-7)] (by decide +kernel) ?_
                show mp_W E X 6 105 [(0, .ref a0), (1, .int x0), (2, .int x1), (3, .int x2), (4, .int x3), (5, .int x4)] [.int (-7)] w3_ 0 0
                exact mp_iret hF hQ rfl rfl (Nat.le_of_ble_eq_true rfl) (Nat.le_of_ble_eq_true rfl) [0, 3, 1, 2, 4] (w' := w1_) rfl rfl (Or.inr (Or.inr (Or.inl ⟨rfl, (by first | omega | decide), (by first | omega | decide), (by first | omega | decide), (by first | omega | decide), (by first | omega | (have h8 : (0 : Int64).toInt = 0 := rfl; have h9 : (3 : Int64).toInt = 3 := rfl; have h10 : (0 : Int32).toInt = 0 := rfl; have h11 : (3 : Int32).toInt = 3 := rfl; have h12 : (60 : Int32).toInt = 60 := rfl; have h13 : (-1 : Int32).toInt = -1 := rfl; omega)), rfl⟩))) (by first | exact mp_fd_ok mp_k_cX9_paste_ok (by decide +kernel) | decide +kernel)
              · skip
                refine q_70.elim fun e_75 q_76 => q_76.elim fun c_65 q_77 => q_77.elim fun c_66 q_78 => q_78.elim fun x_67 q_79 => q_79.elim fun x_68 e_80 => ?_
                clear h_63 q_70 q_76 q_77 q_78 q_79
                subst e_75
                subst e_80
                have c_65 : 0 ≤ x3.toInt := c_65
                have c_66 : 0 ≤ x4.toInt := c_66
                show mp_W E X 6 100 [(0, .ref a0), (1, .int x0), (2, .int x1), (3, .int x2), (4, .int x3), (5, .int x4)] [.int 1] w3_ 0 0
                refine mp_run mp_k_cX9_paste_ok hF mp_tabX9_ok [mp_h (.ifCond .ne 6) [106]] (by decide +kernel) ?_
                refine And.intro (fun _ => ?_) (fun c_81 => absurd c_81 (by decide))
                show mp_W E X 6 106 [(0, .ref a0), (1, .int x0), (2, .int x1), (3, .int x2), (4, .int x3), (5, .int x4)] [] w3_ 0 0
                refine mp_run mp_k_cX9_paste_ok hF mp_tabX9_ok [mp_i (.aload_n 0), mp_h (.getfield 67) [44, 0], mp_i (.iload_n 1), mp_i (.iload_n 2), mp_i (.iload_n 3), mp_i (.iload 4), mp_i (.iload 5)] (by decide +kernel) ?_
                refine And.intro rfl (And.intro rfl ?_)
                show mp_W E X 6 117 [(0, .ref a0), (1, .int x0), (2, .int x1), (3, .int x2), (4, .int x3), (5, .int x4)] [.int x4, .int x3, .int x2, .int x1, .int x0, .ref a1] w3_ 0 0
                refine mp_callV hF (As := [.int x0, .int x1, .int x2, .int x3, .int x4]) (rest := []) (wr := [(mp_ob9 a0 a5 a6 a7 a8 a9 a10 a11 a12 a1), (mp_arI E a3 0 4 f1), (mp_arI E a4 0 4 f2)]) (bX5_move_185 E a1 a2 a3 a4 f0 x0 x1 x2 x3 x4 (by omega) (by omega) (by omega) (by omega) (by omega) (by omega) (by omega) (by omega) (by omega) (by omega) (by first | omega | (show x1.toInt + x4.toInt ≤ 60; omega)) (by first | omega | (show x3.toInt + x4.toInt ≤ 60; omega))) mp_lkX9_374 3 rfl [3, 1] [0, 2, 4] rfl rfl rfl rfl rfl ⟨(Nat.le_of_ble_eq_true rfl), (Nat.le_of_ble_eq_true rfl), (Nat.le_of_ble_eq_true rfl), (Nat.le_of_ble_eq_true rfl)⟩ (Nat.le_of_ble_eq_true rfl) (by first | exact mp_fd_ok mp_k_cX9_paste_ok (by decide +kernel) | decide +kernel) (fun v_82 w_83 h_84 => ?_)
                obtain ⟨g_85, rfl, rfl⟩ := h_84
                let w4_ : va_W := [(mp_ob9 a0 a5 a6 a7 a8 a9 a10 a11 a12 a1), (mp_arI E a3 0 4 f1), (mp_arI E a4 0 4 f2), (mp_ob5 a1 a2 a3 a4), (mp_arL E a2 240 g_85)]
                show mp_W E X 6 120 [(0, .ref a0), (1, .int x0), (2, .int x1), (3, .int x2), (4, .int x3), (5, .int x4)] [] w4_ 0 0
                refine mp_run mp_k_cX9_paste_ok hF mp_tabX9_ok [mp_c (.iconst 0) 0] (by decide +kernel) ?_
                show mp_W E X 6 121 [(0, .ref a0), (1, .int x0), (2, .int x1), (3, .int x2), (4, .int x3), (5, .int x4)] [.int 0] w4_ 0 0
                exact mp_iret hF hQ rfl rfl (Nat.le_of_ble_eq_true rfl) (Nat.le_of_ble_eq_true rfl) [0, 3, 4, 1, 2] (w' := [(mp_ob9 a0 a5 a6 a7 a8 a9 a10 a11 a12 a1), (mp_ob5 a1 a2 a3 a4), (mp_arL E a2 240 g_85), (mp_arI E a3 0 4 f1), (mp_arI E a4 0 4 f2)]) rfl rfl (Or.inr (Or.inr (Or.inr (Or.inl ⟨g_85, rfl, (by first | omega | decide), (by first | omega | decide), (by first | omega | decide), (by first | omega | decide), (by first | omega | decide), (by first | omega | decide), (by first | omega | decide), (by first | omega | (have h8 : (0 : Int64).toInt = 0 := rfl; have h9 : (3 : Int64).toInt = 3 := rfl; have h10 : (0 : Int32).toInt = 0 := rfl; have h11 : (3 : Int32).toInt = 3 := rfl; have h12 : (60 : Int32).toInt = 60 := rfl; have h13 : (-1 : Int32).toInt = -1 := rfl; omega)), rfl⟩)))) (by first | exact mp_fd_ok mp_k_cX9_paste_ok (by decide +kernel) | decide +kernel)
          · have c_39 : z_33.toInt ≠ z_36.toInt := c_39
            show mp_W E X 6 71 [(0, .ref a0), (1, .int x0), (2, .int x1), (3, .int x2), (4, .int x3), (5, .int x4)] [] w3_ 0 0
            refine mp_run mp_k_cX9_paste_ok hF mp_tabX9_ok [mp_c (.bipush (-8)) (-8)] (by decide +kernel) ?_
            show mp_W E X 6 73 [(0, .ref a0), (1, .int x0), (2, .int x1), (3, .int x2), (4, .int x3), (5, .int x4)] [.int (-8)] w3_ 0 0
            exact mp_iret hF hQ rfl rfl (Nat.le_of_ble_eq_true rfl) (Nat.le_of_ble_eq_true rfl) [0, 3, 1, 2, 4] (w' := w1_) rfl rfl (Or.inr (Or.inr (Or.inr (Or.inr ⟨rfl, (by first | omega | decide), (by first | omega | decide), (by first | omega | decide), (by first | omega | decide), (by first | omega | (have h8 : (0 : Int64).toInt = 0 := rfl; have h9 : (3 : Int64).toInt = 3 := rfl; have h10 : (0 : Int32).toInt = 0 := rfl; have h11 : (3 : Int32).toInt = 3 := rfl; have h12 : (60 : Int32).toInt = 60 := rfl; have h13 : (-1 : Int32).toInt = -1 := rfl; omega)), rfl⟩)))) (by first | exact mp_fd_ok mp_k_cX9_paste_ok (by decide +kernel) | decide +kernel)
set_option maxHeartbeats 4000000 in
set_option maxRecDepth 100000 in
theorem bX9_image_187 (E : mp_E) (a0 : Nat) (x0 : Int32) (u_x0 : x0.toInt ≤ (-1)) : mp_Ct E yX9_image cX9_image 2 (some FieldType.int) 0 0 0 0 [.ref a0, .int x0] [] (fun v w' => v = some (.int (-2)) ∧ w' = []) := by
  refine mp_met false (by decide) (by decide) (Nat.le_of_ble_eq_true rfl) (fun X hF hQ => ?_)
  have hF : mp_F E X (RX9, cX9_image, 2, (0, 0, 0, 0), (some FieldType.int), false) := hF
  show mp_W E X 2 0 [(0, .ref a0), (1, .int x0)] [] [] 0 0
  refine mp_run mp_k_cX9_image_ok hF mp_tabX9_ok [mp_i (.iload_n 1), mp_h (.ifCond .lt 8) [9]] (by decide +kernel) ?_
  refine And.intro (fun c_1 => ?_) (fun c_1 => ?_)
  · have c_1 : x0.toInt < 0 := c_1
    show mp_W E X 2 9 [(0, .ref a0), (1, .int x0)] [] [] 0 0
    refine mp_run mp_k_cX9_image_ok hF mp_tabX9_ok [mp_c (.bipush (-2)) (-2)] (by decide +kernel) ?_
    show mp_W E X 2 11 [(0, .ref a0), (1, .int x0)] [.int (-2)] [] 0 0
    exact mp_iret hF hQ rfl rfl (Nat.le_of_ble_eq_true rfl) (Nat.le_of_ble_eq_true rfl) [] (w' := []) rfl rfl ⟨rfl, rfl⟩ (by first | exact mp_fd_ok mp_k_cX9_image_ok (by decide +kernel) | decide +kernel)
  · have c_1 : 0 ≤ x0.toInt := c_1
    exfalso; (first | exact mp_o913 c_1 u_x0 | omega)
set_option maxHeartbeats 4000000 in
set_option maxRecDepth 100000 in
theorem bX9_image_188 (E : mp_E) (a0 : Nat) (x0 : Int32) (l_x0 : 3 ≤ x0.toInt) : mp_Ct E yX9_image cX9_image 2 (some FieldType.int) 0 0 0 0 [.ref a0, .int x0] [] (fun v w' => v = some (.int (-2)) ∧ w' = []) := by
  refine mp_met false (by decide) (by decide) (Nat.le_of_ble_eq_true rfl) (fun X hF hQ => ?_)
  have hF : mp_F E X (RX9, cX9_image, 2, (0, 0, 0, 0), (some FieldType.int), false) := hF
  show mp_W E X 2 0 [(0, .ref a0), (1, .int x0)] [] [] 0 0
  refine mp_run mp_k_cX9_image_ok hF mp_tabX9_ok [mp_i (.iload_n 1), mp_h (.ifCond .lt 8) [9]] (by decide +kernel) ?_
  refine And.intro (fun c_1 => ?_) (fun c_1 => ?_)
  · have c_1 : x0.toInt < 0 := c_1
    exfalso; (first | exact mp_o914 l_x0 c_1 | omega)
  · have c_1 : 0 ≤ x0.toInt := c_1
    show mp_W E X 2 4 [(0, .ref a0), (1, .int x0)] [] [] 0 0
    refine mp_run mp_k_cX9_image_ok hF mp_tabX9_ok [mp_i (.iload_n 1), mp_c (.iconst 3) 3, mp_h (.if_icmp .lt 6) [12]] (by decide +kernel) ?_
    refine And.intro (fun c_2 => ?_) (fun c_2 => ?_)
    · have c_2 : x0.toInt < 3 := c_2
      exfalso; (first | exact mp_o915 l_x0 c_2 | omega)
    · have c_2 : 3 ≤ x0.toInt := c_2
      show mp_W E X 2 9 [(0, .ref a0), (1, .int x0)] [] [] 0 0
      refine mp_run mp_k_cX9_image_ok hF mp_tabX9_ok [mp_c (.bipush (-2)) (-2)] (by decide +kernel) ?_
      show mp_W E X 2 11 [(0, .ref a0), (1, .int x0)] [.int (-2)] [] 0 0
      exact mp_iret hF hQ rfl rfl (Nat.le_of_ble_eq_true rfl) (Nat.le_of_ble_eq_true rfl) [] (w' := []) rfl rfl ⟨rfl, rfl⟩ (by first | exact mp_fd_ok mp_k_cX9_image_ok (by decide +kernel) | decide +kernel)
set_option maxHeartbeats 4000000 in
set_option maxRecDepth 100000 in
theorem bX7_init_189 (E : mp_E) (a0 : Nat) (y0 : Int32) (y1 : Int32) (y2 : Int32) (y3 : Int32) (y4 : Int32) (y5 : Int32) (l_y1 : 0 ≤ y1.toInt) (u_y1 : y1.toInt ≤ 6) (l_y2 : 0 ≤ y2.toInt) (u_y2 : y2.toInt ≤ 99) (l_y3 : 0 ≤ y3.toInt) (u_y3 : y3.toInt ≤ 6) (l_y4 : 0 ≤ y4.toInt) (u_y4 : y4.toInt ≤ 10) (l_y5 : 0 ≤ y5.toInt) (u_y5 : y5.toInt ≤ 60) : mp_Ct E yX7_init cX7_init 1 none 1 12 186 12 [.ref a0] [(a0, .inr (7, [.int y0, .int y1, .int y2, .int y3, .int y4, .int y5, .null, .null, .null, .null, .null, .null, .null, .null, .null, .null, .null, .null]))] (fun v w' => ∃ q1 : Nat, ∃ q2 : Nat, ∃ q3 : Nat, ∃ q4 : Nat, ∃ q5 : Nat, ∃ q6 : Nat, ∃ q7 : Nat, ∃ q8 : Nat, ∃ q9 : Nat, ∃ q10 : Nat, ∃ q11 : Nat, ∃ q12 : Nat, v = none ∧ w' = [(mp_ob7 a0 y0 y1 y2 y3 y4 y5 q1 q2 q3 q4 q5 q6 q7 q8 q9 q10 q11 q12), (mp_arI E q1 0 36 (fun _ => 0)), (mp_arL E q2 12 (fun _ => 0)), (mp_arI E q3 0 6 (fun _ => 0)), (mp_arI E q4 0 6 (fun _ => 0)), (mp_arI E q5 0 6 (fun _ => 0)), (mp_arI E q6 0 10 (fun _ => 0)), (mp_arI E q7 0 10 (fun _ => 0)), (mp_arI E q8 0 10 (fun _ => 0)), (mp_arI E q9 0 10 (fun _ => 0)), (mp_arI E q10 0 10 (fun _ => 0)), (mp_arI E q11 0 10 (fun _ => 0)), (mp_arI E q12 0 60 (fun _ => 0))]) := by
  refine mp_met true (by decide) (by decide) (Nat.le_of_ble_eq_true rfl) (fun X hF hQ => ?_)
  have hF : mp_F E X (RX7, cX7_init, 1, (1, 12, 186, 12), none, true) := hF
  let w1_ : va_W := [(a0, .inr (7, [.int y0, .int y1, .int y2, .int y3, .int y4, .int y5, .null, .null, .null, .null, .null, .null, .null, .null, .null, .null, .null, .null]))]
  show mp_W E X 1 0 [(0, .ref a0)] [] w1_ 0 0
  refine mp_run mp_k_cX7_init_ok hF mp_tabX7_ok [mp_i (.aload_n 0)] (by decide +kernel) ?_
  show mp_W E X 1 1 [(0, .ref a0)] [.ref a0] w1_ 0 0
  refine mp_objInit hF (idx := 3) (mp_gm (j := 1040) (by decide +kernel)) ⟨(Nat.le_of_ble_eq_true rfl), (Nat.le_of_ble_eq_true rfl)⟩ (by first | exact mp_fd_ok mp_k_cX7_init_ok (by decide +kernel) | decide +kernel) ?_
  show mp_W E X 1 4 [(0, .ref a0)] [] w1_ 0 0
  refine mp_run mp_k_cX7_init_ok hF mp_tabX7_ok [mp_i (.aload_n 0), mp_c (.bipush 36) 36, mp_h (.newarray .int) [36], mp_h (.putfield 9) [6, 0]] (by decide +kernel) ?_
  refine And.intro (by decide) (And.intro (Nat.le_of_ble_eq_true rfl) (And.intro (Nat.le_of_ble_eq_true rfl) (And.intro (by decide) ?_)))
  intro q_1
  refine And.intro rfl (And.intro rfl (And.intro rfl (And.intro rfl (And.intro (Nat.le_of_ble_eq_true rfl) ?_))))
  let w2_ : va_W := [(a0, .inr (7, [.int y0, .int y1, .int y2, .int y3, .int y4, .int y5, .ref q_1, .null, .null, .null, .null, .null, .null, .null, .null, .null, .null, .null])), (mp_arI E q_1 0 36 (fun _ => 0))]
  show mp_W E X 1 12 [(0, .ref a0)] [] w2_ 1 36
  refine mp_run mp_k_cX7_init_ok hF mp_tabX7_ok [mp_i (.aload_n 0), mp_c (.bipush 12) 12, mp_h (.newarray .long) [12], mp_h (.putfield 15) [7, 0]] (by decide +kernel) ?_
  refine And.intro (by decide) (And.intro (Nat.le_of_ble_eq_true rfl) (And.intro (Nat.le_of_ble_eq_true rfl) (And.intro (by decide) ?_)))
  intro q_2
  refine And.intro rfl (And.intro rfl (And.intro rfl (And.intro rfl (And.intro (Nat.le_of_ble_eq_true rfl) ?_))))
  let w3_ : va_W := [(a0, .inr (7, [.int y0, .int y1, .int y2, .int y3, .int y4, .int y5, .ref q_1, .ref q_2, .null, .null, .null, .null, .null, .null, .null, .null, .null, .null])), (mp_arI E q_1 0 36 (fun _ => 0)), (mp_arL E q_2 12 (fun _ => 0))]
  show mp_W E X 1 20 [(0, .ref a0)] [] w3_ 2 48
  refine mp_run mp_k_cX7_init_ok hF mp_tabX7_ok [mp_i (.aload_n 0), mp_c (.bipush 6) 6, mp_h (.newarray .int) [6], mp_h (.putfield 19) [8, 0]] (by decide +kernel) ?_
  refine And.intro (by decide) (And.intro (Nat.le_of_ble_eq_true rfl) (And.intro (Nat.le_of_ble_eq_true rfl) (And.intro (by decide) ?_)))
  intro q_3
  refine And.intro rfl (And.intro rfl (And.intro rfl (And.intro rfl (And.intro (Nat.le_of_ble_eq_true rfl) ?_))))
  let w4_ : va_W := [(a0, .inr (7, [.int y0, .int y1, .int y2, .int y3, .int y4, .int y5, .ref q_1, .ref q_2, .ref q_3, .null, .null, .null, .null, .null, .null, .null, .null, .null])), (mp_arI E q_1 0 36 (fun _ => 0)), (mp_arL E q_2 12 (fun _ => 0)), (mp_arI E q_3 0 6 (fun _ => 0))]
  show mp_W E X 1 28 [(0, .ref a0)] [] w4_ 3 54
  refine mp_run mp_k_cX7_init_ok hF mp_tabX7_ok [mp_i (.aload_n 0), mp_c (.bipush 6) 6, mp_h (.newarray .int) [6], mp_h (.putfield 22) [9, 0]] (by decide +kernel) ?_
  refine And.intro (by decide) (And.intro (Nat.le_of_ble_eq_true rfl) (And.intro (Nat.le_of_ble_eq_true rfl) (And.intro (by decide) ?_)))
  intro q_4
  refine And.intro rfl (And.intro rfl (And.intro rfl (And.intro rfl (And.intro (Nat.le_of_ble_eq_true rfl) ?_))))
  let w5_ : va_W := [(a0, .inr (7, [.int y0, .int y1, .int y2, .int y3, .int y4, .int y5, .ref q_1, .ref q_2, .ref q_3, .ref q_4, .null, .null, .null, .null, .null, .null, .null, .null])), (mp_arI E q_1 0 36 (fun _ => 0)), (mp_arL E q_2 12 (fun _ => 0)), (mp_arI E q_3 0 6 (fun _ => 0)), (mp_arI E q_4 0 6 (fun _ => 0))]
  show mp_W E X 1 36 [(0, .ref a0)] [] w5_ 4 60
  refine mp_run mp_k_cX7_init_ok hF mp_tabX7_ok [mp_i (.aload_n 0), mp_c (.bipush 6) 6, mp_h (.newarray .int) [6], mp_h (.putfield 25) [10, 0]] (by decide +kernel) ?_
  refine And.intro (by decide) (And.intro (Nat.le_of_ble_eq_true rfl) (And.intro (Nat.le_of_ble_eq_true rfl) (And.intro (by decide) ?_)))
  intro q_5
  refine And.intro rfl (And.intro rfl (And.intro rfl (And.intro rfl (And.intro (Nat.le_of_ble_eq_true rfl) ?_))))
  let w6_ : va_W := [(a0, .inr (7, [.int y0, .int y1, .int y2, .int y3, .int y4, .int y5, .ref q_1, .ref q_2, .ref q_3, .ref q_4, .ref q_5, .null, .null, .null, .null, .null, .null, .null])), (mp_arI E q_1 0 36 (fun _ => 0)), (mp_arL E q_2 12 (fun _ => 0)), (mp_arI E q_3 0 6 (fun _ => 0)), (mp_arI E q_4 0 6 (fun _ => 0)), (mp_arI E q_5 0 6 (fun _ => 0))]
  show mp_W E X 1 44 [(0, .ref a0)] [] w6_ 5 66
  refine mp_run mp_k_cX7_init_ok hF mp_tabX7_ok [mp_i (.aload_n 0), mp_c (.bipush 10) 10, mp_h (.newarray .int) [10], mp_h (.putfield 28) [11, 0]] (by decide +kernel) ?_
  refine And.intro (by decide) (And.intro (Nat.le_of_ble_eq_true rfl) (And.intro (Nat.le_of_ble_eq_true rfl) (And.intro (by decide) ?_)))
  intro q_6
  refine And.intro rfl (And.intro rfl (And.intro rfl (And.intro rfl (And.intro (Nat.le_of_ble_eq_true rfl) ?_))))
  let w7_ : va_W := [(a0, .inr (7, [.int y0, .int y1, .int y2, .int y3, .int y4, .int y5, .ref q_1, .ref q_2, .ref q_3, .ref q_4, .ref q_5, .ref q_6, .null, .null, .null, .null, .null, .null])), (mp_arI E q_1 0 36 (fun _ => 0)), (mp_arL E q_2 12 (fun _ => 0)), (mp_arI E q_3 0 6 (fun _ => 0)), (mp_arI E q_4 0 6 (fun _ => 0)), (mp_arI E q_5 0 6 (fun _ => 0)), (mp_arI E q_6 0 10 (fun _ => 0))]
  show mp_W E X 1 52 [(0, .ref a0)] [] w7_ 6 76
  refine mp_run mp_k_cX7_init_ok hF mp_tabX7_ok [mp_i (.aload_n 0), mp_c (.bipush 10) 10, mp_h (.newarray .int) [10], mp_h (.putfield 31) [12, 0]] (by decide +kernel) ?_
  refine And.intro (by decide) (And.intro (Nat.le_of_ble_eq_true rfl) (And.intro (Nat.le_of_ble_eq_true rfl) (And.intro (by decide) ?_)))
  intro q_7
  refine And.intro rfl (And.intro rfl (And.intro rfl (And.intro rfl (And.intro (Nat.le_of_ble_eq_true rfl) ?_))))
  let w8_ : va_W := [(a0, .inr (7, [.int y0, .int y1, .int y2, .int y3, .int y4, .int y5, .ref q_1, .ref q_2, .ref q_3, .ref q_4, .ref q_5, .ref q_6, .ref q_7, .null, .null, .null, .null, .null])), (mp_arI E q_1 0 36 (fun _ => 0)), (mp_arL E q_2 12 (fun _ => 0)), (mp_arI E q_3 0 6 (fun _ => 0)), (mp_arI E q_4 0 6 (fun _ => 0)), (mp_arI E q_5 0 6 (fun _ => 0)), (mp_arI E q_6 0 10 (fun _ => 0)), (mp_arI E q_7 0 10 (fun _ => 0))]
  show mp_W E X 1 60 [(0, .ref a0)] [] w8_ 7 86
  refine mp_run mp_k_cX7_init_ok hF mp_tabX7_ok [mp_i (.aload_n 0), mp_c (.bipush 10) 10, mp_h (.newarray .int) [10], mp_h (.putfield 34) [13, 0]] (by decide +kernel) ?_
  refine And.intro (by decide) (And.intro (Nat.le_of_ble_eq_true rfl) (And.intro (Nat.le_of_ble_eq_true rfl) (And.intro (by decide) ?_)))
  intro q_8
  refine And.intro rfl (And.intro rfl (And.intro rfl (And.intro rfl (And.intro (Nat.le_of_ble_eq_true rfl) ?_))))
  let w9_ : va_W := [(a0, .inr (7, [.int y0, .int y1, .int y2, .int y3, .int y4, .int y5, .ref q_1, .ref q_2, .ref q_3, .ref q_4, .ref q_5, .ref q_6, .ref q_7, .ref q_8, .null, .null, .null, .null])), (mp_arI E q_1 0 36 (fun _ => 0)), (mp_arL E q_2 12 (fun _ => 0)), (mp_arI E q_3 0 6 (fun _ => 0)), (mp_arI E q_4 0 6 (fun _ => 0)), (mp_arI E q_5 0 6 (fun _ => 0)), (mp_arI E q_6 0 10 (fun _ => 0)), (mp_arI E q_7 0 10 (fun _ => 0)), (mp_arI E q_8 0 10 (fun _ => 0))]
  show mp_W E X 1 68 [(0, .ref a0)] [] w9_ 8 96
  refine mp_run mp_k_cX7_init_ok hF mp_tabX7_ok [mp_i (.aload_n 0), mp_c (.bipush 10) 10, mp_h (.newarray .int) [10], mp_h (.putfield 37) [14, 0]] (by decide +kernel) ?_
  refine And.intro (by decide) (And.intro (Nat.le_of_ble_eq_true rfl) (And.intro (Nat.le_of_ble_eq_true rfl) (And.intro (by decide) ?_)))
  intro q_9
  refine And.intro rfl (And.intro rfl (And.intro rfl (And.intro rfl (And.intro (Nat.le_of_ble_eq_true rfl) ?_))))
  let w10_ : va_W := [(a0, .inr (7, [.int y0, .int y1, .int y2, .int y3, .int y4, .int y5, .ref q_1, .ref q_2, .ref q_3, .ref q_4, .ref q_5, .ref q_6, .ref q_7, .ref q_8, .ref q_9, .null, .null, .null])), (mp_arI E q_1 0 36 (fun _ => 0)), (mp_arL E q_2 12 (fun _ => 0)), (mp_arI E q_3 0 6 (fun _ => 0)), (mp_arI E q_4 0 6 (fun _ => 0)), (mp_arI E q_5 0 6 (fun _ => 0)), (mp_arI E q_6 0 10 (fun _ => 0)), (mp_arI E q_7 0 10 (fun _ => 0)), (mp_arI E q_8 0 10 (fun _ => 0)), (mp_arI E q_9 0 10 (fun _ => 0))]
  show mp_W E X 1 76 [(0, .ref a0)] [] w10_ 9 106
  refine mp_run mp_k_cX7_init_ok hF mp_tabX7_ok [mp_i (.aload_n 0), mp_c (.bipush 10) 10, mp_h (.newarray .int) [10], mp_h (.putfield 40) [15, 0]] (by decide +kernel) ?_
  refine And.intro (by decide) (And.intro (Nat.le_of_ble_eq_true rfl) (And.intro (Nat.le_of_ble_eq_true rfl) (And.intro (by decide) ?_)))
  intro q_10
  refine And.intro rfl (And.intro rfl (And.intro rfl (And.intro rfl (And.intro (Nat.le_of_ble_eq_true rfl) ?_))))
  let w11_ : va_W := [(a0, .inr (7, [.int y0, .int y1, .int y2, .int y3, .int y4, .int y5, .ref q_1, .ref q_2, .ref q_3, .ref q_4, .ref q_5, .ref q_6, .ref q_7, .ref q_8, .ref q_9, .ref q_10, .null, .null])), (mp_arI E q_1 0 36 (fun _ => 0)), (mp_arL E q_2 12 (fun _ => 0)), (mp_arI E q_3 0 6 (fun _ => 0)), (mp_arI E q_4 0 6 (fun _ => 0)), (mp_arI E q_5 0 6 (fun _ => 0)), (mp_arI E q_6 0 10 (fun _ => 0)), (mp_arI E q_7 0 10 (fun _ => 0)), (mp_arI E q_8 0 10 (fun _ => 0)), (mp_arI E q_9 0 10 (fun _ => 0)), (mp_arI E q_10 0 10 (fun _ => 0))]
  show mp_W E X 1 84 [(0, .ref a0)] [] w11_ 10 116
  refine mp_run mp_k_cX7_init_ok hF mp_tabX7_ok [mp_i (.aload_n 0), mp_c (.bipush 10) 10, mp_h (.newarray .int) [10], mp_h (.putfield 43) [16, 0]] (by decide +kernel) ?_
  refine And.intro (by decide) (And.intro (Nat.le_of_ble_eq_true rfl) (And.intro (Nat.le_of_ble_eq_true rfl) (And.intro (by decide) ?_)))
  intro q_11
  refine And.intro rfl (And.intro rfl (And.intro rfl (And.intro rfl (And.intro (Nat.le_of_ble_eq_true rfl) ?_))))
  let w12_ : va_W := [(a0, .inr (7, [.int y0, .int y1, .int y2, .int y3, .int y4, .int y5, .ref q_1, .ref q_2, .ref q_3, .ref q_4, .ref q_5, .ref q_6, .ref q_7, .ref q_8, .ref q_9, .ref q_10, .ref q_11, .null])), (mp_arI E q_1 0 36 (fun _ => 0)), (mp_arL E q_2 12 (fun _ => 0)), (mp_arI E q_3 0 6 (fun _ => 0)), (mp_arI E q_4 0 6 (fun _ => 0)), (mp_arI E q_5 0 6 (fun _ => 0)), (mp_arI E q_6 0 10 (fun _ => 0)), (mp_arI E q_7 0 10 (fun _ => 0)), (mp_arI E q_8 0 10 (fun _ => 0)), (mp_arI E q_9 0 10 (fun _ => 0)), (mp_arI E q_10 0 10 (fun _ => 0)), (mp_arI E q_11 0 10 (fun _ => 0))]
  show mp_W E X 1 92 [(0, .ref a0)] [] w12_ 11 126
  refine mp_run mp_k_cX7_init_ok hF mp_tabX7_ok [mp_i (.aload_n 0), mp_c (.bipush 60) 60, mp_h (.newarray .int) [60], mp_h (.putfield 46) [17, 0]] (by decide +kernel) ?_
  refine And.intro (by decide) (And.intro (Nat.le_of_ble_eq_true rfl) (And.intro (Nat.le_of_ble_eq_true rfl) (And.intro (by decide) ?_)))
  intro q_12
  refine And.intro rfl (And.intro rfl (And.intro rfl (And.intro rfl (And.intro (Nat.le_of_ble_eq_true rfl) ?_))))
  let w13_ : va_W := [(mp_ob7 a0 y0 y1 y2 y3 y4 y5 q_1 q_2 q_3 q_4 q_5 q_6 q_7 q_8 q_9 q_10 q_11 q_12), (mp_arI E q_1 0 36 (fun _ => 0)), (mp_arL E q_2 12 (fun _ => 0)), (mp_arI E q_3 0 6 (fun _ => 0)), (mp_arI E q_4 0 6 (fun _ => 0)), (mp_arI E q_5 0 6 (fun _ => 0)), (mp_arI E q_6 0 10 (fun _ => 0)), (mp_arI E q_7 0 10 (fun _ => 0)), (mp_arI E q_8 0 10 (fun _ => 0)), (mp_arI E q_9 0 10 (fun _ => 0)), (mp_arI E q_10 0 10 (fun _ => 0)), (mp_arI E q_11 0 10 (fun _ => 0)), (mp_arI E q_12 0 60 (fun _ => 0))]
  show mp_W E X 1 100 [(0, .ref a0)] [] w13_ 12 186
  exact mp_vret hF hQ rfl (Nat.le_of_ble_eq_true rfl) (Nat.le_of_ble_eq_true rfl) [0, 1, 2, 3, 4, 5, 6, 7, 8, 9, 10, 11, 12] (w' := w13_) rfl rfl ⟨q_1, q_2, q_3, q_4, q_5, q_6, q_7, q_8, q_9, q_10, q_11, q_12, rfl, rfl⟩ (by first | exact mp_fd_ok mp_k_cX7_init_ok (by decide +kernel) | decide +kernel)
set_option maxHeartbeats 4000000 in
set_option maxRecDepth 100000 in
theorem bX9_image_190 (E : mp_E) (a0 a1 a2 a3 a4 a5 a6 a7 a8 a9 a10 a11 a12 a13 a14 a15 a16 a17 a18 a19 a20 a21 a22 a23 a24 a25 a26 a27 a28 : Nat) (f0 : Nat → Int32) (f1 : Nat → Int64) (f2 : Nat → Int32) (f3 : Nat → Int32) (f4 : Nat → Int32) (f5 : Nat → Int32) (f6 : Nat → Int32) (f7 : Nat → Int32) (f8 : Nat → Int32) (f9 : Nat → Int32) (f10 : Nat → Int32) (f11 : Nat → Int32) (f12 : Nat → Option Nat) (o13 : Option Nat) (o14 : Option Nat) (y0 : Int32) (y1 : Int32) (y2 : Int32) (y3 : Int32) (y4 : Int32) (y5 : Int32) (y6 : Int32) (p0 : mp_all f0 36 0 20) (p1 : mp_all f2 6 0 5) (p2 : mp_all f5 10 0 5) (p3 : mp_all f6 10 0 5) (p4 : mp_all f8 10 0 99) (p5 : mp_all f9 10 0 1) (p6 : mp_all f10 10 (-1) 9) (p7 : mp_acts f11) (p8 : f12 0 = none) (p9 : f12 1 = o13) (p10 : f12 2 = o14) (l_y0 : 0 ≤ y0.toInt) (u_y0 : y0.toInt ≤ 99) (l_y2 : 0 ≤ y2.toInt) (u_y2 : y2.toInt ≤ 6) (l_y3 : 0 ≤ y3.toInt) (u_y3 : y3.toInt ≤ 99) (l_y4 : 0 ≤ y4.toInt) (u_y4 : y4.toInt ≤ 6) (l_y5 : 0 ≤ y5.toInt) (u_y5 : y5.toInt ≤ 10) (l_y6 : 0 ≤ y6.toInt) (u_y6 : y6.toInt ≤ 60) (q0 : y0.toInt = y3.toInt + mp_k200 f11 y6.toInt) : mp_Ct E yX9_image cX9_image 2 (some FieldType.int) 2 13 204 39 [.ref a0, .int 0] [(mp_ob9 a0 a16 a1 a15 a17 a18 a19 a20 a21 a22), (mp_ob0 a1 a2 y0 a23 a24 a25 a26 a27 a28), (mp_ob7 a2 y1 y2 y3 y4 y5 y6 a3 a4 a5 a6 a7 a8 a9 a10 a11 a12 a13 a14), (mp_arI E a3 0 36 f0), (mp_arL E a4 12 f1), (mp_arI E a5 0 6 f2), (mp_arI E a6 0 6 f3), (mp_arI E a7 0 6 f4), (mp_arI E a8 0 10 f5), (mp_arI E a9 0 10 f6), (mp_arI E a10 0 10 f7), (mp_arI E a11 0 10 f8), (mp_arI E a12 0 10 f9), (mp_arI E a13 0 10 f10), (mp_arI E a14 0 60 f11), (a15, .inl (E.2.2 4, 3, .inr (.inr (.inr (.inr f12)))))] (fun v w' => ∃ h1 : Nat → Option Nat, ∃ q2 : Nat, ∃ q3 : Nat, ∃ q4 : Nat, ∃ q5 : Nat, ∃ q6 : Nat, ∃ q7 : Nat, ∃ q8 : Nat, ∃ q9 : Nat, ∃ q10 : Nat, ∃ q11 : Nat, ∃ q12 : Nat, ∃ q13 : Nat, ∃ q14 : Nat, ∃ h15 : Nat → Int32, ∃ h16 : Nat → Int64, ∃ h17 : Nat → Int32, ∃ h18 : Nat → Int32, ∃ h19 : Nat → Int32, ∃ h20 : Nat → Int32, ∃ h21 : Nat → Int32, ∃ h22 : Nat → Int32, ∃ h23 : Nat → Int32, ∃ h24 : Nat → Int32, ∃ h25 : Nat → Int32, ∃ h26 : Nat → Int32, v = some (.int 0) ∧ mp_all h15 36 0 20 ∧ mp_all h17 6 0 5 ∧ mp_all h20 10 0 5 ∧ mp_all h21 10 0 5 ∧ mp_all h23 10 0 99 ∧ mp_all h24 10 0 1 ∧ mp_all h25 10 (-1) 9 ∧ mp_acts h26 ∧ h1 0 = some q2 ∧ h1 1 = o13 ∧ h1 2 = o14 ∧ (y3.toInt + mp_k200 h26 y6.toInt ≤ 99) ∧ (mp_RT (mp_tC (y2.toInt, y3.toInt, y4.toInt, y5.toInt, y1.toInt) y6.toInt (f0, f1, f2, f3, f4, f5, f6, f7, f8, f9, f10, f11)) (mp_tC (y2.toInt, y3.toInt, y4.toInt, y5.toInt, y1.toInt) y6.toInt (h15, h16, h17, h18, h19, h20, h21, h22, h23, h24, h25, h26))) ∧ w' = [(mp_ob9 a0 a16 a1 a15 a17 a18 a19 a20 a21 a22), (mp_ob0 a1 a2 y0 a23 a24 a25 a26 a27 a28), (mp_ob7 a2 y1 y2 y3 y4 y5 y6 a3 a4 a5 a6 a7 a8 a9 a10 a11 a12 a13 a14), (mp_arI E a3 0 36 f0), (mp_arL E a4 12 f1), (mp_arI E a5 0 6 f2), (mp_arI E a6 0 6 f3), (mp_arI E a7 0 6 f4), (mp_arI E a8 0 10 f5), (mp_arI E a9 0 10 f6), (mp_arI E a10 0 10 f7), (mp_arI E a11 0 10 f8), (mp_arI E a12 0 10 f9), (mp_arI E a13 0 10 f10), (mp_arI E a14 0 60 f11), (a15, .inl (E.2.2 4, 3, .inr (.inr (.inr (.inr h1))))), (mp_ob7 q2 y1 y2 y3 y4 y5 y6 q3 q4 q5 q6 q7 q8 q9 q10 q11 q12 q13 q14), (mp_arI E q3 0 36 h15), (mp_arL E q4 12 h16), (mp_arI E q5 0 6 h17), (mp_arI E q6 0 6 h18), (mp_arI E q7 0 6 h19), (mp_arI E q8 0 10 h20), (mp_arI E q9 0 10 h21), (mp_arI E q10 0 10 h22), (mp_arI E q11 0 10 h23), (mp_arI E q12 0 10 h24), (mp_arI E q13 0 10 h25), (mp_arI E q14 0 60 h26)]) := by
  refine mp_met false (by decide) (by decide) (Nat.le_of_ble_eq_true rfl) (fun X hF hQ => ?_)
  have hF : mp_F E X (RX9, cX9_image, 2, (2, 13, 204, 39), (some FieldType.int), false) := hF
  let w1_ : va_W := [(mp_ob9 a0 a16 a1 a15 a17 a18 a19 a20 a21 a22), (mp_ob0 a1 a2 y0 a23 a24 a25 a26 a27 a28), (mp_ob7 a2 y1 y2 y3 y4 y5 y6 a3 a4 a5 a6 a7 a8 a9 a10 a11 a12 a13 a14), (mp_arI E a3 0 36 f0), (mp_arL E a4 12 f1), (mp_arI E a5 0 6 f2), (mp_arI E a6 0 6 f3), (mp_arI E a7 0 6 f4), (mp_arI E a8 0 10 f5), (mp_arI E a9 0 10 f6), (mp_arI E a10 0 10 f7), (mp_arI E a11 0 10 f8), (mp_arI E a12 0 10 f9), (mp_arI E a13 0 10 f10), (mp_arI E a14 0 60 f11), (a15, .inl (E.2.2 4, 3, .inr (.inr (.inr (.inr f12)))))]
  show mp_W E X 2 0 [(0, .ref a0), (1, .int 0)] [] w1_ 0 0
  refine mp_run mp_k_cX9_image_ok hF mp_tabX9_ok [mp_i (.iload_n 1), mp_h (.ifCond .lt 8) [9]] (by decide +kernel) ?_
  refine And.intro (fun c_1 => absurd c_1 (by decide)) (fun _ => ?_)
  show mp_W E X 2 4 [(0, .ref a0), (1, .int 0)] [] w1_ 0 0
  refine mp_run mp_k_cX9_image_ok hF mp_tabX9_ok [mp_i (.iload_n 1), mp_c (.iconst 3) 3, mp_h (.if_icmp .lt 6) [12]] (by decide +kernel) ?_
  refine And.intro (fun _ => ?_) (fun c_2 => absurd c_2 (by decide))
  show mp_W E X 2 12 [(0, .ref a0), (1, .int 0)] [] w1_ 0 0
  refine mp_run mp_k_cX9_image_ok hF mp_tabX9_ok [mp_i (.aload_n 0), mp_h (.getfield 25) [38, 0], mp_i (.iload_n 1), mp_h .aaload [15]] (by decide +kernel) ?_
  refine And.intro rfl (And.intro rfl ?_)
  refine And.intro rfl (And.intro rfl (And.intro (vp_in_iff.mpr (by decide)) ?_))
  intro z_3 h_4
  obtain rfl : z_3 = none := mp_at h_4 (by decide) p8
  show mp_W E X 2 18 [(0, .ref a0), (1, .int 0)] [.null] w1_ 0 0
  refine mp_ifnn_f hF (off := 16) (by first | exact mp_fd_ok mp_k_cX9_image_ok (by decide +kernel) | decide +kernel) ?_
  show mp_W E X 2 21 [(0, .ref a0), (1, .int 0)] [] w1_ 0 0
  refine mp_run mp_k_cX9_image_ok hF mp_tabX9_ok [mp_i (.aload_n 0), mp_h (.getfield 25) [38, 0], mp_i (.iload_n 1)] (by decide +kernel) ?_
  refine And.intro rfl (And.intro rfl ?_)
  show mp_W E X 2 26 [(0, .ref a0), (1, .int 0)] [.int 0, .ref a15] w1_ 0 0
  refine mp_new hF (mp_lnX9_23) ⟨(Nat.le_of_ble_eq_true rfl), (Nat.le_of_ble_eq_true rfl)⟩ (by first | exact mp_fd_ok mp_k_cX9_image_ok (by decide +kernel) | decide +kernel) (fun q_5 => ?_)
  let w2_ : va_W := [(mp_ob9 a0 a16 a1 a15 a17 a18 a19 a20 a21 a22), (mp_ob0 a1 a2 y0 a23 a24 a25 a26 a27 a28), (mp_ob7 a2 y1 y2 y3 y4 y5 y6 a3 a4 a5 a6 a7 a8 a9 a10 a11 a12 a13 a14), (mp_arI E a3 0 36 f0), (mp_arL E a4 12 f1), (mp_arI E a5 0 6 f2), (mp_arI E a6 0 6 f3), (mp_arI E a7 0 6 f4), (mp_arI E a8 0 10 f5), (mp_arI E a9 0 10 f6), (mp_arI E a10 0 10 f7), (mp_arI E a11 0 10 f8), (mp_arI E a12 0 10 f9), (mp_arI E a13 0 10 f10), (mp_arI E a14 0 60 f11), (a15, .inl (E.2.2 4, 3, .inr (.inr (.inr (.inr f12))))), (q_5, .inr (7, [.int 0, .int 0, .int 0, .int 0, .int 0, .int 0, .null, .null, .null, .null, .null, .null, .null, .null, .null, .null, .null, .null]))]
  show mp_W E X 2 29 [(0, .ref a0), (1, .int 0)] [.ref q_5, .int 0, .ref a15] w2_ 1 18
  refine mp_run mp_k_cX9_image_ok hF mp_tabX9_ok [mp_i .dup] (by decide +kernel) ?_
  refine And.intro rfl ?_
  show mp_W E X 2 30 [(0, .ref a0), (1, .int 0)] [.ref q_5, .ref q_5, .int 0, .ref a15] w2_ 1 18
  refine mp_callIN hF (As := []) (rest := [.ref q_5, .int 0, .ref a15]) (wr := w1_) (bX7_init_189 E q_5 0 0 0 0 0 0 (by decide) (by decide) (by decide) (by decide) (by decide) (by decide) (by decide) (by decide) (by decide) (by decide)) rfl (mp_gm (j := 1038) (by decide +kernel)) mp_lkX9_350 [16] [0, 1, 2, 3, 4, 5, 6, 7, 8, 9, 10, 11, 12, 13, 14, 15] rfl rfl rfl rfl rfl ⟨(Nat.le_of_ble_eq_true rfl), (Nat.le_of_ble_eq_true rfl), (Nat.le_of_ble_eq_true rfl), (Nat.le_of_ble_eq_true rfl)⟩ (Nat.le_of_ble_eq_true rfl) (by first | exact mp_fd_ok mp_k_cX9_image_ok (by decide +kernel) | decide +kernel) (fun v_6 w_7 h_8 => ?_)
  refine h_8.elim fun g_9 q_21 => q_21.elim fun g_10 q_22 => q_22.elim fun g_11 q_23 => q_23.elim fun g_12 q_24 => q_24.elim fun g_13 q_25 => q_25.elim fun g_14 q_26 => q_26.elim fun g_15 q_27 => q_27.elim fun g_16 q_28 => q_28.elim fun g_17 q_29 => q_29.elim fun g_18 q_30 => q_30.elim fun g_19 q_31 => q_31.elim fun g_20 q_32 => q_32.elim fun e_33 e_34 => ?_
  clear h_8 q_21 q_22 q_23 q_24 q_25 q_26 q_27 q_28 q_29 q_30 q_31 q_32
  subst e_33
  subst e_34
  let w3_ : va_W := [(mp_ob9 a0 a16 a1 a15 a17 a18 a19 a20 a21 a22), (mp_ob0 a1 a2 y0 a23 a24 a25 a26 a27 a28), (mp_ob7 a2 y1 y2 y3 y4 y5 y6 a3 a4 a5 a6 a7 a8 a9 a10 a11 a12 a13 a14), (mp_arI E a3 0 36 f0), (mp_arL E a4 12 f1), (mp_arI E a5 0 6 f2), (mp_arI E a6 0 6 f3), (mp_arI E a7 0 6 f4), (mp_arI E a8 0 10 f5), (mp_arI E a9 0 10 f6), (mp_arI E a10 0 10 f7), (mp_arI E a11 0 10 f8), (mp_arI E a12 0 10 f9), (mp_arI E a13 0 10 f10), (mp_arI E a14 0 60 f11), (a15, .inl (E.2.2 4, 3, .inr (.inr (.inr (.inr f12))))), (mp_ob7 q_5 0 0 0 0 0 0 g_9 g_10 g_11 g_12 g_13 g_14 g_15 g_16 g_17 g_18 g_19 g_20), (mp_arI E g_9 0 36 (fun _ => 0)), (mp_arL E g_10 12 (fun _ => 0)), (mp_arI E g_11 0 6 (fun _ => 0)), (mp_arI E g_12 0 6 (fun _ => 0)), (mp_arI E g_13 0 6 (fun _ => 0)), (mp_arI E g_14 0 10 (fun _ => 0)), (mp_arI E g_15 0 10 (fun _ => 0)), (mp_arI E g_16 0 10 (fun _ => 0)), (mp_arI E g_17 0 10 (fun _ => 0)), (mp_arI E g_18 0 10 (fun _ => 0)), (mp_arI E g_19 0 10 (fun _ => 0)), (mp_arI E g_20 0 60 (fun _ => 0))]
  show mp_W E X 2 33 [(0, .ref a0), (1, .int 0)] [.ref q_5, .int 0, .ref a15] w3_ 13 204
  refine mp_astq hF 15 16 rfl rfl (vp_in_iff.mpr (by decide)) (by first | exact mp_fd_ok mp_k_cX9_image_ok (by decide +kernel) | decide +kernel) (fun g_35 h_36 => ?_)
  have k_37 : g_35 0 = (some q_5) := mp_updqs h_36 (by decide)
  have k_38 : g_35 1 = o13 := mp_updqo h_36 p9 (by decide)
  have k_39 : g_35 2 = o14 := mp_updqo h_36 p10 (by decide)
  let w4_ : va_W := [(mp_ob9 a0 a16 a1 a15 a17 a18 a19 a20 a21 a22), (mp_ob0 a1 a2 y0 a23 a24 a25 a26 a27 a28), (mp_ob7 a2 y1 y2 y3 y4 y5 y6 a3 a4 a5 a6 a7 a8 a9 a10 a11 a12 a13 a14), (mp_arI E a3 0 36 f0), (mp_arL E a4 12 f1), (mp_arI E a5 0 6 f2), (mp_arI E a6 0 6 f3), (mp_arI E a7 0 6 f4), (mp_arI E a8 0 10 f5), (mp_arI E a9 0 10 f6), (mp_arI E a10 0 10 f7), (mp_arI E a11 0 10 f8), (mp_arI E a12 0 10 f9), (mp_arI E a13 0 10 f10), (mp_arI E a14 0 60 f11), (a15, .inl (E.2.2 4, 3, .inr (.inr (.inr (.inr g_35))))), (mp_ob7 q_5 0 0 0 0 0 0 g_9 g_10 g_11 g_12 g_13 g_14 g_15 g_16 g_17 g_18 g_19 g_20), (mp_arI E g_9 0 36 (fun _ => 0)), (mp_arL E g_10 12 (fun _ => 0)), (mp_arI E g_11 0 6 (fun _ => 0)), (mp_arI E g_12 0 6 (fun _ => 0)), (mp_arI E g_13 0 6 (fun _ => 0)), (mp_arI E g_14 0 10 (fun _ => 0)), (mp_arI E g_15 0 10 (fun _ => 0)), (mp_arI E g_16 0 10 (fun _ => 0)), (mp_arI E g_17 0 10 (fun _ => 0)), (mp_arI E g_18 0 10 (fun _ => 0)), (mp_arI E g_19 0 10 (fun _ => 0)), (mp_arI E g_20 0 60 (fun _ => 0))]
  show mp_W E X 2 34 [(0, .ref a0), (1, .int 0)] [] w4_ 13 204
  refine mp_run mp_k_cX9_image_ok hF mp_tabX9_ok [mp_i (.aload_n 0), mp_h (.getfield 25) [38, 0], mp_i (.iload_n 1), mp_h .aaload [15], mp_i (.aload_n 0), mp_h (.getfield 19) [37, 0], mp_h (.getfield 83) [20, 1]] (by decide +kernel) ?_
  refine And.intro rfl (And.intro rfl ?_)
  refine And.intro rfl (And.intro rfl (And.intro (vp_in_iff.mpr (by decide)) ?_))
  intro z_40 h_41
  obtain rfl : z_40 = (some q_5) := mp_at h_41 (by decide) k_37
  refine And.intro rfl (And.intro rfl ?_)
  refine And.intro rfl (And.intro rfl ?_)
  show mp_W E X 2 47 [(0, .ref a0), (1, .int 0)] [.ref a2, .ref q_5] w4_ 13 204
  refine mp_callV hF (As := [.ref a2]) (rest := []) (wr := [(mp_ob9 a0 a16 a1 a15 a17 a18 a19 a20 a21 a22), (mp_ob0 a1 a2 y0 a23 a24 a25 a26 a27 a28), (a15, .inl (E.2.2 4, 3, .inr (.inr (.inr (.inr g_35)))))]) (bX7_copyFrom_44 E q_5 a2 g_9 g_10 g_11 g_12 g_13 g_14 g_15 g_16 g_17 g_18 g_19 g_20 a3 a4 a5 a6 a7 a8 a9 a10 a11 a12 a13 a14 (fun _ => 0) (fun _ => 0) (fun _ => 0) (fun _ => 0) (fun _ => 0) (fun _ => 0) (fun _ => 0) (fun _ => 0) (fun _ => 0) (fun _ => 0) (fun _ => 0) (fun _ => 0) f0 f1 f2 f3 f4 f5 f6 f7 f8 f9 f10 f11 0 0 0 0 0 0 y1 y2 y3 y4 y5 y6 (mp_all_z (by decide)) (mp_all_z (by decide)) (mp_all_z (by decide)) (mp_all_z (by decide)) (mp_all_z (by decide)) (mp_all_z (by decide)) (mp_all_z (by decide)) (mp_acts_z) p0 p1 p2 p3 p4 p5 p6 p7 (by decide) (by decide) (by decide) (by decide) (by decide) (by decide) (by decide) (by decide) (by decide) (by decide) l_y2 u_y2 l_y3 u_y3 l_y4 u_y4 l_y5 u_y5 l_y6 u_y6) mp_lkX9_90 16 rfl [16, 17, 18, 19, 20, 21, 22, 23, 24, 25, 26, 27, 28, 2, 3, 4, 5, 6, 7, 8, 9, 10, 11, 12, 13, 14] [0, 1, 15] rfl rfl rfl rfl rfl ⟨(Nat.le_of_ble_eq_true rfl), (Nat.le_of_ble_eq_true rfl), (Nat.le_of_ble_eq_true rfl), (Nat.le_of_ble_eq_true rfl)⟩ (Nat.le_of_ble_eq_true rfl) (by first | exact mp_fd_ok mp_k_cX9_image_ok (by decide +kernel) | decide +kernel) (fun v_42 w_43 h_44 => ?_)
  refine h_44.elim fun g_45 q_67 => q_67.elim fun g_46 q_68 => q_68.elim fun g_47 q_69 => q_69.elim fun g_48 q_70 => q_70.elim fun g_49 q_71 => q_71.elim fun g_50 q_72 => q_72.elim fun g_51 q_73 => q_73.elim fun g_52 q_74 => q_74.elim fun g_53 q_75 => q_75.elim fun g_54 q_76 => q_76.elim fun g_55 q_77 => q_77.elim fun g_56 q_78 => q_78.elim fun e_79 q_80 => q_80.elim fun p_57 q_81 => q_81.elim fun p_58 q_82 => q_82.elim fun p_59 q_83 => q_83.elim fun p_60 q_84 => q_84.elim fun p_61 q_85 => q_85.elim fun p_62 q_86 => q_86.elim fun p_63 q_87 => q_87.elim fun p_64 q_88 => q_88.elim fun x_65 q_89 => q_89.elim fun x_66 e_90 => ?_
  clear h_44 q_67 q_68 q_69 q_70 q_71 q_72 q_73 q_74 q_75 q_76 q_77 q_78 q_80 q_81 q_82 q_83 q_84 q_85 q_86 q_87 q_88 q_89
  subst e_79
  subst e_90
  let w5_ : va_W := [(mp_ob9 a0 a16 a1 a15 a17 a18 a19 a20 a21 a22), (mp_ob0 a1 a2 y0 a23 a24 a25 a26 a27 a28), (a15, .inl (E.2.2 4, 3, .inr (.inr (.inr (.inr g_35))))), (mp_ob7 q_5 y1 y2 y3 y4 y5 y6 g_9 g_10 g_11 g_12 g_13 g_14 g_15 g_16 g_17 g_18 g_19 g_20), (mp_arI E g_9 0 36 g_45), (mp_arL E g_10 12 g_46), (mp_arI E g_11 0 6 g_47), (mp_arI E g_12 0 6 g_48), (mp_arI E g_13 0 6 g_49), (mp_arI E g_14 0 10 g_50), (mp_arI E g_15 0 10 g_51), (mp_arI E g_16 0 10 g_52), (mp_arI E g_17 0 10 g_53), (mp_arI E g_18 0 10 g_54), (mp_arI E g_19 0 10 g_55), (mp_arI E g_20 0 60 g_56), (mp_ob7 a2 y1 y2 y3 y4 y5 y6 a3 a4 a5 a6 a7 a8 a9 a10 a11 a12 a13 a14), (mp_arI E a3 0 36 f0), (mp_arL E a4 12 f1), (mp_arI E a5 0 6 f2), (mp_arI E a6 0 6 f3), (mp_arI E a7 0 6 f4), (mp_arI E a8 0 10 f5), (mp_arI E a9 0 10 f6), (mp_arI E a10 0 10 f7), (mp_arI E a11 0 10 f8), (mp_arI E a12 0 10 f9), (mp_arI E a13 0 10 f10), (mp_arI E a14 0 60 f11)]
  show mp_W E X 2 50 [(0, .ref a0), (1, .int 0)] [] w5_ 13 204
  refine mp_run mp_k_cX9_image_ok hF mp_tabX9_ok [mp_c (.iconst 0) 0] (by decide +kernel) ?_
  show mp_W E X 2 51 [(0, .ref a0), (1, .int 0)] [.int 0] w5_ 13 204
  exact mp_iret hF hQ rfl rfl (Nat.le_of_ble_eq_true rfl) (Nat.le_of_ble_eq_true rfl) [0, 1, 16, 17, 18, 19, 20, 21, 22, 23, 24, 25, 26, 27, 28, 2, 3, 4, 5, 6, 7, 8, 9, 10, 11, 12, 13, 14, 15] (w' := [(mp_ob9 a0 a16 a1 a15 a17 a18 a19 a20 a21 a22), (mp_ob0 a1 a2 y0 a23 a24 a25 a26 a27 a28), (mp_ob7 a2 y1 y2 y3 y4 y5 y6 a3 a4 a5 a6 a7 a8 a9 a10 a11 a12 a13 a14), (mp_arI E a3 0 36 f0), (mp_arL E a4 12 f1), (mp_arI E a5 0 6 f2), (mp_arI E a6 0 6 f3), (mp_arI E a7 0 6 f4), (mp_arI E a8 0 10 f5), (mp_arI E a9 0 10 f6), (mp_arI E a10 0 10 f7), (mp_arI E a11 0 10 f8), (mp_arI E a12 0 10 f9), (mp_arI E a13 0 10 f10), (mp_arI E a14 0 60 f11), (a15, .inl (E.2.2 4, 3, .inr (.inr (.inr (.inr g_35))))), (mp_ob7 q_5 y1 y2 y3 y4 y5 y6 g_9 g_10 g_11 g_12 g_13 g_14 g_15 g_16 g_17 g_18 g_19 g_20), (mp_arI E g_9 0 36 g_45), (mp_arL E g_10 12 g_46), (mp_arI E g_11 0 6 g_47), (mp_arI E g_12 0 6 g_48), (mp_arI E g_13 0 6 g_49), (mp_arI E g_14 0 10 g_50), (mp_arI E g_15 0 10 g_51), (mp_arI E g_16 0 10 g_52), (mp_arI E g_17 0 10 g_53), (mp_arI E g_18 0 10 g_54), (mp_arI E g_19 0 10 g_55), (mp_arI E g_20 0 60 g_56)]) rfl rfl ⟨g_35, q_5, g_9, g_10, g_11, g_12, g_13, g_14, g_15, g_16, g_17, g_18, g_19, g_20, g_45, g_46, g_47, g_48, g_49, g_50, g_51, g_52, g_53, g_54, g_55, g_56, rfl, p_57, p_58, p_59, p_60, p_61, p_62, p_63, p_64, k_37, k_38, k_39, (by (first | exact mp_o916 u_y0 x_65 q0 | omega)), (mp_tC_cp x_66 ⟨(show y4.toInt ≤ 6 from by (first | exact u_y4 | omega)), (show y5.toInt ≤ 10 from by (first | exact u_y5 | omega)), (by (first | exact u_y6 | omega))⟩ (by first | rfl | exact mp_sc5 (by omega) (by omega) (by omega) (by omega) (by omega)) (by first | rfl | omega)), rfl⟩ (by first | exact mp_fd_ok mp_k_cX9_image_ok (by decide +kernel) | decide +kernel)
set_option maxHeartbeats 4000000 in
set_option maxRecDepth 100000 in
theorem bX9_image_191 (E : mp_E) (a0 a1 a2 a3 a4 a5 a6 a7 a8 a9 a10 a11 a12 a13 a14 a15 a16 a17 a18 a19 a20 a21 a22 a23 a24 a25 a26 a27 a28 a29 a30 a31 a32 a33 a34 a35 a36 a37 a38 a39 a40 a41 : Nat) (f0 : Nat → Int32) (f1 : Nat → Int64) (f2 : Nat → Int32) (f3 : Nat → Int32) (f4 : Nat → Int32) (f5 : Nat → Int32) (f6 : Nat → Int32) (f7 : Nat → Int32) (f8 : Nat → Int32) (f9 : Nat → Int32) (f10 : Nat → Int32) (f11 : Nat → Int32) (f12 : Nat → Option Nat) (o13 : Option Nat) (o14 : Option Nat) (f15 : Nat → Int32) (f16 : Nat → Int64) (f17 : Nat → Int32) (f18 : Nat → Int32) (f19 : Nat → Int32) (f20 : Nat → Int32) (f21 : Nat → Int32) (f22 : Nat → Int32) (f23 : Nat → Int32) (f24 : Nat → Int32) (f25 : Nat → Int32) (f26 : Nat → Int32) (y0 : Int32) (y1 : Int32) (y2 : Int32) (y3 : Int32) (y4 : Int32) (y5 : Int32) (y6 : Int32) (y7 : Int32) (y8 : Int32) (y9 : Int32) (y10 : Int32) (y11 : Int32) (y12 : Int32) (p0 : mp_all f0 36 0 20) (p1 : mp_all f2 6 0 5) (p2 : mp_all f5 10 0 5) (p3 : mp_all f6 10 0 5) (p4 : mp_all f8 10 0 99) (p5 : mp_all f9 10 0 1) (p6 : mp_all f10 10 (-1) 9) (p7 : mp_acts f11) (p8 : f12 0 = some a16) (p9 : f12 1 = o13) (p10 : f12 2 = o14) (p11 : mp_all f15 36 0 20) (p12 : mp_all f17 6 0 5) (p13 : mp_all f20 10 0 5) (p14 : mp_all f21 10 0 5) (p15 : mp_all f23 10 0 99) (p16 : mp_all f24 10 0 1) (p17 : mp_all f25 10 (-1) 9) (p18 : mp_acts f26) (l_y0 : 0 ≤ y0.toInt) (u_y0 : y0.toInt ≤ 99) (l_y2 : 0 ≤ y2.toInt) (u_y2 : y2.toInt ≤ 6) (l_y3 : 0 ≤ y3.toInt) (u_y3 : y3.toInt ≤ 99) (l_y4 : 0 ≤ y4.toInt) (u_y4 : y4.toInt ≤ 6) (l_y5 : 0 ≤ y5.toInt) (u_y5 : y5.toInt ≤ 10) (l_y6 : 0 ≤ y6.toInt) (u_y6 : y6.toInt ≤ 60) (l_y8 : 0 ≤ y8.toInt) (u_y8 : y8.toInt ≤ 6) (l_y9 : 0 ≤ y9.toInt) (u_y9 : y9.toInt ≤ 99) (l_y10 : 0 ≤ y10.toInt) (u_y10 : y10.toInt ≤ 6) (l_y11 : 0 ≤ y11.toInt) (u_y11 : y11.toInt ≤ 10) (l_y12 : 0 ≤ y12.toInt) (u_y12 : y12.toInt ≤ 60) (q0 : y0.toInt = y3.toInt + mp_k200 f11 y6.toInt) : mp_Ct E yX9_image cX9_image 2 (some FieldType.int) 2 0 0 39 [.ref a0, .int 0] [(mp_ob9 a0 a29 a1 a15 a30 a31 a32 a33 a34 a35), (mp_ob0 a1 a2 y0 a36 a37 a38 a39 a40 a41), (mp_ob7 a2 y1 y2 y3 y4 y5 y6 a3 a4 a5 a6 a7 a8 a9 a10 a11 a12 a13 a14), (mp_arI E a3 0 36 f0), (mp_arL E a4 12 f1), (mp_arI E a5 0 6 f2), (mp_arI E a6 0 6 f3), (mp_arI E a7 0 6 f4), (mp_arI E a8 0 10 f5), (mp_arI E a9 0 10 f6), (mp_arI E a10 0 10 f7), (mp_arI E a11 0 10 f8), (mp_arI E a12 0 10 f9), (mp_arI E a13 0 10 f10), (mp_arI E a14 0 60 f11), (a15, .inl (E.2.2 4, 3, .inr (.inr (.inr (.inr f12))))), (mp_ob7 a16 y7 y8 y9 y10 y11 y12 a17 a18 a19 a20 a21 a22 a23 a24 a25 a26 a27 a28), (mp_arI E a17 0 36 f15), (mp_arL E a18 12 f16), (mp_arI E a19 0 6 f17), (mp_arI E a20 0 6 f18), (mp_arI E a21 0 6 f19), (mp_arI E a22 0 10 f20), (mp_arI E a23 0 10 f21), (mp_arI E a24 0 10 f22), (mp_arI E a25 0 10 f23), (mp_arI E a26 0 10 f24), (mp_arI E a27 0 10 f25), (mp_arI E a28 0 60 f26)] (fun v w' => ∃ h1 : Nat → Int32, ∃ h2 : Nat → Int64, ∃ h3 : Nat → Int32, ∃ h4 : Nat → Int32, ∃ h5 : Nat → Int32, ∃ h6 : Nat → Int32, ∃ h7 : Nat → Int32, ∃ h8 : Nat → Int32, ∃ h9 : Nat → Int32, ∃ h10 : Nat → Int32, ∃ h11 : Nat → Int32, ∃ h12 : Nat → Int32, v = some (.int 0) ∧ mp_all h1 36 0 20 ∧ mp_all h3 6 0 5 ∧ mp_all h6 10 0 5 ∧ mp_all h7 10 0 5 ∧ mp_all h9 10 0 99 ∧ mp_all h10 10 0 1 ∧ mp_all h11 10 (-1) 9 ∧ mp_acts h12 ∧ (y3.toInt + mp_k200 h12 y6.toInt ≤ 99) ∧ (mp_RT (mp_tC (y2.toInt, y3.toInt, y4.toInt, y5.toInt, y1.toInt) y6.toInt (f0, f1, f2, f3, f4, f5, f6, f7, f8, f9, f10, f11)) (mp_tC (y2.toInt, y3.toInt, y4.toInt, y5.toInt, y1.toInt) y6.toInt (h1, h2, h3, h4, h5, h6, h7, h8, h9, h10, h11, h12))) ∧ w' = [(mp_ob9 a0 a29 a1 a15 a30 a31 a32 a33 a34 a35), (mp_ob0 a1 a2 y0 a36 a37 a38 a39 a40 a41), (mp_ob7 a2 y1 y2 y3 y4 y5 y6 a3 a4 a5 a6 a7 a8 a9 a10 a11 a12 a13 a14), (mp_arI E a3 0 36 f0), (mp_arL E a4 12 f1), (mp_arI E a5 0 6 f2), (mp_arI E a6 0 6 f3), (mp_arI E a7 0 6 f4), (mp_arI E a8 0 10 f5), (mp_arI E a9 0 10 f6), (mp_arI E a10 0 10 f7), (mp_arI E a11 0 10 f8), (mp_arI E a12 0 10 f9), (mp_arI E a13 0 10 f10), (mp_arI E a14 0 60 f11), (a15, .inl (E.2.2 4, 3, .inr (.inr (.inr (.inr f12))))), (mp_ob7 a16 y1 y2 y3 y4 y5 y6 a17 a18 a19 a20 a21 a22 a23 a24 a25 a26 a27 a28), (mp_arI E a17 0 36 h1), (mp_arL E a18 12 h2), (mp_arI E a19 0 6 h3), (mp_arI E a20 0 6 h4), (mp_arI E a21 0 6 h5), (mp_arI E a22 0 10 h6), (mp_arI E a23 0 10 h7), (mp_arI E a24 0 10 h8), (mp_arI E a25 0 10 h9), (mp_arI E a26 0 10 h10), (mp_arI E a27 0 10 h11), (mp_arI E a28 0 60 h12)]) := by
  refine mp_met false (by decide) (by decide) (Nat.le_of_ble_eq_true rfl) (fun X hF hQ => ?_)
  have hF : mp_F E X (RX9, cX9_image, 2, (2, 0, 0, 39), (some FieldType.int), false) := hF
  let w1_ : va_W := [(mp_ob9 a0 a29 a1 a15 a30 a31 a32 a33 a34 a35), (mp_ob0 a1 a2 y0 a36 a37 a38 a39 a40 a41), (mp_ob7 a2 y1 y2 y3 y4 y5 y6 a3 a4 a5 a6 a7 a8 a9 a10 a11 a12 a13 a14), (mp_arI E a3 0 36 f0), (mp_arL E a4 12 f1), (mp_arI E a5 0 6 f2), (mp_arI E a6 0 6 f3), (mp_arI E a7 0 6 f4), (mp_arI E a8 0 10 f5), (mp_arI E a9 0 10 f6), (mp_arI E a10 0 10 f7), (mp_arI E a11 0 10 f8), (mp_arI E a12 0 10 f9), (mp_arI E a13 0 10 f10), (mp_arI E a14 0 60 f11), (a15, .inl (E.2.2 4, 3, .inr (.inr (.inr (.inr f12))))), (mp_ob7 a16 y7 y8 y9 y10 y11 y12 a17 a18 a19 a20 a21 a22 a23 a24 a25 a26 a27 a28), (mp_arI E a17 0 36 f15), (mp_arL E a18 12 f16), (mp_arI E a19 0 6 f17), (mp_arI E a20 0 6 f18), (mp_arI E a21 0 6 f19), (mp_arI E a22 0 10 f20), (mp_arI E a23 0 10 f21), (mp_arI E a24 0 10 f22), (mp_arI E a25 0 10 f23), (mp_arI E a26 0 10 f24), (mp_arI E a27 0 10 f25), (mp_arI E a28 0 60 f26)]
  show mp_W E X 2 0 [(0, .ref a0), (1, .int 0)] [] w1_ 0 0
  refine mp_run mp_k_cX9_image_ok hF mp_tabX9_ok [mp_i (.iload_n 1), mp_h (.ifCond .lt 8) [9]] (by decide +kernel) ?_
  refine And.intro (fun c_1 => absurd c_1 (by decide)) (fun _ => ?_)
  show mp_W E X 2 4 [(0, .ref a0), (1, .int 0)] [] w1_ 0 0
  refine mp_run mp_k_cX9_image_ok hF mp_tabX9_ok [mp_i (.iload_n 1), mp_c (.iconst 3) 3, mp_h (.if_icmp .lt 6) [12]] (by decide +kernel) ?_
  refine And.intro (fun _ => ?_) (fun c_2 => absurd c_2 (by decide))
  show mp_W E X 2 12 [(0, .ref a0), (1, .int 0)] [] w1_ 0 0
  refine mp_run mp_k_cX9_image_ok hF mp_tabX9_ok [mp_i (.aload_n 0), mp_h (.getfield 25) [38, 0], mp_i (.iload_n 1), mp_h .aaload [15]] (by decide +kernel) ?_
  refine And.intro rfl (And.intro rfl ?_)
  refine And.intro rfl (And.intro rfl (And.intro (vp_in_iff.mpr (by decide)) ?_))
  intro z_3 h_4
  obtain rfl : z_3 = (some a16) := mp_at h_4 (by decide) p8
  show mp_W E X 2 18 [(0, .ref a0), (1, .int 0)] [.ref a16] w1_ 0 0
  refine mp_ifnn_t hF (off := 16) (tgt := 34) (by first | exact mp_fd_ok mp_k_cX9_image_ok (by decide +kernel) | decide +kernel) (by decide) ?_
  show mp_W E X 2 34 [(0, .ref a0), (1, .int 0)] [] w1_ 0 0
  refine mp_run mp_k_cX9_image_ok hF mp_tabX9_ok [mp_i (.aload_n 0), mp_h (.getfield 25) [38, 0], mp_i (.iload_n 1), mp_h .aaload [15], mp_i (.aload_n 0), mp_h (.getfield 19) [37, 0], mp_h (.getfield 83) [20, 1]] (by decide +kernel) ?_
  refine And.intro rfl (And.intro rfl ?_)
  refine And.intro rfl (And.intro rfl (And.intro (vp_in_iff.mpr (by decide)) ?_))
  intro z_5 h_6
  obtain rfl : z_5 = (some a16) := mp_at h_6 (by decide) p8
  refine And.intro rfl (And.intro rfl ?_)
  refine And.intro rfl (And.intro rfl ?_)
  show mp_W E X 2 47 [(0, .ref a0), (1, .int 0)] [.ref a2, .ref a16] w1_ 0 0
  refine mp_callV hF (As := [.ref a2]) (rest := []) (wr := [(mp_ob9 a0 a29 a1 a15 a30 a31 a32 a33 a34 a35), (mp_ob0 a1 a2 y0 a36 a37 a38 a39 a40 a41), (a15, .inl (E.2.2 4, 3, .inr (.inr (.inr (.inr f12)))))]) (bX7_copyFrom_44 E a16 a2 a17 a18 a19 a20 a21 a22 a23 a24 a25 a26 a27 a28 a3 a4 a5 a6 a7 a8 a9 a10 a11 a12 a13 a14 f15 f16 f17 f18 f19 f20 f21 f22 f23 f24 f25 f26 f0 f1 f2 f3 f4 f5 f6 f7 f8 f9 f10 f11 y7 y8 y9 y10 y11 y12 y1 y2 y3 y4 y5 y6 p11 p12 p13 p14 p15 p16 p17 p18 p0 p1 p2 p3 p4 p5 p6 p7 l_y8 u_y8 l_y9 u_y9 l_y10 u_y10 l_y11 u_y11 l_y12 u_y12 l_y2 u_y2 l_y3 u_y3 l_y4 u_y4 l_y5 u_y5 l_y6 u_y6) mp_lkX9_90 16 rfl [16, 17, 18, 19, 20, 21, 22, 23, 24, 25, 26, 27, 28, 2, 3, 4, 5, 6, 7, 8, 9, 10, 11, 12, 13, 14] [0, 1, 15] rfl rfl rfl rfl rfl ⟨(Nat.le_of_ble_eq_true rfl), (Nat.le_of_ble_eq_true rfl), (Nat.le_of_ble_eq_true rfl), (Nat.le_of_ble_eq_true rfl)⟩ (Nat.le_of_ble_eq_true rfl) (by first | exact mp_fd_ok mp_k_cX9_image_ok (by decide +kernel) | decide +kernel) (fun v_7 w_8 h_9 => ?_)
  refine h_9.elim fun g_10 q_32 => q_32.elim fun g_11 q_33 => q_33.elim fun g_12 q_34 => q_34.elim fun g_13 q_35 => q_35.elim fun g_14 q_36 => q_36.elim fun g_15 q_37 => q_37.elim fun g_16 q_38 => q_38.elim fun g_17 q_39 => q_39.elim fun g_18 q_40 => q_40.elim fun g_19 q_41 => q_41.elim fun g_20 q_42 => q_42.elim fun g_21 q_43 => q_43.elim fun e_44 q_45 => q_45.elim fun p_22 q_46 => q_46.elim fun p_23 q_47 => q_47.elim fun p_24 q_48 => q_48.elim fun p_25 q_49 => q_49.elim fun p_26 q_50 => q_50.elim fun p_27 q_51 => q_51.elim fun p_28 q_52 => q_52.elim fun p_29 q_53 => q_53.elim fun x_30 q_54 => q_54.elim fun x_31 e_55 => ?_
  clear h_9 q_32 q_33 q_34 q_35 q_36 q_37 q_38 q_39 q_40 q_41 q_42 q_43 q_45 q_46 q_47 q_48 q_49 q_50 q_51 q_52 q_53 q_54
  subst e_44
  subst e_55
  let w2_ : va_W := [(mp_ob9 a0 a29 a1 a15 a30 a31 a32 a33 a34 a35), (mp_ob0 a1 a2 y0 a36 a37 a38 a39 a40 a41), (a15, .inl (E.2.2 4, 3, .inr (.inr (.inr (.inr f12))))), (mp_ob7 a16 y1 y2 y3 y4 y5 y6 a17 a18 a19 a20 a21 a22 a23 a24 a25 a26 a27 a28), (mp_arI E a17 0 36 g_10), (mp_arL E a18 12 g_11), (mp_arI E a19 0 6 g_12), (mp_arI E a20 0 6 g_13), (mp_arI E a21 0 6 g_14), (mp_arI E a22 0 10 g_15), (mp_arI E a23 0 10 g_16), (mp_arI E a24 0 10 g_17), (mp_arI E a25 0 10 g_18), (mp_arI E a26 0 10 g_19), (mp_arI E a27 0 10 g_20), (mp_arI E a28 0 60 g_21), (mp_ob7 a2 y1 y2 y3 y4 y5 y6 a3 a4 a5 a6 a7 a8 a9 a10 a11 a12 a13 a14), (mp_arI E a3 0 36 f0), (mp_arL E a4 12 f1), (mp_arI E a5 0 6 f2), (mp_arI E a6 0 6 f3), (mp_arI E a7 0 6 f4), (mp_arI E a8 0 10 f5), (mp_arI E a9 0 10 f6), (mp_arI E a10 0 10 f7), (mp_arI E a11 0 10 f8), (mp_arI E a12 0 10 f9), (mp_arI E a13 0 10 f10), (mp_arI E a14 0 60 f11)]
  show mp_W E X 2 50 [(0, .ref a0), (1, .int 0)] [] w2_ 0 0
  refine mp_run mp_k_cX9_image_ok hF mp_tabX9_ok [mp_c (.iconst 0) 0] (by decide +kernel) ?_
  show mp_W E X 2 51 [(0, .ref a0), (1, .int 0)] [.int 0] w2_ 0 0
  exact mp_iret hF hQ rfl rfl (Nat.le_of_ble_eq_true rfl) (Nat.le_of_ble_eq_true rfl) [0, 1, 16, 17, 18, 19, 20, 21, 22, 23, 24, 25, 26, 27, 28, 2, 3, 4, 5, 6, 7, 8, 9, 10, 11, 12, 13, 14, 15] (w' := [(mp_ob9 a0 a29 a1 a15 a30 a31 a32 a33 a34 a35), (mp_ob0 a1 a2 y0 a36 a37 a38 a39 a40 a41), (mp_ob7 a2 y1 y2 y3 y4 y5 y6 a3 a4 a5 a6 a7 a8 a9 a10 a11 a12 a13 a14), (mp_arI E a3 0 36 f0), (mp_arL E a4 12 f1), (mp_arI E a5 0 6 f2), (mp_arI E a6 0 6 f3), (mp_arI E a7 0 6 f4), (mp_arI E a8 0 10 f5), (mp_arI E a9 0 10 f6), (mp_arI E a10 0 10 f7), (mp_arI E a11 0 10 f8), (mp_arI E a12 0 10 f9), (mp_arI E a13 0 10 f10), (mp_arI E a14 0 60 f11), (a15, .inl (E.2.2 4, 3, .inr (.inr (.inr (.inr f12))))), (mp_ob7 a16 y1 y2 y3 y4 y5 y6 a17 a18 a19 a20 a21 a22 a23 a24 a25 a26 a27 a28), (mp_arI E a17 0 36 g_10), (mp_arL E a18 12 g_11), (mp_arI E a19 0 6 g_12), (mp_arI E a20 0 6 g_13), (mp_arI E a21 0 6 g_14), (mp_arI E a22 0 10 g_15), (mp_arI E a23 0 10 g_16), (mp_arI E a24 0 10 g_17), (mp_arI E a25 0 10 g_18), (mp_arI E a26 0 10 g_19), (mp_arI E a27 0 10 g_20), (mp_arI E a28 0 60 g_21)]) rfl rfl ⟨g_10, g_11, g_12, g_13, g_14, g_15, g_16, g_17, g_18, g_19, g_20, g_21, rfl, p_22, p_23, p_24, p_25, p_26, p_27, p_28, p_29, (by (first | exact mp_o916 u_y0 x_30 q0 | omega)), (mp_tC_cp x_31 ⟨(show y4.toInt ≤ 6 from by (first | exact u_y4 | omega)), (show y5.toInt ≤ 10 from by (first | exact u_y5 | omega)), (by (first | exact u_y6 | omega))⟩ (by first | rfl | exact mp_sc5 (by omega) (by omega) (by omega) (by omega) (by omega)) (by first | rfl | omega)), rfl⟩ (by first | exact mp_fd_ok mp_k_cX9_image_ok (by decide +kernel) | decide +kernel)
set_option maxHeartbeats 4000000 in
set_option maxRecDepth 100000 in
theorem bX9_image_192 (E : mp_E) (a0 a1 a2 a3 a4 a5 a6 a7 a8 a9 a10 a11 a12 a13 a14 a15 a16 a17 a18 a19 a20 a21 a22 a23 a24 a25 a26 a27 a28 : Nat) (f0 : Nat → Int32) (f1 : Nat → Int64) (f2 : Nat → Int32) (f3 : Nat → Int32) (f4 : Nat → Int32) (f5 : Nat → Int32) (f6 : Nat → Int32) (f7 : Nat → Int32) (f8 : Nat → Int32) (f9 : Nat → Int32) (f10 : Nat → Int32) (f11 : Nat → Int32) (f12 : Nat → Option Nat) (o13 : Option Nat) (o14 : Option Nat) (y0 : Int32) (y1 : Int32) (y2 : Int32) (y3 : Int32) (y4 : Int32) (y5 : Int32) (y6 : Int32) (p0 : mp_all f0 36 0 20) (p1 : mp_all f2 6 0 5) (p2 : mp_all f5 10 0 5) (p3 : mp_all f6 10 0 5) (p4 : mp_all f8 10 0 99) (p5 : mp_all f9 10 0 1) (p6 : mp_all f10 10 (-1) 9) (p7 : mp_acts f11) (p8 : f12 0 = o13) (p9 : f12 1 = none) (p10 : f12 2 = o14) (l_y0 : 0 ≤ y0.toInt) (u_y0 : y0.toInt ≤ 99) (l_y2 : 0 ≤ y2.toInt) (u_y2 : y2.toInt ≤ 6) (l_y3 : 0 ≤ y3.toInt) (u_y3 : y3.toInt ≤ 99) (l_y4 : 0 ≤ y4.toInt) (u_y4 : y4.toInt ≤ 6) (l_y5 : 0 ≤ y5.toInt) (u_y5 : y5.toInt ≤ 10) (l_y6 : 0 ≤ y6.toInt) (u_y6 : y6.toInt ≤ 60) (q0 : y0.toInt = y3.toInt + mp_k200 f11 y6.toInt) : mp_Ct E yX9_image cX9_image 2 (some FieldType.int) 2 13 204 39 [.ref a0, .int 1] [(mp_ob9 a0 a16 a1 a15 a17 a18 a19 a20 a21 a22), (mp_ob0 a1 a2 y0 a23 a24 a25 a26 a27 a28), (mp_ob7 a2 y1 y2 y3 y4 y5 y6 a3 a4 a5 a6 a7 a8 a9 a10 a11 a12 a13 a14), (mp_arI E a3 0 36 f0), (mp_arL E a4 12 f1), (mp_arI E a5 0 6 f2), (mp_arI E a6 0 6 f3), (mp_arI E a7 0 6 f4), (mp_arI E a8 0 10 f5), (mp_arI E a9 0 10 f6), (mp_arI E a10 0 10 f7), (mp_arI E a11 0 10 f8), (mp_arI E a12 0 10 f9), (mp_arI E a13 0 10 f10), (mp_arI E a14 0 60 f11), (a15, .inl (E.2.2 4, 3, .inr (.inr (.inr (.inr f12)))))] (fun v w' => ∃ h1 : Nat → Option Nat, ∃ q2 : Nat, ∃ q3 : Nat, ∃ q4 : Nat, ∃ q5 : Nat, ∃ q6 : Nat, ∃ q7 : Nat, ∃ q8 : Nat, ∃ q9 : Nat, ∃ q10 : Nat, ∃ q11 : Nat, ∃ q12 : Nat, ∃ q13 : Nat, ∃ q14 : Nat, ∃ h15 : Nat → Int32, ∃ h16 : Nat → Int64, ∃ h17 : Nat → Int32, ∃ h18 : Nat → Int32, ∃ h19 : Nat → Int32, ∃ h20 : Nat → Int32, ∃ h21 : Nat → Int32, ∃ h22 : Nat → Int32, ∃ h23 : Nat → Int32, ∃ h24 : Nat → Int32, ∃ h25 : Nat → Int32, ∃ h26 : Nat → Int32, v = some (.int 0) ∧ mp_all h15 36 0 20 ∧ mp_all h17 6 0 5 ∧ mp_all h20 10 0 5 ∧ mp_all h21 10 0 5 ∧ mp_all h23 10 0 99 ∧ mp_all h24 10 0 1 ∧ mp_all h25 10 (-1) 9 ∧ mp_acts h26 ∧ h1 0 = o13 ∧ h1 1 = some q2 ∧ h1 2 = o14 ∧ (y3.toInt + mp_k200 h26 y6.toInt ≤ 99) ∧ (mp_RT (mp_tC (y2.toInt, y3.toInt, y4.toInt, y5.toInt, y1.toInt) y6.toInt (f0, f1, f2, f3, f4, f5, f6, f7, f8, f9, f10, f11)) (mp_tC (y2.toInt, y3.toInt, y4.toInt, y5.toInt, y1.toInt) y6.toInt (h15, h16, h17, h18, h19, h20, h21, h22, h23, h24, h25, h26))) ∧ w' = [(mp_ob9 a0 a16 a1 a15 a17 a18 a19 a20 a21 a22), (mp_ob0 a1 a2 y0 a23 a24 a25 a26 a27 a28), (mp_ob7 a2 y1 y2 y3 y4 y5 y6 a3 a4 a5 a6 a7 a8 a9 a10 a11 a12 a13 a14), (mp_arI E a3 0 36 f0), (mp_arL E a4 12 f1), (mp_arI E a5 0 6 f2), (mp_arI E a6 0 6 f3), (mp_arI E a7 0 6 f4), (mp_arI E a8 0 10 f5), (mp_arI E a9 0 10 f6), (mp_arI E a10 0 10 f7), (mp_arI E a11 0 10 f8), (mp_arI E a12 0 10 f9), (mp_arI E a13 0 10 f10), (mp_arI E a14 0 60 f11), (a15, .inl (E.2.2 4, 3, .inr (.inr (.inr (.inr h1))))), (mp_ob7 q2 y1 y2 y3 y4 y5 y6 q3 q4 q5 q6 q7 q8 q9 q10 q11 q12 q13 q14), (mp_arI E q3 0 36 h15), (mp_arL E q4 12 h16), (mp_arI E q5 0 6 h17), (mp_arI E q6 0 6 h18), (mp_arI E q7 0 6 h19), (mp_arI E q8 0 10 h20), (mp_arI E q9 0 10 h21), (mp_arI E q10 0 10 h22), (mp_arI E q11 0 10 h23), (mp_arI E q12 0 10 h24), (mp_arI E q13 0 10 h25), (mp_arI E q14 0 60 h26)]) := by
  refine mp_met false (by decide) (by decide) (Nat.le_of_ble_eq_true rfl) (fun X hF hQ => ?_)
  have hF : mp_F E X (RX9, cX9_image, 2, (2, 13, 204, 39), (some FieldType.int), false) := hF
  let w1_ : va_W := [(mp_ob9 a0 a16 a1 a15 a17 a18 a19 a20 a21 a22), (mp_ob0 a1 a2 y0 a23 a24 a25 a26 a27 a28), (mp_ob7 a2 y1 y2 y3 y4 y5 y6 a3 a4 a5 a6 a7 a8 a9 a10 a11 a12 a13 a14), (mp_arI E a3 0 36 f0), (mp_arL E a4 12 f1), (mp_arI E a5 0 6 f2), (mp_arI E a6 0 6 f3), (mp_arI E a7 0 6 f4), (mp_arI E a8 0 10 f5), (mp_arI E a9 0 10 f6), (mp_arI E a10 0 10 f7), (mp_arI E a11 0 10 f8), (mp_arI E a12 0 10 f9), (mp_arI E a13 0 10 f10), (mp_arI E a14 0 60 f11), (a15, .inl (E.2.2 4, 3, .inr (.inr (.inr (.inr f12)))))]
  show mp_W E X 2 0 [(0, .ref a0), (1, .int 1)] [] w1_ 0 0
  refine mp_run mp_k_cX9_image_ok hF mp_tabX9_ok [mp_i (.iload_n 1), mp_h (.ifCond .lt 8) [9]] (by decide +kernel) ?_
  refine And.intro (fun c_1 => absurd c_1 (by decide)) (fun _ => ?_)
  show mp_W E X 2 4 [(0, .ref a0), (1, .int 1)] [] w1_ 0 0
  refine mp_run mp_k_cX9_image_ok hF mp_tabX9_ok [mp_i (.iload_n 1), mp_c (.iconst 3) 3, mp_h (.if_icmp .lt 6) [12]] (by decide +kernel) ?_
  refine And.intro (fun _ => ?_) (fun c_2 => absurd c_2 (by decide))
  show mp_W E X 2 12 [(0, .ref a0), (1, .int 1)] [] w1_ 0 0
  refine mp_run mp_k_cX9_image_ok hF mp_tabX9_ok [mp_i (.aload_n 0), mp_h (.getfield 25) [38, 0], mp_i (.iload_n 1), mp_h .aaload [15]] (by decide +kernel) ?_
  refine And.intro rfl (And.intro rfl ?_)
  refine And.intro rfl (And.intro rfl (And.intro (vp_in_iff.mpr (by decide)) ?_))
  intro z_3 h_4
  obtain rfl : z_3 = none := mp_at h_4 (by decide) p9
  show mp_W E X 2 18 [(0, .ref a0), (1, .int 1)] [.null] w1_ 0 0
  refine mp_ifnn_f hF (off := 16) (by first | exact mp_fd_ok mp_k_cX9_image_ok (by decide +kernel) | decide +kernel) ?_
  show mp_W E X 2 21 [(0, .ref a0), (1, .int 1)] [] w1_ 0 0
  refine mp_run mp_k_cX9_image_ok hF mp_tabX9_ok [mp_i (.aload_n 0), mp_h (.getfield 25) [38, 0], mp_i (.iload_n 1)] (by decide +kernel) ?_
  refine And.intro rfl (And.intro rfl ?_)
  show mp_W E X 2 26 [(0, .ref a0), (1, .int 1)] [.int 1, .ref a15] w1_ 0 0
  refine mp_new hF (mp_lnX9_23) ⟨(Nat.le_of_ble_eq_true rfl), (Nat.le_of_ble_eq_true rfl)⟩ (by first | exact mp_fd_ok mp_k_cX9_image_ok (by decide +kernel) | decide +kernel) (fun q_5 => ?_)
  let w2_ : va_W := [(mp_ob9 a0 a16 a1 a15 a17 a18 a19 a20 a21 a22), (mp_ob0 a1 a2 y0 a23 a24 a25 a26 a27 a28), (mp_ob7 a2 y1 y2 y3 y4 y5 y6 a3 a4 a5 a6 a7 a8 a9 a10 a11 a12 a13 a14), (mp_arI E a3 0 36 f0), (mp_arL E a4 12 f1), (mp_arI E a5 0 6 f2), (mp_arI E a6 0 6 f3), (mp_arI E a7 0 6 f4), (mp_arI E a8 0 10 f5), (mp_arI E a9 0 10 f6), (mp_arI E a10 0 10 f7), (mp_arI E a11 0 10 f8), (mp_arI E a12 0 10 f9), (mp_arI E a13 0 10 f10), (mp_arI E a14 0 60 f11), (a15, .inl (E.2.2 4, 3, .inr (.inr (.inr (.inr f12))))), (q_5, .inr (7, [.int 0, .int 0, .int 0, .int 0, .int 0, .int 0, .null, .null, .null, .null, .null, .null, .null, .null, .null, .null, .null, .null]))]
  show mp_W E X 2 29 [(0, .ref a0), (1, .int 1)] [.ref q_5, .int 1, .ref a15] w2_ 1 18
  refine mp_run mp_k_cX9_image_ok hF mp_tabX9_ok [mp_i .dup] (by decide +kernel) ?_
  refine And.intro rfl ?_
  show mp_W E X 2 30 [(0, .ref a0), (1, .int 1)] [.ref q_5, .ref q_5, .int 1, .ref a15] w2_ 1 18
  refine mp_callIN hF (As := []) (rest := [.ref q_5, .int 1, .ref a15]) (wr := w1_) (bX7_init_189 E q_5 0 0 0 0 0 0 (by decide) (by decide) (by decide) (by decide) (by decide) (by decide) (by decide) (by decide) (by decide) (by decide)) rfl (mp_gm (j := 1038) (by decide +kernel)) mp_lkX9_350 [16] [0, 1, 2, 3, 4, 5, 6, 7, 8, 9, 10, 11, 12, 13, 14, 15] rfl rfl rfl rfl rfl ⟨(Nat.le_of_ble_eq_true rfl), (Nat.le_of_ble_eq_true rfl), (Nat.le_of_ble_eq_true rfl), (Nat.le_of_ble_eq_true rfl)⟩ (Nat.le_of_ble_eq_true rfl) (by first | exact mp_fd_ok mp_k_cX9_image_ok (by decide +kernel) | decide +kernel) (fun v_6 w_7 h_8 => ?_)
  refine h_8.elim fun g_9 q_21 => q_21.elim fun g_10 q_22 => q_22.elim fun g_11 q_23 => q_23.elim fun g_12 q_24 => q_24.elim fun g_13 q_25 => q_25.elim fun g_14 q_26 => q_26.elim fun g_15 q_27 => q_27.elim fun g_16 q_28 => q_28.elim fun g_17 q_29 => q_29.elim fun g_18 q_30 => q_30.elim fun g_19 q_31 => q_31.elim fun g_20 q_32 => q_32.elim fun e_33 e_34 => ?_
  clear h_8 q_21 q_22 q_23 q_24 q_25 q_26 q_27 q_28 q_29 q_30 q_31 q_32
  subst e_33
  subst e_34
  let w3_ : va_W := [(mp_ob9 a0 a16 a1 a15 a17 a18 a19 a20 a21 a22), (mp_ob0 a1 a2 y0 a23 a24 a25 a26 a27 a28), (mp_ob7 a2 y1 y2 y3 y4 y5 y6 a3 a4 a5 a6 a7 a8 a9 a10 a11 a12 a13 a14), (mp_arI E a3 0 36 f0), (mp_arL E a4 12 f1), (mp_arI E a5 0 6 f2), (mp_arI E a6 0 6 f3), (mp_arI E a7 0 6 f4), (mp_arI E a8 0 10 f5), (mp_arI E a9 0 10 f6), (mp_arI E a10 0 10 f7), (mp_arI E a11 0 10 f8), (mp_arI E a12 0 10 f9), (mp_arI E a13 0 10 f10), (mp_arI E a14 0 60 f11), (a15, .inl (E.2.2 4, 3, .inr (.inr (.inr (.inr f12))))), (mp_ob7 q_5 0 0 0 0 0 0 g_9 g_10 g_11 g_12 g_13 g_14 g_15 g_16 g_17 g_18 g_19 g_20), (mp_arI E g_9 0 36 (fun _ => 0)), (mp_arL E g_10 12 (fun _ => 0)), (mp_arI E g_11 0 6 (fun _ => 0)), (mp_arI E g_12 0 6 (fun _ => 0)), (mp_arI E g_13 0 6 (fun _ => 0)), (mp_arI E g_14 0 10 (fun _ => 0)), (mp_arI E g_15 0 10 (fun _ => 0)), (mp_arI E g_16 0 10 (fun _ => 0)), (mp_arI E g_17 0 10 (fun _ => 0)), (mp_arI E g_18 0 10 (fun _ => 0)), (mp_arI E g_19 0 10 (fun _ => 0)), (mp_arI E g_20 0 60 (fun _ => 0))]
  show mp_W E X 2 33 [(0, .ref a0), (1, .int 1)] [.ref q_5, .int 1, .ref a15] w3_ 13 204
  refine mp_astq hF 15 16 rfl rfl (vp_in_iff.mpr (by decide)) (by first | exact mp_fd_ok mp_k_cX9_image_ok (by decide +kernel) | decide +kernel) (fun g_35 h_36 => ?_)
  have k_37 : g_35 1 = (some q_5) := mp_updqs h_36 (by decide)
  have k_38 : g_35 0 = o13 := mp_updqo h_36 p8 (by decide)
  have k_39 : g_35 2 = o14 := mp_updqo h_36 p10 (by decide)
  let w4_ : va_W := [(mp_ob9 a0 a16 a1 a15 a17 a18 a19 a20 a21 a22), (mp_ob0 a1 a2 y0 a23 a24 a25 a26 a27 a28), (mp_ob7 a2 y1 y2 y3 y4 y5 y6 a3 a4 a5 a6 a7 a8 a9 a10 a11 a12 a13 a14), (mp_arI E a3 0 36 f0), (mp_arL E a4 12 f1), (mp_arI E a5 0 6 f2), (mp_arI E a6 0 6 f3), (mp_arI E a7 0 6 f4), (mp_arI E a8 0 10 f5), (mp_arI E a9 0 10 f6), (mp_arI E a10 0 10 f7), (mp_arI E a11 0 10 f8), (mp_arI E a12 0 10 f9), (mp_arI E a13 0 10 f10), (mp_arI E a14 0 60 f11), (a15, .inl (E.2.2 4, 3, .inr (.inr (.inr (.inr g_35))))), (mp_ob7 q_5 0 0 0 0 0 0 g_9 g_10 g_11 g_12 g_13 g_14 g_15 g_16 g_17 g_18 g_19 g_20), (mp_arI E g_9 0 36 (fun _ => 0)), (mp_arL E g_10 12 (fun _ => 0)), (mp_arI E g_11 0 6 (fun _ => 0)), (mp_arI E g_12 0 6 (fun _ => 0)), (mp_arI E g_13 0 6 (fun _ => 0)), (mp_arI E g_14 0 10 (fun _ => 0)), (mp_arI E g_15 0 10 (fun _ => 0)), (mp_arI E g_16 0 10 (fun _ => 0)), (mp_arI E g_17 0 10 (fun _ => 0)), (mp_arI E g_18 0 10 (fun _ => 0)), (mp_arI E g_19 0 10 (fun _ => 0)), (mp_arI E g_20 0 60 (fun _ => 0))]
  show mp_W E X 2 34 [(0, .ref a0), (1, .int 1)] [] w4_ 13 204
  refine mp_run mp_k_cX9_image_ok hF mp_tabX9_ok [mp_i (.aload_n 0), mp_h (.getfield 25) [38, 0], mp_i (.iload_n 1), mp_h .aaload [15], mp_i (.aload_n 0), mp_h (.getfield 19) [37, 0], mp_h (.getfield 83) [20, 1]] (by decide +kernel) ?_
  refine And.intro rfl (And.intro rfl ?_)
  refine And.intro rfl (And.intro rfl (And.intro (vp_in_iff.mpr (by decide)) ?_))
  intro z_40 h_41
  obtain rfl : z_40 = (some q_5) := mp_at h_41 (by decide) k_37
  refine And.intro rfl (And.intro rfl ?_)
  refine And.intro rfl (And.intro rfl ?_)
  show mp_W E X 2 47 [(0, .ref a0), (1, .int 1)] [.ref a2, .ref q_5] w4_ 13 204
  refine mp_callV hF (As := [.ref a2]) (rest := []) (wr := [(mp_ob9 a0 a16 a1 a15 a17 a18 a19 a20 a21 a22), (mp_ob0 a1 a2 y0 a23 a24 a25 a26 a27 a28), (a15, .inl (E.2.2 4, 3, .inr (.inr (.inr (.inr g_35)))))]) (bX7_copyFrom_44 E q_5 a2 g_9 g_10 g_11 g_12 g_13 g_14 g_15 g_16 g_17 g_18 g_19 g_20 a3 a4 a5 a6 a7 a8 a9 a10 a11 a12 a13 a14 (fun _ => 0) (fun _ => 0) (fun _ => 0) (fun _ => 0) (fun _ => 0) (fun _ => 0) (fun _ => 0) (fun _ => 0) (fun _ => 0) (fun _ => 0) (fun _ => 0) (fun _ => 0) f0 f1 f2 f3 f4 f5 f6 f7 f8 f9 f10 f11 0 0 0 0 0 0 y1 y2 y3 y4 y5 y6 (mp_all_z (by decide)) (mp_all_z (by decide)) (mp_all_z (by decide)) (mp_all_z (by decide)) (mp_all_z (by decide)) (mp_all_z (by decide)) (mp_all_z (by decide)) (mp_acts_z) p0 p1 p2 p3 p4 p5 p6 p7 (by decide) (by decide) (by decide) (by decide) (by decide) (by decide) (by decide) (by decide) (by decide) (by decide) l_y2 u_y2 l_y3 u_y3 l_y4 u_y4 l_y5 u_y5 l_y6 u_y6) mp_lkX9_90 16 rfl [16, 17, 18, 19, 20, 21, 22, 23, 24, 25, 26, 27, 28, 2, 3, 4, 5, 6, 7, 8, 9, 10, 11, 12, 13, 14] [0, 1, 15] rfl rfl rfl rfl rfl ⟨(Nat.le_of_ble_eq_true rfl), (Nat.le_of_ble_eq_true rfl), (Nat.le_of_ble_eq_true rfl), (Nat.le_of_ble_eq_true rfl)⟩ (Nat.le_of_ble_eq_true rfl) (by first | exact mp_fd_ok mp_k_cX9_image_ok (by decide +kernel) | decide +kernel) (fun v_42 w_43 h_44 => ?_)
  refine h_44.elim fun g_45 q_67 => q_67.elim fun g_46 q_68 => q_68.elim fun g_47 q_69 => q_69.elim fun g_48 q_70 => q_70.elim fun g_49 q_71 => q_71.elim fun g_50 q_72 => q_72.elim fun g_51 q_73 => q_73.elim fun g_52 q_74 => q_74.elim fun g_53 q_75 => q_75.elim fun g_54 q_76 => q_76.elim fun g_55 q_77 => q_77.elim fun g_56 q_78 => q_78.elim fun e_79 q_80 => q_80.elim fun p_57 q_81 => q_81.elim fun p_58 q_82 => q_82.elim fun p_59 q_83 => q_83.elim fun p_60 q_84 => q_84.elim fun p_61 q_85 => q_85.elim fun p_62 q_86 => q_86.elim fun p_63 q_87 => q_87.elim fun p_64 q_88 => q_88.elim fun x_65 q_89 => q_89.elim fun x_66 e_90 => ?_
  clear h_44 q_67 q_68 q_69 q_70 q_71 q_72 q_73 q_74 q_75 q_76 q_77 q_78 q_80 q_81 q_82 q_83 q_84 q_85 q_86 q_87 q_88 q_89
  subst e_79
  subst e_90
  let w5_ : va_W := [(mp_ob9 a0 a16 a1 a15 a17 a18 a19 a20 a21 a22), (mp_ob0 a1 a2 y0 a23 a24 a25 a26 a27 a28), (a15, .inl (E.2.2 4, 3, .inr (.inr (.inr (.inr g_35))))), (mp_ob7 q_5 y1 y2 y3 y4 y5 y6 g_9 g_10 g_11 g_12 g_13 g_14 g_15 g_16 g_17 g_18 g_19 g_20), (mp_arI E g_9 0 36 g_45), (mp_arL E g_10 12 g_46), (mp_arI E g_11 0 6 g_47), (mp_arI E g_12 0 6 g_48), (mp_arI E g_13 0 6 g_49), (mp_arI E g_14 0 10 g_50), (mp_arI E g_15 0 10 g_51), (mp_arI E g_16 0 10 g_52), (mp_arI E g_17 0 10 g_53), (mp_arI E g_18 0 10 g_54), (mp_arI E g_19 0 10 g_55), (mp_arI E g_20 0 60 g_56), (mp_ob7 a2 y1 y2 y3 y4 y5 y6 a3 a4 a5 a6 a7 a8 a9 a10 a11 a12 a13 a14), (mp_arI E a3 0 36 f0), (mp_arL E a4 12 f1), (mp_arI E a5 0 6 f2), (mp_arI E a6 0 6 f3), (mp_arI E a7 0 6 f4), (mp_arI E a8 0 10 f5), (mp_arI E a9 0 10 f6), (mp_arI E a10 0 10 f7), (mp_arI E a11 0 10 f8), (mp_arI E a12 0 10 f9), (mp_arI E a13 0 10 f10), (mp_arI E a14 0 60 f11)]
  show mp_W E X 2 50 [(0, .ref a0), (1, .int 1)] [] w5_ 13 204
  refine mp_run mp_k_cX9_image_ok hF mp_tabX9_ok [mp_c (.iconst 0) 0] (by decide +kernel) ?_
  show mp_W E X 2 51 [(0, .ref a0), (1, .int 1)] [.int 0] w5_ 13 204
  exact mp_iret hF hQ rfl rfl (Nat.le_of_ble_eq_true rfl) (Nat.le_of_ble_eq_true rfl) [0, 1, 16, 17, 18, 19, 20, 21, 22, 23, 24, 25, 26, 27, 28, 2, 3, 4, 5, 6, 7, 8, 9, 10, 11, 12, 13, 14, 15] (w' := [(mp_ob9 a0 a16 a1 a15 a17 a18 a19 a20 a21 a22), (mp_ob0 a1 a2 y0 a23 a24 a25 a26 a27 a28), (mp_ob7 a2 y1 y2 y3 y4 y5 y6 a3 a4 a5 a6 a7 a8 a9 a10 a11 a12 a13 a14), (mp_arI E a3 0 36 f0), (mp_arL E a4 12 f1), (mp_arI E a5 0 6 f2), (mp_arI E a6 0 6 f3), (mp_arI E a7 0 6 f4), (mp_arI E a8 0 10 f5), (mp_arI E a9 0 10 f6), (mp_arI E a10 0 10 f7), (mp_arI E a11 0 10 f8), (mp_arI E a12 0 10 f9), (mp_arI E a13 0 10 f10), (mp_arI E a14 0 60 f11), (a15, .inl (E.2.2 4, 3, .inr (.inr (.inr (.inr g_35))))), (mp_ob7 q_5 y1 y2 y3 y4 y5 y6 g_9 g_10 g_11 g_12 g_13 g_14 g_15 g_16 g_17 g_18 g_19 g_20), (mp_arI E g_9 0 36 g_45), (mp_arL E g_10 12 g_46), (mp_arI E g_11 0 6 g_47), (mp_arI E g_12 0 6 g_48), (mp_arI E g_13 0 6 g_49), (mp_arI E g_14 0 10 g_50), (mp_arI E g_15 0 10 g_51), (mp_arI E g_16 0 10 g_52), (mp_arI E g_17 0 10 g_53), (mp_arI E g_18 0 10 g_54), (mp_arI E g_19 0 10 g_55), (mp_arI E g_20 0 60 g_56)]) rfl rfl ⟨g_35, q_5, g_9, g_10, g_11, g_12, g_13, g_14, g_15, g_16, g_17, g_18, g_19, g_20, g_45, g_46, g_47, g_48, g_49, g_50, g_51, g_52, g_53, g_54, g_55, g_56, rfl, p_57, p_58, p_59, p_60, p_61, p_62, p_63, p_64, k_38, k_37, k_39, (by (first | exact mp_o916 u_y0 x_65 q0 | omega)), (mp_tC_cp x_66 ⟨(show y4.toInt ≤ 6 from by (first | exact u_y4 | omega)), (show y5.toInt ≤ 10 from by (first | exact u_y5 | omega)), (by (first | exact u_y6 | omega))⟩ (by first | rfl | exact mp_sc5 (by omega) (by omega) (by omega) (by omega) (by omega)) (by first | rfl | omega)), rfl⟩ (by first | exact mp_fd_ok mp_k_cX9_image_ok (by decide +kernel) | decide +kernel)
set_option maxHeartbeats 4000000 in
set_option maxRecDepth 100000 in
theorem bX9_image_193 (E : mp_E) (a0 a1 a2 a3 a4 a5 a6 a7 a8 a9 a10 a11 a12 a13 a14 a15 a16 a17 a18 a19 a20 a21 a22 a23 a24 a25 a26 a27 a28 a29 a30 a31 a32 a33 a34 a35 a36 a37 a38 a39 a40 a41 : Nat) (f0 : Nat → Int32) (f1 : Nat → Int64) (f2 : Nat → Int32) (f3 : Nat → Int32) (f4 : Nat → Int32) (f5 : Nat → Int32) (f6 : Nat → Int32) (f7 : Nat → Int32) (f8 : Nat → Int32) (f9 : Nat → Int32) (f10 : Nat → Int32) (f11 : Nat → Int32) (f12 : Nat → Option Nat) (o13 : Option Nat) (o14 : Option Nat) (f15 : Nat → Int32) (f16 : Nat → Int64) (f17 : Nat → Int32) (f18 : Nat → Int32) (f19 : Nat → Int32) (f20 : Nat → Int32) (f21 : Nat → Int32) (f22 : Nat → Int32) (f23 : Nat → Int32) (f24 : Nat → Int32) (f25 : Nat → Int32) (f26 : Nat → Int32) (y0 : Int32) (y1 : Int32) (y2 : Int32) (y3 : Int32) (y4 : Int32) (y5 : Int32) (y6 : Int32) (y7 : Int32) (y8 : Int32) (y9 : Int32) (y10 : Int32) (y11 : Int32) (y12 : Int32) (p0 : mp_all f0 36 0 20) (p1 : mp_all f2 6 0 5) (p2 : mp_all f5 10 0 5) (p3 : mp_all f6 10 0 5) (p4 : mp_all f8 10 0 99) (p5 : mp_all f9 10 0 1) (p6 : mp_all f10 10 (-1) 9) (p7 : mp_acts f11) (p8 : f12 0 = o13) (p9 : f12 1 = some a16) (p10 : f12 2 = o14) (p11 : mp_all f15 36 0 20) (p12 : mp_all f17 6 0 5) (p13 : mp_all f20 10 0 5) (p14 : mp_all f21 10 0 5) (p15 : mp_all f23 10 0 99) (p16 : mp_all f24 10 0 1) (p17 : mp_all f25 10 (-1) 9) (p18 : mp_acts f26) (l_y0 : 0 ≤ y0.toInt) (u_y0 : y0.toInt ≤ 99) (l_y2 : 0 ≤ y2.toInt) (u_y2 : y2.toInt ≤ 6) (l_y3 : 0 ≤ y3.toInt) (u_y3 : y3.toInt ≤ 99) (l_y4 : 0 ≤ y4.toInt) (u_y4 : y4.toInt ≤ 6) (l_y5 : 0 ≤ y5.toInt) (u_y5 : y5.toInt ≤ 10) (l_y6 : 0 ≤ y6.toInt) (u_y6 : y6.toInt ≤ 60) (l_y8 : 0 ≤ y8.toInt) (u_y8 : y8.toInt ≤ 6) (l_y9 : 0 ≤ y9.toInt) (u_y9 : y9.toInt ≤ 99) (l_y10 : 0 ≤ y10.toInt) (u_y10 : y10.toInt ≤ 6) (l_y11 : 0 ≤ y11.toInt) (u_y11 : y11.toInt ≤ 10) (l_y12 : 0 ≤ y12.toInt) (u_y12 : y12.toInt ≤ 60) (q0 : y0.toInt = y3.toInt + mp_k200 f11 y6.toInt) : mp_Ct E yX9_image cX9_image 2 (some FieldType.int) 2 0 0 39 [.ref a0, .int 1] [(mp_ob9 a0 a29 a1 a15 a30 a31 a32 a33 a34 a35), (mp_ob0 a1 a2 y0 a36 a37 a38 a39 a40 a41), (mp_ob7 a2 y1 y2 y3 y4 y5 y6 a3 a4 a5 a6 a7 a8 a9 a10 a11 a12 a13 a14), (mp_arI E a3 0 36 f0), (mp_arL E a4 12 f1), (mp_arI E a5 0 6 f2), (mp_arI E a6 0 6 f3), (mp_arI E a7 0 6 f4), (mp_arI E a8 0 10 f5), (mp_arI E a9 0 10 f6), (mp_arI E a10 0 10 f7), (mp_arI E a11 0 10 f8), (mp_arI E a12 0 10 f9), (mp_arI E a13 0 10 f10), (mp_arI E a14 0 60 f11), (a15, .inl (E.2.2 4, 3, .inr (.inr (.inr (.inr f12))))), (mp_ob7 a16 y7 y8 y9 y10 y11 y12 a17 a18 a19 a20 a21 a22 a23 a24 a25 a26 a27 a28), (mp_arI E a17 0 36 f15), (mp_arL E a18 12 f16), (mp_arI E a19 0 6 f17), (mp_arI E a20 0 6 f18), (mp_arI E a21 0 6 f19), (mp_arI E a22 0 10 f20), (mp_arI E a23 0 10 f21), (mp_arI E a24 0 10 f22), (mp_arI E a25 0 10 f23), (mp_arI E a26 0 10 f24), (mp_arI E a27 0 10 f25), (mp_arI E a28 0 60 f26)] (fun v w' => ∃ h1 : Nat → Int32, ∃ h2 : Nat → Int64, ∃ h3 : Nat → Int32, ∃ h4 : Nat → Int32, ∃ h5 : Nat → Int32, ∃ h6 : Nat → Int32, ∃ h7 : Nat → Int32, ∃ h8 : Nat → Int32, ∃ h9 : Nat → Int32, ∃ h10 : Nat → Int32, ∃ h11 : Nat → Int32, ∃ h12 : Nat → Int32, v = some (.int 0) ∧ mp_all h1 36 0 20 ∧ mp_all h3 6 0 5 ∧ mp_all h6 10 0 5 ∧ mp_all h7 10 0 5 ∧ mp_all h9 10 0 99 ∧ mp_all h10 10 0 1 ∧ mp_all h11 10 (-1) 9 ∧ mp_acts h12 ∧ (y3.toInt + mp_k200 h12 y6.toInt ≤ 99) ∧ (mp_RT (mp_tC (y2.toInt, y3.toInt, y4.toInt, y5.toInt, y1.toInt) y6.toInt (f0, f1, f2, f3, f4, f5, f6, f7, f8, f9, f10, f11)) (mp_tC (y2.toInt, y3.toInt, y4.toInt, y5.toInt, y1.toInt) y6.toInt (h1, h2, h3, h4, h5, h6, h7, h8, h9, h10, h11, h12))) ∧ w' = [(mp_ob9 a0 a29 a1 a15 a30 a31 a32 a33 a34 a35), (mp_ob0 a1 a2 y0 a36 a37 a38 a39 a40 a41), (mp_ob7 a2 y1 y2 y3 y4 y5 y6 a3 a4 a5 a6 a7 a8 a9 a10 a11 a12 a13 a14), (mp_arI E a3 0 36 f0), (mp_arL E a4 12 f1), (mp_arI E a5 0 6 f2), (mp_arI E a6 0 6 f3), (mp_arI E a7 0 6 f4), (mp_arI E a8 0 10 f5), (mp_arI E a9 0 10 f6), (mp_arI E a10 0 10 f7), (mp_arI E a11 0 10 f8), (mp_arI E a12 0 10 f9), (mp_arI E a13 0 10 f10), (mp_arI E a14 0 60 f11), (a15, .inl (E.2.2 4, 3, .inr (.inr (.inr (.inr f12))))), (mp_ob7 a16 y1 y2 y3 y4 y5 y6 a17 a18 a19 a20 a21 a22 a23 a24 a25 a26 a27 a28), (mp_arI E a17 0 36 h1), (mp_arL E a18 12 h2), (mp_arI E a19 0 6 h3), (mp_arI E a20 0 6 h4), (mp_arI E a21 0 6 h5), (mp_arI E a22 0 10 h6), (mp_arI E a23 0 10 h7), (mp_arI E a24 0 10 h8), (mp_arI E a25 0 10 h9), (mp_arI E a26 0 10 h10), (mp_arI E a27 0 10 h11), (mp_arI E a28 0 60 h12)]) := by
  refine mp_met false (by decide) (by decide) (Nat.le_of_ble_eq_true rfl) (fun X hF hQ => ?_)
  have hF : mp_F E X (RX9, cX9_image, 2, (2, 0, 0, 39), (some FieldType.int), false) := hF
  let w1_ : va_W := [(mp_ob9 a0 a29 a1 a15 a30 a31 a32 a33 a34 a35), (mp_ob0 a1 a2 y0 a36 a37 a38 a39 a40 a41), (mp_ob7 a2 y1 y2 y3 y4 y5 y6 a3 a4 a5 a6 a7 a8 a9 a10 a11 a12 a13 a14), (mp_arI E a3 0 36 f0), (mp_arL E a4 12 f1), (mp_arI E a5 0 6 f2), (mp_arI E a6 0 6 f3), (mp_arI E a7 0 6 f4), (mp_arI E a8 0 10 f5), (mp_arI E a9 0 10 f6), (mp_arI E a10 0 10 f7), (mp_arI E a11 0 10 f8), (mp_arI E a12 0 10 f9), (mp_arI E a13 0 10 f10), (mp_arI E a14 0 60 f11), (a15, .inl (E.2.2 4, 3, .inr (.inr (.inr (.inr f12))))), (mp_ob7 a16 y7 y8 y9 y10 y11 y12 a17 a18 a19 a20 a21 a22 a23 a24 a25 a26 a27 a28), (mp_arI E a17 0 36 f15), (mp_arL E a18 12 f16), (mp_arI E a19 0 6 f17), (mp_arI E a20 0 6 f18), (mp_arI E a21 0 6 f19), (mp_arI E a22 0 10 f20), (mp_arI E a23 0 10 f21), (mp_arI E a24 0 10 f22), (mp_arI E a25 0 10 f23), (mp_arI E a26 0 10 f24), (mp_arI E a27 0 10 f25), (mp_arI E a28 0 60 f26)]
  show mp_W E X 2 0 [(0, .ref a0), (1, .int 1)] [] w1_ 0 0
  refine mp_run mp_k_cX9_image_ok hF mp_tabX9_ok [mp_i (.iload_n 1), mp_h (.ifCond .lt 8) [9]] (by decide +kernel) ?_
  refine And.intro (fun c_1 => absurd c_1 (by decide)) (fun _ => ?_)
  show mp_W E X 2 4 [(0, .ref a0), (1, .int 1)] [] w1_ 0 0
  refine mp_run mp_k_cX9_image_ok hF mp_tabX9_ok [mp_i (.iload_n 1), mp_c (.iconst 3) 3, mp_h (.if_icmp .lt 6) [12]] (by decide +kernel) ?_
  refine And.intro (fun _ => ?_) (fun c_2 => absurd c_2 (by decide))
  show mp_W E X 2 12 [(0, .ref a0), (1, .int 1)] [] w1_ 0 0
  refine mp_run mp_k_cX9_image_ok hF mp_tabX9_ok [mp_i (.aload_n 0), mp_h (.getfield 25) [38, 0], mp_i (.iload_n 1), mp_h .aaload [15]] (by decide +kernel) ?_
  refine And.intro rfl (And.intro rfl ?_)
  refine And.intro rfl (And.intro rfl (And.intro (vp_in_iff.mpr (by decide)) ?_))
  intro z_3 h_4
  obtain rfl : z_3 = (some a16) := mp_at h_4 (by decide) p9
  show mp_W E X 2 18 [(0, .ref a0), (1, .int 1)] [.ref a16] w1_ 0 0
  refine mp_ifnn_t hF (off := 16) (tgt := 34) (by first | exact mp_fd_ok mp_k_cX9_image_ok (by decide +kernel) | decide +kernel) (by decide) ?_
  show mp_W E X 2 34 [(0, .ref a0), (1, .int 1)] [] w1_ 0 0
  refine mp_run mp_k_cX9_image_ok hF mp_tabX9_ok [mp_i (.aload_n 0), mp_h (.getfield 25) [38, 0], mp_i (.iload_n 1), mp_h .aaload [15], mp_i (.aload_n 0), mp_h (.getfield 19) [37, 0], mp_h (.getfield 83) [20, 1]] (by decide +kernel) ?_
  refine And.intro rfl (And.intro rfl ?_)
  refine And.intro rfl (And.intro rfl (And.intro (vp_in_iff.mpr (by decide)) ?_))
  intro z_5 h_6
  obtain rfl : z_5 = (some a16) := mp_at h_6 (by decide) p9
  refine And.intro rfl (And.intro rfl ?_)
  refine And.intro rfl (And.intro rfl ?_)
  show mp_W E X 2 47 [(0, .ref a0), (1, .int 1)] [.ref a2, .ref a16] w1_ 0 0
  refine mp_callV hF (As := [.ref a2]) (rest := []) (wr := [(mp_ob9 a0 a29 a1 a15 a30 a31 a32 a33 a34 a35), (mp_ob0 a1 a2 y0 a36 a37 a38 a39 a40 a41), (a15, .inl (E.2.2 4, 3, .inr (.inr (.inr (.inr f12)))))]) (bX7_copyFrom_44 E a16 a2 a17 a18 a19 a20 a21 a22 a23 a24 a25 a26 a27 a28 a3 a4 a5 a6 a7 a8 a9 a10 a11 a12 a13 a14 f15 f16 f17 f18 f19 f20 f21 f22 f23 f24 f25 f26 f0 f1 f2 f3 f4 f5 f6 f7 f8 f9 f10 f11 y7 y8 y9 y10 y11 y12 y1 y2 y3 y4 y5 y6 p11 p12 p13 p14 p15 p16 p17 p18 p0 p1 p2 p3 p4 p5 p6 p7 l_y8 u_y8 l_y9 u_y9 l_y10 u_y10 l_y11 u_y11 l_y12 u_y12 l_y2 u_y2 l_y3 u_y3 l_y4 u_y4 l_y5 u_y5 l_y6 u_y6) mp_lkX9_90 16 rfl [16, 17, 18, 19, 20, 21, 22, 23, 24, 25, 26, 27, 28, 2, 3, 4, 5, 6, 7, 8, 9, 10, 11, 12, 13, 14] [0, 1, 15] rfl rfl rfl rfl rfl ⟨(Nat.le_of_ble_eq_true rfl), (Nat.le_of_ble_eq_true rfl), (Nat.le_of_ble_eq_true rfl), (Nat.le_of_ble_eq_true rfl)⟩ (Nat.le_of_ble_eq_true rfl) (by first | exact mp_fd_ok mp_k_cX9_image_ok (by decide +kernel) | decide +kernel) (fun v_7 w_8 h_9 => ?_)
  refine h_9.elim fun g_10 q_32 => q_32.elim fun g_11 q_33 => q_33.elim fun g_12 q_34 => q_34.elim fun g_13 q_35 => q_35.elim fun g_14 q_36 => q_36.elim fun g_15 q_37 => q_37.elim fun g_16 q_38 => q_38.elim fun g_17 q_39 => q_39.elim fun g_18 q_40 => q_40.elim fun g_19 q_41 => q_41.elim fun g_20 q_42 => q_42.elim fun g_21 q_43 => q_43.elim fun e_44 q_45 => q_45.elim fun p_22 q_46 => q_46.elim fun p_23 q_47 => q_47.elim fun p_24 q_48 => q_48.elim fun p_25 q_49 => q_49.elim fun p_26 q_50 => q_50.elim fun p_27 q_51 => q_51.elim fun p_28 q_52 => q_52.elim fun p_29 q_53 => q_53.elim fun x_30 q_54 => q_54.elim fun x_31 e_55 => ?_
  clear h_9 q_32 q_33 q_34 q_35 q_36 q_37 q_38 q_39 q_40 q_41 q_42 q_43 q_45 q_46 q_47 q_48 q_49 q_50 q_51 q_52 q_53 q_54
  subst e_44
  subst e_55
  let w2_ : va_W := [(mp_ob9 a0 a29 a1 a15 a30 a31 a32 a33 a34 a35), (mp_ob0 a1 a2 y0 a36 a37 a38 a39 a40 a41), (a15, .inl (E.2.2 4, 3, .inr (.inr (.inr (.inr f12))))), (mp_ob7 a16 y1 y2 y3 y4 y5 y6 a17 a18 a19 a20 a21 a22 a23 a24 a25 a26 a27 a28), (mp_arI E a17 0 36 g_10), (mp_arL E a18 12 g_11), (mp_arI E a19 0 6 g_12), (mp_arI E a20 0 6 g_13), (mp_arI E a21 0 6 g_14), (mp_arI E a22 0 10 g_15), (mp_arI E a23 0 10 g_16), (mp_arI E a24 0 10 g_17), (mp_arI E a25 0 10 g_18), (mp_arI E a26 0 10 g_19), (mp_arI E a27 0 10 g_20), (mp_arI E a28 0 60 g_21), (mp_ob7 a2 y1 y2 y3 y4 y5 y6 a3 a4 a5 a6 a7 a8 a9 a10 a11 a12 a13 a14), (mp_arI E a3 0 36 f0), (mp_arL E a4 12 f1), (mp_arI E a5 0 6 f2), (mp_arI E a6 0 6 f3), (mp_arI E a7 0 6 f4), (mp_arI E a8 0 10 f5), (mp_arI E a9 0 10 f6), (mp_arI E a10 0 10 f7), (mp_arI E a11 0 10 f8), (mp_arI E a12 0 10 f9), (mp_arI E a13 0 10 f10), (mp_arI E a14 0 60 f11)]
  show mp_W E X 2 50 [(0, .ref a0), (1, .int 1)] [] w2_ 0 0
  refine mp_run mp_k_cX9_image_ok hF mp_tabX9_ok [mp_c (.iconst 0) 0] (by decide +kernel) ?_
  show mp_W E X 2 51 [(0, .ref a0), (1, .int 1)] [.int 0] w2_ 0 0
  exact mp_iret hF hQ rfl rfl (Nat.le_of_ble_eq_true rfl) (Nat.le_of_ble_eq_true rfl) [0, 1, 16, 17, 18, 19, 20, 21, 22, 23, 24, 25, 26, 27, 28, 2, 3, 4, 5, 6, 7, 8, 9, 10, 11, 12, 13, 14, 15] (w' := [(mp_ob9 a0 a29 a1 a15 a30 a31 a32 a33 a34 a35), (mp_ob0 a1 a2 y0 a36 a37 a38 a39 a40 a41), (mp_ob7 a2 y1 y2 y3 y4 y5 y6 a3 a4 a5 a6 a7 a8 a9 a10 a11 a12 a13 a14), (mp_arI E a3 0 36 f0), (mp_arL E a4 12 f1), (mp_arI E a5 0 6 f2), (mp_arI E a6 0 6 f3), (mp_arI E a7 0 6 f4), (mp_arI E a8 0 10 f5), (mp_arI E a9 0 10 f6), (mp_arI E a10 0 10 f7), (mp_arI E a11 0 10 f8), (mp_arI E a12 0 10 f9), (mp_arI E a13 0 10 f10), (mp_arI E a14 0 60 f11), (a15, .inl (E.2.2 4, 3, .inr (.inr (.inr (.inr f12))))), (mp_ob7 a16 y1 y2 y3 y4 y5 y6 a17 a18 a19 a20 a21 a22 a23 a24 a25 a26 a27 a28), (mp_arI E a17 0 36 g_10), (mp_arL E a18 12 g_11), (mp_arI E a19 0 6 g_12), (mp_arI E a20 0 6 g_13), (mp_arI E a21 0 6 g_14), (mp_arI E a22 0 10 g_15), (mp_arI E a23 0 10 g_16), (mp_arI E a24 0 10 g_17), (mp_arI E a25 0 10 g_18), (mp_arI E a26 0 10 g_19), (mp_arI E a27 0 10 g_20), (mp_arI E a28 0 60 g_21)]) rfl rfl ⟨g_10, g_11, g_12, g_13, g_14, g_15, g_16, g_17, g_18, g_19, g_20, g_21, rfl, p_22, p_23, p_24, p_25, p_26, p_27, p_28, p_29, (by (first | exact mp_o916 u_y0 x_30 q0 | omega)), (mp_tC_cp x_31 ⟨(show y4.toInt ≤ 6 from by (first | exact u_y4 | omega)), (show y5.toInt ≤ 10 from by (first | exact u_y5 | omega)), (by (first | exact u_y6 | omega))⟩ (by first | rfl | exact mp_sc5 (by omega) (by omega) (by omega) (by omega) (by omega)) (by first | rfl | omega)), rfl⟩ (by first | exact mp_fd_ok mp_k_cX9_image_ok (by decide +kernel) | decide +kernel)
set_option maxHeartbeats 4000000 in
set_option maxRecDepth 100000 in
theorem bX9_image_194 (E : mp_E) (a0 a1 a2 a3 a4 a5 a6 a7 a8 a9 a10 a11 a12 a13 a14 a15 a16 a17 a18 a19 a20 a21 a22 a23 a24 a25 a26 a27 a28 : Nat) (f0 : Nat → Int32) (f1 : Nat → Int64) (f2 : Nat → Int32) (f3 : Nat → Int32) (f4 : Nat → Int32) (f5 : Nat → Int32) (f6 : Nat → Int32) (f7 : Nat → Int32) (f8 : Nat → Int32) (f9 : Nat → Int32) (f10 : Nat → Int32) (f11 : Nat → Int32) (f12 : Nat → Option Nat) (o13 : Option Nat) (o14 : Option Nat) (y0 : Int32) (y1 : Int32) (y2 : Int32) (y3 : Int32) (y4 : Int32) (y5 : Int32) (y6 : Int32) (p0 : mp_all f0 36 0 20) (p1 : mp_all f2 6 0 5) (p2 : mp_all f5 10 0 5) (p3 : mp_all f6 10 0 5) (p4 : mp_all f8 10 0 99) (p5 : mp_all f9 10 0 1) (p6 : mp_all f10 10 (-1) 9) (p7 : mp_acts f11) (p8 : f12 0 = o13) (p9 : f12 1 = o14) (p10 : f12 2 = none) (l_y0 : 0 ≤ y0.toInt) (u_y0 : y0.toInt ≤ 99) (l_y2 : 0 ≤ y2.toInt) (u_y2 : y2.toInt ≤ 6) (l_y3 : 0 ≤ y3.toInt) (u_y3 : y3.toInt ≤ 99) (l_y4 : 0 ≤ y4.toInt) (u_y4 : y4.toInt ≤ 6) (l_y5 : 0 ≤ y5.toInt) (u_y5 : y5.toInt ≤ 10) (l_y6 : 0 ≤ y6.toInt) (u_y6 : y6.toInt ≤ 60) (q0 : y0.toInt = y3.toInt + mp_k200 f11 y6.toInt) : mp_Ct E yX9_image cX9_image 2 (some FieldType.int) 2 13 204 39 [.ref a0, .int 2] [(mp_ob9 a0 a16 a1 a15 a17 a18 a19 a20 a21 a22), (mp_ob0 a1 a2 y0 a23 a24 a25 a26 a27 a28), (mp_ob7 a2 y1 y2 y3 y4 y5 y6 a3 a4 a5 a6 a7 a8 a9 a10 a11 a12 a13 a14), (mp_arI E a3 0 36 f0), (mp_arL E a4 12 f1), (mp_arI E a5 0 6 f2), (mp_arI E a6 0 6 f3), (mp_arI E a7 0 6 f4), (mp_arI E a8 0 10 f5), (mp_arI E a9 0 10 f6), (mp_arI E a10 0 10 f7), (mp_arI E a11 0 10 f8), (mp_arI E a12 0 10 f9), (mp_arI E a13 0 10 f10), (mp_arI E a14 0 60 f11), (a15, .inl (E.2.2 4, 3, .inr (.inr (.inr (.inr f12)))))] (fun v w' => ∃ h1 : Nat → Option Nat, ∃ q2 : Nat, ∃ q3 : Nat, ∃ q4 : Nat, ∃ q5 : Nat, ∃ q6 : Nat, ∃ q7 : Nat, ∃ q8 : Nat, ∃ q9 : Nat, ∃ q10 : Nat, ∃ q11 : Nat, ∃ q12 : Nat, ∃ q13 : Nat, ∃ q14 : Nat, ∃ h15 : Nat → Int32, ∃ h16 : Nat → Int64, ∃ h17 : Nat → Int32, ∃ h18 : Nat → Int32, ∃ h19 : Nat → Int32, ∃ h20 : Nat → Int32, ∃ h21 : Nat → Int32, ∃ h22 : Nat → Int32, ∃ h23 : Nat → Int32, ∃ h24 : Nat → Int32, ∃ h25 : Nat → Int32, ∃ h26 : Nat → Int32, v = some (.int 0) ∧ mp_all h15 36 0 20 ∧ mp_all h17 6 0 5 ∧ mp_all h20 10 0 5 ∧ mp_all h21 10 0 5 ∧ mp_all h23 10 0 99 ∧ mp_all h24 10 0 1 ∧ mp_all h25 10 (-1) 9 ∧ mp_acts h26 ∧ h1 0 = o13 ∧ h1 1 = o14 ∧ h1 2 = some q2 ∧ (y3.toInt + mp_k200 h26 y6.toInt ≤ 99) ∧ (mp_RT (mp_tC (y2.toInt, y3.toInt, y4.toInt, y5.toInt, y1.toInt) y6.toInt (f0, f1, f2, f3, f4, f5, f6, f7, f8, f9, f10, f11)) (mp_tC (y2.toInt, y3.toInt, y4.toInt, y5.toInt, y1.toInt) y6.toInt (h15, h16, h17, h18, h19, h20, h21, h22, h23, h24, h25, h26))) ∧ w' = [(mp_ob9 a0 a16 a1 a15 a17 a18 a19 a20 a21 a22), (mp_ob0 a1 a2 y0 a23 a24 a25 a26 a27 a28), (mp_ob7 a2 y1 y2 y3 y4 y5 y6 a3 a4 a5 a6 a7 a8 a9 a10 a11 a12 a13 a14), (mp_arI E a3 0 36 f0), (mp_arL E a4 12 f1), (mp_arI E a5 0 6 f2), (mp_arI E a6 0 6 f3), (mp_arI E a7 0 6 f4), (mp_arI E a8 0 10 f5), (mp_arI E a9 0 10 f6), (mp_arI E a10 0 10 f7), (mp_arI E a11 0 10 f8), (mp_arI E a12 0 10 f9), (mp_arI E a13 0 10 f10), (mp_arI E a14 0 60 f11), (a15, .inl (E.2.2 4, 3, .inr (.inr (.inr (.inr h1))))), (mp_ob7 q2 y1 y2 y3 y4 y5 y6 q3 q4 q5 q6 q7 q8 q9 q10 q11 q12 q13 q14), (mp_arI E q3 0 36 h15), (mp_arL E q4 12 h16), (mp_arI E q5 0 6 h17), (mp_arI E q6 0 6 h18), (mp_arI E q7 0 6 h19), (mp_arI E q8 0 10 h20), (mp_arI E q9 0 10 h21), (mp_arI E q10 0 10 h22), (mp_arI E q11 0 10 h23), (mp_arI E q12 0 10 h24), (mp_arI E q13 0 10 h25), (mp_arI E q14 0 60 h26)]) := by
  refine mp_met false (by decide) (by decide) (Nat.le_of_ble_eq_true rfl) (fun X hF hQ => ?_)
  have hF : mp_F E X (RX9, cX9_image, 2, (2, 13, 204, 39), (some FieldType.int), false) := hF
  let w1_ : va_W := [(mp_ob9 a0 a16 a1 a15 a17 a18 a19 a20 a21 a22), (mp_ob0 a1 a2 y0 a23 a24 a25 a26 a27 a28), (mp_ob7 a2 y1 y2 y3 y4 y5 y6 a3 a4 a5 a6 a7 a8 a9 a10 a11 a12 a13 a14), (mp_arI E a3 0 36 f0), (mp_arL E a4 12 f1), (mp_arI E a5 0 6 f2), (mp_arI E a6 0 6 f3), (mp_arI E a7 0 6 f4), (mp_arI E a8 0 10 f5), (mp_arI E a9 0 10 f6), (mp_arI E a10 0 10 f7), (mp_arI E a11 0 10 f8), (mp_arI E a12 0 10 f9), (mp_arI E a13 0 10 f10), (mp_arI E a14 0 60 f11), (a15, .inl (E.2.2 4, 3, .inr (.inr (.inr (.inr f12)))))]
  show mp_W E X 2 0 [(0, .ref a0), (1, .int 2)] [] w1_ 0 0
  refine mp_run mp_k_cX9_image_ok hF mp_tabX9_ok [mp_i (.iload_n 1), mp_h (.ifCond .lt 8) [9]] (by decide +kernel) ?_
  refine And.intro (fun c_1 => absurd c_1 (by decide)) (fun _ => ?_)
  show mp_W E X 2 4 [(0, .ref a0), (1, .int 2)] [] w1_ 0 0
  refine mp_run mp_k_cX9_image_ok hF mp_tabX9_ok [mp_i (.iload_n 1), mp_c (.iconst 3) 3, mp_h (.if_icmp .lt 6) [12]] (by decide +kernel) ?_
  refine And.intro (fun _ => ?_) (fun c_2 => absurd c_2 (by decide))
  show mp_W E X 2 12 [(0, .ref a0), (1, .int 2)] [] w1_ 0 0
  refine mp_run mp_k_cX9_image_ok hF mp_tabX9_ok [mp_i (.aload_n 0), mp_h (.getfield 25) [38, 0], mp_i (.iload_n 1), mp_h .aaload [15]] (by decide +kernel) ?_
  refine And.intro rfl (And.intro rfl ?_)
  refine And.intro rfl (And.intro rfl (And.intro (vp_in_iff.mpr (by decide)) ?_))
  intro z_3 h_4
  obtain rfl : z_3 = none := mp_at h_4 (by decide) p10
  show mp_W E X 2 18 [(0, .ref a0), (1, .int 2)] [.null] w1_ 0 0
  refine mp_ifnn_f hF (off := 16) (by first | exact mp_fd_ok mp_k_cX9_image_ok (by decide +kernel) | decide +kernel) ?_
  show mp_W E X 2 21 [(0, .ref a0), (1, .int 2)] [] w1_ 0 0
  refine mp_run mp_k_cX9_image_ok hF mp_tabX9_ok [mp_i (.aload_n 0), mp_h (.getfield 25) [38, 0], mp_i (.iload_n 1)] (by decide +kernel) ?_
  refine And.intro rfl (And.intro rfl ?_)
  show mp_W E X 2 26 [(0, .ref a0), (1, .int 2)] [.int 2, .ref a15] w1_ 0 0
  refine mp_new hF (mp_lnX9_23) ⟨(Nat.le_of_ble_eq_true rfl), (Nat.le_of_ble_eq_true rfl)⟩ (by first | exact mp_fd_ok mp_k_cX9_image_ok (by decide +kernel) | decide +kernel) (fun q_5 => ?_)
  let w2_ : va_W := [(mp_ob9 a0 a16 a1 a15 a17 a18 a19 a20 a21 a22), (mp_ob0 a1 a2 y0 a23 a24 a25 a26 a27 a28), (mp_ob7 a2 y1 y2 y3 y4 y5 y6 a3 a4 a5 a6 a7 a8 a9 a10 a11 a12 a13 a14), (mp_arI E a3 0 36 f0), (mp_arL E a4 12 f1), (mp_arI E a5 0 6 f2), (mp_arI E a6 0 6 f3), (mp_arI E a7 0 6 f4), (mp_arI E a8 0 10 f5), (mp_arI E a9 0 10 f6), (mp_arI E a10 0 10 f7), (mp_arI E a11 0 10 f8), (mp_arI E a12 0 10 f9), (mp_arI E a13 0 10 f10), (mp_arI E a14 0 60 f11), (a15, .inl (E.2.2 4, 3, .inr (.inr (.inr (.inr f12))))), (q_5, .inr (7, [.int 0, .int 0, .int 0, .int 0, .int 0, .int 0, .null, .null, .null, .null, .null, .null, .null, .null, .null, .null, .null, .null]))]
  show mp_W E X 2 29 [(0, .ref a0), (1, .int 2)] [.ref q_5, .int 2, .ref a15] w2_ 1 18
  refine mp_run mp_k_cX9_image_ok hF mp_tabX9_ok [mp_i .dup] (by decide +kernel) ?_
  refine And.intro rfl ?_
  show mp_W E X 2 30 [(0, .ref a0), (1, .int 2)] [.ref q_5, .ref q_5, .int 2, .ref a15] w2_ 1 18
  refine mp_callIN hF (As := []) (rest := [.ref q_5, .int 2, .ref a15]) (wr := w1_) (bX7_init_189 E q_5 0 0 0 0 0 0 (by decide) (by decide) (by decide) (by decide) (by decide) (by decide) (by decide) (by decide) (by decide) (by decide)) rfl (mp_gm (j := 1038) (by decide +kernel)) mp_lkX9_350 [16] [0, 1, 2, 3, 4, 5, 6, 7, 8, 9, 10, 11, 12, 13, 14, 15] rfl rfl rfl rfl rfl ⟨(Nat.le_of_ble_eq_true rfl), (Nat.le_of_ble_eq_true rfl), (Nat.le_of_ble_eq_true rfl), (Nat.le_of_ble_eq_true rfl)⟩ (Nat.le_of_ble_eq_true rfl) (by first | exact mp_fd_ok mp_k_cX9_image_ok (by decide +kernel) | decide +kernel) (fun v_6 w_7 h_8 => ?_)
  refine h_8.elim fun g_9 q_21 => q_21.elim fun g_10 q_22 => q_22.elim fun g_11 q_23 => q_23.elim fun g_12 q_24 => q_24.elim fun g_13 q_25 => q_25.elim fun g_14 q_26 => q_26.elim fun g_15 q_27 => q_27.elim fun g_16 q_28 => q_28.elim fun g_17 q_29 => q_29.elim fun g_18 q_30 => q_30.elim fun g_19 q_31 => q_31.elim fun g_20 q_32 => q_32.elim fun e_33 e_34 => ?_
  clear h_8 q_21 q_22 q_23 q_24 q_25 q_26 q_27 q_28 q_29 q_30 q_31 q_32
  subst e_33
  subst e_34
  let w3_ : va_W := [(mp_ob9 a0 a16 a1 a15 a17 a18 a19 a20 a21 a22), (mp_ob0 a1 a2 y0 a23 a24 a25 a26 a27 a28), (mp_ob7 a2 y1 y2 y3 y4 y5 y6 a3 a4 a5 a6 a7 a8 a9 a10 a11 a12 a13 a14), (mp_arI E a3 0 36 f0), (mp_arL E a4 12 f1), (mp_arI E a5 0 6 f2), (mp_arI E a6 0 6 f3), (mp_arI E a7 0 6 f4), (mp_arI E a8 0 10 f5), (mp_arI E a9 0 10 f6), (mp_arI E a10 0 10 f7), (mp_arI E a11 0 10 f8), (mp_arI E a12 0 10 f9), (mp_arI E a13 0 10 f10), (mp_arI E a14 0 60 f11), (a15, .inl (E.2.2 4, 3, .inr (.inr (.inr (.inr f12))))), (mp_ob7 q_5 0 0 0 0 0 0 g_9 g_10 g_11 g_12 g_13 g_14 g_15 g_16 g_17 g_18 g_19 g_20), (mp_arI E g_9 0 36 (fun _ => 0)), (mp_arL E g_10 12 (fun _ => 0)), (mp_arI E g_11 0 6 (fun _ => 0)), (mp_arI E g_12 0 6 (fun _ => 0)), (mp_arI E g_13 0 6 (fun _ => 0)), (mp_arI E g_14 0 10 (fun _ => 0)), (mp_arI E g_15 0 10 (fun _ => 0)), (mp_arI E g_16 0 10 (fun _ => 0)), (mp_arI E g_17 0 10 (fun _ => 0)), (mp_arI E g_18 0 10 (fun _ => 0)), (mp_arI E g_19 0 10 (fun _ => 0)), (mp_arI E g_20 0 60 (fun _ => 0))]
  show mp_W E X 2 33 [(0, .ref a0), (1, .int 2)] [.ref q_5, .int 2, .ref a15] w3_ 13 204
  refine mp_astq hF 15 16 rfl rfl (vp_in_iff.mpr (by decide)) (by first | exact mp_fd_ok mp_k_cX9_image_ok (by decide +kernel) | decide +kernel) (fun g_35 h_36 => ?_)
  have k_37 : g_35 2 = (some q_5) := mp_updqs h_36 (by decide)
  have k_38 : g_35 0 = o13 := mp_updqo h_36 p8 (by decide)
  have k_39 : g_35 1 = o14 := mp_updqo h_36 p9 (by decide)
  let w4_ : va_W := [(mp_ob9 a0 a16 a1 a15 a17 a18 a19 a20 a21 a22), (mp_ob0 a1 a2 y0 a23 a24 a25 a26 a27 a28), (mp_ob7 a2 y1 y2 y3 y4 y5 y6 a3 a4 a5 a6 a7 a8 a9 a10 a11 a12 a13 a14), (mp_arI E a3 0 36 f0), (mp_arL E a4 12 f1), (mp_arI E a5 0 6 f2), (mp_arI E a6 0 6 f3), (mp_arI E a7 0 6 f4), (mp_arI E a8 0 10 f5), (mp_arI E a9 0 10 f6), (mp_arI E a10 0 10 f7), (mp_arI E a11 0 10 f8), (mp_arI E a12 0 10 f9), (mp_arI E a13 0 10 f10), (mp_arI E a14 0 60 f11), (a15, .inl (E.2.2 4, 3, .inr (.inr (.inr (.inr g_35))))), (mp_ob7 q_5 0 0 0 0 0 0 g_9 g_10 g_11 g_12 g_13 g_14 g_15 g_16 g_17 g_18 g_19 g_20), (mp_arI E g_9 0 36 (fun _ => 0)), (mp_arL E g_10 12 (fun _ => 0)), (mp_arI E g_11 0 6 (fun _ => 0)), (mp_arI E g_12 0 6 (fun _ => 0)), (mp_arI E g_13 0 6 (fun _ => 0)), (mp_arI E g_14 0 10 (fun _ => 0)), (mp_arI E g_15 0 10 (fun _ => 0)), (mp_arI E g_16 0 10 (fun _ => 0)), (mp_arI E g_17 0 10 (fun _ => 0)), (mp_arI E g_18 0 10 (fun _ => 0)), (mp_arI E g_19 0 10 (fun _ => 0)), (mp_arI E g_20 0 60 (fun _ => 0))]
  show mp_W E X 2 34 [(0, .ref a0), (1, .int 2)] [] w4_ 13 204
  refine mp_run mp_k_cX9_image_ok hF mp_tabX9_ok [mp_i (.aload_n 0), mp_h (.getfield 25) [38, 0], mp_i (.iload_n 1), mp_h .aaload [15], mp_i (.aload_n 0), mp_h (.getfield 19) [37, 0], mp_h (.getfield 83) [20, 1]] (by decide +kernel) ?_
  refine And.intro rfl (And.intro rfl ?_)
  refine And.intro rfl (And.intro rfl (And.intro (vp_in_iff.mpr (by decide)) ?_))
  intro z_40 h_41
  obtain rfl : z_40 = (some q_5) := mp_at h_41 (by decide) k_37
  refine And.intro rfl (And.intro rfl ?_)
  refine And.intro rfl (And.intro rfl ?_)
  show mp_W E X 2 47 [(0, .ref a0), (1, .int 2)] [.ref a2, .ref q_5] w4_ 13 204
  refine mp_callV hF (As := [.ref a2]) (rest := []) (wr := [(mp_ob9 a0 a16 a1 a15 a17 a18 a19 a20 a21 a22), (mp_ob0 a1 a2 y0 a23 a24 a25 a26 a27 a28), (a15, .inl (E.2.2 4, 3, .inr (.inr (.inr (.inr g_35)))))]) (bX7_copyFrom_44 E q_5 a2 g_9 g_10 g_11 g_12 g_13 g_14 g_15 g_16 g_17 g_18 g_19 g_20 a3 a4 a5 a6 a7 a8 a9 a10 a11 a12 a13 a14 (fun _ => 0) (fun _ => 0) (fun _ => 0) (fun _ => 0) (fun _ => 0) (fun _ => 0) (fun _ => 0) (fun _ => 0) (fun _ => 0) (fun _ => 0) (fun _ => 0) (fun _ => 0) f0 f1 f2 f3 f4 f5 f6 f7 f8 f9 f10 f11 0 0 0 0 0 0 y1 y2 y3 y4 y5 y6 (mp_all_z (by decide)) (mp_all_z (by decide)) (mp_all_z (by decide)) (mp_all_z (by decide)) (mp_all_z (by decide)) (mp_all_z (by decide)) (mp_all_z (by decide)) (mp_acts_z) p0 p1 p2 p3 p4 p5 p6 p7 (by decide) (by decide) (by decide) (by decide) (by decide) (by decide) (by decide) (by decide) (by decide) (by decide) l_y2 u_y2 l_y3 u_y3 l_y4 u_y4 l_y5 u_y5 l_y6 u_y6) mp_lkX9_90 16 rfl [16, 17, 18, 19, 20, 21, 22, 23, 24, 25, 26, 27, 28, 2, 3, 4, 5, 6, 7, 8, 9, 10, 11, 12, 13, 14] [0, 1, 15] rfl rfl rfl rfl rfl ⟨(Nat.le_of_ble_eq_true rfl), (Nat.le_of_ble_eq_true rfl), (Nat.le_of_ble_eq_true rfl), (Nat.le_of_ble_eq_true rfl)⟩ (Nat.le_of_ble_eq_true rfl) (by first | exact mp_fd_ok mp_k_cX9_image_ok (by decide +kernel) | decide +kernel) (fun v_42 w_43 h_44 => ?_)
  refine h_44.elim fun g_45 q_67 => q_67.elim fun g_46 q_68 => q_68.elim fun g_47 q_69 => q_69.elim fun g_48 q_70 => q_70.elim fun g_49 q_71 => q_71.elim fun g_50 q_72 => q_72.elim fun g_51 q_73 => q_73.elim fun g_52 q_74 => q_74.elim fun g_53 q_75 => q_75.elim fun g_54 q_76 => q_76.elim fun g_55 q_77 => q_77.elim fun g_56 q_78 => q_78.elim fun e_79 q_80 => q_80.elim fun p_57 q_81 => q_81.elim fun p_58 q_82 => q_82.elim fun p_59 q_83 => q_83.elim fun p_60 q_84 => q_84.elim fun p_61 q_85 => q_85.elim fun p_62 q_86 => q_86.elim fun p_63 q_87 => q_87.elim fun p_64 q_88 => q_88.elim fun x_65 q_89 => q_89.elim fun x_66 e_90 => ?_
  clear h_44 q_67 q_68 q_69 q_70 q_71 q_72 q_73 q_74 q_75 q_76 q_77 q_78 q_80 q_81 q_82 q_83 q_84 q_85 q_86 q_87 q_88 q_89
  subst e_79
  subst e_90
  let w5_ : va_W := [(mp_ob9 a0 a16 a1 a15 a17 a18 a19 a20 a21 a22), (mp_ob0 a1 a2 y0 a23 a24 a25 a26 a27 a28), (a15, .inl (E.2.2 4, 3, .inr (.inr (.inr (.inr g_35))))), (mp_ob7 q_5 y1 y2 y3 y4 y5 y6 g_9 g_10 g_11 g_12 g_13 g_14 g_15 g_16 g_17 g_18 g_19 g_20), (mp_arI E g_9 0 36 g_45), (mp_arL E g_10 12 g_46), (mp_arI E g_11 0 6 g_47), (mp_arI E g_12 0 6 g_48), (mp_arI E g_13 0 6 g_49), (mp_arI E g_14 0 10 g_50), (mp_arI E g_15 0 10 g_51), (mp_arI E g_16 0 10 g_52), (mp_arI E g_17 0 10 g_53), (mp_arI E g_18 0 10 g_54), (mp_arI E g_19 0 10 g_55), (mp_arI E g_20 0 60 g_56), (mp_ob7 a2 y1 y2 y3 y4 y5 y6 a3 a4 a5 a6 a7 a8 a9 a10 a11 a12 a13 a14), (mp_arI E a3 0 36 f0), (mp_arL E a4 12 f1), (mp_arI E a5 0 6 f2), (mp_arI E a6 0 6 f3), (mp_arI E a7 0 6 f4), (mp_arI E a8 0 10 f5), (mp_arI E a9 0 10 f6), (mp_arI E a10 0 10 f7), (mp_arI E a11 0 10 f8), (mp_arI E a12 0 10 f9), (mp_arI E a13 0 10 f10), (mp_arI E a14 0 60 f11)]
  show mp_W E X 2 50 [(0, .ref a0), (1, .int 2)] [] w5_ 13 204
  refine mp_run mp_k_cX9_image_ok hF mp_tabX9_ok [mp_c (.iconst 0) 0] (by decide +kernel) ?_
  show mp_W E X 2 51 [(0, .ref a0), (1, .int 2)] [.int 0] w5_ 13 204
  exact mp_iret hF hQ rfl rfl (Nat.le_of_ble_eq_true rfl) (Nat.le_of_ble_eq_true rfl) [0, 1, 16, 17, 18, 19, 20, 21, 22, 23, 24, 25, 26, 27, 28, 2, 3, 4, 5, 6, 7, 8, 9, 10, 11, 12, 13, 14, 15] (w' := [(mp_ob9 a0 a16 a1 a15 a17 a18 a19 a20 a21 a22), (mp_ob0 a1 a2 y0 a23 a24 a25 a26 a27 a28), (mp_ob7 a2 y1 y2 y3 y4 y5 y6 a3 a4 a5 a6 a7 a8 a9 a10 a11 a12 a13 a14), (mp_arI E a3 0 36 f0), (mp_arL E a4 12 f1), (mp_arI E a5 0 6 f2), (mp_arI E a6 0 6 f3), (mp_arI E a7 0 6 f4), (mp_arI E a8 0 10 f5), (mp_arI E a9 0 10 f6), (mp_arI E a10 0 10 f7), (mp_arI E a11 0 10 f8), (mp_arI E a12 0 10 f9), (mp_arI E a13 0 10 f10), (mp_arI E a14 0 60 f11), (a15, .inl (E.2.2 4, 3, .inr (.inr (.inr (.inr g_35))))), (mp_ob7 q_5 y1 y2 y3 y4 y5 y6 g_9 g_10 g_11 g_12 g_13 g_14 g_15 g_16 g_17 g_18 g_19 g_20), (mp_arI E g_9 0 36 g_45), (mp_arL E g_10 12 g_46), (mp_arI E g_11 0 6 g_47), (mp_arI E g_12 0 6 g_48), (mp_arI E g_13 0 6 g_49), (mp_arI E g_14 0 10 g_50), (mp_arI E g_15 0 10 g_51), (mp_arI E g_16 0 10 g_52), (mp_arI E g_17 0 10 g_53), (mp_arI E g_18 0 10 g_54), (mp_arI E g_19 0 10 g_55), (mp_arI E g_20 0 60 g_56)]) rfl rfl ⟨g_35, q_5, g_9, g_10, g_11, g_12, g_13, g_14, g_15, g_16, g_17, g_18, g_19, g_20, g_45, g_46, g_47, g_48, g_49, g_50, g_51, g_52, g_53, g_54, g_55, g_56, rfl, p_57, p_58, p_59, p_60, p_61, p_62, p_63, p_64, k_38, k_39, k_37, (by (first | exact mp_o916 u_y0 x_65 q0 | omega)), (mp_tC_cp x_66 ⟨(show y4.toInt ≤ 6 from by (first | exact u_y4 | omega)), (show y5.toInt ≤ 10 from by (first | exact u_y5 | omega)), (by (first | exact u_y6 | omega))⟩ (by first | rfl | exact mp_sc5 (by omega) (by omega) (by omega) (by omega) (by omega)) (by first | rfl | omega)), rfl⟩ (by first | exact mp_fd_ok mp_k_cX9_image_ok (by decide +kernel) | decide +kernel)
set_option maxHeartbeats 4000000 in
set_option maxRecDepth 100000 in
theorem bX9_image_195 (E : mp_E) (a0 a1 a2 a3 a4 a5 a6 a7 a8 a9 a10 a11 a12 a13 a14 a15 a16 a17 a18 a19 a20 a21 a22 a23 a24 a25 a26 a27 a28 a29 a30 a31 a32 a33 a34 a35 a36 a37 a38 a39 a40 a41 : Nat) (f0 : Nat → Int32) (f1 : Nat → Int64) (f2 : Nat → Int32) (f3 : Nat → Int32) (f4 : Nat → Int32) (f5 : Nat → Int32) (f6 : Nat → Int32) (f7 : Nat → Int32) (f8 : Nat → Int32) (f9 : Nat → Int32) (f10 : Nat → Int32) (f11 : Nat → Int32) (f12 : Nat → Option Nat) (o13 : Option Nat) (o14 : Option Nat) (f15 : Nat → Int32) (f16 : Nat → Int64) (f17 : Nat → Int32) (f18 : Nat → Int32) (f19 : Nat → Int32) (f20 : Nat → Int32) (f21 : Nat → Int32) (f22 : Nat → Int32) (f23 : Nat → Int32) (f24 : Nat → Int32) (f25 : Nat → Int32) (f26 : Nat → Int32) (y0 : Int32) (y1 : Int32) (y2 : Int32) (y3 : Int32) (y4 : Int32) (y5 : Int32) (y6 : Int32) (y7 : Int32) (y8 : Int32) (y9 : Int32) (y10 : Int32) (y11 : Int32) (y12 : Int32) (p0 : mp_all f0 36 0 20) (p1 : mp_all f2 6 0 5) (p2 : mp_all f5 10 0 5) (p3 : mp_all f6 10 0 5) (p4 : mp_all f8 10 0 99) (p5 : mp_all f9 10 0 1) (p6 : mp_all f10 10 (-1) 9) (p7 : mp_acts f11) (p8 : f12 0 = o13) (p9 : f12 1 = o14) (p10 : f12 2 = some a16) (p11 : mp_all f15 36 0 20) (p12 : mp_all f17 6 0 5) (p13 : mp_all f20 10 0 5) (p14 : mp_all f21 10 0 5) (p15 : mp_all f23 10 0 99) (p16 : mp_all f24 10 0 1) (p17 : mp_all f25 10 (-1) 9) (p18 : mp_acts f26) (l_y0 : 0 ≤ y0.toInt) (u_y0 : y0.toInt ≤ 99) (l_y2 : 0 ≤ y2.toInt) (u_y2 : y2.toInt ≤ 6) (l_y3 : 0 ≤ y3.toInt) (u_y3 : y3.toInt ≤ 99) (l_y4 : 0 ≤ y4.toInt) (u_y4 : y4.toInt ≤ 6) (l_y5 : 0 ≤ y5.toInt) (u_y5 : y5.toInt ≤ 10) (l_y6 : 0 ≤ y6.toInt) (u_y6 : y6.toInt ≤ 60) (l_y8 : 0 ≤ y8.toInt) (u_y8 : y8.toInt ≤ 6) (l_y9 : 0 ≤ y9.toInt) (u_y9 : y9.toInt ≤ 99) (l_y10 : 0 ≤ y10.toInt) (u_y10 : y10.toInt ≤ 6) (l_y11 : 0 ≤ y11.toInt) (u_y11 : y11.toInt ≤ 10) (l_y12 : 0 ≤ y12.toInt) (u_y12 : y12.toInt ≤ 60) (q0 : y0.toInt = y3.toInt + mp_k200 f11 y6.toInt) : mp_Ct E yX9_image cX9_image 2 (some FieldType.int) 2 0 0 39 [.ref a0, .int 2] [(mp_ob9 a0 a29 a1 a15 a30 a31 a32 a33 a34 a35), (mp_ob0 a1 a2 y0 a36 a37 a38 a39 a40 a41), (mp_ob7 a2 y1 y2 y3 y4 y5 y6 a3 a4 a5 a6 a7 a8 a9 a10 a11 a12 a13 a14), (mp_arI E a3 0 36 f0), (mp_arL E a4 12 f1), (mp_arI E a5 0 6 f2), (mp_arI E a6 0 6 f3), (mp_arI E a7 0 6 f4), (mp_arI E a8 0 10 f5), (mp_arI E a9 0 10 f6), (mp_arI E a10 0 10 f7), (mp_arI E a11 0 10 f8), (mp_arI E a12 0 10 f9), (mp_arI E a13 0 10 f10), (mp_arI E a14 0 60 f11), (a15, .inl (E.2.2 4, 3, .inr (.inr (.inr (.inr f12))))), (mp_ob7 a16 y7 y8 y9 y10 y11 y12 a17 a18 a19 a20 a21 a22 a23 a24 a25 a26 a27 a28), (mp_arI E a17 0 36 f15), (mp_arL E a18 12 f16), (mp_arI E a19 0 6 f17), (mp_arI E a20 0 6 f18), (mp_arI E a21 0 6 f19), (mp_arI E a22 0 10 f20), (mp_arI E a23 0 10 f21), (mp_arI E a24 0 10 f22), (mp_arI E a25 0 10 f23), (mp_arI E a26 0 10 f24), (mp_arI E a27 0 10 f25), (mp_arI E a28 0 60 f26)] (fun v w' => ∃ h1 : Nat → Int32, ∃ h2 : Nat → Int64, ∃ h3 : Nat → Int32, ∃ h4 : Nat → Int32, ∃ h5 : Nat → Int32, ∃ h6 : Nat → Int32, ∃ h7 : Nat → Int32, ∃ h8 : Nat → Int32, ∃ h9 : Nat → Int32, ∃ h10 : Nat → Int32, ∃ h11 : Nat → Int32, ∃ h12 : Nat → Int32, v = some (.int 0) ∧ mp_all h1 36 0 20 ∧ mp_all h3 6 0 5 ∧ mp_all h6 10 0 5 ∧ mp_all h7 10 0 5 ∧ mp_all h9 10 0 99 ∧ mp_all h10 10 0 1 ∧ mp_all h11 10 (-1) 9 ∧ mp_acts h12 ∧ (y3.toInt + mp_k200 h12 y6.toInt ≤ 99) ∧ (mp_RT (mp_tC (y2.toInt, y3.toInt, y4.toInt, y5.toInt, y1.toInt) y6.toInt (f0, f1, f2, f3, f4, f5, f6, f7, f8, f9, f10, f11)) (mp_tC (y2.toInt, y3.toInt, y4.toInt, y5.toInt, y1.toInt) y6.toInt (h1, h2, h3, h4, h5, h6, h7, h8, h9, h10, h11, h12))) ∧ w' = [(mp_ob9 a0 a29 a1 a15 a30 a31 a32 a33 a34 a35), (mp_ob0 a1 a2 y0 a36 a37 a38 a39 a40 a41), (mp_ob7 a2 y1 y2 y3 y4 y5 y6 a3 a4 a5 a6 a7 a8 a9 a10 a11 a12 a13 a14), (mp_arI E a3 0 36 f0), (mp_arL E a4 12 f1), (mp_arI E a5 0 6 f2), (mp_arI E a6 0 6 f3), (mp_arI E a7 0 6 f4), (mp_arI E a8 0 10 f5), (mp_arI E a9 0 10 f6), (mp_arI E a10 0 10 f7), (mp_arI E a11 0 10 f8), (mp_arI E a12 0 10 f9), (mp_arI E a13 0 10 f10), (mp_arI E a14 0 60 f11), (a15, .inl (E.2.2 4, 3, .inr (.inr (.inr (.inr f12))))), (mp_ob7 a16 y1 y2 y3 y4 y5 y6 a17 a18 a19 a20 a21 a22 a23 a24 a25 a26 a27 a28), (mp_arI E a17 0 36 h1), (mp_arL E a18 12 h2), (mp_arI E a19 0 6 h3), (mp_arI E a20 0 6 h4), (mp_arI E a21 0 6 h5), (mp_arI E a22 0 10 h6), (mp_arI E a23 0 10 h7), (mp_arI E a24 0 10 h8), (mp_arI E a25 0 10 h9), (mp_arI E a26 0 10 h10), (mp_arI E a27 0 10 h11), (mp_arI E a28 0 60 h12)]) := by
  refine mp_met false (by decide) (by decide) (Nat.le_of_ble_eq_true rfl) (fun X hF hQ => ?_)
  have hF : mp_F E X (RX9, cX9_image, 2, (2, 0, 0, 39), (some FieldType.int), false) := hF
  let w1_ : va_W := [(mp_ob9 a0 a29 a1 a15 a30 a31 a32 a33 a34 a35), (mp_ob0 a1 a2 y0 a36 a37 a38 a39 a40 a41), (mp_ob7 a2 y1 y2 y3 y4 y5 y6 a3 a4 a5 a6 a7 a8 a9 a10 a11 a12 a13 a14), (mp_arI E a3 0 36 f0), (mp_arL E a4 12 f1), (mp_arI E a5 0 6 f2), (mp_arI E a6 0 6 f3), (mp_arI E a7 0 6 f4), (mp_arI E a8 0 10 f5), (mp_arI E a9 0 10 f6), (mp_arI E a10 0 10 f7), (mp_arI E a11 0 10 f8), (mp_arI E a12 0 10 f9), (mp_arI E a13 0 10 f10), (mp_arI E a14 0 60 f11), (a15, .inl (E.2.2 4, 3, .inr (.inr (.inr (.inr f12))))), (mp_ob7 a16 y7 y8 y9 y10 y11 y12 a17 a18 a19 a20 a21 a22 a23 a24 a25 a26 a27 a28), (mp_arI E a17 0 36 f15), (mp_arL E a18 12 f16), (mp_arI E a19 0 6 f17), (mp_arI E a20 0 6 f18), (mp_arI E a21 0 6 f19), (mp_arI E a22 0 10 f20), (mp_arI E a23 0 10 f21), (mp_arI E a24 0 10 f22), (mp_arI E a25 0 10 f23), (mp_arI E a26 0 10 f24), (mp_arI E a27 0 10 f25), (mp_arI E a28 0 60 f26)]
  show mp_W E X 2 0 [(0, .ref a0), (1, .int 2)] [] w1_ 0 0
  refine mp_run mp_k_cX9_image_ok hF mp_tabX9_ok [mp_i (.iload_n 1), mp_h (.ifCond .lt 8) [9]] (by decide +kernel) ?_
  refine And.intro (fun c_1 => absurd c_1 (by decide)) (fun _ => ?_)
  show mp_W E X 2 4 [(0, .ref a0), (1, .int 2)] [] w1_ 0 0
  refine mp_run mp_k_cX9_image_ok hF mp_tabX9_ok [mp_i (.iload_n 1), mp_c (.iconst 3) 3, mp_h (.if_icmp .lt 6) [12]] (by decide +kernel) ?_
  refine And.intro (fun _ => ?_) (fun c_2 => absurd c_2 (by decide))
  show mp_W E X 2 12 [(0, .ref a0), (1, .int 2)] [] w1_ 0 0
  refine mp_run mp_k_cX9_image_ok hF mp_tabX9_ok [mp_i (.aload_n 0), mp_h (.getfield 25) [38, 0], mp_i (.iload_n 1), mp_h .aaload [15]] (by decide +kernel) ?_
  refine And.intro rfl (And.intro rfl ?_)
  refine And.intro rfl (And.intro rfl (And.intro (vp_in_iff.mpr (by decide)) ?_))
  intro z_3 h_4
  obtain rfl : z_3 = (some a16) := mp_at h_4 (by decide) p10
  show mp_W E X 2 18 [(0, .ref a0), (1, .int 2)] [.ref a16] w1_ 0 0
  refine mp_ifnn_t hF (off := 16) (tgt := 34) (by first | exact mp_fd_ok mp_k_cX9_image_ok (by decide +kernel) | decide +kernel) (by decide) ?_
  show mp_W E X 2 34 [(0, .ref a0), (1, .int 2)] [] w1_ 0 0
  refine mp_run mp_k_cX9_image_ok hF mp_tabX9_ok [mp_i (.aload_n 0), mp_h (.getfield 25) [38, 0], mp_i (.iload_n 1), mp_h .aaload [15], mp_i (.aload_n 0), mp_h (.getfield 19) [37, 0], mp_h (.getfield 83) [20, 1]] (by decide +kernel) ?_
  refine And.intro rfl (And.intro rfl ?_)
  refine And.intro rfl (And.intro rfl (And.intro (vp_in_iff.mpr (by decide)) ?_))
  intro z_5 h_6
  obtain rfl : z_5 = (some a16) := mp_at h_6 (by decide) p10
  refine And.intro rfl (And.intro rfl ?_)
  refine And.intro rfl (And.intro rfl ?_)
  show mp_W E X 2 47 [(0, .ref a0), (1, .int 2)] [.ref a2, .ref a16] w1_ 0 0
  refine mp_callV hF (As := [.ref a2]) (rest := []) (wr := [(mp_ob9 a0 a29 a1 a15 a30 a31 a32 a33 a34 a35), (mp_ob0 a1 a2 y0 a36 a37 a38 a39 a40 a41), (a15, .inl (E.2.2 4, 3, .inr (.inr (.inr (.inr f12)))))]) (bX7_copyFrom_44 E a16 a2 a17 a18 a19 a20 a21 a22 a23 a24 a25 a26 a27 a28 a3 a4 a5 a6 a7 a8 a9 a10 a11 a12 a13 a14 f15 f16 f17 f18 f19 f20 f21 f22 f23 f24 f25 f26 f0 f1 f2 f3 f4 f5 f6 f7 f8 f9 f10 f11 y7 y8 y9 y10 y11 y12 y1 y2 y3 y4 y5 y6 p11 p12 p13 p14 p15 p16 p17 p18 p0 p1 p2 p3 p4 p5 p6 p7 l_y8 u_y8 l_y9 u_y9 l_y10 u_y10 l_y11 u_y11 l_y12 u_y12 l_y2 u_y2 l_y3 u_y3 l_y4 u_y4 l_y5 u_y5 l_y6 u_y6) mp_lkX9_90 16 rfl [16, 17, 18, 19, 20, 21, 22, 23, 24, 25, 26, 27, 28, 2, 3, 4, 5, 6, 7, 8, 9, 10, 11, 12, 13, 14] [0, 1, 15] rfl rfl rfl rfl rfl ⟨(Nat.le_of_ble_eq_true rfl), (Nat.le_of_ble_eq_true rfl), (Nat.le_of_ble_eq_true rfl), (Nat.le_of_ble_eq_true rfl)⟩ (Nat.le_of_ble_eq_true rfl) (by first | exact mp_fd_ok mp_k_cX9_image_ok (by decide +kernel) | decide +kernel) (fun v_7 w_8 h_9 => ?_)
  refine h_9.elim fun g_10 q_32 => q_32.elim fun g_11 q_33 => q_33.elim fun g_12 q_34 => q_34.elim fun g_13 q_35 => q_35.elim fun g_14 q_36 => q_36.elim fun g_15 q_37 => q_37.elim fun g_16 q_38 => q_38.elim fun g_17 q_39 => q_39.elim fun g_18 q_40 => q_40.elim fun g_19 q_41 => q_41.elim fun g_20 q_42 => q_42.elim fun g_21 q_43 => q_43.elim fun e_44 q_45 => q_45.elim fun p_22 q_46 => q_46.elim fun p_23 q_47 => q_47.elim fun p_24 q_48 => q_48.elim fun p_25 q_49 => q_49.elim fun p_26 q_50 => q_50.elim fun p_27 q_51 => q_51.elim fun p_28 q_52 => q_52.elim fun p_29 q_53 => q_53.elim fun x_30 q_54 => q_54.elim fun x_31 e_55 => ?_
  clear h_9 q_32 q_33 q_34 q_35 q_36 q_37 q_38 q_39 q_40 q_41 q_42 q_43 q_45 q_46 q_47 q_48 q_49 q_50 q_51 q_52 q_53 q_54
  subst e_44
  subst e_55
  let w2_ : va_W := [(mp_ob9 a0 a29 a1 a15 a30 a31 a32 a33 a34 a35), (mp_ob0 a1 a2 y0 a36 a37 a38 a39 a40 a41), (a15, .inl (E.2.2 4, 3, .inr (.inr (.inr (.inr f12))))), (mp_ob7 a16 y1 y2 y3 y4 y5 y6 a17 a18 a19 a20 a21 a22 a23 a24 a25 a26 a27 a28), (mp_arI E a17 0 36 g_10), (mp_arL E a18 12 g_11), (mp_arI E a19 0 6 g_12), (mp_arI E a20 0 6 g_13), (mp_arI E a21 0 6 g_14), (mp_arI E a22 0 10 g_15), (mp_arI E a23 0 10 g_16), (mp_arI E a24 0 10 g_17), (mp_arI E a25 0 10 g_18), (mp_arI E a26 0 10 g_19), (mp_arI E a27 0 10 g_20), (mp_arI E a28 0 60 g_21), (mp_ob7 a2 y1 y2 y3 y4 y5 y6 a3 a4 a5 a6 a7 a8 a9 a10 a11 a12 a13 a14), (mp_arI E a3 0 36 f0), (mp_arL E a4 12 f1), (mp_arI E a5 0 6 f2), (mp_arI E a6 0 6 f3), (mp_arI E a7 0 6 f4), (mp_arI E a8 0 10 f5), (mp_arI E a9 0 10 f6), (mp_arI E a10 0 10 f7), (mp_arI E a11 0 10 f8), (mp_arI E a12 0 10 f9), (mp_arI E a13 0 10 f10), (mp_arI E a14 0 60 f11)]
  show mp_W E X 2 50 [(0, .ref a0), (1, .int 2)] [] w2_ 0 0
  refine mp_run mp_k_cX9_image_ok hF mp_tabX9_ok [mp_c (.iconst 0) 0] (by decide +kernel) ?_
  show mp_W E X 2 51 [(0, .ref a0), (1, .int 2)] [.int 0] w2_ 0 0
  exact mp_iret hF hQ rfl rfl (Nat.le_of_ble_eq_true rfl) (Nat.le_of_ble_eq_true rfl) [0, 1, 16, 17, 18, 19, 20, 21, 22, 23, 24, 25, 26, 27, 28, 2, 3, 4, 5, 6, 7, 8, 9, 10, 11, 12, 13, 14, 15] (w' := [(mp_ob9 a0 a29 a1 a15 a30 a31 a32 a33 a34 a35), (mp_ob0 a1 a2 y0 a36 a37 a38 a39 a40 a41), (mp_ob7 a2 y1 y2 y3 y4 y5 y6 a3 a4 a5 a6 a7 a8 a9 a10 a11 a12 a13 a14), (mp_arI E a3 0 36 f0), (mp_arL E a4 12 f1), (mp_arI E a5 0 6 f2), (mp_arI E a6 0 6 f3), (mp_arI E a7 0 6 f4), (mp_arI E a8 0 10 f5), (mp_arI E a9 0 10 f6), (mp_arI E a10 0 10 f7), (mp_arI E a11 0 10 f8), (mp_arI E a12 0 10 f9), (mp_arI E a13 0 10 f10), (mp_arI E a14 0 60 f11), (a15, .inl (E.2.2 4, 3, .inr (.inr (.inr (.inr f12))))), (mp_ob7 a16 y1 y2 y3 y4 y5 y6 a17 a18 a19 a20 a21 a22 a23 a24 a25 a26 a27 a28), (mp_arI E a17 0 36 g_10), (mp_arL E a18 12 g_11), (mp_arI E a19 0 6 g_12), (mp_arI E a20 0 6 g_13), (mp_arI E a21 0 6 g_14), (mp_arI E a22 0 10 g_15), (mp_arI E a23 0 10 g_16), (mp_arI E a24 0 10 g_17), (mp_arI E a25 0 10 g_18), (mp_arI E a26 0 10 g_19), (mp_arI E a27 0 10 g_20), (mp_arI E a28 0 60 g_21)]) rfl rfl ⟨g_10, g_11, g_12, g_13, g_14, g_15, g_16, g_17, g_18, g_19, g_20, g_21, rfl, p_22, p_23, p_24, p_25, p_26, p_27, p_28, p_29, (by (first | exact mp_o916 u_y0 x_30 q0 | omega)), (mp_tC_cp x_31 ⟨(show y4.toInt ≤ 6 from by (first | exact u_y4 | omega)), (show y5.toInt ≤ 10 from by (first | exact u_y5 | omega)), (by (first | exact u_y6 | omega))⟩ (by first | rfl | exact mp_sc5 (by omega) (by omega) (by omega) (by omega) (by omega)) (by first | rfl | omega)), rfl⟩ (by first | exact mp_fd_ok mp_k_cX9_image_ok (by decide +kernel) | decide +kernel)
