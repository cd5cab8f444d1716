set_option maxHeartbeats 4000000 in
set_option maxRecDepth 100000 in
theorem bX10_in_0 (E : mp_E) (x0 : Int64) (x1 : Int64) (x2 : Int64) : mp_Ct E yX10_in cX10_in 6 (some FieldType.boolean) 0 0 0 0 [.long x0, .long x1, .long x2] [] (fun v w' => (v = some (.int 0) ∧ (x0.toInt < x1.toInt ∨ x2.toInt < x0.toInt) ∧ w' = []) ∨ (v = some (.int 1) ∧ x1.toInt ≤ x0.toInt ∧ x0.toInt ≤ x2.toInt ∧ w' = [])) := by
  refine mp_met false (by decide) (by decide) (Nat.le_of_ble_eq_true rfl) (fun X hF hQ => ?_)
  have hF : mp_F E X (RX10, cX10_in, 6, (0, 0, 0, 0), (some FieldType.boolean), false) := hF
  show mp_W E X 6 0 [(0, .long x0), (2, .long x1), (4, .long x2)] [] [] 0 0
  refine mp_run mp_k_cX10_in_ok hF mp_tabX10_ok [mp_i (.lload_n 0), mp_i (.lload_n 2), mp_i .lcmp, mp_h (.ifCond .lt 14) [17]] (by decide +kernel) ?_
  intro z_1 h_2
  refine And.intro (fun c_3 => ?_) (fun c_3 => ?_)
  · have c_3 : x0.toInt < x1.toInt := mp_lc_lt h_2 c_3
    show mp_W E X 6 17 [(0, .long x0), (2, .long x1), (4, .long x2)] [] [] 0 0
    refine mp_run mp_k_cX10_in_ok hF mp_tabX10_ok [mp_c (.iconst 0) 0] (by decide +kernel) ?_
    show mp_W E X 6 18 [(0, .long x0), (2, .long x1), (4, .long x2)] [.int 0] [] 0 0
    exact mp_iret hF hQ rfl (by decide) (Nat.le_of_ble_eq_true rfl) (Nat.le_of_ble_eq_true rfl) [] (w' := []) rfl rfl (Or.inl ⟨rfl, (by first | (first | exact mp_o918 c_3 | omega) | decide | (have h8 : (0 : Int32).toInt = 0 := rfl; have h9 : (1 : Int32).toInt = 1 := rfl; have h10 : (-1 : Int32).toInt = -1 := rfl; omega)), rfl⟩) (by first | exact mp_fd_ok mp_k_cX10_in_ok (by decide +kernel) | decide +kernel)
  · have c_3 : x1.toInt ≤ x0.toInt := mp_lc_ge h_2 c_3
    show mp_W E X 6 6 [(0, .long x0), (2, .long x1), (4, .long x2)] [] [] 0 0
    refine mp_run mp_k_cX10_in_ok hF mp_tabX10_ok [mp_i (.lload_n 0), mp_i (.lload 4), mp_i .lcmp, mp_h (.ifCond .gt 7) [17]] (by decide +kernel) ?_
    intro z_4 h_5
    refine And.intro (fun c_6 => ?_) (fun c_6 => ?_)
    · have c_6 : x2.toInt < x0.toInt := mp_lc_gt h_5 c_6
      show mp_W E X 6 17 [(0, .long x0), (2, .long x1), (4, .long x2)] [] [] 0 0
      refine mp_run mp_k_cX10_in_ok hF mp_tabX10_ok [mp_c (.iconst 0) 0] (by decide +kernel) ?_
      show mp_W E X 6 18 [(0, .long x0), (2, .long x1), (4, .long x2)] [.int 0] [] 0 0
      exact mp_iret hF hQ rfl (by decide) (Nat.le_of_ble_eq_true rfl) (Nat.le_of_ble_eq_true rfl) [] (w' := []) rfl rfl (Or.inl ⟨rfl, (by first | (first | exact mp_o919 c_6 | omega) | decide | (have h8 : (0 : Int32).toInt = 0 := rfl; have h9 : (1 : Int32).toInt = 1 := rfl; have h10 : (-1 : Int32).toInt = -1 := rfl; omega)), rfl⟩) (by first | exact mp_fd_ok mp_k_cX10_in_ok (by decide +kernel) | decide +kernel)
    · have c_6 : x0.toInt ≤ x2.toInt := mp_lc_le h_5 c_6
      show mp_W E X 6 13 [(0, .long x0), (2, .long x1), (4, .long x2)] [] [] 0 0
      refine mp_run mp_k_cX10_in_ok hF mp_tabX10_ok [mp_c (.iconst 1) 1, mp_h (.goto 4) [18]] (by decide +kernel) ?_
      show mp_W E X 6 18 [(0, .long x0), (2, .long x1), (4, .long x2)] [.int 1] [] 0 0
      exact mp_iret hF hQ rfl (by decide) (Nat.le_of_ble_eq_true rfl) (Nat.le_of_ble_eq_true rfl) [] (w' := []) rfl rfl (Or.inr ⟨rfl, (by first | (first | exact c_3 | omega) | decide), (by first | (first | exact c_6 | omega) | decide), rfl⟩) (by first | exact mp_fd_ok mp_k_cX10_in_ok (by decide +kernel) | decide +kernel)
set_option maxHeartbeats 4000000 in
set_option maxRecDepth 100000 in
theorem bX10_isSlot_1 (E : mp_E) (x0 : Int32) : mp_Ct E yX10_isSlot cX10_isSlot 1 (some FieldType.boolean) 1 0 0 25 [.int x0] [] (fun v w' => (v = some (.int 0) ∧ (x0.toInt < 0 ∨ 3 < x0.toInt) ∧ w' = []) ∨ (v = some (.int 1) ∧ 0 ≤ x0.toInt ∧ x0.toInt ≤ 3 ∧ (0 ≤ x0.toInt ∧ x0.toInt ≤ 3) ∧ w' = [])) := by
  refine mp_met false (by decide) (by decide) (Nat.le_of_ble_eq_true rfl) (fun X hF hQ => ?_)
  have hF : mp_F E X (RX10, cX10_isSlot, 1, (1, 0, 0, 25), (some FieldType.boolean), false) := hF
  show mp_W E X 1 0 [(0, .int x0)] [] [] 0 0
  refine mp_run mp_k_cX10_isSlot_ok hF mp_tabX10_ok [mp_i (.iload_n 0), mp_i .i2l, mp_cl (.lconst 0) 0, mp_cl (.ldc2_w 95) 3] (by decide +kernel) ?_
  intro z_1 h_2
  have e_3 : z_1.toInt = x0.toInt := mp_i2l h_2
  show mp_W E X 1 6 [(0, .int x0)] [.long 3, .long 0, .long z_1] [] 0 0
  refine mp_callS hF (As := [.long z_1, .long 0, .long 3]) (rest := []) (wr := []) (bX10_in_0 E z_1 0 3) mp_lkX10_97 [] [] rfl rfl rfl rfl rfl ⟨(Nat.le_of_ble_eq_true rfl), (Nat.le_of_ble_eq_true rfl), (Nat.le_of_ble_eq_true rfl), (Nat.le_of_ble_eq_true rfl)⟩ (Nat.le_of_ble_eq_true rfl) (by first | exact mp_fd_ok mp_k_cX10_isSlot_ok (by decide +kernel) | decide +kernel) (fun v_4 w_5 h_6 => ?_)
  rcases h_6 with ⟨rfl, x_7, rfl⟩ | ⟨rfl, c_8, c_9, rfl⟩
  · skip
    have i_10 : (0 : Int64).toInt = 0 := by decide
    have i_11 : (3 : Int64).toInt = 3 := by decide
    show mp_W E X 1 9 [(0, .int x0)] [.int 0] [] 0 0
    exact mp_iret hF hQ rfl (by decide) (Nat.le_of_ble_eq_true rfl) (Nat.le_of_ble_eq_true rfl) [] (w' := []) rfl rfl (Or.inl ⟨rfl, (by first | (first | exact mp_o920 i_10 i_11 e_3 x_7 | omega) | (have h8 : (0 : Int64).toInt = 0 := rfl; have h9 : (3 : Int64).toInt = 3 := rfl; have h10 : (0 : Int32).toInt = 0 := rfl; have h11 : (3 : Int32).toInt = 3 := rfl; have h12 : (60 : Int32).toInt = 60 := rfl; have h13 : (-1 : Int32).toInt = -1 := rfl; omega)), rfl⟩) (by first | exact mp_fd_ok mp_k_cX10_isSlot_ok (by decide +kernel) | decide +kernel)
  · skip
    have c_8 : 0 ≤ z_1.toInt := c_8
    have c_9 : z_1.toInt ≤ 3 := c_9
    have i_12 : (0 : Int64).toInt = 0 := by decide
    have i_13 : (3 : Int64).toInt = 3 := by decide
    show mp_W E X 1 9 [(0, .int x0)] [.int 1] [] 0 0
    exact mp_iret hF hQ rfl (by decide) (Nat.le_of_ble_eq_true rfl) (Nat.le_of_ble_eq_true rfl) [] (w' := []) rfl rfl (Or.inr ⟨rfl, (by first | (first | exact mp_o921 c_8 e_3 | omega) | decide), (by first | (first | exact mp_o922 e_3 c_9 | omega) | decide), (by first | (first | exact mp_o923 c_8 e_3 c_9 | omega) | (have h8 : (0 : Int64).toInt = 0 := rfl; have h9 : (3 : Int64).toInt = 3 := rfl; have h10 : (0 : Int32).toInt = 0 := rfl; have h11 : (3 : Int32).toInt = 3 := rfl; have h12 : (60 : Int32).toInt = 60 := rfl; have h13 : (-1 : Int32).toInt = -1 := rfl; omega)), rfl⟩) (by first | exact mp_fd_ok mp_k_cX10_isSlot_ok (by decide +kernel) | decide +kernel)
set_option maxHeartbeats 4000000 in
set_option maxRecDepth 100000 in
theorem bX10_row_2 (E : mp_E) (a0 a1 a2 a3 a4 a5 a6 a7 a8 a9 a10 a11 a12 a13 a14 a15 a16 a17 a18 a19 a20 a21 a22 a23 a24 a25 : Nat) (f0 : Nat → Int32) (f1 : Nat → Int32) (f2 : Nat → Int64) (y0 : Int32) (y1 : Int32) (y2 : Int32) (y3 : Int32) (y4 : Int32) (y5 : Int32) (y6 : Int64) (y7 : Int32) (y8 : Int32) (y9 : Int32) (y10 : Int32) (y11 : Int32) (y12 : Int32) (y13 : Int32) (y14 : Int32) (y15 : Int32) (y16 : Int32) (y17 : Int32) (y18 : Int32) (y19 : Int32) (y20 : Int32) (y21 : Int32) (x0 : Int32) (x1 : Int32) (x2 : Int32) (p0 : mp_all f1 4 0 60) (l_y1 : 0 ≤ y1.toInt) (u_y1 : y1.toInt ≤ 1600) (l_y2 : 0 ≤ y2.toInt) (u_y2 : y2.toInt ≤ 1600) (l_y3 : 0 ≤ y3.toInt) (u_y3 : y3.toInt ≤ 4) (l_y4 : 0 ≤ y4.toInt) (u_y4 : y4.toInt ≤ 1600) (l_y11 : 0 ≤ y11.toInt) (u_y11 : y11.toInt ≤ 99) (l_y12 : 0 ≤ y12.toInt) (u_y12 : y12.toInt ≤ 5) (l_y13 : 0 ≤ y13.toInt) (u_y13 : y13.toInt ≤ 12) : mp_Ct E yX10_row cX10_row 5 (some FieldType.int) 2 0 0 45 [.ref a0, .int x0, .int x1, .int x2] [(mp_ob10 a0 y0 a1 a2 a3 a4 a5 y1 y2 y3 y4 y5 y6 y7 y8 y9 y10 a6 a7 a8 a9 a10 a11 a12 a13 y11 a14 a15 a16 a17 y12 y13 y14 a18 a19 y15 y16 a20 a21 a22 y17 y18 y19 y20 a23 a24 a25 y21), (mp_arI E a1 0 4 f0), (mp_arI E a2 0 4 f1), (mp_arL E a3 240 f2)] (fun v w' => (v = some (.int (-2)) ∧ (x0.toInt < 0 ∨ 3 < x0.toInt ∨ x1.toInt < 0 ∨ 3 < x1.toInt ∨ 60 < x2.toInt) ∧ w' = [(mp_ob10 a0 0 a1 a2 a3 a4 a5 y1 y2 y3 y4 y5 y6 y7 y8 y9 y10 a6 a7 a8 a9 a10 a11 a12 a13 y11 a14 a15 a16 a17 y12 y13 y14 a18 a19 y15 y16 a20 a21 a22 y17 y18 y19 y20 a23 a24 a25 y21), (mp_arI E a1 0 4 f0), (mp_arI E a2 0 4 f1), (mp_arL E a3 240 f2)]) ∨ (∃ h1 : Nat → Int32, ∃ h2 : Nat → Int32, ∃ h3 : Nat → Int64, v = some (.int 0) ∧ 0 ≤ x0.toInt ∧ x0.toInt ≤ 3 ∧ 0 ≤ x1.toInt ∧ x1.toInt ≤ 3 ∧ x2.toInt ≤ 60 ∧ 0 ≤ x2.toInt ∧ mp_all h2 4 0 60 ∧ (0 ≤ x0.toInt ∧ x0.toInt ≤ 3 ∧ 0 ≤ x1.toInt ∧ x1.toInt ≤ 3 ∧ 0 ≤ x2.toInt ∧ x2.toInt ≤ 60) ∧ (h1 = upd f0 x0.toNatClampNeg x1) ∧ (h2 = upd f1 x0.toNatClampNeg x2) ∧ w' = [(mp_ob10 a0 0 a1 a2 a3 a4 a5 y1 y2 y3 y4 y5 y6 y7 y8 y9 y10 a6 a7 a8 a9 a10 a11 a12 a13 y11 a14 a15 a16 a17 y12 y13 y14 a18 a19 y15 y16 a20 a21 a22 y17 y18 y19 y20 a23 a24 a25 y21), (mp_arI E a1 0 4 h1), (mp_arI E a2 0 4 h2), (mp_arL E a3 240 h3)]) ∨ (v = some (.int (-3)) ∧ 0 ≤ x0.toInt ∧ x0.toInt ≤ 3 ∧ 0 ≤ x1.toInt ∧ x1.toInt ≤ 3 ∧ x2.toInt ≤ 60 ∧ x2.toInt < 0 ∧ (0 ≤ x0.toInt ∧ x0.toInt ≤ 3 ∧ 0 ≤ x1.toInt ∧ x1.toInt ≤ 3 ∧ x2.toInt < 0) ∧ w' = [(mp_ob10 a0 0 a1 a2 a3 a4 a5 y1 y2 y3 y4 y5 y6 y7 y8 y9 y10 a6 a7 a8 a9 a10 a11 a12 a13 y11 a14 a15 a16 a17 y12 y13 y14 a18 a19 y15 y16 a20 a21 a22 y17 y18 y19 y20 a23 a24 a25 y21), (mp_arI E a1 0 4 f0), (mp_arI E a2 0 4 f1), (mp_arL E a3 240 f2)])) := by
  refine mp_met false (by decide) (by decide) (Nat.le_of_ble_eq_true rfl) (fun X hF hQ => ?_)
  have hF : mp_F E X (RX10, cX10_row, 5, (2, 0, 0, 45), (some FieldType.int), false) := hF
  let w1_ : va_W := [(mp_ob10 a0 y0 a1 a2 a3 a4 a5 y1 y2 y3 y4 y5 y6 y7 y8 y9 y10 a6 a7 a8 a9 a10 a11 a12 a13 y11 a14 a15 a16 a17 y12 y13 y14 a18 a19 y15 y16 a20 a21 a22 y17 y18 y19 y20 a23 a24 a25 y21), (mp_arI E a1 0 4 f0), (mp_arI E a2 0 4 f1), (mp_arL E a3 240 f2)]
  show mp_W E X 5 0 [(0, .ref a0), (1, .int x0), (2, .int x1), (3, .int x2)] [] w1_ 0 0
  refine mp_run mp_k_cX10_row_ok hF mp_tabX10_ok [mp_i (.aload_n 0), mp_c (.iconst 0) 0, mp_h (.putfield 92) [0, 0]] (by decide +kernel) ?_
  refine And.intro rfl (And.intro rfl (And.intro rfl (And.intro rfl (And.intro (Nat.le_of_ble_eq_true rfl) ?_))))
  let w2_ : va_W := [(mp_ob10 a0 0 a1 a2 a3 a4 a5 y1 y2 y3 y4 y5 y6 y7 y8 y9 y10 a6 a7 a8 a9 a10 a11 a12 a13 y11 a14 a15 a16 a17 y12 y13 y14 a18 a19 y15 y16 a20 a21 a22 y17 y18 y19 y20 a23 a24 a25 y21), (mp_arI E a1 0 4 f0), (mp_arI E a2 0 4 f1), (mp_arL E a3 240 f2)]
  show mp_W E X 5 5 [(0, .ref a0), (1, .int x0), (2, .int x1), (3, .int x2)] [] w2_ 0 0
  refine mp_run mp_k_cX10_row_ok hF mp_tabX10_ok [mp_i (.iload_n 1)] (by decide +kernel) ?_
  show mp_W E X 5 6 [(0, .ref a0), (1, .int x0), (2, .int x1), (3, .int x2)] [.int x0] w2_ 0 0
  refine mp_callS hF (As := [.int x0]) (rest := []) (wr := w2_) (bX10_isSlot_1 E x0) mp_lkX10_101 [] [0, 1, 2, 3] rfl rfl rfl rfl rfl ⟨(Nat.le_of_ble_eq_true rfl), (Nat.le_of_ble_eq_true rfl), (Nat.le_of_ble_eq_true rfl), (Nat.le_of_ble_eq_true rfl)⟩ (Nat.le_of_ble_eq_true rfl) (by first | exact mp_fd_ok mp_k_cX10_row_ok (by decide +kernel) | decide +kernel) (fun v_1 w_2 h_3 => ?_)
  rcases h_3 with ⟨rfl, x_4, rfl⟩ | ⟨rfl, c_5, c_6, x_7, rfl⟩
  · skip
    show mp_W E X 5 9 [(0, .ref a0), (1, .int x0), (2, .int x1), (3, .int x2)] [.int 0] w2_ 0 0
    refine mp_run mp_k_cX10_row_ok hF mp_tabX10_ok [mp_h (.ifCond .eq 21) [30]] (by decide +kernel) ?_
    refine And.intro (fun _ => ?_) (fun c_8 => absurd c_8 (by decide))
    show mp_W E X 5 30 [(0, .ref a0), (1, .int x0), (2, .int x1), (3, .int x2)] [] w2_ 0 0
    refine mp_run mp_k_cX10_row_ok hF mp_tabX10_ok [mp_c (.bipush (-2)) (-2)] (by decide +kernel) ?_
    show mp_W E X 5 32 [(0, .ref a0), (1, .int x0), (2, .int x1), (3, .int x2)] [.int (-2)] w2_ 0 0
    exact mp_iret hF hQ rfl rfl (Nat.le_of_ble_eq_true rfl) (Nat.le_of_ble_eq_true rfl) [0, 1, 2, 3] (w' := w2_) rfl rfl (Or.inl ⟨rfl, (by first | omega | (have h8 : (0 : Int64).toInt = 0 := rfl; have h9 : (3 : Int64).toInt = 3 := rfl; have h10 : (0 : Int32).toInt = 0 := rfl; have h11 : (3 : Int32).toInt = 3 := rfl; have h12 : (60 : Int32).toInt = 60 := rfl; have h13 : (-1 : Int32).toInt = -1 := rfl; omega)), rfl⟩) (by first | exact mp_fd_ok mp_k_cX10_row_ok (by decide +kernel) | decide +kernel)
  · skip
    have c_5 : 0 ≤ x0.toInt := c_5
    have c_6 : x0.toInt ≤ 3 := c_6
    show mp_W E X 5 9 [(0, .ref a0), (1, .int x0), (2, .int x1), (3, .int x2)] [.int 1] w2_ 0 0
    refine mp_run mp_k_cX10_row_ok hF mp_tabX10_ok [mp_h (.ifCond .eq 21) [30]] (by decide +kernel) ?_
    refine And.intro (fun c_9 => absurd c_9 (by decide)) (fun _ => ?_)
    show mp_W E X 5 12 [(0, .ref a0), (1, .int x0), (2, .int x1), (3, .int x2)] [] w2_ 0 0
    refine mp_run mp_k_cX10_row_ok hF mp_tabX10_ok [mp_i (.iload_n 2), mp_i .i2l, mp_cl (.lconst 0) 0, mp_cl (.ldc2_w 95) 3] (by decide +kernel) ?_
    intro z_10 h_11
    have e_12 : z_10.toInt = x1.toInt := mp_i2l h_11
    show mp_W E X 5 18 [(0, .ref a0), (1, .int x0), (2, .int x1), (3, .int x2)] [.long 3, .long 0, .long z_10] w2_ 0 0
    refine mp_callS hF (As := [.long z_10, .long 0, .long 3]) (rest := []) (wr := w2_) (bX10_in_0 E z_10 0 3) mp_lkX10_97 [] [0, 1, 2, 3] rfl rfl rfl rfl rfl ⟨(Nat.le_of_ble_eq_true rfl), (Nat.le_of_ble_eq_true rfl), (Nat.le_of_ble_eq_true rfl), (Nat.le_of_ble_eq_true rfl)⟩ (Nat.le_of_ble_eq_true rfl) (by first | exact mp_fd_ok mp_k_cX10_row_ok (by decide +kernel) | decide +kernel) (fun v_13 w_14 h_15 => ?_)
    rcases h_15 with ⟨rfl, x_16, rfl⟩ | ⟨rfl, c_17, c_18, rfl⟩
    · skip
      have i_19 : (0 : Int64).toInt = 0 := by decide
      have i_20 : (3 : Int64).toInt = 3 := by decide
      show mp_W E X 5 21 [(0, .ref a0), (1, .int x0), (2, .int x1), (3, .int x2)] [.int 0] w2_ 0 0
      refine mp_run mp_k_cX10_row_ok hF mp_tabX10_ok [mp_h (.ifCond .eq 9) [30]] (by decide +kernel) ?_
      refine And.intro (fun _ => ?_) (fun c_21 => absurd c_21 (by decide))
      show mp_W E X 5 30 [(0, .ref a0), (1, .int x0), (2, .int x1), (3, .int x2)] [] w2_ 0 0
      refine mp_run mp_k_cX10_row_ok hF mp_tabX10_ok [mp_c (.bipush (-2)) (-2)] (by decide +kernel) ?_
      show mp_W E X 5 32 [(0, .ref a0), (1, .int x0), (2, .int x1), (3, .int x2)] [.int (-2)] w2_ 0 0
      exact mp_iret hF hQ rfl rfl (Nat.le_of_ble_eq_true rfl) (Nat.le_of_ble_eq_true rfl) [0, 1, 2, 3] (w' := w2_) rfl rfl (Or.inl ⟨rfl, (by first | omega | (have h8 : (0 : Int64).toInt = 0 := rfl; have h9 : (3 : Int64).toInt = 3 := rfl; have h10 : (0 : Int32).toInt = 0 := rfl; have h11 : (3 : Int32).toInt = 3 := rfl; have h12 : (60 : Int32).toInt = 60 := rfl; have h13 : (-1 : Int32).toInt = -1 := rfl; omega)), rfl⟩) (by first | exact mp_fd_ok mp_k_cX10_row_ok (by decide +kernel) | decide +kernel)
    · skip
      have c_17 : 0 ≤ z_10.toInt := c_17
      have c_18 : z_10.toInt ≤ 3 := c_18
      have i_22 : (0 : Int64).toInt = 0 := by decide
      have i_23 : (3 : Int64).toInt = 3 := by decide
      show mp_W E X 5 21 [(0, .ref a0), (1, .int x0), (2, .int x1), (3, .int x2)] [.int 1] w2_ 0 0
      refine mp_run mp_k_cX10_row_ok hF mp_tabX10_ok [mp_h (.ifCond .eq 9) [30]] (by decide +kernel) ?_
      refine And.intro (fun c_24 => absurd c_24 (by decide)) (fun _ => ?_)
      show mp_W E X 5 24 [(0, .ref a0), (1, .int x0), (2, .int x1), (3, .int x2)] [] w2_ 0 0
      refine mp_run mp_k_cX10_row_ok hF mp_tabX10_ok [mp_i (.iload_n 3), mp_c (.bipush 60) 60, mp_h (.if_icmp .le 6) [33]] (by decide +kernel) ?_
      refine And.intro (fun c_25 => ?_) (fun c_25 => ?_)
      · have c_25 : x2.toInt ≤ 60 := c_25
        show mp_W E X 5 33 [(0, .ref a0), (1, .int x0), (2, .int x1), (3, .int x2)] [] w2_ 0 0
        refine mp_run mp_k_cX10_row_ok hF mp_tabX10_ok [mp_i (.iload_n 3), mp_h (.ifCond .ge 6) [40]] (by decide +kernel) ?_
        refine And.intro (fun c_26 => ?_) (fun c_26 => ?_)
        · have c_26 : 0 ≤ x2.toInt := c_26
          show mp_W E X 5 40 [(0, .ref a0), (1, .int x0), (2, .int x1), (3, .int x2)] [] w2_ 0 0
          refine mp_run mp_k_cX10_row_ok hF mp_tabX10_ok [mp_i (.aload_n 0), mp_h (.getfield 7) [1, 0], mp_i (.iload_n 1), mp_i (.iload_n 2), mp_h .iastore [1]] (by decide +kernel) ?_
          refine And.intro rfl (And.intro rfl ?_)
          refine And.intro rfl (And.intro rfl (And.intro (vp_in_iff.mpr (by omega)) ?_))
          intro g_27 h_28
          let w3_ : va_W := [(mp_ob10 a0 0 a1 a2 a3 a4 a5 y1 y2 y3 y4 y5 y6 y7 y8 y9 y10 a6 a7 a8 a9 a10 a11 a12 a13 y11 a14 a15 a16 a17 y12 y13 y14 a18 a19 y15 y16 a20 a21 a22 y17 y18 y19 y20 a23 a24 a25 y21), (mp_arI E a1 0 4 g_27), (mp_arI E a2 0 4 f1), (mp_arL E a3 240 f2)]
          show mp_W E X 5 47 [(0, .ref a0), (1, .int x0), (2, .int x1), (3, .int x2)] [] w3_ 0 0
          refine mp_run mp_k_cX10_row_ok hF mp_tabX10_ok [mp_i (.aload_n 0), mp_h (.getfield 13) [2, 0], mp_i (.iload_n 1), mp_i (.iload_n 3), mp_h .iastore [2]] (by decide +kernel) ?_
          refine And.intro rfl (And.intro rfl ?_)
          refine And.intro rfl (And.intro rfl (And.intro (vp_in_iff.mpr (by omega)) ?_))
          intro g_29 h_30
          have p_31 : mp_all g_29 4 0 60 := mp_all_st h_30 p0 (by omega) (by omega)
          let w4_ : va_W := [(mp_ob10 a0 0 a1 a2 a3 a4 a5 y1 y2 y3 y4 y5 y6 y7 y8 y9 y10 a6 a7 a8 a9 a10 a11 a12 a13 y11 a14 a15 a16 a17 y12 y13 y14 a18 a19 y15 y16 a20 a21 a22 y17 y18 y19 y20 a23 a24 a25 y21), (mp_arI E a1 0 4 g_27), (mp_arI E a2 0 4 g_29), (mp_arL E a3 240 f2)]
          show mp_W E X 5 54 [(0, .ref a0), (1, .int x0), (2, .int x1), (3, .int x2)] [] w4_ 0 0
          refine mp_run mp_k_cX10_row_ok hF mp_tabX10_ok [mp_c (.iconst 0) 0, mp_i (.istore 4)] (by decide +kernel) ?_
          show mp_W E X 5 57 [(4, .int 0), (0, .ref a0), (1, .int x0), (2, .int x1), (3, .int x2)] [] w4_ 0 0
          have lp_36 : ∀ (d_37 : Nat) (i_32 : Int32) (g_33 : Nat → Int64), 0 ≤ i_32.toInt → i_32.toInt ≤ 60 → x2.toInt - i_32.toInt ≤ (d_37 : Int) → mp_W E X 5 57 [(4, .int i_32), (0, .ref a0), (1, .int x0), (2, .int x1), (3, .int x2)] [] [(mp_ob10 a0 0 a1 a2 a3 a4 a5 y1 y2 y3 y4 y5 y6 y7 y8 y9 y10 a6 a7 a8 a9 a10 a11 a12 a13 y11 a14 a15 a16 a17 y12 y13 y14 a18 a19 y15 y16 a20 a21 a22 y17 y18 y19 y20 a23 a24 a25 y21), (mp_arI E a1 0 4 g_27), (mp_arI E a2 0 4 g_29), (mp_arL E a3 240 g_33)] 0 0 := by
            intro d_37
            induction d_37 using Nat.strongRecOn with
            | ind d_37 ih_38 =>
              intro i_32 g_33 l_34 u_35 hm_39
              refine mp_run mp_k_cX10_row_ok hF mp_tabX10_ok [mp_i (.iload 4), mp_i (.iload_n 3), mp_h (.if_icmp .ge 22) [82]] (by decide +kernel) ?_
              refine And.intro (fun c_40 => ?_) (fun c_40 => ?_)
              · have c_40 : x2.toInt ≤ i_32.toInt := c_40
                let w5_ : va_W := [(mp_ob10 a0 0 a1 a2 a3 a4 a5 y1 y2 y3 y4 y5 y6 y7 y8 y9 y10 a6 a7 a8 a9 a10 a11 a12 a13 y11 a14 a15 a16 a17 y12 y13 y14 a18 a19 y15 y16 a20 a21 a22 y17 y18 y19 y20 a23 a24 a25 y21), (mp_arI E a1 0 4 g_27), (mp_arI E a2 0 4 g_29), (mp_arL E a3 240 g_33)]
                show mp_W E X 5 82 [(4, .int i_32), (0, .ref a0), (1, .int x0), (2, .int x1), (3, .int x2)] [] w5_ 0 0
                refine mp_run mp_k_cX10_row_ok hF mp_tabX10_ok [mp_c (.iconst 0) 0] (by decide +kernel) ?_
                show mp_W E X 5 83 [(4, .int i_32), (0, .ref a0), (1, .int x0), (2, .int x1), (3, .int x2)] [.int 0] w5_ 0 0
                exact mp_iret hF hQ rfl rfl (Nat.le_of_ble_eq_true rfl) (Nat.le_of_ble_eq_true rfl) [0, 1, 2, 3] (w' := w5_) rfl rfl (Or.inr (Or.inl ⟨g_27, g_29, g_33, rfl, (by first | omega | decide), (by first | omega | decide), (by first | omega | decide), (by first | omega | decide), (by first | omega | decide), (by first | omega | decide), p_31, (by first | omega | (have h8 : (0 : Int64).toInt = 0 := rfl; have h9 : (3 : Int64).toInt = 3 := rfl; have h10 : (0 : Int32).toInt = 0 := rfl; have h11 : (3 : Int32).toInt = 3 := rfl; have h12 : (60 : Int32).toInt = 60 := rfl; have h13 : (-1 : Int32).toInt = -1 := rfl; omega)), h_28, h_30, rfl⟩)) (by first | exact mp_fd_ok mp_k_cX10_row_ok (by decide +kernel) | decide +kernel)
              · have c_40 : i_32.toInt < x2.toInt := c_40
                let w6_ : va_W := [(mp_ob10 a0 0 a1 a2 a3 a4 a5 y1 y2 y3 y4 y5 y6 y7 y8 y9 y10 a6 a7 a8 a9 a10 a11 a12 a13 y11 a14 a15 a16 a17 y12 y13 y14 a18 a19 y15 y16 a20 a21 a22 y17 y18 y19 y20 a23 a24 a25 y21), (mp_arI E a1 0 4 g_27), (mp_arI E a2 0 4 g_29), (mp_arL E a3 240 g_33)]
                show mp_W E X 5 63 [(4, .int i_32), (0, .ref a0), (1, .int x0), (2, .int x1), (3, .int x2)] [] w6_ 0 0
                refine mp_run mp_k_cX10_row_ok hF mp_tabX10_ok [mp_i (.aload_n 0), mp_h (.getfield 16) [3, 0], mp_c (.bipush 60) 60, mp_i (.iload_n 1), mp_i .imul, mp_i (.iload 4), mp_i .iadd, mp_cl (.lconst 0) 0, mp_h .lastore [3]] (by decide +kernel) ?_
                refine And.intro rfl (And.intro rfl ?_)
                intro z_41 h_42
                have e_43 : z_41.toInt = 60 * x0.toInt := mp_mul (a := 60) (b := x0.toInt) h_42 (by decide) rfl (by omega) (by omega)
                intro z_44 h_45
                have e_46 : z_44.toInt = z_41.toInt + i_32.toInt := mp_add (a := z_41.toInt) (b := i_32.toInt) h_45 rfl rfl (by omega) (by omega)
                refine And.intro rfl (And.intro rfl (And.intro (vp_in_iff.mpr (by omega)) ?_))
                intro g_47 h_48
                let w7_ : va_W := [(mp_ob10 a0 0 a1 a2 a3 a4 a5 y1 y2 y3 y4 y5 y6 y7 y8 y9 y10 a6 a7 a8 a9 a10 a11 a12 a13 y11 a14 a15 a16 a17 y12 y13 y14 a18 a19 y15 y16 a20 a21 a22 y17 y18 y19 y20 a23 a24 a25 y21), (mp_arI E a1 0 4 g_27), (mp_arI E a2 0 4 g_29), (mp_arL E a3 240 g_47)]
                show mp_W E X 5 76 [(4, .int i_32), (0, .ref a0), (1, .int x0), (2, .int x1), (3, .int x2)] [] w7_ 0 0
                refine mp_run mp_k_cX10_row_ok hF mp_tabX10_ok [mp_c (.iinc 4 1) 1, mp_h (.goto (-22)) [57]] (by decide +kernel) ?_
                intro z_49 h_50
                have e_51 : z_49.toInt = i_32.toInt + 1 := mp_add (a := i_32.toInt) (b := 1) h_50 rfl (by decide) (by omega) (by omega)
                show mp_W E X 5 57 [(4, .int z_49), (0, .ref a0), (1, .int x0), (2, .int x1), (3, .int x2)] [] w7_ 0 0
                exact mp_sub [0, 1, 2, 3, 4] rfl [0, 1, 2, 3] rfl rfl (ih_38 (d_37 - 1) (by omega) z_49 g_47 (by omega) (by omega) (by omega))
          exact mp_sub [0, 1, 2, 3, 4] rfl [0, 1, 2, 3] rfl rfl (lp_36 _ 0 f2 (by decide) (by decide) (Int.self_le_toNat _))
        · have c_26 : x2.toInt < 0 := c_26
          show mp_W E X 5 37 [(0, .ref a0), (1, .int x0), (2, .int x1), (3, .int x2)] [] w2_ 0 0
          refine mp_run mp_k_cX10_row_ok hF mp_tabX10_ok [mp_c (.bipush (-3)) (-3)] (by decide +kernel) ?_
          show mp_W E X 5 39 [(0, .ref a0), (1, .int x0), (2, .int x1), (3, .int x2)] [.int (-3)] w2_ 0 0
          exact mp_iret hF hQ rfl rfl (Nat.le_of_ble_eq_true rfl) (Nat.le_of_ble_eq_true rfl) [0, 1, 2, 3] (w' := w2_) rfl rfl (Or.inr (Or.inr ⟨rfl, (by first | omega | decide), (by first | omega | decide), (by first | omega | decide), (by first | omega | decide), (by first | omega | decide), (by first | omega | decide), (by first | omega | (have h8 : (0 : Int64).toInt = 0 := rfl; have h9 : (3 : Int64).toInt = 3 := rfl; have h10 : (0 : Int32).toInt = 0 := rfl; have h11 : (3 : Int32).toInt = 3 := rfl; have h12 : (60 : Int32).toInt = 60 := rfl; have h13 : (-1 : Int32).toInt = -1 := rfl; omega)), rfl⟩)) (by first | exact mp_fd_ok mp_k_cX10_row_ok (by decide +kernel) | decide +kernel)
      · have c_25 : 60 < x2.toInt := c_25
        show mp_W E X 5 30 [(0, .ref a0), (1, .int x0), (2, .int x1), (3, .int x2)] [] w2_ 0 0
        refine mp_run mp_k_cX10_row_ok hF mp_tabX10_ok [mp_c (.bipush (-2)) (-2)] (by decide +kernel) ?_
        show mp_W E X 5 32 [(0, .ref a0), (1, .int x0), (2, .int x1), (3, .int x2)] [.int (-2)] w2_ 0 0
        exact mp_iret hF hQ rfl rfl (Nat.le_of_ble_eq_true rfl) (Nat.le_of_ble_eq_true rfl) [0, 1, 2, 3] (w' := w2_) rfl rfl (Or.inl ⟨rfl, (by first | omega | (have h8 : (0 : Int64).toInt = 0 := rfl; have h9 : (3 : Int64).toInt = 3 := rfl; have h10 : (0 : Int32).toInt = 0 := rfl; have h11 : (3 : Int32).toInt = 3 := rfl; have h12 : (60 : Int32).toInt = 60 := rfl; have h13 : (-1 : Int32).toInt = -1 := rfl; omega)), rfl⟩) (by first | exact mp_fd_ok mp_k_cX10_row_ok (by decide +kernel) | decide +kernel)
set_option maxHeartbeats 4000000 in
set_option maxRecDepth 100000 in
theorem bX10_cut_3 (E : mp_E) (x0 : Int64) (x1 : Int32) : mp_Ct E yX10_cut cX10_cut 3 (some FieldType.long) 0 0 0 0 [.long x0, .int x1] [] (fun v w' => ∃ r1 : Int64, v = some (.long r1) ∧ w' = []) := by
  refine mp_met false (by decide) (by decide) (Nat.le_of_ble_eq_true rfl) (fun X hF hQ => ?_)
  have hF : mp_F E X (RX10, cX10_cut, 3, (0, 0, 0, 0), (some FieldType.long), false) := hF
  show mp_W E X 3 0 [(0, .long x0), (2, .int x1)] [] [] 0 0
  refine mp_run mp_k_cX10_cut_ok hF mp_tabX10_ok [mp_i (.iload_n 2), mp_h (.ifCond .ne 10) [11]] (by decide +kernel) ?_
  refine And.intro (fun c_1 => ?_) (fun c_1 => ?_)
  · have c_1 : x1.toInt ≠ 0 := c_1
    show mp_W E X 3 11 [(0, .long x0), (2, .int x1)] [] [] 0 0
    refine mp_run mp_k_cX10_cut_ok hF mp_tabX10_ok [mp_i (.iload_n 2), mp_c (.iconst 1) 1, mp_h (.if_icmp .ne 10) [23]] (by decide +kernel) ?_
    refine And.intro (fun c_2 => ?_) (fun c_2 => ?_)
    · have c_2 : x1.toInt ≠ 1 := c_2
      show mp_W E X 3 23 [(0, .long x0), (2, .int x1)] [] [] 0 0
      refine mp_run mp_k_cX10_cut_ok hF mp_tabX10_ok [mp_i (.iload_n 2), mp_c (.iconst 2) 2, mp_h (.if_icmp .ne 9) [34]] (by decide +kernel) ?_
      refine And.intro (fun c_3 => ?_) (fun c_3 => ?_)
      · have c_3 : x1.toInt ≠ 2 := c_3
        show mp_W E X 3 34 [(0, .long x0), (2, .int x1)] [] [] 0 0
        refine mp_run mp_k_cX10_cut_ok hF mp_tabX10_ok [mp_i (.lload_n 0)] (by decide +kernel) ?_
        show mp_W E X 3 35 [(0, .long x0), (2, .int x1)] [.long x0] [] 0 0
        exact mp_lret hF hQ rfl (Nat.le_of_ble_eq_true rfl) (Nat.le_of_ble_eq_true rfl) [] (w' := []) rfl rfl ⟨x0, rfl, rfl⟩ (by first | exact mp_fd_ok mp_k_cX10_cut_ok (by decide +kernel) | decide +kernel)
      · have c_3 : x1.toInt = 2 := (congrArg Int32.toInt c_3)
        show mp_W E X 3 28 [(0, .long x0), (2, .int x1)] [] [] 0 0
        refine mp_run mp_k_cX10_cut_ok hF mp_tabX10_ok [mp_i (.lload_n 0), mp_i .l2i, mp_i .i2l, mp_h (.goto 4) [35]] (by decide +kernel) ?_
        intro z_4 h_5
        intro z_6 h_7
        have e_8 : z_6.toInt = z_4.toInt := mp_i2l h_7
        show mp_W E X 3 35 [(0, .long x0), (2, .int x1)] [.long z_6] [] 0 0
        exact mp_lret hF hQ rfl (Nat.le_of_ble_eq_true rfl) (Nat.le_of_ble_eq_true rfl) [] (w' := []) rfl rfl ⟨z_6, rfl, rfl⟩ (by first | exact mp_fd_ok mp_k_cX10_cut_ok (by decide +kernel) | decide +kernel)
    · have c_2 : x1.toInt = 1 := (congrArg Int32.toInt c_2)
      show mp_W E X 3 16 [(0, .long x0), (2, .int x1)] [] [] 0 0
      refine mp_run mp_k_cX10_cut_ok hF mp_tabX10_ok [mp_i (.lload_n 0), mp_i .l2i, mp_i .i2s, mp_i .i2l, mp_h (.goto 15) [35]] (by decide +kernel) ?_
      intro z_9 h_10
      intro z_11 h_12
      intro z_13 h_14
      have e_15 : z_13.toInt = z_11.toInt := mp_i2l h_14
      show mp_W E X 3 35 [(0, .long x0), (2, .int x1)] [.long z_13] [] 0 0
      exact mp_lret hF hQ rfl (Nat.le_of_ble_eq_true rfl) (Nat.le_of_ble_eq_true rfl) [] (w' := []) rfl rfl ⟨z_13, rfl, rfl⟩ (by first | exact mp_fd_ok mp_k_cX10_cut_ok (by decide +kernel) | decide +kernel)
  · have c_1 : x1.toInt = 0 := (congrArg Int32.toInt c_1)
    show mp_W E X 3 4 [(0, .long x0), (2, .int x1)] [] [] 0 0
    refine mp_run mp_k_cX10_cut_ok hF mp_tabX10_ok [mp_i (.lload_n 0), mp_i .l2i, mp_i .i2b, mp_i .i2l, mp_h (.goto 27) [35]] (by decide +kernel) ?_
    intro z_16 h_17
    intro z_18 h_19
    intro z_20 h_21
    have e_22 : z_20.toInt = z_18.toInt := mp_i2l h_21
    show mp_W E X 3 35 [(0, .long x0), (2, .int x1)] [.long z_20] [] 0 0
    exact mp_lret hF hQ rfl (Nat.le_of_ble_eq_true rfl) (Nat.le_of_ble_eq_true rfl) [] (w' := []) rfl rfl ⟨z_20, rfl, rfl⟩ (by first | exact mp_fd_ok mp_k_cX10_cut_ok (by decide +kernel) | decide +kernel)
set_option maxHeartbeats 4000000 in
set_option maxRecDepth 100000 in
theorem bX10_write_4 (E : mp_E) (a0 a1 a2 a3 a4 a5 a6 a7 a8 a9 a10 a11 a12 a13 a14 a15 a16 a17 a18 a19 a20 a21 a22 a23 a24 a25 : Nat) (f0 : Nat → Int32) (f1 : Nat → Int32) (f2 : Nat → Int64) (y0 : Int32) (y1 : Int32) (y2 : Int32) (y3 : Int32) (y4 : Int32) (y5 : Int32) (y6 : Int64) (y7 : Int32) (y8 : Int32) (y9 : Int32) (y10 : Int32) (y11 : Int32) (y12 : Int32) (y13 : Int32) (y14 : Int32) (y15 : Int32) (y16 : Int32) (y17 : Int32) (y18 : Int32) (y19 : Int32) (y20 : Int32) (y21 : Int32) (x0 : Int32) (x1 : Int32) (x2 : Int64) (p0 : mp_all f1 4 0 60) (l_y1 : 0 ≤ y1.toInt) (u_y1 : y1.toInt ≤ 1600) (l_y2 : 0 ≤ y2.toInt) (u_y2 : y2.toInt ≤ 1600) (l_y3 : 0 ≤ y3.toInt) (u_y3 : y3.toInt ≤ 4) (l_y4 : 0 ≤ y4.toInt) (u_y4 : y4.toInt ≤ 1600) (l_y11 : 0 ≤ y11.toInt) (u_y11 : y11.toInt ≤ 99) (l_y12 : 0 ≤ y12.toInt) (u_y12 : y12.toInt ≤ 5) (l_y13 : 0 ≤ y13.toInt) (u_y13 : y13.toInt ≤ 12) : mp_Ct E yX10_write cX10_write 5 (some FieldType.int) 2 0 0 45 [.ref a0, .int x0, .int x1, .long x2] [(mp_ob10 a0 y0 a1 a2 a3 a4 a5 y1 y2 y3 y4 y5 y6 y7 y8 y9 y10 a6 a7 a8 a9 a10 a11 a12 a13 y11 a14 a15 a16 a17 y12 y13 y14 a18 a19 y15 y16 a20 a21 a22 y17 y18 y19 y20 a23 a24 a25 y21), (mp_arI E a1 0 4 f0), (mp_arI E a2 0 4 f1), (mp_arL E a3 240 f2)] (fun v w' => (v = some (.int (-2)) ∧ (x0.toInt < 0 ∨ 3 < x0.toInt) ∧ w' = [(mp_ob10 a0 0 a1 a2 a3 a4 a5 y1 y2 y3 y4 y5 y6 y7 y8 y9 y10 a6 a7 a8 a9 a10 a11 a12 a13 y11 a14 a15 a16 a17 y12 y13 y14 a18 a19 y15 y16 a20 a21 a22 y17 y18 y19 y20 a23 a24 a25 y21), (mp_arI E a1 0 4 f0), (mp_arI E a2 0 4 f1), (mp_arL E a3 240 f2)]) ∨ (v = some (.int (-7)) ∧ 0 ≤ x0.toInt ∧ x0.toInt ≤ 3 ∧ (0 ≤ x0.toInt ∧ x0.toInt ≤ 3 ∧ (f0 x0.toInt.toNat).toInt ≠ -1 ∧ (x1.toInt < 0 ∨ (f1 x0.toInt.toNat).toInt ≤ x1.toInt)) ∧ w' = [(mp_ob10 a0 0 a1 a2 a3 a4 a5 y1 y2 y3 y4 y5 y6 y7 y8 y9 y10 a6 a7 a8 a9 a10 a11 a12 a13 y11 a14 a15 a16 a17 y12 y13 y14 a18 a19 y15 y16 a20 a21 a22 y17 y18 y19 y20 a23 a24 a25 y21), (mp_arI E a1 0 4 f0), (mp_arI E a2 0 4 f1), (mp_arL E a3 240 f2)]) ∨ (∃ h1 : Nat → Int64, v = some (.int 0) ∧ 0 ≤ x0.toInt ∧ x0.toInt ≤ 3 ∧ 0 ≤ x1.toInt ∧ (0 ≤ x0.toInt ∧ x0.toInt ≤ 3 ∧ (f0 x0.toInt.toNat).toInt ≠ -1 ∧ 0 ≤ x1.toInt ∧ x1.toInt < (f1 x0.toInt.toNat).toInt) ∧ w' = [(mp_ob10 a0 0 a1 a2 a3 a4 a5 y1 y2 y3 y4 y5 y6 y7 y8 y9 y10 a6 a7 a8 a9 a10 a11 a12 a13 y11 a14 a15 a16 a17 y12 y13 y14 a18 a19 y15 y16 a20 a21 a22 y17 y18 y19 y20 a23 a24 a25 y21), (mp_arI E a1 0 4 f0), (mp_arI E a2 0 4 f1), (mp_arL E a3 240 h1)]) ∨ (v = some (.int (-6)) ∧ 0 ≤ x0.toInt ∧ x0.toInt ≤ 3 ∧ (0 ≤ x0.toInt ∧ x0.toInt ≤ 3 ∧ (f0 x0.toInt.toNat).toInt = -1) ∧ w' = [(mp_ob10 a0 0 a1 a2 a3 a4 a5 y1 y2 y3 y4 y5 y6 y7 y8 y9 y10 a6 a7 a8 a9 a10 a11 a12 a13 y11 a14 a15 a16 a17 y12 y13 y14 a18 a19 y15 y16 a20 a21 a22 y17 y18 y19 y20 a23 a24 a25 y21), (mp_arI E a1 0 4 f0), (mp_arI E a2 0 4 f1), (mp_arL E a3 240 f2)])) := by
  refine mp_met false (by decide) (by decide) (Nat.le_of_ble_eq_true rfl) (fun X hF hQ => ?_)
  have hF : mp_F E X (RX10, cX10_write, 5, (2, 0, 0, 45), (some FieldType.int), false) := hF
  let w1_ : va_W := [(mp_ob10 a0 y0 a1 a2 a3 a4 a5 y1 y2 y3 y4 y5 y6 y7 y8 y9 y10 a6 a7 a8 a9 a10 a11 a12 a13 y11 a14 a15 a16 a17 y12 y13 y14 a18 a19 y15 y16 a20 a21 a22 y17 y18 y19 y20 a23 a24 a25 y21), (mp_arI E a1 0 4 f0), (mp_arI E a2 0 4 f1), (mp_arL E a3 240 f2)]
  show mp_W E X 5 0 [(0, .ref a0), (1, .int x0), (2, .int x1), (3, .long x2)] [] w1_ 0 0
  refine mp_run mp_k_cX10_write_ok hF mp_tabX10_ok [mp_i (.aload_n 0), mp_c (.iconst 0) 0, mp_h (.putfield 92) [0, 0]] (by decide +kernel) ?_
  refine And.intro rfl (And.intro rfl (And.intro rfl (And.intro rfl (And.intro (Nat.le_of_ble_eq_true rfl) ?_))))
  let w2_ : va_W := [(mp_ob10 a0 0 a1 a2 a3 a4 a5 y1 y2 y3 y4 y5 y6 y7 y8 y9 y10 a6 a7 a8 a9 a10 a11 a12 a13 y11 a14 a15 a16 a17 y12 y13 y14 a18 a19 y15 y16 a20 a21 a22 y17 y18 y19 y20 a23 a24 a25 y21), (mp_arI E a1 0 4 f0), (mp_arI E a2 0 4 f1), (mp_arL E a3 240 f2)]
  show mp_W E X 5 5 [(0, .ref a0), (1, .int x0), (2, .int x1), (3, .long x2)] [] w2_ 0 0
  refine mp_run mp_k_cX10_write_ok hF mp_tabX10_ok [mp_i (.iload_n 1)] (by decide +kernel) ?_
  show mp_W E X 5 6 [(0, .ref a0), (1, .int x0), (2, .int x1), (3, .long x2)] [.int x0] w2_ 0 0
  refine mp_callS hF (As := [.int x0]) (rest := []) (wr := w2_) (bX10_isSlot_1 E x0) mp_lkX10_101 [] [0, 1, 2, 3] rfl rfl rfl rfl rfl ⟨(Nat.le_of_ble_eq_true rfl), (Nat.le_of_ble_eq_true rfl), (Nat.le_of_ble_eq_true rfl), (Nat.le_of_ble_eq_true rfl)⟩ (Nat.le_of_ble_eq_true rfl) (by first | exact mp_fd_ok mp_k_cX10_write_ok (by decide +kernel) | decide +kernel) (fun v_1 w_2 h_3 => ?_)
  rcases h_3 with ⟨rfl, x_4, rfl⟩ | ⟨rfl, c_5, c_6, x_7, rfl⟩
  · skip
    show mp_W E X 5 9 [(0, .ref a0), (1, .int x0), (2, .int x1), (3, .long x2)] [.int 0] w2_ 0 0
    refine mp_run mp_k_cX10_write_ok hF mp_tabX10_ok [mp_h (.ifCond .ne 6) [15]] (by decide +kernel) ?_
    refine And.intro (fun c_8 => absurd c_8 (by decide)) (fun _ => ?_)
    show mp_W E X 5 12 [(0, .ref a0), (1, .int x0), (2, .int x1), (3, .long x2)] [] w2_ 0 0
    refine mp_run mp_k_cX10_write_ok hF mp_tabX10_ok [mp_c (.bipush (-2)) (-2)] (by decide +kernel) ?_
    show mp_W E X 5 14 [(0, .ref a0), (1, .int x0), (2, .int x1), (3, .long x2)] [.int (-2)] w2_ 0 0
    exact mp_iret hF hQ rfl rfl (Nat.le_of_ble_eq_true rfl) (Nat.le_of_ble_eq_true rfl) [0, 1, 2, 3] (w' := w2_) rfl rfl (Or.inl ⟨rfl, (by first | omega | (have h8 : (0 : Int64).toInt = 0 := rfl; have h9 : (3 : Int64).toInt = 3 := rfl; have h10 : (0 : Int32).toInt = 0 := rfl; have h11 : (3 : Int32).toInt = 3 := rfl; have h12 : (60 : Int32).toInt = 60 := rfl; have h13 : (-1 : Int32).toInt = -1 := rfl; omega)), rfl⟩) (by first | exact mp_fd_ok mp_k_cX10_write_ok (by decide +kernel) | decide +kernel)
  · skip
    have c_5 : 0 ≤ x0.toInt := c_5
    have c_6 : x0.toInt ≤ 3 := c_6
    show mp_W E X 5 9 [(0, .ref a0), (1, .int x0), (2, .int x1), (3, .long x2)] [.int 1] w2_ 0 0
    refine mp_run mp_k_cX10_write_ok hF mp_tabX10_ok [mp_h (.ifCond .ne 6) [15]] (by decide +kernel) ?_
    refine And.intro (fun _ => ?_) (fun c_9 => absurd c_9 (by decide))
    show mp_W E X 5 15 [(0, .ref a0), (1, .int x0), (2, .int x1), (3, .long x2)] [] w2_ 0 0
    refine mp_run mp_k_cX10_write_ok hF mp_tabX10_ok [mp_i (.aload_n 0), mp_h (.getfield 7) [1, 0], mp_i (.iload_n 1), mp_h .iaload [1], mp_c (.iconst (-1)) (-1), mp_h (.if_icmp .ne 6) [28]] (by decide +kernel) ?_
    refine And.intro rfl (And.intro rfl ?_)
    refine And.intro rfl (And.intro rfl (And.intro (vp_in_iff.mpr (by omega)) ?_))
    intro z_10 h_11
    have e_12 : z_10.toInt = (f0 x0.toInt.toNat).toInt := congrArg Int32.toInt h_11
    refine And.intro (fun c_13 => ?_) (fun c_13 => ?_)
    · have c_13 : z_10.toInt ≠ (-1) := c_13
      show mp_W E X 5 28 [(0, .ref a0), (1, .int x0), (2, .int x1), (3, .long x2)] [] w2_ 0 0
      refine mp_run mp_k_cX10_write_ok hF mp_tabX10_ok [mp_i (.iload_n 2), mp_i .i2l, mp_cl (.lconst 0) 0, mp_i (.aload_n 0), mp_h (.getfield 13) [2, 0], mp_i (.iload_n 1), mp_h .iaload [2], mp_c (.iconst 1) 1, mp_i .isub, mp_i .i2l] (by decide +kernel) ?_
      intro z_14 h_15
      have e_16 : z_14.toInt = x1.toInt := mp_i2l h_15
      refine And.intro rfl (And.intro rfl ?_)
      refine And.intro rfl (And.intro rfl (And.intro (vp_in_iff.mpr (by omega)) ?_))
      intro z_17 h_18
      have e_19 : 0 ≤ z_17.toInt ∧ z_17.toInt ≤ 60 := mp_all_ld h_18 p0 (by omega) (by omega)
      have e_20 : z_17.toInt = (f1 x0.toInt.toNat).toInt := congrArg Int32.toInt h_18
      intro z_21 h_22
      have e_23 : z_21.toInt = z_17.toInt - 1 := mp_subi (a := z_17.toInt) (b := 1) h_22 rfl (by decide) (by omega) (by omega)
      intro z_24 h_25
      have e_26 : z_24.toInt = z_21.toInt := mp_i2l h_25
      show mp_W E X 5 40 [(0, .ref a0), (1, .int x0), (2, .int x1), (3, .long x2)] [.long z_24, .long 0, .long z_14] w2_ 0 0
      refine mp_callS hF (As := [.long z_14, .long 0, .long z_24]) (rest := []) (wr := w2_) (bX10_in_0 E z_14 0 z_24) mp_lkX10_97 [] [0, 1, 2, 3] rfl rfl rfl rfl rfl ⟨(Nat.le_of_ble_eq_true rfl), (Nat.le_of_ble_eq_true rfl), (Nat.le_of_ble_eq_true rfl), (Nat.le_of_ble_eq_true rfl)⟩ (Nat.le_of_ble_eq_true rfl) (by first | exact mp_fd_ok mp_k_cX10_write_ok (by decide +kernel) | decide +kernel) (fun v_27 w_28 h_29 => ?_)
      rcases h_29 with ⟨rfl, x_30, rfl⟩ | ⟨rfl, c_31, c_32, rfl⟩
      · skip
        have i_33 : (0 : Int64).toInt = 0 := by decide
        show mp_W E X 5 43 [(0, .ref a0), (1, .int x0), (2, .int x1), (3, .long x2)] [.int 0] w2_ 0 0
        refine mp_run mp_k_cX10_write_ok hF mp_tabX10_ok [mp_h (.ifCond .ne 6) [49]] (by decide +kernel) ?_
        refine And.intro (fun c_34 => absurd c_34 (by decide)) (fun _ => ?_)
        show mp_W E X 5 46 [(0, .ref a0), (1, .int x0), (2, .int x1), (3, .long x2)] [] w2_ 0 0
        refine mp_run mp_k_cX10_write_ok hF mp_tabX10_ok [mp_c (.bipush (-7)) (-7)] (by decide +kernel) ?_
        show mp_W E X 5 48 [(0, .ref a0), (1, .int x0), (2, .int x1), (3, .long x2)] [.int (-7)] w2_ 0 0
        exact mp_iret hF hQ rfl rfl (Nat.le_of_ble_eq_true rfl) (Nat.le_of_ble_eq_true rfl) [0, 1, 2, 3] (w' := w2_) rfl rfl (Or.inr (Or.inl ⟨rfl, (by first | omega | decide), (by first | omega | decide), (by first | omega | (have h8 : (0 : Int64).toInt = 0 := rfl; have h9 : (3 : Int64).toInt = 3 := rfl; have h10 : (0 : Int32).toInt = 0 := rfl; have h11 : (3 : Int32).toInt = 3 := rfl; have h12 : (60 : Int32).toInt = 60 := rfl; have h13 : (-1 : Int32).toInt = -1 := rfl; omega)), rfl⟩)) (by first | exact mp_fd_ok mp_k_cX10_write_ok (by decide +kernel) | decide +kernel)
      · skip
        have c_31 : 0 ≤ z_14.toInt := c_31
        have c_32 : z_14.toInt ≤ z_24.toInt := c_32
        have i_35 : (0 : Int64).toInt = 0 := by decide
        show mp_W E X 5 43 [(0, .ref a0), (1, .int x0), (2, .int x1), (3, .long x2)] [.int 1] w2_ 0 0
        refine mp_run mp_k_cX10_write_ok hF mp_tabX10_ok [mp_h (.ifCond .ne 6) [49]] (by decide +kernel) ?_
        refine And.intro (fun _ => ?_) (fun c_36 => absurd c_36 (by decide))
        show mp_W E X 5 49 [(0, .ref a0), (1, .int x0), (2, .int x1), (3, .long x2)] [] w2_ 0 0
        refine mp_run mp_k_cX10_write_ok hF mp_tabX10_ok [mp_i (.aload_n 0), mp_h (.getfield 16) [3, 0], mp_c (.bipush 60) 60, mp_i (.iload_n 1), mp_i .imul, mp_i (.iload_n 2), mp_i .iadd, mp_i (.lload_n 3), mp_i (.aload_n 0), mp_h (.getfield 7) [1, 0], mp_i (.iload_n 1), mp_h .iaload [1]] (by decide +kernel) ?_
        refine And.intro rfl (And.intro rfl ?_)
        intro z_37 h_38
        have e_39 : z_37.toInt = 60 * x0.toInt := mp_mul (a := 60) (b := x0.toInt) h_38 (by decide) rfl (by omega) (by omega)
        intro z_40 h_41
        have e_42 : z_40.toInt = z_37.toInt + x1.toInt := mp_add (a := z_37.toInt) (b := x1.toInt) h_41 rfl rfl (by omega) (by omega)
        refine And.intro rfl (And.intro rfl ?_)
        refine And.intro rfl (And.intro rfl (And.intro (vp_in_iff.mpr (by omega)) ?_))
        intro z_43 h_44
        have k_45 : z_10 = z_43 := h_11.trans h_44.symm
        subst k_45
        show mp_W E X 5 66 [(0, .ref a0), (1, .int x0), (2, .int x1), (3, .long x2)] [.int z_10, .long x2, .int z_40, .ref a3] w2_ 0 0
        refine mp_callS hF (As := [.long x2, .int z_10]) (rest := [.int z_40, .ref a3]) (wr := w2_) (bX10_cut_3 E x2 z_10) mp_lkX10_105 [] [0, 1, 2, 3] rfl rfl rfl rfl rfl ⟨(Nat.le_of_ble_eq_true rfl), (Nat.le_of_ble_eq_true rfl), (Nat.le_of_ble_eq_true rfl), (Nat.le_of_ble_eq_true rfl)⟩ (Nat.le_of_ble_eq_true rfl) (by first | exact mp_fd_ok mp_k_cX10_write_ok (by decide +kernel) | decide +kernel) (fun v_46 w_47 h_48 => ?_)
        obtain ⟨r_49, rfl, rfl⟩ := h_48
        show mp_W E X 5 69 [(0, .ref a0), (1, .int x0), (2, .int x1), (3, .long x2)] [.long r_49, .int z_40, .ref a3] w2_ 0 0
        refine mp_run mp_k_cX10_write_ok hF mp_tabX10_ok [mp_h .lastore [3]] (by decide +kernel) ?_
        refine And.intro rfl (And.intro rfl (And.intro (vp_in_iff.mpr (by omega)) ?_))
        intro g_50 h_51
        let w3_ : va_W := [(mp_ob10 a0 0 a1 a2 a3 a4 a5 y1 y2 y3 y4 y5 y6 y7 y8 y9 y10 a6 a7 a8 a9 a10 a11 a12 a13 y11 a14 a15 a16 a17 y12 y13 y14 a18 a19 y15 y16 a20 a21 a22 y17 y18 y19 y20 a23 a24 a25 y21), (mp_arI E a1 0 4 f0), (mp_arI E a2 0 4 f1), (mp_arL E a3 240 g_50)]
        show mp_W E X 5 70 [(0, .ref a0), (1, .int x0), (2, .int x1), (3, .long x2)] [] w3_ 0 0
        refine mp_run mp_k_cX10_write_ok hF mp_tabX10_ok [mp_c (.iconst 0) 0] (by decide +kernel) ?_
        show mp_W E X 5 71 [(0, .ref a0), (1, .int x0), (2, .int x1), (3, .long x2)] [.int 0] w3_ 0 0
        exact mp_iret hF hQ rfl rfl (Nat.le_of_ble_eq_true rfl) (Nat.le_of_ble_eq_true rfl) [0, 1, 2, 3] (w' := w3_) rfl rfl (Or.inr (Or.inr (Or.inl ⟨g_50, rfl, (by first | omega | decide), (by first | omega | decide), (by first | omega | decide), (by first | omega | (have h8 : (0 : Int64).toInt = 0 := rfl; have h9 : (3 : Int64).toInt = 3 := rfl; have h10 : (0 : Int32).toInt = 0 := rfl; have h11 : (3 : Int32).toInt = 3 := rfl; have h12 : (60 : Int32).toInt = 60 := rfl; have h13 : (-1 : Int32).toInt = -1 := rfl; omega)), rfl⟩))) (by first | exact mp_fd_ok mp_k_cX10_write_ok (by decide +kernel) | decide +kernel)
    · have c_13 : z_10.toInt = (-1) := (congrArg Int32.toInt c_13)
      show mp_W E X 5 25 [(0, .ref a0), (1, .int x0), (2, .int x1), (3, .long x2)] [] w2_ 0 0
      refine mp_run mp_k_cX10_write_ok hF mp_tabX10_ok [mp_c (.bipush (-6)) (-6)] (by decide +kernel) ?_
      show mp_W E X 5 27 [(0, .ref a0), (1, .int x0), (2, .int x1), (3, .long x2)] [.int (-6)] w2_ 0 0
      exact mp_iret hF hQ rfl rfl (Nat.le_of_ble_eq_true rfl) (Nat.le_of_ble_eq_true rfl) [0, 1, 2, 3] (w' := w2_) rfl rfl (Or.inr (Or.inr (Or.inr ⟨rfl, (by first | omega | decide), (by first | omega | decide), (by first | omega | (have h8 : (0 : Int64).toInt = 0 := rfl; have h9 : (3 : Int64).toInt = 3 := rfl; have h10 : (0 : Int32).toInt = 0 := rfl; have h11 : (3 : Int32).toInt = 3 := rfl; have h12 : (60 : Int32).toInt = 60 := rfl; have h13 : (-1 : Int32).toInt = -1 := rfl; omega)), rfl⟩))) (by first | exact mp_fd_ok mp_k_cX10_write_ok (by decide +kernel) | decide +kernel)
set_option maxHeartbeats 4000000 in
set_option maxRecDepth 100000 in
theorem bX10_paste_5 (E : mp_E) (a0 a1 a2 a3 a4 a5 a6 a7 a8 a9 a10 a11 a12 a13 a14 a15 a16 a17 a18 a19 a20 a21 a22 a23 a24 a25 : Nat) (f0 : Nat → Int32) (f1 : Nat → Int32) (f2 : Nat → Int64) (f3 : Nat → Int64) (y0 : Int32) (y1 : Int32) (y2 : Int32) (y3 : Int32) (y4 : Int32) (y5 : Int32) (y6 : Int64) (y7 : Int32) (y8 : Int32) (y9 : Int32) (y10 : Int32) (y11 : Int32) (y12 : Int32) (y13 : Int32) (y14 : Int32) (y15 : Int32) (y16 : Int32) (y17 : Int32) (y18 : Int32) (y19 : Int32) (y20 : Int32) (y21 : Int32) (x0 : Int32) (x1 : Int32) (x2 : Int32) (x3 : Int32) (x4 : Int32) (p0 : mp_all f1 4 0 60) (l_y1 : 0 ≤ y1.toInt) (u_y1 : y1.toInt ≤ 1600) (l_y2 : 0 ≤ y2.toInt) (u_y2 : y2.toInt ≤ 1600) (l_y3 : 0 ≤ y3.toInt) (u_y3 : y3.toInt ≤ 4) (l_y4 : 0 ≤ y4.toInt) (u_y4 : y4.toInt ≤ 1600) (l_y11 : 0 ≤ y11.toInt) (u_y11 : y11.toInt ≤ 99) (l_y12 : 0 ≤ y12.toInt) (u_y12 : y12.toInt ≤ 5) (l_y13 : 0 ≤ y13.toInt) (u_y13 : y13.toInt ≤ 12) : mp_Ct E yX10_paste cX10_paste 7 (some FieldType.int) 2 0 0 45 [.ref a0, .int x0, .int x1, .int x2, .int x3, .int x4] [(mp_ob10 a0 y0 a1 a2 a3 a4 a5 y1 y2 y3 y4 y5 y6 y7 y8 y9 y10 a6 a7 a8 a9 a10 a11 a12 a13 y11 a14 a15 a16 a17 y12 y13 y14 a18 a19 y15 y16 a20 a21 a22 y17 y18 y19 y20 a23 a24 a25 y21), (mp_arI E a1 0 4 f0), (mp_arI E a2 0 4 f1), (mp_arL E a3 240 f2), (mp_arL E a4 60 f3)] (fun v w' => (v = some (.int (-2)) ∧ (x0.toInt < 0 ∨ 3 < x0.toInt ∨ x2.toInt < 0 ∨ 3 < x2.toInt) ∧ w' = [(mp_ob10 a0 0 a1 a2 a3 a4 a5 y1 y2 y3 y4 y5 y6 y7 y8 y9 y10 a6 a7 a8 a9 a10 a11 a12 a13 y11 a14 a15 a16 a17 y12 y13 y14 a18 a19 y15 y16 a20 a21 a22 y17 y18 y19 y20 a23 a24 a25 y21), (mp_arI E a1 0 4 f0), (mp_arI E a2 0 4 f1), (mp_arL E a3 240 f2), (mp_arL E a4 60 f3)]) ∨ (v = some (.int (-6)) ∧ 0 ≤ x0.toInt ∧ x0.toInt ≤ 3 ∧ 0 ≤ x2.toInt ∧ x2.toInt ≤ 3 ∧ (0 ≤ x0.toInt ∧ x0.toInt ≤ 3 ∧ 0 ≤ x2.toInt ∧ x2.toInt ≤ 3 ∧ ((f0 x0.toInt.toNat).toInt = -1 ∨ (f0 x2.toInt.toNat).toInt = -1)) ∧ w' = [(mp_ob10 a0 0 a1 a2 a3 a4 a5 y1 y2 y3 y4 y5 y6 y7 y8 y9 y10 a6 a7 a8 a9 a10 a11 a12 a13 y11 a14 a15 a16 a17 y12 y13 y14 a18 a19 y15 y16 a20 a21 a22 y17 y18 y19 y20 a23 a24 a25 y21), (mp_arI E a1 0 4 f0), (mp_arI E a2 0 4 f1), (mp_arL E a3 240 f2), (mp_arL E a4 60 f3)]) ∨ (v = some (.int (-7)) ∧ 0 ≤ x0.toInt ∧ x0.toInt ≤ 3 ∧ 0 ≤ x2.toInt ∧ x2.toInt ≤ 3 ∧ (0 ≤ x0.toInt ∧ x0.toInt ≤ 3 ∧ 0 ≤ x2.toInt ∧ x2.toInt ≤ 3 ∧ (f0 x0.toInt.toNat).toInt ≠ -1 ∧ (f0 x2.toInt.toNat).toInt ≠ -1 ∧ (f0 x0.toInt.toNat).toInt = (f0 x2.toInt.toNat).toInt ∧ (x1.toInt < 0 ∨ x3.toInt < 0 ∨ x4.toInt < 0 ∨ (f1 x0.toInt.toNat).toInt < x1.toInt + x4.toInt ∨ (f1 x2.toInt.toNat).toInt < x3.toInt + x4.toInt)) ∧ w' = [(mp_ob10 a0 0 a1 a2 a3 a4 a5 y1 y2 y3 y4 y5 y6 y7 y8 y9 y10 a6 a7 a8 a9 a10 a11 a12 a13 y11 a14 a15 a16 a17 y12 y13 y14 a18 a19 y15 y16 a20 a21 a22 y17 y18 y19 y20 a23 a24 a25 y21), (mp_arI E a1 0 4 f0), (mp_arI E a2 0 4 f1), (mp_arL E a3 240 f2), (mp_arL E a4 60 f3)]) ∨ (∃ h1 : Nat → Int64, ∃ h2 : Nat → Int64, v = some (.int 0) ∧ 0 ≤ x0.toInt ∧ x0.toInt ≤ 3 ∧ 0 ≤ x2.toInt ∧ x2.toInt ≤ 3 ∧ 0 ≤ x1.toInt ∧ 0 ≤ x3.toInt ∧ 0 ≤ x4.toInt ∧ (0 ≤ x0.toInt ∧ x0.toInt ≤ 3 ∧ 0 ≤ x2.toInt ∧ x2.toInt ≤ 3 ∧ (f0 x0.toInt.toNat).toInt ≠ -1 ∧ (f0 x2.toInt.toNat).toInt ≠ -1 ∧ (f0 x0.toInt.toNat).toInt = (f0 x2.toInt.toNat).toInt ∧ 0 ≤ x1.toInt ∧ 0 ≤ x3.toInt ∧ 0 ≤ x4.toInt ∧ x1.toInt + x4.toInt ≤ (f1 x0.toInt.toNat).toInt ∧ x3.toInt + x4.toInt ≤ (f1 x2.toInt.toNat).toInt) ∧ w' = [(mp_ob10 a0 0 a1 a2 a3 a4 a5 y1 y2 y3 y4 y5 y6 y7 y8 y9 y10 a6 a7 a8 a9 a10 a11 a12 a13 y11 a14 a15 a16 a17 y12 y13 y14 a18 a19 y15 y16 a20 a21 a22 y17 y18 y19 y20 a23 a24 a25 y21), (mp_arI E a1 0 4 f0), (mp_arI E a2 0 4 f1), (mp_arL E a3 240 h1), (mp_arL E a4 60 h2)]) ∨ (v = some (.int (-8)) ∧ 0 ≤ x0.toInt ∧ x0.toInt ≤ 3 ∧ 0 ≤ x2.toInt ∧ x2.toInt ≤ 3 ∧ (0 ≤ x0.toInt ∧ x0.toInt ≤ 3 ∧ 0 ≤ x2.toInt ∧ x2.toInt ≤ 3 ∧ (f0 x0.toInt.toNat).toInt ≠ -1 ∧ (f0 x2.toInt.toNat).toInt ≠ -1 ∧ (f0 x0.toInt.toNat).toInt ≠ (f0 x2.toInt.toNat).toInt) ∧ w' = [(mp_ob10 a0 0 a1 a2 a3 a4 a5 y1 y2 y3 y4 y5 y6 y7 y8 y9 y10 a6 a7 a8 a9 a10 a11 a12 a13 y11 a14 a15 a16 a17 y12 y13 y14 a18 a19 y15 y16 a20 a21 a22 y17 y18 y19 y20 a23 a24 a25 y21), (mp_arI E a1 0 4 f0), (mp_arI E a2 0 4 f1), (mp_arL E a3 240 f2), (mp_arL E a4 60 f3)])) := by
  refine mp_met false (by decide) (by decide) (Nat.le_of_ble_eq_true rfl) (fun X hF hQ => ?_)
  have hF : mp_F E X (RX10, cX10_paste, 7, (2, 0, 0, 45), (some FieldType.int), false) := hF
  let w1_ : va_W := [(mp_ob10 a0 y0 a1 a2 a3 a4 a5 y1 y2 y3 y4 y5 y6 y7 y8 y9 y10 a6 a7 a8 a9 a10 a11 a12 a13 y11 a14 a15 a16 a17 y12 y13 y14 a18 a19 y15 y16 a20 a21 a22 y17 y18 y19 y20 a23 a24 a25 y21), (mp_arI E a1 0 4 f0), (mp_arI E a2 0 4 f1), (mp_arL E a3 240 f2), (mp_arL E a4 60 f3)]
  show mp_W E X 7 0 [(0, .ref a0), (1, .int x0), (2, .int x1), (3, .int x2), (4, .int x3), (5, .int x4)] [] w1_ 0 0
  refine mp_run mp_k_cX10_paste_ok hF mp_tabX10_ok [mp_i (.aload_n 0), mp_c (.iconst 0) 0, mp_h (.putfield 92) [0, 0]] (by decide +kernel) ?_
  refine And.intro rfl (And.intro rfl (And.intro rfl (And.intro rfl (And.intro (Nat.le_of_ble_eq_true rfl) ?_))))
  let w2_ : va_W := [(mp_ob10 a0 0 a1 a2 a3 a4 a5 y1 y2 y3 y4 y5 y6 y7 y8 y9 y10 a6 a7 a8 a9 a10 a11 a12 a13 y11 a14 a15 a16 a17 y12 y13 y14 a18 a19 y15 y16 a20 a21 a22 y17 y18 y19 y20 a23 a24 a25 y21), (mp_arI E a1 0 4 f0), (mp_arI E a2 0 4 f1), (mp_arL E a3 240 f2), (mp_arL E a4 60 f3)]
  show mp_W E X 7 5 [(0, .ref a0), (1, .int x0), (2, .int x1), (3, .int x2), (4, .int x3), (5, .int x4)] [] w2_ 0 0
  refine mp_run mp_k_cX10_paste_ok hF mp_tabX10_ok [mp_i (.iload_n 1)] (by decide +kernel) ?_
  show mp_W E X 7 6 [(0, .ref a0), (1, .int x0), (2, .int x1), (3, .int x2), (4, .int x3), (5, .int x4)] [.int x0] w2_ 0 0
  refine mp_callS hF (As := [.int x0]) (rest := []) (wr := w2_) (bX10_isSlot_1 E x0) mp_lkX10_101 [] [0, 1, 2, 3, 4] rfl rfl rfl rfl rfl ⟨(Nat.le_of_ble_eq_true rfl), (Nat.le_of_ble_eq_true rfl), (Nat.le_of_ble_eq_true rfl), (Nat.le_of_ble_eq_true rfl)⟩ (Nat.le_of_ble_eq_true rfl) (by first | exact mp_fd_ok mp_k_cX10_paste_ok (by decide +kernel) | decide +kernel) (fun v_1 w_2 h_3 => ?_)
  rcases h_3 with ⟨rfl, x_4, rfl⟩ | ⟨rfl, c_5, c_6, x_7, rfl⟩
  · skip
    show mp_W E X 7 9 [(0, .ref a0), (1, .int x0), (2, .int x1), (3, .int x2), (4, .int x3), (5, .int x4)] [.int 0] w2_ 0 0
    refine mp_run mp_k_cX10_paste_ok hF mp_tabX10_ok [mp_h (.ifCond .eq 10) [19]] (by decide +kernel) ?_
    refine And.intro (fun _ => ?_) (fun c_8 => absurd c_8 (by decide))
    show mp_W E X 7 19 [(0, .ref a0), (1, .int x0), (2, .int x1), (3, .int x2), (4, .int x3), (5, .int x4)] [] w2_ 0 0
    refine mp_run mp_k_cX10_paste_ok hF mp_tabX10_ok [mp_c (.bipush (-2)) (-2)] (by decide +kernel) ?_
    show mp_W E X 7 21 [(0, .ref a0), (1, .int x0), (2, .int x1), (3, .int x2), (4, .int x3), (5, .int x4)] [.int (-2)] w2_ 0 0
    exact mp_iret hF hQ rfl rfl (Nat.le_of_ble_eq_true rfl) (Nat.le_of_ble_eq_true rfl) [0, 1, 2, 3, 4] (w' := w2_) rfl rfl (Or.inl ⟨rfl, (by first | omega | (have h8 : (0 : Int64).toInt = 0 := rfl; have h9 : (3 : Int64).toInt = 3 := rfl; have h10 : (0 : Int32).toInt = 0 := rfl; have h11 : (3 : Int32).toInt = 3 := rfl; have h12 : (60 : Int32).toInt = 60 := rfl; have h13 : (-1 : Int32).toInt = -1 := rfl; omega)), rfl⟩) (by first | exact mp_fd_ok mp_k_cX10_paste_ok (by decide +kernel) | decide +kernel)
  · skip
    have c_5 : 0 ≤ x0.toInt := c_5
    have c_6 : x0.toInt ≤ 3 := c_6
    show mp_W E X 7 9 [(0, .ref a0), (1, .int x0), (2, .int x1), (3, .int x2), (4, .int x3), (5, .int x4)] [.int 1] w2_ 0 0
    refine mp_run mp_k_cX10_paste_ok hF mp_tabX10_ok [mp_h (.ifCond .eq 10) [19]] (by decide +kernel) ?_
    refine And.intro (fun c_9 => absurd c_9 (by decide)) (fun _ => ?_)
    show mp_W E X 7 12 [(0, .ref a0), (1, .int x0), (2, .int x1), (3, .int x2), (4, .int x3), (5, .int x4)] [] w2_ 0 0
    refine mp_run mp_k_cX10_paste_ok hF mp_tabX10_ok [mp_i (.iload_n 3)] (by decide +kernel) ?_
    show mp_W E X 7 13 [(0, .ref a0), (1, .int x0), (2, .int x1), (3, .int x2), (4, .int x3), (5, .int x4)] [.int x2] w2_ 0 0
    refine mp_callS hF (As := [.int x2]) (rest := []) (wr := w2_) (bX10_isSlot_1 E x2) mp_lkX10_101 [] [0, 1, 2, 3, 4] rfl rfl rfl rfl rfl ⟨(Nat.le_of_ble_eq_true rfl), (Nat.le_of_ble_eq_true rfl), (Nat.le_of_ble_eq_true rfl), (Nat.le_of_ble_eq_true rfl)⟩ (Nat.le_of_ble_eq_true rfl) (by first | exact mp_fd_ok mp_k_cX10_paste_ok (by decide +kernel) | decide +kernel) (fun v_10 w_11 h_12 => ?_)
    rcases h_12 with ⟨rfl, x_13, rfl⟩ | ⟨rfl, c_14, c_15, x_16, rfl⟩
    · skip
      show mp_W E X 7 16 [(0, .ref a0), (1, .int x0), (2, .int x1), (3, .int x2), (4, .int x3), (5, .int x4)] [.int 0] w2_ 0 0
      refine mp_run mp_k_cX10_paste_ok hF mp_tabX10_ok [mp_h (.ifCond .ne 6) [22]] (by decide +kernel) ?_
      refine And.intro (fun c_17 => absurd c_17 (by decide)) (fun _ => ?_)
      show mp_W E X 7 19 [(0, .ref a0), (1, .int x0), (2, .int x1), (3, .int x2), (4, .int x3), (5, .int x4)] [] w2_ 0 0
      refine mp_run mp_k_cX10_paste_ok hF mp_tabX10_ok [mp_c (.bipush (-2)) (-2)] (by decide +kernel) ?_
      show mp_W E X 7 21 [(0, .ref a0), (1, .int x0), (2, .int x1), (3, .int x2), (4, .int x3), (5, .int x4)] [.int (-2)] w2_ 0 0
      exact mp_iret hF hQ rfl rfl (Nat.le_of_ble_eq_true rfl) (Nat.le_of_ble_eq_true rfl) [0, 1, 2, 3, 4] (w' := w2_) rfl rfl (Or.inl ⟨rfl, (by first | omega | (have h8 : (0 : Int64).toInt = 0 := rfl; have h9 : (3 : Int64).toInt = 3 := rfl; have h10 : (0 : Int32).toInt = 0 := rfl; have h11 : (3 : Int32).toInt = 3 := rfl; have h12 : (60 : Int32).toInt = 60 := rfl; have h13 : (-1 : Int32).toInt = -1 := rfl; omega)), rfl⟩) (by first | exact mp_fd_ok mp_k_cX10_paste_ok (by decide +kernel) | decide +kernel)
    · skip
      have c_14 : 0 ≤ x2.toInt := c_14
      have c_15 : x2.toInt ≤ 3 := c_15
      show mp_W E X 7 16 [(0, .ref a0), (1, .int x0), (2, .int x1), (3, .int x2), (4, .int x3), (5, .int x4)] [.int 1] w2_ 0 0
      refine mp_run mp_k_cX10_paste_ok hF mp_tabX10_ok [mp_h (.ifCond .ne 6) [22]] (by decide +kernel) ?_
      refine And.intro (fun _ => ?_) (fun c_18 => absurd c_18 (by decide))
      show mp_W E X 7 22 [(0, .ref a0), (1, .int x0), (2, .int x1), (3, .int x2), (4, .int x3), (5, .int x4)] [] w2_ 0 0
      refine mp_run mp_k_cX10_paste_ok hF mp_tabX10_ok [mp_i (.aload_n 0), mp_h (.getfield 7) [1, 0], mp_i (.iload_n 1), mp_h .iaload [1], mp_c (.iconst (-1)) (-1), mp_h (.if_icmp .eq 13) [42]] (by decide +kernel) ?_
      refine And.intro rfl (And.intro rfl ?_)
      refine And.intro rfl (And.intro rfl (And.intro (vp_in_iff.mpr (by omega)) ?_))
      intro z_19 h_20
      have e_21 : z_19.toInt = (f0 x0.toInt.toNat).toInt := congrArg Int32.toInt h_20
      refine And.intro (fun c_22 => ?_) (fun c_22 => ?_)
      · have c_22 : z_19.toInt = (-1) := (congrArg Int32.toInt c_22)
        show mp_W E X 7 42 [(0, .ref a0), (1, .int x0), (2, .int x1), (3, .int x2), (4, .int x3), (5, .int x4)] [] w2_ 0 0
        refine mp_run mp_k_cX10_paste_ok hF mp_tabX10_ok [mp_c (.bipush (-6)) (-6)] (by decide +kernel) ?_
        show mp_W E X 7 44 [(0, .ref a0), (1, .int x0), (2, .int x1), (3, .int x2), (4, .int x3), (5, .int x4)] [.int (-6)] w2_ 0 0
        exact mp_iret hF hQ rfl rfl (Nat.le_of_ble_eq_true rfl) (Nat.le_of_ble_eq_true rfl) [0, 1, 2, 3, 4] (w' := w2_) rfl rfl (Or.inr (Or.inl ⟨rfl, (by first | omega | decide), (by first | omega | decide), (by first | omega | decide), (by first | omega | decide), (by first | omega | (have h8 : (0 : Int64).toInt = 0 := rfl; have h9 : (3 : Int64).toInt = 3 := rfl; have h10 : (0 : Int32).toInt = 0 := rfl; have h11 : (3 : Int32).toInt = 3 := rfl; have h12 : (60 : Int32).toInt = 60 := rfl; have h13 : (-1 : Int32).toInt = -1 := rfl; omega)), rfl⟩)) (by first | exact mp_fd_ok mp_k_cX10_paste_ok (by decide +kernel) | decide +kernel)
      · have c_22 : z_19.toInt ≠ (-1) := c_22
        show mp_W E X 7 32 [(0, .ref a0), (1, .int x0), (2, .int x1), (3, .int x2), (4, .int x3), (5, .int x4)] [] w2_ 0 0
        refine mp_run mp_k_cX10_paste_ok hF mp_tabX10_ok [mp_i (.aload_n 0), mp_h (.getfield 7) [1, 0], mp_i (.iload_n 3), mp_h .iaload [1], mp_c (.iconst (-1)) (-1), mp_h (.if_icmp .ne 6) [45]] (by decide +kernel) ?_
        refine And.intro rfl (And.intro rfl ?_)
        refine And.intro rfl (And.intro rfl (And.intro (vp_in_iff.mpr (by omega)) ?_))
        intro z_23 h_24
        have e_25 : z_23.toInt = (f0 x2.toInt.toNat).toInt := congrArg Int32.toInt h_24
        refine And.intro (fun c_26 => ?_) (fun c_26 => ?_)
        · have c_26 : z_23.toInt ≠ (-1) := c_26
          show mp_W E X 7 45 [(0, .ref a0), (1, .int x0), (2, .int x1), (3, .int x2), (4, .int x3), (5, .int x4)] [] w2_ 0 0
          refine mp_run mp_k_cX10_paste_ok hF mp_tabX10_ok [mp_i (.aload_n 0), mp_h (.getfield 7) [1, 0], mp_i (.iload_n 1), mp_h .iaload [1], mp_i (.aload_n 0), mp_h (.getfield 7) [1, 0], mp_i (.iload_n 3), mp_h .iaload [1], mp_h (.if_icmp .eq 6) [63]] (by decide +kernel) ?_
          refine And.intro rfl (And.intro rfl ?_)
          refine And.intro rfl (And.intro rfl (And.intro (vp_in_iff.mpr (by omega)) ?_))
          intro z_27 h_28
          have k_29 : z_19 = z_27 := h_20.trans h_28.symm
          subst k_29
          refine And.intro rfl (And.intro rfl ?_)
          refine And.intro rfl (And.intro rfl (And.intro (vp_in_iff.mpr (by omega)) ?_))
          intro z_30 h_31
          have k_32 : z_23 = z_30 := h_24.trans h_31.symm
          subst k_32
          refine And.intro (fun c_33 => ?_) (fun c_33 => ?_)
          · have c_33 : z_19.toInt = z_23.toInt := (congrArg Int32.toInt c_33)
            show mp_W E X 7 63 [(0, .ref a0), (1, .int x0), (2, .int x1), (3, .int x2), (4, .int x3), (5, .int x4)] [] w2_ 0 0
            refine mp_run mp_k_cX10_paste_ok hF mp_tabX10_ok [mp_i (.iload_n 2), mp_h (.ifCond .lt 48) [112]] (by decide +kernel) ?_
            refine And.intro (fun c_34 => ?_) (fun c_34 => ?_)
            · have c_34 : x1.toInt < 0 := c_34
              show mp_W E X 7 112 [(0, .ref a0), (1, .int x0), (2, .int x1), (3, .int x2), (4, .int x3), (5, .int x4)] [] w2_ 0 0
              refine mp_run mp_k_cX10_paste_ok hF mp_tabX10_ok [mp_c (.bipush (-7)) (-7)] (by decide +kernel) ?_
              show mp_W E X 7 114 [(0, .ref a0), (1, .int x0), (2, .int x1), (3, .int x2), (4, .int x3), (5, .int x4)] [.int (-7)] w2_ 0 0
              exact mp_iret hF hQ rfl rfl (Nat.le_of_ble_eq_true rfl) (Nat.le_of_ble_eq_true rfl) [0, 1, 2, 3, 4] (w' := w2_) rfl rfl (Or.inr (Or.inr (Or.inl ⟨rfl, (by first | omega | decide), (by first | omega | decide), (by first | omega | decide), (by first | omega | decide), (by first | omega | (have h8 : (0 : Int64).toInt = 0 := rfl; have h9 : (3 : Int64).toInt = 3 := rfl; have h10 : (0 : Int32).toInt = 0 := rfl; have h11 : (3 : Int32).toInt = 3 := rfl; have h12 : (60 : Int32).toInt = 60 := rfl; have h13 : (-1 : Int32).toInt = -1 := rfl; omega)), rfl⟩))) (by first | exact mp_fd_ok mp_k_cX10_paste_ok (by decide +kernel) | decide +kernel)
            · have c_34 : 0 ≤ x1.toInt := c_34
              show mp_W E X 7 67 [(0, .ref a0), (1, .int x0), (2, .int x1), (3, .int x2), (4, .int x3), (5, .int x4)] [] w2_ 0 0
              refine mp_run mp_k_cX10_paste_ok hF mp_tabX10_ok [mp_i (.iload 4), mp_h (.ifCond .lt 43) [112]] (by decide +kernel) ?_
              refine And.intro (fun c_35 => ?_) (fun c_35 => ?_)
              · have c_35 : x3.toInt < 0 := c_35
                show mp_W E X 7 112 [(0, .ref a0), (1, .int x0), (2, .int x1), (3, .int x2), (4, .int x3), (5, .int x4)] [] w2_ 0 0
                refine mp_run mp_k_cX10_paste_ok hF mp_tabX10_ok [mp_c (.bipush (-7)) (-7)] (by decide +kernel) ?_
                show mp_W E X 7 114 [(0, .ref a0), (1, .int x0), (2, .int x1), (3, .int x2), (4, .int x3), (5, .int x4)] [.int (-7)] w2_ 0 0
                exact mp_iret hF hQ rfl rfl (Nat.le_of_ble_eq_true rfl) (Nat.le_of_ble_eq_true rfl) [0, 1, 2, 3, 4] (w' := w2_) rfl rfl (Or.inr (Or.inr (Or.inl ⟨rfl, (by first | omega | decide), (by first | omega | decide), (by first | omega | decide), (by first | omega | decide), (by first | omega | (have h8 : (0 : Int64).toInt = 0 := rfl; have h9 : (3 : Int64).toInt = 3 := rfl; have h10 : (0 : Int32).toInt = 0 := rfl; have h11 : (3 : Int32).toInt = 3 := rfl; have h12 : (60 : Int32).toInt = 60 := rfl; have h13 : (-1 : Int32).toInt = -1 := rfl; omega)), rfl⟩))) (by first | exact mp_fd_ok mp_k_cX10_paste_ok (by decide +kernel) | decide +kernel)
              · have c_35 : 0 ≤ x3.toInt := c_35
                show mp_W E X 7 72 [(0, .ref a0), (1, .int x0), (2, .int x1), (3, .int x2), (4, .int x3), (5, .int x4)] [] w2_ 0 0
                refine mp_run mp_k_cX10_paste_ok hF mp_tabX10_ok [mp_i (.iload 5), mp_h (.ifCond .lt 38) [112]] (by decide +kernel) ?_
                refine And.intro (fun c_36 => ?_) (fun c_36 => ?_)
                · have c_36 : x4.toInt < 0 := c_36
                  show mp_W E X 7 112 [(0, .ref a0), (1, .int x0), (2, .int x1), (3, .int x2), (4, .int x3), (5, .int x4)] [] w2_ 0 0
                  refine mp_run mp_k_cX10_paste_ok hF mp_tabX10_ok [mp_c (.bipush (-7)) (-7)] (by decide +kernel) ?_
                  show mp_W E X 7 114 [(0, .ref a0), (1, .int x0), (2, .int x1), (3, .int x2), (4, .int x3), (5, .int x4)] [.int (-7)] w2_ 0 0
                  exact mp_iret hF hQ rfl rfl (Nat.le_of_ble_eq_true rfl) (Nat.le_of_ble_eq_true rfl) [0, 1, 2, 3, 4] (w' := w2_) rfl rfl (Or.inr (Or.inr (Or.inl ⟨rfl, (by first | omega | decide), (by first | omega | decide), (by first | omega | decide), (by first | omega | decide), (by first | omega | (have h8 : (0 : Int64).toInt = 0 := rfl; have h9 : (3 : Int64).toInt = 3 := rfl; have h10 : (0 : Int32).toInt = 0 := rfl; have h11 : (3 : Int32).toInt = 3 := rfl; have h12 : (60 : Int32).toInt = 60 := rfl; have h13 : (-1 : Int32).toInt = -1 := rfl; omega)), rfl⟩))) (by first | exact mp_fd_ok mp_k_cX10_paste_ok (by decide +kernel) | decide +kernel)
                · have c_36 : 0 ≤ x4.toInt := c_36
                  show mp_W E X 7 77 [(0, .ref a0), (1, .int x0), (2, .int x1), (3, .int x2), (4, .int x3), (5, .int x4)] [] w2_ 0 0
                  refine mp_run mp_k_cX10_paste_ok hF mp_tabX10_ok [mp_i (.iload_n 2), mp_i .i2l, mp_i (.iload 5), mp_i .i2l, mp_i .ladd, mp_i (.aload_n 0), mp_h (.getfield 13) [2, 0], mp_i (.iload_n 1), mp_h .iaload [2], mp_i .i2l, mp_i .lcmp, mp_h (.ifCond .gt 21) [112]] (by decide +kernel) ?_
                  intro z_37 h_38
                  have e_39 : z_37.toInt = x1.toInt := mp_i2l h_38
                  intro z_40 h_41
                  have e_42 : z_40.toInt = x4.toInt := mp_i2l h_41
                  intro z_43 h_44
                  have e_45 := mp_bnd x1
                  have e_46 := mp_bnd x4
                  have e_47 : z_43.toInt = z_37.toInt + z_40.toInt := mp_ladd (a := z_37.toInt) (b := z_40.toInt) h_44 rfl rfl (by omega) (by omega)
                  refine And.intro rfl (And.intro rfl ?_)
                  refine And.intro rfl (And.intro rfl (And.intro (vp_in_iff.mpr (by omega)) ?_))
                  intro z_48 h_49
                  have e_50 : 0 ≤ z_48.toInt ∧ z_48.toInt ≤ 60 := mp_all_ld h_49 p0 (by omega) (by omega)
                  have e_51 : z_48.toInt = (f1 x0.toInt.toNat).toInt := congrArg Int32.toInt h_49
                  intro z_52 h_53
                  have e_54 : z_52.toInt = z_48.toInt := mp_i2l h_53
                  intro z_55 h_56
                  refine And.intro (fun c_57 => ?_) (fun c_57 => ?_)
                  · have c_57 : z_52.toInt < z_43.toInt := mp_lc_gt h_56 c_57
                    show mp_W E X 7 112 [(0, .ref a0), (1, .int x0), (2, .int x1), (3, .int x2), (4, .int x3), (5, .int x4)] [] w2_ 0 0
                    refine mp_run mp_k_cX10_paste_ok hF mp_tabX10_ok [mp_c (.bipush (-7)) (-7)] (by decide +kernel) ?_
                    show mp_W E X 7 114 [(0, .ref a0), (1, .int x0), (2, .int x1), (3, .int x2), (4, .int x3), (5, .int x4)] [.int (-7)] w2_ 0 0
                    exact mp_iret hF hQ rfl rfl (Nat.le_of_ble_eq_true rfl) (Nat.le_of_ble_eq_true rfl) [0, 1, 2, 3, 4] (w' := w2_) rfl rfl (Or.inr (Or.inr (Or.inl ⟨rfl, (by first | omega | decide), (by first | omega | decide), (by first | omega | decide), (by first | omega | decide), (by first | omega | (have h8 : (0 : Int64).toInt = 0 := rfl; have h9 : (3 : Int64).toInt = 3 := rfl; have h10 : (0 : Int32).toInt = 0 := rfl; have h11 : (3 : Int32).toInt = 3 := rfl; have h12 : (60 : Int32).toInt = 60 := rfl; have h13 : (-1 : Int32).toInt = -1 := rfl; omega)), rfl⟩))) (by first | exact mp_fd_ok mp_k_cX10_paste_ok (by decide +kernel) | decide +kernel)
                  · have c_57 : z_43.toInt ≤ z_52.toInt := mp_lc_le h_56 c_57
                    show mp_W E X 7 94 [(0, .ref a0), (1, .int x0), (2, .int x1), (3, .int x2), (4, .int x3), (5, .int x4)] [] w2_ 0 0
                    refine mp_run mp_k_cX10_paste_ok hF mp_tabX10_ok [mp_i (.iload 4), mp_i .i2l, mp_i (.iload 5), mp_i .i2l, mp_i .ladd, mp_i (.aload_n 0), mp_h (.getfield 13) [2, 0], mp_i (.iload_n 3), mp_h .iaload [2], mp_i .i2l, mp_i .lcmp, mp_h (.ifCond .le 6) [115]] (by decide +kernel) ?_
                    intro z_58 h_59
                    have e_60 : z_58.toInt = x3.toInt := mp_i2l h_59
                    intro z_61 h_62
                    have e_63 : z_61.toInt = x4.toInt := mp_i2l h_62
                    intro z_64 h_65
                    have e_66 := mp_bnd x3
                    have e_67 := mp_bnd x4
                    have e_68 : z_64.toInt = z_58.toInt + z_61.toInt := mp_ladd (a := z_58.toInt) (b := z_61.toInt) h_65 rfl rfl (by omega) (by omega)
                    refine And.intro rfl (And.intro rfl ?_)
                    refine And.intro rfl (And.intro rfl (And.intro (vp_in_iff.mpr (by omega)) ?_))
                    intro z_69 h_70
                    have e_71 : 0 ≤ z_69.toInt ∧ z_69.toInt ≤ 60 := mp_all_ld h_70 p0 (by omega) (by omega)
                    have e_72 : z_69.toInt = (f1 x2.toInt.toNat).toInt := congrArg Int32.toInt h_70
                    intro z_73 h_74
                    have e_75 : z_73.toInt = z_69.toInt := mp_i2l h_74
                    intro z_76 h_77
                    refine And.intro (fun c_78 => ?_) (fun c_78 => ?_)
                    · have c_78 : z_64.toInt ≤ z_73.toInt := mp_lc_le h_77 c_78
                      show mp_W E X 7 115 [(0, .ref a0), (1, .int x0), (2, .int x1), (3, .int x2), (4, .int x3), (5, .int x4)] [] w2_ 0 0
                      refine mp_run mp_k_cX10_paste_ok hF mp_tabX10_ok [mp_c (.iconst 0) 0, mp_i (.istore 6)] (by decide +kernel) ?_
                      show mp_W E X 7 118 [(6, .int 0), (0, .ref a0), (1, .int x0), (2, .int x1), (3, .int x2), (4, .int x3), (5, .int x4)] [] w2_ 0 0
                      have lp_83 : ∀ (d_84 : Nat) (i_79 : Int32) (g_80 : Nat → Int64), 0 ≤ i_79.toInt → i_79.toInt ≤ 60 → x4.toInt - i_79.toInt ≤ (d_84 : Int) → mp_W E X 7 118 [(6, .int i_79), (0, .ref a0), (1, .int x0), (2, .int x1), (3, .int x2), (4, .int x3), (5, .int x4)] [] [(mp_ob10 a0 0 a1 a2 a3 a4 a5 y1 y2 y3 y4 y5 y6 y7 y8 y9 y10 a6 a7 a8 a9 a10 a11 a12 a13 y11 a14 a15 a16 a17 y12 y13 y14 a18 a19 y15 y16 a20 a21 a22 y17 y18 y19 y20 a23 a24 a25 y21), (mp_arI E a1 0 4 f0), (mp_arI E a2 0 4 f1), (mp_arL E a3 240 f2), (mp_arL E a4 60 g_80)] 0 0 := by
                        intro d_84
                        induction d_84 using Nat.strongRecOn with
                        | ind d_84 ih_85 =>
                          intro i_79 g_80 l_81 u_82 hm_86
                          refine mp_run mp_k_cX10_paste_ok hF mp_tabX10_ok [mp_i (.iload 6), mp_i (.iload 5), mp_h (.if_icmp .ge 30) [152]] (by decide +kernel) ?_
                          refine And.intro (fun c_87 => ?_) (fun c_87 => ?_)
                          · have c_87 : x4.toInt ≤ i_79.toInt := c_87
                            let w3_ : va_W := [(mp_ob10 a0 0 a1 a2 a3 a4 a5 y1 y2 y3 y4 y5 y6 y7 y8 y9 y10 a6 a7 a8 a9 a10 a11 a12 a13 y11 a14 a15 a16 a17 y12 y13 y14 a18 a19 y15 y16 a20 a21 a22 y17 y18 y19 y20 a23 a24 a25 y21), (mp_arI E a1 0 4 f0), (mp_arI E a2 0 4 f1), (mp_arL E a3 240 f2), (mp_arL E a4 60 g_80)]
                            show mp_W E X 7 152 [(6, .int i_79), (0, .ref a0), (1, .int x0), (2, .int x1), (3, .int x2), (4, .int x3), (5, .int x4)] [] w3_ 0 0
                            refine mp_run mp_k_cX10_paste_ok hF mp_tabX10_ok [mp_c (.iconst 0) 0, mp_i (.istore 6)] (by decide +kernel) ?_
                            show mp_W E X 7 155 [(6, .int 0), (0, .ref a0), (1, .int x0), (2, .int x1), (3, .int x2), (4, .int x3), (5, .int x4)] [] w3_ 0 0
                            have lp_92 : ∀ (d_93 : Nat) (i_88 : Int32) (g_89 : Nat → Int64), 0 ≤ i_88.toInt → i_88.toInt ≤ 60 → x4.toInt - i_88.toInt ≤ (d_93 : Int) → mp_W E X 7 155 [(6, .int i_88), (0, .ref a0), (1, .int x0), (2, .int x1), (3, .int x2), (4, .int x3), (5, .int x4)] [] [(mp_ob10 a0 0 a1 a2 a3 a4 a5 y1 y2 y3 y4 y5 y6 y7 y8 y9 y10 a6 a7 a8 a9 a10 a11 a12 a13 y11 a14 a15 a16 a17 y12 y13 y14 a18 a19 y15 y16 a20 a21 a22 y17 y18 y19 y20 a23 a24 a25 y21), (mp_arI E a1 0 4 f0), (mp_arI E a2 0 4 f1), (mp_arL E a3 240 g_89), (mp_arL E a4 60 g_80)] 0 0 := by
                              intro d_93
                              induction d_93 using Nat.strongRecOn with
                              | ind d_93 ih_94 =>
                                intro i_88 g_89 l_90 u_91 hm_95
                                refine mp_run mp_k_cX10_paste_ok hF mp_tabX10_ok [mp_i (.iload 6), mp_i (.iload 5), mp_h (.if_icmp .ge 31) [190]] (by decide +kernel) ?_
                                refine And.intro (fun c_96 => ?_) (fun c_96 => ?_)
                                · have c_96 : x4.toInt ≤ i_88.toInt := c_96
                                  let w4_ : va_W := [(mp_ob10 a0 0 a1 a2 a3 a4 a5 y1 y2 y3 y4 y5 y6 y7 y8 y9 y10 a6 a7 a8 a9 a10 a11 a12 a13 y11 a14 a15 a16 a17 y12 y13 y14 a18 a19 y15 y16 a20 a21 a22 y17 y18 y19 y20 a23 a24 a25 y21), (mp_arI E a1 0 4 f0), (mp_arI E a2 0 4 f1), (mp_arL E a3 240 g_89), (mp_arL E a4 60 g_80)]
                                  show mp_W E X 7 190 [(6, .int i_88), (0, .ref a0), (1, .int x0), (2, .int x1), (3, .int x2), (4, .int x3), (5, .int x4)] [] w4_ 0 0
                                  refine mp_run mp_k_cX10_paste_ok hF mp_tabX10_ok [mp_c (.iconst 0) 0] (by decide +kernel) ?_
                                  show mp_W E X 7 191 [(6, .int i_88), (0, .ref a0), (1, .int x0), (2, .int x1), (3, .int x2), (4, .int x3), (5, .int x4)] [.int 0] w4_ 0 0
                                  exact mp_iret hF hQ rfl rfl (Nat.le_of_ble_eq_true rfl) (Nat.le_of_ble_eq_true rfl) [0, 1, 2, 3, 4] (w' := w4_) rfl rfl (Or.inr (Or.inr (Or.inr (Or.inl ⟨g_89, g_80, rfl, (by first | omega | decide), (by first | omega | decide), (by first | omega | decide), (by first | omega | decide), (by first | omega | decide), (by first | omega | decide), (by first | omega | decide), (by first | omega | (have h8 : (0 : Int64).toInt = 0 := rfl; have h9 : (3 : Int64).toInt = 3 := rfl; have h10 : (0 : Int32).toInt = 0 := rfl; have h11 : (3 : Int32).toInt = 3 := rfl; have h12 : (60 : Int32).toInt = 60 := rfl; have h13 : (-1 : Int32).toInt = -1 := rfl; omega)), rfl⟩)))) (by first | exact mp_fd_ok mp_k_cX10_paste_ok (by decide +kernel) | decide +kernel)
                                · have c_96 : i_88.toInt < x4.toInt := c_96
                                  let w5_ : va_W := [(mp_ob10 a0 0 a1 a2 a3 a4 a5 y1 y2 y3 y4 y5 y6 y7 y8 y9 y10 a6 a7 a8 a9 a10 a11 a12 a13 y11 a14 a15 a16 a17 y12 y13 y14 a18 a19 y15 y16 a20 a21 a22 y17 y18 y19 y20 a23 a24 a25 y21), (mp_arI E a1 0 4 f0), (mp_arI E a2 0 4 f1), (mp_arL E a3 240 g_89), (mp_arL E a4 60 g_80)]
                                  show mp_W E X 7 162 [(6, .int i_88), (0, .ref a0), (1, .int x0), (2, .int x1), (3, .int x2), (4, .int x3), (5, .int x4)] [] w5_ 0 0
                                  refine mp_run mp_k_cX10_paste_ok hF mp_tabX10_ok [mp_i (.aload_n 0), mp_h (.getfield 16) [3, 0], mp_c (.bipush 60) 60, mp_i (.iload_n 3), mp_i .imul, mp_i (.iload 4), mp_i .iadd, mp_i (.iload 6), mp_i .iadd, mp_i (.aload_n 0), mp_h (.getfield 20) [4, 0], mp_i (.iload 6), mp_h .laload [4], mp_h .lastore [3]] (by decide +kernel) ?_
                                  refine And.intro rfl (And.intro rfl ?_)
                                  intro z_97 h_98
                                  have e_99 : z_97.toInt = 60 * x2.toInt := mp_mul (a := 60) (b := x2.toInt) h_98 (by decide) rfl (by omega) (by omega)
                                  intro z_100 h_101
                                  have e_102 : z_100.toInt = z_97.toInt + x3.toInt := mp_add (a := z_97.toInt) (b := x3.toInt) h_101 rfl rfl (by omega) (by omega)
                                  intro z_103 h_104
                                  have e_105 : z_103.toInt = z_100.toInt + i_88.toInt := mp_add (a := z_100.toInt) (b := i_88.toInt) h_104 rfl rfl (by omega) (by omega)
                                  refine And.intro rfl (And.intro rfl ?_)
                                  refine And.intro rfl (And.intro rfl (And.intro (vp_in_iff.mpr (by omega)) ?_))
                                  intro z_106 h_107
                                  refine And.intro rfl (And.intro rfl (And.intro (vp_in_iff.mpr (by omega)) ?_))
                                  intro g_108 h_109
                                  let w6_ : va_W := [(mp_ob10 a0 0 a1 a2 a3 a4 a5 y1 y2 y3 y4 y5 y6 y7 y8 y9 y10 a6 a7 a8 a9 a10 a11 a12 a13 y11 a14 a15 a16 a17 y12 y13 y14 a18 a19 y15 y16 a20 a21 a22 y17 y18 y19 y20 a23 a24 a25 y21), (mp_arI E a1 0 4 f0), (mp_arI E a2 0 4 f1), (mp_arL E a3 240 g_108), (mp_arL E a4 60 g_80)]
                                  show mp_W E X 7 184 [(6, .int i_88), (0, .ref a0), (1, .int x0), (2, .int x1), (3, .int x2), (4, .int x3), (5, .int x4)] [] w6_ 0 0
                                  refine mp_run mp_k_cX10_paste_ok hF mp_tabX10_ok [mp_c (.iinc 6 1) 1, mp_h (.goto (-32)) [155]] (by decide +kernel) ?_
                                  intro z_110 h_111
                                  have e_112 : z_110.toInt = i_88.toInt + 1 := mp_add (a := i_88.toInt) (b := 1) h_111 rfl (by decide) (by omega) (by omega)
                                  show mp_W E X 7 155 [(6, .int z_110), (0, .ref a0), (1, .int x0), (2, .int x1), (3, .int x2), (4, .int x3), (5, .int x4)] [] w6_ 0 0
                                  exact mp_sub [0, 1, 2, 3, 4, 5, 6] rfl [0, 1, 2, 3, 4] rfl rfl (ih_94 (d_93 - 1) (by omega) z_110 g_108 (by omega) (by omega) (by omega))
                            exact mp_sub [0, 1, 2, 3, 4, 5, 6] rfl [0, 1, 2, 3, 4] rfl rfl (lp_92 _ 0 f2 (by decide) (by decide) (Int.self_le_toNat _))
                          · have c_87 : i_79.toInt < x4.toInt := c_87
                            let w7_ : va_W := [(mp_ob10 a0 0 a1 a2 a3 a4 a5 y1 y2 y3 y4 y5 y6 y7 y8 y9 y10 a6 a7 a8 a9 a10 a11 a12 a13 y11 a14 a15 a16 a17 y12 y13 y14 a18 a19 y15 y16 a20 a21 a22 y17 y18 y19 y20 a23 a24 a25 y21), (mp_arI E a1 0 4 f0), (mp_arI E a2 0 4 f1), (mp_arL E a3 240 f2), (mp_arL E a4 60 g_80)]
                            show mp_W E X 7 125 [(6, .int i_79), (0, .ref a0), (1, .int x0), (2, .int x1), (3, .int x2), (4, .int x3), (5, .int x4)] [] w7_ 0 0
                            refine mp_run mp_k_cX10_paste_ok hF mp_tabX10_ok [mp_i (.aload_n 0), mp_h (.getfield 20) [4, 0], mp_i (.iload 6), mp_i (.aload_n 0), mp_h (.getfield 16) [3, 0], mp_c (.bipush 60) 60, mp_i (.iload_n 1), mp_i .imul, mp_i (.iload_n 2), mp_i .iadd, mp_i (.iload 6), mp_i .iadd, mp_h .laload [3], mp_h .lastore [4]] (by decide +kernel) ?_
                            refine And.intro rfl (And.intro rfl ?_)
                            refine And.intro rfl (And.intro rfl ?_)
                            intro z_113 h_114
                            have e_115 : z_113.toInt = 60 * x0.toInt := mp_mul (a := 60) (b := x0.toInt) h_114 (by decide) rfl (by omega) (by omega)
                            intro z_116 h_117
                            have e_118 : z_116.toInt = z_113.toInt + x1.toInt := mp_add (a := z_113.toInt) (b := x1.toInt) h_117 rfl rfl (by omega) (by omega)
                            intro z_119 h_120
                            have e_121 : z_119.toInt = z_116.toInt + i_79.toInt := mp_add (a := z_116.toInt) (b := i_79.toInt) h_120 rfl rfl (by omega) (by omega)
                            refine And.intro rfl (And.intro rfl (And.intro (vp_in_iff.mpr (by omega)) ?_))
                            intro z_122 h_123
                            refine And.intro rfl (And.intro rfl (And.intro (vp_in_iff.mpr (by omega)) ?_))
                            intro g_124 h_125
                            let w8_ : va_W := [(mp_ob10 a0 0 a1 a2 a3 a4 a5 y1 y2 y3 y4 y5 y6 y7 y8 y9 y10 a6 a7 a8 a9 a10 a11 a12 a13 y11 a14 a15 a16 a17 y12 y13 y14 a18 a19 y15 y16 a20 a21 a22 y17 y18 y19 y20 a23 a24 a25 y21), (mp_arI E a1 0 4 f0), (mp_arI E a2 0 4 f1), (mp_arL E a3 240 f2), (mp_arL E a4 60 g_124)]
                            show mp_W E X 7 146 [(6, .int i_79), (0, .ref a0), (1, .int x0), (2, .int x1), (3, .int x2), (4, .int x3), (5, .int x4)] [] w8_ 0 0
                            refine mp_run mp_k_cX10_paste_ok hF mp_tabX10_ok [mp_c (.iinc 6 1) 1, mp_h (.goto (-31)) [118]] (by decide +kernel) ?_
                            intro z_126 h_127
                            have e_128 : z_126.toInt = i_79.toInt + 1 := mp_add (a := i_79.toInt) (b := 1) h_127 rfl (by decide) (by omega) (by omega)
                            show mp_W E X 7 118 [(6, .int z_126), (0, .ref a0), (1, .int x0), (2, .int x1), (3, .int x2), (4, .int x3), (5, .int x4)] [] w8_ 0 0
                            exact mp_sub [0, 1, 2, 3, 4, 5, 6] rfl [0, 1, 2, 3, 4] rfl rfl (ih_85 (d_84 - 1) (by omega) z_126 g_124 (by omega) (by omega) (by omega))
                      exact mp_sub [0, 1, 2, 3, 4, 5, 6] rfl [0, 1, 2, 3, 4] rfl rfl (lp_83 _ 0 f3 (by decide) (by decide) (Int.self_le_toNat _))
                    · have c_78 : z_73.toInt < z_64.toInt := mp_lc_gt h_77 c_78
                      show mp_W E X 7 112 [(0, .ref a0), (1, .int x0), (2, .int x1), (3, .int x2), (4, .int x3), (5, .int x4)] [] w2_ 0 0
                      refine mp_run mp_k_cX10_paste_ok hF mp_tabX10_ok [mp_c (.bipush (-7)) (-7)] (by decide +kernel) ?_
                      show mp_W E X 7 114 [(0, .ref a0), (1, .int x0), (2, .int x1), (3, .int x2), (4, .int x3), (5, .int x4)] [.int (-7)] w2_ 0 0
                      exact mp_iret hF hQ rfl rfl (Nat.le_of_ble_eq_true rfl) (Nat.le_of_ble_eq_true rfl) [0, 1, 2, 3, 4] (w' := w2_) rfl rfl (Or.inr (Or.inr (Or.inl ⟨rfl, (by first | omega | decide), (by first | omega | decide), (by first | omega | decide), (by first | omega | decide), (by first | omega | (have h8 : (0 : Int64).toInt = 0 := rfl; have h9 : (3 : Int64).toInt = 3 := rfl; have h10 : (0 : Int32).toInt = 0 := rfl; have h11 : (3 : Int32).toInt = 3 := rfl; have h12 : (60 : Int32).toInt = 60 := rfl; have h13 : (-1 : Int32).toInt = -1 := rfl; omega)), rfl⟩))) (by first | exact mp_fd_ok mp_k_cX10_paste_ok (by decide +kernel) | decide +kernel)
          · have c_33 : z_19.toInt ≠ z_23.toInt := c_33
            show mp_W E X 7 60 [(0, .ref a0), (1, .int x0), (2, .int x1), (3, .int x2), (4, .int x3), (5, .int x4)] [] w2_ 0 0
            refine mp_run mp_k_cX10_paste_ok hF mp_tabX10_ok [mp_c (.bipush (-8)) (-8)] (by decide +kernel) ?_
            show mp_W E X 7 62 [(0, .ref a0), (1, .int x0), (2, .int x1), (3, .int x2), (4, .int x3), (5, .int x4)] [.int (-8)] w2_ 0 0
            exact mp_iret hF hQ rfl rfl (Nat.le_of_ble_eq_true rfl) (Nat.le_of_ble_eq_true rfl) [0, 1, 2, 3, 4] (w' := w2_) rfl rfl (Or.inr (Or.inr (Or.inr (Or.inr ⟨rfl, (by first | omega | decide), (by first | omega | decide), (by first | omega | decide), (by first | omega | decide), (by first | omega | (have h8 : (0 : Int64).toInt = 0 := rfl; have h9 : (3 : Int64).toInt = 3 := rfl; have h10 : (0 : Int32).toInt = 0 := rfl; have h11 : (3 : Int32).toInt = 3 := rfl; have h12 : (60 : Int32).toInt = 60 := rfl; have h13 : (-1 : Int32).toInt = -1 := rfl; omega)), rfl⟩)))) (by first | exact mp_fd_ok mp_k_cX10_paste_ok (by decide +kernel) | decide +kernel)
        · have c_26 : z_23.toInt = (-1) := (congrArg Int32.toInt c_26)
          show mp_W E X 7 42 [(0, .ref a0), (1, .int x0), (2, .int x1), (3, .int x2), (4, .int x3), (5, .int x4)] [] w2_ 0 0
          refine mp_run mp_k_cX10_paste_ok hF mp_tabX10_ok [mp_c (.bipush (-6)) (-6)] (by decide +kernel) ?_
          show mp_W E X 7 44 [(0, .ref a0), (1, .int x0), (2, .int x1), (3, .int x2), (4, .int x3), (5, .int x4)] [.int (-6)] w2_ 0 0
          exact mp_iret hF hQ rfl rfl (Nat.le_of_ble_eq_true rfl) (Nat.le_of_ble_eq_true rfl) [0, 1, 2, 3, 4] (w' := w2_) rfl rfl (Or.inr (Or.inl ⟨rfl, (by first | omega | decide), (by first | omega | decide), (by first | omega | decide), (by first | omega | decide), (by first | omega | (have h8 : (0 : Int64).toInt = 0 := rfl; have h9 : (3 : Int64).toInt = 3 := rfl; have h10 : (0 : Int32).toInt = 0 := rfl; have h11 : (3 : Int32).toInt = 3 := rfl; have h12 : (60 : Int32).toInt = 60 := rfl; have h13 : (-1 : Int32).toInt = -1 := rfl; omega)), rfl⟩)) (by first | exact mp_fd_ok mp_k_cX10_paste_ok (by decide +kernel) | decide +kernel)
set_option maxHeartbeats 4000000 in
set_option maxRecDepth 100000 in
theorem bX10_four_6 (E : mp_E) (a0 a1 a2 a3 a4 a5 a6 a7 a8 a9 a10 a11 a12 a13 a14 a15 a16 a17 a18 a19 a20 a21 a22 a23 a24 a25 : Nat) (f0 : Nat → Int32) (y0 : Int32) (y1 : Int32) (y2 : Int32) (y3 : Int32) (y4 : Int32) (y5 : Int32) (y6 : Int64) (y7 : Int32) (y8 : Int32) (y9 : Int32) (y10 : Int32) (y11 : Int32) (y12 : Int32) (y13 : Int32) (y14 : Int32) (y15 : Int32) (y16 : Int32) (y17 : Int32) (y18 : Int32) (y19 : Int32) (y20 : Int32) (y21 : Int32) (x0 : Int32) (l_y1 : 0 ≤ y1.toInt) (u_y1 : y1.toInt ≤ 1596) (l_y2 : 0 ≤ y2.toInt) (u_y2 : y2.toInt ≤ 1600) (l_y3 : 0 ≤ y3.toInt) (u_y3 : y3.toInt ≤ 4) (l_y4 : 0 ≤ y4.toInt) (u_y4 : y4.toInt ≤ 1600) (l_y11 : 0 ≤ y11.toInt) (u_y11 : y11.toInt ≤ 99) (l_y12 : 0 ≤ y12.toInt) (u_y12 : y12.toInt ≤ 5) (l_y13 : 0 ≤ y13.toInt) (u_y13 : y13.toInt ≤ 12) : mp_Ct E yX10_four cX10_four 3 none 0 0 0 0 [.ref a0, .int x0] [(mp_ob10 a0 y0 a2 a3 a4 a5 a1 y1 y2 y3 y4 y5 y6 y7 y8 y9 y10 a6 a7 a8 a9 a10 a11 a12 a13 y11 a14 a15 a16 a17 y12 y13 y14 a18 a19 y15 y16 a20 a21 a22 y17 y18 y19 y20 a23 a24 a25 y21), (mp_arI E a1 1 1600 f0)] (fun v w' => ∃ r1 : Int32, ∃ h2 : Nat → Int32, v = none ∧ 4 ≤ r1.toInt ∧ r1.toInt ≤ 1600 ∧ (r1.toInt = y1.toInt + 4) ∧ (h2 = mp_b4 f0 (y1.toInt).toNat x0) ∧ w' = [(mp_ob10 a0 y0 a2 a3 a4 a5 a1 r1 y2 y3 y4 y5 y6 y7 y8 y9 y10 a6 a7 a8 a9 a10 a11 a12 a13 y11 a14 a15 a16 a17 y12 y13 y14 a18 a19 y15 y16 a20 a21 a22 y17 y18 y19 y20 a23 a24 a25 y21), (mp_arI E a1 1 1600 h2)]) := by
  refine mp_met false (by decide) (by decide) (Nat.le_of_ble_eq_true rfl) (fun X hF hQ => ?_)
  have hF : mp_F E X (RX10, cX10_four, 3, (0, 0, 0, 0), none, false) := hF
  let w1_ : va_W := [(mp_ob10 a0 y0 a2 a3 a4 a5 a1 y1 y2 y3 y4 y5 y6 y7 y8 y9 y10 a6 a7 a8 a9 a10 a11 a12 a13 y11 a14 a15 a16 a17 y12 y13 y14 a18 a19 y15 y16 a20 a21 a22 y17 y18 y19 y20 a23 a24 a25 y21), (mp_arI E a1 1 1600 f0)]
  show mp_W E X 3 0 [(0, .ref a0), (1, .int x0)] [] w1_ 0 0
  refine mp_run mp_k_cX10_four_ok hF mp_tabX10_ok [mp_c (.bipush 24) 24, mp_i (.istore_n 2), mp_i (.iload_n 2), mp_h (.ifCond .lt 32) [36]] (by decide +kernel) ?_
  refine And.intro (fun c_1 => absurd c_1 (by decide)) (fun _ => ?_)
  show mp_W E X 3 7 [(2, .int 24), (0, .ref a0), (1, .int x0)] [] w1_ 0 0
  refine mp_run mp_k_cX10_four_ok hF mp_tabX10_ok [mp_i (.aload_n 0), mp_h (.getfield 23) [5, 0], mp_i (.aload_n 0), mp_h (.getfield 109) [6, 0], mp_i (.iload_n 1), mp_i (.iload_n 2), mp_i .ishr, mp_i .i2b, mp_h .bastore [1]] (by decide +kernel) ?_
  refine And.intro rfl (And.intro rfl ?_)
  refine And.intro rfl (And.intro rfl ?_)
  intro z_2 h_3
  intro z_5 h_6
  refine And.intro rfl (And.intro rfl (And.intro (vp_in_iff.mpr (by (first | exact mp_o1 l_y1 u_y1 | omega))) ?_))
  intro g_7 h_8
  have bb_9 := mp_by_of h_8 h_6 h_3
  let w2_ : va_W := [(mp_ob10 a0 y0 a2 a3 a4 a5 a1 y1 y2 y3 y4 y5 y6 y7 y8 y9 y10 a6 a7 a8 a9 a10 a11 a12 a13 y11 a14 a15 a16 a17 y12 y13 y14 a18 a19 y15 y16 a20 a21 a22 y17 y18 y19 y20 a23 a24 a25 y21), (mp_arI E a1 1 1600 g_7)]
  show mp_W E X 3 20 [(2, .int 24), (0, .ref a0), (1, .int x0)] [] w2_ 0 0
  refine mp_run mp_k_cX10_four_ok hF mp_tabX10_ok [mp_i (.aload_n 0), mp_i .dup, mp_h (.getfield 109) [6, 0], mp_c (.iconst 1) 1, mp_i .iadd, mp_h (.putfield 109) [6, 0]] (by decide +kernel) ?_
  refine And.intro rfl ?_
  refine And.intro rfl (And.intro rfl ?_)
  intro z_10 h_11
  have e_12 : z_10.toInt = y1.toInt + 1 := mp_add (a := y1.toInt) (b := 1) h_11 rfl (by decide) (by (first | exact mp_o2 l_y1 | omega)) (by (first | exact mp_o3 u_y1 | omega))
  refine And.intro rfl (And.intro rfl (And.intro rfl (And.intro rfl (And.intro (Nat.le_of_ble_eq_true rfl) ?_))))
  let w3_ : va_W := [(mp_ob10 a0 y0 a2 a3 a4 a5 a1 z_10 y2 y3 y4 y5 y6 y7 y8 y9 y10 a6 a7 a8 a9 a10 a11 a12 a13 y11 a14 a15 a16 a17 y12 y13 y14 a18 a19 y15 y16 a20 a21 a22 y17 y18 y19 y20 a23 a24 a25 y21), (mp_arI E a1 1 1600 g_7)]
  show mp_W E X 3 30 [(2, .int 24), (0, .ref a0), (1, .int x0)] [] w3_ 0 0
  refine mp_run mp_k_cX10_four_ok hF mp_tabX10_ok [mp_c (.iinc 2 (-8)) (-8), mp_h (.goto (-30)) [3], mp_i (.iload_n 2), mp_h (.ifCond .lt 32) [36]] (by decide +kernel) ?_
  intro z_13 h_14
  obtain rfl : z_13 = 16 := h_14.trans (by decide)
  refine And.intro (fun c_15 => absurd c_15 (by decide)) (fun _ => ?_)
  show mp_W E X 3 7 [(2, .int 16), (0, .ref a0), (1, .int x0)] [] w3_ 0 0
  refine mp_run mp_k_cX10_four_ok hF mp_tabX10_ok [mp_i (.aload_n 0), mp_h (.getfield 23) [5, 0], mp_i (.aload_n 0), mp_h (.getfield 109) [6, 0], mp_i (.iload_n 1), mp_i (.iload_n 2), mp_i .ishr, mp_i .i2b, mp_h .bastore [1]] (by decide +kernel) ?_
  refine And.intro rfl (And.intro rfl ?_)
  refine And.intro rfl (And.intro rfl ?_)
  intro z_16 h_17
  intro z_19 h_20
  refine And.intro rfl (And.intro rfl (And.intro (vp_in_iff.mpr (by (first | exact mp_o5 l_y1 e_12 u_y1 | omega))) ?_))
  intro g_21 h_22
  have bb_23 := mp_by_of h_22 h_20 h_17
  let w4_ : va_W := [(mp_ob10 a0 y0 a2 a3 a4 a5 a1 z_10 y2 y3 y4 y5 y6 y7 y8 y9 y10 a6 a7 a8 a9 a10 a11 a12 a13 y11 a14 a15 a16 a17 y12 y13 y14 a18 a19 y15 y16 a20 a21 a22 y17 y18 y19 y20 a23 a24 a25 y21), (mp_arI E a1 1 1600 g_21)]
  show mp_W E X 3 20 [(2, .int 16), (0, .ref a0), (1, .int x0)] [] w4_ 0 0
  refine mp_run mp_k_cX10_four_ok hF mp_tabX10_ok [mp_i (.aload_n 0), mp_i .dup, mp_h (.getfield 109) [6, 0], mp_c (.iconst 1) 1, mp_i .iadd, mp_h (.putfield 109) [6, 0]] (by decide +kernel) ?_
  refine And.intro rfl ?_
  refine And.intro rfl (And.intro rfl ?_)
  intro z_24 h_25
  have e_26 : z_24.toInt = z_10.toInt + 1 := mp_add (a := z_10.toInt) (b := 1) h_25 rfl (by decide) (by (first | exact mp_o6 l_y1 e_12 | omega)) (by (first | exact mp_o7 u_y1 e_12 | omega))
  refine And.intro rfl (And.intro rfl (And.intro rfl (And.intro rfl (And.intro (Nat.le_of_ble_eq_true rfl) ?_))))
  let w5_ : va_W := [(mp_ob10 a0 y0 a2 a3 a4 a5 a1 z_24 y2 y3 y4 y5 y6 y7 y8 y9 y10 a6 a7 a8 a9 a10 a11 a12 a13 y11 a14 a15 a16 a17 y12 y13 y14 a18 a19 y15 y16 a20 a21 a22 y17 y18 y19 y20 a23 a24 a25 y21), (mp_arI E a1 1 1600 g_21)]
  show mp_W E X 3 30 [(2, .int 16), (0, .ref a0), (1, .int x0)] [] w5_ 0 0
  refine mp_run mp_k_cX10_four_ok hF mp_tabX10_ok [mp_c (.iinc 2 (-8)) (-8), mp_h (.goto (-30)) [3], mp_i (.iload_n 2), mp_h (.ifCond .lt 32) [36]] (by decide +kernel) ?_
  intro z_27 h_28
  obtain rfl : z_27 = 8 := h_28.trans (by decide)
  refine And.intro (fun c_29 => absurd c_29 (by decide)) (fun _ => ?_)
  show mp_W E X 3 7 [(2, .int 8), (0, .ref a0), (1, .int x0)] [] w5_ 0 0
  refine mp_run mp_k_cX10_four_ok hF mp_tabX10_ok [mp_i (.aload_n 0), mp_h (.getfield 23) [5, 0], mp_i (.aload_n 0), mp_h (.getfield 109) [6, 0], mp_i (.iload_n 1), mp_i (.iload_n 2), mp_i .ishr, mp_i .i2b, mp_h .bastore [1]] (by decide +kernel) ?_
  refine And.intro rfl (And.intro rfl ?_)
  refine And.intro rfl (And.intro rfl ?_)
  intro z_30 h_31
  intro z_33 h_34
  refine And.intro rfl (And.intro rfl (And.intro (vp_in_iff.mpr (by (first | exact mp_o9 l_y1 u_y1 e_12 e_26 | omega))) ?_))
  intro g_35 h_36
  have bb_37 := mp_by_of h_36 h_34 h_31
  let w6_ : va_W := [(mp_ob10 a0 y0 a2 a3 a4 a5 a1 z_24 y2 y3 y4 y5 y6 y7 y8 y9 y10 a6 a7 a8 a9 a10 a11 a12 a13 y11 a14 a15 a16 a17 y12 y13 y14 a18 a19 y15 y16 a20 a21 a22 y17 y18 y19 y20 a23 a24 a25 y21), (mp_arI E a1 1 1600 g_35)]
  show mp_W E X 3 20 [(2, .int 8), (0, .ref a0), (1, .int x0)] [] w6_ 0 0
  refine mp_run mp_k_cX10_four_ok hF mp_tabX10_ok [mp_i (.aload_n 0), mp_i .dup, mp_h (.getfield 109) [6, 0], mp_c (.iconst 1) 1, mp_i .iadd, mp_h (.putfield 109) [6, 0]] (by decide +kernel) ?_
  refine And.intro rfl ?_
  refine And.intro rfl (And.intro rfl ?_)
  intro z_38 h_39
  have e_40 : z_38.toInt = z_24.toInt + 1 := mp_add (a := z_24.toInt) (b := 1) h_39 rfl (by decide) (by (first | exact mp_o10 l_y1 e_12 e_26 | omega)) (by (first | exact mp_o11 u_y1 e_12 e_26 | omega))
  refine And.intro rfl (And.intro rfl (And.intro rfl (And.intro rfl (And.intro (Nat.le_of_ble_eq_true rfl) ?_))))
  let w7_ : va_W := [(mp_ob10 a0 y0 a2 a3 a4 a5 a1 z_38 y2 y3 y4 y5 y6 y7 y8 y9 y10 a6 a7 a8 a9 a10 a11 a12 a13 y11 a14 a15 a16 a17 y12 y13 y14 a18 a19 y15 y16 a20 a21 a22 y17 y18 y19 y20 a23 a24 a25 y21), (mp_arI E a1 1 1600 g_35)]
  show mp_W E X 3 30 [(2, .int 8), (0, .ref a0), (1, .int x0)] [] w7_ 0 0
  refine mp_run mp_k_cX10_four_ok hF mp_tabX10_ok [mp_c (.iinc 2 (-8)) (-8), mp_h (.goto (-30)) [3], mp_i (.iload_n 2), mp_h (.ifCond .lt 32) [36]] (by decide +kernel) ?_
  intro z_41 h_42
  obtain rfl : z_41 = 0 := h_42.trans (by decide)
  refine And.intro (fun c_43 => absurd c_43 (by decide)) (fun _ => ?_)
  show mp_W E X 3 7 [(2, .int 0), (0, .ref a0), (1, .int x0)] [] w7_ 0 0
  refine mp_run mp_k_cX10_four_ok hF mp_tabX10_ok [mp_i (.aload_n 0), mp_h (.getfield 23) [5, 0], mp_i (.aload_n 0), mp_h (.getfield 109) [6, 0], mp_i (.iload_n 1), mp_i (.iload_n 2), mp_i .ishr, mp_i .i2b, mp_h .bastore [1]] (by decide +kernel) ?_
  refine And.intro rfl (And.intro rfl ?_)
  refine And.intro rfl (And.intro rfl ?_)
  intro z_44 h_45
  have k_47 : z_44 = x0 := mp_shr0 h_45
  have e_48 : z_44.toInt = x0.toInt := by rw [k_47]
  intro z_49 h_50
  refine And.intro rfl (And.intro rfl (And.intro (vp_in_iff.mpr (by (first | exact mp_o13 l_y1 u_y1 e_12 e_26 e_40 | omega))) ?_))
  intro g_51 h_52
  have bb_53 := mp_by_of h_52 h_50 h_45
  let w8_ : va_W := [(mp_ob10 a0 y0 a2 a3 a4 a5 a1 z_38 y2 y3 y4 y5 y6 y7 y8 y9 y10 a6 a7 a8 a9 a10 a11 a12 a13 y11 a14 a15 a16 a17 y12 y13 y14 a18 a19 y15 y16 a20 a21 a22 y17 y18 y19 y20 a23 a24 a25 y21), (mp_arI E a1 1 1600 g_51)]
  show mp_W E X 3 20 [(2, .int 0), (0, .ref a0), (1, .int x0)] [] w8_ 0 0
  refine mp_run mp_k_cX10_four_ok hF mp_tabX10_ok [mp_i (.aload_n 0), mp_i .dup, mp_h (.getfield 109) [6, 0], mp_c (.iconst 1) 1, mp_i .iadd, mp_h (.putfield 109) [6, 0]] (by decide +kernel) ?_
  refine And.intro rfl ?_
  refine And.intro rfl (And.intro rfl ?_)
  intro z_54 h_55
  have e_56 : z_54.toInt = z_38.toInt + 1 := mp_add (a := z_38.toInt) (b := 1) h_55 rfl (by decide) (by (first | exact mp_o14 l_y1 e_12 e_26 e_40 | omega)) (by (first | exact mp_o15 u_y1 e_12 e_26 e_40 | omega))
  refine And.intro rfl (And.intro rfl (And.intro rfl (And.intro rfl (And.intro (Nat.le_of_ble_eq_true rfl) ?_))))
  let w9_ : va_W := [(mp_ob10 a0 y0 a2 a3 a4 a5 a1 z_54 y2 y3 y4 y5 y6 y7 y8 y9 y10 a6 a7 a8 a9 a10 a11 a12 a13 y11 a14 a15 a16 a17 y12 y13 y14 a18 a19 y15 y16 a20 a21 a22 y17 y18 y19 y20 a23 a24 a25 y21), (mp_arI E a1 1 1600 g_51)]
  show mp_W E X 3 30 [(2, .int 0), (0, .ref a0), (1, .int x0)] [] w9_ 0 0
  refine mp_run mp_k_cX10_four_ok hF mp_tabX10_ok [mp_c (.iinc 2 (-8)) (-8), mp_h (.goto (-30)) [3], mp_i (.iload_n 2), mp_h (.ifCond .lt 32) [36]] (by decide +kernel) ?_
  intro z_57 h_58
  obtain rfl : z_57 = (-8) := h_58.trans (by decide)
  refine And.intro (fun _ => ?_) (fun c_59 => absurd c_59 (by decide))
  show mp_W E X 3 36 [(2, .int (-8)), (0, .ref a0), (1, .int x0)] [] w9_ 0 0
  exact mp_vret hF hQ rfl (Nat.le_of_ble_eq_true rfl) (Nat.le_of_ble_eq_true rfl) [0, 1] (w' := w9_) rfl rfl ⟨z_54, g_51, rfl, (by (first | exact mp_o16 l_y1 e_12 e_26 e_40 e_56 | omega)), (by (first | exact mp_o17 u_y1 e_12 e_26 e_40 e_56 | omega)), (by (first | exact mp_o18 e_12 e_26 e_40 e_56 | omega)), (mp_b4_of bb_9 bb_23 bb_37 bb_53 (by (first | exact mp_o19 | omega)) (by (first | exact e_12 | omega)) (by (first | exact mp_o20 e_12 e_26 | omega)) (by (first | exact mp_o21 l_y1 e_12 e_26 e_40 | omega))), rfl⟩ (by first | exact mp_fd_ok mp_k_cX10_four_ok (by decide +kernel) | decide +kernel)
set_option maxHeartbeats 4000000 in
set_option maxRecDepth 100000 in
theorem bX10_feed_7 (E : mp_E) (a0 a1 a2 a3 a4 a5 a6 a7 a8 a9 a10 a11 a12 a13 a14 a15 a16 a17 a18 a19 a20 a21 a22 a23 a24 a25 : Nat) (f0 : Nat → Int32) (y0 : Int32) (y1 : Int32) (y2 : Int32) (y3 : Int32) (y4 : Int32) (y5 : Int32) (y6 : Int64) (y7 : Int32) (y8 : Int32) (y9 : Int32) (y10 : Int32) (y11 : Int32) (y12 : Int32) (y13 : Int32) (y14 : Int32) (y15 : Int32) (y16 : Int32) (y17 : Int32) (y18 : Int32) (y19 : Int32) (y20 : Int32) (y21 : Int32) (x0 : Int32) (x1 : Int32) (x2 : Int32) (x3 : Int32) (x4 : Int32) (l_y1 : 0 ≤ y1.toInt) (u_y1 : y1.toInt ≤ 1600) (l_y2 : 0 ≤ y2.toInt) (u_y2 : y2.toInt ≤ 1600) (l_y3 : 0 ≤ y3.toInt) (u_y3 : y3.toInt ≤ 4) (l_y4 : 0 ≤ y4.toInt) (u_y4 : y4.toInt ≤ 1600) (l_y11 : 0 ≤ y11.toInt) (u_y11 : y11.toInt ≤ 99) (l_y12 : 0 ≤ y12.toInt) (u_y12 : y12.toInt ≤ 5) (l_y13 : 0 ≤ y13.toInt) (u_y13 : y13.toInt ≤ 12) : mp_Ct E yX10_feed cX10_feed 6 (some FieldType.int) 1 0 0 22 [.ref a0, .int x0, .int x1, .int x2, .int x3, .int x4] [(mp_ob10 a0 y0 a2 a3 a4 a5 a1 y1 y2 y3 y4 y5 y6 y7 y8 y9 y10 a6 a7 a8 a9 a10 a11 a12 a13 y11 a14 a15 a16 a17 y12 y13 y14 a18 a19 y15 y16 a20 a21 a22 y17 y18 y19 y20 a23 a24 a25 y21), (mp_arI E a1 1 1600 f0)] (fun v w' => ∃ r1 : Int32, ∃ h2 : Nat → Int32, ∃ r3 : Int32, v = some (.int r3) ∧ 4 ≤ r1.toInt ∧ r1.toInt ≤ 1600 ∧ (-1) ≤ r3.toInt ∧ r3.toInt ≤ 1600 ∧ ((1600 < y1.toInt + 20 ∧ r1.toInt = y1.toInt ∧ r3.toInt = -1) ∨ (y1.toInt + 20 ≤ 1600 ∧ r1.toInt = y1.toInt + 20 ∧ r3.toInt = r1.toInt)) ∧ ((1600 < y1.toInt + 20 ∧ h2 = f0) ∨ (y1.toInt + 20 ≤ 1600 ∧ h2 = mp_b20 f0 (y1.toInt).toNat x0 x1 x2 x3 x4)) ∧ w' = [(mp_ob10 a0 0 a2 a3 a4 a5 a1 r1 y2 y3 y4 y5 y6 y7 y8 y9 y10 a6 a7 a8 a9 a10 a11 a12 a13 y11 a14 a15 a16 a17 y12 y13 y14 a18 a19 y15 y16 a20 a21 a22 y17 y18 y19 y20 a23 a24 a25 y21), (mp_arI E a1 1 1600 h2)]) := by
  refine mp_met false (by decide) (by decide) (Nat.le_of_ble_eq_true rfl) (fun X hF hQ => ?_)
  have hF : mp_F E X (RX10, cX10_feed, 6, (1, 0, 0, 22), (some FieldType.int), false) := hF
  let w1_ : va_W := [(mp_ob10 a0 y0 a2 a3 a4 a5 a1 y1 y2 y3 y4 y5 y6 y7 y8 y9 y10 a6 a7 a8 a9 a10 a11 a12 a13 y11 a14 a15 a16 a17 y12 y13 y14 a18 a19 y15 y16 a20 a21 a22 y17 y18 y19 y20 a23 a24 a25 y21), (mp_arI E a1 1 1600 f0)]
  show mp_W E X 6 0 [(0, .ref a0), (1, .int x0), (2, .int x1), (3, .int x2), (4, .int x3), (5, .int x4)] [] w1_ 0 0
  refine mp_run mp_k_cX10_feed_ok hF mp_tabX10_ok [mp_i (.aload_n 0), mp_c (.iconst 0) 0, mp_h (.putfield 92) [0, 0]] (by decide +kernel) ?_
  refine And.intro rfl (And.intro rfl (And.intro rfl (And.intro rfl (And.intro (Nat.le_of_ble_eq_true rfl) ?_))))
  let w2_ : va_W := [(mp_ob10 a0 0 a2 a3 a4 a5 a1 y1 y2 y3 y4 y5 y6 y7 y8 y9 y10 a6 a7 a8 a9 a10 a11 a12 a13 y11 a14 a15 a16 a17 y12 y13 y14 a18 a19 y15 y16 a20 a21 a22 y17 y18 y19 y20 a23 a24 a25 y21), (mp_arI E a1 1 1600 f0)]
  show mp_W E X 6 5 [(0, .ref a0), (1, .int x0), (2, .int x1), (3, .int x2), (4, .int x3), (5, .int x4)] [] w2_ 0 0
  refine mp_run mp_k_cX10_feed_ok hF mp_tabX10_ok [mp_i (.aload_n 0), mp_h (.getfield 109) [6, 0], mp_c (.bipush 20) 20, mp_i .iadd, mp_c (.sipush 1600) 1600, mp_h (.if_icmp .le 5) [20]] (by decide +kernel) ?_
  refine And.intro rfl (And.intro rfl ?_)
  intro z_1 h_2
  have e_3 : z_1.toInt = y1.toInt + 20 := mp_add (a := y1.toInt) (b := 20) h_2 rfl (by decide) (by (first | exact mp_o22 l_y1 | omega)) (by (first | exact mp_o23 u_y1 | omega))
  refine And.intro (fun c_4 => ?_) (fun c_4 => ?_)
  · have c_4 : z_1.toInt ≤ 1600 := c_4
    show mp_W E X 6 20 [(0, .ref a0), (1, .int x0), (2, .int x1), (3, .int x2), (4, .int x3), (5, .int x4)] [] w2_ 0 0
    refine mp_run mp_k_cX10_feed_ok hF mp_tabX10_ok [mp_i (.aload_n 0), mp_i (.iload_n 1)] (by decide +kernel) ?_
    show mp_W E X 6 22 [(0, .ref a0), (1, .int x0), (2, .int x1), (3, .int x2), (4, .int x3), (5, .int x4)] [.int x0, .ref a0] w2_ 0 0
    refine mp_callV hF (As := [.int x0]) (rest := []) (wr := []) (bX10_four_6 E a0 a1 a2 a3 a4 a5 a6 a7 a8 a9 a10 a11 a12 a13 a14 a15 a16 a17 a18 a19 a20 a21 a22 a23 a24 a25 f0 0 y1 y2 y3 y4 y5 y6 y7 y8 y9 y10 y11 y12 y13 y14 y15 y16 y17 y18 y19 y20 y21 x0 l_y1 (by (first | exact mp_o24 e_3 c_4 | omega)) l_y2 u_y2 l_y3 u_y3 l_y4 u_y4 l_y11 u_y11 l_y12 u_y12 l_y13 u_y13) mp_lkX10_112 0 rfl [0, 1] [] rfl rfl rfl rfl rfl ⟨(Nat.le_of_ble_eq_true rfl), (Nat.le_of_ble_eq_true rfl), (Nat.le_of_ble_eq_true rfl), (Nat.le_of_ble_eq_true rfl)⟩ (Nat.le_of_ble_eq_true rfl) (by first | exact mp_fd_ok mp_k_cX10_feed_ok (by decide +kernel) | decide +kernel) (fun v_5 w_6 h_7 => ?_)
    refine h_7.elim fun r_8 q_14 => q_14.elim fun g_9 q_15 => q_15.elim fun e_16 q_17 => q_17.elim fun l_10 q_18 => q_18.elim fun u_11 q_19 => q_19.elim fun x_12 q_20 => q_20.elim fun x_13 e_21 => ?_
    clear h_7 q_14 q_15 q_17 q_18 q_19 q_20
    subst e_16
    subst e_21
    let w3_ : va_W := [(mp_ob10 a0 0 a2 a3 a4 a5 a1 r_8 y2 y3 y4 y5 y6 y7 y8 y9 y10 a6 a7 a8 a9 a10 a11 a12 a13 y11 a14 a15 a16 a17 y12 y13 y14 a18 a19 y15 y16 a20 a21 a22 y17 y18 y19 y20 a23 a24 a25 y21), (mp_arI E a1 1 1600 g_9)]
    show mp_W E X 6 25 [(0, .ref a0), (1, .int x0), (2, .int x1), (3, .int x2), (4, .int x3), (5, .int x4)] [] w3_ 0 0
    refine mp_run mp_k_cX10_feed_ok hF mp_tabX10_ok [mp_i (.aload_n 0), mp_i (.iload_n 2)] (by decide +kernel) ?_
    show mp_W E X 6 27 [(0, .ref a0), (1, .int x0), (2, .int x1), (3, .int x2), (4, .int x3), (5, .int x4)] [.int x1, .ref a0] w3_ 0 0
    refine mp_callV hF (As := [.int x1]) (rest := []) (wr := []) (bX10_four_6 E a0 a1 a2 a3 a4 a5 a6 a7 a8 a9 a10 a11 a12 a13 a14 a15 a16 a17 a18 a19 a20 a21 a22 a23 a24 a25 g_9 0 r_8 y2 y3 y4 y5 y6 y7 y8 y9 y10 y11 y12 y13 y14 y15 y16 y17 y18 y19 y20 y21 x1 (by (first | exact mp_o25 l_y1 x_12 | omega)) (by (first | exact mp_o26 c_4 x_12 e_3 | omega)) l_y2 u_y2 l_y3 u_y3 l_y4 u_y4 l_y11 u_y11 l_y12 u_y12 l_y13 u_y13) mp_lkX10_112 0 rfl [0, 1] [] rfl rfl rfl rfl rfl ⟨(Nat.le_of_ble_eq_true rfl), (Nat.le_of_ble_eq_true rfl), (Nat.le_of_ble_eq_true rfl), (Nat.le_of_ble_eq_true rfl)⟩ (Nat.le_of_ble_eq_true rfl) (by first | exact mp_fd_ok mp_k_cX10_feed_ok (by decide +kernel) | decide +kernel) (fun v_22 w_23 h_24 => ?_)
    refine h_24.elim fun r_25 q_31 => q_31.elim fun g_26 q_32 => q_32.elim fun e_33 q_34 => q_34.elim fun l_27 q_35 => q_35.elim fun u_28 q_36 => q_36.elim fun x_29 q_37 => q_37.elim fun x_30 e_38 => ?_
    clear h_24 q_31 q_32 q_34 q_35 q_36 q_37
    subst e_33
    subst e_38
    let w4_ : va_W := [(mp_ob10 a0 0 a2 a3 a4 a5 a1 r_25 y2 y3 y4 y5 y6 y7 y8 y9 y10 a6 a7 a8 a9 a10 a11 a12 a13 y11 a14 a15 a16 a17 y12 y13 y14 a18 a19 y15 y16 a20 a21 a22 y17 y18 y19 y20 a23 a24 a25 y21), (mp_arI E a1 1 1600 g_26)]
    show mp_W E X 6 30 [(0, .ref a0), (1, .int x0), (2, .int x1), (3, .int x2), (4, .int x3), (5, .int x4)] [] w4_ 0 0
    refine mp_run mp_k_cX10_feed_ok hF mp_tabX10_ok [mp_i (.aload_n 0), mp_i (.iload_n 3)] (by decide +kernel) ?_
    show mp_W E X 6 32 [(0, .ref a0), (1, .int x0), (2, .int x1), (3, .int x2), (4, .int x3), (5, .int x4)] [.int x2, .ref a0] w4_ 0 0
    refine mp_callV hF (As := [.int x2]) (rest := []) (wr := []) (bX10_four_6 E a0 a1 a2 a3 a4 a5 a6 a7 a8 a9 a10 a11 a12 a13 a14 a15 a16 a17 a18 a19 a20 a21 a22 a23 a24 a25 g_26 0 r_25 y2 y3 y4 y5 y6 y7 y8 y9 y10 y11 y12 y13 y14 y15 y16 y17 y18 y19 y20 y21 x2 (by (first | exact mp_o27 l_y1 x_12 x_29 | omega)) (by (first | exact mp_o28 c_4 x_29 e_3 x_12 | omega)) l_y2 u_y2 l_y3 u_y3 l_y4 u_y4 l_y11 u_y11 l_y12 u_y12 l_y13 u_y13) mp_lkX10_112 0 rfl [0, 1] [] rfl rfl rfl rfl rfl ⟨(Nat.le_of_ble_eq_true rfl), (Nat.le_of_ble_eq_true rfl), (Nat.le_of_ble_eq_true rfl), (Nat.le_of_ble_eq_true rfl)⟩ (Nat.le_of_ble_eq_true rfl) (by first | exact mp_fd_ok mp_k_cX10_feed_ok (by decide +kernel) | decide +kernel) (fun v_39 w_40 h_41 => ?_)
    refine h_41.elim fun r_42 q_48 => q_48.elim fun g_43 q_49 => q_49.elim fun e_50 q_51 => q_51.elim fun l_44 q_52 => q_52.elim fun u_45 q_53 => q_53.elim fun x_46 q_54 => q_54.elim fun x_47 e_55 => ?_
    clear h_41 q_48 q_49 q_51 q_52 q_53 q_54
    subst e_50
    subst e_55
    let w5_ : va_W := [(mp_ob10 a0 0 a2 a3 a4 a5 a1 r_42 y2 y3 y4 y5 y6 y7 y8 y9 y10 a6 a7 a8 a9 a10 a11 a12 a13 y11 a14 a15 a16 a17 y12 y13 y14 a18 a19 y15 y16 a20 a21 a22 y17 y18 y19 y20 a23 a24 a25 y21), (mp_arI E a1 1 1600 g_43)]
    show mp_W E X 6 35 [(0, .ref a0), (1, .int x0), (2, .int x1), (3, .int x2), (4, .int x3), (5, .int x4)] [] w5_ 0 0
    refine mp_run mp_k_cX10_feed_ok hF mp_tabX10_ok [mp_i (.aload_n 0), mp_i (.iload 4)] (by decide +kernel) ?_
    show mp_W E X 6 38 [(0, .ref a0), (1, .int x0), (2, .int x1), (3, .int x2), (4, .int x3), (5, .int x4)] [.int x3, .ref a0] w5_ 0 0
    refine mp_callV hF (As := [.int x3]) (rest := []) (wr := []) (bX10_four_6 E a0 a1 a2 a3 a4 a5 a6 a7 a8 a9 a10 a11 a12 a13 a14 a15 a16 a17 a18 a19 a20 a21 a22 a23 a24 a25 g_43 0 r_42 y2 y3 y4 y5 y6 y7 y8 y9 y10 y11 y12 y13 y14 y15 y16 y17 y18 y19 y20 y21 x3 (by (first | exact mp_o29 l_y1 x_12 x_29 x_46 | omega)) (by (first | exact mp_o30 c_4 x_46 e_3 x_12 x_29 | omega)) l_y2 u_y2 l_y3 u_y3 l_y4 u_y4 l_y11 u_y11 l_y12 u_y12 l_y13 u_y13) mp_lkX10_112 0 rfl [0, 1] [] rfl rfl rfl rfl rfl ⟨(Nat.le_of_ble_eq_true rfl), (Nat.le_of_ble_eq_true rfl), (Nat.le_of_ble_eq_true rfl), (Nat.le_of_ble_eq_true rfl)⟩ (Nat.le_of_ble_eq_true rfl) (by first | exact mp_fd_ok mp_k_cX10_feed_ok (by decide +kernel) | decide +kernel) (fun v_56 w_57 h_58 => ?_)
    refine h_58.elim fun r_59 q_65 => q_65.elim fun g_60 q_66 => q_66.elim fun e_67 q_68 => q_68.elim fun l_61 q_69 => q_69.elim fun u_62 q_70 => q_70.elim fun x_63 q_71 => q_71.elim fun x_64 e_72 => ?_
    clear h_58 q_65 q_66 q_68 q_69 q_70 q_71
    subst e_67
    subst e_72
    let w6_ : va_W := [(mp_ob10 a0 0 a2 a3 a4 a5 a1 r_59 y2 y3 y4 y5 y6 y7 y8 y9 y10 a6 a7 a8 a9 a10 a11 a12 a13 y11 a14 a15 a16 a17 y12 y13 y14 a18 a19 y15 y16 a20 a21 a22 y17 y18 y19 y20 a23 a24 a25 y21), (mp_arI E a1 1 1600 g_60)]
    show mp_W E X 6 41 [(0, .ref a0), (1, .int x0), (2, .int x1), (3, .int x2), (4, .int x3), (5, .int x4)] [] w6_ 0 0
    refine mp_run mp_k_cX10_feed_ok hF mp_tabX10_ok [mp_i (.aload_n 0), mp_i (.iload 5)] (by decide +kernel) ?_
    show mp_W E X 6 44 [(0, .ref a0), (1, .int x0), (2, .int x1), (3, .int x2), (4, .int x3), (5, .int x4)] [.int x4, .ref a0] w6_ 0 0
    refine mp_callV hF (As := [.int x4]) (rest := []) (wr := []) (bX10_four_6 E a0 a1 a2 a3 a4 a5 a6 a7 a8 a9 a10 a11 a12 a13 a14 a15 a16 a17 a18 a19 a20 a21 a22 a23 a24 a25 g_60 0 r_59 y2 y3 y4 y5 y6 y7 y8 y9 y10 y11 y12 y13 y14 y15 y16 y17 y18 y19 y20 y21 x4 (by (first | exact mp_o31 l_y1 x_12 x_29 x_46 x_63 | omega)) (by (first | exact mp_o32 c_4 x_63 e_3 x_12 x_29 x_46 | omega)) l_y2 u_y2 l_y3 u_y3 l_y4 u_y4 l_y11 u_y11 l_y12 u_y12 l_y13 u_y13) mp_lkX10_112 0 rfl [0, 1] [] rfl rfl rfl rfl rfl ⟨(Nat.le_of_ble_eq_true rfl), (Nat.le_of_ble_eq_true rfl), (Nat.le_of_ble_eq_true rfl), (Nat.le_of_ble_eq_true rfl)⟩ (Nat.le_of_ble_eq_true rfl) (by first | exact mp_fd_ok mp_k_cX10_feed_ok (by decide +kernel) | decide +kernel) (fun v_73 w_74 h_75 => ?_)
    refine h_75.elim fun r_76 q_82 => q_82.elim fun g_77 q_83 => q_83.elim fun e_84 q_85 => q_85.elim fun l_78 q_86 => q_86.elim fun u_79 q_87 => q_87.elim fun x_80 q_88 => q_88.elim fun x_81 e_89 => ?_
    clear h_75 q_82 q_83 q_85 q_86 q_87 q_88
    subst e_84
    subst e_89
    let w7_ : va_W := [(mp_ob10 a0 0 a2 a3 a4 a5 a1 r_76 y2 y3 y4 y5 y6 y7 y8 y9 y10 a6 a7 a8 a9 a10 a11 a12 a13 y11 a14 a15 a16 a17 y12 y13 y14 a18 a19 y15 y16 a20 a21 a22 y17 y18 y19 y20 a23 a24 a25 y21), (mp_arI E a1 1 1600 g_77)]
    show mp_W E X 6 47 [(0, .ref a0), (1, .int x0), (2, .int x1), (3, .int x2), (4, .int x3), (5, .int x4)] [] w7_ 0 0
    refine mp_run mp_k_cX10_feed_ok hF mp_tabX10_ok [mp_i (.aload_n 0), mp_h (.getfield 109) [6, 0]] (by decide +kernel) ?_
    refine And.intro rfl (And.intro rfl ?_)
    show mp_W E X 6 51 [(0, .ref a0), (1, .int x0), (2, .int x1), (3, .int x2), (4, .int x3), (5, .int x4)] [.int r_76] w7_ 0 0
    exact mp_iret hF hQ rfl rfl (Nat.le_of_ble_eq_true rfl) (Nat.le_of_ble_eq_true rfl) [0, 1] (w' := w7_) rfl rfl ⟨r_76, g_77, r_76, rfl, l_78, u_79, (by (first | exact mp_o33 l_y1 x_12 x_29 x_46 x_63 x_80 | omega)), u_79, (by first | (first | exact mp_o34 e_3 c_4 x_12 x_29 x_46 x_63 x_80 | omega) | (have h8 : (-1 : Int32).toInt = -1 := rfl; omega)), (Or.inr ⟨by (first | exact mp_o35 e_3 c_4 | omega), mp_b20_of x_13 x_30 x_47 x_64 x_81 (by (first | exact x_12 | omega)) (by (first | exact mp_o36 x_12 x_29 | omega)) (by (first | exact mp_o37 x_12 x_29 x_46 | omega)) (by (first | exact mp_o38 l_y1 x_12 x_29 x_46 x_63 | omega))⟩), rfl⟩ (by first | exact mp_fd_ok mp_k_cX10_feed_ok (by decide +kernel) | decide +kernel)
  · have c_4 : 1600 < z_1.toInt := c_4
    show mp_W E X 6 18 [(0, .ref a0), (1, .int x0), (2, .int x1), (3, .int x2), (4, .int x3), (5, .int x4)] [] w2_ 0 0
    refine mp_run mp_k_cX10_feed_ok hF mp_tabX10_ok [mp_c (.iconst (-1)) (-1)] (by decide +kernel) ?_
    show mp_W E X 6 19 [(0, .ref a0), (1, .int x0), (2, .int x1), (3, .int x2), (4, .int x3), (5, .int x4)] [.int (-1)] w2_ 0 0
    exact mp_iret hF hQ rfl rfl (Nat.le_of_ble_eq_true rfl) (Nat.le_of_ble_eq_true rfl) [0, 1] (w' := w2_) rfl rfl ⟨y1, f0, (-1), rfl, (by (first | exact mp_o39 c_4 e_3 | omega)), u_y1, (by decide), (by decide), (by first | fail | (have h8 : (-1 : Int32).toInt = -1 := rfl; (first | exact mp_o40 h8 c_4 e_3 | omega))), (Or.inl ⟨by (first | exact mp_o41 c_4 e_3 | omega), rfl⟩), rfl⟩ (by first | exact mp_fd_ok mp_k_cX10_feed_ok (by decide +kernel) | decide +kernel)
set_option maxHeartbeats 4000000 in
set_option maxRecDepth 100000 in
theorem bX10_end_8 (E : mp_E) (a0 a1 a2 a3 a4 a5 a6 a7 a8 a9 a10 a11 a12 a13 a14 a15 a16 a17 a18 a19 a20 a21 a22 a23 a24 a25 : Nat) (y0 : Int32) (y1 : Int32) (y2 : Int32) (y3 : Int32) (y4 : Int32) (y5 : Int32) (y6 : Int64) (y7 : Int32) (y8 : Int32) (y9 : Int32) (y10 : Int32) (y11 : Int32) (y12 : Int32) (y13 : Int32) (y14 : Int32) (y15 : Int32) (y16 : Int32) (y17 : Int32) (y18 : Int32) (y19 : Int32) (y20 : Int32) (y21 : Int32) (x0 : Int32) (l_y1 : 0 ≤ y1.toInt) (u_y1 : y1.toInt ≤ 1600) (l_y2 : 0 ≤ y2.toInt) (u_y2 : y2.toInt ≤ 1600) (l_y3 : 0 ≤ y3.toInt) (u_y3 : y3.toInt ≤ 4) (l_y4 : 0 ≤ y4.toInt) (u_y4 : y4.toInt ≤ 1600) (l_y11 : 0 ≤ y11.toInt) (u_y11 : y11.toInt ≤ 99) (l_y12 : 0 ≤ y12.toInt) (u_y12 : y12.toInt ≤ 5) (l_y13 : 0 ≤ y13.toInt) (u_y13 : y13.toInt ≤ 12) : mp_Ct E yX10_end cX10_end 2 (some FieldType.int) 1 0 0 25 [.ref a0, .int x0] [(mp_ob10 a0 y0 a1 a2 a3 a4 a5 y1 y2 y3 y4 y5 y6 y7 y8 y9 y10 a6 a7 a8 a9 a10 a11 a12 a13 y11 a14 a15 a16 a17 y12 y13 y14 a18 a19 y15 y16 a20 a21 a22 y17 y18 y19 y20 a23 a24 a25 y21)] (fun v w' => ∃ r1 : Int32, ∃ r2 : Int32, v = some (.int r2) ∧ 0 ≤ r1.toInt ∧ r1.toInt ≤ 1600 ∧ (-1) ≤ r2.toInt ∧ r2.toInt ≤ 1600 ∧ ((0 ≤ x0.toInt ∧ x0.toInt ≤ y1.toInt ∧ r2.toInt = x0.toInt ∧ r1.toInt = x0.toInt) ∨ ((x0.toInt < 0 ∨ y1.toInt < x0.toInt) ∧ r2.toInt = -1 ∧ r1.toInt = y1.toInt)) ∧ w' = [(mp_ob10 a0 0 a1 a2 a3 a4 a5 r1 y2 y3 y4 y5 y6 y7 y8 y9 y10 a6 a7 a8 a9 a10 a11 a12 a13 y11 a14 a15 a16 a17 y12 y13 y14 a18 a19 y15 y16 a20 a21 a22 y17 y18 y19 y20 a23 a24 a25 y21)]) := by
  refine mp_met false (by decide) (by decide) (Nat.le_of_ble_eq_true rfl) (fun X hF hQ => ?_)
  have hF : mp_F E X (RX10, cX10_end, 2, (1, 0, 0, 25), (some FieldType.int), false) := hF
  let w1_ : va_W := [(mp_ob10 a0 y0 a1 a2 a3 a4 a5 y1 y2 y3 y4 y5 y6 y7 y8 y9 y10 a6 a7 a8 a9 a10 a11 a12 a13 y11 a14 a15 a16 a17 y12 y13 y14 a18 a19 y15 y16 a20 a21 a22 y17 y18 y19 y20 a23 a24 a25 y21)]
  show mp_W E X 2 0 [(0, .ref a0), (1, .int x0)] [] w1_ 0 0
  refine mp_run mp_k_cX10_end_ok hF mp_tabX10_ok [mp_i (.aload_n 0), mp_c (.iconst 0) 0, mp_h (.putfield 92) [0, 0]] (by decide +kernel) ?_
  refine And.intro rfl (And.intro rfl (And.intro rfl (And.intro rfl (And.intro (Nat.le_of_ble_eq_true rfl) ?_))))
  let w2_ : va_W := [(mp_ob10 a0 0 a1 a2 a3 a4 a5 y1 y2 y3 y4 y5 y6 y7 y8 y9 y10 a6 a7 a8 a9 a10 a11 a12 a13 y11 a14 a15 a16 a17 y12 y13 y14 a18 a19 y15 y16 a20 a21 a22 y17 y18 y19 y20 a23 a24 a25 y21)]
  show mp_W E X 2 5 [(0, .ref a0), (1, .int x0)] [] w2_ 0 0
  refine mp_run mp_k_cX10_end_ok hF mp_tabX10_ok [mp_i (.iload_n 1), mp_i .i2l, mp_cl (.lconst 0) 0, mp_i (.aload_n 0), mp_h (.getfield 109) [6, 0], mp_i .i2l] (by decide +kernel) ?_
  intro z_1 h_2
  have e_3 : z_1.toInt = x0.toInt := mp_i2l h_2
  refine And.intro rfl (And.intro rfl ?_)
  intro z_4 h_5
  have e_6 : z_4.toInt = y1.toInt := mp_i2l h_5
  show mp_W E X 2 13 [(0, .ref a0), (1, .int x0)] [.long z_4, .long 0, .long z_1] w2_ 0 0
  refine mp_callS hF (As := [.long z_1, .long 0, .long z_4]) (rest := []) (wr := w2_) (bX10_in_0 E z_1 0 z_4) mp_lkX10_97 [] [0] rfl rfl rfl rfl rfl ⟨(Nat.le_of_ble_eq_true rfl), (Nat.le_of_ble_eq_true rfl), (Nat.le_of_ble_eq_true rfl), (Nat.le_of_ble_eq_true rfl)⟩ (Nat.le_of_ble_eq_true rfl) (by first | exact mp_fd_ok mp_k_cX10_end_ok (by decide +kernel) | decide +kernel) (fun v_7 w_8 h_9 => ?_)
  rcases h_9 with ⟨rfl, x_10, rfl⟩ | ⟨rfl, c_11, c_12, rfl⟩
  · skip
    have i_13 : (0 : Int64).toInt = 0 := by decide
    show mp_W E X 2 16 [(0, .ref a0), (1, .int x0)] [.int 0] w2_ 0 0
    refine mp_run mp_k_cX10_end_ok hF mp_tabX10_ok [mp_h (.ifCond .ne 5) [21]] (by decide +kernel) ?_
    refine And.intro (fun c_14 => absurd c_14 (by decide)) (fun _ => ?_)
    show mp_W E X 2 19 [(0, .ref a0), (1, .int x0)] [] w2_ 0 0
    refine mp_run mp_k_cX10_end_ok hF mp_tabX10_ok [mp_c (.iconst (-1)) (-1)] (by decide +kernel) ?_
    show mp_W E X 2 20 [(0, .ref a0), (1, .int x0)] [.int (-1)] w2_ 0 0
    exact mp_iret hF hQ rfl rfl (Nat.le_of_ble_eq_true rfl) (Nat.le_of_ble_eq_true rfl) [0] (w' := w2_) rfl rfl ⟨y1, (-1), rfl, l_y1, u_y1, (by decide), (by decide), (by first | fail | (have h8 : (0 : Int64).toInt = 0 := rfl; have h9 : (-1 : Int32).toInt = -1 := rfl; (first | exact mp_o963 h9 i_13 e_3 x_10 e_6 | omega))), rfl⟩ (by first | exact mp_fd_ok mp_k_cX10_end_ok (by decide +kernel) | decide +kernel)
  · skip
    have c_11 : 0 ≤ z_1.toInt := c_11
    have c_12 : z_1.toInt ≤ z_4.toInt := c_12
    have i_15 : (0 : Int64).toInt = 0 := by decide
    show mp_W E X 2 16 [(0, .ref a0), (1, .int x0)] [.int 1] w2_ 0 0
    refine mp_run mp_k_cX10_end_ok hF mp_tabX10_ok [mp_h (.ifCond .ne 5) [21]] (by decide +kernel) ?_
    refine And.intro (fun _ => ?_) (fun c_16 => absurd c_16 (by decide))
    show mp_W E X 2 21 [(0, .ref a0), (1, .int x0)] [] w2_ 0 0
    refine mp_run mp_k_cX10_end_ok hF mp_tabX10_ok [mp_i (.aload_n 0), mp_i (.iload_n 1), mp_h (.putfield 109) [6, 0]] (by decide +kernel) ?_
    refine And.intro rfl (And.intro rfl (And.intro rfl (And.intro rfl (And.intro (Nat.le_of_ble_eq_true rfl) ?_))))
    let w3_ : va_W := [(mp_ob10 a0 0 a1 a2 a3 a4 a5 x0 y2 y3 y4 y5 y6 y7 y8 y9 y10 a6 a7 a8 a9 a10 a11 a12 a13 y11 a14 a15 a16 a17 y12 y13 y14 a18 a19 y15 y16 a20 a21 a22 y17 y18 y19 y20 a23 a24 a25 y21)]
    show mp_W E X 2 26 [(0, .ref a0), (1, .int x0)] [] w3_ 0 0
    refine mp_run mp_k_cX10_end_ok hF mp_tabX10_ok [mp_i (.iload_n 1)] (by decide +kernel) ?_
    show mp_W E X 2 27 [(0, .ref a0), (1, .int x0)] [.int x0] w3_ 0 0
    exact mp_iret hF hQ rfl rfl (Nat.le_of_ble_eq_true rfl) (Nat.le_of_ble_eq_true rfl) [0] (w' := w3_) rfl rfl ⟨x0, x0, rfl, (by (first | exact mp_o921 c_11 e_3 | omega)), (by (first | exact mp_o964 e_3 u_y1 e_6 c_12 | omega)), (by (first | exact mp_o965 c_11 e_3 | omega)), (by (first | exact mp_o964 e_3 u_y1 e_6 c_12 | omega)), (by first | (first | exact mp_o966 c_11 e_3 e_6 c_12 | omega) | (have h8 : (0 : Int64).toInt = 0 := rfl; have h9 : (-1 : Int32).toInt = -1 := rfl; omega)), rfl⟩ (by first | exact mp_fd_ok mp_k_cX10_end_ok (by decide +kernel) | decide +kernel)
set_option maxHeartbeats 4000000 in
set_option maxRecDepth 100000 in
theorem bX10_fault_9 (E : mp_E) (a0 a1 a2 a3 a4 a5 a6 a7 a8 a9 a10 a11 a12 a13 a14 a15 a16 a17 a18 a19 a20 a21 a22 a23 a24 a25 : Nat) (y0 : Int32) (y1 : Int32) (y2 : Int32) (y3 : Int32) (y4 : Int32) (y5 : Int32) (y6 : Int64) (y7 : Int32) (y8 : Int32) (y9 : Int32) (y10 : Int32) (y11 : Int32) (y12 : Int32) (y13 : Int32) (y14 : Int32) (y15 : Int32) (y16 : Int32) (y17 : Int32) (y18 : Int32) (y19 : Int32) (y20 : Int32) (y21 : Int32) (x0 : Int32) (l_y1 : 0 ≤ y1.toInt) (u_y1 : y1.toInt ≤ 1600) (l_y2 : 0 ≤ y2.toInt) (u_y2 : y2.toInt ≤ 1600) (l_y3 : 0 ≤ y3.toInt) (u_y3 : y3.toInt ≤ 4) (l_y4 : 0 ≤ y4.toInt) (u_y4 : y4.toInt ≤ 1600) (l_y11 : 0 ≤ y11.toInt) (u_y11 : y11.toInt ≤ 99) (l_y12 : 0 ≤ y12.toInt) (u_y12 : y12.toInt ≤ 5) (l_y13 : 0 ≤ y13.toInt) (u_y13 : y13.toInt ≤ 12) : mp_Ct E yX10_fault cX10_fault 2 (some FieldType.int) 0 0 0 0 [.ref a0, .int x0] [(mp_ob10 a0 y0 a1 a2 a3 a4 a5 y1 y2 y3 y4 y5 y6 y7 y8 y9 y10 a6 a7 a8 a9 a10 a11 a12 a13 y11 a14 a15 a16 a17 y12 y13 y14 a18 a19 y15 y16 a20 a21 a22 y17 y18 y19 y20 a23 a24 a25 y21)] (fun v w' => ∃ r1 : Int32, v = some (.int r1) ∧ ((x0.toInt = 0 ∧ r1.toInt = y9.toInt) ∨ (x0.toInt = 1 ∧ r1.toInt = y10.toInt) ∨ (x0.toInt ≠ 0 ∧ x0.toInt ≠ 1 ∧ r1.toInt = -1)) ∧ w' = [(mp_ob10 a0 0 a1 a2 a3 a4 a5 y1 y2 y3 y4 y5 y6 y7 y8 y9 y10 a6 a7 a8 a9 a10 a11 a12 a13 y11 a14 a15 a16 a17 y12 y13 y14 a18 a19 y15 y16 a20 a21 a22 y17 y18 y19 y20 a23 a24 a25 y21)]) := by
  refine mp_met false (by decide) (by decide) (Nat.le_of_ble_eq_true rfl) (fun X hF hQ => ?_)
  have hF : mp_F E X (RX10, cX10_fault, 2, (0, 0, 0, 0), (some FieldType.int), false) := hF
  let w1_ : va_W := [(mp_ob10 a0 y0 a1 a2 a3 a4 a5 y1 y2 y3 y4 y5 y6 y7 y8 y9 y10 a6 a7 a8 a9 a10 a11 a12 a13 y11 a14 a15 a16 a17 y12 y13 y14 a18 a19 y15 y16 a20 a21 a22 y17 y18 y19 y20 a23 a24 a25 y21)]
  show mp_W E X 2 0 [(0, .ref a0), (1, .int x0)] [] w1_ 0 0
  refine mp_run mp_k_cX10_fault_ok hF mp_tabX10_ok [mp_i (.aload_n 0), mp_c (.iconst 0) 0, mp_h (.putfield 92) [0, 0]] (by decide +kernel) ?_
  refine And.intro rfl (And.intro rfl (And.intro rfl (And.intro rfl (And.intro (Nat.le_of_ble_eq_true rfl) ?_))))
  let w2_ : va_W := [(mp_ob10 a0 0 a1 a2 a3 a4 a5 y1 y2 y3 y4 y5 y6 y7 y8 y9 y10 a6 a7 a8 a9 a10 a11 a12 a13 y11 a14 a15 a16 a17 y12 y13 y14 a18 a19 y15 y16 a20 a21 a22 y17 y18 y19 y20 a23 a24 a25 y21)]
  show mp_W E X 2 5 [(0, .ref a0), (1, .int x0)] [] w2_ 0 0
  refine mp_run mp_k_cX10_fault_ok hF mp_tabX10_ok [mp_i (.iload_n 1), mp_h (.ifCond .ne 10) [16]] (by decide +kernel) ?_
  refine And.intro (fun c_1 => ?_) (fun c_1 => ?_)
  · have c_1 : x0.toInt ≠ 0 := c_1
    show mp_W E X 2 16 [(0, .ref a0), (1, .int x0)] [] w2_ 0 0
    refine mp_run mp_k_cX10_fault_ok hF mp_tabX10_ok [mp_i (.iload_n 1), mp_c (.iconst 1) 1, mp_h (.if_icmp .ne 10) [28]] (by decide +kernel) ?_
    refine And.intro (fun c_2 => ?_) (fun c_2 => ?_)
    · have c_2 : x0.toInt ≠ 1 := c_2
      show mp_W E X 2 28 [(0, .ref a0), (1, .int x0)] [] w2_ 0 0
      refine mp_run mp_k_cX10_fault_ok hF mp_tabX10_ok [mp_c (.iconst (-1)) (-1)] (by decide +kernel) ?_
      show mp_W E X 2 29 [(0, .ref a0), (1, .int x0)] [.int (-1)] w2_ 0 0
      exact mp_iret hF hQ rfl rfl (Nat.le_of_ble_eq_true rfl) (Nat.le_of_ble_eq_true rfl) [0] (w' := w2_) rfl rfl ⟨(-1), rfl, (by first | fail | (have h8 : (-1 : Int32).toInt = -1 := rfl; (first | exact mp_o358 c_1 c_2 h8 | omega))), rfl⟩ (by first | exact mp_fd_ok mp_k_cX10_fault_ok (by decide +kernel) | decide +kernel)
    · have c_2 : x0.toInt = 1 := (congrArg Int32.toInt c_2)
      show mp_W E X 2 21 [(0, .ref a0), (1, .int x0)] [] w2_ 0 0
      refine mp_run mp_k_cX10_fault_ok hF mp_tabX10_ok [mp_i (.aload_n 0), mp_h (.getfield 27) [15, 0], mp_h (.goto 4) [29]] (by decide +kernel) ?_
      refine And.intro rfl (And.intro rfl ?_)
      show mp_W E X 2 29 [(0, .ref a0), (1, .int x0)] [.int y10] w2_ 0 0
      exact mp_iret hF hQ rfl rfl (Nat.le_of_ble_eq_true rfl) (Nat.le_of_ble_eq_true rfl) [0] (w' := w2_) rfl rfl ⟨y10, rfl, (by first | (first | exact mp_o359 c_2 | omega) | (have h8 : (-1 : Int32).toInt = -1 := rfl; omega)), rfl⟩ (by first | exact mp_fd_ok mp_k_cX10_fault_ok (by decide +kernel) | decide +kernel)
  · have c_1 : x0.toInt = 0 := (congrArg Int32.toInt c_1)
    show mp_W E X 2 9 [(0, .ref a0), (1, .int x0)] [] w2_ 0 0
    refine mp_run mp_k_cX10_fault_ok hF mp_tabX10_ok [mp_i (.aload_n 0), mp_h (.getfield 171) [14, 0], mp_h (.goto 16) [29]] (by decide +kernel) ?_
    refine And.intro rfl (And.intro rfl ?_)
    show mp_W E X 2 29 [(0, .ref a0), (1, .int x0)] [.int y9] w2_ 0 0
    exact mp_iret hF hQ rfl rfl (Nat.le_of_ble_eq_true rfl) (Nat.le_of_ble_eq_true rfl) [0] (w' := w2_) rfl rfl ⟨y9, rfl, (by first | (first | exact mp_o360 c_1 | omega) | (have h8 : (-1 : Int32).toInt = -1 := rfl; omega)), rfl⟩ (by first | exact mp_fd_ok mp_k_cX10_fault_ok (by decide +kernel) | decide +kernel)
set_option maxHeartbeats 4000000 in
set_option maxRecDepth 100000 in
theorem bX10_clears_10 (E : mp_E) (a0 a1 a2 a3 a4 a5 a6 a7 a8 a9 a10 a11 a12 a13 a14 a15 a16 a17 a18 a19 a20 a21 a22 a23 a24 a25 : Nat) (f0 : Nat → Int32) (f1 : Nat → Int32) (f2 : Nat → Int32) (f3 : Nat → Int32) (y0 : Int32) (y1 : Int32) (y2 : Int32) (y3 : Int32) (y4 : Int32) (y5 : Int32) (y6 : Int64) (y7 : Int32) (y8 : Int32) (y9 : Int32) (y10 : Int32) (y11 : Int32) (y12 : Int32) (y13 : Int32) (y14 : Int32) (y15 : Int32) (y16 : Int32) (y17 : Int32) (y18 : Int32) (y19 : Int32) (y20 : Int32) (y21 : Int32) (p0 : mp_res f1 25 5 0 0 6) (p1 : mp_res f1 25 5 1 0 99) (p2 : mp_res f1 25 5 2 0 6) (p3 : mp_res f1 25 5 3 0 10) (p4 : mp_res f1 25 5 4 0 60) (p5 : mp_all f2 180 0 20) (p6 : mp_all f3 3000 0 1) (l_y1 : 0 ≤ y1.toInt) (u_y1 : y1.toInt ≤ 1600) (l_y2 : 0 ≤ y2.toInt) (u_y2 : y2.toInt ≤ 1600) (l_y3 : 0 ≤ y3.toInt) (u_y3 : y3.toInt ≤ 4) (l_y4 : 0 ≤ y4.toInt) (u_y4 : y4.toInt ≤ 1600) (l_y11 : 0 ≤ y11.toInt) (u_y11 : y11.toInt ≤ 99) (l_y12 : 0 ≤ y12.toInt) (u_y12 : y12.toInt ≤ 5) (l_y13 : 0 ≤ y13.toInt) (u_y13 : y13.toInt ≤ 12) : mp_Ct E yX10_clears cX10_clears 2 none 0 0 0 0 [.ref a0] [(mp_ob10 a0 y0 a5 a6 a7 a8 a9 y1 y2 y3 y4 y5 y6 y7 y8 y9 y10 a1 a2 a3 a4 a10 a11 a12 a13 y11 a14 a15 a16 a17 y12 y13 y14 a18 a19 y15 y16 a20 a21 a22 y17 y18 y19 y20 a23 a24 a25 y21), (mp_arI E a1 0 5 f0), (mp_arI E a2 0 25 f1), (mp_arI E a3 0 180 f2), (mp_arI E a4 3 3000 f3)] (fun v w' => ∃ h1 : Nat → Int32, ∃ h2 : Nat → Int32, ∃ h3 : Nat → Int32, ∃ h4 : Nat → Int32, v = none ∧ mp_keep h1 f0 4 ∧ mp_res h2 25 5 0 0 6 ∧ mp_res h2 25 5 1 0 99 ∧ mp_res h2 25 5 2 0 6 ∧ mp_res h2 25 5 3 0 10 ∧ mp_res h2 25 5 4 0 60 ∧ mp_keep h2 f1 20 ∧ mp_all h3 180 0 20 ∧ mp_keep h3 f2 144 ∧ mp_all h4 3000 0 1 ∧ mp_keep h4 f3 2400 ∧ ((h2 20).toInt = 0) ∧ ((h2 21).toInt = 0) ∧ ((h2 22).toInt = 0) ∧ ((h2 23).toInt = 0) ∧ ((h2 24).toInt = 0) ∧ ((h1 4).toInt = 0) ∧ (∀ j : Nat, (j : Int) < 36 → h3 (144 + j) = 0) ∧ (∀ j : Nat, (j : Int) < 600 → h4 (2400 + j) = 0) ∧ w' = [(mp_ob10 a0 y0 a5 a6 a7 a8 a9 y1 y2 y3 y4 y5 y6 y7 y8 y9 y10 a1 a2 a3 a4 a10 a11 a12 a13 y11 a14 a15 a16 a17 y12 y13 y14 a18 a19 y15 y16 a20 a21 a22 y17 y18 y19 y20 a23 a24 a25 y21), (mp_arI E a1 0 5 h1), (mp_arI E a2 0 25 h2), (mp_arI E a3 0 180 h3), (mp_arI E a4 3 3000 h4)]) := by
  refine mp_met false (by decide) (by decide) (Nat.le_of_ble_eq_true rfl) (fun X hF hQ => ?_)
  have hF : mp_F E X (RX10, cX10_clears, 2, (0, 0, 0, 0), none, false) := hF
  let w1_ : va_W := [(mp_ob10 a0 y0 a5 a6 a7 a8 a9 y1 y2 y3 y4 y5 y6 y7 y8 y9 y10 a1 a2 a3 a4 a10 a11 a12 a13 y11 a14 a15 a16 a17 y12 y13 y14 a18 a19 y15 y16 a20 a21 a22 y17 y18 y19 y20 a23 a24 a25 y21), (mp_arI E a1 0 5 f0), (mp_arI E a2 0 25 f1), (mp_arI E a3 0 180 f2), (mp_arI E a4 3 3000 f3)]
  show mp_W E X 2 0 [(0, .ref a0)] [] w1_ 0 0
  refine mp_run mp_k_cX10_clears_ok hF mp_tabX10_ok [mp_i (.aload_n 0), mp_h (.getfield 31) [16, 0], mp_c (.iconst 4) 4, mp_c (.iconst 0) 0, mp_h .iastore [1]] (by decide +kernel) ?_
  refine And.intro rfl (And.intro rfl ?_)
  refine And.intro rfl (And.intro rfl (And.intro (vp_in_iff.mpr (by decide)) ?_))
  intro g_1 h_2
  have p_3 : mp_keep g_1 f0 4 := mp_keep_st h_2 mp_keep_rfl (by decide)
  have e_4 : (g_1 0).toInt = (f0 0).toInt := mp_has_ne h_2 (by decide)
  have e_5 : (g_1 4).toInt = 0 := mp_has_eq h_2 (by decide)
  let w2_ : va_W := [(mp_ob10 a0 y0 a5 a6 a7 a8 a9 y1 y2 y3 y4 y5 y6 y7 y8 y9 y10 a1 a2 a3 a4 a10 a11 a12 a13 y11 a14 a15 a16 a17 y12 y13 y14 a18 a19 y15 y16 a20 a21 a22 y17 y18 y19 y20 a23 a24 a25 y21), (mp_arI E a1 0 5 g_1), (mp_arI E a2 0 25 f1), (mp_arI E a3 0 180 f2), (mp_arI E a4 3 3000 f3)]
  show mp_W E X 2 7 [(0, .ref a0)] [] w2_ 0 0
  refine mp_run mp_k_cX10_clears_ok hF mp_tabX10_ok [mp_c (.iconst 0) 0, mp_i (.istore_n 1), mp_i (.iload_n 1), mp_c (.iconst 5) 5, mp_h (.if_icmp .ge 19) [30]] (by decide +kernel) ?_
  refine And.intro (fun c_6 => absurd c_6 (by decide)) (fun _ => ?_)
  show mp_W E X 2 14 [(1, .int 0), (0, .ref a0)] [] w2_ 0 0
  refine mp_run mp_k_cX10_clears_ok hF mp_tabX10_ok [mp_i (.aload_n 0), mp_h (.getfield 34) [17, 0], mp_c (.bipush 20) 20, mp_i (.iload_n 1), mp_i .iadd, mp_c (.iconst 0) 0, mp_h .iastore [2]] (by decide +kernel) ?_
  refine And.intro rfl (And.intro rfl ?_)
  intro z_7 h_8
  obtain rfl : z_7 = 20 := h_8.trans (by decide)
  refine And.intro rfl (And.intro rfl (And.intro (vp_in_iff.mpr (by decide)) ?_))
  intro g_9 h_10
  have p_11 : mp_res g_9 25 5 0 0 6 := mp_res_st h_10 p0 (by decide) (fun _ => by decide)
  have p_12 : mp_res g_9 25 5 1 0 99 := mp_res_st h_10 p1 (by decide) (fun _ => by decide)
  have p_13 : mp_res g_9 25 5 2 0 6 := mp_res_st h_10 p2 (by decide) (fun _ => by decide)
  have p_14 : mp_res g_9 25 5 3 0 10 := mp_res_st h_10 p3 (by decide) (fun _ => by decide)
  have p_15 : mp_res g_9 25 5 4 0 60 := mp_res_st h_10 p4 (by decide) (fun _ => by decide)
  have p_16 : mp_keep g_9 f1 20 := mp_keep_st h_10 mp_keep_rfl (by decide)
  have e_17 : (g_9 0).toInt = (f1 0).toInt := mp_has_ne h_10 (by decide)
  have e_18 : (g_9 1).toInt = (f1 1).toInt := mp_has_ne h_10 (by decide)
  have e_19 : (g_9 2).toInt = (f1 2).toInt := mp_has_ne h_10 (by decide)
  have e_20 : (g_9 3).toInt = (f1 3).toInt := mp_has_ne h_10 (by decide)
  have e_21 : (g_9 4).toInt = (f1 4).toInt := mp_has_ne h_10 (by decide)
  have e_22 : (g_9 20).toInt = 0 := mp_has_eq h_10 (by decide)
  have e_23 : (g_9 21).toInt = (f1 21).toInt := mp_has_ne h_10 (by decide)
  have e_24 : (g_9 22).toInt = (f1 22).toInt := mp_has_ne h_10 (by decide)
  have e_25 : (g_9 23).toInt = (f1 23).toInt := mp_has_ne h_10 (by decide)
  have e_26 : (g_9 24).toInt = (f1 24).toInt := mp_has_ne h_10 (by decide)
  let w3_ : va_W := [(mp_ob10 a0 y0 a5 a6 a7 a8 a9 y1 y2 y3 y4 y5 y6 y7 y8 y9 y10 a1 a2 a3 a4 a10 a11 a12 a13 y11 a14 a15 a16 a17 y12 y13 y14 a18 a19 y15 y16 a20 a21 a22 y17 y18 y19 y20 a23 a24 a25 y21), (mp_arI E a1 0 5 g_1), (mp_arI E a2 0 25 g_9), (mp_arI E a3 0 180 f2), (mp_arI E a4 3 3000 f3)]
  show mp_W E X 2 24 [(1, .int 0), (0, .ref a0)] [] w3_ 0 0
  refine mp_run mp_k_cX10_clears_ok hF mp_tabX10_ok [mp_c (.iinc 1 1) 1, mp_h (.goto (-18)) [9], mp_i (.iload_n 1), mp_c (.iconst 5) 5, mp_h (.if_icmp .ge 19) [30]] (by decide +kernel) ?_
  intro z_27 h_28
  obtain rfl : z_27 = 1 := h_28.trans (by decide)
  refine And.intro (fun c_29 => absurd c_29 (by decide)) (fun _ => ?_)
  show mp_W E X 2 14 [(1, .int 1), (0, .ref a0)] [] w3_ 0 0
  refine mp_run mp_k_cX10_clears_ok hF mp_tabX10_ok [mp_i (.aload_n 0), mp_h (.getfield 34) [17, 0], mp_c (.bipush 20) 20, mp_i (.iload_n 1), mp_i .iadd, mp_c (.iconst 0) 0, mp_h .iastore [2]] (by decide +kernel) ?_
  refine And.intro rfl (And.intro rfl ?_)
  intro z_30 h_31
  obtain rfl : z_30 = 21 := h_31.trans (by decide)
  refine And.intro rfl (And.intro rfl (And.intro (vp_in_iff.mpr (by decide)) ?_))
  intro g_32 h_33
  have p_34 : mp_res g_32 25 5 0 0 6 := mp_res_st h_33 p_11 (by decide) (fun _ => by decide)
  have p_35 : mp_res g_32 25 5 1 0 99 := mp_res_st h_33 p_12 (by decide) (fun _ => by decide)
  have p_36 : mp_res g_32 25 5 2 0 6 := mp_res_st h_33 p_13 (by decide) (fun _ => by decide)
  have p_37 : mp_res g_32 25 5 3 0 10 := mp_res_st h_33 p_14 (by decide) (fun _ => by decide)
  have p_38 : mp_res g_32 25 5 4 0 60 := mp_res_st h_33 p_15 (by decide) (fun _ => by decide)
  have p_39 : mp_keep g_32 f1 20 := mp_keep_st h_33 p_16 (by decide)
  have e_40 : (g_32 0).toInt = (g_9 0).toInt := mp_has_ne h_33 (by decide)
  have e_41 : (g_32 1).toInt = (g_9 1).toInt := mp_has_ne h_33 (by decide)
  have e_42 : (g_32 2).toInt = (g_9 2).toInt := mp_has_ne h_33 (by decide)
  have e_43 : (g_32 3).toInt = (g_9 3).toInt := mp_has_ne h_33 (by decide)
  have e_44 : (g_32 4).toInt = (g_9 4).toInt := mp_has_ne h_33 (by decide)
  have e_45 : (g_32 20).toInt = (g_9 20).toInt := mp_has_ne h_33 (by decide)
  have e_46 : (g_32 21).toInt = 0 := mp_has_eq h_33 (by decide)
  have e_47 : (g_32 22).toInt = (g_9 22).toInt := mp_has_ne h_33 (by decide)
  have e_48 : (g_32 23).toInt = (g_9 23).toInt := mp_has_ne h_33 (by decide)
  have e_49 : (g_32 24).toInt = (g_9 24).toInt := mp_has_ne h_33 (by decide)
  let w4_ : va_W := [(mp_ob10 a0 y0 a5 a6 a7 a8 a9 y1 y2 y3 y4 y5 y6 y7 y8 y9 y10 a1 a2 a3 a4 a10 a11 a12 a13 y11 a14 a15 a16 a17 y12 y13 y14 a18 a19 y15 y16 a20 a21 a22 y17 y18 y19 y20 a23 a24 a25 y21), (mp_arI E a1 0 5 g_1), (mp_arI E a2 0 25 g_32), (mp_arI E a3 0 180 f2), (mp_arI E a4 3 3000 f3)]
  show mp_W E X 2 24 [(1, .int 1), (0, .ref a0)] [] w4_ 0 0
  refine mp_run mp_k_cX10_clears_ok hF mp_tabX10_ok [mp_c (.iinc 1 1) 1, mp_h (.goto (-18)) [9], mp_i (.iload_n 1), mp_c (.iconst 5) 5, mp_h (.if_icmp .ge 19) [30]] (by decide +kernel) ?_
  intro z_50 h_51
  obtain rfl : z_50 = 2 := h_51.trans (by decide)
  refine And.intro (fun c_52 => absurd c_52 (by decide)) (fun _ => ?_)
  show mp_W E X 2 14 [(1, .int 2), (0, .ref a0)] [] w4_ 0 0
  refine mp_run mp_k_cX10_clears_ok hF mp_tabX10_ok [mp_i (.aload_n 0), mp_h (.getfield 34) [17, 0], mp_c (.bipush 20) 20, mp_i (.iload_n 1), mp_i .iadd, mp_c (.iconst 0) 0, mp_h .iastore [2]] (by decide +kernel) ?_
  refine And.intro rfl (And.intro rfl ?_)
  intro z_53 h_54
  obtain rfl : z_53 = 22 := h_54.trans (by decide)
  refine And.intro rfl (And.intro rfl (And.intro (vp_in_iff.mpr (by decide)) ?_))
  intro g_55 h_56
  have p_57 : mp_res g_55 25 5 0 0 6 := mp_res_st h_56 p_34 (by decide) (fun _ => by decide)
  have p_58 : mp_res g_55 25 5 1 0 99 := mp_res_st h_56 p_35 (by decide) (fun _ => by decide)
  have p_59 : mp_res g_55 25 5 2 0 6 := mp_res_st h_56 p_36 (by decide) (fun _ => by decide)
  have p_60 : mp_res g_55 25 5 3 0 10 := mp_res_st h_56 p_37 (by decide) (fun _ => by decide)
  have p_61 : mp_res g_55 25 5 4 0 60 := mp_res_st h_56 p_38 (by decide) (fun _ => by decide)
  have p_62 : mp_keep g_55 f1 20 := mp_keep_st h_56 p_39 (by decide)
  have e_63 : (g_55 0).toInt = (g_32 0).toInt := mp_has_ne h_56 (by decide)
  have e_64 : (g_55 1).toInt = (g_32 1).toInt := mp_has_ne h_56 (by decide)
  have e_65 : (g_55 2).toInt = (g_32 2).toInt := mp_has_ne h_56 (by decide)
  have e_66 : (g_55 3).toInt = (g_32 3).toInt := mp_has_ne h_56 (by decide)
  have e_67 : (g_55 4).toInt = (g_32 4).toInt := mp_has_ne h_56 (by decide)
  have e_68 : (g_55 20).toInt = (g_32 20).toInt := mp_has_ne h_56 (by decide)
  have e_69 : (g_55 21).toInt = (g_32 21).toInt := mp_has_ne h_56 (by decide)
  have e_70 : (g_55 22).toInt = 0 := mp_has_eq h_56 (by decide)
  have e_71 : (g_55 23).toInt = (g_32 23).toInt := mp_has_ne h_56 (by decide)
  have e_72 : (g_55 24).toInt = (g_32 24).toInt := mp_has_ne h_56 (by decide)
  let w5_ : va_W := [(mp_ob10 a0 y0 a5 a6 a7 a8 a9 y1 y2 y3 y4 y5 y6 y7 y8 y9 y10 a1 a2 a3 a4 a10 a11 a12 a13 y11 a14 a15 a16 a17 y12 y13 y14 a18 a19 y15 y16 a20 a21 a22 y17 y18 y19 y20 a23 a24 a25 y21), (mp_arI E a1 0 5 g_1), (mp_arI E a2 0 25 g_55), (mp_arI E a3 0 180 f2), (mp_arI E a4 3 3000 f3)]
  show mp_W E X 2 24 [(1, .int 2), (0, .ref a0)] [] w5_ 0 0
  refine mp_run mp_k_cX10_clears_ok hF mp_tabX10_ok [mp_c (.iinc 1 1) 1, mp_h (.goto (-18)) [9], mp_i (.iload_n 1), mp_c (.iconst 5) 5, mp_h (.if_icmp .ge 19) [30]] (by decide +kernel) ?_
  intro z_73 h_74
  obtain rfl : z_73 = 3 := h_74.trans (by decide)
  refine And.intro (fun c_75 => absurd c_75 (by decide)) (fun _ => ?_)
  show mp_W E X 2 14 [(1, .int 3), (0, .ref a0)] [] w5_ 0 0
  refine mp_run mp_k_cX10_clears_ok hF mp_tabX10_ok [mp_i (.aload_n 0), mp_h (.getfield 34) [17, 0], mp_c (.bipush 20) 20, mp_i (.iload_n 1), mp_i .iadd, mp_c (.iconst 0) 0, mp_h .iastore [2]] (by decide +kernel) ?_
  refine And.intro rfl (And.intro rfl ?_)
  intro z_76 h_77
  obtain rfl : z_76 = 23 := h_77.trans (by decide)
  refine And.intro rfl (And.intro rfl (And.intro (vp_in_iff.mpr (by decide)) ?_))
  intro g_78 h_79
  have p_80 : mp_res g_78 25 5 0 0 6 := mp_res_st h_79 p_57 (by decide) (fun _ => by decide)
  have p_81 : mp_res g_78 25 5 1 0 99 := mp_res_st h_79 p_58 (by decide) (fun _ => by decide)
  have p_82 : mp_res g_78 25 5 2 0 6 := mp_res_st h_79 p_59 (by decide) (fun _ => by decide)
  have p_83 : mp_res g_78 25 5 3 0 10 := mp_res_st h_79 p_60 (by decide) (fun _ => by decide)
  have p_84 : mp_res g_78 25 5 4 0 60 := mp_res_st h_79 p_61 (by decide) (fun _ => by decide)
  have p_85 : mp_keep g_78 f1 20 := mp_keep_st h_79 p_62 (by decide)
  have e_86 : (g_78 0).toInt = (g_55 0).toInt := mp_has_ne h_79 (by decide)
  have e_87 : (g_78 1).toInt = (g_55 1).toInt := mp_has_ne h_79 (by decide)
  have e_88 : (g_78 2).toInt = (g_55 2).toInt := mp_has_ne h_79 (by decide)
  have e_89 : (g_78 3).toInt = (g_55 3).toInt := mp_has_ne h_79 (by decide)
  have e_90 : (g_78 4).toInt = (g_55 4).toInt := mp_has_ne h_79 (by decide)
  have e_91 : (g_78 20).toInt = (g_55 20).toInt := mp_has_ne h_79 (by decide)
  have e_92 : (g_78 21).toInt = (g_55 21).toInt := mp_has_ne h_79 (by decide)
  have e_93 : (g_78 22).toInt = (g_55 22).toInt := mp_has_ne h_79 (by decide)
  have e_94 : (g_78 23).toInt = 0 := mp_has_eq h_79 (by decide)
  have e_95 : (g_78 24).toInt = (g_55 24).toInt := mp_has_ne h_79 (by decide)
  let w6_ : va_W := [(mp_ob10 a0 y0 a5 a6 a7 a8 a9 y1 y2 y3 y4 y5 y6 y7 y8 y9 y10 a1 a2 a3 a4 a10 a11 a12 a13 y11 a14 a15 a16 a17 y12 y13 y14 a18 a19 y15 y16 a20 a21 a22 y17 y18 y19 y20 a23 a24 a25 y21), (mp_arI E a1 0 5 g_1), (mp_arI E a2 0 25 g_78), (mp_arI E a3 0 180 f2), (mp_arI E a4 3 3000 f3)]
  show mp_W E X 2 24 [(1, .int 3), (0, .ref a0)] [] w6_ 0 0
  refine mp_run mp_k_cX10_clears_ok hF mp_tabX10_ok [mp_c (.iinc 1 1) 1, mp_h (.goto (-18)) [9], mp_i (.iload_n 1), mp_c (.iconst 5) 5, mp_h (.if_icmp .ge 19) [30]] (by decide +kernel) ?_
  intro z_96 h_97
  obtain rfl : z_96 = 4 := h_97.trans (by decide)
  refine And.intro (fun c_98 => absurd c_98 (by decide)) (fun _ => ?_)
  show mp_W E X 2 14 [(1, .int 4), (0, .ref a0)] [] w6_ 0 0
  refine mp_run mp_k_cX10_clears_ok hF mp_tabX10_ok [mp_i (.aload_n 0), mp_h (.getfield 34) [17, 0], mp_c (.bipush 20) 20, mp_i (.iload_n 1), mp_i .iadd, mp_c (.iconst 0) 0, mp_h .iastore [2]] (by decide +kernel) ?_
  refine And.intro rfl (And.intro rfl ?_)
  intro z_99 h_100
  obtain rfl : z_99 = 24 := h_100.trans (by decide)
  refine And.intro rfl (And.intro rfl (And.intro (vp_in_iff.mpr (by decide)) ?_))
  intro g_101 h_102
  have p_103 : mp_res g_101 25 5 0 0 6 := mp_res_st h_102 p_80 (by decide) (fun _ => by decide)
  have p_104 : mp_res g_101 25 5 1 0 99 := mp_res_st h_102 p_81 (by decide) (fun _ => by decide)
  have p_105 : mp_res g_101 25 5 2 0 6 := mp_res_st h_102 p_82 (by decide) (fun _ => by decide)
  have p_106 : mp_res g_101 25 5 3 0 10 := mp_res_st h_102 p_83 (by decide) (fun _ => by decide)
  have p_107 : mp_res g_101 25 5 4 0 60 := mp_res_st h_102 p_84 (by decide) (fun _ => by decide)
  have p_108 : mp_keep g_101 f1 20 := mp_keep_st h_102 p_85 (by decide)
  have e_109 : (g_101 0).toInt = (g_78 0).toInt := mp_has_ne h_102 (by decide)
  have e_110 : (g_101 1).toInt = (g_78 1).toInt := mp_has_ne h_102 (by decide)
  have e_111 : (g_101 2).toInt = (g_78 2).toInt := mp_has_ne h_102 (by decide)
  have e_112 : (g_101 3).toInt = (g_78 3).toInt := mp_has_ne h_102 (by decide)
  have e_113 : (g_101 4).toInt = (g_78 4).toInt := mp_has_ne h_102 (by decide)
  have e_114 : (g_101 20).toInt = (g_78 20).toInt := mp_has_ne h_102 (by decide)
  have e_115 : (g_101 21).toInt = (g_78 21).toInt := mp_has_ne h_102 (by decide)
  have e_116 : (g_101 22).toInt = (g_78 22).toInt := mp_has_ne h_102 (by decide)
  have e_117 : (g_101 23).toInt = (g_78 23).toInt := mp_has_ne h_102 (by decide)
  have e_118 : (g_101 24).toInt = 0 := mp_has_eq h_102 (by decide)
  let w7_ : va_W := [(mp_ob10 a0 y0 a5 a6 a7 a8 a9 y1 y2 y3 y4 y5 y6 y7 y8 y9 y10 a1 a2 a3 a4 a10 a11 a12 a13 y11 a14 a15 a16 a17 y12 y13 y14 a18 a19 y15 y16 a20 a21 a22 y17 y18 y19 y20 a23 a24 a25 y21), (mp_arI E a1 0 5 g_1), (mp_arI E a2 0 25 g_101), (mp_arI E a3 0 180 f2), (mp_arI E a4 3 3000 f3)]
  show mp_W E X 2 24 [(1, .int 4), (0, .ref a0)] [] w7_ 0 0
  refine mp_run mp_k_cX10_clears_ok hF mp_tabX10_ok [mp_c (.iinc 1 1) 1, mp_h (.goto (-18)) [9], mp_i (.iload_n 1), mp_c (.iconst 5) 5, mp_h (.if_icmp .ge 19) [30]] (by decide +kernel) ?_
  intro z_119 h_120
  obtain rfl : z_119 = 5 := h_120.trans (by decide)
  refine And.intro (fun _ => ?_) (fun c_121 => absurd c_121 (by decide))
  show mp_W E X 2 30 [(1, .int 5), (0, .ref a0)] [] w7_ 0 0
  refine mp_run mp_k_cX10_clears_ok hF mp_tabX10_ok [mp_c (.iconst 0) 0, mp_i (.istore_n 1)] (by decide +kernel) ?_
  show mp_W E X 2 32 [(1, .int 0), (0, .ref a0)] [] w7_ 0 0
  have lp_130 : ∀ (d_131 : Nat) (i_122 : Int32) (g_123 : Nat → Int32), 0 ≤ i_122.toInt → i_122.toInt ≤ 36 → mp_all g_123 180 0 20 → mp_keep g_123 f2 144 → (∀ j : Nat, (j : Int) < i_122.toInt → g_123 (144 + j) = 0) → (0 ≤ i_122.toInt) → -(i_122.toInt) + 36 ≤ (d_131 : Int) → mp_W E X 2 32 [(1, .int i_122), (0, .ref a0)] [] [(mp_ob10 a0 y0 a5 a6 a7 a8 a9 y1 y2 y3 y4 y5 y6 y7 y8 y9 y10 a1 a2 a3 a4 a10 a11 a12 a13 y11 a14 a15 a16 a17 y12 y13 y14 a18 a19 y15 y16 a20 a21 a22 y17 y18 y19 y20 a23 a24 a25 y21), (mp_arI E a1 0 5 g_1), (mp_arI E a2 0 25 g_101), (mp_arI E a3 0 180 g_123), (mp_arI E a4 3 3000 f3)] 0 0 := by
    intro d_131
    induction d_131 using Nat.strongRecOn with
    | ind d_131 ih_132 =>
      intro i_122 g_123 l_124 u_125 p_126 p_127 x_128 x_129 hm_133
      refine mp_run mp_k_cX10_clears_ok hF mp_tabX10_ok [mp_i (.iload_n 1), mp_c (.bipush 36) 36, mp_h (.if_icmp .ge 20) [55]] (by decide +kernel) ?_
      refine And.intro (fun c_134 => ?_) (fun c_134 => ?_)
      · have c_134 : 36 ≤ i_122.toInt := c_134
        let w8_ : va_W := [(mp_ob10 a0 y0 a5 a6 a7 a8 a9 y1 y2 y3 y4 y5 y6 y7 y8 y9 y10 a1 a2 a3 a4 a10 a11 a12 a13 y11 a14 a15 a16 a17 y12 y13 y14 a18 a19 y15 y16 a20 a21 a22 y17 y18 y19 y20 a23 a24 a25 y21), (mp_arI E a1 0 5 g_1), (mp_arI E a2 0 25 g_101), (mp_arI E a3 0 180 g_123), (mp_arI E a4 3 3000 f3)]
        show mp_W E X 2 55 [(1, .int i_122), (0, .ref a0)] [] w8_ 0 0
        refine mp_run mp_k_cX10_clears_ok hF mp_tabX10_ok [mp_c (.iconst 0) 0, mp_i (.istore_n 1)] (by decide +kernel) ?_
        show mp_W E X 2 57 [(1, .int 0), (0, .ref a0)] [] w8_ 0 0
        have lp_143 : ∀ (d_144 : Nat) (i_135 : Int32) (g_136 : Nat → Int32), 0 ≤ i_135.toInt → i_135.toInt ≤ 600 → mp_all g_136 3000 0 1 → mp_keep g_136 f3 2400 → (∀ j : Nat, (j : Int) < i_135.toInt → g_136 (2400 + j) = 0) → (0 ≤ i_135.toInt) → -(i_135.toInt) + 600 ≤ (d_144 : Int) → mp_W E X 2 57 [(1, .int i_135), (0, .ref a0)] [] [(mp_ob10 a0 y0 a5 a6 a7 a8 a9 y1 y2 y3 y4 y5 y6 y7 y8 y9 y10 a1 a2 a3 a4 a10 a11 a12 a13 y11 a14 a15 a16 a17 y12 y13 y14 a18 a19 y15 y16 a20 a21 a22 y17 y18 y19 y20 a23 a24 a25 y21), (mp_arI E a1 0 5 g_1), (mp_arI E a2 0 25 g_101), (mp_arI E a3 0 180 g_123), (mp_arI E a4 3 3000 g_136)] 0 0 := by
          intro d_144
          induction d_144 using Nat.strongRecOn with
          | ind d_144 ih_145 =>
            intro i_135 g_136 l_137 u_138 p_139 p_140 x_141 x_142 hm_146
            refine mp_run mp_k_cX10_clears_ok hF mp_tabX10_ok [mp_i (.iload_n 1), mp_c (.sipush 600) 600, mp_h (.if_icmp .ge 20) [81]] (by decide +kernel) ?_
            refine And.intro (fun c_147 => ?_) (fun c_147 => ?_)
            · have c_147 : 600 ≤ i_135.toInt := c_147
              let w9_ : va_W := [(mp_ob10 a0 y0 a5 a6 a7 a8 a9 y1 y2 y3 y4 y5 y6 y7 y8 y9 y10 a1 a2 a3 a4 a10 a11 a12 a13 y11 a14 a15 a16 a17 y12 y13 y14 a18 a19 y15 y16 a20 a21 a22 y17 y18 y19 y20 a23 a24 a25 y21), (mp_arI E a1 0 5 g_1), (mp_arI E a2 0 25 g_101), (mp_arI E a3 0 180 g_123), (mp_arI E a4 3 3000 g_136)]
              show mp_W E X 2 81 [(1, .int i_135), (0, .ref a0)] [] w9_ 0 0
              exact mp_vret hF hQ rfl (Nat.le_of_ble_eq_true rfl) (Nat.le_of_ble_eq_true rfl) [0, 1, 2, 3, 4] (w' := w9_) rfl rfl ⟨g_1, g_101, g_123, g_136, rfl, p_3, p_103, p_104, p_105, p_106, p_107, p_108, p_126, p_127, p_139, p_140, (by first | (first | exact mp_o967 e_22 e_45 e_68 e_91 e_114 | omega) | decide), (by first | (first | exact mp_o968 e_46 e_69 e_92 e_115 | omega) | decide), (by first | (first | exact mp_o969 e_70 e_93 e_116 | omega) | decide), (by first | (first | exact mp_o970 e_94 e_117 | omega) | decide), (by first | (first | exact e_118 | omega) | decide), (by first | (first | exact e_5 | omega) | decide), (fun j hj => x_128 j (by (first | exact mp_o47 hj c_134 | omega))), (fun j hj => x_141 j (by (first | exact mp_o971 hj c_147 | omega))), rfl⟩ (by first | exact mp_fd_ok mp_k_cX10_clears_ok (by decide +kernel) | decide +kernel)
            · have c_147 : i_135.toInt < 600 := c_147
              let w10_ : va_W := [(mp_ob10 a0 y0 a5 a6 a7 a8 a9 y1 y2 y3 y4 y5 y6 y7 y8 y9 y10 a1 a2 a3 a4 a10 a11 a12 a13 y11 a14 a15 a16 a17 y12 y13 y14 a18 a19 y15 y16 a20 a21 a22 y17 y18 y19 y20 a23 a24 a25 y21), (mp_arI E a1 0 5 g_1), (mp_arI E a2 0 25 g_101), (mp_arI E a3 0 180 g_123), (mp_arI E a4 3 3000 g_136)]
              show mp_W E X 2 64 [(1, .int i_135), (0, .ref a0)] [] w10_ 0 0
              refine mp_run mp_k_cX10_clears_ok hF mp_tabX10_ok [mp_i (.aload_n 0), mp_h (.getfield 40) [19, 0], mp_c (.sipush 2400) 2400, mp_i (.iload_n 1), mp_i .iadd, mp_c (.iconst 0) 0, mp_h .bastore [4, 0]] (by decide +kernel) ?_
              refine And.intro rfl (And.intro rfl ?_)
              intro z_148 h_149
              have e_150 : z_148.toInt = 2400 + i_135.toInt := mp_add (a := 2400) (b := i_135.toInt) h_149 (by decide) rfl (by (first | exact mp_o972 l_137 | omega)) (by (first | exact mp_o973 c_147 | omega))
              refine And.intro rfl (And.intro rfl (And.intro (vp_in_iff.mpr (by (first | exact mp_o974 l_137 e_150 c_147 | omega))) ?_))
              intro g_151 h_152
              have h_153 : g_151 = upd g_136 z_148.toNatClampNeg 0 := h_152.trans (congrArg (upd _ _) (by decide))
              have p_154 : mp_all g_151 3000 0 1 := mp_all_st h_153 p_139 (by decide) (by decide)
              have p_155 : mp_keep g_151 f3 2400 := mp_keep_st h_153 p_140 (by (first | exact mp_o975 l_137 e_150 | omega))
              let w11_ : va_W := [(mp_ob10 a0 y0 a5 a6 a7 a8 a9 y1 y2 y3 y4 y5 y6 y7 y8 y9 y10 a1 a2 a3 a4 a10 a11 a12 a13 y11 a14 a15 a16 a17 y12 y13 y14 a18 a19 y15 y16 a20 a21 a22 y17 y18 y19 y20 a23 a24 a25 y21), (mp_arI E a1 0 5 g_1), (mp_arI E a2 0 25 g_101), (mp_arI E a3 0 180 g_123), (mp_arI E a4 3 3000 g_151)]
              show mp_W E X 2 75 [(1, .int i_135), (0, .ref a0)] [] w11_ 0 0
              refine mp_run mp_k_cX10_clears_ok hF mp_tabX10_ok [mp_c (.iinc 1 1) 1, mp_h (.goto (-21)) [57]] (by decide +kernel) ?_
              intro z_156 h_157
              have e_158 : z_156.toInt = i_135.toInt + 1 := mp_add (a := i_135.toInt) (b := 1) h_157 rfl (by decide) (by (first | exact mp_o2 l_137 | omega)) (by (first | exact mp_o976 c_147 | omega))
              show mp_W E X 2 57 [(1, .int z_156), (0, .ref a0)] [] w11_ 0 0
              exact mp_sub [0, 1] rfl [0, 1, 2, 3, 4] rfl rfl (ih_145 (d_144 - 1) (by (first | exact mp_o977 hm_146 c_147 | omega)) z_156 g_151 (by (first | exact mp_o51 l_137 e_158 | omega)) (by (first | exact mp_o978 c_147 e_158 | omega)) p_154 p_155 (mp_fillo x_141 (h_153.trans (congrArg (upd _ _) (by decide))) (by (first | exact e_150 | omega)) (by (first | exact mp_o53 l_137 e_158 | omega))) (by (first | exact mp_o51 l_137 e_158 | omega)) (by (first | exact mp_o979 hm_146 e_158 | omega)))
        exact mp_sub [0, 1] rfl [0, 1, 2, 3, 4] rfl rfl (lp_143 _ 0 f3 (by decide) (by decide) p6 mp_keep_rfl (fun j hj => absurd hj (by have h8 : (0 : Int32).toInt = 0 := rfl; omega)) (by decide) (Int.self_le_toNat _))
      · have c_134 : i_122.toInt < 36 := c_134
        let w12_ : va_W := [(mp_ob10 a0 y0 a5 a6 a7 a8 a9 y1 y2 y3 y4 y5 y6 y7 y8 y9 y10 a1 a2 a3 a4 a10 a11 a12 a13 y11 a14 a15 a16 a17 y12 y13 y14 a18 a19 y15 y16 a20 a21 a22 y17 y18 y19 y20 a23 a24 a25 y21), (mp_arI E a1 0 5 g_1), (mp_arI E a2 0 25 g_101), (mp_arI E a3 0 180 g_123), (mp_arI E a4 3 3000 f3)]
        show mp_W E X 2 38 [(1, .int i_122), (0, .ref a0)] [] w12_ 0 0
        refine mp_run mp_k_cX10_clears_ok hF mp_tabX10_ok [mp_i (.aload_n 0), mp_h (.getfield 37) [18, 0], mp_c (.sipush 144) 144, mp_i (.iload_n 1), mp_i .iadd, mp_c (.iconst 0) 0, mp_h .iastore [3]] (by decide +kernel) ?_
        refine And.intro rfl (And.intro rfl ?_)
        intro z_159 h_160
        have e_161 : z_159.toInt = 144 + i_122.toInt := mp_add (a := 144) (b := i_122.toInt) h_160 (by decide) rfl (by (first | exact mp_o980 l_124 | omega)) (by (first | exact mp_o981 c_134 | omega))
        refine And.intro rfl (And.intro rfl (And.intro (vp_in_iff.mpr (by (first | exact mp_o982 l_124 e_161 c_134 | omega))) ?_))
        intro g_162 h_163
        have p_164 : mp_all g_162 180 0 20 := mp_all_st h_163 p_126 (by decide) (by decide)
        have p_165 : mp_keep g_162 f2 144 := mp_keep_st h_163 p_127 (by (first | exact mp_o983 l_124 e_161 | omega))
        let w13_ : va_W := [(mp_ob10 a0 y0 a5 a6 a7 a8 a9 y1 y2 y3 y4 y5 y6 y7 y8 y9 y10 a1 a2 a3 a4 a10 a11 a12 a13 y11 a14 a15 a16 a17 y12 y13 y14 a18 a19 y15 y16 a20 a21 a22 y17 y18 y19 y20 a23 a24 a25 y21), (mp_arI E a1 0 5 g_1), (mp_arI E a2 0 25 g_101), (mp_arI E a3 0 180 g_162), (mp_arI E a4 3 3000 f3)]
        show mp_W E X 2 49 [(1, .int i_122), (0, .ref a0)] [] w13_ 0 0
        refine mp_run mp_k_cX10_clears_ok hF mp_tabX10_ok [mp_c (.iinc 1 1) 1, mp_h (.goto (-20)) [32]] (by decide +kernel) ?_
        intro z_166 h_167
        have e_168 : z_166.toInt = i_122.toInt + 1 := mp_add (a := i_122.toInt) (b := 1) h_167 rfl (by decide) (by (first | exact mp_o2 l_124 | omega)) (by (first | exact mp_o49 c_134 | omega))
        show mp_W E X 2 32 [(1, .int z_166), (0, .ref a0)] [] w13_ 0 0
        exact mp_sub [0, 1] rfl [0, 1, 2, 3, 4] rfl rfl (ih_132 (d_131 - 1) (by (first | exact mp_o50 hm_133 c_134 | omega)) z_166 g_162 (by (first | exact mp_o51 l_124 e_168 | omega)) (by (first | exact mp_o52 c_134 e_168 | omega)) p_164 p_165 (mp_fillo x_128 h_163 (by (first | exact e_161 | omega)) (by (first | exact mp_o53 l_124 e_168 | omega))) (by (first | exact mp_o51 l_124 e_168 | omega)) (by (first | exact mp_o54 hm_133 e_168 | omega)))
  exact mp_sub [0, 1] rfl [0, 1, 2, 3, 4] rfl rfl (lp_130 _ 0 f2 (by decide) (by decide) p5 mp_keep_rfl (fun j hj => absurd hj (by have h8 : (0 : Int32).toInt = 0 := rfl; omega)) (by decide) (Int.self_le_toNat _))
set_option maxHeartbeats 4000000 in
set_option maxRecDepth 100000 in
theorem bX10_isByte_11 (E : mp_E) (a0 a1 a2 a3 a4 a5 a6 a7 a8 a9 a10 a11 a12 a13 a14 a15 a16 a17 a18 a19 a20 a21 a22 a23 a24 a25 : Nat) (f0 : Nat → Int32) (y0 : Int32) (y1 : Int32) (y2 : Int32) (y3 : Int32) (y4 : Int32) (y5 : Int32) (y6 : Int64) (y7 : Int32) (y8 : Int32) (y9 : Int32) (y10 : Int32) (y11 : Int32) (y12 : Int32) (y13 : Int32) (y14 : Int32) (y15 : Int32) (y16 : Int32) (y17 : Int32) (y18 : Int32) (y19 : Int32) (y20 : Int32) (y21 : Int32) (x0 : Int32) (x1 : Int32) (x2 : Int32) (l_x0 : 0 ≤ x0.toInt) (u_x0 : x0.toInt ≤ 1600) (l_y1 : 0 ≤ y1.toInt) (u_y1 : y1.toInt ≤ 1600) (l_y2 : 0 ≤ y2.toInt) (u_y2 : y2.toInt ≤ 1600) (l_y3 : 0 ≤ y3.toInt) (u_y3 : y3.toInt ≤ 4) (l_y4 : 0 ≤ y4.toInt) (u_y4 : y4.toInt ≤ 1600) (l_y11 : 0 ≤ y11.toInt) (u_y11 : y11.toInt ≤ 99) (l_y12 : 0 ≤ y12.toInt) (u_y12 : y12.toInt ≤ 5) (l_y13 : 0 ≤ y13.toInt) (u_y13 : y13.toInt ≤ 12) : mp_Ct E yX10_isByte cX10_isByte 4 (some FieldType.boolean) 0 0 0 0 [.ref a0, .int x0, .int x1, .int x2] [(mp_ob10 a0 y0 a2 a3 a4 a5 a1 y1 y2 y3 y4 y5 y6 y7 y8 y9 y10 a6 a7 a8 a9 a10 a11 a12 a13 y11 a14 a15 a16 a17 y12 y13 y14 a18 a19 y15 y16 a20 a21 a22 y17 y18 y19 y20 a23 a24 a25 y21), (mp_arI E a1 1 1600 f0)] (fun v w' => (v = some (.int 0) ∧ (y1.toInt ≤ x0.toInt ∨ (f0 x0.toInt.toNat).toInt < x1.toInt ∨ x2.toInt < (f0 x0.toInt.toNat).toInt) ∧ w' = [(mp_ob10 a0 y0 a2 a3 a4 a5 a1 y1 y2 y3 y4 y5 y6 y7 y8 y9 y10 a6 a7 a8 a9 a10 a11 a12 a13 y11 a14 a15 a16 a17 y12 y13 y14 a18 a19 y15 y16 a20 a21 a22 y17 y18 y19 y20 a23 a24 a25 y21), (mp_arI E a1 1 1600 f0)]) ∨ (v = some (.int 1) ∧ x0.toInt < y1.toInt ∧ (x1.toInt ≤ (f0 x0.toInt.toNat).toInt ∧ (f0 x0.toInt.toNat).toInt ≤ x2.toInt) ∧ w' = [(mp_ob10 a0 y0 a2 a3 a4 a5 a1 y1 y2 y3 y4 y5 y6 y7 y8 y9 y10 a6 a7 a8 a9 a10 a11 a12 a13 y11 a14 a15 a16 a17 y12 y13 y14 a18 a19 y15 y16 a20 a21 a22 y17 y18 y19 y20 a23 a24 a25 y21), (mp_arI E a1 1 1600 f0)])) := by
  refine mp_met false (by decide) (by decide) (Nat.le_of_ble_eq_true rfl) (fun X hF hQ => ?_)
  have hF : mp_F E X (RX10, cX10_isByte, 4, (0, 0, 0, 0), (some FieldType.boolean), false) := hF
  let w1_ : va_W := [(mp_ob10 a0 y0 a2 a3 a4 a5 a1 y1 y2 y3 y4 y5 y6 y7 y8 y9 y10 a6 a7 a8 a9 a10 a11 a12 a13 y11 a14 a15 a16 a17 y12 y13 y14 a18 a19 y15 y16 a20 a21 a22 y17 y18 y19 y20 a23 a24 a25 y21), (mp_arI E a1 1 1600 f0)]
  show mp_W E X 4 0 [(0, .ref a0), (1, .int x0), (2, .int x1), (3, .int x2)] [] w1_ 0 0
  refine mp_run mp_k_cX10_isByte_ok hF mp_tabX10_ok [mp_i (.iload_n 1), mp_i (.aload_n 0), mp_h (.getfield 109) [6, 0], mp_h (.if_icmp .ge 27) [32]] (by decide +kernel) ?_
  refine And.intro rfl (And.intro rfl ?_)
  refine And.intro (fun c_1 => ?_) (fun c_1 => ?_)
  · have c_1 : y1.toInt ≤ x0.toInt := c_1
    show mp_W E X 4 32 [(0, .ref a0), (1, .int x0), (2, .int x1), (3, .int x2)] [] w1_ 0 0
    refine mp_run mp_k_cX10_isByte_ok hF mp_tabX10_ok [mp_c (.iconst 0) 0] (by decide +kernel) ?_
    show mp_W E X 4 33 [(0, .ref a0), (1, .int x0), (2, .int x1), (3, .int x2)] [.int 0] w1_ 0 0
    exact mp_iret hF hQ rfl (by decide) (Nat.le_of_ble_eq_true rfl) (Nat.le_of_ble_eq_true rfl) [0, 1] (w' := w1_) rfl rfl (Or.inl ⟨rfl, (by  first | (first | exact mp_o984 c_1 | omega) | decide), rfl⟩) (by first | exact mp_fd_ok mp_k_cX10_isByte_ok (by decide +kernel) | decide +kernel)
  · have c_1 : x0.toInt < y1.toInt := c_1
    show mp_W E X 4 8 [(0, .ref a0), (1, .int x0), (2, .int x1), (3, .int x2)] [] w1_ 0 0
    refine mp_run mp_k_cX10_isByte_ok hF mp_tabX10_ok [mp_i (.aload_n 0), mp_h (.getfield 23) [5, 0], mp_i (.iload_n 1), mp_h .baload [1], mp_i (.iload_n 2), mp_h (.if_icmp .lt 17) [32]] (by decide +kernel) ?_
    refine And.intro rfl (And.intro rfl ?_)
    refine And.intro rfl (And.intro rfl (And.intro (vp_in_iff.mpr (by (first | exact mp_o70 l_x0 u_y1 c_1 | omega))) ?_))
    intro z_2 h_3
    refine And.intro (fun c_4 => ?_) (fun c_4 => ?_)
    · have c_4 : z_2.toInt < x1.toInt := c_4
      show mp_W E X 4 32 [(0, .ref a0), (1, .int x0), (2, .int x1), (3, .int x2)] [] w1_ 0 0
      refine mp_run mp_k_cX10_isByte_ok hF mp_tabX10_ok [mp_c (.iconst 0) 0] (by decide +kernel) ?_
      show mp_W E X 4 33 [(0, .ref a0), (1, .int x0), (2, .int x1), (3, .int x2)] [.int 0] w1_ 0 0
      exact mp_iret hF hQ rfl (by decide) (Nat.le_of_ble_eq_true rfl) (Nat.le_of_ble_eq_true rfl) [0, 1] (w' := w1_) rfl rfl (Or.inl ⟨rfl, (by have : z_2.toInt = (f0 x0.toInt.toNat).toInt := congrArg Int32.toInt h_3;  first | (first | exact mp_o985 c_4 this | omega) | decide), rfl⟩) (by first | exact mp_fd_ok mp_k_cX10_isByte_ok (by decide +kernel) | decide +kernel)
    · have c_4 : x1.toInt ≤ z_2.toInt := c_4
      show mp_W E X 4 18 [(0, .ref a0), (1, .int x0), (2, .int x1), (3, .int x2)] [] w1_ 0 0
      refine mp_run mp_k_cX10_isByte_ok hF mp_tabX10_ok [mp_i (.aload_n 0), mp_h (.getfield 23) [5, 0], mp_i (.iload_n 1), mp_h .baload [1], mp_i (.iload_n 3), mp_h (.if_icmp .gt 7) [32]] (by decide +kernel) ?_
      refine And.intro rfl (And.intro rfl ?_)
      refine And.intro rfl (And.intro rfl (And.intro (vp_in_iff.mpr (by (first | exact mp_o70 l_x0 u_y1 c_1 | omega))) ?_))
      intro z_5 h_6
      have k_7 : z_2 = z_5 := h_3.trans h_6.symm
      subst k_7
      refine And.intro (fun c_8 => ?_) (fun c_8 => ?_)
      · have c_8 : x2.toInt < z_2.toInt := c_8
        show mp_W E X 4 32 [(0, .ref a0), (1, .int x0), (2, .int x1), (3, .int x2)] [] w1_ 0 0
        refine mp_run mp_k_cX10_isByte_ok hF mp_tabX10_ok [mp_c (.iconst 0) 0] (by decide +kernel) ?_
        show mp_W E X 4 33 [(0, .ref a0), (1, .int x0), (2, .int x1), (3, .int x2)] [.int 0] w1_ 0 0
        exact mp_iret hF hQ rfl (by decide) (Nat.le_of_ble_eq_true rfl) (Nat.le_of_ble_eq_true rfl) [0, 1] (w' := w1_) rfl rfl (Or.inl ⟨rfl, (by have : z_2.toInt = (f0 x0.toInt.toNat).toInt := congrArg Int32.toInt h_3;  first | (first | exact mp_o986 this c_8 | omega) | decide), rfl⟩) (by first | exact mp_fd_ok mp_k_cX10_isByte_ok (by decide +kernel) | decide +kernel)
      · have c_8 : z_2.toInt ≤ x2.toInt := c_8
        show mp_W E X 4 28 [(0, .ref a0), (1, .int x0), (2, .int x1), (3, .int x2)] [] w1_ 0 0
        refine mp_run mp_k_cX10_isByte_ok hF mp_tabX10_ok [mp_c (.iconst 1) 1, mp_h (.goto 4) [33]] (by decide +kernel) ?_
        show mp_W E X 4 33 [(0, .ref a0), (1, .int x0), (2, .int x1), (3, .int x2)] [.int 1] w1_ 0 0
        exact mp_iret hF hQ rfl (by decide) (Nat.le_of_ble_eq_true rfl) (Nat.le_of_ble_eq_true rfl) [0, 1] (w' := w1_) rfl rfl (Or.inr ⟨rfl, (by first | (first | exact c_1 | omega) | decide), (by have : z_2.toInt = (f0 x0.toInt.toNat).toInt := congrArg Int32.toInt h_3;  first | (first | exact mp_o987 this c_4 c_8 | omega) | decide), rfl⟩) (by first | exact mp_fd_ok mp_k_cX10_isByte_ok (by decide +kernel) | decide +kernel)
