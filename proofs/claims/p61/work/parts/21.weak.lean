set_option maxHeartbeats 4000000 in
set_option maxRecDepth 100000 in
theorem bX9_drawn_168 (E : mp_E) (a0 a1 a2 a3 a4 a5 a6 a7 a8 a9 a10 a11 a12 a13 a14 a15 a16 a17 a18 a19 a20 a21 a22 a23 a24 a25 a26 a27 a28 a29 : Nat) (f0 : Nat → Int32) (f1 : Nat → Int32) (f2 : Nat → Int32) (f3 : Nat → Int32) (f4 : Nat → Int32) (f5 : Nat → Int32) (f6 : Nat → Int32) (f7 : Nat → Int32) (f8 : Nat → Int64) (f9 : Nat → Int32) (f10 : Nat → Int32) (y0 : Int32) (y1 : Int32) (y2 : Int32) (y3 : Int32) (y4 : Int32) (y5 : Int32) (y6 : Int32) (y7 : Int32) (y8 : Int32) (x0 : Int32) (x1 : Int32) (x2 : Int32) (p0 : mp_all f2 10 0 5) (p1 : mp_all f3 10 0 5) (p2 : mp_all f5 10 0 99) (p3 : mp_all f6 10 0 1) (p4 : mp_all f7 10 (-1) 9) (l_y0 : 0 ≤ y0.toInt) (u_y0 : y0.toInt ≤ 99) (l_y2 : 0 ≤ y2.toInt) (u_y2 : y2.toInt ≤ 6) (l_y3 : 0 ≤ y3.toInt) (u_y3 : y3.toInt ≤ 99) (l_y4 : 0 ≤ y4.toInt) (u_y4 : y4.toInt ≤ 6) (l_y5 : 0 ≤ y5.toInt) (u_y5 : y5.toInt ≤ 10) (l_y6 : 0 ≤ y6.toInt) (u_y6 : y6.toInt ≤ 60) : mp_Ct E yX9_drawn cX9_drawn 4 (some FieldType.int) 4 0 0 104 [.ref a0, .int x0, .int x1, .int x2] [(mp_ob9 a0 a15 a1 a16 a17 a18 a19 a20 a13 a21), (mp_ob0 a1 a2 y0 a22 a23 a24 a11 a12 a25), (mp_ob7 a2 y1 y2 y3 y4 y5 y6 a26 a27 a28 a3 a4 a5 a6 a7 a8 a9 a10 a29), (mp_arI E a3 0 6 f0), (mp_arI E a4 0 6 f1), (mp_arI E a5 0 10 f2), (mp_arI E a6 0 10 f3), (mp_arI E a7 0 10 f4), (mp_arI E a8 0 10 f5), (mp_arI E a9 0 10 f6), (mp_arI E a10 0 10 f7), (mp_arL E a11 20 f8), (mp_arI E a12 0 10 f9), (mp_ob8 a13 a14 y7 y8), (mp_arI E a14 0 10 f10)] (fun v w' => ∃ h1 : Nat → Int32, ∃ r2 : Int32, ∃ r3 : Int32, ∃ h4 : Nat → Int32, ∃ r5 : Int32, v = some (.int r5) ∧ w' = [(mp_ob9 a0 a15 a1 a16 a17 a18 a19 a20 a13 a21), (mp_ob0 a1 a2 y0 a22 a23 a24 a11 a12 a25), (mp_ob7 a2 y1 y2 y3 y4 y5 y6 a26 a27 a28 a3 a4 a5 a6 a7 a8 a9 a10 a29), (mp_arI E a3 0 6 f0), (mp_arI E a4 0 6 f1), (mp_arI E a5 0 10 f2), (mp_arI E a6 0 10 f3), (mp_arI E a7 0 10 f4), (mp_arI E a8 0 10 f5), (mp_arI E a9 0 10 f6), (mp_arI E a10 0 10 f7), (mp_arL E a11 20 f8), (mp_arI E a12 0 10 h1), (mp_ob8 a13 a14 r2 r3), (mp_arI E a14 0 10 h4)]) := by
  refine mp_met false (by decide) (by decide) (Nat.le_of_ble_eq_true rfl) (fun X hF hQ => ?_)
  have hF : mp_F E X (RX9, cX9_drawn, 4, (4, 0, 0, 104), (some FieldType.int), false) := hF
  let w1_ : va_W := [(mp_ob9 a0 a15 a1 a16 a17 a18 a19 a20 a13 a21), (mp_ob0 a1 a2 y0 a22 a23 a24 a11 a12 a25), (mp_ob7 a2 y1 y2 y3 y4 y5 y6 a26 a27 a28 a3 a4 a5 a6 a7 a8 a9 a10 a29), (mp_arI E a3 0 6 f0), (mp_arI E a4 0 6 f1), (mp_arI E a5 0 10 f2), (mp_arI E a6 0 10 f3), (mp_arI E a7 0 10 f4), (mp_arI E a8 0 10 f5), (mp_arI E a9 0 10 f6), (mp_arI E a10 0 10 f7), (mp_arL E a11 20 f8), (mp_arI E a12 0 10 f9), (mp_ob8 a13 a14 y7 y8), (mp_arI E a14 0 10 f10)]
  show mp_W E X 4 0 [(0, .ref a0), (1, .int x0), (2, .int x1), (3, .int x2)] [] w1_ 0 0
  refine mp_run mp_k_cX9_drawn_ok hF mp_tabX9_ok [mp_i (.aload_n 0), mp_i (.iload_n 1), mp_i (.iload_n 2), mp_i (.iload_n 3)] (by decide +kernel) ?_
  show mp_W E X 4 4 [(0, .ref a0), (1, .int x0), (2, .int x1), (3, .int x2)] [.int x2, .int x1, .int x0, .ref a0] w1_ 0 0
  refine mp_callV hF (As := [.int x0, .int x1, .int x2]) (rest := []) (wr := [(mp_arI E a3 0 6 f0), (mp_arI E a4 0 6 f1), (mp_arI E a5 0 10 f2), (mp_arI E a6 0 10 f3), (mp_arI E a7 0 10 f4), (mp_arI E a8 0 10 f5), (mp_arI E a9 0 10 f6), (mp_arI E a10 0 10 f7), (mp_arL E a11 20 f8), (mp_arI E a12 0 10 f9), (mp_ob8 a13 a14 y7 y8), (mp_arI E a14 0 10 f10)]) (bX9_canDraw_166 E a0 a1 a2 a15 a16 a17 a18 a19 a20 a13 a21 a22 a23 a24 a11 a12 a25 a26 a27 a28 a3 a4 a5 a6 a7 a8 a9 a10 a29 y0 y1 y2 y3 y4 y5 y6 x0 x1 x2 l_y0 u_y0 l_y2 u_y2 l_y3 u_y3 l_y4 u_y4 l_y5 u_y5 l_y6 u_y6) mp_lkX9_316 0 rfl [0, 1, 2] [3, 4, 5, 6, 7, 8, 9, 10, 11, 12, 13, 14] rfl rfl rfl rfl rfl ⟨(Nat.le_of_ble_eq_true rfl), (Nat.le_of_ble_eq_true rfl), (Nat.le_of_ble_eq_true rfl), (Nat.le_of_ble_eq_true rfl)⟩ (Nat.le_of_ble_eq_true rfl) (by first | exact mp_fd_ok mp_k_cX9_drawn_ok (by decide +kernel) | decide +kernel) (fun v_1 w_2 h_3 => ?_)
  refine h_3.elim (fun q_11 => ?_) (fun q_12 => ?_)
  · skip
    refine q_11.elim fun e_13 e_14 => ?_
    clear h_3 q_11
    subst e_13
    subst e_14
    let w2_ : va_W := [(mp_arI E a3 0 6 f0), (mp_arI E a4 0 6 f1), (mp_arI E a5 0 10 f2), (mp_arI E a6 0 10 f3), (mp_arI E a7 0 10 f4), (mp_arI E a8 0 10 f5), (mp_arI E a9 0 10 f6), (mp_arI E a10 0 10 f7), (mp_arL E a11 20 f8), (mp_arI E a12 0 10 f9), (mp_ob8 a13 a14 y7 y8), (mp_arI E a14 0 10 f10), (mp_ob9 a0 a15 a1 a16 a17 a18 a19 a20 a13 a21), (mp_ob0 a1 a2 y0 a22 a23 a24 a11 a12 a25), (mp_ob7 a2 y1 y2 y3 y4 y5 y6 a26 a27 a28 a3 a4 a5 a6 a7 a8 a9 a10 a29)]
    show mp_W E X 4 7 [(0, .ref a0), (1, .int x0), (2, .int x1), (3, .int x2)] [.int 0] w2_ 0 0
    refine mp_run mp_k_cX9_drawn_ok hF mp_tabX9_ok [mp_h (.ifCond .ne 6) [13]] (by decide +kernel) ?_
    refine And.intro (fun c_15 => absurd c_15 (by decide)) (fun _ => ?_)
    show mp_W E X 4 10 [(0, .ref a0), (1, .int x0), (2, .int x1), (3, .int x2)] [] w2_ 0 0
    refine mp_run mp_k_cX9_drawn_ok hF mp_tabX9_ok [mp_c (.bipush (-2)) (-2)] (by decide +kernel) ?_
    show mp_W E X 4 12 [(0, .ref a0), (1, .int x0), (2, .int x1), (3, .int x2)] [.int (-2)] w2_ 0 0
    exact mp_iret hF hQ rfl rfl (Nat.le_of_ble_eq_true rfl) (Nat.le_of_ble_eq_true rfl) [12, 13, 14, 0, 1, 2, 3, 4, 5, 6, 7, 8, 9, 10, 11] (w' := w1_) rfl rfl ⟨f9, y7, y8, f10, (-2), rfl, rfl⟩ (by first | exact mp_fd_ok mp_k_cX9_drawn_ok (by decide +kernel) | decide +kernel)
  · skip
    refine q_12.elim fun e_16 q_17 => q_17.elim fun c_4 q_18 => q_18.elim fun c_5 q_19 => q_19.elim fun c_6 q_20 => q_20.elim fun c_7 q_21 => q_21.elim fun c_8 q_22 => q_22.elim fun c_9 q_23 => q_23.elim fun c_10 e_24 => ?_
    clear h_3 q_12 q_17 q_18 q_19 q_20 q_21 q_22 q_23
    subst e_16
    subst e_24
    have c_4 : 0 ≤ x2.toInt := c_4
    have c_5 : x2.toInt < y5.toInt := c_5
    have c_6 : 0 ≤ x0.toInt := c_6
    have c_7 : x0.toInt ≤ 2000000000 := c_7
    have c_8 : 1 ≤ x1.toInt := c_8
    have c_9 : x1.toInt ≤ 40 := c_9
    have c_10 : y0.toInt + x1.toInt ≤ 99 := c_10
    let w3_ : va_W := [(mp_arI E a3 0 6 f0), (mp_arI E a4 0 6 f1), (mp_arI E a5 0 10 f2), (mp_arI E a6 0 10 f3), (mp_arI E a7 0 10 f4), (mp_arI E a8 0 10 f5), (mp_arI E a9 0 10 f6), (mp_arI E a10 0 10 f7), (mp_arL E a11 20 f8), (mp_arI E a12 0 10 f9), (mp_ob8 a13 a14 y7 y8), (mp_arI E a14 0 10 f10), (mp_ob9 a0 a15 a1 a16 a17 a18 a19 a20 a13 a21), (mp_ob0 a1 a2 y0 a22 a23 a24 a11 a12 a25), (mp_ob7 a2 y1 y2 y3 y4 y5 y6 a26 a27 a28 a3 a4 a5 a6 a7 a8 a9 a10 a29)]
    show mp_W E X 4 7 [(0, .ref a0), (1, .int x0), (2, .int x1), (3, .int x2)] [.int 1] w3_ 0 0
    refine mp_run mp_k_cX9_drawn_ok hF mp_tabX9_ok [mp_h (.ifCond .ne 6) [13]] (by decide +kernel) ?_
    refine And.intro (fun _ => ?_) (fun c_25 => absurd c_25 (by decide))
    show mp_W E X 4 13 [(0, .ref a0), (1, .int x0), (2, .int x1), (3, .int x2)] [] w3_ 0 0
    refine mp_run mp_k_cX9_drawn_ok hF mp_tabX9_ok [mp_i (.aload_n 0), mp_h (.getfield 60) [43, 12], mp_i (.aload_n 0), mp_h (.getfield 19) [37, 12], mp_i (.iload_n 1), mp_i (.iload_n 2), mp_i (.iload_n 3)] (by decide +kernel) ?_
    refine And.intro rfl (And.intro rfl ?_)
    refine And.intro rfl (And.intro rfl ?_)
    show mp_W E X 4 24 [(0, .ref a0), (1, .int x0), (2, .int x1), (3, .int x2)] [.int x2, .int x1, .int x0, .ref a1, .ref a13] w3_ 0 0
    refine mp_callV hF (As := [.ref a1, .int x0, .int x1, .int x2]) (rest := []) (wr := [(mp_ob9 a0 a15 a1 a16 a17 a18 a19 a20 a13 a21)]) (bX8_pass_167 E a13 a1 a14 a2 a3 a4 a5 a6 a7 a8 a9 a10 a11 a12 a22 a23 a24 a25 a26 a27 a28 a29 f10 f0 f1 f2 f3 f4 f5 f6 f7 f8 f9 y7 y8 y0 y1 y2 y3 y4 y5 y6 x0 x1 x2 p0 p1 p2 p3 p4 (by (first | exact c_8 | omega)) (by (first | exact c_9 | omega)) (by (first | exact c_4 | omega)) (by (first | exact mp_o419 u_y5 c_5 | omega)) l_y0 u_y0 l_y2 u_y2 l_y3 u_y3 l_y4 u_y4 l_y5 u_y5 l_y6 u_y6 (by first | (first | exact c_10 | omega) | (show y0.toInt + x1.toInt ≤ 99; omega))) mp_lkX9_319 10 rfl [10, 11, 13, 14, 0, 1, 2, 3, 4, 5, 6, 7, 8, 9] [12] rfl rfl rfl rfl rfl ⟨(Nat.le_of_ble_eq_true rfl), (Nat.le_of_ble_eq_true rfl), (Nat.le_of_ble_eq_true rfl), (Nat.le_of_ble_eq_true rfl)⟩ (Nat.le_of_ble_eq_true rfl) (by first | exact mp_fd_ok mp_k_cX9_drawn_ok (by decide +kernel) | decide +kernel) (fun v_26 w_27 h_28 => ?_)
    refine h_28.elim fun r_29 q_33 => q_33.elim fun r_30 q_34 => q_34.elim fun g_31 q_35 => q_35.elim fun g_32 q_36 => q_36.elim fun e_37 e_38 => ?_
    clear h_28 q_33 q_34 q_35 q_36
    subst e_37
    subst e_38
    let w4_ : va_W := [(mp_ob9 a0 a15 a1 a16 a17 a18 a19 a20 a13 a21), (mp_ob8 a13 a14 r_29 r_30), (mp_arI E a14 0 10 g_31), (mp_ob0 a1 a2 y0 a22 a23 a24 a11 a12 a25), (mp_ob7 a2 y1 y2 y3 y4 y5 y6 a26 a27 a28 a3 a4 a5 a6 a7 a8 a9 a10 a29), (mp_arI E a3 0 6 f0), (mp_arI E a4 0 6 f1), (mp_arI E a5 0 10 f2), (mp_arI E a6 0 10 f3), (mp_arI E a7 0 10 f4), (mp_arI E a8 0 10 f5), (mp_arI E a9 0 10 f6), (mp_arI E a10 0 10 f7), (mp_arL E a11 20 f8), (mp_arI E a12 0 10 g_32)]
    show mp_W E X 4 27 [(0, .ref a0), (1, .int x0), (2, .int x1), (3, .int x2)] [] w4_ 0 0
    refine mp_run mp_k_cX9_drawn_ok hF mp_tabX9_ok [mp_i (.aload_n 0), mp_h (.getfield 60) [43, 0], mp_h (.getfield 322) [32, 1]] (by decide +kernel) ?_
    refine And.intro rfl (And.intro rfl ?_)
    refine And.intro rfl (And.intro rfl ?_)
    show mp_W E X 4 34 [(0, .ref a0), (1, .int x0), (2, .int x1), (3, .int x2)] [.int r_29] w4_ 0 0
    exact mp_iret hF hQ rfl rfl (Nat.le_of_ble_eq_true rfl) (Nat.le_of_ble_eq_true rfl) [0, 3, 4, 5, 6, 7, 8, 9, 10, 11, 12, 13, 14, 1, 2] (w' := [(mp_ob9 a0 a15 a1 a16 a17 a18 a19 a20 a13 a21), (mp_ob0 a1 a2 y0 a22 a23 a24 a11 a12 a25), (mp_ob7 a2 y1 y2 y3 y4 y5 y6 a26 a27 a28 a3 a4 a5 a6 a7 a8 a9 a10 a29), (mp_arI E a3 0 6 f0), (mp_arI E a4 0 6 f1), (mp_arI E a5 0 10 f2), (mp_arI E a6 0 10 f3), (mp_arI E a7 0 10 f4), (mp_arI E a8 0 10 f5), (mp_arI E a9 0 10 f6), (mp_arI E a10 0 10 f7), (mp_arL E a11 20 f8), (mp_arI E a12 0 10 g_32), (mp_ob8 a13 a14 r_29 r_30), (mp_arI E a14 0 10 g_31)]) rfl rfl ⟨g_32, r_29, r_30, g_31, r_29, rfl, rfl⟩ (by first | exact mp_fd_ok mp_k_cX9_drawn_ok (by decide +kernel) | decide +kernel)
set_option maxHeartbeats 4000000 in
set_option maxRecDepth 100000 in
theorem bX9_often_169 (E : mp_E) (a0 a1 a2 a3 a4 a5 a6 a7 a8 a9 a10 a11 a12 a13 a14 a15 a16 a17 a18 a19 a20 a21 a22 a23 a24 a25 a26 a27 a28 a29 : Nat) (f0 : Nat → Int32) (f1 : Nat → Int32) (f2 : Nat → Int32) (f3 : Nat → Int32) (f4 : Nat → Int32) (f5 : Nat → Int32) (f6 : Nat → Int32) (f7 : Nat → Int32) (f8 : Nat → Int64) (f9 : Nat → Int32) (f10 : Nat → Int32) (y0 : Int32) (y1 : Int32) (y2 : Int32) (y3 : Int32) (y4 : Int32) (y5 : Int32) (y6 : Int32) (y7 : Int32) (y8 : Int32) (x0 : Int32) (x1 : Int32) (x2 : Int32) (p0 : mp_all f2 10 0 5) (p1 : mp_all f3 10 0 5) (p2 : mp_all f5 10 0 99) (p3 : mp_all f6 10 0 1) (p4 : mp_all f7 10 (-1) 9) (l_y0 : 0 ≤ y0.toInt) (u_y0 : y0.toInt ≤ 99) (l_y2 : 0 ≤ y2.toInt) (u_y2 : y2.toInt ≤ 6) (l_y3 : 0 ≤ y3.toInt) (u_y3 : y3.toInt ≤ 99) (l_y4 : 0 ≤ y4.toInt) (u_y4 : y4.toInt ≤ 6) (l_y5 : 0 ≤ y5.toInt) (u_y5 : y5.toInt ≤ 10) (l_y6 : 0 ≤ y6.toInt) (u_y6 : y6.toInt ≤ 60) : mp_Ct E yX9_often cX9_often 4 (some FieldType.int) 4 0 0 104 [.ref a0, .int x0, .int x1, .int x2] [(mp_ob9 a0 a15 a1 a16 a17 a18 a19 a20 a13 a21), (mp_ob0 a1 a2 y0 a22 a23 a24 a11 a12 a25), (mp_ob7 a2 y1 y2 y3 y4 y5 y6 a26 a27 a28 a3 a4 a5 a6 a7 a8 a9 a10 a29), (mp_arI E a3 0 6 f0), (mp_arI E a4 0 6 f1), (mp_arI E a5 0 10 f2), (mp_arI E a6 0 10 f3), (mp_arI E a7 0 10 f4), (mp_arI E a8 0 10 f5), (mp_arI E a9 0 10 f6), (mp_arI E a10 0 10 f7), (mp_arL E a11 20 f8), (mp_arI E a12 0 10 f9), (mp_ob8 a13 a14 y7 y8), (mp_arI E a14 0 10 f10)] (fun v w' => ∃ h1 : Nat → Int32, ∃ r2 : Int32, ∃ r3 : Int32, ∃ h4 : Nat → Int32, ∃ r5 : Int32, v = some (.int r5) ∧ w' = [(mp_ob9 a0 a15 a1 a16 a17 a18 a19 a20 a13 a21), (mp_ob0 a1 a2 y0 a22 a23 a24 a11 a12 a25), (mp_ob7 a2 y1 y2 y3 y4 y5 y6 a26 a27 a28 a3 a4 a5 a6 a7 a8 a9 a10 a29), (mp_arI E a3 0 6 f0), (mp_arI E a4 0 6 f1), (mp_arI E a5 0 10 f2), (mp_arI E a6 0 10 f3), (mp_arI E a7 0 10 f4), (mp_arI E a8 0 10 f5), (mp_arI E a9 0 10 f6), (mp_arI E a10 0 10 f7), (mp_arL E a11 20 f8), (mp_arI E a12 0 10 h1), (mp_ob8 a13 a14 r2 r3), (mp_arI E a14 0 10 h4)]) := by
  refine mp_met false (by decide) (by decide) (Nat.le_of_ble_eq_true rfl) (fun X hF hQ => ?_)
  have hF : mp_F E X (RX9, cX9_often, 4, (4, 0, 0, 104), (some FieldType.int), false) := hF
  let w1_ : va_W := [(mp_ob9 a0 a15 a1 a16 a17 a18 a19 a20 a13 a21), (mp_ob0 a1 a2 y0 a22 a23 a24 a11 a12 a25), (mp_ob7 a2 y1 y2 y3 y4 y5 y6 a26 a27 a28 a3 a4 a5 a6 a7 a8 a9 a10 a29), (mp_arI E a3 0 6 f0), (mp_arI E a4 0 6 f1), (mp_arI E a5 0 10 f2), (mp_arI E a6 0 10 f3), (mp_arI E a7 0 10 f4), (mp_arI E a8 0 10 f5), (mp_arI E a9 0 10 f6), (mp_arI E a10 0 10 f7), (mp_arL E a11 20 f8), (mp_arI E a12 0 10 f9), (mp_ob8 a13 a14 y7 y8), (mp_arI E a14 0 10 f10)]
  show mp_W E X 4 0 [(0, .ref a0), (1, .int x0), (2, .int x1), (3, .int x2)] [] w1_ 0 0
  refine mp_run mp_k_cX9_often_ok hF mp_tabX9_ok [mp_i (.aload_n 0), mp_i (.iload_n 1), mp_i (.iload_n 2), mp_i (.iload_n 3)] (by decide +kernel) ?_
  show mp_W E X 4 4 [(0, .ref a0), (1, .int x0), (2, .int x1), (3, .int x2)] [.int x2, .int x1, .int x0, .ref a0] w1_ 0 0
  refine mp_callV hF (As := [.int x0, .int x1, .int x2]) (rest := []) (wr := [(mp_arI E a3 0 6 f0), (mp_arI E a4 0 6 f1), (mp_arI E a5 0 10 f2), (mp_arI E a6 0 10 f3), (mp_arI E a7 0 10 f4), (mp_arI E a8 0 10 f5), (mp_arI E a9 0 10 f6), (mp_arI E a10 0 10 f7), (mp_arL E a11 20 f8), (mp_arI E a12 0 10 f9), (mp_ob8 a13 a14 y7 y8), (mp_arI E a14 0 10 f10)]) (bX9_canDraw_166 E a0 a1 a2 a15 a16 a17 a18 a19 a20 a13 a21 a22 a23 a24 a11 a12 a25 a26 a27 a28 a3 a4 a5 a6 a7 a8 a9 a10 a29 y0 y1 y2 y3 y4 y5 y6 x0 x1 x2 l_y0 u_y0 l_y2 u_y2 l_y3 u_y3 l_y4 u_y4 l_y5 u_y5 l_y6 u_y6) mp_lkX9_316 0 rfl [0, 1, 2] [3, 4, 5, 6, 7, 8, 9, 10, 11, 12, 13, 14] rfl rfl rfl rfl rfl ⟨(Nat.le_of_ble_eq_true rfl), (Nat.le_of_ble_eq_true rfl), (Nat.le_of_ble_eq_true rfl), (Nat.le_of_ble_eq_true rfl)⟩ (Nat.le_of_ble_eq_true rfl) (by first | exact mp_fd_ok mp_k_cX9_often_ok (by decide +kernel) | decide +kernel) (fun v_1 w_2 h_3 => ?_)
  refine h_3.elim (fun q_11 => ?_) (fun q_12 => ?_)
  · skip
    refine q_11.elim fun e_13 e_14 => ?_
    clear h_3 q_11
    subst e_13
    subst e_14
    let w2_ : va_W := [(mp_arI E a3 0 6 f0), (mp_arI E a4 0 6 f1), (mp_arI E a5 0 10 f2), (mp_arI E a6 0 10 f3), (mp_arI E a7 0 10 f4), (mp_arI E a8 0 10 f5), (mp_arI E a9 0 10 f6), (mp_arI E a10 0 10 f7), (mp_arL E a11 20 f8), (mp_arI E a12 0 10 f9), (mp_ob8 a13 a14 y7 y8), (mp_arI E a14 0 10 f10), (mp_ob9 a0 a15 a1 a16 a17 a18 a19 a20 a13 a21), (mp_ob0 a1 a2 y0 a22 a23 a24 a11 a12 a25), (mp_ob7 a2 y1 y2 y3 y4 y5 y6 a26 a27 a28 a3 a4 a5 a6 a7 a8 a9 a10 a29)]
    show mp_W E X 4 7 [(0, .ref a0), (1, .int x0), (2, .int x1), (3, .int x2)] [.int 0] w2_ 0 0
    refine mp_run mp_k_cX9_often_ok hF mp_tabX9_ok [mp_h (.ifCond .ne 6) [13]] (by decide +kernel) ?_
    refine And.intro (fun c_15 => absurd c_15 (by decide)) (fun _ => ?_)
    show mp_W E X 4 10 [(0, .ref a0), (1, .int x0), (2, .int x1), (3, .int x2)] [] w2_ 0 0
    refine mp_run mp_k_cX9_often_ok hF mp_tabX9_ok [mp_c (.bipush (-2)) (-2)] (by decide +kernel) ?_
    show mp_W E X 4 12 [(0, .ref a0), (1, .int x0), (2, .int x1), (3, .int x2)] [.int (-2)] w2_ 0 0
    exact mp_iret hF hQ rfl rfl (Nat.le_of_ble_eq_true rfl) (Nat.le_of_ble_eq_true rfl) [12, 13, 14, 0, 1, 2, 3, 4, 5, 6, 7, 8, 9, 10, 11] (w' := w1_) rfl rfl ⟨f9, y7, y8, f10, (-2), rfl, rfl⟩ (by first | exact mp_fd_ok mp_k_cX9_often_ok (by decide +kernel) | decide +kernel)
  · skip
    refine q_12.elim fun e_16 q_17 => q_17.elim fun c_4 q_18 => q_18.elim fun c_5 q_19 => q_19.elim fun c_6 q_20 => q_20.elim fun c_7 q_21 => q_21.elim fun c_8 q_22 => q_22.elim fun c_9 q_23 => q_23.elim fun c_10 e_24 => ?_
    clear h_3 q_12 q_17 q_18 q_19 q_20 q_21 q_22 q_23
    subst e_16
    subst e_24
    have c_4 : 0 ≤ x2.toInt := c_4
    have c_5 : x2.toInt < y5.toInt := c_5
    have c_6 : 0 ≤ x0.toInt := c_6
    have c_7 : x0.toInt ≤ 2000000000 := c_7
    have c_8 : 1 ≤ x1.toInt := c_8
    have c_9 : x1.toInt ≤ 40 := c_9
    have c_10 : y0.toInt + x1.toInt ≤ 99 := c_10
    let w3_ : va_W := [(mp_arI E a3 0 6 f0), (mp_arI E a4 0 6 f1), (mp_arI E a5 0 10 f2), (mp_arI E a6 0 10 f3), (mp_arI E a7 0 10 f4), (mp_arI E a8 0 10 f5), (mp_arI E a9 0 10 f6), (mp_arI E a10 0 10 f7), (mp_arL E a11 20 f8), (mp_arI E a12 0 10 f9), (mp_ob8 a13 a14 y7 y8), (mp_arI E a14 0 10 f10), (mp_ob9 a0 a15 a1 a16 a17 a18 a19 a20 a13 a21), (mp_ob0 a1 a2 y0 a22 a23 a24 a11 a12 a25), (mp_ob7 a2 y1 y2 y3 y4 y5 y6 a26 a27 a28 a3 a4 a5 a6 a7 a8 a9 a10 a29)]
    show mp_W E X 4 7 [(0, .ref a0), (1, .int x0), (2, .int x1), (3, .int x2)] [.int 1] w3_ 0 0
    refine mp_run mp_k_cX9_often_ok hF mp_tabX9_ok [mp_h (.ifCond .ne 6) [13]] (by decide +kernel) ?_
    refine And.intro (fun _ => ?_) (fun c_25 => absurd c_25 (by decide))
    show mp_W E X 4 13 [(0, .ref a0), (1, .int x0), (2, .int x1), (3, .int x2)] [] w3_ 0 0
    refine mp_run mp_k_cX9_often_ok hF mp_tabX9_ok [mp_i (.aload_n 0), mp_h (.getfield 60) [43, 12], mp_i (.aload_n 0), mp_h (.getfield 19) [37, 12], mp_i (.iload_n 1), mp_i (.iload_n 2), mp_i (.iload_n 3)] (by decide +kernel) ?_
    refine And.intro rfl (And.intro rfl ?_)
    refine And.intro rfl (And.intro rfl ?_)
    show mp_W E X 4 24 [(0, .ref a0), (1, .int x0), (2, .int x1), (3, .int x2)] [.int x2, .int x1, .int x0, .ref a1, .ref a13] w3_ 0 0
    refine mp_callV hF (As := [.ref a1, .int x0, .int x1, .int x2]) (rest := []) (wr := [(mp_ob9 a0 a15 a1 a16 a17 a18 a19 a20 a13 a21)]) (bX8_pass_167 E a13 a1 a14 a2 a3 a4 a5 a6 a7 a8 a9 a10 a11 a12 a22 a23 a24 a25 a26 a27 a28 a29 f10 f0 f1 f2 f3 f4 f5 f6 f7 f8 f9 y7 y8 y0 y1 y2 y3 y4 y5 y6 x0 x1 x2 p0 p1 p2 p3 p4 (by (first | exact c_8 | omega)) (by (first | exact c_9 | omega)) (by (first | exact c_4 | omega)) (by (first | exact mp_o419 u_y5 c_5 | omega)) l_y0 u_y0 l_y2 u_y2 l_y3 u_y3 l_y4 u_y4 l_y5 u_y5 l_y6 u_y6 (by first | (first | exact c_10 | omega) | (show y0.toInt + x1.toInt ≤ 99; omega))) mp_lkX9_319 10 rfl [10, 11, 13, 14, 0, 1, 2, 3, 4, 5, 6, 7, 8, 9] [12] rfl rfl rfl rfl rfl ⟨(Nat.le_of_ble_eq_true rfl), (Nat.le_of_ble_eq_true rfl), (Nat.le_of_ble_eq_true rfl), (Nat.le_of_ble_eq_true rfl)⟩ (Nat.le_of_ble_eq_true rfl) (by first | exact mp_fd_ok mp_k_cX9_often_ok (by decide +kernel) | decide +kernel) (fun v_26 w_27 h_28 => ?_)
    refine h_28.elim fun r_29 q_33 => q_33.elim fun r_30 q_34 => q_34.elim fun g_31 q_35 => q_35.elim fun g_32 q_36 => q_36.elim fun e_37 e_38 => ?_
    clear h_28 q_33 q_34 q_35 q_36
    subst e_37
    subst e_38
    let w4_ : va_W := [(mp_ob9 a0 a15 a1 a16 a17 a18 a19 a20 a13 a21), (mp_ob8 a13 a14 r_29 r_30), (mp_arI E a14 0 10 g_31), (mp_ob0 a1 a2 y0 a22 a23 a24 a11 a12 a25), (mp_ob7 a2 y1 y2 y3 y4 y5 y6 a26 a27 a28 a3 a4 a5 a6 a7 a8 a9 a10 a29), (mp_arI E a3 0 6 f0), (mp_arI E a4 0 6 f1), (mp_arI E a5 0 10 f2), (mp_arI E a6 0 10 f3), (mp_arI E a7 0 10 f4), (mp_arI E a8 0 10 f5), (mp_arI E a9 0 10 f6), (mp_arI E a10 0 10 f7), (mp_arL E a11 20 f8), (mp_arI E a12 0 10 g_32)]
    show mp_W E X 4 27 [(0, .ref a0), (1, .int x0), (2, .int x1), (3, .int x2)] [] w4_ 0 0
    refine mp_run mp_k_cX9_often_ok hF mp_tabX9_ok [mp_i (.aload_n 0), mp_h (.getfield 60) [43, 0], mp_h (.getfield 325) [33, 1]] (by decide +kernel) ?_
    refine And.intro rfl (And.intro rfl ?_)
    refine And.intro rfl (And.intro rfl ?_)
    show mp_W E X 4 34 [(0, .ref a0), (1, .int x0), (2, .int x1), (3, .int x2)] [.int r_30] w4_ 0 0
    exact mp_iret hF hQ rfl rfl (Nat.le_of_ble_eq_true rfl) (Nat.le_of_ble_eq_true rfl) [0, 3, 4, 5, 6, 7, 8, 9, 10, 11, 12, 13, 14, 1, 2] (w' := [(mp_ob9 a0 a15 a1 a16 a17 a18 a19 a20 a13 a21), (mp_ob0 a1 a2 y0 a22 a23 a24 a11 a12 a25), (mp_ob7 a2 y1 y2 y3 y4 y5 y6 a26 a27 a28 a3 a4 a5 a6 a7 a8 a9 a10 a29), (mp_arI E a3 0 6 f0), (mp_arI E a4 0 6 f1), (mp_arI E a5 0 10 f2), (mp_arI E a6 0 10 f3), (mp_arI E a7 0 10 f4), (mp_arI E a8 0 10 f5), (mp_arI E a9 0 10 f6), (mp_arI E a10 0 10 f7), (mp_arL E a11 20 f8), (mp_arI E a12 0 10 g_32), (mp_ob8 a13 a14 r_29 r_30), (mp_arI E a14 0 10 g_31)]) rfl rfl ⟨g_32, r_29, r_30, g_31, r_30, rfl, rfl⟩ (by first | exact mp_fd_ok mp_k_cX9_often_ok (by decide +kernel) | decide +kernel)
set_option maxHeartbeats 4000000 in
set_option maxRecDepth 100000 in
theorem bX9_lucky_170 (E : mp_E) (a0 a1 a2 a3 a4 a5 a6 a7 a8 a9 a10 a11 a12 a13 a14 a15 a16 a17 a18 a19 a20 a21 a22 a23 a24 a25 a26 a27 a28 a29 : Nat) (f0 : Nat → Int32) (f1 : Nat → Int32) (f2 : Nat → Int32) (f3 : Nat → Int32) (f4 : Nat → Int32) (f5 : Nat → Int32) (f6 : Nat → Int32) (f7 : Nat → Int32) (f8 : Nat → Int64) (f9 : Nat → Int32) (f10 : Nat → Int32) (y0 : Int32) (y1 : Int32) (y2 : Int32) (y3 : Int32) (y4 : Int32) (y5 : Int32) (y6 : Int32) (y7 : Int32) (y8 : Int32) (x0 : Int32) (x1 : Int32) (x2 : Int32) (x3 : Int32) (p0 : mp_all f2 10 0 5) (p1 : mp_all f3 10 0 5) (p2 : mp_all f5 10 0 99) (p3 : mp_all f6 10 0 1) (p4 : mp_all f7 10 (-1) 9) (l_y0 : 0 ≤ y0.toInt) (u_y0 : y0.toInt ≤ 99) (l_y2 : 0 ≤ y2.toInt) (u_y2 : y2.toInt ≤ 6) (l_y3 : 0 ≤ y3.toInt) (u_y3 : y3.toInt ≤ 99) (l_y4 : 0 ≤ y4.toInt) (u_y4 : y4.toInt ≤ 6) (l_y5 : 0 ≤ y5.toInt) (u_y5 : y5.toInt ≤ 10) (l_y6 : 0 ≤ y6.toInt) (u_y6 : y6.toInt ≤ 60) : mp_Ct E yX9_lucky cX9_lucky 7 (some FieldType.int) 4 0 0 104 [.ref a0, .int x0, .int x1, .int x2, .int x3] [(mp_ob9 a0 a15 a1 a16 a17 a18 a19 a20 a13 a21), (mp_ob0 a1 a2 y0 a22 a23 a24 a11 a12 a25), (mp_ob7 a2 y1 y2 y3 y4 y5 y6 a26 a27 a28 a3 a4 a5 a6 a7 a8 a9 a10 a29), (mp_arI E a3 0 6 f0), (mp_arI E a4 0 6 f1), (mp_arI E a5 0 10 f2), (mp_arI E a6 0 10 f3), (mp_arI E a7 0 10 f4), (mp_arI E a8 0 10 f5), (mp_arI E a9 0 10 f6), (mp_arI E a10 0 10 f7), (mp_arL E a11 20 f8), (mp_arI E a12 0 10 f9), (mp_ob8 a13 a14 y7 y8), (mp_arI E a14 0 10 f10)] (fun v w' => ∃ h1 : Nat → Int32, ∃ r2 : Int32, ∃ r3 : Int32, ∃ h4 : Nat → Int32, ∃ r5 : Int32, v = some (.int r5) ∧ w' = [(mp_ob9 a0 a15 a1 a16 a17 a18 a19 a20 a13 a21), (mp_ob0 a1 a2 y0 a22 a23 a24 a11 a12 a25), (mp_ob7 a2 y1 y2 y3 y4 y5 y6 a26 a27 a28 a3 a4 a5 a6 a7 a8 a9 a10 a29), (mp_arI E a3 0 6 f0), (mp_arI E a4 0 6 f1), (mp_arI E a5 0 10 f2), (mp_arI E a6 0 10 f3), (mp_arI E a7 0 10 f4), (mp_arI E a8 0 10 f5), (mp_arI E a9 0 10 f6), (mp_arI E a10 0 10 f7), (mp_arL E a11 20 f8), (mp_arI E a12 0 10 h1), (mp_ob8 a13 a14 r2 r3), (mp_arI E a14 0 10 h4)]) := by
  refine mp_met false (by decide) (by decide) (Nat.le_of_ble_eq_true rfl) (fun X hF hQ => ?_)
  have hF : mp_F E X (RX9, cX9_lucky, 7, (4, 0, 0, 104), (some FieldType.int), false) := hF
  let w1_ : va_W := [(mp_ob9 a0 a15 a1 a16 a17 a18 a19 a20 a13 a21), (mp_ob0 a1 a2 y0 a22 a23 a24 a11 a12 a25), (mp_ob7 a2 y1 y2 y3 y4 y5 y6 a26 a27 a28 a3 a4 a5 a6 a7 a8 a9 a10 a29), (mp_arI E a3 0 6 f0), (mp_arI E a4 0 6 f1), (mp_arI E a5 0 10 f2), (mp_arI E a6 0 10 f3), (mp_arI E a7 0 10 f4), (mp_arI E a8 0 10 f5), (mp_arI E a9 0 10 f6), (mp_arI E a10 0 10 f7), (mp_arL E a11 20 f8), (mp_arI E a12 0 10 f9), (mp_ob8 a13 a14 y7 y8), (mp_arI E a14 0 10 f10)]
  show mp_W E X 7 0 [(0, .ref a0), (1, .int x0), (2, .int x1), (3, .int x2), (4, .int x3)] [] w1_ 0 0
  refine mp_run mp_k_cX9_lucky_ok hF mp_tabX9_ok [mp_i (.aload_n 0), mp_i (.iload_n 1), mp_i (.iload_n 3), mp_i (.iload 4)] (by decide +kernel) ?_
  show mp_W E X 7 5 [(0, .ref a0), (1, .int x0), (2, .int x1), (3, .int x2), (4, .int x3)] [.int x3, .int x2, .int x0, .ref a0] w1_ 0 0
  refine mp_callV hF (As := [.int x0, .int x2, .int x3]) (rest := []) (wr := [(mp_arI E a3 0 6 f0), (mp_arI E a4 0 6 f1), (mp_arI E a5 0 10 f2), (mp_arI E a6 0 10 f3), (mp_arI E a7 0 10 f4), (mp_arI E a8 0 10 f5), (mp_arI E a9 0 10 f6), (mp_arI E a10 0 10 f7), (mp_arL E a11 20 f8), (mp_arI E a12 0 10 f9), (mp_ob8 a13 a14 y7 y8), (mp_arI E a14 0 10 f10)]) (bX9_canDraw_166 E a0 a1 a2 a15 a16 a17 a18 a19 a20 a13 a21 a22 a23 a24 a11 a12 a25 a26 a27 a28 a3 a4 a5 a6 a7 a8 a9 a10 a29 y0 y1 y2 y3 y4 y5 y6 x0 x2 x3 l_y0 u_y0 l_y2 u_y2 l_y3 u_y3 l_y4 u_y4 l_y5 u_y5 l_y6 u_y6) mp_lkX9_316 0 rfl [0, 1, 2] [3, 4, 5, 6, 7, 8, 9, 10, 11, 12, 13, 14] rfl rfl rfl rfl rfl ⟨(Nat.le_of_ble_eq_true rfl), (Nat.le_of_ble_eq_true rfl), (Nat.le_of_ble_eq_true rfl), (Nat.le_of_ble_eq_true rfl)⟩ (Nat.le_of_ble_eq_true rfl) (by first | exact mp_fd_ok mp_k_cX9_lucky_ok (by decide +kernel) | decide +kernel) (fun v_1 w_2 h_3 => ?_)
  refine h_3.elim (fun q_11 => ?_) (fun q_12 => ?_)
  · skip
    refine q_11.elim fun e_13 e_14 => ?_
    clear h_3 q_11
    subst e_13
    subst e_14
    let w2_ : va_W := [(mp_arI E a3 0 6 f0), (mp_arI E a4 0 6 f1), (mp_arI E a5 0 10 f2), (mp_arI E a6 0 10 f3), (mp_arI E a7 0 10 f4), (mp_arI E a8 0 10 f5), (mp_arI E a9 0 10 f6), (mp_arI E a10 0 10 f7), (mp_arL E a11 20 f8), (mp_arI E a12 0 10 f9), (mp_ob8 a13 a14 y7 y8), (mp_arI E a14 0 10 f10), (mp_ob9 a0 a15 a1 a16 a17 a18 a19 a20 a13 a21), (mp_ob0 a1 a2 y0 a22 a23 a24 a11 a12 a25), (mp_ob7 a2 y1 y2 y3 y4 y5 y6 a26 a27 a28 a3 a4 a5 a6 a7 a8 a9 a10 a29)]
    show mp_W E X 7 8 [(0, .ref a0), (1, .int x0), (2, .int x1), (3, .int x2), (4, .int x3)] [.int 0] w2_ 0 0
    refine mp_run mp_k_cX9_lucky_ok hF mp_tabX9_ok [mp_h (.ifCond .eq 14) [22]] (by decide +kernel) ?_
    refine And.intro (fun _ => ?_) (fun c_15 => absurd c_15 (by decide))
    show mp_W E X 7 22 [(0, .ref a0), (1, .int x0), (2, .int x1), (3, .int x2), (4, .int x3)] [] w2_ 0 0
    refine mp_run mp_k_cX9_lucky_ok hF mp_tabX9_ok [mp_c (.bipush (-2)) (-2)] (by decide +kernel) ?_
    show mp_W E X 7 24 [(0, .ref a0), (1, .int x0), (2, .int x1), (3, .int x2), (4, .int x3)] [.int (-2)] w2_ 0 0
    exact mp_iret hF hQ rfl rfl (Nat.le_of_ble_eq_true rfl) (Nat.le_of_ble_eq_true rfl) [12, 13, 14, 0, 1, 2, 3, 4, 5, 6, 7, 8, 9, 10, 11] (w' := w1_) rfl rfl ⟨f9, y7, y8, f10, (-2), rfl, rfl⟩ (by first | exact mp_fd_ok mp_k_cX9_lucky_ok (by decide +kernel) | decide +kernel)
  · skip
    refine q_12.elim fun e_16 q_17 => q_17.elim fun c_4 q_18 => q_18.elim fun c_5 q_19 => q_19.elim fun c_6 q_20 => q_20.elim fun c_7 q_21 => q_21.elim fun c_8 q_22 => q_22.elim fun c_9 q_23 => q_23.elim fun c_10 e_24 => ?_
    clear h_3 q_12 q_17 q_18 q_19 q_20 q_21 q_22 q_23
    subst e_16
    subst e_24
    have c_4 : 0 ≤ x3.toInt := c_4
    have c_5 : x3.toInt < y5.toInt := c_5
    have c_6 : 0 ≤ x0.toInt := c_6
    have c_7 : x0.toInt ≤ 2000000000 := c_7
    have c_8 : 1 ≤ x2.toInt := c_8
    have c_9 : x2.toInt ≤ 40 := c_9
    have c_10 : y0.toInt + x2.toInt ≤ 99 := c_10
    let w3_ : va_W := [(mp_arI E a3 0 6 f0), (mp_arI E a4 0 6 f1), (mp_arI E a5 0 10 f2), (mp_arI E a6 0 10 f3), (mp_arI E a7 0 10 f4), (mp_arI E a8 0 10 f5), (mp_arI E a9 0 10 f6), (mp_arI E a10 0 10 f7), (mp_arL E a11 20 f8), (mp_arI E a12 0 10 f9), (mp_ob8 a13 a14 y7 y8), (mp_arI E a14 0 10 f10), (mp_ob9 a0 a15 a1 a16 a17 a18 a19 a20 a13 a21), (mp_ob0 a1 a2 y0 a22 a23 a24 a11 a12 a25), (mp_ob7 a2 y1 y2 y3 y4 y5 y6 a26 a27 a28 a3 a4 a5 a6 a7 a8 a9 a10 a29)]
    show mp_W E X 7 8 [(0, .ref a0), (1, .int x0), (2, .int x1), (3, .int x2), (4, .int x3)] [.int 1] w3_ 0 0
    refine mp_run mp_k_cX9_lucky_ok hF mp_tabX9_ok [mp_h (.ifCond .eq 14) [22]] (by decide +kernel) ?_
    refine And.intro (fun c_25 => absurd c_25 (by decide)) (fun _ => ?_)
    show mp_W E X 7 11 [(0, .ref a0), (1, .int x0), (2, .int x1), (3, .int x2), (4, .int x3)] [] w3_ 0 0
    refine mp_run mp_k_cX9_lucky_ok hF mp_tabX9_ok [mp_i (.iload_n 2), mp_c (.iconst 1) 1, mp_h (.if_icmp .lt 9) [22]] (by decide +kernel) ?_
    refine And.intro (fun c_26 => ?_) (fun c_26 => ?_)
    · have c_26 : x1.toInt < 1 := c_26
      show mp_W E X 7 22 [(0, .ref a0), (1, .int x0), (2, .int x1), (3, .int x2), (4, .int x3)] [] w3_ 0 0
      refine mp_run mp_k_cX9_lucky_ok hF mp_tabX9_ok [mp_c (.bipush (-2)) (-2)] (by decide +kernel) ?_
      show mp_W E X 7 24 [(0, .ref a0), (1, .int x0), (2, .int x1), (3, .int x2), (4, .int x3)] [.int (-2)] w3_ 0 0
      exact mp_iret hF hQ rfl rfl (Nat.le_of_ble_eq_true rfl) (Nat.le_of_ble_eq_true rfl) [12, 13, 14, 0, 1, 2, 3, 4, 5, 6, 7, 8, 9, 10, 11] (w' := w1_) rfl rfl ⟨f9, y7, y8, f10, (-2), rfl, rfl⟩ (by first | exact mp_fd_ok mp_k_cX9_lucky_ok (by decide +kernel) | decide +kernel)
    · have c_26 : 1 ≤ x1.toInt := c_26
      show mp_W E X 7 16 [(0, .ref a0), (1, .int x0), (2, .int x1), (3, .int x2), (4, .int x3)] [] w3_ 0 0
      refine mp_run mp_k_cX9_lucky_ok hF mp_tabX9_ok [mp_i (.iload_n 2), mp_c (.bipush 20) 20, mp_h (.if_icmp .le 6) [25]] (by decide +kernel) ?_
      refine And.intro (fun c_27 => ?_) (fun c_27 => ?_)
      · have c_27 : x1.toInt ≤ 20 := c_27
        show mp_W E X 7 25 [(0, .ref a0), (1, .int x0), (2, .int x1), (3, .int x2), (4, .int x3)] [] w3_ 0 0
        refine mp_run mp_k_cX9_lucky_ok hF mp_tabX9_ok [mp_c (.iconst 0) 0, mp_i (.istore 5), mp_c (.iconst 0) 0, mp_i (.istore 6)] (by decide +kernel) ?_
        show mp_W E X 7 31 [(6, .int 0), (5, .int 0), (0, .ref a0), (1, .int x0), (2, .int x1), (3, .int x2), (4, .int x3)] [] w3_ 0 0
        have lp_36 : ∀ (d_37 : Nat) (i_28 : Int32) (g_29 : Nat → Int32) (i_30 : Int32) (i_31 : Int32) (g_32 : Nat → Int32) (i_33 : Int32), 0 ≤ i_28.toInt → i_28.toInt ≤ 20 → x1.toInt - i_28.toInt ≤ (d_37 : Int) → mp_W E X 7 31 [(6, .int i_28), (5, .int i_33), (0, .ref a0), (1, .int x0), (2, .int x1), (3, .int x2), (4, .int x3)] [] [(mp_arI E a3 0 6 f0), (mp_arI E a4 0 6 f1), (mp_arI E a5 0 10 f2), (mp_arI E a6 0 10 f3), (mp_arI E a7 0 10 f4), (mp_arI E a8 0 10 f5), (mp_arI E a9 0 10 f6), (mp_arI E a10 0 10 f7), (mp_arL E a11 20 f8), (mp_arI E a12 0 10 g_29), (mp_ob8 a13 a14 i_30 i_31), (mp_arI E a14 0 10 g_32), (mp_ob9 a0 a15 a1 a16 a17 a18 a19 a20 a13 a21), (mp_ob0 a1 a2 y0 a22 a23 a24 a11 a12 a25), (mp_ob7 a2 y1 y2 y3 y4 y5 y6 a26 a27 a28 a3 a4 a5 a6 a7 a8 a9 a10 a29)] 0 0 := by
          intro d_37
          induction d_37 using Nat.strongRecOn with
          | ind d_37 ih_38 =>
            intro i_28 g_29 i_30 i_31 g_32 i_33 l_34 u_35 hm_39
            refine mp_run mp_k_cX9_lucky_ok hF mp_tabX9_ok [mp_i (.iload 6), mp_i (.iload_n 2), mp_h (.if_icmp .ge 55) [89]] (by decide +kernel) ?_
            refine And.intro (fun c_40 => ?_) (fun c_40 => ?_)
            · have c_40 : x1.toInt ≤ i_28.toInt := c_40
              let w4_ : va_W := [(mp_arI E a3 0 6 f0), (mp_arI E a4 0 6 f1), (mp_arI E a5 0 10 f2), (mp_arI E a6 0 10 f3), (mp_arI E a7 0 10 f4), (mp_arI E a8 0 10 f5), (mp_arI E a9 0 10 f6), (mp_arI E a10 0 10 f7), (mp_arL E a11 20 f8), (mp_arI E a12 0 10 g_29), (mp_ob8 a13 a14 i_30 i_31), (mp_arI E a14 0 10 g_32), (mp_ob9 a0 a15 a1 a16 a17 a18 a19 a20 a13 a21), (mp_ob0 a1 a2 y0 a22 a23 a24 a11 a12 a25), (mp_ob7 a2 y1 y2 y3 y4 y5 y6 a26 a27 a28 a3 a4 a5 a6 a7 a8 a9 a10 a29)]
              show mp_W E X 7 89 [(6, .int i_28), (5, .int i_33), (0, .ref a0), (1, .int x0), (2, .int x1), (3, .int x2), (4, .int x3)] [] w4_ 0 0
              refine mp_run mp_k_cX9_lucky_ok hF mp_tabX9_ok [mp_i (.iload 5)] (by decide +kernel) ?_
              show mp_W E X 7 91 [(6, .int i_28), (5, .int i_33), (0, .ref a0), (1, .int x0), (2, .int x1), (3, .int x2), (4, .int x3)] [.int i_33] w4_ 0 0
              exact mp_iret hF hQ rfl rfl (Nat.le_of_ble_eq_true rfl) (Nat.le_of_ble_eq_true rfl) [12, 13, 14, 0, 1, 2, 3, 4, 5, 6, 7, 8, 9, 10, 11] (w' := [(mp_ob9 a0 a15 a1 a16 a17 a18 a19 a20 a13 a21), (mp_ob0 a1 a2 y0 a22 a23 a24 a11 a12 a25), (mp_ob7 a2 y1 y2 y3 y4 y5 y6 a26 a27 a28 a3 a4 a5 a6 a7 a8 a9 a10 a29), (mp_arI E a3 0 6 f0), (mp_arI E a4 0 6 f1), (mp_arI E a5 0 10 f2), (mp_arI E a6 0 10 f3), (mp_arI E a7 0 10 f4), (mp_arI E a8 0 10 f5), (mp_arI E a9 0 10 f6), (mp_arI E a10 0 10 f7), (mp_arL E a11 20 f8), (mp_arI E a12 0 10 g_29), (mp_ob8 a13 a14 i_30 i_31), (mp_arI E a14 0 10 g_32)]) rfl rfl ⟨g_29, i_30, i_31, g_32, i_33, rfl, rfl⟩ (by first | exact mp_fd_ok mp_k_cX9_lucky_ok (by decide +kernel) | decide +kernel)
            · have c_40 : i_28.toInt < x1.toInt := c_40
              let w5_ : va_W := [(mp_arI E a3 0 6 f0), (mp_arI E a4 0 6 f1), (mp_arI E a5 0 10 f2), (mp_arI E a6 0 10 f3), (mp_arI E a7 0 10 f4), (mp_arI E a8 0 10 f5), (mp_arI E a9 0 10 f6), (mp_arI E a10 0 10 f7), (mp_arL E a11 20 f8), (mp_arI E a12 0 10 g_29), (mp_ob8 a13 a14 i_30 i_31), (mp_arI E a14 0 10 g_32), (mp_ob9 a0 a15 a1 a16 a17 a18 a19 a20 a13 a21), (mp_ob0 a1 a2 y0 a22 a23 a24 a11 a12 a25), (mp_ob7 a2 y1 y2 y3 y4 y5 y6 a26 a27 a28 a3 a4 a5 a6 a7 a8 a9 a10 a29)]
              show mp_W E X 7 37 [(6, .int i_28), (5, .int i_33), (0, .ref a0), (1, .int x0), (2, .int x1), (3, .int x2), (4, .int x3)] [] w5_ 0 0
              refine mp_run mp_k_cX9_lucky_ok hF mp_tabX9_ok [mp_i (.aload_n 0), mp_h (.getfield 60) [43, 12], mp_i (.aload_n 0), mp_h (.getfield 19) [37, 12], mp_i (.iload_n 1), mp_i (.iload 6), mp_i .iadd, mp_i (.iload_n 3), mp_i (.iload 4)] (by decide +kernel) ?_
              refine And.intro rfl (And.intro rfl ?_)
              refine And.intro rfl (And.intro rfl ?_)
              intro z_41 h_42
              have e_43 : z_41.toInt = x0.toInt + i_28.toInt := mp_add (a := x0.toInt) (b := i_28.toInt) h_42 rfl rfl (by (first | exact mp_o116 c_6 l_34 | omega)) (by (first | exact mp_o832 c_7 u_35 | omega))
              show mp_W E X 7 52 [(6, .int i_28), (5, .int i_33), (0, .ref a0), (1, .int x0), (2, .int x1), (3, .int x2), (4, .int x3)] [.int x3, .int x2, .int z_41, .ref a1, .ref a13] w5_ 0 0
              refine mp_callV hF (As := [.ref a1, .int z_41, .int x2, .int x3]) (rest := []) (wr := [(mp_ob9 a0 a15 a1 a16 a17 a18 a19 a20 a13 a21)]) (bX8_pass_167 E a13 a1 a14 a2 a3 a4 a5 a6 a7 a8 a9 a10 a11 a12 a22 a23 a24 a25 a26 a27 a28 a29 g_32 f0 f1 f2 f3 f4 f5 f6 f7 f8 g_29 i_30 i_31 y0 y1 y2 y3 y4 y5 y6 z_41 x2 x3 p0 p1 p2 p3 p4 (by (first | exact c_8 | omega)) (by (first | exact c_9 | omega)) (by (first | exact c_4 | omega)) (by (first | exact mp_o419 u_y5 c_5 | omega)) l_y0 u_y0 l_y2 u_y2 l_y3 u_y3 l_y4 u_y4 l_y5 u_y5 l_y6 u_y6 (by first | (first | exact c_10 | omega) | (show y0.toInt + x2.toInt ≤ 99; omega))) mp_lkX9_319 10 rfl [10, 11, 13, 14, 0, 1, 2, 3, 4, 5, 6, 7, 8, 9] [12] rfl rfl rfl rfl rfl ⟨(Nat.le_of_ble_eq_true rfl), (Nat.le_of_ble_eq_true rfl), (Nat.le_of_ble_eq_true rfl), (Nat.le_of_ble_eq_true rfl)⟩ (Nat.le_of_ble_eq_true rfl) (by first | exact mp_fd_ok mp_k_cX9_lucky_ok (by decide +kernel) | decide +kernel) (fun v_44 w_45 h_46 => ?_)
              refine h_46.elim fun r_47 q_51 => q_51.elim fun r_48 q_52 => q_52.elim fun g_49 q_53 => q_53.elim fun g_50 q_54 => q_54.elim fun e_55 e_56 => ?_
              clear h_46 q_51 q_52 q_53 q_54
              subst e_55
              subst e_56
              let w6_ : va_W := [(mp_ob9 a0 a15 a1 a16 a17 a18 a19 a20 a13 a21), (mp_ob8 a13 a14 r_47 r_48), (mp_arI E a14 0 10 g_49), (mp_ob0 a1 a2 y0 a22 a23 a24 a11 a12 a25), (mp_ob7 a2 y1 y2 y3 y4 y5 y6 a26 a27 a28 a3 a4 a5 a6 a7 a8 a9 a10 a29), (mp_arI E a3 0 6 f0), (mp_arI E a4 0 6 f1), (mp_arI E a5 0 10 f2), (mp_arI E a6 0 10 f3), (mp_arI E a7 0 10 f4), (mp_arI E a8 0 10 f5), (mp_arI E a9 0 10 f6), (mp_arI E a10 0 10 f7), (mp_arL E a11 20 f8), (mp_arI E a12 0 10 g_50)]
              show mp_W E X 7 55 [(6, .int i_28), (5, .int i_33), (0, .ref a0), (1, .int x0), (2, .int x1), (3, .int x2), (4, .int x3)] [] w6_ 0 0
              refine mp_run mp_k_cX9_lucky_ok hF mp_tabX9_ok [mp_c (.iconst 2) 2, mp_i (.aload_n 0), mp_h (.getfield 60) [43, 0], mp_h (.getfield 322) [32, 1], mp_i .imul, mp_i (.aload_n 0), mp_h (.getfield 19) [37, 0], mp_h (.getfield 83) [20, 3], mp_h (.getfield 129) [11, 4], mp_i (.iload 4), mp_h .iaload [9], mp_h (.if_icmp .lt 6) [83]] (by decide +kernel) ?_
              refine And.intro rfl (And.intro rfl ?_)
              refine And.intro rfl (And.intro rfl ?_)
              intro z_57 h_58
              refine And.intro rfl (And.intro rfl ?_)
              refine And.intro rfl (And.intro rfl ?_)
              refine And.intro rfl (And.intro rfl ?_)
              refine And.intro rfl (And.intro rfl (And.intro (vp_in_iff.mpr (by (first | exact mp_o381 c_4 u_y5 c_5 | omega))) ?_))
              intro z_60 h_61
              refine And.intro (fun c_62 => ?_) (fun c_62 => ?_)
              · have c_62 : z_57.toInt < z_60.toInt := c_62
                show mp_W E X 7 83 [(6, .int i_28), (5, .int i_33), (0, .ref a0), (1, .int x0), (2, .int x1), (3, .int x2), (4, .int x3)] [] w6_ 0 0
                refine mp_run mp_k_cX9_lucky_ok hF mp_tabX9_ok [mp_c (.iinc 6 1) 1, mp_h (.goto (-55)) [31]] (by decide +kernel) ?_
                intro z_63 h_64
                have e_65 : z_63.toInt = i_28.toInt + 1 := mp_add (a := i_28.toInt) (b := 1) h_64 rfl (by decide) (by (first | exact mp_o2 l_34 | omega)) (by (first | exact mp_o612 u_35 | omega))
                show mp_W E X 7 31 [(6, .int z_63), (5, .int i_33), (0, .ref a0), (1, .int x0), (2, .int x1), (3, .int x2), (4, .int x3)] [] w6_ 0 0
                exact mp_sub [0, 1, 2, 3, 4, 5, 6] rfl [5, 6, 7, 8, 9, 10, 11, 12, 13, 14, 1, 2, 0, 3, 4] rfl rfl (ih_38 (d_37 - 1) (by (first | exact mp_o72 hm_39 c_40 | omega)) z_63 g_50 r_47 r_48 g_49 i_33 (by (first | exact mp_o51 l_34 e_65 | omega)) (by (first | exact mp_o833 c_27 c_40 e_65 | omega)) (by (first | exact mp_o77 hm_39 e_65 | omega)))
              · have c_62 : z_60.toInt ≤ z_57.toInt := c_62
                show mp_W E X 7 80 [(6, .int i_28), (5, .int i_33), (0, .ref a0), (1, .int x0), (2, .int x1), (3, .int x2), (4, .int x3)] [] w6_ 0 0
                refine mp_run mp_k_cX9_lucky_ok hF mp_tabX9_ok [mp_c (.iinc 5 1) 1, mp_c (.iinc 6 1) 1, mp_h (.goto (-55)) [31]] (by decide +kernel) ?_
                intro z_66 h_67
                have e_68 := mp_bnd i_33
                intro z_70 h_71
                have e_72 : z_70.toInt = i_28.toInt + 1 := mp_add (a := i_28.toInt) (b := 1) h_71 rfl (by decide) (by (first | exact mp_o2 l_34 | omega)) (by (first | exact mp_o612 u_35 | omega))
                show mp_W E X 7 31 [(6, .int z_70), (5, .int z_66), (0, .ref a0), (1, .int x0), (2, .int x1), (3, .int x2), (4, .int x3)] [] w6_ 0 0
                exact mp_sub [0, 1, 2, 3, 4, 5, 6] rfl [5, 6, 7, 8, 9, 10, 11, 12, 13, 14, 1, 2, 0, 3, 4] rfl rfl (ih_38 (d_37 - 1) (by (first | exact mp_o72 hm_39 c_40 | omega)) z_70 g_50 r_47 r_48 g_49 z_66 (by (first | exact mp_o51 l_34 e_72 | omega)) (by (first | exact mp_o833 c_27 c_40 e_72 | omega)) (by (first | exact mp_o77 hm_39 e_72 | omega)))
        exact mp_sub [0, 1, 2, 3, 4, 5, 6] rfl [0, 1, 2, 3, 4, 5, 6, 7, 8, 9, 10, 11, 12, 13, 14] rfl rfl (lp_36 _ 0 f9 y7 y8 f10 0 (by decide) (by decide) (Int.self_le_toNat _))
      · have c_27 : 20 < x1.toInt := c_27
        show mp_W E X 7 22 [(0, .ref a0), (1, .int x0), (2, .int x1), (3, .int x2), (4, .int x3)] [] w3_ 0 0
        refine mp_run mp_k_cX9_lucky_ok hF mp_tabX9_ok [mp_c (.bipush (-2)) (-2)] (by decide +kernel) ?_
        show mp_W E X 7 24 [(0, .ref a0), (1, .int x0), (2, .int x1), (3, .int x2), (4, .int x3)] [.int (-2)] w3_ 0 0
        exact mp_iret hF hQ rfl rfl (Nat.le_of_ble_eq_true rfl) (Nat.le_of_ble_eq_true rfl) [12, 13, 14, 0, 1, 2, 3, 4, 5, 6, 7, 8, 9, 10, 11] (w' := w1_) rfl rfl ⟨f9, y7, y8, f10, (-2), rfl, rfl⟩ (by first | exact mp_fd_ok mp_k_cX9_lucky_ok (by decide +kernel) | decide +kernel)
set_option maxHeartbeats 4000000 in
set_option maxRecDepth 100000 in
theorem bX9_promises_171 (E : mp_E) (a0 a1 a2 a3 a4 a5 a6 a7 a8 a9 a10 a11 a12 a13 a14 a15 a16 a17 a18 a19 a20 a21 a22 a23 a24 a25 a26 a27 a28 : Nat) (f0 : Nat → Int32) (f1 : Nat → Int32) (f2 : Nat → Int32) (f3 : Nat → Int32) (f4 : Nat → Int32) (f5 : Nat → Int32) (y0 : Int32) (y1 : Int32) (y2 : Int32) (y3 : Int32) (y4 : Int32) (y5 : Int32) (y6 : Int32) (x0 : Int32) (x1 : Int32) (x2 : Int32) (p0 : mp_all f0 10 0 5) (p1 : mp_all f1 10 0 5) (p2 : mp_all f3 10 0 99) (p3 : mp_all f4 10 0 1) (p4 : mp_all f5 10 (-1) 9) (l_y0 : 0 ≤ y0.toInt) (u_y0 : y0.toInt ≤ 99) (l_y2 : 0 ≤ y2.toInt) (u_y2 : y2.toInt ≤ 6) (l_y3 : 0 ≤ y3.toInt) (u_y3 : y3.toInt ≤ 99) (l_y4 : 0 ≤ y4.toInt) (u_y4 : y4.toInt ≤ 6) (l_y5 : 0 ≤ y5.toInt) (u_y5 : y5.toInt ≤ 10) (l_y6 : 0 ≤ y6.toInt) (u_y6 : y6.toInt ≤ 60) : mp_Ct E yX9_promises cX9_promises 5 (some FieldType.int) 2 0 0 43 [.ref a0, .int x0, .int x1, .int x2] [(mp_ob9 a0 a9 a1 a10 a11 a12 a13 a14 a15 a16), (mp_ob0 a1 a2 y0 a17 a18 a19 a20 a21 a22), (mp_ob7 a2 y1 y2 y3 y4 y5 y6 a23 a24 a25 a26 a27 a3 a4 a5 a6 a7 a8 a28), (mp_arI E a3 0 10 f0), (mp_arI E a4 0 10 f1), (mp_arI E a5 0 10 f2), (mp_arI E a6 0 10 f3), (mp_arI E a7 0 10 f4), (mp_arI E a8 0 10 f5)] (fun v w' => (v = some (.int (-2)) ∧ (x0.toInt < 0 ∨ y4.toInt ≤ x0.toInt ∨ x1.toInt < 0 ∨ y4.toInt ≤ x1.toInt ∨ x0.toInt = x1.toInt ∨ x2.toInt < 1 ∨ 1000000 < x2.toInt) ∧ w' = [(mp_ob9 a0 a9 a1 a10 a11 a12 a13 a14 a15 a16), (mp_ob0 a1 a2 y0 a17 a18 a19 a20 a21 a22), (mp_ob7 a2 y1 y2 y3 y4 y5 y6 a23 a24 a25 a26 a27 a3 a4 a5 a6 a7 a8 a28), (mp_arI E a3 0 10 f0), (mp_arI E a4 0 10 f1), (mp_arI E a5 0 10 f2), (mp_arI E a6 0 10 f3), (mp_arI E a7 0 10 f4), (mp_arI E a8 0 10 f5)]) ∨ (∃ r1 : Int32, ∃ h2 : Nat → Int32, ∃ h3 : Nat → Int32, ∃ h4 : Nat → Int32, ∃ h5 : Nat → Int32, ∃ h6 : Nat → Int32, ∃ h7 : Nat → Int32, ∃ r8 : Int32, v = some (.int r8) ∧ 0 ≤ x0.toInt ∧ x0.toInt < y4.toInt ∧ 0 ≤ x1.toInt ∧ x1.toInt < y4.toInt ∧ x0.toInt ≠ x1.toInt ∧ 1 ≤ x2.toInt ∧ x2.toInt ≤ 1000000 ∧ y6.toInt ≤ 0 ∧ y5.toInt < 10 ∧ 1 ≤ r1.toInt ∧ r1.toInt ≤ 10 ∧ 0 ≤ r8.toInt ∧ r8.toInt ≤ 9 ∧ mp_all h2 10 0 5 ∧ mp_all h3 10 0 5 ∧ mp_all h5 10 0 99 ∧ mp_all h6 10 0 1 ∧ mp_all h7 10 (-1) 9 ∧ (0 ≤ x0.toInt ∧ x0.toInt < y4.toInt ∧ 0 ≤ x1.toInt ∧ x1.toInt < y4.toInt ∧ x0.toInt ≠ x1.toInt ∧ 1 ≤ x2.toInt ∧ x2.toInt ≤ 1000000) ∧ (y6.toInt ≤ 0) ∧ (y5.toInt < 10) ∧ (r8.toInt = y5.toInt) ∧ (r1.toInt = y5.toInt + 1) ∧ (h2 = upd f0 y5.toInt.toNat x0) ∧ (h3 = upd f1 y5.toInt.toNat x1) ∧ (h4 = upd f2 y5.toInt.toNat x2) ∧ (h5 = upd f3 y5.toInt.toNat y0) ∧ (h6 = upd f4 y5.toInt.toNat 0) ∧ (h7 = upd f5 y5.toInt.toNat (-1)) ∧ w' = [(mp_ob9 a0 a9 a1 a10 a11 a12 a13 a14 a15 a16), (mp_ob0 a1 a2 y0 a17 a18 a19 a20 a21 a22), (mp_ob7 a2 y1 y2 y3 y4 r1 y6 a23 a24 a25 a26 a27 a3 a4 a5 a6 a7 a8 a28), (mp_arI E a3 0 10 h2), (mp_arI E a4 0 10 h3), (mp_arI E a5 0 10 h4), (mp_arI E a6 0 10 h5), (mp_arI E a7 0 10 h6), (mp_arI E a8 0 10 h7)]) ∨ (v = some (.int (-3)) ∧ 0 ≤ x0.toInt ∧ x0.toInt < y4.toInt ∧ 0 ≤ x1.toInt ∧ x1.toInt < y4.toInt ∧ x0.toInt ≠ x1.toInt ∧ 1 ≤ x2.toInt ∧ x2.toInt ≤ 1000000 ∧ y6.toInt ≤ 0 ∧ 10 ≤ y5.toInt ∧ (0 ≤ x0.toInt ∧ x0.toInt < y4.toInt ∧ 0 ≤ x1.toInt ∧ x1.toInt < y4.toInt ∧ x0.toInt ≠ x1.toInt ∧ 1 ≤ x2.toInt ∧ x2.toInt ≤ 1000000) ∧ (y6.toInt ≤ 0) ∧ (10 ≤ y5.toInt) ∧ w' = [(mp_ob9 a0 a9 a1 a10 a11 a12 a13 a14 a15 a16), (mp_ob0 a1 a2 y0 a17 a18 a19 a20 a21 a22), (mp_ob7 a2 y1 y2 y3 y4 y5 y6 a23 a24 a25 a26 a27 a3 a4 a5 a6 a7 a8 a28), (mp_arI E a3 0 10 f0), (mp_arI E a4 0 10 f1), (mp_arI E a5 0 10 f2), (mp_arI E a6 0 10 f3), (mp_arI E a7 0 10 f4), (mp_arI E a8 0 10 f5)]) ∨ (v = some (.int (-5)) ∧ 0 ≤ x0.toInt ∧ x0.toInt < y4.toInt ∧ 0 ≤ x1.toInt ∧ x1.toInt < y4.toInt ∧ x0.toInt ≠ x1.toInt ∧ 1 ≤ x2.toInt ∧ x2.toInt ≤ 1000000 ∧ 0 < y6.toInt ∧ (0 ≤ x0.toInt ∧ x0.toInt < y4.toInt ∧ 0 ≤ x1.toInt ∧ x1.toInt < y4.toInt ∧ x0.toInt ≠ x1.toInt ∧ 1 ≤ x2.toInt ∧ x2.toInt ≤ 1000000) ∧ (0 < y6.toInt) ∧ w' = [(mp_ob9 a0 a9 a1 a10 a11 a12 a13 a14 a15 a16), (mp_ob0 a1 a2 y0 a17 a18 a19 a20 a21 a22), (mp_ob7 a2 y1 y2 y3 y4 y5 y6 a23 a24 a25 a26 a27 a3 a4 a5 a6 a7 a8 a28), (mp_arI E a3 0 10 f0), (mp_arI E a4 0 10 f1), (mp_arI E a5 0 10 f2), (mp_arI E a6 0 10 f3), (mp_arI E a7 0 10 f4), (mp_arI E a8 0 10 f5)])) := by
  refine mp_met false (by decide) (by decide) (Nat.le_of_ble_eq_true rfl) (fun X hF hQ => ?_)
  have hF : mp_F E X (RX9, cX9_promises, 5, (2, 0, 0, 43), (some FieldType.int), false) := hF
  let w1_ : va_W := [(mp_ob9 a0 a9 a1 a10 a11 a12 a13 a14 a15 a16), (mp_ob0 a1 a2 y0 a17 a18 a19 a20 a21 a22), (mp_ob7 a2 y1 y2 y3 y4 y5 y6 a23 a24 a25 a26 a27 a3 a4 a5 a6 a7 a8 a28), (mp_arI E a3 0 10 f0), (mp_arI E a4 0 10 f1), (mp_arI E a5 0 10 f2), (mp_arI E a6 0 10 f3), (mp_arI E a7 0 10 f4), (mp_arI E a8 0 10 f5)]
  show mp_W E X 5 0 [(0, .ref a0), (1, .int x0), (2, .int x1), (3, .int x2)] [] w1_ 0 0
  refine mp_run mp_k_cX9_promises_ok hF mp_tabX9_ok [mp_i (.aload_n 0), mp_h (.getfield 19) [37, 0], mp_h (.getfield 83) [20, 1], mp_i (.astore 4), mp_i (.aload_n 0), mp_i (.iload_n 1), mp_i (.iload_n 2)] (by decide +kernel) ?_
  refine And.intro rfl (And.intro rfl ?_)
  refine And.intro rfl (And.intro rfl ?_)
  show mp_W E X 5 12 [(4, .ref a2), (0, .ref a0), (1, .int x0), (2, .int x1), (3, .int x2)] [.int x1, .int x0, .ref a0] w1_ 0 0
  refine mp_callV hF (As := [.int x0, .int x1]) (rest := []) (wr := [(mp_arI E a3 0 10 f0), (mp_arI E a4 0 10 f1), (mp_arI E a5 0 10 f2), (mp_arI E a6 0 10 f3), (mp_arI E a7 0 10 f4), (mp_arI E a8 0 10 f5)]) (bX9_arePair_69 E a0 a1 a2 a9 a10 a11 a12 a13 a14 a15 a16 a17 a18 a19 a20 a21 a22 a23 a24 a25 a26 a27 a3 a4 a5 a6 a7 a8 a28 y0 y1 y2 y3 y4 y5 y6 x0 x1 l_y0 u_y0 l_y2 u_y2 l_y3 u_y3 l_y4 u_y4 l_y5 u_y5 l_y6 u_y6) mp_lkX9_169 0 rfl [0, 1, 2] [3, 4, 5, 6, 7, 8] rfl rfl rfl rfl rfl ⟨(Nat.le_of_ble_eq_true rfl), (Nat.le_of_ble_eq_true rfl), (Nat.le_of_ble_eq_true rfl), (Nat.le_of_ble_eq_true rfl)⟩ (Nat.le_of_ble_eq_true rfl) (by first | exact mp_fd_ok mp_k_cX9_promises_ok (by decide +kernel) | decide +kernel) (fun v_1 w_2 h_3 => ?_)
  refine h_3.elim (fun q_11 => ?_) (fun q_12 => ?_)
  · skip
    refine q_11.elim fun e_13 q_14 => q_14.elim fun x_4 e_15 => ?_
    clear h_3 q_11 q_14
    subst e_13
    subst e_15
    let w2_ : va_W := [(mp_arI E a3 0 10 f0), (mp_arI E a4 0 10 f1), (mp_arI E a5 0 10 f2), (mp_arI E a6 0 10 f3), (mp_arI E a7 0 10 f4), (mp_arI E a8 0 10 f5), (mp_ob9 a0 a9 a1 a10 a11 a12 a13 a14 a15 a16), (mp_ob0 a1 a2 y0 a17 a18 a19 a20 a21 a22), (mp_ob7 a2 y1 y2 y3 y4 y5 y6 a23 a24 a25 a26 a27 a3 a4 a5 a6 a7 a8 a28)]
    show mp_W E X 5 15 [(4, .ref a2), (0, .ref a0), (1, .int x0), (2, .int x1), (3, .int x2)] [.int 0] w2_ 0 0
    refine mp_run mp_k_cX9_promises_ok hF mp_tabX9_ok [mp_h (.ifCond .eq 15) [30]] (by decide +kernel) ?_
    refine And.intro (fun _ => ?_) (fun c_16 => absurd c_16 (by decide))
    show mp_W E X 5 30 [(4, .ref a2), (0, .ref a0), (1, .int x0), (2, .int x1), (3, .int x2)] [] w2_ 0 0
    refine mp_run mp_k_cX9_promises_ok hF mp_tabX9_ok [mp_c (.bipush (-2)) (-2)] (by decide +kernel) ?_
    show mp_W E X 5 32 [(4, .ref a2), (0, .ref a0), (1, .int x0), (2, .int x1), (3, .int x2)] [.int (-2)] w2_ 0 0
    exact mp_iret hF hQ rfl rfl (Nat.le_of_ble_eq_true rfl) (Nat.le_of_ble_eq_true rfl) [6, 7, 8, 0, 1, 2, 3, 4, 5] (w' := w1_) rfl rfl (Or.inl ⟨rfl, (by first | (first | exact mp_o834 x_4 | omega) | decide | (have h8 : (0 : Int64).toInt = 0 := rfl; have h9 : (-1 : Int32).toInt = -1 := rfl; have h10 : (-2 : Int32).toInt = -2 := rfl; have h11 : (0 : Int32).toInt = 0 := rfl; have h12 : (1 : Int32).toInt = 1 := rfl; have h13 : (-5 : Int32).toInt = -5 := rfl; have h14 : (-3 : Int32).toInt = -3 := rfl; omega)), rfl⟩) (by first | exact mp_fd_ok mp_k_cX9_promises_ok (by decide +kernel) | decide +kernel)
  · skip
    refine q_12.elim fun e_17 q_18 => q_18.elim fun c_5 q_19 => q_19.elim fun c_6 q_20 => q_20.elim fun c_7 q_21 => q_21.elim fun c_8 q_22 => q_22.elim fun c_9 q_23 => q_23.elim fun x_10 e_24 => ?_
    clear h_3 q_12 q_18 q_19 q_20 q_21 q_22 q_23
    subst e_17
    subst e_24
    have c_5 : 0 ≤ x0.toInt := c_5
    have c_6 : x0.toInt < y4.toInt := c_6
    have c_7 : 0 ≤ x1.toInt := c_7
    have c_8 : x1.toInt < y4.toInt := c_8
    have c_9 : x0.toInt ≠ x1.toInt := c_9
    let w3_ : va_W := [(mp_arI E a3 0 10 f0), (mp_arI E a4 0 10 f1), (mp_arI E a5 0 10 f2), (mp_arI E a6 0 10 f3), (mp_arI E a7 0 10 f4), (mp_arI E a8 0 10 f5), (mp_ob9 a0 a9 a1 a10 a11 a12 a13 a14 a15 a16), (mp_ob0 a1 a2 y0 a17 a18 a19 a20 a21 a22), (mp_ob7 a2 y1 y2 y3 y4 y5 y6 a23 a24 a25 a26 a27 a3 a4 a5 a6 a7 a8 a28)]
    show mp_W E X 5 15 [(4, .ref a2), (0, .ref a0), (1, .int x0), (2, .int x1), (3, .int x2)] [.int 1] w3_ 0 0
    refine mp_run mp_k_cX9_promises_ok hF mp_tabX9_ok [mp_h (.ifCond .eq 15) [30]] (by decide +kernel) ?_
    refine And.intro (fun c_25 => absurd c_25 (by decide)) (fun _ => ?_)
    show mp_W E X 5 18 [(4, .ref a2), (0, .ref a0), (1, .int x0), (2, .int x1), (3, .int x2)] [] w3_ 0 0
    refine mp_run mp_k_cX9_promises_ok hF mp_tabX9_ok [mp_i (.iload_n 3), mp_c (.iconst 1) 1, mp_h (.if_icmp .lt 10) [30]] (by decide +kernel) ?_
    refine And.intro (fun c_26 => ?_) (fun c_26 => ?_)
    · have c_26 : x2.toInt < 1 := c_26
      show mp_W E X 5 30 [(4, .ref a2), (0, .ref a0), (1, .int x0), (2, .int x1), (3, .int x2)] [] w3_ 0 0
      refine mp_run mp_k_cX9_promises_ok hF mp_tabX9_ok [mp_c (.bipush (-2)) (-2)] (by decide +kernel) ?_
      show mp_W E X 5 32 [(4, .ref a2), (0, .ref a0), (1, .int x0), (2, .int x1), (3, .int x2)] [.int (-2)] w3_ 0 0
      exact mp_iret hF hQ rfl rfl (Nat.le_of_ble_eq_true rfl) (Nat.le_of_ble_eq_true rfl) [6, 7, 8, 0, 1, 2, 3, 4, 5] (w' := w1_) rfl rfl (Or.inl ⟨rfl, (by first | (first | exact mp_o835 c_26 | omega) | decide | (have h8 : (0 : Int64).toInt = 0 := rfl; have h9 : (-1 : Int32).toInt = -1 := rfl; have h10 : (-2 : Int32).toInt = -2 := rfl; have h11 : (0 : Int32).toInt = 0 := rfl; have h12 : (1 : Int32).toInt = 1 := rfl; have h13 : (-5 : Int32).toInt = -5 := rfl; have h14 : (-3 : Int32).toInt = -3 := rfl; omega)), rfl⟩) (by first | exact mp_fd_ok mp_k_cX9_promises_ok (by decide +kernel) | decide +kernel)
    · have c_26 : 1 ≤ x2.toInt := c_26
      show mp_W E X 5 23 [(4, .ref a2), (0, .ref a0), (1, .int x0), (2, .int x1), (3, .int x2)] [] w3_ 0 0
      refine mp_run mp_k_cX9_promises_ok hF mp_tabX9_ok [mp_i (.iload_n 3), mp_c (.ldc_w 328) 1000000, mp_h (.if_icmp .le 6) [33]] (by decide +kernel) ?_
      refine And.intro (fun c_27 => ?_) (fun c_27 => ?_)
      · have c_27 : x2.toInt ≤ 1000000 := c_27
        show mp_W E X 5 33 [(4, .ref a2), (0, .ref a0), (1, .int x0), (2, .int x1), (3, .int x2)] [] w3_ 0 0
        refine mp_run mp_k_cX9_promises_ok hF mp_tabX9_ok [mp_i (.aload 4), mp_h (.getfield 214) [5, 8], mp_h (.ifCond .le 6) [44]] (by decide +kernel) ?_
        refine And.intro rfl (And.intro rfl ?_)
        refine And.intro (fun c_28 => ?_) (fun c_28 => ?_)
        · have c_28 : y6.toInt ≤ 0 := c_28
          show mp_W E X 5 44 [(4, .ref a2), (0, .ref a0), (1, .int x0), (2, .int x1), (3, .int x2)] [] w3_ 0 0
          refine mp_run mp_k_cX9_promises_ok hF mp_tabX9_ok [mp_i (.aload 4), mp_h (.getfield 196) [4, 8], mp_c (.bipush 10) 10, mp_h (.if_icmp .lt 6) [57]] (by decide +kernel) ?_
          refine And.intro rfl (And.intro rfl ?_)
          refine And.intro (fun c_29 => ?_) (fun c_29 => ?_)
          · have c_29 : y5.toInt < 10 := c_29
            show mp_W E X 5 57 [(4, .ref a2), (0, .ref a0), (1, .int x0), (2, .int x1), (3, .int x2)] [] w3_ 0 0
            refine mp_run mp_k_cX9_promises_ok hF mp_tabX9_ok [mp_i (.aload 4), mp_i (.iload_n 1), mp_i (.iload_n 2), mp_i (.iload_n 3), mp_i (.aload_n 0), mp_h (.getfield 19) [37, 6], mp_h (.getfield 166) [21, 7]] (by decide +kernel) ?_
            refine And.intro rfl (And.intro rfl ?_)
            refine And.intro rfl (And.intro rfl ?_)
            show mp_W E X 5 69 [(4, .ref a2), (0, .ref a0), (1, .int x0), (2, .int x1), (3, .int x2)] [.int y0, .int x2, .int x1, .int x0, .ref a2] w3_ 0 0
            refine mp_callV hF (As := [.int x0, .int x1, .int x2, .int y0]) (rest := []) (wr := [(mp_ob9 a0 a9 a1 a10 a11 a12 a13 a14 a15 a16), (mp_ob0 a1 a2 y0 a17 a18 a19 a20 a21 a22)]) (bX7_addPromise_28 E a2 a3 a4 a5 a6 a7 a8 a23 a24 a25 a26 a27 a28 f0 f1 f2 f3 f4 f5 y1 y2 y3 y4 y5 y6 x0 x1 x2 y0 p0 p1 p2 p3 p4 (by (first | exact c_5 | omega)) (by (first | exact mp_o398 u_y4 c_6 | omega)) (by (first | exact c_7 | omega)) (by (first | exact mp_o398 u_y4 c_8 | omega)) l_y0 u_y0 l_y2 u_y2 l_y3 u_y3 l_y4 u_y4 l_y5 (by (first | exact mp_o199 c_29 | omega)) l_y6 u_y6) mp_lkX9_329 8 rfl [8, 0, 1, 2, 3, 4, 5] [6, 7] rfl rfl rfl rfl rfl ⟨(Nat.le_of_ble_eq_true rfl), (Nat.le_of_ble_eq_true rfl), (Nat.le_of_ble_eq_true rfl), (Nat.le_of_ble_eq_true rfl)⟩ (Nat.le_of_ble_eq_true rfl) (by first | exact mp_fd_ok mp_k_cX9_promises_ok (by decide +kernel) | decide +kernel) (fun v_30 w_31 h_32 => ?_)
            refine h_32.elim fun r_33 q_54 => q_54.elim fun g_34 q_55 => q_55.elim fun g_35 q_56 => q_56.elim fun g_36 q_57 => q_57.elim fun g_37 q_58 => q_58.elim fun g_38 q_59 => q_59.elim fun g_39 q_60 => q_60.elim fun e_61 q_62 => q_62.elim fun l_40 q_63 => q_63.elim fun u_41 q_64 => q_64.elim fun p_42 q_65 => q_65.elim fun p_43 q_66 => q_66.elim fun p_44 q_67 => q_67.elim fun p_45 q_68 => q_68.elim fun p_46 q_69 => q_69.elim fun x_47 q_70 => q_70.elim fun x_48 q_71 => q_71.elim fun x_49 q_72 => q_72.elim fun x_50 q_73 => q_73.elim fun x_51 q_74 => q_74.elim fun x_52 q_75 => q_75.elim fun x_53 e_76 => ?_
            clear h_32 q_54 q_55 q_56 q_57 q_58 q_59 q_60 q_62 q_63 q_64 q_65 q_66 q_67 q_68 q_69 q_70 q_71 q_72 q_73 q_74 q_75
            subst e_61
            subst e_76
            let w4_ : va_W := [(mp_ob9 a0 a9 a1 a10 a11 a12 a13 a14 a15 a16), (mp_ob0 a1 a2 y0 a17 a18 a19 a20 a21 a22), (mp_ob7 a2 y1 y2 y3 y4 r_33 y6 a23 a24 a25 a26 a27 a3 a4 a5 a6 a7 a8 a28), (mp_arI E a3 0 10 g_34), (mp_arI E a4 0 10 g_35), (mp_arI E a5 0 10 g_36), (mp_arI E a6 0 10 g_37), (mp_arI E a7 0 10 g_38), (mp_arI E a8 0 10 g_39)]
            show mp_W E X 5 72 [(4, .ref a2), (0, .ref a0), (1, .int x0), (2, .int x1), (3, .int x2)] [] w4_ 0 0
            refine mp_run mp_k_cX9_promises_ok hF mp_tabX9_ok [mp_i (.aload 4), mp_h (.getfield 196) [4, 2], mp_c (.iconst 1) 1, mp_i .isub] (by decide +kernel) ?_
            refine And.intro rfl (And.intro rfl ?_)
            intro z_77 h_78
            have e_79 : z_77.toInt = r_33.toInt - 1 := mp_subi (a := r_33.toInt) (b := 1) h_78 rfl (by decide) (by (first | exact mp_o836 l_y5 x_53 | omega)) (by (first | exact mp_o837 c_29 x_53 | omega))
            show mp_W E X 5 79 [(4, .ref a2), (0, .ref a0), (1, .int x0), (2, .int x1), (3, .int x2)] [.int z_77] w4_ 0 0
            exact mp_iret hF hQ rfl rfl (Nat.le_of_ble_eq_true rfl) (Nat.le_of_ble_eq_true rfl) [0, 1, 2, 3, 4, 5, 6, 7, 8] (w' := w4_) rfl rfl (Or.inr (Or.inl ⟨r_33, g_34, g_35, g_36, g_37, g_38, g_39, z_77, rfl, (by first | (first | exact c_5 | omega) | decide), (by first | (first | exact c_6 | omega) | decide), (by first | (first | exact c_7 | omega) | decide), (by first | (first | exact c_8 | omega) | decide), (by first | (first | exact c_9 | omega) | decide), (by first | (first | exact c_26 | omega) | decide), (by first | (first | exact c_27 | omega) | decide), (by first | (first | exact c_28 | omega) | decide), (by first | (first | exact c_29 | omega) | decide), l_40, u_41, (by (first | exact mp_o838 l_y5 x_53 e_79 | omega)), (by (first | exact mp_o839 c_29 x_53 e_79 | omega)), p_42, p_43, p_44, p_45, p_46, (by first | (first | exact mp_o840 c_5 c_7 c_26 c_6 c_9 c_8 c_27 | omega) | decide | (have h8 : (0 : Int64).toInt = 0 := rfl; have h9 : (-1 : Int32).toInt = -1 := rfl; have h10 : (-2 : Int32).toInt = -2 := rfl; have h11 : (0 : Int32).toInt = 0 := rfl; have h12 : (1 : Int32).toInt = 1 := rfl; have h13 : (-5 : Int32).toInt = -5 := rfl; have h14 : (-3 : Int32).toInt = -3 := rfl; omega)), (by first | (first | exact c_28 | omega) | decide | (have h8 : (0 : Int64).toInt = 0 := rfl; have h9 : (-1 : Int32).toInt = -1 := rfl; have h10 : (-2 : Int32).toInt = -2 := rfl; have h11 : (0 : Int32).toInt = 0 := rfl; have h12 : (1 : Int32).toInt = 1 := rfl; have h13 : (-5 : Int32).toInt = -5 := rfl; have h14 : (-3 : Int32).toInt = -3 := rfl; omega)), (by first | (first | exact c_29 | omega) | decide | (have h8 : (0 : Int64).toInt = 0 := rfl; have h9 : (-1 : Int32).toInt = -1 := rfl; have h10 : (-2 : Int32).toInt = -2 := rfl; have h11 : (0 : Int32).toInt = 0 := rfl; have h12 : (1 : Int32).toInt = 1 := rfl; have h13 : (-5 : Int32).toInt = -5 := rfl; have h14 : (-3 : Int32).toInt = -3 := rfl; omega)), (by first | (first | exact mp_o841 x_53 e_79 | omega) | decide | (have h8 : (0 : Int64).toInt = 0 := rfl; have h9 : (-1 : Int32).toInt = -1 := rfl; have h10 : (-2 : Int32).toInt = -2 := rfl; have h11 : (0 : Int32).toInt = 0 := rfl; have h12 : (1 : Int32).toInt = 1 := rfl; have h13 : (-5 : Int32).toInt = -5 := rfl; have h14 : (-3 : Int32).toInt = -3 := rfl; omega)), (by first | (first | exact x_53 | omega) | decide | (have h8 : (0 : Int64).toInt = 0 := rfl; have h9 : (-1 : Int32).toInt = -1 := rfl; have h10 : (-2 : Int32).toInt = -2 := rfl; have h11 : (0 : Int32).toInt = 0 := rfl; have h12 : (1 : Int32).toInt = 1 := rfl; have h13 : (-5 : Int32).toInt = -5 := rfl; have h14 : (-3 : Int32).toInt = -3 := rfl; omega)), x_47, x_48, x_49, x_50, x_51, x_52, rfl⟩)) (by first | exact mp_fd_ok mp_k_cX9_promises_ok (by decide +kernel) | decide +kernel)
          · have c_29 : 10 ≤ y5.toInt := c_29
            show mp_W E X 5 54 [(4, .ref a2), (0, .ref a0), (1, .int x0), (2, .int x1), (3, .int x2)] [] w3_ 0 0
            refine mp_run mp_k_cX9_promises_ok hF mp_tabX9_ok [mp_c (.bipush (-3)) (-3)] (by decide +kernel) ?_
            show mp_W E X 5 56 [(4, .ref a2), (0, .ref a0), (1, .int x0), (2, .int x1), (3, .int x2)] [.int (-3)] w3_ 0 0
            exact mp_iret hF hQ rfl rfl (Nat.le_of_ble_eq_true rfl) (Nat.le_of_ble_eq_true rfl) [6, 7, 8, 0, 1, 2, 3, 4, 5] (w' := w1_) rfl rfl (Or.inr (Or.inr (Or.inl ⟨rfl, (by first | (first | exact c_5 | omega) | decide), (by first | (first | exact c_6 | omega) | decide), (by first | (first | exact c_7 | omega) | decide), (by first | (first | exact c_8 | omega) | decide), (by first | (first | exact c_9 | omega) | decide), (by first | (first | exact c_26 | omega) | decide), (by first | (first | exact c_27 | omega) | decide), (by first | (first | exact c_28 | omega) | decide), (by first | (first | exact c_29 | omega) | decide), (by first | (first | exact mp_o840 c_5 c_7 c_26 c_6 c_9 c_8 c_27 | omega) | decide | (have h8 : (0 : Int64).toInt = 0 := rfl; have h9 : (-1 : Int32).toInt = -1 := rfl; have h10 : (-2 : Int32).toInt = -2 := rfl; have h11 : (0 : Int32).toInt = 0 := rfl; have h12 : (1 : Int32).toInt = 1 := rfl; have h13 : (-5 : Int32).toInt = -5 := rfl; have h14 : (-3 : Int32).toInt = -3 := rfl; omega)), (by first | (first | exact c_28 | omega) | decide | (have h8 : (0 : Int64).toInt = 0 := rfl; have h9 : (-1 : Int32).toInt = -1 := rfl; have h10 : (-2 : Int32).toInt = -2 := rfl; have h11 : (0 : Int32).toInt = 0 := rfl; have h12 : (1 : Int32).toInt = 1 := rfl; have h13 : (-5 : Int32).toInt = -5 := rfl; have h14 : (-3 : Int32).toInt = -3 := rfl; omega)), (by first | (first | exact c_29 | omega) | decide | (have h8 : (0 : Int64).toInt = 0 := rfl; have h9 : (-1 : Int32).toInt = -1 := rfl; have h10 : (-2 : Int32).toInt = -2 := rfl; have h11 : (0 : Int32).toInt = 0 := rfl; have h12 : (1 : Int32).toInt = 1 := rfl; have h13 : (-5 : Int32).toInt = -5 := rfl; have h14 : (-3 : Int32).toInt = -3 := rfl; omega)), rfl⟩))) (by first | exact mp_fd_ok mp_k_cX9_promises_ok (by decide +kernel) | decide +kernel)
        · have c_28 : 0 < y6.toInt := c_28
          show mp_W E X 5 41 [(4, .ref a2), (0, .ref a0), (1, .int x0), (2, .int x1), (3, .int x2)] [] w3_ 0 0
          refine mp_run mp_k_cX9_promises_ok hF mp_tabX9_ok [mp_c (.bipush (-5)) (-5)] (by decide +kernel) ?_
          show mp_W E X 5 43 [(4, .ref a2), (0, .ref a0), (1, .int x0), (2, .int x1), (3, .int x2)] [.int (-5)] w3_ 0 0
          exact mp_iret hF hQ rfl rfl (Nat.le_of_ble_eq_true rfl) (Nat.le_of_ble_eq_true rfl) [6, 7, 8, 0, 1, 2, 3, 4, 5] (w' := w1_) rfl rfl (Or.inr (Or.inr (Or.inr ⟨rfl, (by first | (first | exact c_5 | omega) | decide), (by first | (first | exact c_6 | omega) | decide), (by first | (first | exact c_7 | omega) | decide), (by first | (first | exact c_8 | omega) | decide), (by first | (first | exact c_9 | omega) | decide), (by first | (first | exact c_26 | omega) | decide), (by first | (first | exact c_27 | omega) | decide), (by first | (first | exact c_28 | omega) | decide), (by first | (first | exact mp_o840 c_5 c_7 c_26 c_6 c_9 c_8 c_27 | omega) | decide | (have h8 : (0 : Int64).toInt = 0 := rfl; have h9 : (-1 : Int32).toInt = -1 := rfl; have h10 : (-2 : Int32).toInt = -2 := rfl; have h11 : (0 : Int32).toInt = 0 := rfl; have h12 : (1 : Int32).toInt = 1 := rfl; have h13 : (-5 : Int32).toInt = -5 := rfl; have h14 : (-3 : Int32).toInt = -3 := rfl; omega)), (by first | (first | exact c_28 | omega) | decide | (have h8 : (0 : Int64).toInt = 0 := rfl; have h9 : (-1 : Int32).toInt = -1 := rfl; have h10 : (-2 : Int32).toInt = -2 := rfl; have h11 : (0 : Int32).toInt = 0 := rfl; have h12 : (1 : Int32).toInt = 1 := rfl; have h13 : (-5 : Int32).toInt = -5 := rfl; have h14 : (-3 : Int32).toInt = -3 := rfl; omega)), rfl⟩))) (by first | exact mp_fd_ok mp_k_cX9_promises_ok (by decide +kernel) | decide +kernel)
      · have c_27 : 1000000 < x2.toInt := c_27
        show mp_W E X 5 30 [(4, .ref a2), (0, .ref a0), (1, .int x0), (2, .int x1), (3, .int x2)] [] w3_ 0 0
        refine mp_run mp_k_cX9_promises_ok hF mp_tabX9_ok [mp_c (.bipush (-2)) (-2)] (by decide +kernel) ?_
        show mp_W E X 5 32 [(4, .ref a2), (0, .ref a0), (1, .int x0), (2, .int x1), (3, .int x2)] [.int (-2)] w3_ 0 0
        exact mp_iret hF hQ rfl rfl (Nat.le_of_ble_eq_true rfl) (Nat.le_of_ble_eq_true rfl) [6, 7, 8, 0, 1, 2, 3, 4, 5] (w' := w1_) rfl rfl (Or.inl ⟨rfl, (by first | (first | exact mp_o842 c_27 | omega) | decide | (have h8 : (0 : Int64).toInt = 0 := rfl; have h9 : (-1 : Int32).toInt = -1 := rfl; have h10 : (-2 : Int32).toInt = -2 := rfl; have h11 : (0 : Int32).toInt = 0 := rfl; have h12 : (1 : Int32).toInt = 1 := rfl; have h13 : (-5 : Int32).toInt = -5 := rfl; have h14 : (-3 : Int32).toInt = -3 := rfl; omega)), rfl⟩) (by first | exact mp_fd_ok mp_k_cX9_promises_ok (by decide +kernel) | decide +kernel)
set_option maxHeartbeats 4000000 in
set_option maxRecDepth 100000 in
theorem bX9_shuts_172 (E : mp_E) (a0 a1 a2 a3 a4 a5 a6 a7 a8 a9 a10 a11 a12 a13 a14 a15 a16 a17 a18 a19 a20 a21 a22 a23 a24 a25 a26 a27 a28 : Nat) (f0 : Nat → Int64) (y0 : Int32) (y1 : Int32) (y2 : Int32) (y3 : Int32) (y4 : Int32) (y5 : Int32) (y6 : Int32) (x0 : Int32) (x1 : Int32) (x2 : Int32) (l_y0 : 0 ≤ y0.toInt) (u_y0 : y0.toInt ≤ 99) (l_y2 : 0 ≤ y2.toInt) (u_y2 : y2.toInt ≤ 6) (l_y3 : 0 ≤ y3.toInt) (u_y3 : y3.toInt ≤ 99) (l_y4 : 0 ≤ y4.toInt) (u_y4 : y4.toInt ≤ 6) (l_y5 : 0 ≤ y5.toInt) (u_y5 : y5.toInt ≤ 10) (l_y6 : 0 ≤ y6.toInt) (u_y6 : y6.toInt ≤ 60) : mp_Ct E yX9_shuts cX9_shuts 6 (some FieldType.int) 1 0 0 26 [.ref a0, .int x0, .int x1, .int x2] [(mp_ob9 a0 a4 a1 a5 a6 a7 a8 a9 a10 a11), (mp_ob0 a1 a2 y0 a12 a13 a14 a15 a16 a17), (mp_ob7 a2 y1 y2 y3 y4 y5 y6 a18 a3 a19 a20 a21 a22 a23 a24 a25 a26 a27 a28), (mp_arL E a3 12 f0)] (fun v w' => (v = some (.int (-2)) ∧ (x0.toInt < 0 ∨ y2.toInt ≤ x0.toInt ∨ x1.toInt < 0 ∨ 99 < x1.toInt ∨ x2.toInt < 0 ∨ 1 < x2.toInt) ∧ w' = [(mp_ob9 a0 a4 a1 a5 a6 a7 a8 a9 a10 a11), (mp_ob0 a1 a2 y0 a12 a13 a14 a15 a16 a17), (mp_ob7 a2 y1 y2 y3 y4 y5 y6 a18 a3 a19 a20 a21 a22 a23 a24 a25 a26 a27 a28), (mp_arL E a3 12 f0)]) ∨ (∃ h1 : Nat → Int64, ∃ r2 : Int32, v = some (.int r2) ∧ 0 ≤ x0.toInt ∧ x0.toInt < y2.toInt ∧ 0 ≤ x1.toInt ∧ x1.toInt ≤ 99 ∧ 0 ≤ x2.toInt ∧ x2.toInt ≤ 1 ∧ y6.toInt ≤ 0 ∧ 0 ≤ r2.toInt ∧ r2.toInt ≤ 1 ∧ (0 ≤ x0.toInt ∧ x0.toInt < y2.toInt ∧ 0 ≤ x1.toInt ∧ x1.toInt ≤ 99 ∧ 0 ≤ x2.toInt ∧ x2.toInt ≤ 1) ∧ (y6.toInt ≤ 0) ∧ ((mp_shb f0 (100 * x0.toInt + x1.toInt).toNat = true ∧ r2.toInt = 1) ∨ (mp_shb f0 (100 * x0.toInt + x1.toInt).toNat = false ∧ r2.toInt = 0)) ∧ (mp_shb h1 = fun j => if j = (100 * x0.toInt + x1.toInt).toNat then decide (x2.toInt = 1) else mp_shb f0 j) ∧ w' = [(mp_ob9 a0 a4 a1 a5 a6 a7 a8 a9 a10 a11), (mp_ob0 a1 a2 y0 a12 a13 a14 a15 a16 a17), (mp_ob7 a2 y1 y2 y3 y4 y5 y6 a18 a3 a19 a20 a21 a22 a23 a24 a25 a26 a27 a28), (mp_arL E a3 12 h1)]) ∨ (v = some (.int (-5)) ∧ 0 ≤ x0.toInt ∧ x0.toInt < y2.toInt ∧ 0 ≤ x1.toInt ∧ x1.toInt ≤ 99 ∧ 0 ≤ x2.toInt ∧ x2.toInt ≤ 1 ∧ 0 < y6.toInt ∧ (0 ≤ x0.toInt ∧ x0.toInt < y2.toInt ∧ 0 ≤ x1.toInt ∧ x1.toInt ≤ 99 ∧ 0 ≤ x2.toInt ∧ x2.toInt ≤ 1) ∧ (0 < y6.toInt) ∧ w' = [(mp_ob9 a0 a4 a1 a5 a6 a7 a8 a9 a10 a11), (mp_ob0 a1 a2 y0 a12 a13 a14 a15 a16 a17), (mp_ob7 a2 y1 y2 y3 y4 y5 y6 a18 a3 a19 a20 a21 a22 a23 a24 a25 a26 a27 a28), (mp_arL E a3 12 f0)])) := by
  refine mp_met false (by decide) (by decide) (Nat.le_of_ble_eq_true rfl) (fun X hF hQ => ?_)
  have hF : mp_F E X (RX9, cX9_shuts, 6, (1, 0, 0, 26), (some FieldType.int), false) := hF
  let w1_ : va_W := [(mp_ob9 a0 a4 a1 a5 a6 a7 a8 a9 a10 a11), (mp_ob0 a1 a2 y0 a12 a13 a14 a15 a16 a17), (mp_ob7 a2 y1 y2 y3 y4 y5 y6 a18 a3 a19 a20 a21 a22 a23 a24 a25 a26 a27 a28), (mp_arL E a3 12 f0)]
  show mp_W E X 6 0 [(0, .ref a0), (1, .int x0), (2, .int x1), (3, .int x2)] [] w1_ 0 0
  refine mp_run mp_k_cX9_shuts_ok hF mp_tabX9_ok [mp_i (.aload_n 0), mp_h (.getfield 19) [37, 0], mp_h (.getfield 83) [20, 1], mp_i (.astore 4), mp_i (.aload 4), mp_i (.iload_n 1)] (by decide +kernel) ?_
  refine And.intro rfl (And.intro rfl ?_)
  refine And.intro rfl (And.intro rfl ?_)
  show mp_W E X 6 12 [(4, .ref a2), (0, .ref a0), (1, .int x0), (2, .int x1), (3, .int x2)] [.int x0, .ref a2] w1_ 0 0
  refine mp_callV hF (As := [.int x0]) (rest := []) (wr := [(mp_ob9 a0 a4 a1 a5 a6 a7 a8 a9 a10 a11), (mp_ob0 a1 a2 y0 a12 a13 a14 a15 a16 a17), (mp_arL E a3 12 f0)]) (bX7_isIsle_55 E a2 a18 a3 a19 a20 a21 a22 a23 a24 a25 a26 a27 a28 y1 y2 y3 y4 y5 y6 x0 l_y2 u_y2 l_y3 u_y3 l_y4 u_y4 l_y5 u_y5 l_y6 u_y6) mp_lkX9_141 2 rfl [2] [0, 1, 3] rfl rfl rfl rfl rfl ⟨(Nat.le_of_ble_eq_true rfl), (Nat.le_of_ble_eq_true rfl), (Nat.le_of_ble_eq_true rfl), (Nat.le_of_ble_eq_true rfl)⟩ (Nat.le_of_ble_eq_true rfl) (by first | exact mp_fd_ok mp_k_cX9_shuts_ok (by decide +kernel) | decide +kernel) (fun v_1 w_2 h_3 => ?_)
  rcases h_3 with ⟨rfl, x_4, rfl⟩ | ⟨rfl, c_5, c_6, x_7, rfl⟩
  · skip
    let w2_ : va_W := [(mp_ob9 a0 a4 a1 a5 a6 a7 a8 a9 a10 a11), (mp_ob0 a1 a2 y0 a12 a13 a14 a15 a16 a17), (mp_arL E a3 12 f0), (mp_ob7 a2 y1 y2 y3 y4 y5 y6 a18 a3 a19 a20 a21 a22 a23 a24 a25 a26 a27 a28)]
    show mp_W E X 6 15 [(4, .ref a2), (0, .ref a0), (1, .int x0), (2, .int x1), (3, .int x2)] [.int 0] w2_ 0 0
    refine mp_run mp_k_cX9_shuts_ok hF mp_tabX9_ok [mp_h (.ifCond .eq 19) [34]] (by decide +kernel) ?_
    refine And.intro (fun _ => ?_) (fun c_8 => absurd c_8 (by decide))
    show mp_W E X 6 34 [(4, .ref a2), (0, .ref a0), (1, .int x0), (2, .int x1), (3, .int x2)] [] w2_ 0 0
    refine mp_run mp_k_cX9_shuts_ok hF mp_tabX9_ok [mp_c (.bipush (-2)) (-2)] (by decide +kernel) ?_
    show mp_W E X 6 36 [(4, .ref a2), (0, .ref a0), (1, .int x0), (2, .int x1), (3, .int x2)] [.int (-2)] w2_ 0 0
    exact mp_iret hF hQ rfl rfl (Nat.le_of_ble_eq_true rfl) (Nat.le_of_ble_eq_true rfl) [0, 1, 3, 2] (w' := w1_) rfl rfl (Or.inl ⟨rfl, (by first | (first | exact mp_o843 x_4 | omega) | decide | (have h8 : (0 : Int64).toInt = 0 := rfl; have h9 : (-1 : Int32).toInt = -1 := rfl; have h10 : (-2 : Int32).toInt = -2 := rfl; have h11 : (0 : Int32).toInt = 0 := rfl; have h12 : (1 : Int32).toInt = 1 := rfl; have h13 : (-5 : Int32).toInt = -5 := rfl; have h14 : (-3 : Int32).toInt = -3 := rfl; omega)), rfl⟩) (by first | exact mp_fd_ok mp_k_cX9_shuts_ok (by decide +kernel) | decide +kernel)
  · skip
    have c_5 : 0 ≤ x0.toInt := c_5
    have c_6 : x0.toInt < y2.toInt := c_6
    let w3_ : va_W := [(mp_ob9 a0 a4 a1 a5 a6 a7 a8 a9 a10 a11), (mp_ob0 a1 a2 y0 a12 a13 a14 a15 a16 a17), (mp_arL E a3 12 f0), (mp_ob7 a2 y1 y2 y3 y4 y5 y6 a18 a3 a19 a20 a21 a22 a23 a24 a25 a26 a27 a28)]
    show mp_W E X 6 15 [(4, .ref a2), (0, .ref a0), (1, .int x0), (2, .int x1), (3, .int x2)] [.int 1] w3_ 0 0
    refine mp_run mp_k_cX9_shuts_ok hF mp_tabX9_ok [mp_h (.ifCond .eq 19) [34]] (by decide +kernel) ?_
    refine And.intro (fun c_9 => absurd c_9 (by decide)) (fun _ => ?_)
    show mp_W E X 6 18 [(4, .ref a2), (0, .ref a0), (1, .int x0), (2, .int x1), (3, .int x2)] [] w3_ 0 0
    refine mp_run mp_k_cX9_shuts_ok hF mp_tabX9_ok [mp_i (.iload_n 2)] (by decide +kernel) ?_
    show mp_W E X 6 19 [(4, .ref a2), (0, .ref a0), (1, .int x0), (2, .int x1), (3, .int x2)] [.int x1] w3_ 0 0
    refine mp_callS hF (As := [.int x1]) (rest := []) (wr := w3_) (bX9_isMoon_57 E x1) mp_lkX9_148 [] [0, 1, 2, 3] rfl rfl rfl rfl rfl ⟨(Nat.le_of_ble_eq_true rfl), (Nat.le_of_ble_eq_true rfl), (Nat.le_of_ble_eq_true rfl), (Nat.le_of_ble_eq_true rfl)⟩ (Nat.le_of_ble_eq_true rfl) (by first | exact mp_fd_ok mp_k_cX9_shuts_ok (by decide +kernel) | decide +kernel) (fun v_10 w_11 h_12 => ?_)
    rcases h_12 with ⟨rfl, x_13, rfl⟩ | ⟨rfl, c_14, c_15, x_16, rfl⟩
    · skip
      show mp_W E X 6 22 [(4, .ref a2), (0, .ref a0), (1, .int x0), (2, .int x1), (3, .int x2)] [.int 0] w3_ 0 0
      refine mp_run mp_k_cX9_shuts_ok hF mp_tabX9_ok [mp_h (.ifCond .eq 12) [34]] (by decide +kernel) ?_
      refine And.intro (fun _ => ?_) (fun c_17 => absurd c_17 (by decide))
      show mp_W E X 6 34 [(4, .ref a2), (0, .ref a0), (1, .int x0), (2, .int x1), (3, .int x2)] [] w3_ 0 0
      refine mp_run mp_k_cX9_shuts_ok hF mp_tabX9_ok [mp_c (.bipush (-2)) (-2)] (by decide +kernel) ?_
      show mp_W E X 6 36 [(4, .ref a2), (0, .ref a0), (1, .int x0), (2, .int x1), (3, .int x2)] [.int (-2)] w3_ 0 0
      exact mp_iret hF hQ rfl rfl (Nat.le_of_ble_eq_true rfl) (Nat.le_of_ble_eq_true rfl) [0, 1, 3, 2] (w' := w1_) rfl rfl (Or.inl ⟨rfl, (by first | (first | exact mp_o844 x_13 | omega) | decide | (have h8 : (0 : Int64).toInt = 0 := rfl; have h9 : (-1 : Int32).toInt = -1 := rfl; have h10 : (-2 : Int32).toInt = -2 := rfl; have h11 : (0 : Int32).toInt = 0 := rfl; have h12 : (1 : Int32).toInt = 1 := rfl; have h13 : (-5 : Int32).toInt = -5 := rfl; have h14 : (-3 : Int32).toInt = -3 := rfl; omega)), rfl⟩) (by first | exact mp_fd_ok mp_k_cX9_shuts_ok (by decide +kernel) | decide +kernel)
    · skip
      have c_14 : 0 ≤ x1.toInt := c_14
      have c_15 : x1.toInt ≤ 99 := c_15
      show mp_W E X 6 22 [(4, .ref a2), (0, .ref a0), (1, .int x0), (2, .int x1), (3, .int x2)] [.int 1] w3_ 0 0
      refine mp_run mp_k_cX9_shuts_ok hF mp_tabX9_ok [mp_h (.ifCond .eq 12) [34]] (by decide +kernel) ?_
      refine And.intro (fun c_18 => absurd c_18 (by decide)) (fun _ => ?_)
      show mp_W E X 6 25 [(4, .ref a2), (0, .ref a0), (1, .int x0), (2, .int x1), (3, .int x2)] [] w3_ 0 0
      refine mp_run mp_k_cX9_shuts_ok hF mp_tabX9_ok [mp_i (.iload_n 3), mp_h (.ifCond .lt 8) [34]] (by decide +kernel) ?_
      refine And.intro (fun c_19 => ?_) (fun c_19 => ?_)
      · have c_19 : x2.toInt < 0 := c_19
        show mp_W E X 6 34 [(4, .ref a2), (0, .ref a0), (1, .int x0), (2, .int x1), (3, .int x2)] [] w3_ 0 0
        refine mp_run mp_k_cX9_shuts_ok hF mp_tabX9_ok [mp_c (.bipush (-2)) (-2)] (by decide +kernel) ?_
        show mp_W E X 6 36 [(4, .ref a2), (0, .ref a0), (1, .int x0), (2, .int x1), (3, .int x2)] [.int (-2)] w3_ 0 0
        exact mp_iret hF hQ rfl rfl (Nat.le_of_ble_eq_true rfl) (Nat.le_of_ble_eq_true rfl) [0, 1, 3, 2] (w' := w1_) rfl rfl (Or.inl ⟨rfl, (by first | (first | exact mp_o845 c_19 | omega) | decide | (have h8 : (0 : Int64).toInt = 0 := rfl; have h9 : (-1 : Int32).toInt = -1 := rfl; have h10 : (-2 : Int32).toInt = -2 := rfl; have h11 : (0 : Int32).toInt = 0 := rfl; have h12 : (1 : Int32).toInt = 1 := rfl; have h13 : (-5 : Int32).toInt = -5 := rfl; have h14 : (-3 : Int32).toInt = -3 := rfl; omega)), rfl⟩) (by first | exact mp_fd_ok mp_k_cX9_shuts_ok (by decide +kernel) | decide +kernel)
      · have c_19 : 0 ≤ x2.toInt := c_19
        show mp_W E X 6 29 [(4, .ref a2), (0, .ref a0), (1, .int x0), (2, .int x1), (3, .int x2)] [] w3_ 0 0
        refine mp_run mp_k_cX9_shuts_ok hF mp_tabX9_ok [mp_i (.iload_n 3), mp_c (.iconst 1) 1, mp_h (.if_icmp .le 6) [37]] (by decide +kernel) ?_
        refine And.intro (fun c_20 => ?_) (fun c_20 => ?_)
        · have c_20 : x2.toInt ≤ 1 := c_20
          show mp_W E X 6 37 [(4, .ref a2), (0, .ref a0), (1, .int x0), (2, .int x1), (3, .int x2)] [] w3_ 0 0
          refine mp_run mp_k_cX9_shuts_ok hF mp_tabX9_ok [mp_i (.aload 4), mp_h (.getfield 214) [5, 3], mp_h (.ifCond .le 6) [48]] (by decide +kernel) ?_
          refine And.intro rfl (And.intro rfl ?_)
          refine And.intro (fun c_21 => ?_) (fun c_21 => ?_)
          · have c_21 : y6.toInt ≤ 0 := c_21
            show mp_W E X 6 48 [(4, .ref a2), (0, .ref a0), (1, .int x0), (2, .int x1), (3, .int x2)] [] w3_ 0 0
            refine mp_run mp_k_cX9_shuts_ok hF mp_tabX9_ok [mp_i (.aload 4), mp_i (.iload_n 1), mp_i (.iload_n 2)] (by decide +kernel) ?_
            show mp_W E X 6 52 [(4, .ref a2), (0, .ref a0), (1, .int x0), (2, .int x1), (3, .int x2)] [.int x1, .int x0, .ref a2] w3_ 0 0
            refine mp_callV hF (As := [.int x0, .int x1]) (rest := []) (wr := [(mp_ob9 a0 a4 a1 a5 a6 a7 a8 a9 a10 a11), (mp_ob0 a1 a2 y0 a12 a13 a14 a15 a16 a17)]) (bX7_isShut_58 E a2 a3 a18 a19 a20 a21 a22 a23 a24 a25 a26 a27 a28 f0 y1 y2 y3 y4 y5 y6 x0 x1 (by (first | exact c_5 | omega)) (by (first | exact mp_o398 u_y2 c_6 | omega)) (by (first | exact c_14 | omega)) (by (first | exact c_15 | omega)) l_y2 u_y2 l_y3 u_y3 l_y4 u_y4 l_y5 u_y5 l_y6 u_y6) mp_lkX9_151 3 rfl [3, 2] [0, 1] rfl rfl rfl rfl rfl ⟨(Nat.le_of_ble_eq_true rfl), (Nat.le_of_ble_eq_true rfl), (Nat.le_of_ble_eq_true rfl), (Nat.le_of_ble_eq_true rfl)⟩ (Nat.le_of_ble_eq_true rfl) (by first | exact mp_fd_ok mp_k_cX9_shuts_ok (by decide +kernel) | decide +kernel) (fun v_22 w_23 h_24 => ?_)
            rcases h_24 with ⟨rfl, x_25, rfl⟩ | ⟨rfl, x_26, rfl⟩
            · skip
              show mp_W E X 6 55 [(4, .ref a2), (0, .ref a0), (1, .int x0), (2, .int x1), (3, .int x2)] [.int 0] w1_ 0 0
              refine mp_run mp_k_cX9_shuts_ok hF mp_tabX9_ok [mp_h (.ifCond .eq 7) [62]] (by decide +kernel) ?_
              refine And.intro (fun _ => ?_) (fun c_27 => absurd c_27 (by decide))
              show mp_W E X 6 62 [(4, .ref a2), (0, .ref a0), (1, .int x0), (2, .int x1), (3, .int x2)] [] w1_ 0 0
              refine mp_run mp_k_cX9_shuts_ok hF mp_tabX9_ok [mp_c (.iconst 0) 0, mp_i (.istore 5), mp_i (.aload 4), mp_i (.iload_n 1), mp_i (.iload_n 2), mp_i (.iload_n 3), mp_c (.iconst 1) 1, mp_h (.if_icmp .ne 7) [78]] (by decide +kernel) ?_
              refine And.intro (fun c_28 => ?_) (fun c_28 => ?_)
              · have c_28 : x2.toInt ≠ 1 := c_28
                show mp_W E X 6 78 [(5, .int 0), (4, .ref a2), (0, .ref a0), (1, .int x0), (2, .int x1), (3, .int x2)] [.int x1, .int x0, .ref a2] w1_ 0 0
                refine mp_run mp_k_cX9_shuts_ok hF mp_tabX9_ok [mp_c (.iconst 0) 0] (by decide +kernel) ?_
                show mp_W E X 6 79 [(5, .int 0), (4, .ref a2), (0, .ref a0), (1, .int x0), (2, .int x1), (3, .int x2)] [.int 0, .int x1, .int x0, .ref a2] w1_ 0 0
                refine mp_callV hF (As := [.int x0, .int x1, .int 0]) (rest := []) (wr := [(mp_ob9 a0 a4 a1 a5 a6 a7 a8 a9 a10 a11), (mp_ob0 a1 a2 y0 a12 a13 a14 a15 a16 a17)]) (bX7_setShut_23 E a2 a3 a18 a19 a20 a21 a22 a23 a24 a25 a26 a27 a28 f0 y1 y2 y3 y4 y5 y6 x0 x1 0 (by (first | exact c_5 | omega)) (by (first | exact mp_o398 u_y2 c_6 | omega)) (by (first | exact c_14 | omega)) (by (first | exact c_15 | omega)) l_y2 u_y2 l_y3 u_y3 l_y4 u_y4 l_y5 u_y5 l_y6 u_y6) mp_lkX9_333 2 rfl [2, 3] [0, 1] rfl rfl rfl rfl rfl ⟨(Nat.le_of_ble_eq_true rfl), (Nat.le_of_ble_eq_true rfl), (Nat.le_of_ble_eq_true rfl), (Nat.le_of_ble_eq_true rfl)⟩ (Nat.le_of_ble_eq_true rfl) (by first | exact mp_fd_ok mp_k_cX9_shuts_ok (by decide +kernel) | decide +kernel) (fun v_29 w_30 h_31 => ?_)
                obtain ⟨g_32, rfl, x_33, x_34, rfl⟩ := h_31
                let w4_ : va_W := [(mp_ob9 a0 a4 a1 a5 a6 a7 a8 a9 a10 a11), (mp_ob0 a1 a2 y0 a12 a13 a14 a15 a16 a17), (mp_ob7 a2 y1 y2 y3 y4 y5 y6 a18 a3 a19 a20 a21 a22 a23 a24 a25 a26 a27 a28), (mp_arL E a3 12 g_32)]
                show mp_W E X 6 82 [(5, .int 0), (4, .ref a2), (0, .ref a0), (1, .int x0), (2, .int x1), (3, .int x2)] [] w4_ 0 0
                refine mp_run mp_k_cX9_shuts_ok hF mp_tabX9_ok [mp_i (.iload 5)] (by decide +kernel) ?_
                show mp_W E X 6 84 [(5, .int 0), (4, .ref a2), (0, .ref a0), (1, .int x0), (2, .int x1), (3, .int x2)] [.int 0] w4_ 0 0
                exact mp_iret hF hQ rfl rfl (Nat.le_of_ble_eq_true rfl) (Nat.le_of_ble_eq_true rfl) [0, 1, 2, 3] (w' := w4_) rfl rfl (Or.inr (Or.inl ⟨g_32, 0, rfl, (by first | (first | exact c_5 | omega) | decide), (by first | (first | exact c_6 | omega) | decide), (by first | (first | exact c_14 | omega) | decide), (by first | (first | exact c_15 | omega) | decide), (by first | (first | exact c_19 | omega) | decide), (by first | (first | exact c_20 | omega) | decide), (by first | (first | exact c_21 | omega) | decide), (by decide), (by decide), (by first | (first | exact mp_o846 c_5 c_14 c_19 c_6 c_15 c_20 | omega) | decide | (have h8 : (0 : Int64).toInt = 0 := rfl; have h9 : (-1 : Int32).toInt = -1 := rfl; have h10 : (-2 : Int32).toInt = -2 := rfl; have h11 : (0 : Int32).toInt = 0 := rfl; have h12 : (1 : Int32).toInt = 1 := rfl; have h13 : (-5 : Int32).toInt = -5 := rfl; have h14 : (-3 : Int32).toInt = -3 := rfl; omega)), (by first | (first | exact c_21 | omega) | decide | (have h8 : (0 : Int64).toInt = 0 := rfl; have h9 : (-1 : Int32).toInt = -1 := rfl; have h10 : (-2 : Int32).toInt = -2 := rfl; have h11 : (0 : Int32).toInt = 0 := rfl; have h12 : (1 : Int32).toInt = 1 := rfl; have h13 : (-5 : Int32).toInt = -5 := rfl; have h14 : (-3 : Int32).toInt = -3 := rfl; omega)), (Or.inr ⟨x_25, (by first | fail | decide | (have h8 : (0 : Int64).toInt = 0 := rfl; have h9 : (-1 : Int32).toInt = -1 := rfl; have h10 : (-2 : Int32).toInt = -2 := rfl; have h11 : (0 : Int32).toInt = 0 := rfl; have h12 : (1 : Int32).toInt = 1 := rfl; have h13 : (-5 : Int32).toInt = -5 := rfl; have h14 : (-3 : Int32).toInt = -3 := rfl; omega))⟩), (by by_cases q9 : x2.toInt = 1; (first | (have k9 := x_33.resolve_left (by first | omega | decide | (have h8 : (0 : Int64).toInt = 0 := rfl; have h9 : (-1 : Int32).toInt = -1 := rfl; have h10 : (-2 : Int32).toInt = -2 := rfl; have h11 : (0 : Int32).toInt = 0 := rfl; have h12 : (1 : Int32).toInt = 1 := rfl; have h13 : (-5 : Int32).toInt = -5 := rfl; have h14 : (-3 : Int32).toInt = -3 := rfl; omega)); rw [k9, decide_eq_true q9]) | (exfalso; omega)); (first | (have k9 := x_34.resolve_left (by first | fail | decide | (have h8 : (0 : Int64).toInt = 0 := rfl; have h9 : (-1 : Int32).toInt = -1 := rfl; have h10 : (-2 : Int32).toInt = -2 := rfl; have h11 : (0 : Int32).toInt = 0 := rfl; have h12 : (1 : Int32).toInt = 1 := rfl; have h13 : (-5 : Int32).toInt = -5 := rfl; have h14 : (-3 : Int32).toInt = -3 := rfl; omega)); rw [k9, decide_eq_false q9]) | (exfalso; omega))), rfl⟩)) (by first | exact mp_fd_ok mp_k_cX9_shuts_ok (by decide +kernel) | decide +kernel)
              · have c_28 : x2.toInt = 1 := (congrArg Int32.toInt c_28)
                show mp_W E X 6 74 [(5, .int 0), (4, .ref a2), (0, .ref a0), (1, .int x0), (2, .int x1), (3, .int x2)] [.int x1, .int x0, .ref a2] w1_ 0 0
                refine mp_run mp_k_cX9_shuts_ok hF mp_tabX9_ok [mp_c (.iconst 1) 1, mp_h (.goto 4) [79]] (by decide +kernel) ?_
                show mp_W E X 6 79 [(5, .int 0), (4, .ref a2), (0, .ref a0), (1, .int x0), (2, .int x1), (3, .int x2)] [.int 1, .int x1, .int x0, .ref a2] w1_ 0 0
                refine mp_callV hF (As := [.int x0, .int x1, .int 1]) (rest := []) (wr := [(mp_ob9 a0 a4 a1 a5 a6 a7 a8 a9 a10 a11), (mp_ob0 a1 a2 y0 a12 a13 a14 a15 a16 a17)]) (bX7_setShut_23 E a2 a3 a18 a19 a20 a21 a22 a23 a24 a25 a26 a27 a28 f0 y1 y2 y3 y4 y5 y6 x0 x1 1 (by (first | exact c_5 | omega)) (by (first | exact mp_o398 u_y2 c_6 | omega)) (by (first | exact c_14 | omega)) (by (first | exact c_15 | omega)) l_y2 u_y2 l_y3 u_y3 l_y4 u_y4 l_y5 u_y5 l_y6 u_y6) mp_lkX9_333 2 rfl [2, 3] [0, 1] rfl rfl rfl rfl rfl ⟨(Nat.le_of_ble_eq_true rfl), (Nat.le_of_ble_eq_true rfl), (Nat.le_of_ble_eq_true rfl), (Nat.le_of_ble_eq_true rfl)⟩ (Nat.le_of_ble_eq_true rfl) (by first | exact mp_fd_ok mp_k_cX9_shuts_ok (by decide +kernel) | decide +kernel) (fun v_35 w_36 h_37 => ?_)
                obtain ⟨g_38, rfl, x_39, x_40, rfl⟩ := h_37
                let w5_ : va_W := [(mp_ob9 a0 a4 a1 a5 a6 a7 a8 a9 a10 a11), (mp_ob0 a1 a2 y0 a12 a13 a14 a15 a16 a17), (mp_ob7 a2 y1 y2 y3 y4 y5 y6 a18 a3 a19 a20 a21 a22 a23 a24 a25 a26 a27 a28), (mp_arL E a3 12 g_38)]
                show mp_W E X 6 82 [(5, .int 0), (4, .ref a2), (0, .ref a0), (1, .int x0), (2, .int x1), (3, .int x2)] [] w5_ 0 0
                refine mp_run mp_k_cX9_shuts_ok hF mp_tabX9_ok [mp_i (.iload 5)] (by decide +kernel) ?_
                show mp_W E X 6 84 [(5, .int 0), (4, .ref a2), (0, .ref a0), (1, .int x0), (2, .int x1), (3, .int x2)] [.int 0] w5_ 0 0
                exact mp_iret hF hQ rfl rfl (Nat.le_of_ble_eq_true rfl) (Nat.le_of_ble_eq_true rfl) [0, 1, 2, 3] (w' := w5_) rfl rfl (Or.inr (Or.inl ⟨g_38, 0, rfl, (by first | (first | exact c_5 | omega) | decide), (by first | (first | exact c_6 | omega) | decide), (by first | (first | exact c_14 | omega) | decide), (by first | (first | exact c_15 | omega) | decide), (by first | (first | exact c_19 | omega) | decide), (by first | (first | exact c_20 | omega) | decide), (by first | (first | exact c_21 | omega) | decide), (by decide), (by decide), (by first | (first | exact mp_o847 c_5 c_14 c_6 c_15 c_28 | omega) | decide | (have h8 : (0 : Int64).toInt = 0 := rfl; have h9 : (-1 : Int32).toInt = -1 := rfl; have h10 : (-2 : Int32).toInt = -2 := rfl; have h11 : (0 : Int32).toInt = 0 := rfl; have h12 : (1 : Int32).toInt = 1 := rfl; have h13 : (-5 : Int32).toInt = -5 := rfl; have h14 : (-3 : Int32).toInt = -3 := rfl; omega)), (by first | (first | exact c_21 | omega) | decide | (have h8 : (0 : Int64).toInt = 0 := rfl; have h9 : (-1 : Int32).toInt = -1 := rfl; have h10 : (-2 : Int32).toInt = -2 := rfl; have h11 : (0 : Int32).toInt = 0 := rfl; have h12 : (1 : Int32).toInt = 1 := rfl; have h13 : (-5 : Int32).toInt = -5 := rfl; have h14 : (-3 : Int32).toInt = -3 := rfl; omega)), (Or.inr ⟨x_25, (by first | fail | decide | (have h8 : (0 : Int64).toInt = 0 := rfl; have h9 : (-1 : Int32).toInt = -1 := rfl; have h10 : (-2 : Int32).toInt = -2 := rfl; have h11 : (0 : Int32).toInt = 0 := rfl; have h12 : (1 : Int32).toInt = 1 := rfl; have h13 : (-5 : Int32).toInt = -5 := rfl; have h14 : (-3 : Int32).toInt = -3 := rfl; omega))⟩), (by by_cases q9 : x2.toInt = 1; (first | (have k9 := x_39.resolve_left (by first | (first | exact h_1 | omega) | decide | (have h8 : (0 : Int64).toInt = 0 := rfl; have h9 : (-1 : Int32).toInt = -1 := rfl; have h10 : (-2 : Int32).toInt = -2 := rfl; have h11 : (0 : Int32).toInt = 0 := rfl; have h12 : (1 : Int32).toInt = 1 := rfl; have h13 : (-5 : Int32).toInt = -5 := rfl; have h14 : (-3 : Int32).toInt = -3 := rfl; omega)); rw [k9, decide_eq_true q9]) | (exfalso; omega)); (first | (have k9 := x_40.resolve_left (by first | (first | exact mp_o848 c_28 q9 | omega) | decide | (have h8 : (0 : Int64).toInt = 0 := rfl; have h9 : (-1 : Int32).toInt = -1 := rfl; have h10 : (-2 : Int32).toInt = -2 := rfl; have h11 : (0 : Int32).toInt = 0 := rfl; have h12 : (1 : Int32).toInt = 1 := rfl; have h13 : (-5 : Int32).toInt = -5 := rfl; have h14 : (-3 : Int32).toInt = -3 := rfl; omega)); rw [k9, decide_eq_false q9]) | (exfalso; omega))), rfl⟩)) (by first | exact mp_fd_ok mp_k_cX9_shuts_ok (by decide +kernel) | decide +kernel)
            · skip
              show mp_W E X 6 55 [(4, .ref a2), (0, .ref a0), (1, .int x0), (2, .int x1), (3, .int x2)] [.int 1] w1_ 0 0
              refine mp_run mp_k_cX9_shuts_ok hF mp_tabX9_ok [mp_h (.ifCond .eq 7) [62]] (by decide +kernel) ?_
              refine And.intro (fun c_41 => absurd c_41 (by decide)) (fun _ => ?_)
              show mp_W E X 6 58 [(4, .ref a2), (0, .ref a0), (1, .int x0), (2, .int x1), (3, .int x2)] [] w1_ 0 0
              refine mp_run mp_k_cX9_shuts_ok hF mp_tabX9_ok [mp_c (.iconst 1) 1, mp_h (.goto 4) [63], mp_i (.istore 5), mp_i (.aload 4), mp_i (.iload_n 1), mp_i (.iload_n 2), mp_i (.iload_n 3), mp_c (.iconst 1) 1, mp_h (.if_icmp .ne 7) [78]] (by decide +kernel) ?_
              refine And.intro (fun c_42 => ?_) (fun c_42 => ?_)
              · have c_42 : x2.toInt ≠ 1 := c_42
                show mp_W E X 6 78 [(5, .int 1), (4, .ref a2), (0, .ref a0), (1, .int x0), (2, .int x1), (3, .int x2)] [.int x1, .int x0, .ref a2] w1_ 0 0
                refine mp_run mp_k_cX9_shuts_ok hF mp_tabX9_ok [mp_c (.iconst 0) 0] (by decide +kernel) ?_
                show mp_W E X 6 79 [(5, .int 1), (4, .ref a2), (0, .ref a0), (1, .int x0), (2, .int x1), (3, .int x2)] [.int 0, .int x1, .int x0, .ref a2] w1_ 0 0
                refine mp_callV hF (As := [.int x0, .int x1, .int 0]) (rest := []) (wr := [(mp_ob9 a0 a4 a1 a5 a6 a7 a8 a9 a10 a11), (mp_ob0 a1 a2 y0 a12 a13 a14 a15 a16 a17)]) (bX7_setShut_23 E a2 a3 a18 a19 a20 a21 a22 a23 a24 a25 a26 a27 a28 f0 y1 y2 y3 y4 y5 y6 x0 x1 0 (by (first | exact c_5 | omega)) (by (first | exact mp_o398 u_y2 c_6 | omega)) (by (first | exact c_14 | omega)) (by (first | exact c_15 | omega)) l_y2 u_y2 l_y3 u_y3 l_y4 u_y4 l_y5 u_y5 l_y6 u_y6) mp_lkX9_333 2 rfl [2, 3] [0, 1] rfl rfl rfl rfl rfl ⟨(Nat.le_of_ble_eq_true rfl), (Nat.le_of_ble_eq_true rfl), (Nat.le_of_ble_eq_true rfl), (Nat.le_of_ble_eq_true rfl)⟩ (Nat.le_of_ble_eq_true rfl) (by first | exact mp_fd_ok mp_k_cX9_shuts_ok (by decide +kernel) | decide +kernel) (fun v_43 w_44 h_45 => ?_)
                obtain ⟨g_46, rfl, x_47, x_48, rfl⟩ := h_45
                let w6_ : va_W := [(mp_ob9 a0 a4 a1 a5 a6 a7 a8 a9 a10 a11), (mp_ob0 a1 a2 y0 a12 a13 a14 a15 a16 a17), (mp_ob7 a2 y1 y2 y3 y4 y5 y6 a18 a3 a19 a20 a21 a22 a23 a24 a25 a26 a27 a28), (mp_arL E a3 12 g_46)]
                show mp_W E X 6 82 [(5, .int 1), (4, .ref a2), (0, .ref a0), (1, .int x0), (2, .int x1), (3, .int x2)] [] w6_ 0 0
                refine mp_run mp_k_cX9_shuts_ok hF mp_tabX9_ok [mp_i (.iload 5)] (by decide +kernel) ?_
                show mp_W E X 6 84 [(5, .int 1), (4, .ref a2), (0, .ref a0), (1, .int x0), (2, .int x1), (3, .int x2)] [.int 1] w6_ 0 0
                exact mp_iret hF hQ rfl rfl (Nat.le_of_ble_eq_true rfl) (Nat.le_of_ble_eq_true rfl) [0, 1, 2, 3] (w' := w6_) rfl rfl (Or.inr (Or.inl ⟨g_46, 1, rfl, (by first | (first | exact c_5 | omega) | decide), (by first | (first | exact c_6 | omega) | decide), (by first | (first | exact c_14 | omega) | decide), (by first | (first | exact c_15 | omega) | decide), (by first | (first | exact c_19 | omega) | decide), (by first | (first | exact c_20 | omega) | decide), (by first | (first | exact c_21 | omega) | decide), (by decide), (by decide), (by first | (first | exact mp_o846 c_5 c_14 c_19 c_6 c_15 c_20 | omega) | decide | (have h8 : (0 : Int64).toInt = 0 := rfl; have h9 : (-1 : Int32).toInt = -1 := rfl; have h10 : (-2 : Int32).toInt = -2 := rfl; have h11 : (0 : Int32).toInt = 0 := rfl; have h12 : (1 : Int32).toInt = 1 := rfl; have h13 : (-5 : Int32).toInt = -5 := rfl; have h14 : (-3 : Int32).toInt = -3 := rfl; omega)), (by first | (first | exact c_21 | omega) | decide | (have h8 : (0 : Int64).toInt = 0 := rfl; have h9 : (-1 : Int32).toInt = -1 := rfl; have h10 : (-2 : Int32).toInt = -2 := rfl; have h11 : (0 : Int32).toInt = 0 := rfl; have h12 : (1 : Int32).toInt = 1 := rfl; have h13 : (-5 : Int32).toInt = -5 := rfl; have h14 : (-3 : Int32).toInt = -3 := rfl; omega)), (Or.inl ⟨x_26, (by first | fail | decide | (have h8 : (0 : Int64).toInt = 0 := rfl; have h9 : (-1 : Int32).toInt = -1 := rfl; have h10 : (-2 : Int32).toInt = -2 := rfl; have h11 : (0 : Int32).toInt = 0 := rfl; have h12 : (1 : Int32).toInt = 1 := rfl; have h13 : (-5 : Int32).toInt = -5 := rfl; have h14 : (-3 : Int32).toInt = -3 := rfl; omega))⟩), (by by_cases q9 : x2.toInt = 1; (first | (have k9 := x_47.resolve_left (by first | omega | decide | (have h8 : (0 : Int64).toInt = 0 := rfl; have h9 : (-1 : Int32).toInt = -1 := rfl; have h10 : (-2 : Int32).toInt = -2 := rfl; have h11 : (0 : Int32).toInt = 0 := rfl; have h12 : (1 : Int32).toInt = 1 := rfl; have h13 : (-5 : Int32).toInt = -5 := rfl; have h14 : (-3 : Int32).toInt = -3 := rfl; omega)); rw [k9, decide_eq_true q9]) | (exfalso; omega)); (first | (have k9 := x_48.resolve_left (by first | fail | decide | (have h8 : (0 : Int64).toInt = 0 := rfl; have h9 : (-1 : Int32).toInt = -1 := rfl; have h10 : (-2 : Int32).toInt = -2 := rfl; have h11 : (0 : Int32).toInt = 0 := rfl; have h12 : (1 : Int32).toInt = 1 := rfl; have h13 : (-5 : Int32).toInt = -5 := rfl; have h14 : (-3 : Int32).toInt = -3 := rfl; omega)); rw [k9, decide_eq_false q9]) | (exfalso; omega))), rfl⟩)) (by first | exact mp_fd_ok mp_k_cX9_shuts_ok (by decide +kernel) | decide +kernel)
              · have c_42 : x2.toInt = 1 := (congrArg Int32.toInt c_42)
                show mp_W E X 6 74 [(5, .int 1), (4, .ref a2), (0, .ref a0), (1, .int x0), (2, .int x1), (3, .int x2)] [.int x1, .int x0, .ref a2] w1_ 0 0
                refine mp_run mp_k_cX9_shuts_ok hF mp_tabX9_ok [mp_c (.iconst 1) 1, mp_h (.goto 4) [79]] (by decide +kernel) ?_
                show mp_W E X 6 79 [(5, .int 1), (4, .ref a2), (0, .ref a0), (1, .int x0), (2, .int x1), (3, .int x2)] [.int 1, .int x1, .int x0, .ref a2] w1_ 0 0
                refine mp_callV hF (As := [.int x0, .int x1, .int 1]) (rest := []) (wr := [(mp_ob9 a0 a4 a1 a5 a6 a7 a8 a9 a10 a11), (mp_ob0 a1 a2 y0 a12 a13 a14 a15 a16 a17)]) (bX7_setShut_23 E a2 a3 a18 a19 a20 a21 a22 a23 a24 a25 a26 a27 a28 f0 y1 y2 y3 y4 y5 y6 x0 x1 1 (by (first | exact c_5 | omega)) (by (first | exact mp_o398 u_y2 c_6 | omega)) (by (first | exact c_14 | omega)) (by (first | exact c_15 | omega)) l_y2 u_y2 l_y3 u_y3 l_y4 u_y4 l_y5 u_y5 l_y6 u_y6) mp_lkX9_333 2 rfl [2, 3] [0, 1] rfl rfl rfl rfl rfl ⟨(Nat.le_of_ble_eq_true rfl), (Nat.le_of_ble_eq_true rfl), (Nat.le_of_ble_eq_true rfl), (Nat.le_of_ble_eq_true rfl)⟩ (Nat.le_of_ble_eq_true rfl) (by first | exact mp_fd_ok mp_k_cX9_shuts_ok (by decide +kernel) | decide +kernel) (fun v_49 w_50 h_51 => ?_)
                obtain ⟨g_52, rfl, x_53, x_54, rfl⟩ := h_51
                let w7_ : va_W := [(mp_ob9 a0 a4 a1 a5 a6 a7 a8 a9 a10 a11), (mp_ob0 a1 a2 y0 a12 a13 a14 a15 a16 a17), (mp_ob7 a2 y1 y2 y3 y4 y5 y6 a18 a3 a19 a20 a21 a22 a23 a24 a25 a26 a27 a28), (mp_arL E a3 12 g_52)]
                show mp_W E X 6 82 [(5, .int 1), (4, .ref a2), (0, .ref a0), (1, .int x0), (2, .int x1), (3, .int x2)] [] w7_ 0 0
                refine mp_run mp_k_cX9_shuts_ok hF mp_tabX9_ok [mp_i (.iload 5)] (by decide +kernel) ?_
                show mp_W E X 6 84 [(5, .int 1), (4, .ref a2), (0, .ref a0), (1, .int x0), (2, .int x1), (3, .int x2)] [.int 1] w7_ 0 0
                exact mp_iret hF hQ rfl rfl (Nat.le_of_ble_eq_true rfl) (Nat.le_of_ble_eq_true rfl) [0, 1, 2, 3] (w' := w7_) rfl rfl (Or.inr (Or.inl ⟨g_52, 1, rfl, (by first | (first | exact c_5 | omega) | decide), (by first | (first | exact c_6 | omega) | decide), (by first | (first | exact c_14 | omega) | decide), (by first | (first | exact c_15 | omega) | decide), (by first | (first | exact c_19 | omega) | decide), (by first | (first | exact c_20 | omega) | decide), (by first | (first | exact c_21 | omega) | decide), (by decide), (by decide), (by first | (first | exact mp_o847 c_5 c_14 c_6 c_15 c_42 | omega) | decide | (have h8 : (0 : Int64).toInt = 0 := rfl; have h9 : (-1 : Int32).toInt = -1 := rfl; have h10 : (-2 : Int32).toInt = -2 := rfl; have h11 : (0 : Int32).toInt = 0 := rfl; have h12 : (1 : Int32).toInt = 1 := rfl; have h13 : (-5 : Int32).toInt = -5 := rfl; have h14 : (-3 : Int32).toInt = -3 := rfl; omega)), (by first | (first | exact c_21 | omega) | decide | (have h8 : (0 : Int64).toInt = 0 := rfl; have h9 : (-1 : Int32).toInt = -1 := rfl; have h10 : (-2 : Int32).toInt = -2 := rfl; have h11 : (0 : Int32).toInt = 0 := rfl; have h12 : (1 : Int32).toInt = 1 := rfl; have h13 : (-5 : Int32).toInt = -5 := rfl; have h14 : (-3 : Int32).toInt = -3 := rfl; omega)), (Or.inl ⟨x_26, (by first | fail | decide | (have h8 : (0 : Int64).toInt = 0 := rfl; have h9 : (-1 : Int32).toInt = -1 := rfl; have h10 : (-2 : Int32).toInt = -2 := rfl; have h11 : (0 : Int32).toInt = 0 := rfl; have h12 : (1 : Int32).toInt = 1 := rfl; have h13 : (-5 : Int32).toInt = -5 := rfl; have h14 : (-3 : Int32).toInt = -3 := rfl; omega))⟩), (by by_cases q9 : x2.toInt = 1; (first | (have k9 := x_53.resolve_left (by first | (first | exact h_2 | omega) | decide | (have h8 : (0 : Int64).toInt = 0 := rfl; have h9 : (-1 : Int32).toInt = -1 := rfl; have h10 : (-2 : Int32).toInt = -2 := rfl; have h11 : (0 : Int32).toInt = 0 := rfl; have h12 : (1 : Int32).toInt = 1 := rfl; have h13 : (-5 : Int32).toInt = -5 := rfl; have h14 : (-3 : Int32).toInt = -3 := rfl; omega)); rw [k9, decide_eq_true q9]) | (exfalso; omega)); (first | (have k9 := x_54.resolve_left (by first | (first | exact mp_o848 c_42 q9 | omega) | decide | (have h8 : (0 : Int64).toInt = 0 := rfl; have h9 : (-1 : Int32).toInt = -1 := rfl; have h10 : (-2 : Int32).toInt = -2 := rfl; have h11 : (0 : Int32).toInt = 0 := rfl; have h12 : (1 : Int32).toInt = 1 := rfl; have h13 : (-5 : Int32).toInt = -5 := rfl; have h14 : (-3 : Int32).toInt = -3 := rfl; omega)); rw [k9, decide_eq_false q9]) | (exfalso; omega))), rfl⟩)) (by first | exact mp_fd_ok mp_k_cX9_shuts_ok (by decide +kernel) | decide +kernel)
          · have c_21 : 0 < y6.toInt := c_21
            show mp_W E X 6 45 [(4, .ref a2), (0, .ref a0), (1, .int x0), (2, .int x1), (3, .int x2)] [] w3_ 0 0
            refine mp_run mp_k_cX9_shuts_ok hF mp_tabX9_ok [mp_c (.bipush (-5)) (-5)] (by decide +kernel) ?_
            show mp_W E X 6 47 [(4, .ref a2), (0, .ref a0), (1, .int x0), (2, .int x1), (3, .int x2)] [.int (-5)] w3_ 0 0
            exact mp_iret hF hQ rfl rfl (Nat.le_of_ble_eq_true rfl) (Nat.le_of_ble_eq_true rfl) [0, 1, 3, 2] (w' := w1_) rfl rfl (Or.inr (Or.inr ⟨rfl, (by first | (first | exact c_5 | omega) | decide), (by first | (first | exact c_6 | omega) | decide), (by first | (first | exact c_14 | omega) | decide), (by first | (first | exact c_15 | omega) | decide), (by first | (first | exact c_19 | omega) | decide), (by first | (first | exact c_20 | omega) | decide), (by first | (first | exact c_21 | omega) | decide), (by first | (first | exact mp_o846 c_5 c_14 c_19 c_6 c_15 c_20 | omega) | decide | (have h8 : (0 : Int64).toInt = 0 := rfl; have h9 : (-1 : Int32).toInt = -1 := rfl; have h10 : (-2 : Int32).toInt = -2 := rfl; have h11 : (0 : Int32).toInt = 0 := rfl; have h12 : (1 : Int32).toInt = 1 := rfl; have h13 : (-5 : Int32).toInt = -5 := rfl; have h14 : (-3 : Int32).toInt = -3 := rfl; omega)), (by first | (first | exact c_21 | omega) | decide | (have h8 : (0 : Int64).toInt = 0 := rfl; have h9 : (-1 : Int32).toInt = -1 := rfl; have h10 : (-2 : Int32).toInt = -2 := rfl; have h11 : (0 : Int32).toInt = 0 := rfl; have h12 : (1 : Int32).toInt = 1 := rfl; have h13 : (-5 : Int32).toInt = -5 := rfl; have h14 : (-3 : Int32).toInt = -3 := rfl; omega)), rfl⟩)) (by first | exact mp_fd_ok mp_k_cX9_shuts_ok (by decide +kernel) | decide +kernel)
        · have c_20 : 1 < x2.toInt := c_20
          show mp_W E X 6 34 [(4, .ref a2), (0, .ref a0), (1, .int x0), (2, .int x1), (3, .int x2)] [] w3_ 0 0
          refine mp_run mp_k_cX9_shuts_ok hF mp_tabX9_ok [mp_c (.bipush (-2)) (-2)] (by decide +kernel) ?_
          show mp_W E X 6 36 [(4, .ref a2), (0, .ref a0), (1, .int x0), (2, .int x1), (3, .int x2)] [.int (-2)] w3_ 0 0
          exact mp_iret hF hQ rfl rfl (Nat.le_of_ble_eq_true rfl) (Nat.le_of_ble_eq_true rfl) [0, 1, 3, 2] (w' := w1_) rfl rfl (Or.inl ⟨rfl, (by first | (first | exact mp_o849 c_20 | omega) | decide | (have h8 : (0 : Int64).toInt = 0 := rfl; have h9 : (-1 : Int32).toInt = -1 := rfl; have h10 : (-2 : Int32).toInt = -2 := rfl; have h11 : (0 : Int32).toInt = 0 := rfl; have h12 : (1 : Int32).toInt = 1 := rfl; have h13 : (-5 : Int32).toInt = -5 := rfl; have h14 : (-3 : Int32).toInt = -3 := rfl; omega)), rfl⟩) (by first | exact mp_fd_ok mp_k_cX9_shuts_ok (by decide +kernel) | decide +kernel)
set_option maxHeartbeats 4000000 in
set_option maxRecDepth 100000 in
theorem bX9_tends_173 (E : mp_E) (a0 a1 a2 a3 a4 a5 a6 a7 a8 a9 a10 a11 a12 a13 a14 a15 a16 a17 a18 a19 a20 a21 a22 a23 a24 a25 a26 a27 a28 : Nat) (f0 : Nat → Int32) (y0 : Int32) (y1 : Int32) (y2 : Int32) (y3 : Int32) (y4 : Int32) (y5 : Int32) (y6 : Int32) (x0 : Int32) (x1 : Int32) (l_y0 : 0 ≤ y0.toInt) (u_y0 : y0.toInt ≤ 99) (l_y2 : 0 ≤ y2.toInt) (u_y2 : y2.toInt ≤ 6) (l_y3 : 0 ≤ y3.toInt) (u_y3 : y3.toInt ≤ 99) (l_y4 : 0 ≤ y4.toInt) (u_y4 : y4.toInt ≤ 6) (l_y5 : 0 ≤ y5.toInt) (u_y5 : y5.toInt ≤ 10) (l_y6 : 0 ≤ y6.toInt) (u_y6 : y6.toInt ≤ 60) : mp_Ct E yX9_tends cX9_tends 4 (some FieldType.int) 1 0 0 21 [.ref a0, .int x0, .int x1] [(mp_ob9 a0 a4 a1 a5 a6 a7 a8 a9 a10 a11), (mp_ob0 a1 a2 y0 a12 a13 a14 a15 a16 a17), (mp_ob7 a2 y1 y2 y3 y4 y5 y6 a18 a19 a20 a21 a3 a22 a23 a24 a25 a26 a27 a28), (mp_arI E a3 0 6 f0)] (fun v w' => (v = some (.int (-2)) ∧ (x0.toInt < 0 ∨ y4.toInt ≤ x0.toInt ∨ x1.toInt < 0 ∨ 100 < x1.toInt) ∧ w' = [(mp_ob9 a0 a4 a1 a5 a6 a7 a8 a9 a10 a11), (mp_ob0 a1 a2 y0 a12 a13 a14 a15 a16 a17), (mp_ob7 a2 y1 y2 y3 y4 y5 y6 a18 a19 a20 a21 a3 a22 a23 a24 a25 a26 a27 a28), (mp_arI E a3 0 6 f0)]) ∨ (∃ h1 : Nat → Int32, ∃ r2 : Int32, v = some (.int r2) ∧ 0 ≤ x0.toInt ∧ x0.toInt < y4.toInt ∧ 0 ≤ x1.toInt ∧ x1.toInt ≤ 100 ∧ (0 ≤ x0.toInt ∧ x0.toInt < y4.toInt ∧ 0 ≤ x1.toInt ∧ x1.toInt ≤ 100) ∧ (r2.toInt = (f0 x0.toInt.toNat).toInt) ∧ (h1 = upd f0 x0.toInt.toNat x1) ∧ w' = [(mp_ob9 a0 a4 a1 a5 a6 a7 a8 a9 a10 a11), (mp_ob0 a1 a2 y0 a12 a13 a14 a15 a16 a17), (mp_ob7 a2 y1 y2 y3 y4 y5 y6 a18 a19 a20 a21 a3 a22 a23 a24 a25 a26 a27 a28), (mp_arI E a3 0 6 h1)])) := by
  refine mp_met false (by decide) (by decide) (Nat.le_of_ble_eq_true rfl) (fun X hF hQ => ?_)
  have hF : mp_F E X (RX9, cX9_tends, 4, (1, 0, 0, 21), (some FieldType.int), false) := hF
  let w1_ : va_W := [(mp_ob9 a0 a4 a1 a5 a6 a7 a8 a9 a10 a11), (mp_ob0 a1 a2 y0 a12 a13 a14 a15 a16 a17), (mp_ob7 a2 y1 y2 y3 y4 y5 y6 a18 a19 a20 a21 a3 a22 a23 a24 a25 a26 a27 a28), (mp_arI E a3 0 6 f0)]
  show mp_W E X 4 0 [(0, .ref a0), (1, .int x0), (2, .int x1)] [] w1_ 0 0
  refine mp_run mp_k_cX9_tends_ok hF mp_tabX9_ok [mp_i (.aload_n 0), mp_h (.getfield 19) [37, 0], mp_h (.getfield 83) [20, 1], mp_i (.iload_n 1)] (by decide +kernel) ?_
  refine And.intro rfl (And.intro rfl ?_)
  refine And.intro rfl (And.intro rfl ?_)
  show mp_W E X 4 8 [(0, .ref a0), (1, .int x0), (2, .int x1)] [.int x0, .ref a2] w1_ 0 0
  refine mp_callV hF (As := [.int x0]) (rest := []) (wr := [(mp_ob9 a0 a4 a1 a5 a6 a7 a8 a9 a10 a11), (mp_ob0 a1 a2 y0 a12 a13 a14 a15 a16 a17), (mp_arI E a3 0 6 f0)]) (bX7_isPerson_51 E a2 a18 a19 a20 a21 a3 a22 a23 a24 a25 a26 a27 a28 y1 y2 y3 y4 y5 y6 x0 l_y2 u_y2 l_y3 u_y3 l_y4 u_y4 l_y5 u_y5 l_y6 u_y6) mp_lkX9_106 2 rfl [2] [0, 1, 3] rfl rfl rfl rfl rfl ⟨(Nat.le_of_ble_eq_true rfl), (Nat.le_of_ble_eq_true rfl), (Nat.le_of_ble_eq_true rfl), (Nat.le_of_ble_eq_true rfl)⟩ (Nat.le_of_ble_eq_true rfl) (by first | exact mp_fd_ok mp_k_cX9_tends_ok (by decide +kernel) | decide +kernel) (fun v_1 w_2 h_3 => ?_)
  rcases h_3 with ⟨rfl, x_4, rfl⟩ | ⟨rfl, c_5, c_6, x_7, rfl⟩
  · skip
    let w2_ : va_W := [(mp_ob9 a0 a4 a1 a5 a6 a7 a8 a9 a10 a11), (mp_ob0 a1 a2 y0 a12 a13 a14 a15 a16 a17), (mp_arI E a3 0 6 f0), (mp_ob7 a2 y1 y2 y3 y4 y5 y6 a18 a19 a20 a21 a3 a22 a23 a24 a25 a26 a27 a28)]
    show mp_W E X 4 11 [(0, .ref a0), (1, .int x0), (2, .int x1)] [.int 0] w2_ 0 0
    refine mp_run mp_k_cX9_tends_ok hF mp_tabX9_ok [mp_h (.ifCond .eq 13) [24]] (by decide +kernel) ?_
    refine And.intro (fun _ => ?_) (fun c_8 => absurd c_8 (by decide))
    show mp_W E X 4 24 [(0, .ref a0), (1, .int x0), (2, .int x1)] [] w2_ 0 0
    refine mp_run mp_k_cX9_tends_ok hF mp_tabX9_ok [mp_c (.bipush (-2)) (-2)] (by decide +kernel) ?_
    show mp_W E X 4 26 [(0, .ref a0), (1, .int x0), (2, .int x1)] [.int (-2)] w2_ 0 0
    exact mp_iret hF hQ rfl rfl (Nat.le_of_ble_eq_true rfl) (Nat.le_of_ble_eq_true rfl) [0, 1, 3, 2] (w' := w1_) rfl rfl (Or.inl ⟨rfl, (by first | (first | exact mp_o850 x_4 | omega) | decide | (have h8 : (0 : Int64).toInt = 0 := rfl; have h9 : (-1 : Int32).toInt = -1 := rfl; have h10 : (-2 : Int32).toInt = -2 := rfl; have h11 : (0 : Int32).toInt = 0 := rfl; have h12 : (1 : Int32).toInt = 1 := rfl; have h13 : (-5 : Int32).toInt = -5 := rfl; have h14 : (-3 : Int32).toInt = -3 := rfl; omega)), rfl⟩) (by first | exact mp_fd_ok mp_k_cX9_tends_ok (by decide +kernel) | decide +kernel)
  · skip
    have c_5 : 0 ≤ x0.toInt := c_5
    have c_6 : x0.toInt < y4.toInt := c_6
    let w3_ : va_W := [(mp_ob9 a0 a4 a1 a5 a6 a7 a8 a9 a10 a11), (mp_ob0 a1 a2 y0 a12 a13 a14 a15 a16 a17), (mp_arI E a3 0 6 f0), (mp_ob7 a2 y1 y2 y3 y4 y5 y6 a18 a19 a20 a21 a3 a22 a23 a24 a25 a26 a27 a28)]
    show mp_W E X 4 11 [(0, .ref a0), (1, .int x0), (2, .int x1)] [.int 1] w3_ 0 0
    refine mp_run mp_k_cX9_tends_ok hF mp_tabX9_ok [mp_h (.ifCond .eq 13) [24]] (by decide +kernel) ?_
    refine And.intro (fun c_9 => absurd c_9 (by decide)) (fun _ => ?_)
    show mp_W E X 4 14 [(0, .ref a0), (1, .int x0), (2, .int x1)] [] w3_ 0 0
    refine mp_run mp_k_cX9_tends_ok hF mp_tabX9_ok [mp_i (.iload_n 2), mp_h (.ifCond .lt 9) [24]] (by decide +kernel) ?_
    refine And.intro (fun c_10 => ?_) (fun c_10 => ?_)
    · have c_10 : x1.toInt < 0 := c_10
      show mp_W E X 4 24 [(0, .ref a0), (1, .int x0), (2, .int x1)] [] w3_ 0 0
      refine mp_run mp_k_cX9_tends_ok hF mp_tabX9_ok [mp_c (.bipush (-2)) (-2)] (by decide +kernel) ?_
      show mp_W E X 4 26 [(0, .ref a0), (1, .int x0), (2, .int x1)] [.int (-2)] w3_ 0 0
      exact mp_iret hF hQ rfl rfl (Nat.le_of_ble_eq_true rfl) (Nat.le_of_ble_eq_true rfl) [0, 1, 3, 2] (w' := w1_) rfl rfl (Or.inl ⟨rfl, (by first | (first | exact mp_o851 c_10 | omega) | decide | (have h8 : (0 : Int64).toInt = 0 := rfl; have h9 : (-1 : Int32).toInt = -1 := rfl; have h10 : (-2 : Int32).toInt = -2 := rfl; have h11 : (0 : Int32).toInt = 0 := rfl; have h12 : (1 : Int32).toInt = 1 := rfl; have h13 : (-5 : Int32).toInt = -5 := rfl; have h14 : (-3 : Int32).toInt = -3 := rfl; omega)), rfl⟩) (by first | exact mp_fd_ok mp_k_cX9_tends_ok (by decide +kernel) | decide +kernel)
    · have c_10 : 0 ≤ x1.toInt := c_10
      show mp_W E X 4 18 [(0, .ref a0), (1, .int x0), (2, .int x1)] [] w3_ 0 0
      refine mp_run mp_k_cX9_tends_ok hF mp_tabX9_ok [mp_i (.iload_n 2), mp_c (.bipush 100) 100, mp_h (.if_icmp .le 6) [27]] (by decide +kernel) ?_
      refine And.intro (fun c_11 => ?_) (fun c_11 => ?_)
      · have c_11 : x1.toInt ≤ 100 := c_11
        show mp_W E X 4 27 [(0, .ref a0), (1, .int x0), (2, .int x1)] [] w3_ 0 0
        refine mp_run mp_k_cX9_tends_ok hF mp_tabX9_ok [mp_i (.aload_n 0), mp_h (.getfield 19) [37, 0], mp_h (.getfield 83) [20, 1], mp_h (.getfield 117) [8, 3], mp_i (.iload_n 1), mp_h .iaload [2], mp_i (.istore_n 3), mp_i (.aload_n 0), mp_h (.getfield 19) [37, 0], mp_h (.getfield 83) [20, 1], mp_h (.getfield 117) [8, 3], mp_i (.iload_n 1), mp_i (.iload_n 2), mp_h .iastore [2]] (by decide +kernel) ?_
        refine And.intro rfl (And.intro rfl ?_)
        refine And.intro rfl (And.intro rfl ?_)
        refine And.intro rfl (And.intro rfl ?_)
        refine And.intro rfl (And.intro rfl (And.intro (vp_in_iff.mpr (by (first | exact mp_o349 c_5 u_y4 c_6 | omega))) ?_))
        intro z_12 h_13
        have e_14 : z_12.toInt = (f0 (x0.toInt).toNat).toInt := mp_at_i h_13 (by (first | exact mp_o369 c_5 | omega))
        refine And.intro rfl (And.intro rfl ?_)
        refine And.intro rfl (And.intro rfl ?_)
        refine And.intro rfl (And.intro rfl ?_)
        refine And.intro rfl (And.intro rfl (And.intro (vp_in_iff.mpr (by (first | exact mp_o349 c_5 u_y4 c_6 | omega))) ?_))
        intro g_15 h_16
        let w4_ : va_W := [(mp_ob9 a0 a4 a1 a5 a6 a7 a8 a9 a10 a11), (mp_ob0 a1 a2 y0 a12 a13 a14 a15 a16 a17), (mp_arI E a3 0 6 g_15), (mp_ob7 a2 y1 y2 y3 y4 y5 y6 a18 a19 a20 a21 a3 a22 a23 a24 a25 a26 a27 a28)]
        show mp_W E X 4 53 [(3, .int z_12), (0, .ref a0), (1, .int x0), (2, .int x1)] [] w4_ 0 0
        refine mp_run mp_k_cX9_tends_ok hF mp_tabX9_ok [mp_i (.iload_n 3)] (by decide +kernel) ?_
        show mp_W E X 4 54 [(3, .int z_12), (0, .ref a0), (1, .int x0), (2, .int x1)] [.int z_12] w4_ 0 0
        exact mp_iret hF hQ rfl rfl (Nat.le_of_ble_eq_true rfl) (Nat.le_of_ble_eq_true rfl) [0, 1, 3, 2] (w' := [(mp_ob9 a0 a4 a1 a5 a6 a7 a8 a9 a10 a11), (mp_ob0 a1 a2 y0 a12 a13 a14 a15 a16 a17), (mp_ob7 a2 y1 y2 y3 y4 y5 y6 a18 a19 a20 a21 a3 a22 a23 a24 a25 a26 a27 a28), (mp_arI E a3 0 6 g_15)]) rfl rfl (Or.inr ⟨g_15, z_12, rfl, (by first | (first | exact c_5 | omega) | decide), (by first | (first | exact c_6 | omega) | decide), (by first | (first | exact c_10 | omega) | decide), (by first | (first | exact c_11 | omega) | decide), (by first | (first | exact mp_o852 c_5 c_10 c_6 c_11 | omega) | decide | (have h8 : (0 : Int64).toInt = 0 := rfl; have h9 : (-1 : Int32).toInt = -1 := rfl; have h10 : (-2 : Int32).toInt = -2 := rfl; have h11 : (0 : Int32).toInt = 0 := rfl; have h12 : (1 : Int32).toInt = 1 := rfl; have h13 : (-5 : Int32).toInt = -5 := rfl; have h14 : (-3 : Int32).toInt = -3 := rfl; omega)), (by first | (first | exact e_14 | omega) | exact e_14), h_16, rfl⟩) (by first | exact mp_fd_ok mp_k_cX9_tends_ok (by decide +kernel) | decide +kernel)
      · have c_11 : 100 < x1.toInt := c_11
        show mp_W E X 4 24 [(0, .ref a0), (1, .int x0), (2, .int x1)] [] w3_ 0 0
        refine mp_run mp_k_cX9_tends_ok hF mp_tabX9_ok [mp_c (.bipush (-2)) (-2)] (by decide +kernel) ?_
        show mp_W E X 4 26 [(0, .ref a0), (1, .int x0), (2, .int x1)] [.int (-2)] w3_ 0 0
        exact mp_iret hF hQ rfl rfl (Nat.le_of_ble_eq_true rfl) (Nat.le_of_ble_eq_true rfl) [0, 1, 3, 2] (w' := w1_) rfl rfl (Or.inl ⟨rfl, (by first | (first | exact mp_o853 c_11 | omega) | decide | (have h8 : (0 : Int64).toInt = 0 := rfl; have h9 : (-1 : Int32).toInt = -1 := rfl; have h10 : (-2 : Int32).toInt = -2 := rfl; have h11 : (0 : Int32).toInt = 0 := rfl; have h12 : (1 : Int32).toInt = 1 := rfl; have h13 : (-5 : Int32).toInt = -5 := rfl; have h14 : (-3 : Int32).toInt = -3 := rfl; omega)), rfl⟩) (by first | exact mp_fd_ok mp_k_cX9_tends_ok (by decide +kernel) | decide +kernel)
set_option maxHeartbeats 4000000 in
set_option maxRecDepth 100000 in
theorem bX7_countSeas_174 (E : mp_E) (a0 a1 a2 a3 a4 a5 a6 a7 a8 a9 a10 a11 a12 : Nat) (f0 : Nat → Int32) (y0 : Int32) (y1 : Int32) (y2 : Int32) (y3 : Int32) (y4 : Int32) (y5 : Int32) (p0 : mp_all f0 36 0 20) (l_y1 : 0 ≤ y1.toInt) (u_y1 : y1.toInt ≤ 6) (l_y2 : 0 ≤ y2.toInt) (u_y2 : y2.toInt ≤ 99) (l_y3 : 0 ≤ y3.toInt) (u_y3 : y3.toInt ≤ 6) (l_y4 : 0 ≤ y4.toInt) (u_y4 : y4.toInt ≤ 10) (l_y5 : 0 ≤ y5.toInt) (u_y5 : y5.toInt ≤ 60) : mp_Ct E yX7_countSeas cX7_countSeas 3 (some FieldType.int) 0 0 0 0 [.ref a0] [(mp_ob7 a0 y0 y1 y2 y3 y4 y5 a1 a2 a3 a4 a5 a6 a7 a8 a9 a10 a11 a12), (mp_arI E a1 0 36 f0)] (fun v w' => ∃ r1 : Int32, v = some (.int r1) ∧ w' = [(mp_ob7 a0 y0 y1 y2 y3 y4 y5 a1 a2 a3 a4 a5 a6 a7 a8 a9 a10 a11 a12), (mp_arI E a1 0 36 f0)]) := by
  refine mp_met false (by decide) (by decide) (Nat.le_of_ble_eq_true rfl) (fun X hF hQ => ?_)
  have hF : mp_F E X (RX7, cX7_countSeas, 3, (0, 0, 0, 0), (some FieldType.int), false) := hF
  let w1_ : va_W := [(mp_ob7 a0 y0 y1 y2 y3 y4 y5 a1 a2 a3 a4 a5 a6 a7 a8 a9 a10 a11 a12), (mp_arI E a1 0 36 f0)]
  show mp_W E X 3 0 [(0, .ref a0)] [] w1_ 0 0
  refine mp_run mp_k_cX7_countSeas_ok hF mp_tabX7_ok [mp_c (.iconst 0) 0, mp_i (.istore_n 1), mp_c (.iconst 0) 0, mp_i (.istore_n 2)] (by decide +kernel) ?_
  show mp_W E X 3 4 [(2, .int 0), (1, .int 0), (0, .ref a0)] [] w1_ 0 0
  have lp_5 : ∀ (d_6 : Nat) (i_1 : Int32) (i_2 : Int32), 0 ≤ i_1.toInt → i_1.toInt ≤ 36 → -(i_1.toInt) + 36 ≤ (d_6 : Int) → mp_W E X 3 4 [(2, .int i_1), (1, .int i_2), (0, .ref a0)] [] [(mp_ob7 a0 y0 y1 y2 y3 y4 y5 a1 a2 a3 a4 a5 a6 a7 a8 a9 a10 a11 a12), (mp_arI E a1 0 36 f0)] 0 0 := by
    intro d_6
    induction d_6 using Nat.strongRecOn with
    | ind d_6 ih_7 =>
      intro i_1 i_2 l_3 u_4 hm_8
      refine mp_run mp_k_cX7_countSeas_ok hF mp_tabX7_ok [mp_i (.iload_n 2), mp_i (.aload_n 0), mp_h (.getfield 9) [6, 0], mp_h .arraylength [1, 0], mp_h (.if_icmp .ge 21) [31]] (by decide +kernel) ?_
      refine And.intro rfl (And.intro rfl ?_)
      refine And.intro rfl (And.intro rfl (And.intro (by decide) ?_))
      intro z_9 h_10
      obtain rfl : z_9 = 36 := h_10.trans (show Int32.ofNat 36 = (36 : Int32) by decide)
      refine And.intro (fun c_11 => ?_) (fun c_11 => ?_)
      · have c_11 : 36 ≤ i_1.toInt := c_11
        show mp_W E X 3 31 [(2, .int i_1), (1, .int i_2), (0, .ref a0)] [] w1_ 0 0
        refine mp_run mp_k_cX7_countSeas_ok hF mp_tabX7_ok [mp_i (.iload_n 1), mp_c (.iconst 2) 2, mp_i .idiv] (by decide +kernel) ?_
        refine And.intro (by decide) ?_
        intro z_12 h_13
        show mp_W E X 3 34 [(2, .int i_1), (1, .int i_2), (0, .ref a0)] [.int z_12] w1_ 0 0
        exact mp_iret hF hQ rfl rfl (Nat.le_of_ble_eq_true rfl) (Nat.le_of_ble_eq_true rfl) [0, 1] (w' := w1_) rfl rfl ⟨z_12, rfl, rfl⟩ (by first | exact mp_fd_ok mp_k_cX7_countSeas_ok (by decide +kernel) | decide +kernel)
      · have c_11 : i_1.toInt < 36 := c_11
        show mp_W E X 3 13 [(2, .int i_1), (1, .int i_2), (0, .ref a0)] [] w1_ 0 0
        refine mp_run mp_k_cX7_countSeas_ok hF mp_tabX7_ok [mp_i (.aload_n 0), mp_h (.getfield 9) [6, 0], mp_i (.iload_n 2), mp_h .iaload [1], mp_h (.ifCond .le 6) [25]] (by decide +kernel) ?_
        refine And.intro rfl (And.intro rfl ?_)
        refine And.intro rfl (And.intro rfl (And.intro (vp_in_iff.mpr (by (first | exact mp_o48 l_3 c_11 | omega))) ?_))
        intro z_15 h_16
        have e_17 : 0 ≤ z_15.toInt ∧ z_15.toInt ≤ 20 := mp_all_ld h_16 p0 (by (first | exact l_3 | omega)) (by (first | exact c_11 | omega))
        refine And.intro (fun c_18 => ?_) (fun c_18 => ?_)
        · have c_18 : z_15.toInt ≤ 0 := c_18
          show mp_W E X 3 25 [(2, .int i_1), (1, .int i_2), (0, .ref a0)] [] w1_ 0 0
          refine mp_run mp_k_cX7_countSeas_ok hF mp_tabX7_ok [mp_c (.iinc 2 1) 1, mp_h (.goto (-24)) [4]] (by decide +kernel) ?_
          intro z_19 h_20
          have e_21 : z_19.toInt = i_1.toInt + 1 := mp_add (a := i_1.toInt) (b := 1) h_20 rfl (by decide) (by (first | exact mp_o2 l_3 | omega)) (by (first | exact mp_o49 c_11 | omega))
          show mp_W E X 3 4 [(2, .int z_19), (1, .int i_2), (0, .ref a0)] [] w1_ 0 0
          exact mp_sub [0, 1, 2] rfl [0, 1] rfl rfl (ih_7 (d_6 - 1) (by (first | exact mp_o50 hm_8 c_11 | omega)) z_19 i_2 (by (first | exact mp_o51 l_3 e_21 | omega)) (by (first | exact mp_o52 c_11 e_21 | omega)) (by (first | exact mp_o54 hm_8 e_21 | omega)))
        · have c_18 : 0 < z_15.toInt := c_18
          show mp_W E X 3 22 [(2, .int i_1), (1, .int i_2), (0, .ref a0)] [] w1_ 0 0
          refine mp_run mp_k_cX7_countSeas_ok hF mp_tabX7_ok [mp_c (.iinc 1 1) 1, mp_c (.iinc 2 1) 1, mp_h (.goto (-24)) [4]] (by decide +kernel) ?_
          intro z_22 h_23
          have e_24 := mp_bnd i_2
          intro z_26 h_27
          have e_28 : z_26.toInt = i_1.toInt + 1 := mp_add (a := i_1.toInt) (b := 1) h_27 rfl (by decide) (by (first | exact mp_o2 l_3 | omega)) (by (first | exact mp_o49 c_11 | omega))
          show mp_W E X 3 4 [(2, .int z_26), (1, .int z_22), (0, .ref a0)] [] w1_ 0 0
          exact mp_sub [0, 1, 2] rfl [0, 1] rfl rfl (ih_7 (d_6 - 1) (by (first | exact mp_o50 hm_8 c_11 | omega)) z_26 z_22 (by (first | exact mp_o51 l_3 e_28 | omega)) (by (first | exact mp_o52 c_11 e_28 | omega)) (by (first | exact mp_o54 hm_8 e_28 | omega)))
  exact mp_sub [0, 1, 2] rfl [0, 1] rfl rfl (lp_5 _ 0 0 (by decide) (by decide) (Int.self_le_toNat _))
set_option maxHeartbeats 4000000 in
set_option maxRecDepth 100000 in
theorem bJ13_bitCount_95d88_175 (E : mp_E) (x0 : Int64) : mp_Ct E yJ13_bitCount_95d88 cJ13_bitCount_95d88 2 (some FieldType.int) 0 0 0 0 [.long x0] [] (fun v w' => ∃ r1 : Int32, v = some (.int r1) ∧ w' = []) := by
  refine mp_met false (by decide) (by decide) (Nat.le_of_ble_eq_true rfl) (fun X hF hQ => ?_)
  have hF : mp_F E X (RJ13, cJ13_bitCount_95d88, 2, (0, 0, 0, 0), (some FieldType.int), false) := hF
  show mp_W E X 2 0 [(0, .long x0)] [] [] 0 0
  refine mp_run mp_k_cJ13_bitCount_95d88_ok hF mp_tabJ13_ok [mp_i (.lload_n 0), mp_i (.lload_n 0), mp_c (.iconst 1) 1] (by decide +kernel) ?_
  show mp_W E X 2 3 [(0, .long x0)] [.int 1, .long x0, .long x0] [] 0 0
  refine mp_lushr hF (by first | exact mp_fd_ok mp_k_cJ13_bitCount_95d88_ok (by decide +kernel) | decide +kernel) (fun z_1 h_2 => ?_)
  show mp_W E X 2 4 [(0, .long x0)] [.long z_1, .long x0] [] 0 0
  refine mp_run mp_k_cJ13_bitCount_95d88_ok hF mp_tabJ13_ok [mp_cl (.ldc2_w 314) 6148914691236517205, mp_i .land, mp_i .lsub, mp_i (.lstore_n 0), mp_i (.lload_n 0), mp_cl (.ldc2_w 316) 3689348814741910323, mp_i .land, mp_i (.lload_n 0), mp_c (.iconst 2) 2] (by decide +kernel) ?_
  intro z_3 h_4
  intro z_5 h_6
  intro z_7 h_8
  show mp_W E X 2 17 [(0, .long z_5)] [.int 2, .long z_5, .long z_7] [] 0 0
  refine mp_lushr hF (by first | exact mp_fd_ok mp_k_cJ13_bitCount_95d88_ok (by decide +kernel) | decide +kernel) (fun z_9 h_10 => ?_)
  show mp_W E X 2 18 [(0, .long z_5)] [.long z_9, .long z_7] [] 0 0
  refine mp_run mp_k_cJ13_bitCount_95d88_ok hF mp_tabJ13_ok [mp_cl (.ldc2_w 316) 3689348814741910323, mp_i .land, mp_i .ladd, mp_i (.lstore_n 0), mp_i (.lload_n 0), mp_i (.lload_n 0), mp_c (.iconst 4) 4] (by decide +kernel) ?_
  intro z_11 h_12
  intro z_13 h_14
  show mp_W E X 2 27 [(0, .long z_13)] [.int 4, .long z_13, .long z_13] [] 0 0
  refine mp_lushr hF (by first | exact mp_fd_ok mp_k_cJ13_bitCount_95d88_ok (by decide +kernel) | decide +kernel) (fun z_15 h_16 => ?_)
  show mp_W E X 2 28 [(0, .long z_13)] [.long z_15, .long z_13] [] 0 0
  refine mp_run mp_k_cJ13_bitCount_95d88_ok hF mp_tabJ13_ok [mp_i .ladd, mp_cl (.ldc2_w 318) 1085102592571150095, mp_i .land, mp_i (.lstore_n 0), mp_i (.lload_n 0), mp_i (.lload_n 0), mp_c (.bipush 8) 8] (by decide +kernel) ?_
  intro z_17 h_18
  intro z_19 h_20
  show mp_W E X 2 38 [(0, .long z_19)] [.int 8, .long z_19, .long z_19] [] 0 0
  refine mp_lushr hF (by first | exact mp_fd_ok mp_k_cJ13_bitCount_95d88_ok (by decide +kernel) | decide +kernel) (fun z_21 h_22 => ?_)
  show mp_W E X 2 39 [(0, .long z_19)] [.long z_21, .long z_19] [] 0 0
  refine mp_run mp_k_cJ13_bitCount_95d88_ok hF mp_tabJ13_ok [mp_i .ladd, mp_i (.lstore_n 0), mp_i (.lload_n 0), mp_i (.lload_n 0), mp_c (.bipush 16) 16] (by decide +kernel) ?_
  intro z_23 h_24
  show mp_W E X 2 45 [(0, .long z_23)] [.int 16, .long z_23, .long z_23] [] 0 0
  refine mp_lushr hF (by first | exact mp_fd_ok mp_k_cJ13_bitCount_95d88_ok (by decide +kernel) | decide +kernel) (fun z_25 h_26 => ?_)
  show mp_W E X 2 46 [(0, .long z_23)] [.long z_25, .long z_23] [] 0 0
  refine mp_run mp_k_cJ13_bitCount_95d88_ok hF mp_tabJ13_ok [mp_i .ladd, mp_i (.lstore_n 0), mp_i (.lload_n 0), mp_i (.lload_n 0), mp_c (.bipush 32) 32] (by decide +kernel) ?_
  intro z_27 h_28
  show mp_W E X 2 52 [(0, .long z_27)] [.int 32, .long z_27, .long z_27] [] 0 0
  refine mp_lushr hF (by first | exact mp_fd_ok mp_k_cJ13_bitCount_95d88_ok (by decide +kernel) | decide +kernel) (fun z_29 h_30 => ?_)
  show mp_W E X 2 53 [(0, .long z_27)] [.long z_29, .long z_27] [] 0 0
  refine mp_run mp_k_cJ13_bitCount_95d88_ok hF mp_tabJ13_ok [mp_i .ladd, mp_i (.lstore_n 0), mp_i (.lload_n 0), mp_i .l2i, mp_c (.bipush 127) 127, mp_i .iand] (by decide +kernel) ?_
  intro z_31 h_32
  intro z_33 h_34
  intro z_35 h_36
  show mp_W E X 2 60 [(0, .long z_31)] [.int z_35] [] 0 0
  exact mp_iret hF hQ rfl rfl (Nat.le_of_ble_eq_true rfl) (Nat.le_of_ble_eq_true rfl) [] (w' := []) rfl rfl ⟨z_35, rfl, rfl⟩ (by first | exact mp_fd_ok mp_k_cJ13_bitCount_95d88_ok (by decide +kernel) | decide +kernel)
set_option maxHeartbeats 4000000 in
set_option maxRecDepth 100000 in
theorem bX7_countShut_176 (E : mp_E) (a0 a1 a2 a3 a4 a5 a6 a7 a8 a9 a10 a11 a12 : Nat) (f0 : Nat → Int64) (y0 : Int32) (y1 : Int32) (y2 : Int32) (y3 : Int32) (y4 : Int32) (y5 : Int32) (l_y1 : 0 ≤ y1.toInt) (u_y1 : y1.toInt ≤ 6) (l_y2 : 0 ≤ y2.toInt) (u_y2 : y2.toInt ≤ 99) (l_y3 : 0 ≤ y3.toInt) (u_y3 : y3.toInt ≤ 6) (l_y4 : 0 ≤ y4.toInt) (u_y4 : y4.toInt ≤ 10) (l_y5 : 0 ≤ y5.toInt) (u_y5 : y5.toInt ≤ 60) : mp_Ct E yX7_countShut cX7_countShut 3 (some FieldType.int) 1 0 0 21 [.ref a0] [(mp_ob7 a0 y0 y1 y2 y3 y4 y5 a2 a1 a3 a4 a5 a6 a7 a8 a9 a10 a11 a12), (mp_arL E a1 12 f0)] (fun v w' => ∃ r1 : Int32, v = some (.int r1) ∧ w' = [(mp_ob7 a0 y0 y1 y2 y3 y4 y5 a2 a1 a3 a4 a5 a6 a7 a8 a9 a10 a11 a12), (mp_arL E a1 12 f0)]) := by
  refine mp_met false (by decide) (by decide) (Nat.le_of_ble_eq_true rfl) (fun X hF hQ => ?_)
  have hF : mp_F E X (RX7, cX7_countShut, 3, (1, 0, 0, 21), (some FieldType.int), false) := hF
  let w1_ : va_W := [(mp_ob7 a0 y0 y1 y2 y3 y4 y5 a2 a1 a3 a4 a5 a6 a7 a8 a9 a10 a11 a12), (mp_arL E a1 12 f0)]
  show mp_W E X 3 0 [(0, .ref a0)] [] w1_ 0 0
  refine mp_run mp_k_cX7_countShut_ok hF mp_tabX7_ok [mp_c (.iconst 0) 0, mp_i (.istore_n 1), mp_c (.iconst 0) 0, mp_i (.istore_n 2)] (by decide +kernel) ?_
  show mp_W E X 3 4 [(2, .int 0), (1, .int 0), (0, .ref a0)] [] w1_ 0 0
  have lp_5 : ∀ (d_6 : Nat) (i_1 : Int32) (i_2 : Int32), 0 ≤ i_1.toInt → i_1.toInt ≤ 12 → -(i_1.toInt) + 12 ≤ (d_6 : Int) → mp_W E X 3 4 [(2, .int i_1), (1, .int i_2), (0, .ref a0)] [] [(mp_ob7 a0 y0 y1 y2 y3 y4 y5 a2 a1 a3 a4 a5 a6 a7 a8 a9 a10 a11 a12), (mp_arL E a1 12 f0)] 0 0 := by
    intro d_6
    induction d_6 using Nat.strongRecOn with
    | ind d_6 ih_7 =>
      intro i_1 i_2 l_3 u_4 hm_8
      refine mp_run mp_k_cX7_countShut_ok hF mp_tabX7_ok [mp_i (.iload_n 2), mp_i (.aload_n 0), mp_h (.getfield 15) [7, 0], mp_h .arraylength [1, 2], mp_h (.if_icmp .ge 21) [31]] (by decide +kernel) ?_
      refine And.intro rfl (And.intro rfl ?_)
      refine And.intro rfl (And.intro rfl (And.intro (by decide) ?_))
      intro z_9 h_10
      obtain rfl : z_9 = 12 := h_10.trans (show Int32.ofNat 12 = (12 : Int32) by decide)
      refine And.intro (fun c_11 => ?_) (fun c_11 => ?_)
      · have c_11 : 12 ≤ i_1.toInt := c_11
        show mp_W E X 3 31 [(2, .int i_1), (1, .int i_2), (0, .ref a0)] [] w1_ 0 0
        refine mp_run mp_k_cX7_countShut_ok hF mp_tabX7_ok [mp_i (.iload_n 1)] (by decide +kernel) ?_
        show mp_W E X 3 32 [(2, .int i_1), (1, .int i_2), (0, .ref a0)] [.int i_2] w1_ 0 0
        exact mp_iret hF hQ rfl rfl (Nat.le_of_ble_eq_true rfl) (Nat.le_of_ble_eq_true rfl) [0, 1] (w' := w1_) rfl rfl ⟨i_2, rfl, rfl⟩ (by first | exact mp_fd_ok mp_k_cX7_countShut_ok (by decide +kernel) | decide +kernel)
      · have c_11 : i_1.toInt < 12 := c_11
        show mp_W E X 3 13 [(2, .int i_1), (1, .int i_2), (0, .ref a0)] [] w1_ 0 0
        refine mp_run mp_k_cX7_countShut_ok hF mp_tabX7_ok [mp_i (.iload_n 1), mp_i (.aload_n 0), mp_h (.getfield 15) [7, 0], mp_i (.iload_n 2), mp_h .laload [1]] (by decide +kernel) ?_
        refine And.intro rfl (And.intro rfl ?_)
        refine And.intro rfl (And.intro rfl (And.intro (vp_in_iff.mpr (by (first | exact mp_o56 l_3 c_11 | omega))) ?_))
        intro z_12 h_13
        show mp_W E X 3 20 [(2, .int i_1), (1, .int i_2), (0, .ref a0)] [.long z_12, .int i_2] w1_ 0 0
        refine mp_callS hF (As := [.long z_12]) (rest := [.int i_2]) (wr := w1_) (bJ13_bitCount_95d88_175 E z_12) mp_lkX7_85 [] [0, 1] rfl rfl rfl rfl rfl ⟨(Nat.le_of_ble_eq_true rfl), (Nat.le_of_ble_eq_true rfl), (Nat.le_of_ble_eq_true rfl), (Nat.le_of_ble_eq_true rfl)⟩ (Nat.le_of_ble_eq_true rfl) (by first | exact mp_fd_ok mp_k_cX7_countShut_ok (by decide +kernel) | decide +kernel) (fun v_14 w_15 h_16 => ?_)
        obtain ⟨r_17, rfl, rfl⟩ := h_16
        show mp_W E X 3 23 [(2, .int i_1), (1, .int i_2), (0, .ref a0)] [.int r_17, .int i_2] w1_ 0 0
        refine mp_run mp_k_cX7_countShut_ok hF mp_tabX7_ok [mp_i .iadd, mp_i (.istore_n 1), mp_c (.iinc 2 1) 1, mp_h (.goto (-24)) [4]] (by decide +kernel) ?_
        intro z_18 h_19
        intro z_21 h_22
        have e_23 : z_21.toInt = i_1.toInt + 1 := mp_add (a := i_1.toInt) (b := 1) h_22 rfl (by decide) (by (first | exact mp_o2 l_3 | omega)) (by (first | exact mp_o57 c_11 | omega))
        show mp_W E X 3 4 [(2, .int z_21), (1, .int z_18), (0, .ref a0)] [] w1_ 0 0
        exact mp_sub [0, 1, 2] rfl [0, 1] rfl rfl (ih_7 (d_6 - 1) (by (first | exact mp_o58 hm_8 c_11 | omega)) z_21 z_18 (by (first | exact mp_o51 l_3 e_23 | omega)) (by (first | exact mp_o59 c_11 e_23 | omega)) (by (first | exact mp_o60 hm_8 e_23 | omega)))
  exact mp_sub [0, 1, 2] rfl [0, 1] rfl rfl (lp_5 _ 0 0 (by decide) (by decide) (Int.self_le_toNat _))
set_option maxHeartbeats 4000000 in
set_option maxRecDepth 100000 in
theorem bX5_countTaken_177 (E : mp_E) (a0 a1 a2 a3 : Nat) (f0 : Nat → Int32) (p0 : mp_all f0 4 (-1) 60) : mp_Ct E yX5_countTaken cX5_countTaken 3 (some FieldType.int) 1 0 0 21 [.ref a0] [(mp_ob5 a0 a2 a3 a1), (mp_arI E a1 0 4 f0)] (fun v w' => ∃ r1 : Int32, v = some (.int r1) ∧ w' = [(mp_ob5 a0 a2 a3 a1), (mp_arI E a1 0 4 f0)]) := by
  refine mp_met false (by decide) (by decide) (Nat.le_of_ble_eq_true rfl) (fun X hF hQ => ?_)
  have hF : mp_F E X (RX5, cX5_countTaken, 3, (1, 0, 0, 21), (some FieldType.int), false) := hF
  show mp_W E X 3 0 [(0, .ref a0)] [] [(mp_ob5 a0 a2 a3 a1), (mp_arI E a1 0 4 f0)] 0 0
  refine mp_run mp_k_cX5_countTaken_ok hF mp_tabX5_ok [mp_c (.iconst 0) 0, mp_i (.istore_n 1), mp_c (.iconst 0) 0, mp_i (.istore_n 2)] (by decide +kernel) ?_
  show mp_W E X 3 4 [(2, .int 0), (1, .int 0), (0, .ref a0)] [] [(mp_ob5 a0 a2 a3 a1), (mp_arI E a1 0 4 f0)] 0 0
  have lp_5 : ∀ (d_6 : Nat) (i_1 : Int32) (i_2 : Int32), 0 ≤ i_1.toInt → i_1.toInt ≤ 5 → -(i_1.toInt) + 4 ≤ (d_6 : Int) → mp_W E X 3 4 [(2, .int i_1), (1, .int i_2), (0, .ref a0)] [] [(mp_ob5 a0 a2 a3 a1), (mp_arI E a1 0 4 f0)] 0 0 := by
    intro d_6
    induction d_6 using Nat.strongRecOn with
    | ind d_6 ih_7 =>
      intro i_1 i_2 l_3 u_4 hm_8
      refine mp_run mp_k_cX5_countTaken_ok hF mp_tabX5_ok [mp_i (.iload_n 2), mp_c (.iconst 4) 4, mp_h (.if_icmp .ge 20) [26]] (by decide +kernel) ?_
      refine And.intro (fun c_9 => ?_) (fun c_9 => ?_)
      · have c_9 : 4 ≤ i_1.toInt := c_9
        show mp_W E X 3 26 [(2, .int i_1), (1, .int i_2), (0, .ref a0)] [] [(mp_ob5 a0 a2 a3 a1), (mp_arI E a1 0 4 f0)] 0 0
        refine mp_run mp_k_cX5_countTaken_ok hF mp_tabX5_ok [mp_i (.iload_n 1)] (by decide +kernel) ?_
        show mp_W E X 3 27 [(2, .int i_1), (1, .int i_2), (0, .ref a0)] [.int i_2] [(mp_ob5 a0 a2 a3 a1), (mp_arI E a1 0 4 f0)] 0 0
        exact mp_iret hF hQ rfl rfl (Nat.le_of_ble_eq_true rfl) (Nat.le_of_ble_eq_true rfl) [0, 1] (w' := [(mp_ob5 a0 a2 a3 a1), (mp_arI E a1 0 4 f0)]) rfl rfl ⟨i_2, rfl, rfl⟩ (by first | exact mp_fd_ok mp_k_cX5_countTaken_ok (by decide +kernel) | decide +kernel)
      · have c_9 : i_1.toInt < 4 := c_9
        show mp_W E X 3 9 [(2, .int i_1), (1, .int i_2), (0, .ref a0)] [] [(mp_ob5 a0 a2 a3 a1), (mp_arI E a1 0 4 f0)] 0 0
        refine mp_run mp_k_cX5_countTaken_ok hF mp_tabX5_ok [mp_i (.aload_n 0), mp_i (.iload_n 2)] (by decide +kernel) ?_
        show mp_W E X 3 11 [(2, .int i_1), (1, .int i_2), (0, .ref a0)] [.int i_1, .ref a0] [(mp_ob5 a0 a2 a3 a1), (mp_arI E a1 0 4 f0)] 0 0
        refine mp_callV hF (As := [.int i_1]) (rest := []) (wr := []) (bX5_isTaken_139 E a0 a1 a2 a3 f0 i_1 p0 l_3 (by (first | exact mp_o693 c_9 | omega))) mp_lkX5_22 0 rfl [0, 1] [] rfl rfl rfl rfl rfl ⟨(Nat.le_of_ble_eq_true rfl), (Nat.le_of_ble_eq_true rfl), (Nat.le_of_ble_eq_true rfl), (Nat.le_of_ble_eq_true rfl)⟩ (Nat.le_of_ble_eq_true rfl) (by first | exact mp_fd_ok mp_k_cX5_countTaken_ok (by decide +kernel) | decide +kernel) (fun v_10 w_11 h_12 => ?_)
        rcases h_12 with ⟨rfl, x_13, rfl⟩ | ⟨rfl, x_14, rfl⟩
        · skip
          show mp_W E X 3 14 [(2, .int i_1), (1, .int i_2), (0, .ref a0)] [.int 0] [(mp_ob5 a0 a2 a3 a1), (mp_arI E a1 0 4 f0)] 0 0
          refine mp_run mp_k_cX5_countTaken_ok hF mp_tabX5_ok [mp_h (.ifCond .eq 6) [20]] (by decide +kernel) ?_
          refine And.intro (fun _ => ?_) (fun c_15 => absurd c_15 (by decide))
          show mp_W E X 3 20 [(2, .int i_1), (1, .int i_2), (0, .ref a0)] [] [(mp_ob5 a0 a2 a3 a1), (mp_arI E a1 0 4 f0)] 0 0
          refine mp_run mp_k_cX5_countTaken_ok hF mp_tabX5_ok [mp_c (.iinc 2 1) 1, mp_h (.goto (-19)) [4]] (by decide +kernel) ?_
          intro z_16 h_17
          have e_18 : z_16.toInt = i_1.toInt + 1 := mp_add (a := i_1.toInt) (b := 1) h_17 rfl (by decide) (by (first | exact mp_o2 l_3 | omega)) (by (first | exact mp_o854 c_9 | omega))
          show mp_W E X 3 4 [(2, .int z_16), (1, .int i_2), (0, .ref a0)] [] [(mp_ob5 a0 a2 a3 a1), (mp_arI E a1 0 4 f0)] 0 0
          exact mp_sub [0, 1, 2] rfl [0, 1] rfl rfl (ih_7 (d_6 - 1) (by (first | exact mp_o855 hm_8 c_9 | omega)) z_16 i_2 (by (first | exact mp_o51 l_3 e_18 | omega)) (by (first | exact mp_o856 c_9 e_18 | omega)) (by (first | exact mp_o857 hm_8 e_18 | omega)))
        · skip
          show mp_W E X 3 14 [(2, .int i_1), (1, .int i_2), (0, .ref a0)] [.int 1] [(mp_ob5 a0 a2 a3 a1), (mp_arI E a1 0 4 f0)] 0 0
          refine mp_run mp_k_cX5_countTaken_ok hF mp_tabX5_ok [mp_h (.ifCond .eq 6) [20]] (by decide +kernel) ?_
          refine And.intro (fun c_19 => absurd c_19 (by decide)) (fun _ => ?_)
          show mp_W E X 3 17 [(2, .int i_1), (1, .int i_2), (0, .ref a0)] [] [(mp_ob5 a0 a2 a3 a1), (mp_arI E a1 0 4 f0)] 0 0
          refine mp_run mp_k_cX5_countTaken_ok hF mp_tabX5_ok [mp_c (.iinc 1 1) 1, mp_c (.iinc 2 1) 1, mp_h (.goto (-19)) [4]] (by decide +kernel) ?_
          intro z_20 h_21
          have e_22 := mp_bnd i_2
          intro z_24 h_25
          have e_26 : z_24.toInt = i_1.toInt + 1 := mp_add (a := i_1.toInt) (b := 1) h_25 rfl (by decide) (by (first | exact mp_o2 l_3 | omega)) (by (first | exact mp_o854 c_9 | omega))
          show mp_W E X 3 4 [(2, .int z_24), (1, .int z_20), (0, .ref a0)] [] [(mp_ob5 a0 a2 a3 a1), (mp_arI E a1 0 4 f0)] 0 0
          exact mp_sub [0, 1, 2] rfl [0, 1] rfl rfl (ih_7 (d_6 - 1) (by (first | exact mp_o855 hm_8 c_9 | omega)) z_24 z_20 (by (first | exact mp_o51 l_3 e_26 | omega)) (by (first | exact mp_o856 c_9 e_26 | omega)) (by (first | exact mp_o857 hm_8 e_26 | omega)))
  exact mp_sub [0, 1, 2] rfl [0, 1] rfl rfl (lp_5 _ 0 0 (by decide) (by decide) (Int.self_le_toNat _))
set_option maxHeartbeats 4000000 in
set_option maxRecDepth 100000 in
theorem bX9_count_178 (E : mp_E) (a0 a1 a2 a3 a4 a5 a6 a7 a8 a9 a10 a11 a12 a13 a14 a15 a16 a17 a18 a19 a20 a21 a22 a23 a24 a25 a26 a27 a28 a29 a30 a31 a32 a33 : Nat) (f0 : Nat → Int32) (f1 : Nat → Int64) (f2 : Nat → Int32) (y0 : Int32) (y1 : Int32) (y2 : Int32) (y3 : Int32) (y4 : Int32) (y5 : Int32) (y6 : Int32) (y7 : Int32) (y8 : Int32) (y9 : Int32) (y10 : Int32) (y11 : Int32) (y12 : Int32) (y13 : Int32) (y14 : Int32) (x0 : Int32) (p0 : mp_all f0 36 0 20) (p1 : mp_all f2 4 (-1) 60) (l_y0 : 0 ≤ y0.toInt) (u_y0 : y0.toInt ≤ 1600) (l_y4 : 0 ≤ y4.toInt) (u_y4 : y4.toInt ≤ 1600) (l_y5 : 0 ≤ y5.toInt) (u_y5 : y5.toInt ≤ 1600) (l_y8 : 0 ≤ y8.toInt) (u_y8 : y8.toInt ≤ 99) (l_y10 : 0 ≤ y10.toInt) (u_y10 : y10.toInt ≤ 6) (l_y11 : 0 ≤ y11.toInt) (u_y11 : y11.toInt ≤ 99) (l_y12 : 0 ≤ y12.toInt) (u_y12 : y12.toInt ≤ 6) (l_y13 : 0 ≤ y13.toInt) (u_y13 : y13.toInt ≤ 10) (l_y14 : 0 ≤ y14.toInt) (u_y14 : y14.toInt ≤ 60) : mp_Ct E yX9_count cX9_count 3 (some FieldType.int) 2 0 0 43 [.ref a0, .int x0] [(mp_ob9 a0 a1 a2 a8 a9 a10 a11 a12 a13 a6), (mp_ob3 a1 a14 y0 a15 y1 y2 y3 y4 y5 y6 y7), (mp_ob0 a2 a3 y8 a16 a17 a18 a19 a20 a21), (mp_ob7 a3 y9 y10 y11 y12 y13 y14 a4 a5 a22 a23 a24 a25 a26 a27 a28 a29 a30 a31), (mp_arI E a4 0 36 f0), (mp_arL E a5 12 f1), (mp_ob5 a6 a32 a33 a7), (mp_arI E a7 0 4 f2)] (fun v w' => ∃ r1 : Int32, v = some (.int r1) ∧ w' = [(mp_ob9 a0 a1 a2 a8 a9 a10 a11 a12 a13 a6), (mp_ob3 a1 a14 y0 a15 y1 y2 y3 y4 y5 y6 y7), (mp_ob0 a2 a3 y8 a16 a17 a18 a19 a20 a21), (mp_ob7 a3 y9 y10 y11 y12 y13 y14 a4 a5 a22 a23 a24 a25 a26 a27 a28 a29 a30 a31), (mp_arI E a4 0 36 f0), (mp_arL E a5 12 f1), (mp_ob5 a6 a32 a33 a7), (mp_arI E a7 0 4 f2)]) := by
  refine mp_met false (by decide) (by decide) (Nat.le_of_ble_eq_true rfl) (fun X hF hQ => ?_)
  have hF : mp_F E X (RX9, cX9_count, 3, (2, 0, 0, 43), (some FieldType.int), false) := hF
  let w1_ : va_W := [(mp_ob9 a0 a1 a2 a8 a9 a10 a11 a12 a13 a6), (mp_ob3 a1 a14 y0 a15 y1 y2 y3 y4 y5 y6 y7), (mp_ob0 a2 a3 y8 a16 a17 a18 a19 a20 a21), (mp_ob7 a3 y9 y10 y11 y12 y13 y14 a4 a5 a22 a23 a24 a25 a26 a27 a28 a29 a30 a31), (mp_arI E a4 0 36 f0), (mp_arL E a5 12 f1), (mp_ob5 a6 a32 a33 a7), (mp_arI E a7 0 4 f2)]
  show mp_W E X 3 0 [(0, .ref a0), (1, .int x0)] [] w1_ 0 0
  refine mp_run mp_k_cX9_count_ok hF mp_tabX9_ok [mp_i (.aload_n 0), mp_h (.getfield 19) [37, 0], mp_h (.getfield 83) [20, 2], mp_i (.astore_n 2), mp_i (.iload_n 1)] (by decide +kernel) ?_
  refine And.intro rfl (And.intro rfl ?_)
  refine And.intro rfl (And.intro rfl ?_)
  show mp_W E X 3 9 [(2, .ref a3), (0, .ref a0), (1, .int x0)] [.int x0] w1_ 0 0
  rcases (mp_swc_0_9 x0.toInt) with c_1 | c_1 | c_1 | c_1 | c_1 | c_1 | c_1 | c_1 | c_1 | c_1 | c_1 | c_1
  · refine mp_tabOut hF (dflt := 111) (lo := 0) (hi := 9) (offs := #[55, 60, 65, 70, 75, 80, 85, 90, 98, 103]) (len := 55) (by first | exact mp_fd_ok mp_k_cX9_count_ok (by decide +kernel) | decide +kernel) (Or.inl c_1) (tgt := 120) (by decide) ?_
    show mp_W E X 3 120 [(2, .ref a3), (0, .ref a0), (1, .int x0)] [] w1_ 0 0
    refine mp_run mp_k_cX9_count_ok hF mp_tabX9_ok [mp_c (.iconst (-1)) (-1)] (by decide +kernel) ?_
    show mp_W E X 3 121 [(2, .ref a3), (0, .ref a0), (1, .int x0)] [.int (-1)] w1_ 0 0
    exact mp_iret hF hQ rfl rfl (Nat.le_of_ble_eq_true rfl) (Nat.le_of_ble_eq_true rfl) [0, 1, 2, 3, 4, 5, 6, 7] (w' := w1_) rfl rfl ⟨(-1), rfl, rfl⟩ (by first | exact mp_fd_ok mp_k_cX9_count_ok (by decide +kernel) | decide +kernel)
  · refine mp_tabOut hF (dflt := 111) (lo := 0) (hi := 9) (offs := #[55, 60, 65, 70, 75, 80, 85, 90, 98, 103]) (len := 55) (by first | exact mp_fd_ok mp_k_cX9_count_ok (by decide +kernel) | decide +kernel) (Or.inr c_1) (tgt := 120) (by decide) ?_
    show mp_W E X 3 120 [(2, .ref a3), (0, .ref a0), (1, .int x0)] [] w1_ 0 0
    refine mp_run mp_k_cX9_count_ok hF mp_tabX9_ok [mp_c (.iconst (-1)) (-1)] (by decide +kernel) ?_
    show mp_W E X 3 121 [(2, .ref a3), (0, .ref a0), (1, .int x0)] [.int (-1)] w1_ 0 0
    exact mp_iret hF hQ rfl rfl (Nat.le_of_ble_eq_true rfl) (Nat.le_of_ble_eq_true rfl) [0, 1, 2, 3, 4, 5, 6, 7] (w' := w1_) rfl rfl ⟨(-1), rfl, rfl⟩ (by first | exact mp_fd_ok mp_k_cX9_count_ok (by decide +kernel) | decide +kernel)
  · refine mp_tabIn hF (dflt := 111) (lo := 0) (hi := 9) (offs := #[55, 60, 65, 70, 75, 80, 85, 90, 98, 103]) (len := 55) (off := 55) (tgt := 64) (by first | exact mp_fd_ok mp_k_cX9_count_ok (by decide +kernel) | decide +kernel) (by omega) (by omega) (by rw [c_1]; rfl) (by decide) ?_
    show mp_W E X 3 64 [(2, .ref a3), (0, .ref a0), (1, .int x0)] [] w1_ 0 0
    refine mp_run mp_k_cX9_count_ok hF mp_tabX9_ok [mp_i (.aload_n 2), mp_h (.getfield 220) [1, 3]] (by decide +kernel) ?_
    refine And.intro rfl (And.intro rfl ?_)
    show mp_W E X 3 68 [(2, .ref a3), (0, .ref a0), (1, .int x0)] [.int y10] w1_ 0 0
    exact mp_iret hF hQ rfl rfl (Nat.le_of_ble_eq_true rfl) (Nat.le_of_ble_eq_true rfl) [0, 1, 2, 3, 4, 5, 6, 7] (w' := w1_) rfl rfl ⟨y10, rfl, rfl⟩ (by first | exact mp_fd_ok mp_k_cX9_count_ok (by decide +kernel) | decide +kernel)
  · refine mp_tabIn hF (dflt := 111) (lo := 0) (hi := 9) (offs := #[55, 60, 65, 70, 75, 80, 85, 90, 98, 103]) (len := 55) (off := 60) (tgt := 69) (by first | exact mp_fd_ok mp_k_cX9_count_ok (by decide +kernel) | decide +kernel) (by omega) (by omega) (by rw [c_1]; rfl) (by decide) ?_
    show mp_W E X 3 69 [(2, .ref a3), (0, .ref a0), (1, .int x0)] [] w1_ 0 0
    refine mp_run mp_k_cX9_count_ok hF mp_tabX9_ok [mp_i (.aload_n 2), mp_h (.getfield 337) [3, 3]] (by decide +kernel) ?_
    refine And.intro rfl (And.intro rfl ?_)
    show mp_W E X 3 73 [(2, .ref a3), (0, .ref a0), (1, .int x0)] [.int y12] w1_ 0 0
    exact mp_iret hF hQ rfl rfl (Nat.le_of_ble_eq_true rfl) (Nat.le_of_ble_eq_true rfl) [0, 1, 2, 3, 4, 5, 6, 7] (w' := w1_) rfl rfl ⟨y12, rfl, rfl⟩ (by first | exact mp_fd_ok mp_k_cX9_count_ok (by decide +kernel) | decide +kernel)
  · refine mp_tabIn hF (dflt := 111) (lo := 0) (hi := 9) (offs := #[55, 60, 65, 70, 75, 80, 85, 90, 98, 103]) (len := 55) (off := 65) (tgt := 74) (by first | exact mp_fd_ok mp_k_cX9_count_ok (by decide +kernel) | decide +kernel) (by omega) (by omega) (by rw [c_1]; rfl) (by decide) ?_
    show mp_W E X 3 74 [(2, .ref a3), (0, .ref a0), (1, .int x0)] [] w1_ 0 0
    refine mp_run mp_k_cX9_count_ok hF mp_tabX9_ok [mp_i (.aload_n 2), mp_h (.getfield 196) [4, 3]] (by decide +kernel) ?_
    refine And.intro rfl (And.intro rfl ?_)
    show mp_W E X 3 78 [(2, .ref a3), (0, .ref a0), (1, .int x0)] [.int y13] w1_ 0 0
    exact mp_iret hF hQ rfl rfl (Nat.le_of_ble_eq_true rfl) (Nat.le_of_ble_eq_true rfl) [0, 1, 2, 3, 4, 5, 6, 7] (w' := w1_) rfl rfl ⟨y13, rfl, rfl⟩ (by first | exact mp_fd_ok mp_k_cX9_count_ok (by decide +kernel) | decide +kernel)
  · refine mp_tabIn hF (dflt := 111) (lo := 0) (hi := 9) (offs := #[55, 60, 65, 70, 75, 80, 85, 90, 98, 103]) (len := 55) (off := 70) (tgt := 79) (by first | exact mp_fd_ok mp_k_cX9_count_ok (by decide +kernel) | decide +kernel) (by omega) (by omega) (by rw [c_1]; rfl) (by decide) ?_
    show mp_W E X 3 79 [(2, .ref a3), (0, .ref a0), (1, .int x0)] [] w1_ 0 0
    refine mp_run mp_k_cX9_count_ok hF mp_tabX9_ok [mp_i (.aload_n 2)] (by decide +kernel) ?_
    show mp_W E X 3 80 [(2, .ref a3), (0, .ref a0), (1, .int x0)] [.ref a3] w1_ 0 0
    refine mp_callV hF (As := []) (rest := []) (wr := [(mp_ob9 a0 a1 a2 a8 a9 a10 a11 a12 a13 a6), (mp_ob3 a1 a14 y0 a15 y1 y2 y3 y4 y5 y6 y7), (mp_ob0 a2 a3 y8 a16 a17 a18 a19 a20 a21), (mp_arL E a5 12 f1), (mp_ob5 a6 a32 a33 a7), (mp_arI E a7 0 4 f2)]) (bX7_countSeas_174 E a3 a4 a5 a22 a23 a24 a25 a26 a27 a28 a29 a30 a31 f0 y9 y10 y11 y12 y13 y14 p0 l_y10 u_y10 l_y11 u_y11 l_y12 u_y12 l_y13 u_y13 l_y14 u_y14) mp_lkX9_340 3 rfl [3, 4] [0, 1, 2, 5, 6, 7] rfl rfl rfl rfl rfl ⟨(Nat.le_of_ble_eq_true rfl), (Nat.le_of_ble_eq_true rfl), (Nat.le_of_ble_eq_true rfl), (Nat.le_of_ble_eq_true rfl)⟩ (Nat.le_of_ble_eq_true rfl) (by first | exact mp_fd_ok mp_k_cX9_count_ok (by decide +kernel) | decide +kernel) (fun v_2 w_3 h_4 => ?_)
    obtain ⟨r_5, rfl, rfl⟩ := h_4
    let w2_ : va_W := [(mp_ob9 a0 a1 a2 a8 a9 a10 a11 a12 a13 a6), (mp_ob3 a1 a14 y0 a15 y1 y2 y3 y4 y5 y6 y7), (mp_ob0 a2 a3 y8 a16 a17 a18 a19 a20 a21), (mp_arL E a5 12 f1), (mp_ob5 a6 a32 a33 a7), (mp_arI E a7 0 4 f2), (mp_ob7 a3 y9 y10 y11 y12 y13 y14 a4 a5 a22 a23 a24 a25 a26 a27 a28 a29 a30 a31), (mp_arI E a4 0 36 f0)]
    show mp_W E X 3 83 [(2, .ref a3), (0, .ref a0), (1, .int x0)] [.int r_5] w2_ 0 0
    exact mp_iret hF hQ rfl rfl (Nat.le_of_ble_eq_true rfl) (Nat.le_of_ble_eq_true rfl) [0, 1, 2, 6, 7, 3, 4, 5] (w' := w1_) rfl rfl ⟨r_5, rfl, rfl⟩ (by first | exact mp_fd_ok mp_k_cX9_count_ok (by decide +kernel) | decide +kernel)
  · refine mp_tabIn hF (dflt := 111) (lo := 0) (hi := 9) (offs := #[55, 60, 65, 70, 75, 80, 85, 90, 98, 103]) (len := 55) (off := 75) (tgt := 84) (by first | exact mp_fd_ok mp_k_cX9_count_ok (by decide +kernel) | decide +kernel) (by omega) (by omega) (by rw [c_1]; rfl) (by decide) ?_
    show mp_W E X 3 84 [(2, .ref a3), (0, .ref a0), (1, .int x0)] [] w1_ 0 0
    refine mp_run mp_k_cX9_count_ok hF mp_tabX9_ok [mp_i (.aload_n 2)] (by decide +kernel) ?_
    show mp_W E X 3 85 [(2, .ref a3), (0, .ref a0), (1, .int x0)] [.ref a3] w1_ 0 0
    refine mp_callV hF (As := []) (rest := []) (wr := [(mp_ob9 a0 a1 a2 a8 a9 a10 a11 a12 a13 a6), (mp_ob3 a1 a14 y0 a15 y1 y2 y3 y4 y5 y6 y7), (mp_ob0 a2 a3 y8 a16 a17 a18 a19 a20 a21), (mp_arI E a4 0 36 f0), (mp_ob5 a6 a32 a33 a7), (mp_arI E a7 0 4 f2)]) (bX7_countShut_176 E a3 a5 a4 a22 a23 a24 a25 a26 a27 a28 a29 a30 a31 f1 y9 y10 y11 y12 y13 y14 l_y10 u_y10 l_y11 u_y11 l_y12 u_y12 l_y13 u_y13 l_y14 u_y14) mp_lkX9_343 3 rfl [3, 5] [0, 1, 2, 4, 6, 7] rfl rfl rfl rfl rfl ⟨(Nat.le_of_ble_eq_true rfl), (Nat.le_of_ble_eq_true rfl), (Nat.le_of_ble_eq_true rfl), (Nat.le_of_ble_eq_true rfl)⟩ (Nat.le_of_ble_eq_true rfl) (by first | exact mp_fd_ok mp_k_cX9_count_ok (by decide +kernel) | decide +kernel) (fun v_6 w_7 h_8 => ?_)
    obtain ⟨r_9, rfl, rfl⟩ := h_8
    let w3_ : va_W := [(mp_ob9 a0 a1 a2 a8 a9 a10 a11 a12 a13 a6), (mp_ob3 a1 a14 y0 a15 y1 y2 y3 y4 y5 y6 y7), (mp_ob0 a2 a3 y8 a16 a17 a18 a19 a20 a21), (mp_arI E a4 0 36 f0), (mp_ob5 a6 a32 a33 a7), (mp_arI E a7 0 4 f2), (mp_ob7 a3 y9 y10 y11 y12 y13 y14 a4 a5 a22 a23 a24 a25 a26 a27 a28 a29 a30 a31), (mp_arL E a5 12 f1)]
    show mp_W E X 3 88 [(2, .ref a3), (0, .ref a0), (1, .int x0)] [.int r_9] w3_ 0 0
    exact mp_iret hF hQ rfl rfl (Nat.le_of_ble_eq_true rfl) (Nat.le_of_ble_eq_true rfl) [0, 1, 2, 6, 3, 7, 4, 5] (w' := w1_) rfl rfl ⟨r_9, rfl, rfl⟩ (by first | exact mp_fd_ok mp_k_cX9_count_ok (by decide +kernel) | decide +kernel)
  · refine mp_tabIn hF (dflt := 111) (lo := 0) (hi := 9) (offs := #[55, 60, 65, 70, 75, 80, 85, 90, 98, 103]) (len := 55) (off := 80) (tgt := 89) (by first | exact mp_fd_ok mp_k_cX9_count_ok (by decide +kernel) | decide +kernel) (by omega) (by omega) (by rw [c_1]; rfl) (by decide) ?_
    show mp_W E X 3 89 [(2, .ref a3), (0, .ref a0), (1, .int x0)] [] w1_ 0 0
    refine mp_run mp_k_cX9_count_ok hF mp_tabX9_ok [mp_i (.aload_n 2), mp_h (.getfield 214) [5, 3]] (by decide +kernel) ?_
    refine And.intro rfl (And.intro rfl ?_)
    show mp_W E X 3 93 [(2, .ref a3), (0, .ref a0), (1, .int x0)] [.int y14] w1_ 0 0
    exact mp_iret hF hQ rfl rfl (Nat.le_of_ble_eq_true rfl) (Nat.le_of_ble_eq_true rfl) [0, 1, 2, 3, 4, 5, 6, 7] (w' := w1_) rfl rfl ⟨y14, rfl, rfl⟩ (by first | exact mp_fd_ok mp_k_cX9_count_ok (by decide +kernel) | decide +kernel)
  · refine mp_tabIn hF (dflt := 111) (lo := 0) (hi := 9) (offs := #[55, 60, 65, 70, 75, 80, 85, 90, 98, 103]) (len := 55) (off := 85) (tgt := 94) (by first | exact mp_fd_ok mp_k_cX9_count_ok (by decide +kernel) | decide +kernel) (by omega) (by omega) (by rw [c_1]; rfl) (by decide) ?_
    show mp_W E X 3 94 [(2, .ref a3), (0, .ref a0), (1, .int x0)] [] w1_ 0 0
    refine mp_run mp_k_cX9_count_ok hF mp_tabX9_ok [mp_i (.aload_n 2), mp_h (.getfield 97) [0, 3]] (by decide +kernel) ?_
    refine And.intro rfl (And.intro rfl ?_)
    show mp_W E X 3 98 [(2, .ref a3), (0, .ref a0), (1, .int x0)] [.int y9] w1_ 0 0
    exact mp_iret hF hQ rfl rfl (Nat.le_of_ble_eq_true rfl) (Nat.le_of_ble_eq_true rfl) [0, 1, 2, 3, 4, 5, 6, 7] (w' := w1_) rfl rfl ⟨y9, rfl, rfl⟩ (by first | exact mp_fd_ok mp_k_cX9_count_ok (by decide +kernel) | decide +kernel)
  · refine mp_tabIn hF (dflt := 111) (lo := 0) (hi := 9) (offs := #[55, 60, 65, 70, 75, 80, 85, 90, 98, 103]) (len := 55) (off := 90) (tgt := 99) (by first | exact mp_fd_ok mp_k_cX9_count_ok (by decide +kernel) | decide +kernel) (by omega) (by omega) (by rw [c_1]; rfl) (by decide) ?_
    show mp_W E X 3 99 [(2, .ref a3), (0, .ref a0), (1, .int x0)] [] w1_ 0 0
    refine mp_run mp_k_cX9_count_ok hF mp_tabX9_ok [mp_i (.aload_n 0), mp_h (.getfield 10) [36, 0], mp_h (.getfield 71) [16, 1]] (by decide +kernel) ?_
    refine And.intro rfl (And.intro rfl ?_)
    refine And.intro rfl (And.intro rfl ?_)
    show mp_W E X 3 106 [(2, .ref a3), (0, .ref a0), (1, .int x0)] [.int y0] w1_ 0 0
    exact mp_iret hF hQ rfl rfl (Nat.le_of_ble_eq_true rfl) (Nat.le_of_ble_eq_true rfl) [0, 1, 2, 3, 4, 5, 6, 7] (w' := w1_) rfl rfl ⟨y0, rfl, rfl⟩ (by first | exact mp_fd_ok mp_k_cX9_count_ok (by decide +kernel) | decide +kernel)
  · refine mp_tabIn hF (dflt := 111) (lo := 0) (hi := 9) (offs := #[55, 60, 65, 70, 75, 80, 85, 90, 98, 103]) (len := 55) (off := 98) (tgt := 107) (by first | exact mp_fd_ok mp_k_cX9_count_ok (by decide +kernel) | decide +kernel) (by omega) (by omega) (by rw [c_1]; rfl) (by decide) ?_
    show mp_W E X 3 107 [(2, .ref a3), (0, .ref a0), (1, .int x0)] [] w1_ 0 0
    refine mp_run mp_k_cX9_count_ok hF mp_tabX9_ok [mp_i (.aload_n 2), mp_h (.getfield 346) [2, 3]] (by decide +kernel) ?_
    refine And.intro rfl (And.intro rfl ?_)
    show mp_W E X 3 111 [(2, .ref a3), (0, .ref a0), (1, .int x0)] [.int y11] w1_ 0 0
    exact mp_iret hF hQ rfl rfl (Nat.le_of_ble_eq_true rfl) (Nat.le_of_ble_eq_true rfl) [0, 1, 2, 3, 4, 5, 6, 7] (w' := w1_) rfl rfl ⟨y11, rfl, rfl⟩ (by first | exact mp_fd_ok mp_k_cX9_count_ok (by decide +kernel) | decide +kernel)
  · refine mp_tabIn hF (dflt := 111) (lo := 0) (hi := 9) (offs := #[55, 60, 65, 70, 75, 80, 85, 90, 98, 103]) (len := 55) (off := 103) (tgt := 112) (by first | exact mp_fd_ok mp_k_cX9_count_ok (by decide +kernel) | decide +kernel) (by omega) (by omega) (by rw [c_1]; rfl) (by decide) ?_
    show mp_W E X 3 112 [(2, .ref a3), (0, .ref a0), (1, .int x0)] [] w1_ 0 0
    refine mp_run mp_k_cX9_count_ok hF mp_tabX9_ok [mp_i (.aload_n 0), mp_h (.getfield 67) [44, 0]] (by decide +kernel) ?_
    refine And.intro rfl (And.intro rfl ?_)
    show mp_W E X 3 116 [(2, .ref a3), (0, .ref a0), (1, .int x0)] [.ref a6] w1_ 0 0
    refine mp_callV hF (As := []) (rest := []) (wr := [(mp_ob9 a0 a1 a2 a8 a9 a10 a11 a12 a13 a6), (mp_ob3 a1 a14 y0 a15 y1 y2 y3 y4 y5 y6 y7), (mp_ob0 a2 a3 y8 a16 a17 a18 a19 a20 a21), (mp_ob7 a3 y9 y10 y11 y12 y13 y14 a4 a5 a22 a23 a24 a25 a26 a27 a28 a29 a30 a31), (mp_arI E a4 0 36 f0), (mp_arL E a5 12 f1)]) (bX5_countTaken_177 E a6 a7 a32 a33 f2 p1) mp_lkX9_347 6 rfl [6, 7] [0, 1, 2, 3, 4, 5] rfl rfl rfl rfl rfl ⟨(Nat.le_of_ble_eq_true rfl), (Nat.le_of_ble_eq_true rfl), (Nat.le_of_ble_eq_true rfl), (Nat.le_of_ble_eq_true rfl)⟩ (Nat.le_of_ble_eq_true rfl) (by first | exact mp_fd_ok mp_k_cX9_count_ok (by decide +kernel) | decide +kernel) (fun v_10 w_11 h_12 => ?_)
    obtain ⟨r_13, rfl, rfl⟩ := h_12
    show mp_W E X 3 119 [(2, .ref a3), (0, .ref a0), (1, .int x0)] [.int r_13] w1_ 0 0
    exact mp_iret hF hQ rfl rfl (Nat.le_of_ble_eq_true rfl) (Nat.le_of_ble_eq_true rfl) [0, 1, 2, 3, 4, 5, 6, 7] (w' := w1_) rfl rfl ⟨r_13, rfl, rfl⟩ (by first | exact mp_fd_ok mp_k_cX9_count_ok (by decide +kernel) | decide +kernel)
set_option maxHeartbeats 4000000 in
set_option maxRecDepth 100000 in
theorem bX5_lay_179 (E : mp_E) (a0 a1 a2 a3 : Nat) (f0 : Nat → Int64) (f1 : Nat → Int32) (f2 : Nat → Int32) (x0 : Int32) (x1 : Int32) (x2 : Int32) (p0 : mp_all f2 4 (-1) 60) (l_x0 : 0 ≤ x0.toInt) (u_x0 : x0.toInt ≤ 3) (l_x2 : 0 ≤ x2.toInt) (u_x2 : x2.toInt ≤ 60) : mp_Ct E yX5_lay cX5_lay 5 none 0 0 0 0 [.ref a0, .int x0, .int x1, .int x2] [(mp_ob5 a0 a1 a2 a3), (mp_arL E a1 240 f0), (mp_arI E a2 0 4 f1), (mp_arI E a3 0 4 f2)] (fun v w' => ∃ h1 : Nat → Int64, ∃ h2 : Nat → Int32, ∃ h3 : Nat → Int32, v = none ∧ mp_all h3 4 (-1) 60 ∧ (h2 = upd f1 x0.toNatClampNeg x1) ∧ (h3 = upd f2 x0.toNatClampNeg x2) ∧ w' = [(mp_ob5 a0 a1 a2 a3), (mp_arL E a1 240 h1), (mp_arI E a2 0 4 h2), (mp_arI E a3 0 4 h3)]) := by
  refine mp_met false (by decide) (by decide) (Nat.le_of_ble_eq_true rfl) (fun X hF hQ => ?_)
  have hF : mp_F E X (RX5, cX5_lay, 5, (0, 0, 0, 0), none, false) := hF
  let w1_ : va_W := [(mp_ob5 a0 a1 a2 a3), (mp_arL E a1 240 f0), (mp_arI E a2 0 4 f1), (mp_arI E a3 0 4 f2)]
  show mp_W E X 5 0 [(0, .ref a0), (1, .int x0), (2, .int x1), (3, .int x2)] [] w1_ 0 0
  refine mp_run mp_k_cX5_lay_ok hF mp_tabX5_ok [mp_i (.aload_n 0), mp_h (.getfield 15) [1, 0], mp_i (.iload_n 1), mp_i (.iload_n 2), mp_h .iastore [2]] (by decide +kernel) ?_
  refine And.intro rfl (And.intro rfl ?_)
  refine And.intro rfl (And.intro rfl (And.intro (vp_in_iff.mpr (by omega)) ?_))
  intro g_1 h_2
  let w2_ : va_W := [(mp_ob5 a0 a1 a2 a3), (mp_arL E a1 240 f0), (mp_arI E a2 0 4 g_1), (mp_arI E a3 0 4 f2)]
  show mp_W E X 5 7 [(0, .ref a0), (1, .int x0), (2, .int x1), (3, .int x2)] [] w2_ 0 0
  refine mp_run mp_k_cX5_lay_ok hF mp_tabX5_ok [mp_i (.aload_n 0), mp_h (.getfield 19) [2, 0], mp_i (.iload_n 1), mp_i (.iload_n 3), mp_h .iastore [3]] (by decide +kernel) ?_
  refine And.intro rfl (And.intro rfl ?_)
  refine And.intro rfl (And.intro rfl (And.intro (vp_in_iff.mpr (by omega)) ?_))
  intro g_3 h_4
  have p_5 : mp_all g_3 4 (-1) 60 := mp_all_st h_4 p0 (by omega) u_x2
  let w3_ : va_W := [(mp_ob5 a0 a1 a2 a3), (mp_arL E a1 240 f0), (mp_arI E a2 0 4 g_1), (mp_arI E a3 0 4 g_3)]
  show mp_W E X 5 14 [(0, .ref a0), (1, .int x0), (2, .int x1), (3, .int x2)] [] w3_ 0 0
  refine mp_run mp_k_cX5_lay_ok hF mp_tabX5_ok [mp_c (.iconst 0) 0, mp_i (.istore 4)] (by decide +kernel) ?_
  show mp_W E X 5 17 [(4, .int 0), (0, .ref a0), (1, .int x0), (2, .int x1), (3, .int x2)] [] w3_ 0 0
  have lp_10 : ∀ (d_11 : Nat) (i_6 : Int32) (g_7 : Nat → Int64), 0 ≤ i_6.toInt → i_6.toInt ≤ 60 → x2.toInt - i_6.toInt ≤ (d_11 : Int) → mp_W E X 5 17 [(4, .int i_6), (0, .ref a0), (1, .int x0), (2, .int x1), (3, .int x2)] [] [(mp_ob5 a0 a1 a2 a3), (mp_arL E a1 240 g_7), (mp_arI E a2 0 4 g_1), (mp_arI E a3 0 4 g_3)] 0 0 := by
    intro d_11
    induction d_11 using Nat.strongRecOn with
    | ind d_11 ih_12 =>
      intro i_6 g_7 l_8 u_9 hm_13
      refine mp_run mp_k_cX5_lay_ok hF mp_tabX5_ok [mp_i (.iload 4), mp_i (.iload_n 3), mp_h (.if_icmp .ge 22) [42]] (by decide +kernel) ?_
      refine And.intro (fun c_14 => ?_) (fun c_14 => ?_)
      · have c_14 : x2.toInt ≤ i_6.toInt := c_14
        let w4_ : va_W := [(mp_ob5 a0 a1 a2 a3), (mp_arL E a1 240 g_7), (mp_arI E a2 0 4 g_1), (mp_arI E a3 0 4 g_3)]
        show mp_W E X 5 42 [(4, .int i_6), (0, .ref a0), (1, .int x0), (2, .int x1), (3, .int x2)] [] w4_ 0 0
        exact mp_vret hF hQ rfl (Nat.le_of_ble_eq_true rfl) (Nat.le_of_ble_eq_true rfl) [0, 1, 2, 3] (w' := w4_) rfl rfl ⟨g_7, g_1, g_3, rfl, p_5, h_2, h_4, rfl⟩ (by first | exact mp_fd_ok mp_k_cX5_lay_ok (by decide +kernel) | decide +kernel)
      · have c_14 : i_6.toInt < x2.toInt := c_14
        let w5_ : va_W := [(mp_ob5 a0 a1 a2 a3), (mp_arL E a1 240 g_7), (mp_arI E a2 0 4 g_1), (mp_arI E a3 0 4 g_3)]
        show mp_W E X 5 23 [(4, .int i_6), (0, .ref a0), (1, .int x0), (2, .int x1), (3, .int x2)] [] w5_ 0 0
        refine mp_run mp_k_cX5_lay_ok hF mp_tabX5_ok [mp_i (.aload_n 0), mp_h (.getfield 9) [0, 0], mp_i (.iload_n 1), mp_c (.bipush 60) 60, mp_i .imul, mp_i (.iload 4), mp_i .iadd, mp_cl (.lconst 0) 0, mp_h .lastore [1]] (by decide +kernel) ?_
        refine And.intro rfl (And.intro rfl ?_)
        intro z_15 h_16
        have e_17 : z_15.toInt = x0.toInt * 60 := mp_mul (a := x0.toInt) (b := 60) h_16 rfl (by decide) (by omega) (by omega)
        intro z_18 h_19
        have e_20 : z_18.toInt = z_15.toInt + i_6.toInt := mp_add (a := z_15.toInt) (b := i_6.toInt) h_19 rfl rfl (by omega) (by omega)
        refine And.intro rfl (And.intro rfl (And.intro (vp_in_iff.mpr (by omega)) ?_))
        intro g_21 h_22
        let w6_ : va_W := [(mp_ob5 a0 a1 a2 a3), (mp_arL E a1 240 g_21), (mp_arI E a2 0 4 g_1), (mp_arI E a3 0 4 g_3)]
        show mp_W E X 5 36 [(4, .int i_6), (0, .ref a0), (1, .int x0), (2, .int x1), (3, .int x2)] [] w6_ 0 0
        refine mp_run mp_k_cX5_lay_ok hF mp_tabX5_ok [mp_c (.iinc 4 1) 1, mp_h (.goto (-22)) [17]] (by decide +kernel) ?_
        intro z_23 h_24
        have e_25 : z_23.toInt = i_6.toInt + 1 := mp_add (a := i_6.toInt) (b := 1) h_24 rfl (by decide) (by omega) (by omega)
        show mp_W E X 5 17 [(4, .int z_23), (0, .ref a0), (1, .int x0), (2, .int x1), (3, .int x2)] [] w6_ 0 0
        exact mp_sub [0, 1, 2, 3, 4] rfl [0, 1, 2, 3] rfl rfl (ih_12 (d_11 - 1) (by omega) z_23 g_21 (by omega) (by omega) (by omega))
  exact mp_sub [0, 1, 2, 3, 4] rfl [0, 1, 2, 3] rfl rfl (lp_10 _ 0 f0 (by decide) (by decide) (Int.self_le_toNat _))
