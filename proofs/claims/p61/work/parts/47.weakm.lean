set_option maxHeartbeats 4000000 in
set_option maxRecDepth 100000 in
theorem bX10_sum_80 (E : mp_E) (a0 a1 a2 a3 a4 a5 a6 a7 a8 a9 a10 a11 a12 a13 a14 a15 a16 a17 a18 a19 a20 a21 a22 a23 a24 a25 : Nat) (f0 : Nat → Int32) (f1 : Nat → Int32) (f2 : Nat → Int32) (f3 : Nat → Int32) (f4 : Nat → Int32) (f5 : Nat → Int32) (f6 : Nat → Int32) (f7 : Nat → Int32) (f8 : Nat → Int32) (y0 : Int32) (y1 : Int32) (y2 : Int32) (y3 : Int32) (y4 : Int32) (y5 : Int32) (y6 : Int64) (y7 : Int32) (y8 : Int32) (y9 : Int32) (y10 : Int32) (y11 : Int32) (y12 : Int32) (y13 : Int32) (y14 : Int32) (y15 : Int32) (y16 : Int32) (y17 : Int32) (y18 : Int32) (y19 : Int32) (y20 : Int32) (y21 : Int32) (x0 : Int32) (x1 : Int32) (x2 : Int32) (p0 : mp_res f0 25 5 0 0 6) (p1 : mp_res f0 25 5 1 0 99) (p2 : mp_res f0 25 5 2 0 6) (p3 : mp_res f0 25 5 3 0 10) (p4 : mp_res f0 25 5 4 0 60) (p5 : mp_all f1 180 0 20) (p6 : mp_res f2 90 3 0 0 5) (p7 : mp_res f2 90 3 1 (-1) 99) (p8 : mp_res f3 300 6 0 0 5) (p9 : mp_res f3 300 6 1 0 5) (p10 : mp_res f3 300 6 3 0 99) (p11 : mp_res f3 300 6 4 0 1) (p12 : mp_actm f4) (p13 : mp_all f5 6 0 5) (l_y1 : 0 ≤ y1.toInt) (u_y1 : y1.toInt ≤ 1600) (l_y2 : 0 ≤ y2.toInt) (u_y2 : y2.toInt ≤ 1600) (l_y3 : 0 ≤ y3.toInt) (u_y3 : y3.toInt ≤ 4) (l_y4 : 0 ≤ y4.toInt) (u_y4 : y4.toInt ≤ 1600) (l_y11 : 0 ≤ y11.toInt) (u_y11 : y11.toInt ≤ 99) (l_y12 : 0 ≤ y12.toInt) (u_y12 : y12.toInt ≤ 5) (l_y13 : 0 ≤ y13.toInt) (u_y13 : y13.toInt ≤ 12) (q0 : mp_prm f3 (f0 3).toInt) (q1 : (f0 1).toInt + mp_k200 f4 (f0 4).toInt ≤ 99) : mp_Ct E yX10_sum cX10_sum 4 (some FieldType.int) 16 0 0 385 [.ref a0, .int x0, .int x1, .int x2] [(mp_ob10 a0 y0 a10 a11 a12 a13 a14 y1 y2 y3 y4 y5 y6 y7 y8 y9 y10 a15 a1 a2 a16 a3 a4 a5 a17 y11 a6 a7 a8 a9 y12 y13 y14 a18 a19 y15 y16 a20 a21 a22 y17 y18 y19 y20 a23 a24 a25 y21), (mp_arI E a1 0 25 f0), (mp_arI E a2 0 180 f1), (mp_arI E a3 0 90 f2), (mp_arI E a4 0 300 f3), (mp_arI E a5 0 300 f4), (mp_arI E a6 0 6 f5), (mp_arI E a7 0 6 f6), (mp_arI E a8 0 6 f7), (mp_arI E a9 3 1500 f8)] (fun v w' => ∃ r1 : Int32, ∃ h2 : Nat → Int32, ∃ h3 : Nat → Int32, ∃ h4 : Nat → Int32, ∃ h5 : Nat → Int32, ∃ r6 : Int32, v = some (.int r6) ∧ 0 ≤ r1.toInt ∧ r1.toInt ≤ 99 ∧ mp_all h2 6 0 5 ∧ w' = [(mp_ob10 a0 0 a10 a11 a12 a13 a14 y1 y2 y3 y4 y5 y6 y7 y8 y9 y10 a15 a1 a2 a16 a3 a4 a5 a17 r1 a6 a7 a8 a9 y12 y13 y14 a18 a19 y15 y16 a20 a21 a22 y17 y18 y19 y20 a23 a24 a25 y21), (mp_arI E a1 0 25 f0), (mp_arI E a2 0 180 f1), (mp_arI E a3 0 90 f2), (mp_arI E a4 0 300 f3), (mp_arI E a5 0 300 f4), (mp_arI E a6 0 6 h2), (mp_arI E a7 0 6 h3), (mp_arI E a8 0 6 h4), (mp_arI E a9 3 1500 h5)]) := by
  refine mp_met false (by decide) (by decide) (Nat.le_of_ble_eq_true rfl) (fun X hF hQ => ?_)
  have hF : mp_F E X (RX10, cX10_sum, 4, (16, 0, 0, 385), (some FieldType.int), false) := hF
  let w1_ : va_W := [(mp_ob10 a0 y0 a10 a11 a12 a13 a14 y1 y2 y3 y4 y5 y6 y7 y8 y9 y10 a15 a1 a2 a16 a3 a4 a5 a17 y11 a6 a7 a8 a9 y12 y13 y14 a18 a19 y15 y16 a20 a21 a22 y17 y18 y19 y20 a23 a24 a25 y21), (mp_arI E a1 0 25 f0), (mp_arI E a2 0 180 f1), (mp_arI E a3 0 90 f2), (mp_arI E a4 0 300 f3), (mp_arI E a5 0 300 f4), (mp_arI E a6 0 6 f5), (mp_arI E a7 0 6 f6), (mp_arI E a8 0 6 f7), (mp_arI E a9 3 1500 f8)]
  show mp_W E X 4 0 [(0, .ref a0), (1, .int x0), (2, .int x1), (3, .int x2)] [] w1_ 0 0
  refine mp_run mp_k_cX10_sum_ok hF mp_tabX10_ok [mp_i (.aload_n 0), mp_c (.iconst 0) 0, mp_h (.putfield 92) [0, 0]] (by decide +kernel) ?_
  refine And.intro rfl (And.intro rfl (And.intro rfl (And.intro rfl (And.intro (Nat.le_of_ble_eq_true rfl) ?_))))
  let w2_ : va_W := [(mp_ob10 a0 0 a10 a11 a12 a13 a14 y1 y2 y3 y4 y5 y6 y7 y8 y9 y10 a15 a1 a2 a16 a3 a4 a5 a17 y11 a6 a7 a8 a9 y12 y13 y14 a18 a19 y15 y16 a20 a21 a22 y17 y18 y19 y20 a23 a24 a25 y21), (mp_arI E a1 0 25 f0), (mp_arI E a2 0 180 f1), (mp_arI E a3 0 90 f2), (mp_arI E a4 0 300 f3), (mp_arI E a5 0 300 f4), (mp_arI E a6 0 6 f5), (mp_arI E a7 0 6 f6), (mp_arI E a8 0 6 f7), (mp_arI E a9 3 1500 f8)]
  show mp_W E X 4 5 [(0, .ref a0), (1, .int x0), (2, .int x1), (3, .int x2)] [] w2_ 0 0
  refine mp_run mp_k_cX10_sum_ok hF mp_tabX10_ok [mp_i (.aload_n 0), mp_i (.iload_n 1)] (by decide +kernel) ?_
  show mp_W E X 4 7 [(0, .ref a0), (1, .int x0), (2, .int x1), (3, .int x2)] [.int x0, .ref a0] w2_ 0 0
  refine mp_callV hF (As := [.int x0]) (rest := []) (wr := [(mp_arI E a2 0 180 f1), (mp_arI E a3 0 90 f2), (mp_arI E a4 0 300 f3), (mp_arI E a5 0 300 f4), (mp_arI E a6 0 6 f5), (mp_arI E a7 0 6 f6), (mp_arI E a8 0 6 f7), (mp_arI E a9 3 1500 f8)]) (bX10_isPerson_53 E a0 a1 a10 a11 a12 a13 a14 a15 a2 a16 a3 a4 a5 a17 a6 a7 a8 a9 a18 a19 a20 a21 a22 a23 a24 a25 f0 0 y1 y2 y3 y4 y5 y6 y7 y8 y9 y10 y11 y12 y13 y14 y15 y16 y17 y18 y19 y20 y21 x0 p0 p1 p2 p3 p4 l_y1 u_y1 l_y2 u_y2 l_y3 u_y3 l_y4 u_y4 l_y11 u_y11 l_y12 u_y12 l_y13 u_y13) mp_lkX10_255 0 rfl [0, 1] [2, 3, 4, 5, 6, 7, 8, 9] rfl rfl rfl rfl rfl ⟨(Nat.le_of_ble_eq_true rfl), (Nat.le_of_ble_eq_true rfl), (Nat.le_of_ble_eq_true rfl), (Nat.le_of_ble_eq_true rfl)⟩ (Nat.le_of_ble_eq_true rfl) (by first | exact mp_fd_ok mp_k_cX10_sum_ok (by decide +kernel) | decide +kernel) (fun v_1 w_2 h_3 => ?_)
  refine h_3.elim (fun q_9 => ?_) (fun q_10 => ?_)
  · skip
    refine q_9.elim fun e_11 q_12 => q_12.elim fun x_4 e_13 => ?_
    clear h_3 q_9 q_12
    subst e_11
    subst e_13
    let w3_ : va_W := [(mp_arI E a2 0 180 f1), (mp_arI E a3 0 90 f2), (mp_arI E a4 0 300 f3), (mp_arI E a5 0 300 f4), (mp_arI E a6 0 6 f5), (mp_arI E a7 0 6 f6), (mp_arI E a8 0 6 f7), (mp_arI E a9 3 1500 f8), (mp_ob10 a0 0 a10 a11 a12 a13 a14 y1 y2 y3 y4 y5 y6 y7 y8 y9 y10 a15 a1 a2 a16 a3 a4 a5 a17 y11 a6 a7 a8 a9 y12 y13 y14 a18 a19 y15 y16 a20 a21 a22 y17 y18 y19 y20 a23 a24 a25 y21), (mp_arI E a1 0 25 f0)]
    show mp_W E X 4 10 [(0, .ref a0), (1, .int x0), (2, .int x1), (3, .int x2)] [.int 0] w3_ 0 0
    refine mp_run mp_k_cX10_sum_ok hF mp_tabX10_ok [mp_h (.ifCond .eq 22) [32]] (by decide +kernel) ?_
    refine And.intro (fun _ => ?_) (fun c_14 => absurd c_14 (by decide))
    show mp_W E X 4 32 [(0, .ref a0), (1, .int x0), (2, .int x1), (3, .int x2)] [] w3_ 0 0
    refine mp_run mp_k_cX10_sum_ok hF mp_tabX10_ok [mp_c (.ldc_w 302) (-2000000000)] (by decide +kernel) ?_
    show mp_W E X 4 35 [(0, .ref a0), (1, .int x0), (2, .int x1), (3, .int x2)] [.int (-2000000000)] w3_ 0 0
    exact mp_iret hF hQ rfl rfl (Nat.le_of_ble_eq_true rfl) (Nat.le_of_ble_eq_true rfl) [8, 9, 0, 1, 2, 3, 4, 5, 6, 7] (w' := w2_) rfl rfl ⟨y11, f5, f6, f7, f8, (-2000000000), rfl, l_y11, u_y11, p13, rfl⟩ (by first | exact mp_fd_ok mp_k_cX10_sum_ok (by decide +kernel) | decide +kernel)
  · skip
    refine q_10.elim fun e_15 q_16 => q_16.elim fun c_5 q_17 => q_17.elim fun x_6 q_18 => q_18.elim fun x_7 q_19 => q_19.elim fun x_8 e_20 => ?_
    clear h_3 q_10 q_16 q_17 q_18 q_19
    subst e_15
    subst e_20
    have c_5 : 0 ≤ x0.toInt := c_5
    let w4_ : va_W := [(mp_arI E a2 0 180 f1), (mp_arI E a3 0 90 f2), (mp_arI E a4 0 300 f3), (mp_arI E a5 0 300 f4), (mp_arI E a6 0 6 f5), (mp_arI E a7 0 6 f6), (mp_arI E a8 0 6 f7), (mp_arI E a9 3 1500 f8), (mp_ob10 a0 0 a10 a11 a12 a13 a14 y1 y2 y3 y4 y5 y6 y7 y8 y9 y10 a15 a1 a2 a16 a3 a4 a5 a17 y11 a6 a7 a8 a9 y12 y13 y14 a18 a19 y15 y16 a20 a21 a22 y17 y18 y19 y20 a23 a24 a25 y21), (mp_arI E a1 0 25 f0)]
    show mp_W E X 4 10 [(0, .ref a0), (1, .int x0), (2, .int x1), (3, .int x2)] [.int 1] w4_ 0 0
    refine mp_run mp_k_cX10_sum_ok hF mp_tabX10_ok [mp_h (.ifCond .eq 22) [32]] (by decide +kernel) ?_
    refine And.intro (fun c_21 => absurd c_21 (by decide)) (fun _ => ?_)
    show mp_W E X 4 13 [(0, .ref a0), (1, .int x0), (2, .int x1), (3, .int x2)] [] w4_ 0 0
    refine mp_run mp_k_cX10_sum_ok hF mp_tabX10_ok [mp_i (.iload_n 2)] (by decide +kernel) ?_
    show mp_W E X 4 14 [(0, .ref a0), (1, .int x0), (2, .int x1), (3, .int x2)] [.int x1] w4_ 0 0
    refine mp_callS hF (As := [.int x1]) (rest := []) (wr := w4_) (bX10_isMoon_60 E x1) mp_lkX10_273 [] [0, 1, 2, 3, 4, 5, 6, 7, 8, 9] rfl rfl rfl rfl rfl ⟨(Nat.le_of_ble_eq_true rfl), (Nat.le_of_ble_eq_true rfl), (Nat.le_of_ble_eq_true rfl), (Nat.le_of_ble_eq_true rfl)⟩ (Nat.le_of_ble_eq_true rfl) (by first | exact mp_fd_ok mp_k_cX10_sum_ok (by decide +kernel) | decide +kernel) (fun v_22 w_23 h_24 => ?_)
    rcases h_24 with ⟨rfl, x_25, rfl⟩ | ⟨rfl, c_26, c_27, x_28, rfl⟩
    · skip
      show mp_W E X 4 17 [(0, .ref a0), (1, .int x0), (2, .int x1), (3, .int x2)] [.int 0] w4_ 0 0
      refine mp_run mp_k_cX10_sum_ok hF mp_tabX10_ok [mp_h (.ifCond .eq 15) [32]] (by decide +kernel) ?_
      refine And.intro (fun _ => ?_) (fun c_29 => absurd c_29 (by decide))
      show mp_W E X 4 32 [(0, .ref a0), (1, .int x0), (2, .int x1), (3, .int x2)] [] w4_ 0 0
      refine mp_run mp_k_cX10_sum_ok hF mp_tabX10_ok [mp_c (.ldc_w 302) (-2000000000)] (by decide +kernel) ?_
      show mp_W E X 4 35 [(0, .ref a0), (1, .int x0), (2, .int x1), (3, .int x2)] [.int (-2000000000)] w4_ 0 0
      exact mp_iret hF hQ rfl rfl (Nat.le_of_ble_eq_true rfl) (Nat.le_of_ble_eq_true rfl) [8, 9, 0, 1, 2, 3, 4, 5, 6, 7] (w' := w2_) rfl rfl ⟨y11, f5, f6, f7, f8, (-2000000000), rfl, l_y11, u_y11, p13, rfl⟩ (by first | exact mp_fd_ok mp_k_cX10_sum_ok (by decide +kernel) | decide +kernel)
    · skip
      have c_26 : 0 ≤ x1.toInt := c_26
      have c_27 : x1.toInt ≤ 99 := c_27
      show mp_W E X 4 17 [(0, .ref a0), (1, .int x0), (2, .int x1), (3, .int x2)] [.int 1] w4_ 0 0
      refine mp_run mp_k_cX10_sum_ok hF mp_tabX10_ok [mp_h (.ifCond .eq 15) [32]] (by decide +kernel) ?_
      refine And.intro (fun c_30 => absurd c_30 (by decide)) (fun _ => ?_)
      show mp_W E X 4 20 [(0, .ref a0), (1, .int x0), (2, .int x1), (3, .int x2)] [] w4_ 0 0
      refine mp_run mp_k_cX10_sum_ok hF mp_tabX10_ok [mp_i (.iload_n 3), mp_i .i2l, mp_cl (.lconst 0) 0, mp_cl (.ldc2_w 260) 2] (by decide +kernel) ?_
      intro z_31 h_32
      have e_33 : z_31.toInt = x2.toInt := mp_i2l h_32
      show mp_W E X 4 26 [(0, .ref a0), (1, .int x0), (2, .int x1), (3, .int x2)] [.long 2, .long 0, .long z_31] w4_ 0 0
      refine mp_callS hF (As := [.long z_31, .long 0, .long 2]) (rest := []) (wr := w4_) (bX10_in_0 E z_31 0 2) mp_lkX10_97 [] [0, 1, 2, 3, 4, 5, 6, 7, 8, 9] rfl rfl rfl rfl rfl ⟨(Nat.le_of_ble_eq_true rfl), (Nat.le_of_ble_eq_true rfl), (Nat.le_of_ble_eq_true rfl), (Nat.le_of_ble_eq_true rfl)⟩ (Nat.le_of_ble_eq_true rfl) (by first | exact mp_fd_ok mp_k_cX10_sum_ok (by decide +kernel) | decide +kernel) (fun v_34 w_35 h_36 => ?_)
      rcases h_36 with ⟨rfl, x_37, rfl⟩ | ⟨rfl, c_38, c_39, rfl⟩
      · skip
        have i_40 : (0 : Int64).toInt = 0 := by decide
        have i_41 : (2 : Int64).toInt = 2 := by decide
        show mp_W E X 4 29 [(0, .ref a0), (1, .int x0), (2, .int x1), (3, .int x2)] [.int 0] w4_ 0 0
        refine mp_run mp_k_cX10_sum_ok hF mp_tabX10_ok [mp_h (.ifCond .ne 7) [36]] (by decide +kernel) ?_
        refine And.intro (fun c_42 => absurd c_42 (by decide)) (fun _ => ?_)
        show mp_W E X 4 32 [(0, .ref a0), (1, .int x0), (2, .int x1), (3, .int x2)] [] w4_ 0 0
        refine mp_run mp_k_cX10_sum_ok hF mp_tabX10_ok [mp_c (.ldc_w 302) (-2000000000)] (by decide +kernel) ?_
        show mp_W E X 4 35 [(0, .ref a0), (1, .int x0), (2, .int x1), (3, .int x2)] [.int (-2000000000)] w4_ 0 0
        exact mp_iret hF hQ rfl rfl (Nat.le_of_ble_eq_true rfl) (Nat.le_of_ble_eq_true rfl) [8, 9, 0, 1, 2, 3, 4, 5, 6, 7] (w' := w2_) rfl rfl ⟨y11, f5, f6, f7, f8, (-2000000000), rfl, l_y11, u_y11, p13, rfl⟩ (by first | exact mp_fd_ok mp_k_cX10_sum_ok (by decide +kernel) | decide +kernel)
      · skip
        have c_38 : 0 ≤ z_31.toInt := c_38
        have c_39 : z_31.toInt ≤ 2 := c_39
        have i_43 : (0 : Int64).toInt = 0 := by decide
        have i_44 : (2 : Int64).toInt = 2 := by decide
        show mp_W E X 4 29 [(0, .ref a0), (1, .int x0), (2, .int x1), (3, .int x2)] [.int 1] w4_ 0 0
        refine mp_run mp_k_cX10_sum_ok hF mp_tabX10_ok [mp_h (.ifCond .ne 7) [36]] (by decide +kernel) ?_
        refine And.intro (fun _ => ?_) (fun c_45 => absurd c_45 (by decide))
        show mp_W E X 4 36 [(0, .ref a0), (1, .int x0), (2, .int x1), (3, .int x2)] [] w4_ 0 0
        refine mp_run mp_k_cX10_sum_ok hF mp_tabX10_ok [mp_i (.aload_n 0)] (by decide +kernel) ?_
        show mp_W E X 4 37 [(0, .ref a0), (1, .int x0), (2, .int x1), (3, .int x2)] [.ref a0] w4_ 0 0
        refine mp_callV hF (As := []) (rest := []) (wr := [(mp_arI E a4 0 300 f3)]) (bX10_lays_62 E a0 a1 a2 a3 a5 a6 a7 a8 a9 a10 a11 a12 a13 a14 a15 a16 a4 a17 a18 a19 a20 a21 a22 a23 a24 a25 f0 f1 f2 f4 f5 f6 f7 f8 0 y1 y2 y3 y4 y5 y6 y7 y8 y9 y10 y11 y12 y13 y14 y15 y16 y17 y18 y19 y20 y21 p0 p1 p2 p3 p4 p5 p6 p7 p12 p13 l_y1 u_y1 l_y2 u_y2 l_y3 u_y3 l_y4 u_y4 l_y11 u_y11 l_y12 u_y12 l_y13 u_y13 (by (first | exact q1 | omega))) mp_lkX10_288 8 rfl [8, 9, 0, 1, 3, 4, 5, 6, 7] [2] rfl rfl rfl rfl rfl ⟨(Nat.le_of_ble_eq_true rfl), (Nat.le_of_ble_eq_true rfl), (Nat.le_of_ble_eq_true rfl), (Nat.le_of_ble_eq_true rfl)⟩ (Nat.le_of_ble_eq_true rfl) (by first | exact mp_fd_ok mp_k_cX10_sum_ok (by decide +kernel) | decide +kernel) (fun v_46 w_47 h_48 => ?_)
        refine h_48.elim fun r_49 q_59 => q_59.elim fun g_50 q_60 => q_60.elim fun g_51 q_61 => q_61.elim fun g_52 q_62 => q_62.elim fun g_53 q_63 => q_63.elim fun e_64 q_65 => q_65.elim fun l_54 q_66 => q_66.elim fun u_55 q_67 => q_67.elim fun p_56 q_68 => q_68.elim fun x_57 q_69 => q_69.elim fun x_58 e_70 => ?_
        clear h_48 q_59 q_60 q_61 q_62 q_63 q_65 q_66 q_67 q_68 q_69
        subst e_64
        subst e_70
        let w5_ : va_W := [(mp_arI E a4 0 300 f3), (mp_ob10 a0 0 a10 a11 a12 a13 a14 y1 y2 y3 y4 y5 y6 y7 y8 y9 y10 a15 a1 a2 a16 a3 a4 a5 a17 r_49 a6 a7 a8 a9 y12 y13 y14 a18 a19 y15 y16 a20 a21 a22 y17 y18 y19 y20 a23 a24 a25 y21), (mp_arI E a1 0 25 f0), (mp_arI E a2 0 180 f1), (mp_arI E a3 0 90 f2), (mp_arI E a5 0 300 f4), (mp_arI E a6 0 6 g_50), (mp_arI E a7 0 6 g_51), (mp_arI E a8 0 6 g_52), (mp_arI E a9 3 1500 g_53)]
        show mp_W E X 4 40 [(0, .ref a0), (1, .int x0), (2, .int x1), (3, .int x2)] [] w5_ 0 0
        refine mp_run mp_k_cX10_sum_ok hF mp_tabX10_ok [mp_i (.aload_n 0), mp_i (.iload_n 1), mp_i (.iload_n 2), mp_i (.iload_n 3)] (by decide +kernel) ?_
        show mp_W E X 4 44 [(0, .ref a0), (1, .int x0), (2, .int x1), (3, .int x2)] [.int x2, .int x1, .int x0, .ref a0] w5_ 0 0
        refine mp_callV hF (As := [.int x0, .int x1, .int x2]) (rest := []) (wr := [(mp_arI E a2 0 180 f1), (mp_arI E a5 0 300 f4), (mp_arI E a6 0 6 g_50), (mp_arI E a7 0 6 g_51), (mp_arI E a8 0 6 g_52)]) (bX10_sumOf_79 E a0 a1 a3 a4 a9 a10 a11 a12 a13 a14 a15 a2 a16 a5 a17 a6 a7 a8 a18 a19 a20 a21 a22 a23 a24 a25 f0 f2 f3 g_53 0 y1 y2 y3 y4 y5 y6 y7 y8 y9 y10 r_49 y12 y13 y14 y15 y16 y17 y18 y19 y20 y21 x0 x1 x2 p0 p1 p2 p3 p4 p6 p7 p8 p9 p10 p11 (by (first | exact c_26 | omega)) (by (first | exact mp_o1513 c_27 | omega)) l_y1 u_y1 l_y2 u_y2 l_y3 u_y3 l_y4 u_y4 l_54 u_55 l_y12 u_y12 l_y13 u_y13 (by first | assumption | (rw [rfl]; assumption))) mp_lkX10_303 1 rfl [1, 2, 4, 0, 9] [3, 5, 6, 7, 8] rfl rfl rfl rfl rfl ⟨(Nat.le_of_ble_eq_true rfl), (Nat.le_of_ble_eq_true rfl), (Nat.le_of_ble_eq_true rfl), (Nat.le_of_ble_eq_true rfl)⟩ (Nat.le_of_ble_eq_true rfl) (by first | exact mp_fd_ok mp_k_cX10_sum_ok (by decide +kernel) | decide +kernel) (fun v_71 w_72 h_73 => ?_)
        obtain ⟨r_74, rfl, rfl⟩ := h_73
        let w6_ : va_W := [(mp_arI E a2 0 180 f1), (mp_arI E a5 0 300 f4), (mp_arI E a6 0 6 g_50), (mp_arI E a7 0 6 g_51), (mp_arI E a8 0 6 g_52), (mp_ob10 a0 0 a10 a11 a12 a13 a14 y1 y2 y3 y4 y5 y6 y7 y8 y9 y10 a15 a1 a2 a16 a3 a4 a5 a17 r_49 a6 a7 a8 a9 y12 y13 y14 a18 a19 y15 y16 a20 a21 a22 y17 y18 y19 y20 a23 a24 a25 y21), (mp_arI E a1 0 25 f0), (mp_arI E a3 0 90 f2), (mp_arI E a4 0 300 f3), (mp_arI E a9 3 1500 g_53)]
        show mp_W E X 4 47 [(0, .ref a0), (1, .int x0), (2, .int x1), (3, .int x2)] [.int r_74] w6_ 0 0
        exact mp_iret hF hQ rfl rfl (Nat.le_of_ble_eq_true rfl) (Nat.le_of_ble_eq_true rfl) [5, 6, 0, 7, 8, 1, 2, 3, 4, 9] (w' := [(mp_ob10 a0 0 a10 a11 a12 a13 a14 y1 y2 y3 y4 y5 y6 y7 y8 y9 y10 a15 a1 a2 a16 a3 a4 a5 a17 r_49 a6 a7 a8 a9 y12 y13 y14 a18 a19 y15 y16 a20 a21 a22 y17 y18 y19 y20 a23 a24 a25 y21), (mp_arI E a1 0 25 f0), (mp_arI E a2 0 180 f1), (mp_arI E a3 0 90 f2), (mp_arI E a4 0 300 f3), (mp_arI E a5 0 300 f4), (mp_arI E a6 0 6 g_50), (mp_arI E a7 0 6 g_51), (mp_arI E a8 0 6 g_52), (mp_arI E a9 3 1500 g_53)]) rfl rfl ⟨r_49, g_50, g_51, g_52, g_53, r_74, rfl, l_54, u_55, p_56, rfl⟩ (by first | exact mp_fd_ok mp_k_cX10_sum_ok (by decide +kernel) | decide +kernel)
set_option maxHeartbeats 4000000 in
set_option maxRecDepth 100000 in
theorem bX10_areIsles_81 (E : mp_E) (a0 a1 a2 a3 a4 a5 a6 a7 a8 a9 a10 a11 a12 a13 a14 a15 a16 a17 a18 a19 a20 a21 a22 a23 a24 a25 : Nat) (f0 : Nat → Int32) (y0 : Int32) (y1 : Int32) (y2 : Int32) (y3 : Int32) (y4 : Int32) (y5 : Int32) (y6 : Int64) (y7 : Int32) (y8 : Int32) (y9 : Int32) (y10 : Int32) (y11 : Int32) (y12 : Int32) (y13 : Int32) (y14 : Int32) (y15 : Int32) (y16 : Int32) (y17 : Int32) (y18 : Int32) (y19 : Int32) (y20 : Int32) (y21 : Int32) (l_y1 : 0 ≤ y1.toInt) (u_y1 : y1.toInt ≤ 1600) (l_y2 : 0 ≤ y2.toInt) (u_y2 : y2.toInt ≤ 1600) (l_y3 : 0 ≤ y3.toInt) (u_y3 : y3.toInt ≤ 4) (l_y4 : 0 ≤ y4.toInt) (u_y4 : y4.toInt ≤ 1600) (l_y11 : 0 ≤ y11.toInt) (u_y11 : y11.toInt ≤ 99) (l_y12 : 0 ≤ y12.toInt) (u_y12 : y12.toInt ≤ 5) (l_y13 : 0 ≤ y13.toInt) (u_y13 : y13.toInt ≤ 12) : mp_Ct E yX10_areIsles cX10_areIsles 1 (some FieldType.boolean) 0 0 0 0 [.ref a0] [(mp_ob10 a0 y0 a2 a3 a4 a5 a6 y1 y2 y3 y4 y5 y6 y7 y8 y9 y10 a1 a7 a8 a9 a10 a11 a12 a13 y11 a14 a15 a16 a17 y12 y13 y14 a18 a19 y15 y16 a20 a21 a22 y17 y18 y19 y20 a23 a24 a25 y21), (mp_arI E a1 0 5 f0)] (fun v w' => (v = some (.int 0) ∧ ((f0 0).toInt ≤ 0) ∧ w' = [(mp_ob10 a0 y0 a2 a3 a4 a5 a6 y1 y2 y3 y4 y5 y6 y7 y8 y9 y10 a1 a7 a8 a9 a10 a11 a12 a13 y11 a14 a15 a16 a17 y12 y13 y14 a18 a19 y15 y16 a20 a21 a22 y17 y18 y19 y20 a23 a24 a25 y21), (mp_arI E a1 0 5 f0)]) ∨ (v = some (.int 1) ∧ (0 < (f0 0).toInt) ∧ w' = [(mp_ob10 a0 y0 a2 a3 a4 a5 a6 y1 y2 y3 y4 y5 y6 y7 y8 y9 y10 a1 a7 a8 a9 a10 a11 a12 a13 y11 a14 a15 a16 a17 y12 y13 y14 a18 a19 y15 y16 a20 a21 a22 y17 y18 y19 y20 a23 a24 a25 y21), (mp_arI E a1 0 5 f0)])) := by
  refine mp_met false (by decide) (by decide) (Nat.le_of_ble_eq_true rfl) (fun X hF hQ => ?_)
  have hF : mp_F E X (RX10, cX10_areIsles, 1, (0, 0, 0, 0), (some FieldType.boolean), false) := hF
  let w1_ : va_W := [(mp_ob10 a0 y0 a2 a3 a4 a5 a6 y1 y2 y3 y4 y5 y6 y7 y8 y9 y10 a1 a7 a8 a9 a10 a11 a12 a13 y11 a14 a15 a16 a17 y12 y13 y14 a18 a19 y15 y16 a20 a21 a22 y17 y18 y19 y20 a23 a24 a25 y21), (mp_arI E a1 0 5 f0)]
  show mp_W E X 1 0 [(0, .ref a0)] [] w1_ 0 0
  refine mp_run mp_k_cX10_areIsles_ok hF mp_tabX10_ok [mp_i (.aload_n 0), mp_h (.getfield 31) [16, 0], mp_c (.iconst 0) 0, mp_h .iaload [1], mp_h (.ifCond .le 7) [13]] (by decide +kernel) ?_
  refine And.intro rfl (And.intro rfl ?_)
  refine And.intro rfl (And.intro rfl (And.intro (vp_in_iff.mpr (by decide)) ?_))
  intro z_1 h_2
  have e_3 : z_1.toInt = (f0 0).toInt := congrArg Int32.toInt (mp_at h_2 (by decide) rfl)
  refine And.intro (fun c_4 => ?_) (fun c_4 => ?_)
  · have c_4 : z_1.toInt ≤ 0 := c_4
    show mp_W E X 1 13 [(0, .ref a0)] [] w1_ 0 0
    refine mp_run mp_k_cX10_areIsles_ok hF mp_tabX10_ok [mp_c (.iconst 0) 0] (by decide +kernel) ?_
    show mp_W E X 1 14 [(0, .ref a0)] [.int 0] w1_ 0 0
    exact mp_iret hF hQ rfl (by decide) (Nat.le_of_ble_eq_true rfl) (Nat.le_of_ble_eq_true rfl) [0, 1] (w' := w1_) rfl rfl (Or.inl ⟨rfl, (by first | (first | exact mp_o1536 e_3 c_4 | omega) | decide | (have h8 : (0 : Int64).toInt = 0 := rfl; have h9 : (-1 : Int32).toInt = -1 := rfl; have h10 : (-2 : Int32).toInt = -2 := rfl; have h11 : (0 : Int32).toInt = 0 := rfl; have h12 : (1 : Int32).toInt = 1 := rfl; have h13 : (-5 : Int32).toInt = -5 := rfl; have h14 : (-3 : Int32).toInt = -3 := rfl; omega)), rfl⟩) (by first | exact mp_fd_ok mp_k_cX10_areIsles_ok (by decide +kernel) | decide +kernel)
  · have c_4 : 0 < z_1.toInt := c_4
    show mp_W E X 1 9 [(0, .ref a0)] [] w1_ 0 0
    refine mp_run mp_k_cX10_areIsles_ok hF mp_tabX10_ok [mp_c (.iconst 1) 1, mp_h (.goto 4) [14]] (by decide +kernel) ?_
    show mp_W E X 1 14 [(0, .ref a0)] [.int 1] w1_ 0 0
    exact mp_iret hF hQ rfl (by decide) (Nat.le_of_ble_eq_true rfl) (Nat.le_of_ble_eq_true rfl) [0, 1] (w' := w1_) rfl rfl (Or.inr ⟨rfl, (by first | (first | exact mp_o1537 c_4 e_3 | omega) | decide | (have h8 : (0 : Int64).toInt = 0 := rfl; have h9 : (-1 : Int32).toInt = -1 := rfl; have h10 : (-2 : Int32).toInt = -2 := rfl; have h11 : (0 : Int32).toInt = 0 := rfl; have h12 : (1 : Int32).toInt = 1 := rfl; have h13 : (-5 : Int32).toInt = -5 := rfl; have h14 : (-3 : Int32).toInt = -3 := rfl; omega)), rfl⟩) (by first | exact mp_fd_ok mp_k_cX10_areIsles_ok (by decide +kernel) | decide +kernel)
set_option maxHeartbeats 4000000 in
set_option maxRecDepth 100000 in
theorem bX10_richest_82 (E : mp_E) (a0 a1 a2 a3 a4 a5 a6 a7 a8 a9 a10 a11 a12 a13 a14 a15 a16 a17 a18 a19 a20 a21 a22 a23 a24 a25 : Nat) (f0 : Nat → Int32) (f1 : Nat → Int32) (f2 : Nat → Int32) (f3 : Nat → Int32) (f4 : Nat → Int32) (f5 : Nat → Int32) (f6 : Nat → Int32) (f7 : Nat → Int32) (f8 : Nat → Int32) (f9 : Nat → Int32) (y0 : Int32) (y1 : Int32) (y2 : Int32) (y3 : Int32) (y4 : Int32) (y5 : Int32) (y6 : Int64) (y7 : Int32) (y8 : Int32) (y9 : Int32) (y10 : Int32) (y11 : Int32) (y12 : Int32) (y13 : Int32) (y14 : Int32) (y15 : Int32) (y16 : Int32) (y17 : Int32) (y18 : Int32) (y19 : Int32) (y20 : Int32) (y21 : Int32) (x0 : Int32) (p0 : mp_res f1 25 5 0 0 6) (p1 : mp_res f1 25 5 1 0 99) (p2 : mp_res f1 25 5 2 0 6) (p3 : mp_res f1 25 5 3 0 10) (p4 : mp_res f1 25 5 4 0 60) (p5 : mp_all f2 180 0 20) (p6 : mp_res f3 90 3 0 0 5) (p7 : mp_res f3 90 3 1 (-1) 99) (p8 : mp_res f4 300 6 0 0 5) (p9 : mp_res f4 300 6 1 0 5) (p10 : mp_res f4 300 6 3 0 99) (p11 : mp_res f4 300 6 4 0 1) (p12 : mp_actm f5) (p13 : mp_all f6 6 0 5) (l_y1 : 0 ≤ y1.toInt) (u_y1 : y1.toInt ≤ 1600) (l_y2 : 0 ≤ y2.toInt) (u_y2 : y2.toInt ≤ 1600) (l_y3 : 0 ≤ y3.toInt) (u_y3 : y3.toInt ≤ 4) (l_y4 : 0 ≤ y4.toInt) (u_y4 : y4.toInt ≤ 1600) (l_y11 : 0 ≤ y11.toInt) (u_y11 : y11.toInt ≤ 99) (l_y12 : 0 ≤ y12.toInt) (u_y12 : y12.toInt ≤ 5) (l_y13 : 0 ≤ y13.toInt) (u_y13 : y13.toInt ≤ 12) (q0 : mp_prm f4 (f1 3).toInt) (q1 : (f1 1).toInt + mp_k200 f5 (f1 4).toInt ≤ 99) : mp_Ct E yX10_richest cX10_richest 4 (some FieldType.int) 16 0 0 385 [.ref a0, .int x0] [(mp_ob10 a0 y0 a11 a12 a13 a14 a15 y1 y2 y3 y4 y5 y6 y7 y8 y9 y10 a1 a2 a3 a16 a4 a5 a6 a17 y11 a7 a8 a9 a10 y12 y13 y14 a18 a19 y15 y16 a20 a21 a22 y17 y18 y19 y20 a23 a24 a25 y21), (mp_arI E a1 0 5 f0), (mp_arI E a2 0 25 f1), (mp_arI E a3 0 180 f2), (mp_arI E a4 0 90 f3), (mp_arI E a5 0 300 f4), (mp_arI E a6 0 300 f5), (mp_arI E a7 0 6 f6), (mp_arI E a8 0 6 f7), (mp_arI E a9 0 6 f8), (mp_arI E a10 3 1500 f9)] (fun v w' => ∃ r1 : Int32, ∃ h2 : Nat → Int32, ∃ h3 : Nat → Int32, ∃ h4 : Nat → Int32, ∃ h5 : Nat → Int32, ∃ r6 : Int32, v = some (.int r6) ∧ 0 ≤ r1.toInt ∧ r1.toInt ≤ 99 ∧ (-2) ≤ r6.toInt ∧ r6.toInt ≤ 5 ∧ mp_all h2 6 0 5 ∧ w' = [(mp_ob10 a0 0 a11 a12 a13 a14 a15 y1 y2 y3 y4 y5 y6 y7 y8 y9 y10 a1 a2 a3 a16 a4 a5 a6 a17 r1 a7 a8 a9 a10 y12 y13 y14 a18 a19 y15 y16 a20 a21 a22 y17 y18 y19 y20 a23 a24 a25 y21), (mp_arI E a1 0 5 f0), (mp_arI E a2 0 25 f1), (mp_arI E a3 0 180 f2), (mp_arI E a4 0 90 f3), (mp_arI E a5 0 300 f4), (mp_arI E a6 0 300 f5), (mp_arI E a7 0 6 h2), (mp_arI E a8 0 6 h3), (mp_arI E a9 0 6 h4), (mp_arI E a10 3 1500 h5)]) := by
  refine mp_met false (by decide) (by decide) (Nat.le_of_ble_eq_true rfl) (fun X hF hQ => ?_)
  have hF : mp_F E X (RX10, cX10_richest, 4, (16, 0, 0, 385), (some FieldType.int), false) := hF
  let w1_ : va_W := [(mp_ob10 a0 y0 a11 a12 a13 a14 a15 y1 y2 y3 y4 y5 y6 y7 y8 y9 y10 a1 a2 a3 a16 a4 a5 a6 a17 y11 a7 a8 a9 a10 y12 y13 y14 a18 a19 y15 y16 a20 a21 a22 y17 y18 y19 y20 a23 a24 a25 y21), (mp_arI E a1 0 5 f0), (mp_arI E a2 0 25 f1), (mp_arI E a3 0 180 f2), (mp_arI E a4 0 90 f3), (mp_arI E a5 0 300 f4), (mp_arI E a6 0 300 f5), (mp_arI E a7 0 6 f6), (mp_arI E a8 0 6 f7), (mp_arI E a9 0 6 f8), (mp_arI E a10 3 1500 f9)]
  show mp_W E X 4 0 [(0, .ref a0), (1, .int x0)] [] w1_ 0 0
  refine mp_run mp_k_cX10_richest_ok hF mp_tabX10_ok [mp_i (.aload_n 0), mp_c (.iconst 0) 0, mp_h (.putfield 92) [0, 0]] (by decide +kernel) ?_
  refine And.intro rfl (And.intro rfl (And.intro rfl (And.intro rfl (And.intro (Nat.le_of_ble_eq_true rfl) ?_))))
  let w2_ : va_W := [(mp_ob10 a0 0 a11 a12 a13 a14 a15 y1 y2 y3 y4 y5 y6 y7 y8 y9 y10 a1 a2 a3 a16 a4 a5 a6 a17 y11 a7 a8 a9 a10 y12 y13 y14 a18 a19 y15 y16 a20 a21 a22 y17 y18 y19 y20 a23 a24 a25 y21), (mp_arI E a1 0 5 f0), (mp_arI E a2 0 25 f1), (mp_arI E a3 0 180 f2), (mp_arI E a4 0 90 f3), (mp_arI E a5 0 300 f4), (mp_arI E a6 0 300 f5), (mp_arI E a7 0 6 f6), (mp_arI E a8 0 6 f7), (mp_arI E a9 0 6 f8), (mp_arI E a10 3 1500 f9)]
  show mp_W E X 4 5 [(0, .ref a0), (1, .int x0)] [] w2_ 0 0
  refine mp_run mp_k_cX10_richest_ok hF mp_tabX10_ok [mp_i (.aload_n 0)] (by decide +kernel) ?_
  show mp_W E X 4 6 [(0, .ref a0), (1, .int x0)] [.ref a0] w2_ 0 0
  refine mp_callV hF (As := []) (rest := []) (wr := [(mp_arI E a2 0 25 f1), (mp_arI E a3 0 180 f2), (mp_arI E a4 0 90 f3), (mp_arI E a5 0 300 f4), (mp_arI E a6 0 300 f5), (mp_arI E a7 0 6 f6), (mp_arI E a8 0 6 f7), (mp_arI E a9 0 6 f8), (mp_arI E a10 3 1500 f9)]) (bX10_areIsles_81 E a0 a1 a11 a12 a13 a14 a15 a2 a3 a16 a4 a5 a6 a17 a7 a8 a9 a10 a18 a19 a20 a21 a22 a23 a24 a25 f0 0 y1 y2 y3 y4 y5 y6 y7 y8 y9 y10 y11 y12 y13 y14 y15 y16 y17 y18 y19 y20 y21 l_y1 u_y1 l_y2 u_y2 l_y3 u_y3 l_y4 u_y4 l_y11 u_y11 l_y12 u_y12 l_y13 u_y13) mp_lkX10_306 0 rfl [0, 1] [2, 3, 4, 5, 6, 7, 8, 9, 10] rfl rfl rfl rfl rfl ⟨(Nat.le_of_ble_eq_true rfl), (Nat.le_of_ble_eq_true rfl), (Nat.le_of_ble_eq_true rfl), (Nat.le_of_ble_eq_true rfl)⟩ (Nat.le_of_ble_eq_true rfl) (by first | exact mp_fd_ok mp_k_cX10_richest_ok (by decide +kernel) | decide +kernel) (fun v_1 w_2 h_3 => ?_)
  rcases h_3 with ⟨rfl, x_4, rfl⟩ | ⟨rfl, x_5, rfl⟩
  · skip
    let w3_ : va_W := [(mp_arI E a2 0 25 f1), (mp_arI E a3 0 180 f2), (mp_arI E a4 0 90 f3), (mp_arI E a5 0 300 f4), (mp_arI E a6 0 300 f5), (mp_arI E a7 0 6 f6), (mp_arI E a8 0 6 f7), (mp_arI E a9 0 6 f8), (mp_arI E a10 3 1500 f9), (mp_ob10 a0 0 a11 a12 a13 a14 a15 y1 y2 y3 y4 y5 y6 y7 y8 y9 y10 a1 a2 a3 a16 a4 a5 a6 a17 y11 a7 a8 a9 a10 y12 y13 y14 a18 a19 y15 y16 a20 a21 a22 y17 y18 y19 y20 a23 a24 a25 y21), (mp_arI E a1 0 5 f0)]
    show mp_W E X 4 9 [(0, .ref a0), (1, .int x0)] [.int 0] w3_ 0 0
    refine mp_run mp_k_cX10_richest_ok hF mp_tabX10_ok [mp_h (.ifCond .eq 10) [19]] (by decide +kernel) ?_
    refine And.intro (fun _ => ?_) (fun c_6 => absurd c_6 (by decide))
    show mp_W E X 4 19 [(0, .ref a0), (1, .int x0)] [] w3_ 0 0
    refine mp_run mp_k_cX10_richest_ok hF mp_tabX10_ok [mp_c (.bipush (-2)) (-2)] (by decide +kernel) ?_
    show mp_W E X 4 21 [(0, .ref a0), (1, .int x0)] [.int (-2)] w3_ 0 0
    exact mp_iret hF hQ rfl rfl (Nat.le_of_ble_eq_true rfl) (Nat.le_of_ble_eq_true rfl) [9, 10, 0, 1, 2, 3, 4, 5, 6, 7, 8] (w' := w2_) rfl rfl ⟨y11, f6, f7, f8, f9, (-2), rfl, l_y11, u_y11, (by decide), (by decide), p13, rfl⟩ (by first | exact mp_fd_ok mp_k_cX10_richest_ok (by decide +kernel) | decide +kernel)
  · skip
    let w4_ : va_W := [(mp_arI E a2 0 25 f1), (mp_arI E a3 0 180 f2), (mp_arI E a4 0 90 f3), (mp_arI E a5 0 300 f4), (mp_arI E a6 0 300 f5), (mp_arI E a7 0 6 f6), (mp_arI E a8 0 6 f7), (mp_arI E a9 0 6 f8), (mp_arI E a10 3 1500 f9), (mp_ob10 a0 0 a11 a12 a13 a14 a15 y1 y2 y3 y4 y5 y6 y7 y8 y9 y10 a1 a2 a3 a16 a4 a5 a6 a17 y11 a7 a8 a9 a10 y12 y13 y14 a18 a19 y15 y16 a20 a21 a22 y17 y18 y19 y20 a23 a24 a25 y21), (mp_arI E a1 0 5 f0)]
    show mp_W E X 4 9 [(0, .ref a0), (1, .int x0)] [.int 1] w4_ 0 0
    refine mp_run mp_k_cX10_richest_ok hF mp_tabX10_ok [mp_h (.ifCond .eq 10) [19]] (by decide +kernel) ?_
    refine And.intro (fun c_7 => absurd c_7 (by decide)) (fun _ => ?_)
    show mp_W E X 4 12 [(0, .ref a0), (1, .int x0)] [] w4_ 0 0
    refine mp_run mp_k_cX10_richest_ok hF mp_tabX10_ok [mp_i (.iload_n 1)] (by decide +kernel) ?_
    show mp_W E X 4 13 [(0, .ref a0), (1, .int x0)] [.int x0] w4_ 0 0
    refine mp_callS hF (As := [.int x0]) (rest := []) (wr := w4_) (bX10_isMoon_60 E x0) mp_lkX10_273 [] [0, 1, 2, 3, 4, 5, 6, 7, 8, 9, 10] rfl rfl rfl rfl rfl ⟨(Nat.le_of_ble_eq_true rfl), (Nat.le_of_ble_eq_true rfl), (Nat.le_of_ble_eq_true rfl), (Nat.le_of_ble_eq_true rfl)⟩ (Nat.le_of_ble_eq_true rfl) (by first | exact mp_fd_ok mp_k_cX10_richest_ok (by decide +kernel) | decide +kernel) (fun v_8 w_9 h_10 => ?_)
    rcases h_10 with ⟨rfl, x_11, rfl⟩ | ⟨rfl, c_12, c_13, x_14, rfl⟩
    · skip
      show mp_W E X 4 16 [(0, .ref a0), (1, .int x0)] [.int 0] w4_ 0 0
      refine mp_run mp_k_cX10_richest_ok hF mp_tabX10_ok [mp_h (.ifCond .ne 6) [22]] (by decide +kernel) ?_
      refine And.intro (fun c_15 => absurd c_15 (by decide)) (fun _ => ?_)
      show mp_W E X 4 19 [(0, .ref a0), (1, .int x0)] [] w4_ 0 0
      refine mp_run mp_k_cX10_richest_ok hF mp_tabX10_ok [mp_c (.bipush (-2)) (-2)] (by decide +kernel) ?_
      show mp_W E X 4 21 [(0, .ref a0), (1, .int x0)] [.int (-2)] w4_ 0 0
      exact mp_iret hF hQ rfl rfl (Nat.le_of_ble_eq_true rfl) (Nat.le_of_ble_eq_true rfl) [9, 10, 0, 1, 2, 3, 4, 5, 6, 7, 8] (w' := w2_) rfl rfl ⟨y11, f6, f7, f8, f9, (-2), rfl, l_y11, u_y11, (by decide), (by decide), p13, rfl⟩ (by first | exact mp_fd_ok mp_k_cX10_richest_ok (by decide +kernel) | decide +kernel)
    · skip
      have c_12 : 0 ≤ x0.toInt := c_12
      have c_13 : x0.toInt ≤ 99 := c_13
      show mp_W E X 4 16 [(0, .ref a0), (1, .int x0)] [.int 1] w4_ 0 0
      refine mp_run mp_k_cX10_richest_ok hF mp_tabX10_ok [mp_h (.ifCond .ne 6) [22]] (by decide +kernel) ?_
      refine And.intro (fun _ => ?_) (fun c_16 => absurd c_16 (by decide))
      show mp_W E X 4 22 [(0, .ref a0), (1, .int x0)] [] w4_ 0 0
      refine mp_run mp_k_cX10_richest_ok hF mp_tabX10_ok [mp_i (.aload_n 0)] (by decide +kernel) ?_
      show mp_W E X 4 23 [(0, .ref a0), (1, .int x0)] [.ref a0] w4_ 0 0
      refine mp_callV hF (As := []) (rest := []) (wr := [(mp_arI E a5 0 300 f4), (mp_arI E a1 0 5 f0)]) (bX10_lays_62 E a0 a2 a3 a4 a6 a7 a8 a9 a10 a11 a12 a13 a14 a15 a1 a16 a5 a17 a18 a19 a20 a21 a22 a23 a24 a25 f1 f2 f3 f5 f6 f7 f8 f9 0 y1 y2 y3 y4 y5 y6 y7 y8 y9 y10 y11 y12 y13 y14 y15 y16 y17 y18 y19 y20 y21 p0 p1 p2 p3 p4 p5 p6 p7 p12 p13 l_y1 u_y1 l_y2 u_y2 l_y3 u_y3 l_y4 u_y4 l_y11 u_y11 l_y12 u_y12 l_y13 u_y13 (by (first | exact q1 | omega))) mp_lkX10_288 9 rfl [9, 0, 1, 2, 4, 5, 6, 7, 8] [3, 10] rfl rfl rfl rfl rfl ⟨(Nat.le_of_ble_eq_true rfl), (Nat.le_of_ble_eq_true rfl), (Nat.le_of_ble_eq_true rfl), (Nat.le_of_ble_eq_true rfl)⟩ (Nat.le_of_ble_eq_true rfl) (by first | exact mp_fd_ok mp_k_cX10_richest_ok (by decide +kernel) | decide +kernel) (fun v_17 w_18 h_19 => ?_)
      refine h_19.elim fun r_20 q_30 => q_30.elim fun g_21 q_31 => q_31.elim fun g_22 q_32 => q_32.elim fun g_23 q_33 => q_33.elim fun g_24 q_34 => q_34.elim fun e_35 q_36 => q_36.elim fun l_25 q_37 => q_37.elim fun u_26 q_38 => q_38.elim fun p_27 q_39 => q_39.elim fun x_28 q_40 => q_40.elim fun x_29 e_41 => ?_
      clear h_19 q_30 q_31 q_32 q_33 q_34 q_36 q_37 q_38 q_39 q_40
      subst e_35
      subst e_41
      let w5_ : va_W := [(mp_arI E a5 0 300 f4), (mp_arI E a1 0 5 f0), (mp_ob10 a0 0 a11 a12 a13 a14 a15 y1 y2 y3 y4 y5 y6 y7 y8 y9 y10 a1 a2 a3 a16 a4 a5 a6 a17 r_20 a7 a8 a9 a10 y12 y13 y14 a18 a19 y15 y16 a20 a21 a22 y17 y18 y19 y20 a23 a24 a25 y21), (mp_arI E a2 0 25 f1), (mp_arI E a3 0 180 f2), (mp_arI E a4 0 90 f3), (mp_arI E a6 0 300 f5), (mp_arI E a7 0 6 g_21), (mp_arI E a8 0 6 g_22), (mp_arI E a9 0 6 g_23), (mp_arI E a10 3 1500 g_24)]
      show mp_W E X 4 26 [(0, .ref a0), (1, .int x0)] [] w5_ 0 0
      refine mp_run mp_k_cX10_richest_ok hF mp_tabX10_ok [mp_c (.iconst (-1)) (-1), mp_i (.istore_n 2), mp_c (.iconst 0) 0, mp_i (.istore_n 3)] (by decide +kernel) ?_
      show mp_W E X 4 30 [(3, .int 0), (2, .int (-1)), (0, .ref a0), (1, .int x0)] [] w5_ 0 0
      have lp_48 : ∀ (d_49 : Nat) (i_42 : Int32) (i_43 : Int32), 0 ≤ i_42.toInt → i_42.toInt ≤ 6 → (-1) ≤ i_43.toInt → i_43.toInt ≤ 5 → (f1 2).toInt - i_42.toInt ≤ (d_49 : Int) → mp_W E X 4 30 [(3, .int i_42), (2, .int i_43), (0, .ref a0), (1, .int x0)] [] [(mp_arI E a5 0 300 f4), (mp_arI E a1 0 5 f0), (mp_ob10 a0 0 a11 a12 a13 a14 a15 y1 y2 y3 y4 y5 y6 y7 y8 y9 y10 a1 a2 a3 a16 a4 a5 a6 a17 r_20 a7 a8 a9 a10 y12 y13 y14 a18 a19 y15 y16 a20 a21 a22 y17 y18 y19 y20 a23 a24 a25 y21), (mp_arI E a2 0 25 f1), (mp_arI E a3 0 180 f2), (mp_arI E a4 0 90 f3), (mp_arI E a6 0 300 f5), (mp_arI E a7 0 6 g_21), (mp_arI E a8 0 6 g_22), (mp_arI E a9 0 6 g_23), (mp_arI E a10 3 1500 g_24)] 0 0 := by
        intro d_49
        induction d_49 using Nat.strongRecOn with
        | ind d_49 ih_50 =>
          intro i_42 i_43 l_44 u_45 l_46 u_47 hm_51
          refine mp_run mp_k_cX10_richest_ok hF mp_tabX10_ok [mp_i (.iload_n 3), mp_i (.aload_n 0), mp_h (.getfield 34) [17, 2], mp_c (.iconst 2) 2, mp_h .iaload [3], mp_h (.if_icmp .ge 33) [70]] (by decide +kernel) ?_
          refine And.intro rfl (And.intro rfl ?_)
          refine And.intro rfl (And.intro rfl (And.intro (vp_in_iff.mpr (by decide)) ?_))
          intro z_52 h_53
          have e_54 : 0 ≤ z_52.toInt ∧ z_52.toInt ≤ 6 := mp_res_ld h_53 p2 (by decide) (by decide) (by decide)
          have e_55 : z_52.toInt = (f1 2).toInt := congrArg Int32.toInt (mp_at h_53 (by decide) rfl)
          refine And.intro (fun c_56 => ?_) (fun c_56 => ?_)
          · have c_56 : z_52.toInt ≤ i_42.toInt := c_56
            show mp_W E X 4 70 [(3, .int i_42), (2, .int i_43), (0, .ref a0), (1, .int x0)] [] w5_ 0 0
            refine mp_run mp_k_cX10_richest_ok hF mp_tabX10_ok [mp_i (.iload_n 2)] (by decide +kernel) ?_
            show mp_W E X 4 71 [(3, .int i_42), (2, .int i_43), (0, .ref a0), (1, .int x0)] [.int i_43] w5_ 0 0
            exact mp_iret hF hQ rfl rfl (Nat.le_of_ble_eq_true rfl) (Nat.le_of_ble_eq_true rfl) [2, 1, 3, 4, 5, 0, 6, 7, 8, 9, 10] (w' := [(mp_ob10 a0 0 a11 a12 a13 a14 a15 y1 y2 y3 y4 y5 y6 y7 y8 y9 y10 a1 a2 a3 a16 a4 a5 a6 a17 r_20 a7 a8 a9 a10 y12 y13 y14 a18 a19 y15 y16 a20 a21 a22 y17 y18 y19 y20 a23 a24 a25 y21), (mp_arI E a1 0 5 f0), (mp_arI E a2 0 25 f1), (mp_arI E a3 0 180 f2), (mp_arI E a4 0 90 f3), (mp_arI E a5 0 300 f4), (mp_arI E a6 0 300 f5), (mp_arI E a7 0 6 g_21), (mp_arI E a8 0 6 g_22), (mp_arI E a9 0 6 g_23), (mp_arI E a10 3 1500 g_24)]) rfl rfl ⟨r_20, g_21, g_22, g_23, g_24, i_43, rfl, l_25, u_26, (by (first | exact mp_o446 l_46 | omega)), u_47, p_27, rfl⟩ (by first | exact mp_fd_ok mp_k_cX10_richest_ok (by decide +kernel) | decide +kernel)
          · have c_56 : i_42.toInt < z_52.toInt := c_56
            show mp_W E X 4 40 [(3, .int i_42), (2, .int i_43), (0, .ref a0), (1, .int x0)] [] w5_ 0 0
            refine mp_run mp_k_cX10_richest_ok hF mp_tabX10_ok [mp_i (.iload_n 2), mp_c (.iconst (-1)) (-1), mp_h (.if_icmp .eq 20) [62]] (by decide +kernel) ?_
            refine And.intro (fun c_57 => ?_) (fun c_57 => ?_)
            · have c_57 : i_43.toInt = (-1) := (congrArg Int32.toInt c_57)
              show mp_W E X 4 62 [(3, .int i_42), (2, .int i_43), (0, .ref a0), (1, .int x0)] [] w5_ 0 0
              refine mp_run mp_k_cX10_richest_ok hF mp_tabX10_ok [mp_i (.iload_n 3), mp_i (.istore_n 2), mp_c (.iinc 3 1) 1, mp_h (.goto (-37)) [30]] (by decide +kernel) ?_
              intro z_58 h_59
              have e_60 : z_58.toInt = i_42.toInt + 1 := mp_add (a := i_42.toInt) (b := 1) h_59 rfl (by decide) (by (first | exact mp_o2 l_44 | omega)) (by (first | exact mp_o351 u_45 | omega))
              show mp_W E X 4 30 [(3, .int z_58), (2, .int i_42), (0, .ref a0), (1, .int x0)] [] w5_ 0 0
              exact mp_sub [0, 1, 2, 3] rfl [0, 1, 2, 3, 4, 5, 6, 7, 8, 9, 10] rfl rfl (ih_50 (d_49 - 1) (by (first | exact mp_o1454 hm_51 e_55 c_56 | omega)) z_58 i_42 (by (first | exact mp_o51 l_44 e_60 | omega)) (by (first | exact mp_o1485 e_60 c_56 e_54 | omega)) (by (first | exact mp_o44 l_44 | omega)) (by (first | exact mp_o1538 c_56 e_54 | omega)) (by (first | exact mp_o77 hm_51 e_60 | omega)))
            · have c_57 : i_43.toInt ≠ (-1) := c_57
              show mp_W E X 4 45 [(3, .int i_42), (2, .int i_43), (0, .ref a0), (1, .int x0)] [] w5_ 0 0
              refine mp_run mp_k_cX10_richest_ok hF mp_tabX10_ok [mp_i (.aload_n 0), mp_i (.iload_n 3), mp_i (.iload_n 1), mp_c (.iconst 2) 2] (by decide +kernel) ?_
              show mp_W E X 4 49 [(3, .int i_42), (2, .int i_43), (0, .ref a0), (1, .int x0)] [.int 2, .int x0, .int i_42, .ref a0] w5_ 0 0
              refine mp_callV hF (As := [.int i_42, .int x0, .int 2]) (rest := []) (wr := [(mp_arI E a1 0 5 f0), (mp_arI E a3 0 180 f2), (mp_arI E a6 0 300 f5), (mp_arI E a7 0 6 g_21), (mp_arI E a8 0 6 g_22), (mp_arI E a9 0 6 g_23)]) (bX10_sumOf_79 E a0 a2 a4 a5 a10 a11 a12 a13 a14 a15 a1 a3 a16 a6 a17 a7 a8 a9 a18 a19 a20 a21 a22 a23 a24 a25 f1 f3 f4 g_24 0 y1 y2 y3 y4 y5 y6 y7 y8 y9 y10 r_20 y12 y13 y14 y15 y16 y17 y18 y19 y20 y21 i_42 x0 2 p0 p1 p2 p3 p4 p6 p7 p8 p9 p10 p11 (by (first | exact c_12 | omega)) (by (first | exact mp_o1513 c_13 | omega)) l_y1 u_y1 l_y2 u_y2 l_y3 u_y3 l_y4 u_y4 l_25 u_26 l_y12 u_y12 l_y13 u_y13 (by first | assumption | (rw [rfl]; assumption))) mp_lkX10_303 2 rfl [2, 3, 5, 0, 10] [1, 4, 6, 7, 8, 9] rfl rfl rfl rfl rfl ⟨(Nat.le_of_ble_eq_true rfl), (Nat.le_of_ble_eq_true rfl), (Nat.le_of_ble_eq_true rfl), (Nat.le_of_ble_eq_true rfl)⟩ (Nat.le_of_ble_eq_true rfl) (by first | exact mp_fd_ok mp_k_cX10_richest_ok (by decide +kernel) | decide +kernel) (fun v_61 w_62 h_63 => ?_)
              obtain ⟨r_64, rfl, rfl⟩ := h_63
              let w6_ : va_W := [(mp_arI E a1 0 5 f0), (mp_arI E a3 0 180 f2), (mp_arI E a6 0 300 f5), (mp_arI E a7 0 6 g_21), (mp_arI E a8 0 6 g_22), (mp_arI E a9 0 6 g_23), (mp_ob10 a0 0 a11 a12 a13 a14 a15 y1 y2 y3 y4 y5 y6 y7 y8 y9 y10 a1 a2 a3 a16 a4 a5 a6 a17 r_20 a7 a8 a9 a10 y12 y13 y14 a18 a19 y15 y16 a20 a21 a22 y17 y18 y19 y20 a23 a24 a25 y21), (mp_arI E a2 0 25 f1), (mp_arI E a4 0 90 f3), (mp_arI E a5 0 300 f4), (mp_arI E a10 3 1500 g_24)]
              show mp_W E X 4 52 [(3, .int i_42), (2, .int i_43), (0, .ref a0), (1, .int x0)] [.int r_64] w6_ 0 0
              refine mp_run mp_k_cX10_richest_ok hF mp_tabX10_ok [mp_i (.aload_n 0), mp_i (.iload_n 2), mp_i (.iload_n 1), mp_c (.iconst 2) 2] (by decide +kernel) ?_
              show mp_W E X 4 56 [(3, .int i_42), (2, .int i_43), (0, .ref a0), (1, .int x0)] [.int 2, .int x0, .int i_43, .ref a0, .int r_64] w6_ 0 0
              refine mp_callV hF (As := [.int i_43, .int x0, .int 2]) (rest := [.int r_64]) (wr := [(mp_arI E a1 0 5 f0), (mp_arI E a3 0 180 f2), (mp_arI E a6 0 300 f5), (mp_arI E a7 0 6 g_21), (mp_arI E a8 0 6 g_22), (mp_arI E a9 0 6 g_23)]) (bX10_sumOf_79 E a0 a2 a4 a5 a10 a11 a12 a13 a14 a15 a1 a3 a16 a6 a17 a7 a8 a9 a18 a19 a20 a21 a22 a23 a24 a25 f1 f3 f4 g_24 0 y1 y2 y3 y4 y5 y6 y7 y8 y9 y10 r_20 y12 y13 y14 y15 y16 y17 y18 y19 y20 y21 i_43 x0 2 p0 p1 p2 p3 p4 p6 p7 p8 p9 p10 p11 (by (first | exact c_12 | omega)) (by (first | exact mp_o1513 c_13 | omega)) l_y1 u_y1 l_y2 u_y2 l_y3 u_y3 l_y4 u_y4 l_25 u_26 l_y12 u_y12 l_y13 u_y13 (by first | assumption | (rw [rfl]; assumption))) mp_lkX10_303 6 rfl [6, 7, 8, 9, 10] [0, 1, 2, 3, 4, 5] rfl rfl rfl rfl rfl ⟨(Nat.le_of_ble_eq_true rfl), (Nat.le_of_ble_eq_true rfl), (Nat.le_of_ble_eq_true rfl), (Nat.le_of_ble_eq_true rfl)⟩ (Nat.le_of_ble_eq_true rfl) (by first | exact mp_fd_ok mp_k_cX10_richest_ok (by decide +kernel) | decide +kernel) (fun v_65 w_66 h_67 => ?_)
              obtain ⟨r_68, rfl, rfl⟩ := h_67
              show mp_W E X 4 59 [(3, .int i_42), (2, .int i_43), (0, .ref a0), (1, .int x0)] [.int r_68, .int r_64] w6_ 0 0
              refine mp_run mp_k_cX10_richest_ok hF mp_tabX10_ok [mp_h (.if_icmp .le 5) [64]] (by decide +kernel) ?_
              refine And.intro (fun c_69 => ?_) (fun c_69 => ?_)
              · have c_69 : r_64.toInt ≤ r_68.toInt := c_69
                show mp_W E X 4 64 [(3, .int i_42), (2, .int i_43), (0, .ref a0), (1, .int x0)] [] w6_ 0 0
                refine mp_run mp_k_cX10_richest_ok hF mp_tabX10_ok [mp_c (.iinc 3 1) 1, mp_h (.goto (-37)) [30]] (by decide +kernel) ?_
                intro z_70 h_71
                have e_72 : z_70.toInt = i_42.toInt + 1 := mp_add (a := i_42.toInt) (b := 1) h_71 rfl (by decide) (by (first | exact mp_o2 l_44 | omega)) (by (first | exact mp_o351 u_45 | omega))
                show mp_W E X 4 30 [(3, .int z_70), (2, .int i_43), (0, .ref a0), (1, .int x0)] [] w6_ 0 0
                exact mp_sub [0, 1, 2, 3] rfl [9, 0, 6, 7, 1, 8, 2, 3, 4, 5, 10] rfl rfl (ih_50 (d_49 - 1) (by (first | exact mp_o1454 hm_51 e_55 c_56 | omega)) z_70 i_43 (by (first | exact mp_o51 l_44 e_72 | omega)) (by (first | exact mp_o1485 e_72 c_56 e_54 | omega)) l_46 u_47 (by (first | exact mp_o77 hm_51 e_72 | omega)))
              · have c_69 : r_68.toInt < r_64.toInt := c_69
                show mp_W E X 4 62 [(3, .int i_42), (2, .int i_43), (0, .ref a0), (1, .int x0)] [] w6_ 0 0
                refine mp_run mp_k_cX10_richest_ok hF mp_tabX10_ok [mp_i (.iload_n 3), mp_i (.istore_n 2), mp_c (.iinc 3 1) 1, mp_h (.goto (-37)) [30]] (by decide +kernel) ?_
                intro z_73 h_74
                have e_75 : z_73.toInt = i_42.toInt + 1 := mp_add (a := i_42.toInt) (b := 1) h_74 rfl (by decide) (by (first | exact mp_o2 l_44 | omega)) (by (first | exact mp_o351 u_45 | omega))
                show mp_W E X 4 30 [(3, .int z_73), (2, .int i_42), (0, .ref a0), (1, .int x0)] [] w6_ 0 0
                exact mp_sub [0, 1, 2, 3] rfl [9, 0, 6, 7, 1, 8, 2, 3, 4, 5, 10] rfl rfl (ih_50 (d_49 - 1) (by omega) z_73 i_42 (by (first | exact mp_o44 l_44 | omega)) (by (first | exact mp_o1538 c_56 e_54 | omega)) (by (first | exact mp_o44 l_44 | omega)) (by (first | exact mp_o1538 c_56 e_54 | omega)) (by omega))
      exact mp_sub [0, 1, 2, 3] rfl [0, 1, 2, 3, 4, 5, 6, 7, 8, 9, 10] rfl rfl (lp_48 _ 0 (-1) (by decide) (by decide) (by decide) (by decide) (Int.self_le_toNat _))
set_option maxHeartbeats 4000000 in
set_option maxRecDepth 100000 in
theorem bX10_greatest_83 (E : mp_E) (a0 a1 a2 a3 a4 a5 a6 a7 a8 a9 a10 a11 a12 a13 a14 a15 a16 a17 a18 a19 a20 a21 a22 a23 a24 a25 : Nat) (f0 : Nat → Int32) (f1 : Nat → Int32) (f2 : Nat → Int32) (f3 : Nat → Int32) (f4 : Nat → Int32) (f5 : Nat → Int32) (f6 : Nat → Int32) (f7 : Nat → Int32) (f8 : Nat → Int32) (f9 : Nat → Int32) (y0 : Int32) (y1 : Int32) (y2 : Int32) (y3 : Int32) (y4 : Int32) (y5 : Int32) (y6 : Int64) (y7 : Int32) (y8 : Int32) (y9 : Int32) (y10 : Int32) (y11 : Int32) (y12 : Int32) (y13 : Int32) (y14 : Int32) (y15 : Int32) (y16 : Int32) (y17 : Int32) (y18 : Int32) (y19 : Int32) (y20 : Int32) (y21 : Int32) (x0 : Int32) (p0 : mp_res f1 25 5 0 0 6) (p1 : mp_res f1 25 5 1 0 99) (p2 : mp_res f1 25 5 2 0 6) (p3 : mp_res f1 25 5 3 0 10) (p4 : mp_res f1 25 5 4 0 60) (p5 : mp_all f2 180 0 20) (p6 : mp_res f3 90 3 0 0 5) (p7 : mp_res f3 90 3 1 (-1) 99) (p8 : mp_res f4 300 6 0 0 5) (p9 : mp_res f4 300 6 1 0 5) (p10 : mp_res f4 300 6 3 0 99) (p11 : mp_res f4 300 6 4 0 1) (p12 : mp_actm f5) (p13 : mp_all f6 6 0 5) (l_y1 : 0 ≤ y1.toInt) (u_y1 : y1.toInt ≤ 1600) (l_y2 : 0 ≤ y2.toInt) (u_y2 : y2.toInt ≤ 1600) (l_y3 : 0 ≤ y3.toInt) (u_y3 : y3.toInt ≤ 4) (l_y4 : 0 ≤ y4.toInt) (u_y4 : y4.toInt ≤ 1600) (l_y11 : 0 ≤ y11.toInt) (u_y11 : y11.toInt ≤ 99) (l_y12 : 0 ≤ y12.toInt) (u_y12 : y12.toInt ≤ 5) (l_y13 : 0 ≤ y13.toInt) (u_y13 : y13.toInt ≤ 12) (q0 : mp_prm f4 (f1 3).toInt) (q1 : (f1 1).toInt + mp_k200 f5 (f1 4).toInt ≤ 99) : mp_Ct E yX10_greatest cX10_greatest 4 (some FieldType.int) 14 0 0 334 [.ref a0, .int x0] [(mp_ob10 a0 y0 a11 a12 a13 a14 a15 y1 y2 y3 y4 y5 y6 y7 y8 y9 y10 a1 a2 a3 a16 a4 a5 a6 a17 y11 a7 a8 a9 a10 y12 y13 y14 a18 a19 y15 y16 a20 a21 a22 y17 y18 y19 y20 a23 a24 a25 y21), (mp_arI E a1 0 5 f0), (mp_arI E a2 0 25 f1), (mp_arI E a3 0 180 f2), (mp_arI E a4 0 90 f3), (mp_arI E a5 0 300 f4), (mp_arI E a6 0 300 f5), (mp_arI E a7 0 6 f6), (mp_arI E a8 0 6 f7), (mp_arI E a9 0 6 f8), (mp_arI E a10 3 1500 f9)] (fun v w' => ∃ r1 : Int32, ∃ h2 : Nat → Int32, ∃ h3 : Nat → Int32, ∃ h4 : Nat → Int32, ∃ h5 : Nat → Int32, ∃ r6 : Int32, v = some (.int r6) ∧ 0 ≤ r1.toInt ∧ r1.toInt ≤ 99 ∧ (-2) ≤ r6.toInt ∧ r6.toInt ≤ 9 ∧ mp_all h2 6 0 5 ∧ w' = [(mp_ob10 a0 0 a11 a12 a13 a14 a15 y1 y2 y3 y4 y5 y6 y7 y8 y9 y10 a1 a2 a3 a16 a4 a5 a6 a17 r1 a7 a8 a9 a10 y12 y13 y14 a18 a19 y15 y16 a20 a21 a22 y17 y18 y19 y20 a23 a24 a25 y21), (mp_arI E a1 0 5 f0), (mp_arI E a2 0 25 f1), (mp_arI E a3 0 180 f2), (mp_arI E a4 0 90 f3), (mp_arI E a5 0 300 f4), (mp_arI E a6 0 300 f5), (mp_arI E a7 0 6 h2), (mp_arI E a8 0 6 h3), (mp_arI E a9 0 6 h4), (mp_arI E a10 3 1500 h5)]) := by
  refine mp_met false (by decide) (by decide) (Nat.le_of_ble_eq_true rfl) (fun X hF hQ => ?_)
  have hF : mp_F E X (RX10, cX10_greatest, 4, (14, 0, 0, 334), (some FieldType.int), false) := hF
  let w1_ : va_W := [(mp_ob10 a0 y0 a11 a12 a13 a14 a15 y1 y2 y3 y4 y5 y6 y7 y8 y9 y10 a1 a2 a3 a16 a4 a5 a6 a17 y11 a7 a8 a9 a10 y12 y13 y14 a18 a19 y15 y16 a20 a21 a22 y17 y18 y19 y20 a23 a24 a25 y21), (mp_arI E a1 0 5 f0), (mp_arI E a2 0 25 f1), (mp_arI E a3 0 180 f2), (mp_arI E a4 0 90 f3), (mp_arI E a5 0 300 f4), (mp_arI E a6 0 300 f5), (mp_arI E a7 0 6 f6), (mp_arI E a8 0 6 f7), (mp_arI E a9 0 6 f8), (mp_arI E a10 3 1500 f9)]
  show mp_W E X 4 0 [(0, .ref a0), (1, .int x0)] [] w1_ 0 0
  refine mp_run mp_k_cX10_greatest_ok hF mp_tabX10_ok [mp_i (.aload_n 0), mp_c (.iconst 0) 0, mp_h (.putfield 92) [0, 0]] (by decide +kernel) ?_
  refine And.intro rfl (And.intro rfl (And.intro rfl (And.intro rfl (And.intro (Nat.le_of_ble_eq_true rfl) ?_))))
  let w2_ : va_W := [(mp_ob10 a0 0 a11 a12 a13 a14 a15 y1 y2 y3 y4 y5 y6 y7 y8 y9 y10 a1 a2 a3 a16 a4 a5 a6 a17 y11 a7 a8 a9 a10 y12 y13 y14 a18 a19 y15 y16 a20 a21 a22 y17 y18 y19 y20 a23 a24 a25 y21), (mp_arI E a1 0 5 f0), (mp_arI E a2 0 25 f1), (mp_arI E a3 0 180 f2), (mp_arI E a4 0 90 f3), (mp_arI E a5 0 300 f4), (mp_arI E a6 0 300 f5), (mp_arI E a7 0 6 f6), (mp_arI E a8 0 6 f7), (mp_arI E a9 0 6 f8), (mp_arI E a10 3 1500 f9)]
  show mp_W E X 4 5 [(0, .ref a0), (1, .int x0)] [] w2_ 0 0
  refine mp_run mp_k_cX10_greatest_ok hF mp_tabX10_ok [mp_i (.aload_n 0)] (by decide +kernel) ?_
  show mp_W E X 4 6 [(0, .ref a0), (1, .int x0)] [.ref a0] w2_ 0 0
  refine mp_callV hF (As := []) (rest := []) (wr := [(mp_arI E a2 0 25 f1), (mp_arI E a3 0 180 f2), (mp_arI E a4 0 90 f3), (mp_arI E a5 0 300 f4), (mp_arI E a6 0 300 f5), (mp_arI E a7 0 6 f6), (mp_arI E a8 0 6 f7), (mp_arI E a9 0 6 f8), (mp_arI E a10 3 1500 f9)]) (bX10_areIsles_81 E a0 a1 a11 a12 a13 a14 a15 a2 a3 a16 a4 a5 a6 a17 a7 a8 a9 a10 a18 a19 a20 a21 a22 a23 a24 a25 f0 0 y1 y2 y3 y4 y5 y6 y7 y8 y9 y10 y11 y12 y13 y14 y15 y16 y17 y18 y19 y20 y21 l_y1 u_y1 l_y2 u_y2 l_y3 u_y3 l_y4 u_y4 l_y11 u_y11 l_y12 u_y12 l_y13 u_y13) mp_lkX10_306 0 rfl [0, 1] [2, 3, 4, 5, 6, 7, 8, 9, 10] rfl rfl rfl rfl rfl ⟨(Nat.le_of_ble_eq_true rfl), (Nat.le_of_ble_eq_true rfl), (Nat.le_of_ble_eq_true rfl), (Nat.le_of_ble_eq_true rfl)⟩ (Nat.le_of_ble_eq_true rfl) (by first | exact mp_fd_ok mp_k_cX10_greatest_ok (by decide +kernel) | decide +kernel) (fun v_1 w_2 h_3 => ?_)
  rcases h_3 with ⟨rfl, x_4, rfl⟩ | ⟨rfl, x_5, rfl⟩
  · skip
    let w3_ : va_W := [(mp_arI E a2 0 25 f1), (mp_arI E a3 0 180 f2), (mp_arI E a4 0 90 f3), (mp_arI E a5 0 300 f4), (mp_arI E a6 0 300 f5), (mp_arI E a7 0 6 f6), (mp_arI E a8 0 6 f7), (mp_arI E a9 0 6 f8), (mp_arI E a10 3 1500 f9), (mp_ob10 a0 0 a11 a12 a13 a14 a15 y1 y2 y3 y4 y5 y6 y7 y8 y9 y10 a1 a2 a3 a16 a4 a5 a6 a17 y11 a7 a8 a9 a10 y12 y13 y14 a18 a19 y15 y16 a20 a21 a22 y17 y18 y19 y20 a23 a24 a25 y21), (mp_arI E a1 0 5 f0)]
    show mp_W E X 4 9 [(0, .ref a0), (1, .int x0)] [.int 0] w3_ 0 0
    refine mp_run mp_k_cX10_greatest_ok hF mp_tabX10_ok [mp_h (.ifCond .eq 10) [19]] (by decide +kernel) ?_
    refine And.intro (fun _ => ?_) (fun c_6 => absurd c_6 (by decide))
    show mp_W E X 4 19 [(0, .ref a0), (1, .int x0)] [] w3_ 0 0
    refine mp_run mp_k_cX10_greatest_ok hF mp_tabX10_ok [mp_c (.bipush (-2)) (-2)] (by decide +kernel) ?_
    show mp_W E X 4 21 [(0, .ref a0), (1, .int x0)] [.int (-2)] w3_ 0 0
    exact mp_iret hF hQ rfl rfl (Nat.le_of_ble_eq_true rfl) (Nat.le_of_ble_eq_true rfl) [9, 10, 0, 1, 2, 3, 4, 5, 6, 7, 8] (w' := w2_) rfl rfl ⟨y11, f6, f7, f8, f9, (-2), rfl, l_y11, u_y11, (by decide), (by decide), p13, rfl⟩ (by first | exact mp_fd_ok mp_k_cX10_greatest_ok (by decide +kernel) | decide +kernel)
  · skip
    let w4_ : va_W := [(mp_arI E a2 0 25 f1), (mp_arI E a3 0 180 f2), (mp_arI E a4 0 90 f3), (mp_arI E a5 0 300 f4), (mp_arI E a6 0 300 f5), (mp_arI E a7 0 6 f6), (mp_arI E a8 0 6 f7), (mp_arI E a9 0 6 f8), (mp_arI E a10 3 1500 f9), (mp_ob10 a0 0 a11 a12 a13 a14 a15 y1 y2 y3 y4 y5 y6 y7 y8 y9 y10 a1 a2 a3 a16 a4 a5 a6 a17 y11 a7 a8 a9 a10 y12 y13 y14 a18 a19 y15 y16 a20 a21 a22 y17 y18 y19 y20 a23 a24 a25 y21), (mp_arI E a1 0 5 f0)]
    show mp_W E X 4 9 [(0, .ref a0), (1, .int x0)] [.int 1] w4_ 0 0
    refine mp_run mp_k_cX10_greatest_ok hF mp_tabX10_ok [mp_h (.ifCond .eq 10) [19]] (by decide +kernel) ?_
    refine And.intro (fun c_7 => absurd c_7 (by decide)) (fun _ => ?_)
    show mp_W E X 4 12 [(0, .ref a0), (1, .int x0)] [] w4_ 0 0
    refine mp_run mp_k_cX10_greatest_ok hF mp_tabX10_ok [mp_i (.iload_n 1)] (by decide +kernel) ?_
    show mp_W E X 4 13 [(0, .ref a0), (1, .int x0)] [.int x0] w4_ 0 0
    refine mp_callS hF (As := [.int x0]) (rest := []) (wr := w4_) (bX10_isMoon_60 E x0) mp_lkX10_273 [] [0, 1, 2, 3, 4, 5, 6, 7, 8, 9, 10] rfl rfl rfl rfl rfl ⟨(Nat.le_of_ble_eq_true rfl), (Nat.le_of_ble_eq_true rfl), (Nat.le_of_ble_eq_true rfl), (Nat.le_of_ble_eq_true rfl)⟩ (Nat.le_of_ble_eq_true rfl) (by first | exact mp_fd_ok mp_k_cX10_greatest_ok (by decide +kernel) | decide +kernel) (fun v_8 w_9 h_10 => ?_)
    rcases h_10 with ⟨rfl, x_11, rfl⟩ | ⟨rfl, c_12, c_13, x_14, rfl⟩
    · skip
      show mp_W E X 4 16 [(0, .ref a0), (1, .int x0)] [.int 0] w4_ 0 0
      refine mp_run mp_k_cX10_greatest_ok hF mp_tabX10_ok [mp_h (.ifCond .ne 6) [22]] (by decide +kernel) ?_
      refine And.intro (fun c_15 => absurd c_15 (by decide)) (fun _ => ?_)
      show mp_W E X 4 19 [(0, .ref a0), (1, .int x0)] [] w4_ 0 0
      refine mp_run mp_k_cX10_greatest_ok hF mp_tabX10_ok [mp_c (.bipush (-2)) (-2)] (by decide +kernel) ?_
      show mp_W E X 4 21 [(0, .ref a0), (1, .int x0)] [.int (-2)] w4_ 0 0
      exact mp_iret hF hQ rfl rfl (Nat.le_of_ble_eq_true rfl) (Nat.le_of_ble_eq_true rfl) [9, 10, 0, 1, 2, 3, 4, 5, 6, 7, 8] (w' := w2_) rfl rfl ⟨y11, f6, f7, f8, f9, (-2), rfl, l_y11, u_y11, (by decide), (by decide), p13, rfl⟩ (by first | exact mp_fd_ok mp_k_cX10_greatest_ok (by decide +kernel) | decide +kernel)
    · skip
      have c_12 : 0 ≤ x0.toInt := c_12
      have c_13 : x0.toInt ≤ 99 := c_13
      show mp_W E X 4 16 [(0, .ref a0), (1, .int x0)] [.int 1] w4_ 0 0
      refine mp_run mp_k_cX10_greatest_ok hF mp_tabX10_ok [mp_h (.ifCond .ne 6) [22]] (by decide +kernel) ?_
      refine And.intro (fun _ => ?_) (fun c_16 => absurd c_16 (by decide))
      show mp_W E X 4 22 [(0, .ref a0), (1, .int x0)] [] w4_ 0 0
      refine mp_run mp_k_cX10_greatest_ok hF mp_tabX10_ok [mp_i (.aload_n 0)] (by decide +kernel) ?_
      show mp_W E X 4 23 [(0, .ref a0), (1, .int x0)] [.ref a0] w4_ 0 0
      refine mp_callV hF (As := []) (rest := []) (wr := [(mp_arI E a5 0 300 f4), (mp_arI E a1 0 5 f0)]) (bX10_lays_62 E a0 a2 a3 a4 a6 a7 a8 a9 a10 a11 a12 a13 a14 a15 a1 a16 a5 a17 a18 a19 a20 a21 a22 a23 a24 a25 f1 f2 f3 f5 f6 f7 f8 f9 0 y1 y2 y3 y4 y5 y6 y7 y8 y9 y10 y11 y12 y13 y14 y15 y16 y17 y18 y19 y20 y21 p0 p1 p2 p3 p4 p5 p6 p7 p12 p13 l_y1 u_y1 l_y2 u_y2 l_y3 u_y3 l_y4 u_y4 l_y11 u_y11 l_y12 u_y12 l_y13 u_y13 (by (first | exact q1 | omega))) mp_lkX10_288 9 rfl [9, 0, 1, 2, 4, 5, 6, 7, 8] [3, 10] rfl rfl rfl rfl rfl ⟨(Nat.le_of_ble_eq_true rfl), (Nat.le_of_ble_eq_true rfl), (Nat.le_of_ble_eq_true rfl), (Nat.le_of_ble_eq_true rfl)⟩ (Nat.le_of_ble_eq_true rfl) (by first | exact mp_fd_ok mp_k_cX10_greatest_ok (by decide +kernel) | decide +kernel) (fun v_17 w_18 h_19 => ?_)
      refine h_19.elim fun r_20 q_30 => q_30.elim fun g_21 q_31 => q_31.elim fun g_22 q_32 => q_32.elim fun g_23 q_33 => q_33.elim fun g_24 q_34 => q_34.elim fun e_35 q_36 => q_36.elim fun l_25 q_37 => q_37.elim fun u_26 q_38 => q_38.elim fun p_27 q_39 => q_39.elim fun x_28 q_40 => q_40.elim fun x_29 e_41 => ?_
      clear h_19 q_30 q_31 q_32 q_33 q_34 q_36 q_37 q_38 q_39 q_40
      subst e_35
      subst e_41
      let w5_ : va_W := [(mp_arI E a5 0 300 f4), (mp_arI E a1 0 5 f0), (mp_ob10 a0 0 a11 a12 a13 a14 a15 y1 y2 y3 y4 y5 y6 y7 y8 y9 y10 a1 a2 a3 a16 a4 a5 a6 a17 r_20 a7 a8 a9 a10 y12 y13 y14 a18 a19 y15 y16 a20 a21 a22 y17 y18 y19 y20 a23 a24 a25 y21), (mp_arI E a2 0 25 f1), (mp_arI E a3 0 180 f2), (mp_arI E a4 0 90 f3), (mp_arI E a6 0 300 f5), (mp_arI E a7 0 6 g_21), (mp_arI E a8 0 6 g_22), (mp_arI E a9 0 6 g_23), (mp_arI E a10 3 1500 g_24)]
      show mp_W E X 4 26 [(0, .ref a0), (1, .int x0)] [] w5_ 0 0
      refine mp_run mp_k_cX10_greatest_ok hF mp_tabX10_ok [mp_c (.iconst (-1)) (-1), mp_i (.istore_n 2), mp_c (.iconst 0) 0, mp_i (.istore_n 3)] (by decide +kernel) ?_
      show mp_W E X 4 30 [(3, .int 0), (2, .int (-1)), (0, .ref a0), (1, .int x0)] [] w5_ 0 0
      have lp_49 : ∀ (d_50 : Nat) (i_42 : Int32) (i_43 : Int32), 0 ≤ i_42.toInt → i_42.toInt ≤ 10 → (-1) ≤ i_43.toInt → i_43.toInt ≤ 9 → (i_43.toInt < i_42.toInt) → (f1 3).toInt - i_42.toInt ≤ (d_50 : Int) → mp_W E X 4 30 [(3, .int i_42), (2, .int i_43), (0, .ref a0), (1, .int x0)] [] [(mp_arI E a5 0 300 f4), (mp_arI E a1 0 5 f0), (mp_ob10 a0 0 a11 a12 a13 a14 a15 y1 y2 y3 y4 y5 y6 y7 y8 y9 y10 a1 a2 a3 a16 a4 a5 a6 a17 r_20 a7 a8 a9 a10 y12 y13 y14 a18 a19 y15 y16 a20 a21 a22 y17 y18 y19 y20 a23 a24 a25 y21), (mp_arI E a2 0 25 f1), (mp_arI E a3 0 180 f2), (mp_arI E a4 0 90 f3), (mp_arI E a6 0 300 f5), (mp_arI E a7 0 6 g_21), (mp_arI E a8 0 6 g_22), (mp_arI E a9 0 6 g_23), (mp_arI E a10 3 1500 g_24)] 0 0 := by
        intro d_50
        induction d_50 using Nat.strongRecOn with
        | ind d_50 ih_51 =>
          intro i_42 i_43 l_44 u_45 l_46 u_47 x_48 hm_52
          refine mp_run mp_k_cX10_greatest_ok hF mp_tabX10_ok [mp_i (.iload_n 3), mp_i (.aload_n 0), mp_h (.getfield 34) [17, 2], mp_c (.iconst 3) 3, mp_h .iaload [3], mp_h (.if_icmp .ge 40) [77]] (by decide +kernel) ?_
          refine And.intro rfl (And.intro rfl ?_)
          refine And.intro rfl (And.intro rfl (And.intro (vp_in_iff.mpr (by decide)) ?_))
          intro z_53 h_54
          have e_55 : 0 ≤ z_53.toInt ∧ z_53.toInt ≤ 10 := mp_res_ld h_54 p3 (by decide) (by decide) (by decide)
          have e_56 : z_53.toInt = (f1 3).toInt := congrArg Int32.toInt (mp_at h_54 (by decide) rfl)
          refine And.intro (fun c_57 => ?_) (fun c_57 => ?_)
          · have c_57 : z_53.toInt ≤ i_42.toInt := c_57
            show mp_W E X 4 77 [(3, .int i_42), (2, .int i_43), (0, .ref a0), (1, .int x0)] [] w5_ 0 0
            refine mp_run mp_k_cX10_greatest_ok hF mp_tabX10_ok [mp_i (.iload_n 2)] (by decide +kernel) ?_
            show mp_W E X 4 78 [(3, .int i_42), (2, .int i_43), (0, .ref a0), (1, .int x0)] [.int i_43] w5_ 0 0
            exact mp_iret hF hQ rfl rfl (Nat.le_of_ble_eq_true rfl) (Nat.le_of_ble_eq_true rfl) [2, 1, 3, 4, 5, 0, 6, 7, 8, 9, 10] (w' := [(mp_ob10 a0 0 a11 a12 a13 a14 a15 y1 y2 y3 y4 y5 y6 y7 y8 y9 y10 a1 a2 a3 a16 a4 a5 a6 a17 r_20 a7 a8 a9 a10 y12 y13 y14 a18 a19 y15 y16 a20 a21 a22 y17 y18 y19 y20 a23 a24 a25 y21), (mp_arI E a1 0 5 f0), (mp_arI E a2 0 25 f1), (mp_arI E a3 0 180 f2), (mp_arI E a4 0 90 f3), (mp_arI E a5 0 300 f4), (mp_arI E a6 0 300 f5), (mp_arI E a7 0 6 g_21), (mp_arI E a8 0 6 g_22), (mp_arI E a9 0 6 g_23), (mp_arI E a10 3 1500 g_24)]) rfl rfl ⟨r_20, g_21, g_22, g_23, g_24, i_43, rfl, l_25, u_26, (by (first | exact mp_o446 l_46 | omega)), u_47, p_27, rfl⟩ (by first | exact mp_fd_ok mp_k_cX10_greatest_ok (by decide +kernel) | decide +kernel)
          · have c_57 : i_42.toInt < z_53.toInt := c_57
            show mp_W E X 4 40 [(3, .int i_42), (2, .int i_43), (0, .ref a0), (1, .int x0)] [] w5_ 0 0
            refine mp_run mp_k_cX10_greatest_ok hF mp_tabX10_ok [mp_i (.aload_n 0), mp_i (.iload_n 3), mp_i (.iload_n 1)] (by decide +kernel) ?_
            show mp_W E X 4 43 [(3, .int i_42), (2, .int i_43), (0, .ref a0), (1, .int x0)] [.int x0, .int i_42, .ref a0] w5_ 0 0
            refine mp_callV hF (As := [.int i_42, .int x0]) (rest := []) (wr := [(mp_arI E a1 0 5 f0), (mp_arI E a3 0 180 f2), (mp_arI E a6 0 300 f5), (mp_arI E a7 0 6 g_21), (mp_arI E a8 0 6 g_22), (mp_arI E a9 0 6 g_23)]) (bX10_worthOf_72 E a0 a2 a4 a5 a10 a11 a12 a13 a14 a15 a1 a3 a16 a6 a17 a7 a8 a9 a18 a19 a20 a21 a22 a23 a24 a25 f1 f3 f4 g_24 0 y1 y2 y3 y4 y5 y6 y7 y8 y9 y10 r_20 y12 y13 y14 y15 y16 y17 y18 y19 y20 y21 i_42 x0 p0 p1 p2 p3 p4 p6 p7 p8 p9 p10 p11 l_44 (by (first | exact mp_o1533 c_57 e_55 | omega)) (by (first | exact c_12 | omega)) (by omega) l_y1 u_y1 l_y2 u_y2 l_y3 u_y3 l_y4 u_y4 l_25 u_26 l_y12 u_y12 l_y13 u_y13 (by first | assumption | (rw [rfl]; assumption)) (by (first | exact mp_o1535 e_56 c_57 | omega))) mp_lkX10_291 2 rfl [2, 3, 5, 0, 10] [1, 4, 6, 7, 8, 9] rfl rfl rfl rfl rfl ⟨(Nat.le_of_ble_eq_true rfl), (Nat.le_of_ble_eq_true rfl), (Nat.le_of_ble_eq_true rfl), (Nat.le_of_ble_eq_true rfl)⟩ (Nat.le_of_ble_eq_true rfl) (by first | exact mp_fd_ok mp_k_cX10_greatest_ok (by decide +kernel) | decide +kernel) (fun v_58 w_59 h_60 => ?_)
            obtain ⟨r_61, rfl, rfl⟩ := h_60
            let w6_ : va_W := [(mp_arI E a1 0 5 f0), (mp_arI E a3 0 180 f2), (mp_arI E a6 0 300 f5), (mp_arI E a7 0 6 g_21), (mp_arI E a8 0 6 g_22), (mp_arI E a9 0 6 g_23), (mp_ob10 a0 0 a11 a12 a13 a14 a15 y1 y2 y3 y4 y5 y6 y7 y8 y9 y10 a1 a2 a3 a16 a4 a5 a6 a17 r_20 a7 a8 a9 a10 y12 y13 y14 a18 a19 y15 y16 a20 a21 a22 y17 y18 y19 y20 a23 a24 a25 y21), (mp_arI E a2 0 25 f1), (mp_arI E a4 0 90 f3), (mp_arI E a5 0 300 f4), (mp_arI E a10 3 1500 g_24)]
            show mp_W E X 4 46 [(3, .int i_42), (2, .int i_43), (0, .ref a0), (1, .int x0)] [.int r_61] w6_ 0 0
            refine mp_run mp_k_cX10_greatest_ok hF mp_tabX10_ok [mp_h (.ifCond .le 25) [71]] (by decide +kernel) ?_
            refine And.intro (fun c_62 => ?_) (fun c_62 => ?_)
            · have c_62 : r_61.toInt ≤ 0 := c_62
              show mp_W E X 4 71 [(3, .int i_42), (2, .int i_43), (0, .ref a0), (1, .int x0)] [] w6_ 0 0
              refine mp_run mp_k_cX10_greatest_ok hF mp_tabX10_ok [mp_c (.iinc 3 1) 1, mp_h (.goto (-44)) [30]] (by decide +kernel) ?_
              intro z_63 h_64
              have e_65 : z_63.toInt = i_42.toInt + 1 := mp_add (a := i_42.toInt) (b := 1) h_64 rfl (by decide) (by (first | exact mp_o2 l_44 | omega)) (by (first | exact mp_o420 u_45 | omega))
              show mp_W E X 4 30 [(3, .int z_63), (2, .int i_43), (0, .ref a0), (1, .int x0)] [] w6_ 0 0
              exact mp_sub [0, 1, 2, 3] rfl [9, 0, 6, 7, 1, 8, 2, 3, 4, 5, 10] rfl rfl (ih_51 (d_50 - 1) (by (first | exact mp_o1454 hm_52 e_56 c_57 | omega)) z_63 i_43 (by (first | exact mp_o51 l_44 e_65 | omega)) (by (first | exact mp_o1534 e_65 c_57 e_55 | omega)) l_46 u_47 (by first | (first | exact mp_o1539 x_48 e_65 | omega) | decide | (show i_43.toInt < z_63.toInt; first | fail | decide)) (by (first | exact mp_o77 hm_52 e_65 | omega)))
            · have c_62 : 0 < r_61.toInt := c_62
              show mp_W E X 4 49 [(3, .int i_42), (2, .int i_43), (0, .ref a0), (1, .int x0)] [] w6_ 0 0
              refine mp_run mp_k_cX10_greatest_ok hF mp_tabX10_ok [mp_i (.iload_n 2), mp_c (.iconst (-1)) (-1), mp_h (.if_icmp .eq 18) [69]] (by decide +kernel) ?_
              refine And.intro (fun c_66 => ?_) (fun c_66 => ?_)
              · have c_66 : i_43.toInt = (-1) := (congrArg Int32.toInt c_66)
                show mp_W E X 4 69 [(3, .int i_42), (2, .int i_43), (0, .ref a0), (1, .int x0)] [] w6_ 0 0
                refine mp_run mp_k_cX10_greatest_ok hF mp_tabX10_ok [mp_i (.iload_n 3), mp_i (.istore_n 2), mp_c (.iinc 3 1) 1, mp_h (.goto (-44)) [30]] (by decide +kernel) ?_
                intro z_67 h_68
                have e_69 : z_67.toInt = i_42.toInt + 1 := mp_add (a := i_42.toInt) (b := 1) h_68 rfl (by decide) (by (first | exact mp_o2 l_44 | omega)) (by (first | exact mp_o420 u_45 | omega))
                show mp_W E X 4 30 [(3, .int z_67), (2, .int i_42), (0, .ref a0), (1, .int x0)] [] w6_ 0 0
                exact mp_sub [0, 1, 2, 3] rfl [9, 0, 6, 7, 1, 8, 2, 3, 4, 5, 10] rfl rfl (ih_51 (d_50 - 1) (by omega) z_67 i_42 (by (first | exact mp_o44 l_44 | omega)) (by (first | exact mp_o1533 c_57 e_55 | omega)) (by (first | exact mp_o44 l_44 | omega)) (by (first | exact mp_o1533 c_57 e_55 | omega)) (by first | (first | exact mp_o1540 e_69 | omega) | decide | (show i_42.toInt < z_67.toInt; first | fail | decide)) (by omega))
              · have c_66 : i_43.toInt ≠ (-1) := c_66
                show mp_W E X 4 54 [(3, .int i_42), (2, .int i_43), (0, .ref a0), (1, .int x0)] [] w6_ 0 0
                refine mp_run mp_k_cX10_greatest_ok hF mp_tabX10_ok [mp_i (.aload_n 0), mp_i (.iload_n 3), mp_i (.iload_n 1)] (by decide +kernel) ?_
                show mp_W E X 4 57 [(3, .int i_42), (2, .int i_43), (0, .ref a0), (1, .int x0)] [.int x0, .int i_42, .ref a0] w6_ 0 0
                refine mp_callV hF (As := [.int i_42, .int x0]) (rest := []) (wr := [(mp_arI E a1 0 5 f0), (mp_arI E a3 0 180 f2), (mp_arI E a6 0 300 f5), (mp_arI E a7 0 6 g_21), (mp_arI E a8 0 6 g_22), (mp_arI E a9 0 6 g_23)]) (bX10_worthOf_72 E a0 a2 a4 a5 a10 a11 a12 a13 a14 a15 a1 a3 a16 a6 a17 a7 a8 a9 a18 a19 a20 a21 a22 a23 a24 a25 f1 f3 f4 g_24 0 y1 y2 y3 y4 y5 y6 y7 y8 y9 y10 r_20 y12 y13 y14 y15 y16 y17 y18 y19 y20 y21 i_42 x0 p0 p1 p2 p3 p4 p6 p7 p8 p9 p10 p11 l_44 (by (first | exact mp_o1533 c_57 e_55 | omega)) (by (first | exact c_12 | omega)) (by (first | exact mp_o1513 c_13 | omega)) l_y1 u_y1 l_y2 u_y2 l_y3 u_y3 l_y4 u_y4 l_25 u_26 l_y12 u_y12 l_y13 u_y13 (by first | assumption | (rw [rfl]; assumption)) (by (first | exact mp_o1535 e_56 c_57 | omega))) mp_lkX10_291 6 rfl [6, 7, 8, 9, 10] [0, 1, 2, 3, 4, 5] rfl rfl rfl rfl rfl ⟨(Nat.le_of_ble_eq_true rfl), (Nat.le_of_ble_eq_true rfl), (Nat.le_of_ble_eq_true rfl), (Nat.le_of_ble_eq_true rfl)⟩ (Nat.le_of_ble_eq_true rfl) (by first | exact mp_fd_ok mp_k_cX10_greatest_ok (by decide +kernel) | decide +kernel) (fun v_70 w_71 h_72 => ?_)
                obtain ⟨r_73, rfl, rfl⟩ := h_72
                show mp_W E X 4 60 [(3, .int i_42), (2, .int i_43), (0, .ref a0), (1, .int x0)] [.int r_73] w6_ 0 0
                refine mp_run mp_k_cX10_greatest_ok hF mp_tabX10_ok [mp_i (.aload_n 0), mp_i (.iload_n 2), mp_i (.iload_n 1)] (by decide +kernel) ?_
                show mp_W E X 4 63 [(3, .int i_42), (2, .int i_43), (0, .ref a0), (1, .int x0)] [.int x0, .int i_43, .ref a0, .int r_73] w6_ 0 0
                refine mp_callV hF (As := [.int i_43, .int x0]) (rest := [.int r_73]) (wr := [(mp_arI E a1 0 5 f0), (mp_arI E a3 0 180 f2), (mp_arI E a6 0 300 f5), (mp_arI E a7 0 6 g_21), (mp_arI E a8 0 6 g_22), (mp_arI E a9 0 6 g_23)]) (bX10_worthOf_72 E a0 a2 a4 a5 a10 a11 a12 a13 a14 a15 a1 a3 a16 a6 a17 a7 a8 a9 a18 a19 a20 a21 a22 a23 a24 a25 f1 f3 f4 g_24 0 y1 y2 y3 y4 y5 y6 y7 y8 y9 y10 r_20 y12 y13 y14 y15 y16 y17 y18 y19 y20 y21 i_43 x0 p0 p1 p2 p3 p4 p6 p7 p8 p9 p10 p11 (by (first | exact mp_o424 l_46 c_66 | omega)) u_47 (by (first | exact c_12 | omega)) (by (first | exact mp_o1513 c_13 | omega)) l_y1 u_y1 l_y2 u_y2 l_y3 u_y3 l_y4 u_y4 l_25 u_26 l_y12 u_y12 l_y13 u_y13 (by first | assumption | (rw [rfl]; assumption)) (by (first | exact mp_o1541 e_56 c_57 x_48 | omega))) mp_lkX10_291 6 rfl [6, 7, 8, 9, 10] [0, 1, 2, 3, 4, 5] rfl rfl rfl rfl rfl ⟨(Nat.le_of_ble_eq_true rfl), (Nat.le_of_ble_eq_true rfl), (Nat.le_of_ble_eq_true rfl), (Nat.le_of_ble_eq_true rfl)⟩ (Nat.le_of_ble_eq_true rfl) (by first | exact mp_fd_ok mp_k_cX10_greatest_ok (by decide +kernel) | decide +kernel) (fun v_74 w_75 h_76 => ?_)
                obtain ⟨r_77, rfl, rfl⟩ := h_76
                show mp_W E X 4 66 [(3, .int i_42), (2, .int i_43), (0, .ref a0), (1, .int x0)] [.int r_77, .int r_73] w6_ 0 0
                refine mp_run mp_k_cX10_greatest_ok hF mp_tabX10_ok [mp_h (.if_icmp .le 5) [71]] (by decide +kernel) ?_
                refine And.intro (fun c_78 => ?_) (fun c_78 => ?_)
                · have c_78 : r_73.toInt ≤ r_77.toInt := c_78
                  show mp_W E X 4 71 [(3, .int i_42), (2, .int i_43), (0, .ref a0), (1, .int x0)] [] w6_ 0 0
                  refine mp_run mp_k_cX10_greatest_ok hF mp_tabX10_ok [mp_c (.iinc 3 1) 1, mp_h (.goto (-44)) [30]] (by decide +kernel) ?_
                  intro z_79 h_80
                  have e_81 : z_79.toInt = i_42.toInt + 1 := mp_add (a := i_42.toInt) (b := 1) h_80 rfl (by decide) (by (first | exact mp_o2 l_44 | omega)) (by (first | exact mp_o420 u_45 | omega))
                  show mp_W E X 4 30 [(3, .int z_79), (2, .int i_43), (0, .ref a0), (1, .int x0)] [] w6_ 0 0
                  exact mp_sub [0, 1, 2, 3] rfl [9, 0, 6, 7, 1, 8, 2, 3, 4, 5, 10] rfl rfl (ih_51 (d_50 - 1) (by (first | exact mp_o1454 hm_52 e_56 c_57 | omega)) z_79 i_43 (by (first | exact mp_o51 l_44 e_81 | omega)) (by (first | exact mp_o1534 e_81 c_57 e_55 | omega)) l_46 u_47 (by first | (first | exact mp_o1539 x_48 e_81 | omega) | decide | (show i_43.toInt < z_79.toInt; first | fail | decide)) (by (first | exact mp_o77 hm_52 e_81 | omega)))
                · have c_78 : r_77.toInt < r_73.toInt := c_78
                  show mp_W E X 4 69 [(3, .int i_42), (2, .int i_43), (0, .ref a0), (1, .int x0)] [] w6_ 0 0
                  refine mp_run mp_k_cX10_greatest_ok hF mp_tabX10_ok [mp_i (.iload_n 3), mp_i (.istore_n 2), mp_c (.iinc 3 1) 1, mp_h (.goto (-44)) [30]] (by decide +kernel) ?_
                  intro z_82 h_83
                  have e_84 : z_82.toInt = i_42.toInt + 1 := mp_add (a := i_42.toInt) (b := 1) h_83 rfl (by decide) (by (first | exact mp_o2 l_44 | omega)) (by (first | exact mp_o420 u_45 | omega))
                  show mp_W E X 4 30 [(3, .int z_82), (2, .int i_42), (0, .ref a0), (1, .int x0)] [] w6_ 0 0
                  exact mp_sub [0, 1, 2, 3] rfl [9, 0, 6, 7, 1, 8, 2, 3, 4, 5, 10] rfl rfl (ih_51 (d_50 - 1) (by omega) z_82 i_42 (by (first | exact mp_o44 l_44 | omega)) (by (first | exact mp_o1533 c_57 e_55 | omega)) (by (first | exact mp_o44 l_44 | omega)) (by (first | exact mp_o1533 c_57 e_55 | omega)) (by first | (first | exact mp_o1540 e_84 | omega) | decide | (show i_42.toInt < z_82.toInt; first | fail | decide)) (by omega))
      exact mp_sub [0, 1, 2, 3] rfl [0, 1, 2, 3, 4, 5, 6, 7, 8, 9, 10] rfl rfl (lp_49 _ 0 (-1) (by decide) (by decide) (by decide) (by decide) (by first | fail | decide | (show (-1) < 0; first | fail | decide)) (Int.self_le_toNat _))
set_option maxHeartbeats 4000000 in
set_option maxRecDepth 100000 in
theorem bX10_rootOf_84 (E : mp_E) : ∀ (d : Nat) (a0 a1 a2 a3 a4 a5 a6 a7 a8 a9 a10 a11 a12 a13 a14 a15 a16 a17 a18 a19 a20 a21 a22 a23 a24 a25 : Nat) (f0 : Nat → Int32) (f1 : Nat → Int32) (y0 : Int32) (y1 : Int32) (y2 : Int32) (y3 : Int32) (y4 : Int32) (y5 : Int32) (y6 : Int64) (y7 : Int32) (y8 : Int32) (y9 : Int32) (y10 : Int32) (y11 : Int32) (y12 : Int32) (y13 : Int32) (y14 : Int32) (y15 : Int32) (y16 : Int32) (y17 : Int32) (y18 : Int32) (y19 : Int32) (y20 : Int32) (y21 : Int32) (x0 : Int32) (p0 : mp_res f0 25 5 0 0 6) (p1 : mp_res f0 25 5 1 0 99) (p2 : mp_res f0 25 5 2 0 6) (p3 : mp_res f0 25 5 3 0 10) (p4 : mp_res f0 25 5 4 0 60) (p5 : mp_res f1 300 6 0 0 5) (p6 : mp_res f1 300 6 1 0 5) (p7 : mp_res f1 300 6 3 0 99) (p8 : mp_res f1 300 6 4 0 1) (l_x0 : 0 ≤ x0.toInt) (u_x0 : x0.toInt ≤ 9) (l_y1 : 0 ≤ y1.toInt) (u_y1 : y1.toInt ≤ 1600) (l_y2 : 0 ≤ y2.toInt) (u_y2 : y2.toInt ≤ 1600) (l_y3 : 0 ≤ y3.toInt) (u_y3 : y3.toInt ≤ 4) (l_y4 : 0 ≤ y4.toInt) (u_y4 : y4.toInt ≤ 1600) (l_y11 : 0 ≤ y11.toInt) (u_y11 : y11.toInt ≤ 99) (l_y12 : 0 ≤ y12.toInt) (u_y12 : y12.toInt ≤ 5) (l_y13 : 0 ≤ y13.toInt) (u_y13 : y13.toInt ≤ 12) (q0 : mp_prm f1 (f0 3).toInt) (q1 : x0.toInt < (f0 3).toInt), x0.toInt < (d : Int) → mp_Ct E yX10_rootOf cX10_rootOf 2 (some FieldType.int) (1 + 1 * d) 0 0 (22 + 21 * d) [.ref a0, .int x0] [(mp_ob10 a0 y0 a3 a4 a5 a6 a7 y1 y2 y3 y4 y5 y6 y7 y8 y9 y10 a8 a1 a9 a10 a11 a2 a12 a13 y11 a14 a15 a16 a17 y12 y13 y14 a18 a19 y15 y16 a20 a21 a22 y17 y18 y19 y20 a23 a24 a25 y21), (mp_arI E a1 0 25 f0), (mp_arI E a2 0 300 f1)] (fun v w' => ∃ r1 : Int32, v = some (.int r1) ∧ (mp_RO (fun j : Nat => f1 (6 * j + 5)) x0.toInt r1.toInt) ∧ w' = [(mp_ob10 a0 y0 a3 a4 a5 a6 a7 y1 y2 y3 y4 y5 y6 y7 y8 y9 y10 a8 a1 a9 a10 a11 a2 a12 a13 y11 a14 a15 a16 a17 y12 y13 y14 a18 a19 y15 y16 a20 a21 a22 y17 y18 y19 y20 a23 a24 a25 y21), (mp_arI E a1 0 25 f0), (mp_arI E a2 0 300 f1)]) := by
  intro d
  induction d using Nat.strongRecOn with
  | ind d ih_d =>
  intro a0 a1 a2 a3 a4 a5 a6 a7 a8 a9 a10 a11 a12 a13 a14 a15 a16 a17 a18 a19 a20 a21 a22 a23 a24 a25 f0 f1 y0 y1 y2 y3 y4 y5 y6 y7 y8 y9 y10 y11 y12 y13 y14 y15 y16 y17 y18 y19 y20 y21 x0 p0 p1 p2 p3 p4 p5 p6 p7 p8 l_x0 u_x0 l_y1 u_y1 l_y2 u_y2 l_y3 u_y3 l_y4 u_y4 l_y11 u_y11 l_y12 u_y12 l_y13 u_y13 q0 q1 hd_d
  refine mp_met false (by decide) (by decide) (Nat.le_of_ble_eq_true rfl) (fun X hF hQ => ?_)
  have hF : mp_F E X (RX10, cX10_rootOf, 2, (1 + 1 * d, 0, 0, 22 + 21 * d), (some FieldType.int), false) := hF
  let w1_ : va_W := [(mp_ob10 a0 y0 a3 a4 a5 a6 a7 y1 y2 y3 y4 y5 y6 y7 y8 y9 y10 a8 a1 a9 a10 a11 a2 a12 a13 y11 a14 a15 a16 a17 y12 y13 y14 a18 a19 y15 y16 a20 a21 a22 y17 y18 y19 y20 a23 a24 a25 y21), (mp_arI E a1 0 25 f0), (mp_arI E a2 0 300 f1)]
  show mp_W E X 2 0 [(0, .ref a0), (1, .int x0)] [] w1_ 0 0
  refine mp_runR mp_k_cX10_rootOf_ok hF mp_tabX10_ok (nL := 2) (ini := false) rfl rfl [mp_i (.aload_n 0), mp_i (.iload_n 1), mp_c (.iconst 5) 5] (by decide +kernel) ?_
  show mp_W E X 2 3 [(0, .ref a0), (1, .int x0)] [.int 5, .int x0, .ref a0] w1_ 0 0
  refine mp_callV hF (As := [.int x0, .int 5]) (rest := []) (wr := [(mp_arI E a1 0 25 f0)]) (bX10_of_67 E a0 a2 a3 a4 a5 a6 a7 a8 a1 a9 a10 a11 a12 a13 a14 a15 a16 a17 a18 a19 a20 a21 a22 a23 a24 a25 f1 y0 y1 y2 y3 y4 y5 y6 y7 y8 y9 y10 y11 y12 y13 y14 y15 y16 y17 y18 y19 y20 y21 x0 p5 p6 p7 p8 l_x0 u_x0 l_y1 u_y1 l_y2 u_y2 l_y3 u_y3 l_y4 u_y4 l_y11 u_y11 l_y12 u_y12 l_y13 u_y13) mp_lkX10_267 0 rfl [0, 2] [1] rfl rfl rfl rfl rfl ⟨(Nat.le_trans (m := 1) (Nat.le_of_ble_eq_true rfl) (Nat.le_add_right _ _)), (Nat.le_trans (m := 22) (Nat.le_of_ble_eq_true rfl) (Nat.le_add_right _ _)), (Nat.le_of_ble_eq_true rfl), (Nat.le_of_ble_eq_true rfl)⟩ (Nat.le_of_ble_eq_true rfl) (by first | exact mp_fd_ok mp_k_cX10_rootOf_ok (by decide +kernel) | decide +kernel | (dsimp only; decide +kernel)) (fun v_1 w_2 h_3 => ?_)
  obtain ⟨r_4, rfl, x_5, rfl⟩ := h_3
  have e_6 := mp_prm_use (f := f1) (n := (f0 3).toInt) (by assumption) x0 (by (first | exact l_x0 | omega)) (by (first | exact q1 | omega))
  let w2_ : va_W := [(mp_arI E a1 0 25 f0), (mp_ob10 a0 y0 a3 a4 a5 a6 a7 y1 y2 y3 y4 y5 y6 y7 y8 y9 y10 a8 a1 a9 a10 a11 a2 a12 a13 y11 a14 a15 a16 a17 y12 y13 y14 a18 a19 y15 y16 a20 a21 a22 y17 y18 y19 y20 a23 a24 a25 y21), (mp_arI E a2 0 300 f1)]
  show mp_W E X 2 6 [(0, .ref a0), (1, .int x0)] [.int r_4] w2_ 0 0
  refine mp_runR mp_k_cX10_rootOf_ok hF mp_tabX10_ok (nL := 2) (ini := false) rfl rfl [mp_c (.iconst (-1)) (-1), mp_h (.if_icmp .ne 7) [14]] (by decide +kernel) ?_
  refine And.intro (fun c_7 => ?_) (fun c_7 => ?_)
  · have c_7 : r_4.toInt ≠ (-1) := c_7
    show mp_W E X 2 14 [(0, .ref a0), (1, .int x0)] [] w2_ 0 0
    refine mp_runR mp_k_cX10_rootOf_ok hF mp_tabX10_ok (nL := 2) (ini := false) rfl rfl [mp_i (.aload_n 0), mp_i (.aload_n 0), mp_i (.iload_n 1), mp_c (.iconst 5) 5] (by decide +kernel) ?_
    show mp_W E X 2 18 [(0, .ref a0), (1, .int x0)] [.int 5, .int x0, .ref a0, .ref a0] w2_ 0 0
    refine mp_callV hF (As := [.int x0, .int 5]) (rest := [.ref a0]) (wr := [(mp_arI E a1 0 25 f0)]) (bX10_of_67 E a0 a2 a3 a4 a5 a6 a7 a8 a1 a9 a10 a11 a12 a13 a14 a15 a16 a17 a18 a19 a20 a21 a22 a23 a24 a25 f1 y0 y1 y2 y3 y4 y5 y6 y7 y8 y9 y10 y11 y12 y13 y14 y15 y16 y17 y18 y19 y20 y21 x0 p5 p6 p7 p8 l_x0 u_x0 l_y1 u_y1 l_y2 u_y2 l_y3 u_y3 l_y4 u_y4 l_y11 u_y11 l_y12 u_y12 l_y13 u_y13) mp_lkX10_267 1 rfl [1, 2] [0] rfl rfl rfl rfl rfl ⟨(Nat.le_trans (m := 1) (Nat.le_of_ble_eq_true rfl) (Nat.le_add_right _ _)), (Nat.le_trans (m := 22) (Nat.le_of_ble_eq_true rfl) (Nat.le_add_right _ _)), (Nat.le_of_ble_eq_true rfl), (Nat.le_of_ble_eq_true rfl)⟩ (Nat.le_of_ble_eq_true rfl) (by first | exact mp_fd_ok mp_k_cX10_rootOf_ok (by decide +kernel) | decide +kernel | (dsimp only; decide +kernel)) (fun v_8 w_9 h_10 => ?_)
    obtain ⟨r_11, rfl, x_12, rfl⟩ := h_10
    have e_13 := mp_prm_use (f := f1) (n := (f0 3).toInt) (by assumption) x0 (by (first | exact l_x0 | omega)) (by (first | exact q1 | omega))
    show mp_W E X 2 21 [(0, .ref a0), (1, .int x0)] [.int r_11, .ref a0] w2_ 0 0
    refine mp_callV hF (As := [.int r_11]) (rest := []) (wr := []) (ih_d (d - 1) (by (first | exact mp_o1506 hd_d e_6 | omega)) a0 a1 a2 a3 a4 a5 a6 a7 a8 a9 a10 a11 a12 a13 a14 a15 a16 a17 a18 a19 a20 a21 a22 a23 a24 a25 f0 f1 y0 y1 y2 y3 y4 y5 y6 y7 y8 y9 y10 y11 y12 y13 y14 y15 y16 y17 y18 y19 y20 y21 r_11 p0 p1 p2 p3 p4 p5 p6 p7 p8 (by (first | exact mp_o1507 c_7 x_12 x_5 e_6 | omega)) (by (first | exact mp_o1508 u_x0 x_12 e_6 | omega)) l_y1 u_y1 l_y2 u_y2 l_y3 u_y3 l_y4 u_y4 l_y11 u_y11 l_y12 u_y12 l_y13 u_y13 (by first | assumption | (rw [rfl]; assumption)) (by (first | exact mp_o1509 q1 x_12 e_6 | omega)) (by (first | exact mp_o1510 hd_d x_12 e_6 | omega))) mp_lkX10_309 1 rfl [1, 0, 2] [] rfl rfl rfl rfl rfl ⟨(by show 1 + 1 * (d - 1) + 1 ≤ 1 + 1 * d; (first | exact mp_o1542 hd_d e_6 | omega)), (by show 8 + (2 + 11) + (22 + 21 * (d - 1)) ≤ 22 + 21 * d; (first | exact mp_o1543 hd_d e_6 | omega)), (Nat.le_of_ble_eq_true rfl), (Nat.le_of_ble_eq_true rfl)⟩ (Nat.le_of_ble_eq_true rfl) (by first | exact mp_fd_ok mp_k_cX10_rootOf_ok (by decide +kernel) | decide +kernel | (dsimp only; decide +kernel)) (fun v_14 w_15 h_16 => ?_)
    obtain ⟨r_17, rfl, x_18, rfl⟩ := h_16
    show mp_W E X 2 24 [(0, .ref a0), (1, .int x0)] [.int r_17] w1_ 0 0
    exact mp_iret hF hQ rfl rfl (Nat.le_of_ble_eq_true rfl) (Nat.le_of_ble_eq_true rfl) [0, 1, 2] (w' := w1_) rfl rfl ⟨r_17, rfl, (mp_RO_s x_18 (show _ = (f1 (6 * x0.toInt.toNat + 5)).toInt from by (first | exact x_12 | omega)) (by have i1 : (-1 : Int32).toInt = -1 := rfl; (first | exact mp_o1544 c_7 x_12 x_5 | omega)) (by (first | exact mp_o1545 x_12 e_6 | omega))), rfl⟩ (by first | exact mp_fd_ok mp_k_cX10_rootOf_ok (by decide +kernel) | decide +kernel | (dsimp only; decide +kernel))
  · have c_7 : r_4.toInt = (-1) := (congrArg Int32.toInt c_7)
    show mp_W E X 2 10 [(0, .ref a0), (1, .int x0)] [] w2_ 0 0
    refine mp_runR mp_k_cX10_rootOf_ok hF mp_tabX10_ok (nL := 2) (ini := false) rfl rfl [mp_i (.iload_n 1), mp_h (.goto 13) [24]] (by decide +kernel) ?_
    show mp_W E X 2 24 [(0, .ref a0), (1, .int x0)] [.int x0] w2_ 0 0
    exact mp_iret hF hQ rfl rfl (Nat.le_of_ble_eq_true rfl) (Nat.le_of_ble_eq_true rfl) [1, 0, 2] (w' := w1_) rfl rfl ⟨x0, rfl, (mp_RO_0 (show (f1 (6 * x0.toInt.toNat + 5)).toInt = -1 from by have i1 : (-1 : Int32).toInt = -1 := rfl; (first | exact mp_o639 c_7 x_5 | omega)) (by (first | exact l_x0 | omega))), rfl⟩ (by first | exact mp_fd_ok mp_k_cX10_rootOf_ok (by decide +kernel) | decide +kernel | (dsimp only; decide +kernel))
set_option maxHeartbeats 4000000 in
set_option maxRecDepth 100000 in
theorem bX10_root_85 (E : mp_E) (a0 a1 a2 a3 a4 a5 a6 a7 a8 a9 a10 a11 a12 a13 a14 a15 a16 a17 a18 a19 a20 a21 a22 a23 a24 a25 : Nat) (f0 : Nat → Int32) (f1 : Nat → Int32) (y0 : Int32) (y1 : Int32) (y2 : Int32) (y3 : Int32) (y4 : Int32) (y5 : Int32) (y6 : Int64) (y7 : Int32) (y8 : Int32) (y9 : Int32) (y10 : Int32) (y11 : Int32) (y12 : Int32) (y13 : Int32) (y14 : Int32) (y15 : Int32) (y16 : Int32) (y17 : Int32) (y18 : Int32) (y19 : Int32) (y20 : Int32) (y21 : Int32) (x0 : Int32) (p0 : mp_res f0 25 5 0 0 6) (p1 : mp_res f0 25 5 1 0 99) (p2 : mp_res f0 25 5 2 0 6) (p3 : mp_res f0 25 5 3 0 10) (p4 : mp_res f0 25 5 4 0 60) (p5 : mp_res f1 300 6 0 0 5) (p6 : mp_res f1 300 6 1 0 5) (p7 : mp_res f1 300 6 3 0 99) (p8 : mp_res f1 300 6 4 0 1) (l_y1 : 0 ≤ y1.toInt) (u_y1 : y1.toInt ≤ 1600) (l_y2 : 0 ≤ y2.toInt) (u_y2 : y2.toInt ≤ 1600) (l_y3 : 0 ≤ y3.toInt) (u_y3 : y3.toInt ≤ 4) (l_y4 : 0 ≤ y4.toInt) (u_y4 : y4.toInt ≤ 1600) (l_y11 : 0 ≤ y11.toInt) (u_y11 : y11.toInt ≤ 99) (l_y12 : 0 ≤ y12.toInt) (u_y12 : y12.toInt ≤ 5) (l_y13 : 0 ≤ y13.toInt) (u_y13 : y13.toInt ≤ 12) (q0 : mp_prm f1 (f0 3).toInt) : mp_Ct E yX10_root cX10_root 2 (some FieldType.int) 12 0 0 253 [.ref a0, .int x0] [(mp_ob10 a0 y0 a3 a4 a5 a6 a7 y1 y2 y3 y4 y5 y6 y7 y8 y9 y10 a8 a1 a9 a10 a11 a2 a12 a13 y11 a14 a15 a16 a17 y12 y13 y14 a18 a19 y15 y16 a20 a21 a22 y17 y18 y19 y20 a23 a24 a25 y21), (mp_arI E a1 0 25 f0), (mp_arI E a2 0 300 f1)] (fun v w' => ∃ r1 : Int32, v = some (.int r1) ∧ (((x0.toInt < 0 ∨ (f0 3).toInt ≤ x0.toInt) ∧ r1.toInt = -2) ∨ ((0 ≤ x0.toInt ∧ x0.toInt < (f0 3).toInt) ∧ r1.toInt = mp_it (fun j : Nat => f1 (6 * j + 5)) x0.toInt 10)) ∧ w' = [(mp_ob10 a0 0 a3 a4 a5 a6 a7 y1 y2 y3 y4 y5 y6 y7 y8 y9 y10 a8 a1 a9 a10 a11 a2 a12 a13 y11 a14 a15 a16 a17 y12 y13 y14 a18 a19 y15 y16 a20 a21 a22 y17 y18 y19 y20 a23 a24 a25 y21), (mp_arI E a1 0 25 f0), (mp_arI E a2 0 300 f1)]) := by
  refine mp_met false (by decide) (by decide) (Nat.le_of_ble_eq_true rfl) (fun X hF hQ => ?_)
  have hF : mp_F E X (RX10, cX10_root, 2, (12, 0, 0, 253), (some FieldType.int), false) := hF
  let w1_ : va_W := [(mp_ob10 a0 y0 a3 a4 a5 a6 a7 y1 y2 y3 y4 y5 y6 y7 y8 y9 y10 a8 a1 a9 a10 a11 a2 a12 a13 y11 a14 a15 a16 a17 y12 y13 y14 a18 a19 y15 y16 a20 a21 a22 y17 y18 y19 y20 a23 a24 a25 y21), (mp_arI E a1 0 25 f0), (mp_arI E a2 0 300 f1)]
  show mp_W E X 2 0 [(0, .ref a0), (1, .int x0)] [] w1_ 0 0
  refine mp_run mp_k_cX10_root_ok hF mp_tabX10_ok [mp_i (.aload_n 0), mp_c (.iconst 0) 0, mp_h (.putfield 92) [0, 0]] (by decide +kernel) ?_
  refine And.intro rfl (And.intro rfl (And.intro rfl (And.intro rfl (And.intro (Nat.le_of_ble_eq_true rfl) ?_))))
  let w2_ : va_W := [(mp_ob10 a0 0 a3 a4 a5 a6 a7 y1 y2 y3 y4 y5 y6 y7 y8 y9 y10 a8 a1 a9 a10 a11 a2 a12 a13 y11 a14 a15 a16 a17 y12 y13 y14 a18 a19 y15 y16 a20 a21 a22 y17 y18 y19 y20 a23 a24 a25 y21), (mp_arI E a1 0 25 f0), (mp_arI E a2 0 300 f1)]
  show mp_W E X 2 5 [(0, .ref a0), (1, .int x0)] [] w2_ 0 0
  refine mp_run mp_k_cX10_root_ok hF mp_tabX10_ok [mp_i (.aload_n 0), mp_i (.iload_n 1)] (by decide +kernel) ?_
  show mp_W E X 2 7 [(0, .ref a0), (1, .int x0)] [.int x0, .ref a0] w2_ 0 0
  refine mp_callV hF (As := [.int x0]) (rest := []) (wr := [(mp_arI E a2 0 300 f1)]) (bX10_isPromise_55 E a0 a1 a3 a4 a5 a6 a7 a8 a9 a10 a11 a2 a12 a13 a14 a15 a16 a17 a18 a19 a20 a21 a22 a23 a24 a25 f0 0 y1 y2 y3 y4 y5 y6 y7 y8 y9 y10 y11 y12 y13 y14 y15 y16 y17 y18 y19 y20 y21 x0 p0 p1 p2 p3 p4 l_y1 u_y1 l_y2 u_y2 l_y3 u_y3 l_y4 u_y4 l_y11 u_y11 l_y12 u_y12 l_y13 u_y13) mp_lkX10_262 0 rfl [0, 1] [2] rfl rfl rfl rfl rfl ⟨(Nat.le_of_ble_eq_true rfl), (Nat.le_of_ble_eq_true rfl), (Nat.le_of_ble_eq_true rfl), (Nat.le_of_ble_eq_true rfl)⟩ (Nat.le_of_ble_eq_true rfl) (by first | exact mp_fd_ok mp_k_cX10_root_ok (by decide +kernel) | decide +kernel) (fun v_1 w_2 h_3 => ?_)
  refine h_3.elim (fun q_9 => ?_) (fun q_10 => ?_)
  · skip
    refine q_9.elim fun e_11 q_12 => q_12.elim fun x_4 e_13 => ?_
    clear h_3 q_9 q_12
    subst e_11
    subst e_13
    let w3_ : va_W := [(mp_arI E a2 0 300 f1), (mp_ob10 a0 0 a3 a4 a5 a6 a7 y1 y2 y3 y4 y5 y6 y7 y8 y9 y10 a8 a1 a9 a10 a11 a2 a12 a13 y11 a14 a15 a16 a17 y12 y13 y14 a18 a19 y15 y16 a20 a21 a22 y17 y18 y19 y20 a23 a24 a25 y21), (mp_arI E a1 0 25 f0)]
    show mp_W E X 2 10 [(0, .ref a0), (1, .int x0)] [.int 0] w3_ 0 0
    refine mp_run mp_k_cX10_root_ok hF mp_tabX10_ok [mp_h (.ifCond .eq 11) [21]] (by decide +kernel) ?_
    refine And.intro (fun _ => ?_) (fun c_14 => absurd c_14 (by decide))
    show mp_W E X 2 21 [(0, .ref a0), (1, .int x0)] [] w3_ 0 0
    refine mp_run mp_k_cX10_root_ok hF mp_tabX10_ok [mp_c (.bipush (-2)) (-2)] (by decide +kernel) ?_
    show mp_W E X 2 23 [(0, .ref a0), (1, .int x0)] [.int (-2)] w3_ 0 0
    exact mp_iret hF hQ rfl rfl (Nat.le_of_ble_eq_true rfl) (Nat.le_of_ble_eq_true rfl) [1, 2, 0] (w' := w2_) rfl rfl ⟨(-2), rfl, (by first | fail | decide | (have h8 : (0 : Int64).toInt = 0 := rfl; have h9 : (-1 : Int32).toInt = -1 := rfl; have h10 : (-2 : Int32).toInt = -2 := rfl; have h11 : (0 : Int32).toInt = 0 := rfl; have h12 : (1 : Int32).toInt = 1 := rfl; have h13 : (-5 : Int32).toInt = -5 := rfl; have h14 : (-3 : Int32).toInt = -3 := rfl; (first | exact mp_o448 x_4 h10 | omega))), rfl⟩ (by first | exact mp_fd_ok mp_k_cX10_root_ok (by decide +kernel) | decide +kernel)
  · skip
    refine q_10.elim fun e_15 q_16 => q_16.elim fun c_5 q_17 => q_17.elim fun x_6 q_18 => q_18.elim fun x_7 q_19 => q_19.elim fun x_8 e_20 => ?_
    clear h_3 q_10 q_16 q_17 q_18 q_19
    subst e_15
    subst e_20
    have c_5 : 0 ≤ x0.toInt := c_5
    let w4_ : va_W := [(mp_arI E a2 0 300 f1), (mp_ob10 a0 0 a3 a4 a5 a6 a7 y1 y2 y3 y4 y5 y6 y7 y8 y9 y10 a8 a1 a9 a10 a11 a2 a12 a13 y11 a14 a15 a16 a17 y12 y13 y14 a18 a19 y15 y16 a20 a21 a22 y17 y18 y19 y20 a23 a24 a25 y21), (mp_arI E a1 0 25 f0)]
    show mp_W E X 2 10 [(0, .ref a0), (1, .int x0)] [.int 1] w4_ 0 0
    refine mp_run mp_k_cX10_root_ok hF mp_tabX10_ok [mp_h (.ifCond .eq 11) [21]] (by decide +kernel) ?_
    refine And.intro (fun c_21 => absurd c_21 (by decide)) (fun _ => ?_)
    show mp_W E X 2 13 [(0, .ref a0), (1, .int x0)] [] w4_ 0 0
    refine mp_run mp_k_cX10_root_ok hF mp_tabX10_ok [mp_i (.aload_n 0), mp_i (.iload_n 1)] (by decide +kernel) ?_
    show mp_W E X 2 15 [(0, .ref a0), (1, .int x0)] [.int x0, .ref a0] w4_ 0 0
    refine mp_callV hF (As := [.int x0]) (rest := []) (wr := []) (bX10_rootOf_84 E 10 a0 a1 a2 a3 a4 a5 a6 a7 a8 a9 a10 a11 a12 a13 a14 a15 a16 a17 a18 a19 a20 a21 a22 a23 a24 a25 f0 f1 0 y1 y2 y3 y4 y5 y6 y7 y8 y9 y10 y11 y12 y13 y14 y15 y16 y17 y18 y19 y20 y21 x0 p0 p1 p2 p3 p4 p5 p6 p7 p8 (by (first | exact c_5 | omega)) (by (first | exact x_7 | omega)) l_y1 u_y1 l_y2 u_y2 l_y3 u_y3 l_y4 u_y4 l_y11 u_y11 l_y12 u_y12 l_y13 u_y13 (by first | assumption | (rw [rfl]; assumption)) (by (first | exact x_6 | omega)) (by first | (first | exact mp_o208 x_7 | omega) | (have h8 : (0 : Int32).toInt = 0 := rfl; omega))) mp_lkX10_309 1 rfl [1, 2, 0] [] rfl rfl rfl rfl rfl ⟨(Nat.le_of_ble_eq_true rfl), (Nat.le_of_ble_eq_true rfl), (Nat.le_of_ble_eq_true rfl), (Nat.le_of_ble_eq_true rfl)⟩ (Nat.le_of_ble_eq_true rfl) (by first | exact mp_fd_ok mp_k_cX10_root_ok (by decide +kernel) | decide +kernel) (fun v_22 w_23 h_24 => ?_)
    obtain ⟨r_25, rfl, x_26, rfl⟩ := h_24
    show mp_W E X 2 18 [(0, .ref a0), (1, .int x0)] [.int r_25] w2_ 0 0
    refine mp_run mp_k_cX10_root_ok hF mp_tabX10_ok [mp_h (.goto 5) [23]] (by decide +kernel) ?_
    show mp_W E X 2 23 [(0, .ref a0), (1, .int x0)] [.int r_25] w2_ 0 0
    exact mp_iret hF hQ rfl rfl (Nat.le_of_ble_eq_true rfl) (Nat.le_of_ble_eq_true rfl) [0, 1, 2] (w' := w2_) rfl rfl ⟨r_25, rfl, (Or.inr ⟨by (first | exact x_8 | omega), mp_RO_it x_26 (by (first | exact mp_o1546 x_7 | omega))⟩), rfl⟩ (by first | exact mp_fd_ok mp_k_cX10_root_ok (by decide +kernel) | decide +kernel)
set_option maxHeartbeats 4000000 in
set_option maxRecDepth 100000 in
theorem bX10_isBit_86 (E : mp_E) (x0 : Int32) (x1 : Int32) : mp_Ct E yX10_isBit cX10_isBit 2 (some FieldType.boolean) 0 0 0 0 [.int x0, .int x1] [] (fun v w' => (v = some (.int 0) ∧ (¬ mp_bitx x0 x1) ∧ w' = []) ∨ (v = some (.int 1) ∧ (mp_bitx x0 x1) ∧ w' = [])) := by
  refine mp_met false (by decide) (by decide) (Nat.le_of_ble_eq_true rfl) (fun X hF hQ => ?_)
  have hF : mp_F E X (RX10, cX10_isBit, 2, (0, 0, 0, 0), (some FieldType.boolean), false) := hF
  show mp_W E X 2 0 [(0, .int x0), (1, .int x1)] [] [] 0 0
  refine mp_run mp_k_cX10_isBit_ok hF mp_tabX10_ok [mp_i (.iload_n 0), mp_i (.iload_n 1), mp_i .ishr, mp_c (.iconst 1) 1, mp_i .iand, mp_c (.iconst 1) 1, mp_h (.if_icmp .ne 7) [13]] (by decide +kernel) ?_
  intro z_1 h_2
  intro z_4 h_5
  refine And.intro (fun c_7 => ?_) (fun c_7 => ?_)
  · have c_7 : z_4.toInt ≠ 1 := c_7
    show mp_W E X 2 13 [(0, .int x0), (1, .int x1)] [] [] 0 0
    refine mp_run mp_k_cX10_isBit_ok hF mp_tabX10_ok [mp_c (.iconst 0) 0] (by decide +kernel) ?_
    show mp_W E X 2 14 [(0, .int x0), (1, .int x1)] [.int 0] [] 0 0
    exact mp_iret hF hQ rfl (by decide) (Nat.le_of_ble_eq_true rfl) (Nat.le_of_ble_eq_true rfl) [] (w' := []) rfl rfl (Or.inl ⟨rfl, (by have h9 := c_7; subst_vars; intro q; exact h9 (by rw [q]; rfl)), rfl⟩) (by first | exact mp_fd_ok mp_k_cX10_isBit_ok (by decide +kernel) | decide +kernel)
  · have c_7 : z_4.toInt = 1 := (congrArg Int32.toInt c_7)
    show mp_W E X 2 9 [(0, .int x0), (1, .int x1)] [] [] 0 0
    refine mp_run mp_k_cX10_isBit_ok hF mp_tabX10_ok [mp_c (.iconst 1) 1, mp_h (.goto 4) [14]] (by decide +kernel) ?_
    show mp_W E X 2 14 [(0, .int x0), (1, .int x1)] [.int 1] [] 0 0
    exact mp_iret hF hQ rfl (by decide) (Nat.le_of_ble_eq_true rfl) (Nat.le_of_ble_eq_true rfl) [] (w' := []) rfl rfl (Or.inr ⟨rfl, (by have h9 := Int32.toInt_inj.mp (show (z_4).toInt = (1 : Int32).toInt from c_7); rw [h_5, h_2] at h9; exact h9), rfl⟩) (by first | exact mp_fd_ok mp_k_cX10_isBit_ok (by decide +kernel) | decide +kernel)
set_option maxHeartbeats 4000000 in
set_option maxRecDepth 100000 in
theorem bX10_upon_87 (E : mp_E) (a0 a1 a2 a3 a4 a5 a6 a7 a8 a9 a10 a11 a12 a13 a14 a15 a16 a17 a18 a19 a20 a21 a22 a23 a24 a25 : Nat) (f0 : Nat → Int32) (f1 : Nat → Int32) (y0 : Int32) (y1 : Int32) (y2 : Int32) (y3 : Int32) (y4 : Int32) (y5 : Int32) (y6 : Int64) (y7 : Int32) (y8 : Int32) (y9 : Int32) (y10 : Int32) (y11 : Int32) (y12 : Int32) (y13 : Int32) (y14 : Int32) (y15 : Int32) (y16 : Int32) (y17 : Int32) (y18 : Int32) (y19 : Int32) (y20 : Int32) (y21 : Int32) (x0 : Int32) (p0 : mp_res f0 25 5 0 0 6) (p1 : mp_res f0 25 5 1 0 99) (p2 : mp_res f0 25 5 2 0 6) (p3 : mp_res f0 25 5 3 0 10) (p4 : mp_res f0 25 5 4 0 60) (p5 : mp_res f1 300 6 0 0 5) (p6 : mp_res f1 300 6 1 0 5) (p7 : mp_res f1 300 6 3 0 99) (p8 : mp_res f1 300 6 4 0 1) (l_y1 : 0 ≤ y1.toInt) (u_y1 : y1.toInt ≤ 1600) (l_y2 : 0 ≤ y2.toInt) (u_y2 : y2.toInt ≤ 1600) (l_y3 : 0 ≤ y3.toInt) (u_y3 : y3.toInt ≤ 4) (l_y4 : 0 ≤ y4.toInt) (u_y4 : y4.toInt ≤ 1600) (l_y11 : 0 ≤ y11.toInt) (u_y11 : y11.toInt ≤ 99) (l_y12 : 0 ≤ y12.toInt) (u_y12 : y12.toInt ≤ 5) (l_y13 : 0 ≤ y13.toInt) (u_y13 : y13.toInt ≤ 12) : mp_Ct E yX10_upon cX10_upon 4 (some FieldType.int) 2 0 0 46 [.ref a0, .int x0] [(mp_ob10 a0 y0 a3 a4 a5 a6 a7 y1 y2 y3 y4 y5 y6 y7 y8 y9 y10 a8 a1 a9 a10 a11 a2 a12 a13 y11 a14 a15 a16 a17 y12 y13 y14 a18 a19 y15 y16 a20 a21 a22 y17 y18 y19 y20 a23 a24 a25 y21), (mp_arI E a1 0 25 f0), (mp_arI E a2 0 300 f1)] (fun v w' => ∃ r1 : Int32, v = some (.int r1) ∧ (((x0.toInt < 0 ∨ (f0 3).toInt ≤ x0.toInt) ∧ r1.toInt = -2) ∨ ((0 ≤ x0.toInt ∧ x0.toInt < (f0 3).toInt) ∧ r1.toInt = (mp_up (fun j : Nat => f1 (6 * j + 5)) x0.toInt.toNat ((f0 3).toInt - x0.toInt - 1).toNat &&& ((1 <<< (x0 &&& 31)) ^^^ (-1))).toInt)) ∧ w' = [(mp_ob10 a0 0 a3 a4 a5 a6 a7 y1 y2 y3 y4 y5 y6 y7 y8 y9 y10 a8 a1 a9 a10 a11 a2 a12 a13 y11 a14 a15 a16 a17 y12 y13 y14 a18 a19 y15 y16 a20 a21 a22 y17 y18 y19 y20 a23 a24 a25 y21), (mp_arI E a1 0 25 f0), (mp_arI E a2 0 300 f1)]) := by
  refine mp_met false (by decide) (by decide) (Nat.le_of_ble_eq_true rfl) (fun X hF hQ => ?_)
  have hF : mp_F E X (RX10, cX10_upon, 4, (2, 0, 0, 46), (some FieldType.int), false) := hF
  let w1_ : va_W := [(mp_ob10 a0 y0 a3 a4 a5 a6 a7 y1 y2 y3 y4 y5 y6 y7 y8 y9 y10 a8 a1 a9 a10 a11 a2 a12 a13 y11 a14 a15 a16 a17 y12 y13 y14 a18 a19 y15 y16 a20 a21 a22 y17 y18 y19 y20 a23 a24 a25 y21), (mp_arI E a1 0 25 f0), (mp_arI E a2 0 300 f1)]
  show mp_W E X 4 0 [(0, .ref a0), (1, .int x0)] [] w1_ 0 0
  refine mp_run mp_k_cX10_upon_ok hF mp_tabX10_ok [mp_i (.aload_n 0), mp_c (.iconst 0) 0, mp_h (.putfield 92) [0, 0]] (by decide +kernel) ?_
  refine And.intro rfl (And.intro rfl (And.intro rfl (And.intro rfl (And.intro (Nat.le_of_ble_eq_true rfl) ?_))))
  let w2_ : va_W := [(mp_ob10 a0 0 a3 a4 a5 a6 a7 y1 y2 y3 y4 y5 y6 y7 y8 y9 y10 a8 a1 a9 a10 a11 a2 a12 a13 y11 a14 a15 a16 a17 y12 y13 y14 a18 a19 y15 y16 a20 a21 a22 y17 y18 y19 y20 a23 a24 a25 y21), (mp_arI E a1 0 25 f0), (mp_arI E a2 0 300 f1)]
  show mp_W E X 4 5 [(0, .ref a0), (1, .int x0)] [] w2_ 0 0
  refine mp_run mp_k_cX10_upon_ok hF mp_tabX10_ok [mp_i (.aload_n 0), mp_i (.iload_n 1)] (by decide +kernel) ?_
  show mp_W E X 4 7 [(0, .ref a0), (1, .int x0)] [.int x0, .ref a0] w2_ 0 0
  refine mp_callV hF (As := [.int x0]) (rest := []) (wr := [(mp_arI E a2 0 300 f1)]) (bX10_isPromise_55 E a0 a1 a3 a4 a5 a6 a7 a8 a9 a10 a11 a2 a12 a13 a14 a15 a16 a17 a18 a19 a20 a21 a22 a23 a24 a25 f0 0 y1 y2 y3 y4 y5 y6 y7 y8 y9 y10 y11 y12 y13 y14 y15 y16 y17 y18 y19 y20 y21 x0 p0 p1 p2 p3 p4 l_y1 u_y1 l_y2 u_y2 l_y3 u_y3 l_y4 u_y4 l_y11 u_y11 l_y12 u_y12 l_y13 u_y13) mp_lkX10_262 0 rfl [0, 1] [2] rfl rfl rfl rfl rfl ⟨(Nat.le_of_ble_eq_true rfl), (Nat.le_of_ble_eq_true rfl), (Nat.le_of_ble_eq_true rfl), (Nat.le_of_ble_eq_true rfl)⟩ (Nat.le_of_ble_eq_true rfl) (by first | exact mp_fd_ok mp_k_cX10_upon_ok (by decide +kernel) | decide +kernel) (fun v_1 w_2 h_3 => ?_)
  refine h_3.elim (fun q_9 => ?_) (fun q_10 => ?_)
  · skip
    refine q_9.elim fun e_11 q_12 => q_12.elim fun x_4 e_13 => ?_
    clear h_3 q_9 q_12
    subst e_11
    subst e_13
    let w3_ : va_W := [(mp_arI E a2 0 300 f1), (mp_ob10 a0 0 a3 a4 a5 a6 a7 y1 y2 y3 y4 y5 y6 y7 y8 y9 y10 a8 a1 a9 a10 a11 a2 a12 a13 y11 a14 a15 a16 a17 y12 y13 y14 a18 a19 y15 y16 a20 a21 a22 y17 y18 y19 y20 a23 a24 a25 y21), (mp_arI E a1 0 25 f0)]
    show mp_W E X 4 10 [(0, .ref a0), (1, .int x0)] [.int 0] w3_ 0 0
    refine mp_run mp_k_cX10_upon_ok hF mp_tabX10_ok [mp_h (.ifCond .ne 6) [16]] (by decide +kernel) ?_
    refine And.intro (fun c_14 => absurd c_14 (by decide)) (fun _ => ?_)
    show mp_W E X 4 13 [(0, .ref a0), (1, .int x0)] [] w3_ 0 0
    refine mp_run mp_k_cX10_upon_ok hF mp_tabX10_ok [mp_c (.bipush (-2)) (-2)] (by decide +kernel) ?_
    show mp_W E X 4 15 [(0, .ref a0), (1, .int x0)] [.int (-2)] w3_ 0 0
    exact mp_iret hF hQ rfl rfl (Nat.le_of_ble_eq_true rfl) (Nat.le_of_ble_eq_true rfl) [1, 2, 0] (w' := w2_) rfl rfl ⟨(-2), rfl, (by first | fail | decide | (have h8 : (0 : Int64).toInt = 0 := rfl; have h9 : (-1 : Int32).toInt = -1 := rfl; have h10 : (-2 : Int32).toInt = -2 := rfl; have h11 : (0 : Int32).toInt = 0 := rfl; have h12 : (1 : Int32).toInt = 1 := rfl; have h13 : (-5 : Int32).toInt = -5 := rfl; have h14 : (-3 : Int32).toInt = -3 := rfl; (first | exact mp_o448 x_4 h10 | omega))), rfl⟩ (by first | exact mp_fd_ok mp_k_cX10_upon_ok (by decide +kernel) | decide +kernel)
  · skip
    refine q_10.elim fun e_15 q_16 => q_16.elim fun c_5 q_17 => q_17.elim fun x_6 q_18 => q_18.elim fun x_7 q_19 => q_19.elim fun x_8 e_20 => ?_
    clear h_3 q_10 q_16 q_17 q_18 q_19
    subst e_15
    subst e_20
    have c_5 : 0 ≤ x0.toInt := c_5
    let w4_ : va_W := [(mp_arI E a2 0 300 f1), (mp_ob10 a0 0 a3 a4 a5 a6 a7 y1 y2 y3 y4 y5 y6 y7 y8 y9 y10 a8 a1 a9 a10 a11 a2 a12 a13 y11 a14 a15 a16 a17 y12 y13 y14 a18 a19 y15 y16 a20 a21 a22 y17 y18 y19 y20 a23 a24 a25 y21), (mp_arI E a1 0 25 f0)]
    show mp_W E X 4 10 [(0, .ref a0), (1, .int x0)] [.int 1] w4_ 0 0
    refine mp_run mp_k_cX10_upon_ok hF mp_tabX10_ok [mp_h (.ifCond .ne 6) [16]] (by decide +kernel) ?_
    refine And.intro (fun _ => ?_) (fun c_21 => absurd c_21 (by decide))
    show mp_W E X 4 16 [(0, .ref a0), (1, .int x0)] [] w4_ 0 0
    refine mp_run mp_k_cX10_upon_ok hF mp_tabX10_ok [mp_c (.iconst 1) 1, mp_i (.iload_n 1), mp_i .ishl, mp_i (.istore_n 2), mp_i (.iload_n 1), mp_c (.iconst 1) 1, mp_i .iadd, mp_i (.istore_n 3)] (by decide +kernel) ?_
    intro z_22 h_23
    have e_25 : 1 ≤ z_22.toInt ∧ z_22.toInt ≤ 512 := mp_shl10 h_23 (by (first | exact c_5 | omega)) (by (first | exact x_7 | omega))
    intro z_26 h_27
    have e_28 : z_26.toInt = x0.toInt + 1 := mp_add (a := x0.toInt) (b := 1) h_27 rfl (by decide) (by (first | exact mp_o2 c_5 | omega)) (by (first | exact mp_o121 x_7 | omega))
    show mp_W E X 4 24 [(3, .int z_26), (2, .int z_22), (0, .ref a0), (1, .int x0)] [] w4_ 0 0
    have lp_38 : ∀ (d_39 : Nat) (i_29 : Int32) (i_30 : Int32), 1 ≤ i_29.toInt → i_29.toInt ≤ 10 → 0 ≤ i_30.toInt → i_30.toInt ≤ 1023 → (i_30 = mp_up (fun j : Nat => f1 (6 * j + 5)) x0.toInt.toNat (i_29.toInt - x0.toInt - 1).toNat) → (x0.toInt + 1 ≤ i_29.toInt) → (i_29.toInt ≤ (f0 3).toInt) → (f0 3).toInt - i_29.toInt ≤ (d_39 : Int) → mp_W E X 4 24 [(3, .int i_29), (2, .int i_30), (0, .ref a0), (1, .int x0)] [] [(mp_arI E a2 0 300 f1), (mp_ob10 a0 0 a3 a4 a5 a6 a7 y1 y2 y3 y4 y5 y6 y7 y8 y9 y10 a8 a1 a9 a10 a11 a2 a12 a13 y11 a14 a15 a16 a17 y12 y13 y14 a18 a19 y15 y16 a20 a21 a22 y17 y18 y19 y20 a23 a24 a25 y21), (mp_arI E a1 0 25 f0)] 0 0 := by
      intro d_39
      induction d_39 using Nat.strongRecOn with
      | ind d_39 ih_40 =>
        intro i_29 i_30 l_31 u_32 l_33 u_34 x_35 x_36 x_37 hm_41
        refine mp_run mp_k_cX10_upon_ok hF mp_tabX10_ok [mp_i (.iload_n 3), mp_i (.aload_n 0), mp_h (.getfield 34) [17, 1], mp_c (.iconst 3) 3, mp_h .iaload [2], mp_h (.if_icmp .ge 38) [69]] (by decide +kernel) ?_
        refine And.intro rfl (And.intro rfl ?_)
        refine And.intro rfl (And.intro rfl (And.intro (vp_in_iff.mpr (by decide)) ?_))
        intro z_42 h_43
        have e_44 : 0 ≤ z_42.toInt ∧ z_42.toInt ≤ 10 := mp_res_ld h_43 p3 (by decide) (by decide) (by decide)
        have e_45 : z_42.toInt = (f0 3).toInt := congrArg Int32.toInt (mp_at h_43 (by decide) rfl)
        refine And.intro (fun c_46 => ?_) (fun c_46 => ?_)
        · have c_46 : z_42.toInt ≤ i_29.toInt := c_46
          show mp_W E X 4 69 [(3, .int i_29), (2, .int i_30), (0, .ref a0), (1, .int x0)] [] w4_ 0 0
          refine mp_run mp_k_cX10_upon_ok hF mp_tabX10_ok [mp_i (.iload_n 2), mp_c (.iconst 1) 1, mp_i (.iload_n 1), mp_i .ishl, mp_c (.iconst (-1)) (-1), mp_i .ixor, mp_i .iand] (by decide +kernel) ?_
          intro z_47 h_48
          have e_50 : 1 ≤ z_47.toInt ∧ z_47.toInt ≤ 512 := mp_shl10 h_48 (by (first | exact c_5 | omega)) (by (first | exact x_7 | omega))
          intro z_51 h_52
          intro z_54 h_55
          show mp_W E X 4 76 [(3, .int i_29), (2, .int i_30), (0, .ref a0), (1, .int x0)] [.int z_54] w4_ 0 0
          exact mp_iret hF hQ rfl rfl (Nat.le_of_ble_eq_true rfl) (Nat.le_of_ble_eq_true rfl) [1, 2, 0] (w' := w2_) rfl rfl ⟨z_54, rfl, (Or.inr ⟨by (first | exact x_8 | omega), congrArg Int32.toInt (by rw [h_55, h_52, h_48, x_35, show i_29.toInt = (f0 3).toInt from by (first | exact mp_o1436 x_37 e_45 c_46 | omega)])⟩), rfl⟩ (by first | exact mp_fd_ok mp_k_cX10_upon_ok (by decide +kernel) | decide +kernel)
        · have c_46 : i_29.toInt < z_42.toInt := c_46
          show mp_W E X 4 34 [(3, .int i_29), (2, .int i_30), (0, .ref a0), (1, .int x0)] [] w4_ 0 0
          refine mp_run mp_k_cX10_upon_ok hF mp_tabX10_ok [mp_i (.aload_n 0), mp_i (.iload_n 3), mp_c (.iconst 5) 5] (by decide +kernel) ?_
          show mp_W E X 4 37 [(3, .int i_29), (2, .int i_30), (0, .ref a0), (1, .int x0)] [.int 5, .int i_29, .ref a0] w4_ 0 0
          refine mp_callV hF (As := [.int i_29, .int 5]) (rest := []) (wr := [(mp_arI E a1 0 25 f0)]) (bX10_of_67 E a0 a2 a3 a4 a5 a6 a7 a8 a1 a9 a10 a11 a12 a13 a14 a15 a16 a17 a18 a19 a20 a21 a22 a23 a24 a25 f1 0 y1 y2 y3 y4 y5 y6 y7 y8 y9 y10 y11 y12 y13 y14 y15 y16 y17 y18 y19 y20 y21 i_29 p5 p6 p7 p8 (by (first | exact mp_o254 l_31 | omega)) (by (first | exact mp_o1533 c_46 e_44 | omega)) l_y1 u_y1 l_y2 u_y2 l_y3 u_y3 l_y4 u_y4 l_y11 u_y11 l_y12 u_y12 l_y13 u_y13) mp_lkX10_267 1 rfl [1, 0] [2] rfl rfl rfl rfl rfl ⟨(Nat.le_of_ble_eq_true rfl), (Nat.le_of_ble_eq_true rfl), (Nat.le_of_ble_eq_true rfl), (Nat.le_of_ble_eq_true rfl)⟩ (Nat.le_of_ble_eq_true rfl) (by first | exact mp_fd_ok mp_k_cX10_upon_ok (by decide +kernel) | decide +kernel) (fun v_57 w_58 h_59 => ?_)
          obtain ⟨r_60, rfl, x_61, rfl⟩ := h_59
          let w5_ : va_W := [(mp_arI E a1 0 25 f0), (mp_ob10 a0 0 a3 a4 a5 a6 a7 y1 y2 y3 y4 y5 y6 y7 y8 y9 y10 a8 a1 a9 a10 a11 a2 a12 a13 y11 a14 a15 a16 a17 y12 y13 y14 a18 a19 y15 y16 a20 a21 a22 y17 y18 y19 y20 a23 a24 a25 y21), (mp_arI E a2 0 300 f1)]
          show mp_W E X 4 40 [(3, .int i_29), (2, .int i_30), (0, .ref a0), (1, .int x0)] [.int r_60] w5_ 0 0
          refine mp_run mp_k_cX10_upon_ok hF mp_tabX10_ok [mp_c (.iconst (-1)) (-1), mp_h (.if_icmp .eq 22) [63]] (by decide +kernel) ?_
          refine And.intro (fun c_62 => ?_) (fun c_62 => ?_)
          · have c_62 : r_60.toInt = (-1) := (congrArg Int32.toInt c_62)
            show mp_W E X 4 63 [(3, .int i_29), (2, .int i_30), (0, .ref a0), (1, .int x0)] [] w5_ 0 0
            refine mp_run mp_k_cX10_upon_ok hF mp_tabX10_ok [mp_c (.iinc 3 1) 1, mp_h (.goto (-42)) [24]] (by decide +kernel) ?_
            intro z_63 h_64
            have e_65 : z_63.toInt = i_29.toInt + 1 := mp_add (a := i_29.toInt) (b := 1) h_64 rfl (by decide) (by (first | exact mp_o457 l_31 | omega)) (by (first | exact mp_o420 u_32 | omega))
            show mp_W E X 4 24 [(3, .int z_63), (2, .int i_30), (0, .ref a0), (1, .int x0)] [] w5_ 0 0
            exact mp_sub [0, 1, 2, 3] rfl [2, 1, 0] rfl rfl (ih_40 (d_39 - 1) (by (first | exact mp_o1454 hm_41 e_45 c_46 | omega)) z_63 i_30 (by (first | exact mp_o458 l_31 e_65 | omega)) (by (first | exact mp_o1534 e_65 c_46 e_44 | omega)) l_33 u_34 (mp_up_f (ba := (fun j : Nat => f1 (6 * j + 5))) (k := i_29) x_35 (fun q => by have q1 : (f1 (6 * i_29.toInt.toNat + 5)).toInt ≠ -1 := q.1; have i1 : (-1 : Int32).toInt = -1 := rfl; (first | exact mp_o459 c_62 q1 x_61 | omega)) (by (first | exact mp_o460 x_36 c_5 e_65 | omega))) (by (first | exact mp_o461 x_36 e_65 | omega)) (by (first | exact mp_o1457 e_45 c_46 e_65 | omega)) (by (first | exact mp_o77 hm_41 e_65 | omega)))
          · have c_62 : r_60.toInt ≠ (-1) := c_62
            show mp_W E X 4 44 [(3, .int i_29), (2, .int i_30), (0, .ref a0), (1, .int x0)] [] w5_ 0 0
            refine mp_run mp_k_cX10_upon_ok hF mp_tabX10_ok [mp_i (.iload_n 2), mp_i (.aload_n 0), mp_i (.iload_n 3), mp_c (.iconst 5) 5] (by decide +kernel) ?_
            show mp_W E X 4 48 [(3, .int i_29), (2, .int i_30), (0, .ref a0), (1, .int x0)] [.int 5, .int i_29, .ref a0, .int i_30] w5_ 0 0
            refine mp_callV hF (As := [.int i_29, .int 5]) (rest := [.int i_30]) (wr := [(mp_arI E a1 0 25 f0)]) (bX10_of_67 E a0 a2 a3 a4 a5 a6 a7 a8 a1 a9 a10 a11 a12 a13 a14 a15 a16 a17 a18 a19 a20 a21 a22 a23 a24 a25 f1 0 y1 y2 y3 y4 y5 y6 y7 y8 y9 y10 y11 y12 y13 y14 y15 y16 y17 y18 y19 y20 y21 i_29 p5 p6 p7 p8 (by (first | exact mp_o254 l_31 | omega)) (by (first | exact mp_o1533 c_46 e_44 | omega)) l_y1 u_y1 l_y2 u_y2 l_y3 u_y3 l_y4 u_y4 l_y11 u_y11 l_y12 u_y12 l_y13 u_y13) mp_lkX10_267 1 rfl [1, 2] [0] rfl rfl rfl rfl rfl ⟨(Nat.le_of_ble_eq_true rfl), (Nat.le_of_ble_eq_true rfl), (Nat.le_of_ble_eq_true rfl), (Nat.le_of_ble_eq_true rfl)⟩ (Nat.le_of_ble_eq_true rfl) (by first | exact mp_fd_ok mp_k_cX10_upon_ok (by decide +kernel) | decide +kernel) (fun v_66 w_67 h_68 => ?_)
            obtain ⟨r_69, rfl, x_70, rfl⟩ := h_68
            show mp_W E X 4 51 [(3, .int i_29), (2, .int i_30), (0, .ref a0), (1, .int x0)] [.int r_69, .int i_30] w5_ 0 0
            refine mp_callS hF (As := [.int i_30, .int r_69]) (rest := []) (wr := w5_) (bX10_isBit_86 E i_30 r_69) mp_lkX10_312 [] [0, 1, 2] rfl rfl rfl rfl rfl ⟨(Nat.le_of_ble_eq_true rfl), (Nat.le_of_ble_eq_true rfl), (Nat.le_of_ble_eq_true rfl), (Nat.le_of_ble_eq_true rfl)⟩ (Nat.le_of_ble_eq_true rfl) (by first | exact mp_fd_ok mp_k_cX10_upon_ok (by decide +kernel) | decide +kernel) (fun v_71 w_72 h_73 => ?_)
            rcases h_73 with ⟨rfl, x_74, rfl⟩ | ⟨rfl, x_75, rfl⟩
            · skip
              show mp_W E X 4 54 [(3, .int i_29), (2, .int i_30), (0, .ref a0), (1, .int x0)] [.int 0] w5_ 0 0
              refine mp_run mp_k_cX10_upon_ok hF mp_tabX10_ok [mp_h (.ifCond .eq 9) [63]] (by decide +kernel) ?_
              refine And.intro (fun _ => ?_) (fun c_76 => absurd c_76 (by decide))
              show mp_W E X 4 63 [(3, .int i_29), (2, .int i_30), (0, .ref a0), (1, .int x0)] [] w5_ 0 0
              refine mp_run mp_k_cX10_upon_ok hF mp_tabX10_ok [mp_c (.iinc 3 1) 1, mp_h (.goto (-42)) [24]] (by decide +kernel) ?_
              intro z_77 h_78
              have e_79 : z_77.toInt = i_29.toInt + 1 := mp_add (a := i_29.toInt) (b := 1) h_78 rfl (by decide) (by (first | exact mp_o457 l_31 | omega)) (by (first | exact mp_o420 u_32 | omega))
              show mp_W E X 4 24 [(3, .int z_77), (2, .int i_30), (0, .ref a0), (1, .int x0)] [] w5_ 0 0
              exact mp_sub [0, 1, 2, 3] rfl [2, 1, 0] rfl rfl (ih_40 (d_39 - 1) (by (first | exact mp_o1454 hm_41 e_45 c_46 | omega)) z_77 i_30 (by (first | exact mp_o458 l_31 e_79 | omega)) (by (first | exact mp_o1534 e_79 c_46 e_44 | omega)) l_33 u_34 (mp_up_f (ba := (fun j : Nat => f1 (6 * j + 5))) (k := i_29) x_35 (mp_up_nm (ba := (fun j : Nat => f1 (6 * j + 5))) (k := i_29) (show _ = (f1 (6 * i_29.toInt.toNat + 5)).toInt from x_70) x_74) (by (first | exact mp_o460 x_36 c_5 e_79 | omega))) (by (first | exact mp_o461 x_36 e_79 | omega)) (by (first | exact mp_o1457 e_45 c_46 e_79 | omega)) (by (first | exact mp_o77 hm_41 e_79 | omega)))
            · skip
              show mp_W E X 4 54 [(3, .int i_29), (2, .int i_30), (0, .ref a0), (1, .int x0)] [.int 1] w5_ 0 0
              refine mp_run mp_k_cX10_upon_ok hF mp_tabX10_ok [mp_h (.ifCond .eq 9) [63]] (by decide +kernel) ?_
              refine And.intro (fun c_80 => absurd c_80 (by decide)) (fun _ => ?_)
              show mp_W E X 4 57 [(3, .int i_29), (2, .int i_30), (0, .ref a0), (1, .int x0)] [] w5_ 0 0
              refine mp_run mp_k_cX10_upon_ok hF mp_tabX10_ok [mp_i (.iload_n 2), mp_c (.iconst 1) 1, mp_i (.iload_n 3), mp_i .ishl, mp_i .ior, mp_i (.istore_n 2), mp_c (.iinc 3 1) 1, mp_h (.goto (-42)) [24]] (by decide +kernel) ?_
              intro z_81 h_82
              have e_84 : 1 ≤ z_81.toInt ∧ z_81.toInt ≤ 512 := mp_shl10 h_82 (by (first | exact mp_o254 l_31 | omega)) (by (first | exact mp_o1533 c_46 e_44 | omega))
              intro z_85 h_86
              have e_88 : 0 ≤ z_85.toInt ∧ z_85.toInt ≤ 1023 := mp_or10 h_86 ⟨by (first | exact l_33 | omega), by (first | exact u_34 | omega)⟩ ⟨by (first | exact mp_o463 e_84 | omega), by (first | exact mp_o464 e_84 | omega)⟩
              intro z_89 h_90
              have e_91 : z_89.toInt = i_29.toInt + 1 := mp_add (a := i_29.toInt) (b := 1) h_90 rfl (by decide) (by (first | exact mp_o457 l_31 | omega)) (by (first | exact mp_o420 u_32 | omega))
              show mp_W E X 4 24 [(3, .int z_89), (2, .int z_85), (0, .ref a0), (1, .int x0)] [] w5_ 0 0
              exact mp_sub [0, 1, 2, 3] rfl [2, 1, 0] rfl rfl (ih_40 (d_39 - 1) (by (first | exact mp_o1454 hm_41 e_45 c_46 | omega)) z_89 z_85 (by (first | exact mp_o458 l_31 e_91 | omega)) (by (first | exact mp_o1534 e_91 c_46 e_44 | omega)) (by (first | exact mp_o465 e_88 | omega)) (by (first | exact mp_o466 e_88 | omega)) (mp_up_tm (ba := (fun j : Nat => f1 (6 * j + 5))) (k := i_29) x_35 h_86 h_82 (show _ = (f1 (6 * i_29.toInt.toNat + 5)).toInt from x_70) (by have i1 : (-1 : Int32).toInt = -1 := rfl; (first | exact mp_o1544 c_62 x_70 x_61 | omega)) x_75 (by (first | exact mp_o460 x_36 c_5 e_91 | omega))) (by (first | exact mp_o461 x_36 e_91 | omega)) (by (first | exact mp_o1457 e_45 c_46 e_91 | omega)) (by (first | exact mp_o77 hm_41 e_91 | omega)))
    exact mp_sub [0, 1, 2, 3] rfl [0, 1, 2] rfl rfl (lp_38 _ z_26 z_22 (by (first | exact mp_o182 c_5 e_28 | omega)) (by (first | exact mp_o183 x_7 e_28 | omega)) (by (first | exact mp_o463 e_25 | omega)) (by (first | exact mp_o464 e_25 | omega)) (by rw [show (z_26.toInt - x0.toInt - 1).toNat = 0 by (first | exact mp_o468 e_28 | omega)]; exact mp_up_0 h_23 (by (first | exact c_5 | omega))) (by (first | exact mp_o469 e_28 | omega)) (by (first | exact mp_o97 x_6 e_28 | omega)) (Int.self_le_toNat _))
set_option maxHeartbeats 4000000 in
set_option maxRecDepth 100000 in
theorem bX10_now_88 (E : mp_E) (a0 a1 a2 a3 a4 a5 a6 a7 a8 a9 a10 a11 a12 a13 a14 a15 a16 a17 a18 a19 a20 a21 a22 a23 a24 a25 : Nat) (f0 : Nat → Int32) (f1 : Nat → Int32) (f2 : Nat → Int32) (f3 : Nat → Int32) (f4 : Nat → Int32) (f5 : Nat → Int32) (f6 : Nat → Int32) (f7 : Nat → Int32) (f8 : Nat → Int32) (y0 : Int32) (y1 : Int32) (y2 : Int32) (y3 : Int32) (y4 : Int32) (y5 : Int32) (y6 : Int64) (y7 : Int32) (y8 : Int32) (y9 : Int32) (y10 : Int32) (y11 : Int32) (y12 : Int32) (y13 : Int32) (y14 : Int32) (y15 : Int32) (y16 : Int32) (y17 : Int32) (y18 : Int32) (y19 : Int32) (y20 : Int32) (y21 : Int32) (p0 : mp_res f1 25 5 0 0 6) (p1 : mp_res f1 25 5 1 0 99) (p2 : mp_res f1 25 5 2 0 6) (p3 : mp_res f1 25 5 3 0 10) (p4 : mp_res f1 25 5 4 0 60) (p5 : mp_all f2 180 0 20) (p6 : mp_res f3 90 3 0 0 5) (p7 : mp_res f3 90 3 1 (-1) 99) (p8 : mp_actm f4) (p9 : mp_all f5 6 0 5) (l_y1 : 0 ≤ y1.toInt) (u_y1 : y1.toInt ≤ 1600) (l_y2 : 0 ≤ y2.toInt) (u_y2 : y2.toInt ≤ 1600) (l_y3 : 0 ≤ y3.toInt) (u_y3 : y3.toInt ≤ 4) (l_y4 : 0 ≤ y4.toInt) (u_y4 : y4.toInt ≤ 1600) (l_y11 : 0 ≤ y11.toInt) (u_y11 : y11.toInt ≤ 99) (l_y12 : 0 ≤ y12.toInt) (u_y12 : y12.toInt ≤ 5) (l_y13 : 0 ≤ y13.toInt) (u_y13 : y13.toInt ≤ 12) (q0 : (f1 1).toInt + mp_k200 f4 (f1 4).toInt ≤ 99) : mp_Ct E yX10_now cX10_now 1 (some FieldType.int) 1 0 0 23 [.ref a0] [(mp_ob10 a0 y0 a10 a11 a12 a13 a14 y1 y2 y3 y4 y5 y6 y7 y8 y9 y10 a1 a2 a3 a15 a4 a16 a5 a17 y11 a6 a7 a8 a9 y12 y13 y14 a18 a19 y15 y16 a20 a21 a22 y17 y18 y19 y20 a23 a24 a25 y21), (mp_arI E a1 0 5 f0), (mp_arI E a2 0 25 f1), (mp_arI E a3 0 180 f2), (mp_arI E a4 0 90 f3), (mp_arI E a5 0 300 f4), (mp_arI E a6 0 6 f5), (mp_arI E a7 0 6 f6), (mp_arI E a8 0 6 f7), (mp_arI E a9 3 1500 f8)] (fun v w' => ∃ r1 : Int32, ∃ h2 : Nat → Int32, ∃ h3 : Nat → Int32, ∃ h4 : Nat → Int32, ∃ h5 : Nat → Int32, ∃ r6 : Int32, v = some (.int r6) ∧ 0 ≤ r1.toInt ∧ r1.toInt ≤ 99 ∧ (-2) ≤ r6.toInt ∧ r6.toInt ≤ 99 ∧ mp_all h2 6 0 5 ∧ (((f0 0).toInt ≤ 0 ∧ r6.toInt = -2) ∨ (0 < (f0 0).toInt ∧ r6.toInt = ((f1 1).toInt + mp_k200 f4 (f1 4).toInt))) ∧ w' = [(mp_ob10 a0 0 a10 a11 a12 a13 a14 y1 y2 y3 y4 y5 y6 y7 y8 y9 y10 a1 a2 a3 a15 a4 a16 a5 a17 r1 a6 a7 a8 a9 y12 y13 y14 a18 a19 y15 y16 a20 a21 a22 y17 y18 y19 y20 a23 a24 a25 y21), (mp_arI E a1 0 5 f0), (mp_arI E a2 0 25 f1), (mp_arI E a3 0 180 f2), (mp_arI E a4 0 90 f3), (mp_arI E a5 0 300 f4), (mp_arI E a6 0 6 h2), (mp_arI E a7 0 6 h3), (mp_arI E a8 0 6 h4), (mp_arI E a9 3 1500 h5)]) := by
  refine mp_met false (by decide) (by decide) (Nat.le_of_ble_eq_true rfl) (fun X hF hQ => ?_)
  have hF : mp_F E X (RX10, cX10_now, 1, (1, 0, 0, 23), (some FieldType.int), false) := hF
  let w1_ : va_W := [(mp_ob10 a0 y0 a10 a11 a12 a13 a14 y1 y2 y3 y4 y5 y6 y7 y8 y9 y10 a1 a2 a3 a15 a4 a16 a5 a17 y11 a6 a7 a8 a9 y12 y13 y14 a18 a19 y15 y16 a20 a21 a22 y17 y18 y19 y20 a23 a24 a25 y21), (mp_arI E a1 0 5 f0), (mp_arI E a2 0 25 f1), (mp_arI E a3 0 180 f2), (mp_arI E a4 0 90 f3), (mp_arI E a5 0 300 f4), (mp_arI E a6 0 6 f5), (mp_arI E a7 0 6 f6), (mp_arI E a8 0 6 f7), (mp_arI E a9 3 1500 f8)]
  show mp_W E X 1 0 [(0, .ref a0)] [] w1_ 0 0
  refine mp_run mp_k_cX10_now_ok hF mp_tabX10_ok [mp_i (.aload_n 0), mp_c (.iconst 0) 0, mp_h (.putfield 92) [0, 0]] (by decide +kernel) ?_
  refine And.intro rfl (And.intro rfl (And.intro rfl (And.intro rfl (And.intro (Nat.le_of_ble_eq_true rfl) ?_))))
  let w2_ : va_W := [(mp_ob10 a0 0 a10 a11 a12 a13 a14 y1 y2 y3 y4 y5 y6 y7 y8 y9 y10 a1 a2 a3 a15 a4 a16 a5 a17 y11 a6 a7 a8 a9 y12 y13 y14 a18 a19 y15 y16 a20 a21 a22 y17 y18 y19 y20 a23 a24 a25 y21), (mp_arI E a1 0 5 f0), (mp_arI E a2 0 25 f1), (mp_arI E a3 0 180 f2), (mp_arI E a4 0 90 f3), (mp_arI E a5 0 300 f4), (mp_arI E a6 0 6 f5), (mp_arI E a7 0 6 f6), (mp_arI E a8 0 6 f7), (mp_arI E a9 3 1500 f8)]
  show mp_W E X 1 5 [(0, .ref a0)] [] w2_ 0 0
  refine mp_run mp_k_cX10_now_ok hF mp_tabX10_ok [mp_i (.aload_n 0)] (by decide +kernel) ?_
  show mp_W E X 1 6 [(0, .ref a0)] [.ref a0] w2_ 0 0
  refine mp_callV hF (As := []) (rest := []) (wr := [(mp_arI E a2 0 25 f1), (mp_arI E a3 0 180 f2), (mp_arI E a4 0 90 f3), (mp_arI E a5 0 300 f4), (mp_arI E a6 0 6 f5), (mp_arI E a7 0 6 f6), (mp_arI E a8 0 6 f7), (mp_arI E a9 3 1500 f8)]) (bX10_areIsles_81 E a0 a1 a10 a11 a12 a13 a14 a2 a3 a15 a4 a16 a5 a17 a6 a7 a8 a9 a18 a19 a20 a21 a22 a23 a24 a25 f0 0 y1 y2 y3 y4 y5 y6 y7 y8 y9 y10 y11 y12 y13 y14 y15 y16 y17 y18 y19 y20 y21 l_y1 u_y1 l_y2 u_y2 l_y3 u_y3 l_y4 u_y4 l_y11 u_y11 l_y12 u_y12 l_y13 u_y13) mp_lkX10_306 0 rfl [0, 1] [2, 3, 4, 5, 6, 7, 8, 9] rfl rfl rfl rfl rfl ⟨(Nat.le_of_ble_eq_true rfl), (Nat.le_of_ble_eq_true rfl), (Nat.le_of_ble_eq_true rfl), (Nat.le_of_ble_eq_true rfl)⟩ (Nat.le_of_ble_eq_true rfl) (by first | exact mp_fd_ok mp_k_cX10_now_ok (by decide +kernel) | decide +kernel) (fun v_1 w_2 h_3 => ?_)
  rcases h_3 with ⟨rfl, x_4, rfl⟩ | ⟨rfl, x_5, rfl⟩
  · skip
    let w3_ : va_W := [(mp_arI E a2 0 25 f1), (mp_arI E a3 0 180 f2), (mp_arI E a4 0 90 f3), (mp_arI E a5 0 300 f4), (mp_arI E a6 0 6 f5), (mp_arI E a7 0 6 f6), (mp_arI E a8 0 6 f7), (mp_arI E a9 3 1500 f8), (mp_ob10 a0 0 a10 a11 a12 a13 a14 y1 y2 y3 y4 y5 y6 y7 y8 y9 y10 a1 a2 a3 a15 a4 a16 a5 a17 y11 a6 a7 a8 a9 y12 y13 y14 a18 a19 y15 y16 a20 a21 a22 y17 y18 y19 y20 a23 a24 a25 y21), (mp_arI E a1 0 5 f0)]
    show mp_W E X 1 9 [(0, .ref a0)] [.int 0] w3_ 0 0
    refine mp_run mp_k_cX10_now_ok hF mp_tabX10_ok [mp_h (.ifCond .ne 6) [15]] (by decide +kernel) ?_
    refine And.intro (fun c_6 => absurd c_6 (by decide)) (fun _ => ?_)
    show mp_W E X 1 12 [(0, .ref a0)] [] w3_ 0 0
    refine mp_run mp_k_cX10_now_ok hF mp_tabX10_ok [mp_c (.bipush (-2)) (-2)] (by decide +kernel) ?_
    show mp_W E X 1 14 [(0, .ref a0)] [.int (-2)] w3_ 0 0
    exact mp_iret hF hQ rfl rfl (Nat.le_of_ble_eq_true rfl) (Nat.le_of_ble_eq_true rfl) [8, 9, 0, 1, 2, 3, 4, 5, 6, 7] (w' := w2_) rfl rfl ⟨y11, f5, f6, f7, f8, (-2), rfl, l_y11, u_y11, (by decide), (by decide), p9, (by first | fail | decide | (have h8 : (0 : Int64).toInt = 0 := rfl; have h9 : (-1 : Int32).toInt = -1 := rfl; have h10 : (-2 : Int32).toInt = -2 := rfl; have h11 : (0 : Int32).toInt = 0 := rfl; have h12 : (1 : Int32).toInt = 1 := rfl; have h13 : (-5 : Int32).toInt = -5 := rfl; have h14 : (-3 : Int32).toInt = -3 := rfl; (first | exact mp_o1547 x_4 h10 | omega))), rfl⟩ (by first | exact mp_fd_ok mp_k_cX10_now_ok (by decide +kernel) | decide +kernel)
  · skip
    let w4_ : va_W := [(mp_arI E a2 0 25 f1), (mp_arI E a3 0 180 f2), (mp_arI E a4 0 90 f3), (mp_arI E a5 0 300 f4), (mp_arI E a6 0 6 f5), (mp_arI E a7 0 6 f6), (mp_arI E a8 0 6 f7), (mp_arI E a9 3 1500 f8), (mp_ob10 a0 0 a10 a11 a12 a13 a14 y1 y2 y3 y4 y5 y6 y7 y8 y9 y10 a1 a2 a3 a15 a4 a16 a5 a17 y11 a6 a7 a8 a9 y12 y13 y14 a18 a19 y15 y16 a20 a21 a22 y17 y18 y19 y20 a23 a24 a25 y21), (mp_arI E a1 0 5 f0)]
    show mp_W E X 1 9 [(0, .ref a0)] [.int 1] w4_ 0 0
    refine mp_run mp_k_cX10_now_ok hF mp_tabX10_ok [mp_h (.ifCond .ne 6) [15]] (by decide +kernel) ?_
    refine And.intro (fun _ => ?_) (fun c_7 => absurd c_7 (by decide))
    show mp_W E X 1 15 [(0, .ref a0)] [] w4_ 0 0
    refine mp_run mp_k_cX10_now_ok hF mp_tabX10_ok [mp_i (.aload_n 0)] (by decide +kernel) ?_
    show mp_W E X 1 16 [(0, .ref a0)] [.ref a0] w4_ 0 0
    refine mp_callV hF (As := []) (rest := []) (wr := [(mp_arI E a1 0 5 f0)]) (bX10_lays_62 E a0 a2 a3 a4 a5 a6 a7 a8 a9 a10 a11 a12 a13 a14 a1 a15 a16 a17 a18 a19 a20 a21 a22 a23 a24 a25 f1 f2 f3 f4 f5 f6 f7 f8 0 y1 y2 y3 y4 y5 y6 y7 y8 y9 y10 y11 y12 y13 y14 y15 y16 y17 y18 y19 y20 y21 p0 p1 p2 p3 p4 p5 p6 p7 p8 p9 l_y1 u_y1 l_y2 u_y2 l_y3 u_y3 l_y4 u_y4 l_y11 u_y11 l_y12 u_y12 l_y13 u_y13 (by (first | exact q0 | omega))) mp_lkX10_288 8 rfl [8, 0, 1, 2, 3, 4, 5, 6, 7] [9] rfl rfl rfl rfl rfl ⟨(Nat.le_of_ble_eq_true rfl), (Nat.le_of_ble_eq_true rfl), (Nat.le_of_ble_eq_true rfl), (Nat.le_of_ble_eq_true rfl)⟩ (Nat.le_of_ble_eq_true rfl) (by first | exact mp_fd_ok mp_k_cX10_now_ok (by decide +kernel) | decide +kernel) (fun v_8 w_9 h_10 => ?_)
    refine h_10.elim fun r_11 q_21 => q_21.elim fun g_12 q_22 => q_22.elim fun g_13 q_23 => q_23.elim fun g_14 q_24 => q_24.elim fun g_15 q_25 => q_25.elim fun e_26 q_27 => q_27.elim fun l_16 q_28 => q_28.elim fun u_17 q_29 => q_29.elim fun p_18 q_30 => q_30.elim fun x_19 q_31 => q_31.elim fun x_20 e_32 => ?_
    clear h_10 q_21 q_22 q_23 q_24 q_25 q_27 q_28 q_29 q_30 q_31
    subst e_26
    subst e_32
    let w5_ : va_W := [(mp_arI E a1 0 5 f0), (mp_ob10 a0 0 a10 a11 a12 a13 a14 y1 y2 y3 y4 y5 y6 y7 y8 y9 y10 a1 a2 a3 a15 a4 a16 a5 a17 r_11 a6 a7 a8 a9 y12 y13 y14 a18 a19 y15 y16 a20 a21 a22 y17 y18 y19 y20 a23 a24 a25 y21), (mp_arI E a2 0 25 f1), (mp_arI E a3 0 180 f2), (mp_arI E a4 0 90 f3), (mp_arI E a5 0 300 f4), (mp_arI E a6 0 6 g_12), (mp_arI E a7 0 6 g_13), (mp_arI E a8 0 6 g_14), (mp_arI E a9 3 1500 g_15)]
    show mp_W E X 1 19 [(0, .ref a0)] [] w5_ 0 0
    refine mp_run mp_k_cX10_now_ok hF mp_tabX10_ok [mp_i (.aload_n 0), mp_h (.getfield 276) [24, 1]] (by decide +kernel) ?_
    refine And.intro rfl (And.intro rfl ?_)
    show mp_W E X 1 23 [(0, .ref a0)] [.int r_11] w5_ 0 0
    exact mp_iret hF hQ rfl rfl (Nat.le_of_ble_eq_true rfl) (Nat.le_of_ble_eq_true rfl) [1, 0, 2, 3, 4, 5, 6, 7, 8, 9] (w' := [(mp_ob10 a0 0 a10 a11 a12 a13 a14 y1 y2 y3 y4 y5 y6 y7 y8 y9 y10 a1 a2 a3 a15 a4 a16 a5 a17 r_11 a6 a7 a8 a9 y12 y13 y14 a18 a19 y15 y16 a20 a21 a22 y17 y18 y19 y20 a23 a24 a25 y21), (mp_arI E a1 0 5 f0), (mp_arI E a2 0 25 f1), (mp_arI E a3 0 180 f2), (mp_arI E a4 0 90 f3), (mp_arI E a5 0 300 f4), (mp_arI E a6 0 6 g_12), (mp_arI E a7 0 6 g_13), (mp_arI E a8 0 6 g_14), (mp_arI E a9 3 1500 g_15)]) rfl rfl ⟨r_11, g_12, g_13, g_14, g_15, r_11, rfl, l_16, u_17, (by (first | exact mp_o399 l_16 | omega)), u_17, p_18, (by first | (first | exact mp_o1548 x_5 x_19 | omega) | decide | (have h8 : (0 : Int64).toInt = 0 := rfl; have h9 : (-1 : Int32).toInt = -1 := rfl; have h10 : (-2 : Int32).toInt = -2 := rfl; have h11 : (0 : Int32).toInt = 0 := rfl; have h12 : (1 : Int32).toInt = 1 := rfl; have h13 : (-5 : Int32).toInt = -5 := rfl; have h14 : (-3 : Int32).toInt = -3 := rfl; omega)), rfl⟩ (by first | exact mp_fd_ok mp_k_cX10_now_ok (by decide +kernel) | decide +kernel)
set_option maxHeartbeats 4000000 in
set_option maxRecDepth 100000 in
theorem bX10_where_89 (E : mp_E) (a0 a1 a2 a3 a4 a5 a6 a7 a8 a9 a10 a11 a12 a13 a14 a15 a16 a17 a18 a19 a20 a21 a22 a23 a24 a25 : Nat) (f0 : Nat → Int32) (f1 : Nat → Int32) (f2 : Nat → Int32) (f3 : Nat → Int32) (f4 : Nat → Int32) (f5 : Nat → Int32) (f6 : Nat → Int32) (f7 : Nat → Int32) (y0 : Int32) (y1 : Int32) (y2 : Int32) (y3 : Int32) (y4 : Int32) (y5 : Int32) (y6 : Int64) (y7 : Int32) (y8 : Int32) (y9 : Int32) (y10 : Int32) (y11 : Int32) (y12 : Int32) (y13 : Int32) (y14 : Int32) (y15 : Int32) (y16 : Int32) (y17 : Int32) (y18 : Int32) (y19 : Int32) (y20 : Int32) (y21 : Int32) (x0 : Int32) (p0 : mp_res f0 25 5 0 0 6) (p1 : mp_res f0 25 5 1 0 99) (p2 : mp_res f0 25 5 2 0 6) (p3 : mp_res f0 25 5 3 0 10) (p4 : mp_res f0 25 5 4 0 60) (p5 : mp_all f1 180 0 20) (p6 : mp_res f2 90 3 0 0 5) (p7 : mp_res f2 90 3 1 (-1) 99) (p8 : mp_actm f3) (p9 : mp_all f4 6 0 5) (l_y1 : 0 ≤ y1.toInt) (u_y1 : y1.toInt ≤ 1600) (l_y2 : 0 ≤ y2.toInt) (u_y2 : y2.toInt ≤ 1600) (l_y3 : 0 ≤ y3.toInt) (u_y3 : y3.toInt ≤ 4) (l_y4 : 0 ≤ y4.toInt) (u_y4 : y4.toInt ≤ 1600) (l_y11 : 0 ≤ y11.toInt) (u_y11 : y11.toInt ≤ 99) (l_y12 : 0 ≤ y12.toInt) (u_y12 : y12.toInt ≤ 5) (l_y13 : 0 ≤ y13.toInt) (u_y13 : y13.toInt ≤ 12) (q0 : (f0 1).toInt + mp_k200 f3 (f0 4).toInt ≤ 99) : mp_Ct E yX10_where cX10_where 2 (some FieldType.int) 2 0 0 46 [.ref a0, .int x0] [(mp_ob10 a0 y0 a9 a10 a11 a12 a13 y1 y2 y3 y4 y5 y6 y7 y8 y9 y10 a14 a1 a2 a15 a3 a16 a4 a17 y11 a5 a6 a7 a8 y12 y13 y14 a18 a19 y15 y16 a20 a21 a22 y17 y18 y19 y20 a23 a24 a25 y21), (mp_arI E a1 0 25 f0), (mp_arI E a2 0 180 f1), (mp_arI E a3 0 90 f2), (mp_arI E a4 0 300 f3), (mp_arI E a5 0 6 f4), (mp_arI E a6 0 6 f5), (mp_arI E a7 0 6 f6), (mp_arI E a8 3 1500 f7)] (fun v w' => ∃ r1 : Int32, ∃ h2 : Nat → Int32, ∃ h3 : Nat → Int32, ∃ h4 : Nat → Int32, ∃ h5 : Nat → Int32, ∃ r6 : Int32, v = some (.int r6) ∧ 0 ≤ r1.toInt ∧ r1.toInt ≤ 99 ∧ (-2) ≤ r6.toInt ∧ r6.toInt ≤ 5 ∧ mp_all h2 6 0 5 ∧ (((x0.toInt < 0 ∨ (f0 2).toInt ≤ x0.toInt) ∧ r6.toInt = -2) ∨ ((0 ≤ x0.toInt ∧ x0.toInt < (f0 2).toInt) ∧ r6.toInt = (mp_cs f1 (fun p => f2 (3 * p)) f3 ((f0 1).toInt) x0.toInt.toNat ((f0 4).toInt).toNat).1.toInt)) ∧ w' = [(mp_ob10 a0 0 a9 a10 a11 a12 a13 y1 y2 y3 y4 y5 y6 y7 y8 y9 y10 a14 a1 a2 a15 a3 a16 a4 a17 r1 a5 a6 a7 a8 y12 y13 y14 a18 a19 y15 y16 a20 a21 a22 y17 y18 y19 y20 a23 a24 a25 y21), (mp_arI E a1 0 25 f0), (mp_arI E a2 0 180 f1), (mp_arI E a3 0 90 f2), (mp_arI E a4 0 300 f3), (mp_arI E a5 0 6 h2), (mp_arI E a6 0 6 h3), (mp_arI E a7 0 6 h4), (mp_arI E a8 3 1500 h5)]) := by
  refine mp_met false (by decide) (by decide) (Nat.le_of_ble_eq_true rfl) (fun X hF hQ => ?_)
  have hF : mp_F E X (RX10, cX10_where, 2, (2, 0, 0, 46), (some FieldType.int), false) := hF
  let w1_ : va_W := [(mp_ob10 a0 y0 a9 a10 a11 a12 a13 y1 y2 y3 y4 y5 y6 y7 y8 y9 y10 a14 a1 a2 a15 a3 a16 a4 a17 y11 a5 a6 a7 a8 y12 y13 y14 a18 a19 y15 y16 a20 a21 a22 y17 y18 y19 y20 a23 a24 a25 y21), (mp_arI E a1 0 25 f0), (mp_arI E a2 0 180 f1), (mp_arI E a3 0 90 f2), (mp_arI E a4 0 300 f3), (mp_arI E a5 0 6 f4), (mp_arI E a6 0 6 f5), (mp_arI E a7 0 6 f6), (mp_arI E a8 3 1500 f7)]
  show mp_W E X 2 0 [(0, .ref a0), (1, .int x0)] [] w1_ 0 0
  refine mp_run mp_k_cX10_where_ok hF mp_tabX10_ok [mp_i (.aload_n 0), mp_c (.iconst 0) 0, mp_h (.putfield 92) [0, 0]] (by decide +kernel) ?_
  refine And.intro rfl (And.intro rfl (And.intro rfl (And.intro rfl (And.intro (Nat.le_of_ble_eq_true rfl) ?_))))
  let w2_ : va_W := [(mp_ob10 a0 0 a9 a10 a11 a12 a13 y1 y2 y3 y4 y5 y6 y7 y8 y9 y10 a14 a1 a2 a15 a3 a16 a4 a17 y11 a5 a6 a7 a8 y12 y13 y14 a18 a19 y15 y16 a20 a21 a22 y17 y18 y19 y20 a23 a24 a25 y21), (mp_arI E a1 0 25 f0), (mp_arI E a2 0 180 f1), (mp_arI E a3 0 90 f2), (mp_arI E a4 0 300 f3), (mp_arI E a5 0 6 f4), (mp_arI E a6 0 6 f5), (mp_arI E a7 0 6 f6), (mp_arI E a8 3 1500 f7)]
  show mp_W E X 2 5 [(0, .ref a0), (1, .int x0)] [] w2_ 0 0
  refine mp_run mp_k_cX10_where_ok hF mp_tabX10_ok [mp_i (.aload_n 0), mp_i (.iload_n 1)] (by decide +kernel) ?_
  show mp_W E X 2 7 [(0, .ref a0), (1, .int x0)] [.int x0, .ref a0] w2_ 0 0
  refine mp_callV hF (As := [.int x0]) (rest := []) (wr := [(mp_arI E a2 0 180 f1), (mp_arI E a3 0 90 f2), (mp_arI E a4 0 300 f3), (mp_arI E a5 0 6 f4), (mp_arI E a6 0 6 f5), (mp_arI E a7 0 6 f6), (mp_arI E a8 3 1500 f7)]) (bX10_isPerson_53 E a0 a1 a9 a10 a11 a12 a13 a14 a2 a15 a3 a16 a4 a17 a5 a6 a7 a8 a18 a19 a20 a21 a22 a23 a24 a25 f0 0 y1 y2 y3 y4 y5 y6 y7 y8 y9 y10 y11 y12 y13 y14 y15 y16 y17 y18 y19 y20 y21 x0 p0 p1 p2 p3 p4 l_y1 u_y1 l_y2 u_y2 l_y3 u_y3 l_y4 u_y4 l_y11 u_y11 l_y12 u_y12 l_y13 u_y13) mp_lkX10_255 0 rfl [0, 1] [2, 3, 4, 5, 6, 7, 8] rfl rfl rfl rfl rfl ⟨(Nat.le_of_ble_eq_true rfl), (Nat.le_of_ble_eq_true rfl), (Nat.le_of_ble_eq_true rfl), (Nat.le_of_ble_eq_true rfl)⟩ (Nat.le_of_ble_eq_true rfl) (by first | exact mp_fd_ok mp_k_cX10_where_ok (by decide +kernel) | decide +kernel) (fun v_1 w_2 h_3 => ?_)
  refine h_3.elim (fun q_9 => ?_) (fun q_10 => ?_)
  · skip
    refine q_9.elim fun e_11 q_12 => q_12.elim fun x_4 e_13 => ?_
    clear h_3 q_9 q_12
    subst e_11
    subst e_13
    let w3_ : va_W := [(mp_arI E a2 0 180 f1), (mp_arI E a3 0 90 f2), (mp_arI E a4 0 300 f3), (mp_arI E a5 0 6 f4), (mp_arI E a6 0 6 f5), (mp_arI E a7 0 6 f6), (mp_arI E a8 3 1500 f7), (mp_ob10 a0 0 a9 a10 a11 a12 a13 y1 y2 y3 y4 y5 y6 y7 y8 y9 y10 a14 a1 a2 a15 a3 a16 a4 a17 y11 a5 a6 a7 a8 y12 y13 y14 a18 a19 y15 y16 a20 a21 a22 y17 y18 y19 y20 a23 a24 a25 y21), (mp_arI E a1 0 25 f0)]
    show mp_W E X 2 10 [(0, .ref a0), (1, .int x0)] [.int 0] w3_ 0 0
    refine mp_run mp_k_cX10_where_ok hF mp_tabX10_ok [mp_h (.ifCond .ne 6) [16]] (by decide +kernel) ?_
    refine And.intro (fun c_14 => absurd c_14 (by decide)) (fun _ => ?_)
    show mp_W E X 2 13 [(0, .ref a0), (1, .int x0)] [] w3_ 0 0
    refine mp_run mp_k_cX10_where_ok hF mp_tabX10_ok [mp_c (.bipush (-2)) (-2)] (by decide +kernel) ?_
    show mp_W E X 2 15 [(0, .ref a0), (1, .int x0)] [.int (-2)] w3_ 0 0
    exact mp_iret hF hQ rfl rfl (Nat.le_of_ble_eq_true rfl) (Nat.le_of_ble_eq_true rfl) [7, 8, 0, 1, 2, 3, 4, 5, 6] (w' := w2_) rfl rfl ⟨y11, f4, f5, f6, f7, (-2), rfl, l_y11, u_y11, (by decide), (by decide), p9, (by first | fail | decide | (have h8 : (0 : Int64).toInt = 0 := rfl; have h9 : (-1 : Int32).toInt = -1 := rfl; have h10 : (-2 : Int32).toInt = -2 := rfl; have h11 : (0 : Int32).toInt = 0 := rfl; have h12 : (1 : Int32).toInt = 1 := rfl; have h13 : (-5 : Int32).toInt = -5 := rfl; have h14 : (-3 : Int32).toInt = -3 := rfl; (first | exact mp_o448 x_4 h10 | omega))), rfl⟩ (by first | exact mp_fd_ok mp_k_cX10_where_ok (by decide +kernel) | decide +kernel)
  · skip
    refine q_10.elim fun e_15 q_16 => q_16.elim fun c_5 q_17 => q_17.elim fun x_6 q_18 => q_18.elim fun x_7 q_19 => q_19.elim fun x_8 e_20 => ?_
    clear h_3 q_10 q_16 q_17 q_18 q_19
    subst e_15
    subst e_20
    have c_5 : 0 ≤ x0.toInt := c_5
    let w4_ : va_W := [(mp_arI E a2 0 180 f1), (mp_arI E a3 0 90 f2), (mp_arI E a4 0 300 f3), (mp_arI E a5 0 6 f4), (mp_arI E a6 0 6 f5), (mp_arI E a7 0 6 f6), (mp_arI E a8 3 1500 f7), (mp_ob10 a0 0 a9 a10 a11 a12 a13 y1 y2 y3 y4 y5 y6 y7 y8 y9 y10 a14 a1 a2 a15 a3 a16 a4 a17 y11 a5 a6 a7 a8 y12 y13 y14 a18 a19 y15 y16 a20 a21 a22 y17 y18 y19 y20 a23 a24 a25 y21), (mp_arI E a1 0 25 f0)]
    show mp_W E X 2 10 [(0, .ref a0), (1, .int x0)] [.int 1] w4_ 0 0
    refine mp_run mp_k_cX10_where_ok hF mp_tabX10_ok [mp_h (.ifCond .ne 6) [16]] (by decide +kernel) ?_
    refine And.intro (fun _ => ?_) (fun c_21 => absurd c_21 (by decide))
    show mp_W E X 2 16 [(0, .ref a0), (1, .int x0)] [] w4_ 0 0
    refine mp_run mp_k_cX10_where_ok hF mp_tabX10_ok [mp_i (.aload_n 0)] (by decide +kernel) ?_
    show mp_W E X 2 17 [(0, .ref a0), (1, .int x0)] [.ref a0] w4_ 0 0
    refine mp_callV hF (As := []) (rest := []) (wr := []) (bX10_lays_62 E a0 a1 a2 a3 a4 a5 a6 a7 a8 a9 a10 a11 a12 a13 a14 a15 a16 a17 a18 a19 a20 a21 a22 a23 a24 a25 f0 f1 f2 f3 f4 f5 f6 f7 0 y1 y2 y3 y4 y5 y6 y7 y8 y9 y10 y11 y12 y13 y14 y15 y16 y17 y18 y19 y20 y21 p0 p1 p2 p3 p4 p5 p6 p7 p8 p9 l_y1 u_y1 l_y2 u_y2 l_y3 u_y3 l_y4 u_y4 l_y11 u_y11 l_y12 u_y12 l_y13 u_y13 (by (first | exact q0 | omega))) mp_lkX10_288 7 rfl [7, 8, 0, 1, 2, 3, 4, 5, 6] [] rfl rfl rfl rfl rfl ⟨(Nat.le_of_ble_eq_true rfl), (Nat.le_of_ble_eq_true rfl), (Nat.le_of_ble_eq_true rfl), (Nat.le_of_ble_eq_true rfl)⟩ (Nat.le_of_ble_eq_true rfl) (by first | exact mp_fd_ok mp_k_cX10_where_ok (by decide +kernel) | decide +kernel) (fun v_22 w_23 h_24 => ?_)
    refine h_24.elim fun r_25 q_35 => q_35.elim fun g_26 q_36 => q_36.elim fun g_27 q_37 => q_37.elim fun g_28 q_38 => q_38.elim fun g_29 q_39 => q_39.elim fun e_40 q_41 => q_41.elim fun l_30 q_42 => q_42.elim fun u_31 q_43 => q_43.elim fun p_32 q_44 => q_44.elim fun x_33 q_45 => q_45.elim fun x_34 e_46 => ?_
    clear h_24 q_35 q_36 q_37 q_38 q_39 q_41 q_42 q_43 q_44 q_45
    subst e_40
    subst e_46
    let w5_ : va_W := [(mp_ob10 a0 0 a9 a10 a11 a12 a13 y1 y2 y3 y4 y5 y6 y7 y8 y9 y10 a14 a1 a2 a15 a3 a16 a4 a17 r_25 a5 a6 a7 a8 y12 y13 y14 a18 a19 y15 y16 a20 a21 a22 y17 y18 y19 y20 a23 a24 a25 y21), (mp_arI E a1 0 25 f0), (mp_arI E a2 0 180 f1), (mp_arI E a3 0 90 f2), (mp_arI E a4 0 300 f3), (mp_arI E a5 0 6 g_26), (mp_arI E a6 0 6 g_27), (mp_arI E a7 0 6 g_28), (mp_arI E a8 3 1500 g_29)]
    show mp_W E X 2 20 [(0, .ref a0), (1, .int x0)] [] w5_ 0 0
    refine mp_run mp_k_cX10_where_ok hF mp_tabX10_ok [mp_i (.aload_n 0), mp_h (.getfield 56) [25, 0], mp_i (.iload_n 1), mp_h .iaload [5]] (by decide +kernel) ?_
    refine And.intro rfl (And.intro rfl ?_)
    refine And.intro rfl (And.intro rfl (And.intro (vp_in_iff.mpr (by (first | exact mp_o230 c_5 x_7 | omega))) ?_))
    intro z_47 h_48
    have e_49 : 0 ≤ z_47.toInt ∧ z_47.toInt ≤ 5 := mp_all_ld h_48 p_32 (by (first | exact c_5 | omega)) (by (first | exact mp_o475 x_7 | omega))
    have e_50 : z_47.toInt = (g_26 x0.toInt.toNat).toInt := congrArg Int32.toInt h_48
    show mp_W E X 2 26 [(0, .ref a0), (1, .int x0)] [.int z_47] w5_ 0 0
    exact mp_iret hF hQ rfl rfl (Nat.le_of_ble_eq_true rfl) (Nat.le_of_ble_eq_true rfl) [0, 1, 2, 3, 4, 5, 6, 7, 8] (w' := w5_) rfl rfl ⟨r_25, g_26, g_27, g_28, g_29, z_47, rfl, l_30, u_31, (by (first | exact mp_o472 e_49 | omega)), e_49.2, p_32, (Or.inr ⟨by (first | exact x_8 | omega), by have k8 := x_34 x0.toInt.toNat (by (first | exact mp_o473 c_5 x_6 | omega)); rw [← k8.1]; (first | exact e_50 | omega)⟩), rfl⟩ (by first | exact mp_fd_ok mp_k_cX10_where_ok (by decide +kernel) | decide +kernel)
set_option maxHeartbeats 4000000 in
set_option maxRecDepth 100000 in
theorem bX10_rowed_90 (E : mp_E) (a0 a1 a2 a3 a4 a5 a6 a7 a8 a9 a10 a11 a12 a13 a14 a15 a16 a17 a18 a19 a20 a21 a22 a23 a24 a25 : Nat) (f0 : Nat → Int32) (f1 : Nat → Int32) (f2 : Nat → Int32) (f3 : Nat → Int32) (f4 : Nat → Int32) (f5 : Nat → Int32) (f6 : Nat → Int32) (f7 : Nat → Int32) (y0 : Int32) (y1 : Int32) (y2 : Int32) (y3 : Int32) (y4 : Int32) (y5 : Int32) (y6 : Int64) (y7 : Int32) (y8 : Int32) (y9 : Int32) (y10 : Int32) (y11 : Int32) (y12 : Int32) (y13 : Int32) (y14 : Int32) (y15 : Int32) (y16 : Int32) (y17 : Int32) (y18 : Int32) (y19 : Int32) (y20 : Int32) (y21 : Int32) (x0 : Int32) (p0 : mp_res f0 25 5 0 0 6) (p1 : mp_res f0 25 5 1 0 99) (p2 : mp_res f0 25 5 2 0 6) (p3 : mp_res f0 25 5 3 0 10) (p4 : mp_res f0 25 5 4 0 60) (p5 : mp_all f1 180 0 20) (p6 : mp_res f2 90 3 0 0 5) (p7 : mp_res f2 90 3 1 (-1) 99) (p8 : mp_actm f3) (p9 : mp_all f4 6 0 5) (l_y1 : 0 ≤ y1.toInt) (u_y1 : y1.toInt ≤ 1600) (l_y2 : 0 ≤ y2.toInt) (u_y2 : y2.toInt ≤ 1600) (l_y3 : 0 ≤ y3.toInt) (u_y3 : y3.toInt ≤ 4) (l_y4 : 0 ≤ y4.toInt) (u_y4 : y4.toInt ≤ 1600) (l_y11 : 0 ≤ y11.toInt) (u_y11 : y11.toInt ≤ 99) (l_y12 : 0 ≤ y12.toInt) (u_y12 : y12.toInt ≤ 5) (l_y13 : 0 ≤ y13.toInt) (u_y13 : y13.toInt ≤ 12) (q0 : (f0 1).toInt + mp_k200 f3 (f0 4).toInt ≤ 99) : mp_Ct E yX10_rowed cX10_rowed 2 (some FieldType.int) 2 0 0 46 [.ref a0, .int x0] [(mp_ob10 a0 y0 a9 a10 a11 a12 a13 y1 y2 y3 y4 y5 y6 y7 y8 y9 y10 a14 a1 a2 a15 a3 a16 a4 a17 y11 a5 a6 a7 a8 y12 y13 y14 a18 a19 y15 y16 a20 a21 a22 y17 y18 y19 y20 a23 a24 a25 y21), (mp_arI E a1 0 25 f0), (mp_arI E a2 0 180 f1), (mp_arI E a3 0 90 f2), (mp_arI E a4 0 300 f3), (mp_arI E a5 0 6 f4), (mp_arI E a6 0 6 f5), (mp_arI E a7 0 6 f6), (mp_arI E a8 3 1500 f7)] (fun v w' => ∃ r1 : Int32, ∃ h2 : Nat → Int32, ∃ h3 : Nat → Int32, ∃ h4 : Nat → Int32, ∃ h5 : Nat → Int32, ∃ r6 : Int32, v = some (.int r6) ∧ 0 ≤ r1.toInt ∧ r1.toInt ≤ 99 ∧ mp_all h2 6 0 5 ∧ (((x0.toInt < 0 ∨ (f0 2).toInt ≤ x0.toInt) ∧ r6.toInt = -2) ∨ ((0 ≤ x0.toInt ∧ x0.toInt < (f0 2).toInt) ∧ r6.toInt = (mp_cs f1 (fun p => f2 (3 * p)) f3 ((f0 1).toInt) x0.toInt.toNat ((f0 4).toInt).toNat).2.1.toInt)) ∧ w' = [(mp_ob10 a0 0 a9 a10 a11 a12 a13 y1 y2 y3 y4 y5 y6 y7 y8 y9 y10 a14 a1 a2 a15 a3 a16 a4 a17 r1 a5 a6 a7 a8 y12 y13 y14 a18 a19 y15 y16 a20 a21 a22 y17 y18 y19 y20 a23 a24 a25 y21), (mp_arI E a1 0 25 f0), (mp_arI E a2 0 180 f1), (mp_arI E a3 0 90 f2), (mp_arI E a4 0 300 f3), (mp_arI E a5 0 6 h2), (mp_arI E a6 0 6 h3), (mp_arI E a7 0 6 h4), (mp_arI E a8 3 1500 h5)]) := by
  refine mp_met false (by decide) (by decide) (Nat.le_of_ble_eq_true rfl) (fun X hF hQ => ?_)
  have hF : mp_F E X (RX10, cX10_rowed, 2, (2, 0, 0, 46), (some FieldType.int), false) := hF
  let w1_ : va_W := [(mp_ob10 a0 y0 a9 a10 a11 a12 a13 y1 y2 y3 y4 y5 y6 y7 y8 y9 y10 a14 a1 a2 a15 a3 a16 a4 a17 y11 a5 a6 a7 a8 y12 y13 y14 a18 a19 y15 y16 a20 a21 a22 y17 y18 y19 y20 a23 a24 a25 y21), (mp_arI E a1 0 25 f0), (mp_arI E a2 0 180 f1), (mp_arI E a3 0 90 f2), (mp_arI E a4 0 300 f3), (mp_arI E a5 0 6 f4), (mp_arI E a6 0 6 f5), (mp_arI E a7 0 6 f6), (mp_arI E a8 3 1500 f7)]
  show mp_W E X 2 0 [(0, .ref a0), (1, .int x0)] [] w1_ 0 0
  refine mp_run mp_k_cX10_rowed_ok hF mp_tabX10_ok [mp_i (.aload_n 0), mp_c (.iconst 0) 0, mp_h (.putfield 92) [0, 0]] (by decide +kernel) ?_
  refine And.intro rfl (And.intro rfl (And.intro rfl (And.intro rfl (And.intro (Nat.le_of_ble_eq_true rfl) ?_))))
  let w2_ : va_W := [(mp_ob10 a0 0 a9 a10 a11 a12 a13 y1 y2 y3 y4 y5 y6 y7 y8 y9 y10 a14 a1 a2 a15 a3 a16 a4 a17 y11 a5 a6 a7 a8 y12 y13 y14 a18 a19 y15 y16 a20 a21 a22 y17 y18 y19 y20 a23 a24 a25 y21), (mp_arI E a1 0 25 f0), (mp_arI E a2 0 180 f1), (mp_arI E a3 0 90 f2), (mp_arI E a4 0 300 f3), (mp_arI E a5 0 6 f4), (mp_arI E a6 0 6 f5), (mp_arI E a7 0 6 f6), (mp_arI E a8 3 1500 f7)]
  show mp_W E X 2 5 [(0, .ref a0), (1, .int x0)] [] w2_ 0 0
  refine mp_run mp_k_cX10_rowed_ok hF mp_tabX10_ok [mp_i (.aload_n 0), mp_i (.iload_n 1)] (by decide +kernel) ?_
  show mp_W E X 2 7 [(0, .ref a0), (1, .int x0)] [.int x0, .ref a0] w2_ 0 0
  refine mp_callV hF (As := [.int x0]) (rest := []) (wr := [(mp_arI E a2 0 180 f1), (mp_arI E a3 0 90 f2), (mp_arI E a4 0 300 f3), (mp_arI E a5 0 6 f4), (mp_arI E a6 0 6 f5), (mp_arI E a7 0 6 f6), (mp_arI E a8 3 1500 f7)]) (bX10_isPerson_53 E a0 a1 a9 a10 a11 a12 a13 a14 a2 a15 a3 a16 a4 a17 a5 a6 a7 a8 a18 a19 a20 a21 a22 a23 a24 a25 f0 0 y1 y2 y3 y4 y5 y6 y7 y8 y9 y10 y11 y12 y13 y14 y15 y16 y17 y18 y19 y20 y21 x0 p0 p1 p2 p3 p4 l_y1 u_y1 l_y2 u_y2 l_y3 u_y3 l_y4 u_y4 l_y11 u_y11 l_y12 u_y12 l_y13 u_y13) mp_lkX10_255 0 rfl [0, 1] [2, 3, 4, 5, 6, 7, 8] rfl rfl rfl rfl rfl ⟨(Nat.le_of_ble_eq_true rfl), (Nat.le_of_ble_eq_true rfl), (Nat.le_of_ble_eq_true rfl), (Nat.le_of_ble_eq_true rfl)⟩ (Nat.le_of_ble_eq_true rfl) (by first | exact mp_fd_ok mp_k_cX10_rowed_ok (by decide +kernel) | decide +kernel) (fun v_1 w_2 h_3 => ?_)
  refine h_3.elim (fun q_9 => ?_) (fun q_10 => ?_)
  · skip
    refine q_9.elim fun e_11 q_12 => q_12.elim fun x_4 e_13 => ?_
    clear h_3 q_9 q_12
    subst e_11
    subst e_13
    let w3_ : va_W := [(mp_arI E a2 0 180 f1), (mp_arI E a3 0 90 f2), (mp_arI E a4 0 300 f3), (mp_arI E a5 0 6 f4), (mp_arI E a6 0 6 f5), (mp_arI E a7 0 6 f6), (mp_arI E a8 3 1500 f7), (mp_ob10 a0 0 a9 a10 a11 a12 a13 y1 y2 y3 y4 y5 y6 y7 y8 y9 y10 a14 a1 a2 a15 a3 a16 a4 a17 y11 a5 a6 a7 a8 y12 y13 y14 a18 a19 y15 y16 a20 a21 a22 y17 y18 y19 y20 a23 a24 a25 y21), (mp_arI E a1 0 25 f0)]
    show mp_W E X 2 10 [(0, .ref a0), (1, .int x0)] [.int 0] w3_ 0 0
    refine mp_run mp_k_cX10_rowed_ok hF mp_tabX10_ok [mp_h (.ifCond .ne 6) [16]] (by decide +kernel) ?_
    refine And.intro (fun c_14 => absurd c_14 (by decide)) (fun _ => ?_)
    show mp_W E X 2 13 [(0, .ref a0), (1, .int x0)] [] w3_ 0 0
    refine mp_run mp_k_cX10_rowed_ok hF mp_tabX10_ok [mp_c (.bipush (-2)) (-2)] (by decide +kernel) ?_
    show mp_W E X 2 15 [(0, .ref a0), (1, .int x0)] [.int (-2)] w3_ 0 0
    exact mp_iret hF hQ rfl rfl (Nat.le_of_ble_eq_true rfl) (Nat.le_of_ble_eq_true rfl) [7, 8, 0, 1, 2, 3, 4, 5, 6] (w' := w2_) rfl rfl ⟨y11, f4, f5, f6, f7, (-2), rfl, l_y11, u_y11, p9, (by first | fail | decide | (have h8 : (0 : Int64).toInt = 0 := rfl; have h9 : (-1 : Int32).toInt = -1 := rfl; have h10 : (-2 : Int32).toInt = -2 := rfl; have h11 : (0 : Int32).toInt = 0 := rfl; have h12 : (1 : Int32).toInt = 1 := rfl; have h13 : (-5 : Int32).toInt = -5 := rfl; have h14 : (-3 : Int32).toInt = -3 := rfl; (first | exact mp_o448 x_4 h10 | omega))), rfl⟩ (by first | exact mp_fd_ok mp_k_cX10_rowed_ok (by decide +kernel) | decide +kernel)
  · skip
    refine q_10.elim fun e_15 q_16 => q_16.elim fun c_5 q_17 => q_17.elim fun x_6 q_18 => q_18.elim fun x_7 q_19 => q_19.elim fun x_8 e_20 => ?_
    clear h_3 q_10 q_16 q_17 q_18 q_19
    subst e_15
    subst e_20
    have c_5 : 0 ≤ x0.toInt := c_5
    let w4_ : va_W := [(mp_arI E a2 0 180 f1), (mp_arI E a3 0 90 f2), (mp_arI E a4 0 300 f3), (mp_arI E a5 0 6 f4), (mp_arI E a6 0 6 f5), (mp_arI E a7 0 6 f6), (mp_arI E a8 3 1500 f7), (mp_ob10 a0 0 a9 a10 a11 a12 a13 y1 y2 y3 y4 y5 y6 y7 y8 y9 y10 a14 a1 a2 a15 a3 a16 a4 a17 y11 a5 a6 a7 a8 y12 y13 y14 a18 a19 y15 y16 a20 a21 a22 y17 y18 y19 y20 a23 a24 a25 y21), (mp_arI E a1 0 25 f0)]
    show mp_W E X 2 10 [(0, .ref a0), (1, .int x0)] [.int 1] w4_ 0 0
    refine mp_run mp_k_cX10_rowed_ok hF mp_tabX10_ok [mp_h (.ifCond .ne 6) [16]] (by decide +kernel) ?_
    refine And.intro (fun _ => ?_) (fun c_21 => absurd c_21 (by decide))
    show mp_W E X 2 16 [(0, .ref a0), (1, .int x0)] [] w4_ 0 0
    refine mp_run mp_k_cX10_rowed_ok hF mp_tabX10_ok [mp_i (.aload_n 0)] (by decide +kernel) ?_
    show mp_W E X 2 17 [(0, .ref a0), (1, .int x0)] [.ref a0] w4_ 0 0
    refine mp_callV hF (As := []) (rest := []) (wr := []) (bX10_lays_62 E a0 a1 a2 a3 a4 a5 a6 a7 a8 a9 a10 a11 a12 a13 a14 a15 a16 a17 a18 a19 a20 a21 a22 a23 a24 a25 f0 f1 f2 f3 f4 f5 f6 f7 0 y1 y2 y3 y4 y5 y6 y7 y8 y9 y10 y11 y12 y13 y14 y15 y16 y17 y18 y19 y20 y21 p0 p1 p2 p3 p4 p5 p6 p7 p8 p9 l_y1 u_y1 l_y2 u_y2 l_y3 u_y3 l_y4 u_y4 l_y11 u_y11 l_y12 u_y12 l_y13 u_y13 (by (first | exact q0 | omega))) mp_lkX10_288 7 rfl [7, 8, 0, 1, 2, 3, 4, 5, 6] [] rfl rfl rfl rfl rfl ⟨(Nat.le_of_ble_eq_true rfl), (Nat.le_of_ble_eq_true rfl), (Nat.le_of_ble_eq_true rfl), (Nat.le_of_ble_eq_true rfl)⟩ (Nat.le_of_ble_eq_true rfl) (by first | exact mp_fd_ok mp_k_cX10_rowed_ok (by decide +kernel) | decide +kernel) (fun v_22 w_23 h_24 => ?_)
    refine h_24.elim fun r_25 q_35 => q_35.elim fun g_26 q_36 => q_36.elim fun g_27 q_37 => q_37.elim fun g_28 q_38 => q_38.elim fun g_29 q_39 => q_39.elim fun e_40 q_41 => q_41.elim fun l_30 q_42 => q_42.elim fun u_31 q_43 => q_43.elim fun p_32 q_44 => q_44.elim fun x_33 q_45 => q_45.elim fun x_34 e_46 => ?_
    clear h_24 q_35 q_36 q_37 q_38 q_39 q_41 q_42 q_43 q_44 q_45
    subst e_40
    subst e_46
    let w5_ : va_W := [(mp_ob10 a0 0 a9 a10 a11 a12 a13 y1 y2 y3 y4 y5 y6 y7 y8 y9 y10 a14 a1 a2 a15 a3 a16 a4 a17 r_25 a5 a6 a7 a8 y12 y13 y14 a18 a19 y15 y16 a20 a21 a22 y17 y18 y19 y20 a23 a24 a25 y21), (mp_arI E a1 0 25 f0), (mp_arI E a2 0 180 f1), (mp_arI E a3 0 90 f2), (mp_arI E a4 0 300 f3), (mp_arI E a5 0 6 g_26), (mp_arI E a6 0 6 g_27), (mp_arI E a7 0 6 g_28), (mp_arI E a8 3 1500 g_29)]
    show mp_W E X 2 20 [(0, .ref a0), (1, .int x0)] [] w5_ 0 0
    refine mp_run mp_k_cX10_rowed_ok hF mp_tabX10_ok [mp_i (.aload_n 0), mp_h (.getfield 59) [26, 0], mp_i (.iload_n 1), mp_h .iaload [6]] (by decide +kernel) ?_
    refine And.intro rfl (And.intro rfl ?_)
    refine And.intro rfl (And.intro rfl (And.intro (vp_in_iff.mpr (by (first | exact mp_o230 c_5 x_7 | omega))) ?_))
    intro z_47 h_48
    have e_49 : z_47.toInt = (g_27 x0.toInt.toNat).toInt := congrArg Int32.toInt h_48
    show mp_W E X 2 26 [(0, .ref a0), (1, .int x0)] [.int z_47] w5_ 0 0
    exact mp_iret hF hQ rfl rfl (Nat.le_of_ble_eq_true rfl) (Nat.le_of_ble_eq_true rfl) [0, 1, 2, 3, 4, 5, 6, 7, 8] (w' := w5_) rfl rfl ⟨r_25, g_26, g_27, g_28, g_29, z_47, rfl, l_30, u_31, p_32, (Or.inr ⟨by (first | exact x_8 | omega), by have k8 := x_34 x0.toInt.toNat (by omega); rw [← k8.2.1]; (first | exact e_49 | omega)⟩), rfl⟩ (by first | exact mp_fd_ok mp_k_cX10_rowed_ok (by decide +kernel) | decide +kernel)
