set_option maxHeartbeats 4000000 in
set_option maxRecDepth 100000 in
theorem bX10_ring_132 (E : mp_E) (a0 a1 a2 a3 a4 a5 a6 a7 a8 a9 a10 a11 a12 a13 a14 a15 a16 a17 a18 a19 a20 a21 a22 a23 a24 a25 : Nat) (f0 : Nat → Int32) (f1 : Nat → Int32) (f2 : Nat → Int32) (f3 : Nat → Int32) (f4 : Nat → Int32) (f5 : Nat → Int32) (f6 : Nat → Int32) (f7 : Nat → Int32) (f8 : Nat → Int32) (f9 : Nat → Int32) (f10 : Nat → Int32) (y0 : Int32) (y1 : Int32) (y2 : Int32) (y3 : Int32) (y4 : Int32) (y5 : Int32) (y6 : Int64) (y7 : Int32) (y8 : Int32) (y9 : Int32) (y10 : Int32) (y11 : Int32) (y12 : Int32) (y13 : Int32) (y14 : Int32) (y15 : Int32) (y16 : Int32) (y17 : Int32) (y18 : Int32) (y19 : Int32) (y20 : Int32) (y21 : Int32) (x0 : Int32) (p0 : mp_res f1 25 5 0 0 6) (p1 : mp_res f1 25 5 1 0 99) (p2 : mp_res f1 25 5 2 0 6) (p3 : mp_res f1 25 5 3 0 10) (p4 : mp_res f1 25 5 4 0 60) (p5 : mp_all f2 180 0 20) (p6 : mp_res f3 90 3 0 0 5) (p7 : mp_res f3 90 3 1 (-1) 99) (p8 : mp_res f4 300 6 0 0 5) (p9 : mp_res f4 300 6 1 0 5) (p10 : mp_res f4 300 6 3 0 99) (p11 : mp_res f4 300 6 4 0 1) (p12 : mp_actm f5) (p13 : mp_all f6 6 0 5) (l_y1 : 0 ≤ y1.toInt) (u_y1 : y1.toInt ≤ 1600) (l_y2 : 0 ≤ y2.toInt) (u_y2 : y2.toInt ≤ 1600) (l_y3 : 0 ≤ y3.toInt) (u_y3 : y3.toInt ≤ 4) (l_y4 : 0 ≤ y4.toInt) (u_y4 : y4.toInt ≤ 1600) (l_y11 : 0 ≤ y11.toInt) (u_y11 : y11.toInt ≤ 99) (l_y12 : 0 ≤ y12.toInt) (u_y12 : y12.toInt ≤ 5) (l_y13 : 0 ≤ y13.toInt) (u_y13 : y13.toInt ≤ 12) (q0 : mp_prm f4 (f1 3).toInt) (q1 : (f1 1).toInt + mp_k200 f5 (f1 4).toInt ≤ 99) : mp_Ct E yX10_ring cX10_ring 2 (some FieldType.int) 17 0 0 412 [.ref a0, .int x0] [(mp_ob10 a0 y0 a12 a13 a14 a15 a16 y1 y2 y3 y4 y5 y6 y7 y8 y9 y10 a1 a2 a3 a17 a4 a5 a6 a18 y11 a7 a8 a9 a10 y12 y13 y14 a19 a20 y15 y16 a21 a22 a11 y17 y18 y19 y20 a23 a24 a25 y21), (mp_arI E a1 0 5 f0), (mp_arI E a2 0 25 f1), (mp_arI E a3 0 180 f2), (mp_arI E a4 0 90 f3), (mp_arI E a5 0 300 f4), (mp_arI E a6 0 300 f5), (mp_arI E a7 0 6 f6), (mp_arI E a8 0 6 f7), (mp_arI E a9 0 6 f8), (mp_arI E a10 3 1500 f9), (mp_arI E a11 0 3 f10)] (fun v w' => ∃ r1 : Int32, ∃ h2 : Nat → Int32, ∃ h3 : Nat → Int32, ∃ h4 : Nat → Int32, ∃ h5 : Nat → Int32, ∃ h6 : Nat → Int32, ∃ r7 : Int32, v = some (.int r7) ∧ 0 ≤ r1.toInt ∧ r1.toInt ≤ 99 ∧ mp_all h2 6 0 5 ∧ w' = [(mp_ob10 a0 0 a12 a13 a14 a15 a16 y1 y2 y3 y4 y5 y6 y7 y8 y9 y10 a1 a2 a3 a17 a4 a5 a6 a18 r1 a7 a8 a9 a10 y12 y13 y14 a19 a20 y15 y16 a21 a22 a11 y17 y18 y19 y20 a23 a24 a25 y21), (mp_arI E a1 0 5 f0), (mp_arI E a2 0 25 f1), (mp_arI E a3 0 180 f2), (mp_arI E a4 0 90 f3), (mp_arI E a5 0 300 f4), (mp_arI E a6 0 300 f5), (mp_arI E a7 0 6 h2), (mp_arI E a8 0 6 h3), (mp_arI E a9 0 6 h4), (mp_arI E a10 3 1500 h5), (mp_arI E a11 0 3 h6)]) := by
  refine mp_met false (by decide) (by decide) (Nat.le_of_ble_eq_true rfl) (fun X hF hQ => ?_)
  have hF : mp_F E X (RX10, cX10_ring, 2, (17, 0, 0, 412), (some FieldType.int), false) := hF
  let w1_ : va_W := [(mp_ob10 a0 y0 a12 a13 a14 a15 a16 y1 y2 y3 y4 y5 y6 y7 y8 y9 y10 a1 a2 a3 a17 a4 a5 a6 a18 y11 a7 a8 a9 a10 y12 y13 y14 a19 a20 y15 y16 a21 a22 a11 y17 y18 y19 y20 a23 a24 a25 y21), (mp_arI E a1 0 5 f0), (mp_arI E a2 0 25 f1), (mp_arI E a3 0 180 f2), (mp_arI E a4 0 90 f3), (mp_arI E a5 0 300 f4), (mp_arI E a6 0 300 f5), (mp_arI E a7 0 6 f6), (mp_arI E a8 0 6 f7), (mp_arI E a9 0 6 f8), (mp_arI E a10 3 1500 f9), (mp_arI E a11 0 3 f10)]
  show mp_W E X 2 0 [(0, .ref a0), (1, .int x0)] [] w1_ 0 0
  refine mp_run mp_k_cX10_ring_ok hF mp_tabX10_ok [mp_i (.aload_n 0), mp_c (.iconst 0) 0, mp_h (.putfield 92) [0, 0]] (by decide +kernel) ?_
  refine And.intro rfl (And.intro rfl (And.intro rfl (And.intro rfl (And.intro (Nat.le_of_ble_eq_true rfl) ?_))))
  let w2_ : va_W := [(mp_ob10 a0 0 a12 a13 a14 a15 a16 y1 y2 y3 y4 y5 y6 y7 y8 y9 y10 a1 a2 a3 a17 a4 a5 a6 a18 y11 a7 a8 a9 a10 y12 y13 y14 a19 a20 y15 y16 a21 a22 a11 y17 y18 y19 y20 a23 a24 a25 y21), (mp_arI E a1 0 5 f0), (mp_arI E a2 0 25 f1), (mp_arI E a3 0 180 f2), (mp_arI E a4 0 90 f3), (mp_arI E a5 0 300 f4), (mp_arI E a6 0 300 f5), (mp_arI E a7 0 6 f6), (mp_arI E a8 0 6 f7), (mp_arI E a9 0 6 f8), (mp_arI E a10 3 1500 f9), (mp_arI E a11 0 3 f10)]
  show mp_W E X 2 5 [(0, .ref a0), (1, .int x0)] [] w2_ 0 0
  refine mp_run mp_k_cX10_ring_ok hF mp_tabX10_ok [mp_i (.aload_n 0)] (by decide +kernel) ?_
  show mp_W E X 2 6 [(0, .ref a0), (1, .int x0)] [.ref a0] w2_ 0 0
  refine mp_callV hF (As := []) (rest := []) (wr := [(mp_arI E a2 0 25 f1), (mp_arI E a3 0 180 f2), (mp_arI E a4 0 90 f3), (mp_arI E a5 0 300 f4), (mp_arI E a6 0 300 f5), (mp_arI E a7 0 6 f6), (mp_arI E a8 0 6 f7), (mp_arI E a9 0 6 f8), (mp_arI E a10 3 1500 f9), (mp_arI E a11 0 3 f10)]) (bX10_areIsles_81 E a0 a1 a12 a13 a14 a15 a16 a2 a3 a17 a4 a5 a6 a18 a7 a8 a9 a10 a19 a20 a21 a22 a11 a23 a24 a25 f0 0 y1 y2 y3 y4 y5 y6 y7 y8 y9 y10 y11 y12 y13 y14 y15 y16 y17 y18 y19 y20 y21 l_y1 u_y1 l_y2 u_y2 l_y3 u_y3 l_y4 u_y4 l_y11 u_y11 l_y12 u_y12 l_y13 u_y13) mp_lkX10_306 0 rfl [0, 1] [2, 3, 4, 5, 6, 7, 8, 9, 10, 11] rfl rfl rfl rfl rfl ⟨(Nat.le_of_ble_eq_true rfl), (Nat.le_of_ble_eq_true rfl), (Nat.le_of_ble_eq_true rfl), (Nat.le_of_ble_eq_true rfl)⟩ (Nat.le_of_ble_eq_true rfl) (by first | exact mp_fd_ok mp_k_cX10_ring_ok (by decide +kernel) | decide +kernel) (fun v_1 w_2 h_3 => ?_)
  rcases h_3 with ⟨rfl, x_4, rfl⟩ | ⟨rfl, x_5, rfl⟩
  · skip
    let w3_ : va_W := [(mp_arI E a2 0 25 f1), (mp_arI E a3 0 180 f2), (mp_arI E a4 0 90 f3), (mp_arI E a5 0 300 f4), (mp_arI E a6 0 300 f5), (mp_arI E a7 0 6 f6), (mp_arI E a8 0 6 f7), (mp_arI E a9 0 6 f8), (mp_arI E a10 3 1500 f9), (mp_arI E a11 0 3 f10), (mp_ob10 a0 0 a12 a13 a14 a15 a16 y1 y2 y3 y4 y5 y6 y7 y8 y9 y10 a1 a2 a3 a17 a4 a5 a6 a18 y11 a7 a8 a9 a10 y12 y13 y14 a19 a20 y15 y16 a21 a22 a11 y17 y18 y19 y20 a23 a24 a25 y21), (mp_arI E a1 0 5 f0)]
    show mp_W E X 2 9 [(0, .ref a0), (1, .int x0)] [.int 0] w3_ 0 0
    refine mp_run mp_k_cX10_ring_ok hF mp_tabX10_ok [mp_h (.ifCond .eq 10) [19]] (by decide +kernel) ?_
    refine And.intro (fun _ => ?_) (fun c_6 => absurd c_6 (by decide))
    show mp_W E X 2 19 [(0, .ref a0), (1, .int x0)] [] w3_ 0 0
    refine mp_run mp_k_cX10_ring_ok hF mp_tabX10_ok [mp_c (.bipush (-2)) (-2)] (by decide +kernel) ?_
    show mp_W E X 2 21 [(0, .ref a0), (1, .int x0)] [.int (-2)] w3_ 0 0
    exact mp_iret hF hQ rfl rfl (Nat.le_of_ble_eq_true rfl) (Nat.le_of_ble_eq_true rfl) [10, 11, 0, 1, 2, 3, 4, 5, 6, 7, 8, 9] (w' := w2_) rfl rfl ⟨y11, f6, f7, f8, f9, f10, (-2), rfl, l_y11, u_y11, p13, rfl⟩ (by first | exact mp_fd_ok mp_k_cX10_ring_ok (by decide +kernel) | decide +kernel)
  · skip
    let w4_ : va_W := [(mp_arI E a2 0 25 f1), (mp_arI E a3 0 180 f2), (mp_arI E a4 0 90 f3), (mp_arI E a5 0 300 f4), (mp_arI E a6 0 300 f5), (mp_arI E a7 0 6 f6), (mp_arI E a8 0 6 f7), (mp_arI E a9 0 6 f8), (mp_arI E a10 3 1500 f9), (mp_arI E a11 0 3 f10), (mp_ob10 a0 0 a12 a13 a14 a15 a16 y1 y2 y3 y4 y5 y6 y7 y8 y9 y10 a1 a2 a3 a17 a4 a5 a6 a18 y11 a7 a8 a9 a10 y12 y13 y14 a19 a20 y15 y16 a21 a22 a11 y17 y18 y19 y20 a23 a24 a25 y21), (mp_arI E a1 0 5 f0)]
    show mp_W E X 2 9 [(0, .ref a0), (1, .int x0)] [.int 1] w4_ 0 0
    refine mp_run mp_k_cX10_ring_ok hF mp_tabX10_ok [mp_h (.ifCond .eq 10) [19]] (by decide +kernel) ?_
    refine And.intro (fun c_7 => absurd c_7 (by decide)) (fun _ => ?_)
    show mp_W E X 2 12 [(0, .ref a0), (1, .int x0)] [] w4_ 0 0
    refine mp_run mp_k_cX10_ring_ok hF mp_tabX10_ok [mp_i (.iload_n 1)] (by decide +kernel) ?_
    show mp_W E X 2 13 [(0, .ref a0), (1, .int x0)] [.int x0] w4_ 0 0
    refine mp_callS hF (As := [.int x0]) (rest := []) (wr := w4_) (bX10_isMoon_60 E x0) mp_lkX10_273 [] [0, 1, 2, 3, 4, 5, 6, 7, 8, 9, 10, 11] rfl rfl rfl rfl rfl ⟨(Nat.le_of_ble_eq_true rfl), (Nat.le_of_ble_eq_true rfl), (Nat.le_of_ble_eq_true rfl), (Nat.le_of_ble_eq_true rfl)⟩ (Nat.le_of_ble_eq_true rfl) (by first | exact mp_fd_ok mp_k_cX10_ring_ok (by decide +kernel) | decide +kernel) (fun v_8 w_9 h_10 => ?_)
    rcases h_10 with ⟨rfl, x_11, rfl⟩ | ⟨rfl, c_12, c_13, x_14, rfl⟩
    · skip
      show mp_W E X 2 16 [(0, .ref a0), (1, .int x0)] [.int 0] w4_ 0 0
      refine mp_run mp_k_cX10_ring_ok hF mp_tabX10_ok [mp_h (.ifCond .ne 6) [22]] (by decide +kernel) ?_
      refine And.intro (fun c_15 => absurd c_15 (by decide)) (fun _ => ?_)
      show mp_W E X 2 19 [(0, .ref a0), (1, .int x0)] [] w4_ 0 0
      refine mp_run mp_k_cX10_ring_ok hF mp_tabX10_ok [mp_c (.bipush (-2)) (-2)] (by decide +kernel) ?_
      show mp_W E X 2 21 [(0, .ref a0), (1, .int x0)] [.int (-2)] w4_ 0 0
      exact mp_iret hF hQ rfl rfl (Nat.le_of_ble_eq_true rfl) (Nat.le_of_ble_eq_true rfl) [10, 11, 0, 1, 2, 3, 4, 5, 6, 7, 8, 9] (w' := w2_) rfl rfl ⟨y11, f6, f7, f8, f9, f10, (-2), rfl, l_y11, u_y11, p13, rfl⟩ (by first | exact mp_fd_ok mp_k_cX10_ring_ok (by decide +kernel) | decide +kernel)
    · skip
      have c_12 : 0 ≤ x0.toInt := c_12
      have c_13 : x0.toInt ≤ 99 := c_13
      show mp_W E X 2 16 [(0, .ref a0), (1, .int x0)] [.int 1] w4_ 0 0
      refine mp_run mp_k_cX10_ring_ok hF mp_tabX10_ok [mp_h (.ifCond .ne 6) [22]] (by decide +kernel) ?_
      refine And.intro (fun _ => ?_) (fun c_16 => absurd c_16 (by decide))
      show mp_W E X 2 22 [(0, .ref a0), (1, .int x0)] [] w4_ 0 0
      refine mp_run mp_k_cX10_ring_ok hF mp_tabX10_ok [mp_i (.aload_n 0)] (by decide +kernel) ?_
      show mp_W E X 2 23 [(0, .ref a0), (1, .int x0)] [.ref a0] w4_ 0 0
      refine mp_callV hF (As := []) (rest := []) (wr := [(mp_arI E a5 0 300 f4), (mp_arI E a11 0 3 f10), (mp_arI E a1 0 5 f0)]) (bX10_lays_62 E a0 a2 a3 a4 a6 a7 a8 a9 a10 a12 a13 a14 a15 a16 a1 a17 a5 a18 a19 a20 a21 a22 a11 a23 a24 a25 f1 f2 f3 f5 f6 f7 f8 f9 0 y1 y2 y3 y4 y5 y6 y7 y8 y9 y10 y11 y12 y13 y14 y15 y16 y17 y18 y19 y20 y21 p0 p1 p2 p3 p4 p5 p6 p7 p12 p13 l_y1 u_y1 l_y2 u_y2 l_y3 u_y3 l_y4 u_y4 l_y11 u_y11 l_y12 u_y12 l_y13 u_y13 (by (first | exact q1 | omega))) mp_lkX10_288 10 rfl [10, 0, 1, 2, 4, 5, 6, 7, 8] [3, 9, 11] rfl rfl rfl rfl rfl ⟨(Nat.le_of_ble_eq_true rfl), (Nat.le_of_ble_eq_true rfl), (Nat.le_of_ble_eq_true rfl), (Nat.le_of_ble_eq_true rfl)⟩ (Nat.le_of_ble_eq_true rfl) (by first | exact mp_fd_ok mp_k_cX10_ring_ok (by decide +kernel) | decide +kernel) (fun v_17 w_18 h_19 => ?_)
      refine h_19.elim fun r_20 q_30 => q_30.elim fun g_21 q_31 => q_31.elim fun g_22 q_32 => q_32.elim fun g_23 q_33 => q_33.elim fun g_24 q_34 => q_34.elim fun e_35 q_36 => q_36.elim fun l_25 q_37 => q_37.elim fun u_26 q_38 => q_38.elim fun p_27 q_39 => q_39.elim fun x_28 q_40 => q_40.elim fun x_29 e_41 => ?_
      clear h_19 q_30 q_31 q_32 q_33 q_34 q_36 q_37 q_38 q_39 q_40
      subst e_35
      subst e_41
      let w5_ : va_W := [(mp_arI E a5 0 300 f4), (mp_arI E a11 0 3 f10), (mp_arI E a1 0 5 f0), (mp_ob10 a0 0 a12 a13 a14 a15 a16 y1 y2 y3 y4 y5 y6 y7 y8 y9 y10 a1 a2 a3 a17 a4 a5 a6 a18 r_20 a7 a8 a9 a10 y12 y13 y14 a19 a20 y15 y16 a21 a22 a11 y17 y18 y19 y20 a23 a24 a25 y21), (mp_arI E a2 0 25 f1), (mp_arI E a3 0 180 f2), (mp_arI E a4 0 90 f3), (mp_arI E a6 0 300 f5), (mp_arI E a7 0 6 g_21), (mp_arI E a8 0 6 g_22), (mp_arI E a9 0 6 g_23), (mp_arI E a10 3 1500 g_24)]
      show mp_W E X 2 26 [(0, .ref a0), (1, .int x0)] [] w5_ 0 0
      refine mp_run mp_k_cX10_ring_ok hF mp_tabX10_ok [mp_i (.aload_n 0), mp_i (.iload_n 1)] (by decide +kernel) ?_
      show mp_W E X 2 28 [(0, .ref a0), (1, .int x0)] [.int x0, .ref a0] w5_ 0 0
      refine mp_callV hF (As := [.int x0]) (rest := []) (wr := [(mp_arI E a1 0 5 f0), (mp_arI E a3 0 180 f2), (mp_arI E a6 0 300 f5), (mp_arI E a7 0 6 g_21), (mp_arI E a8 0 6 g_22), (mp_arI E a9 0 6 g_23)]) (bX10_ringOf_131 E a0 a2 a4 a5 a10 a11 a12 a13 a14 a15 a16 a1 a3 a17 a6 a18 a7 a8 a9 a19 a20 a21 a22 a23 a24 a25 f1 f3 f4 g_24 f10 0 y1 y2 y3 y4 y5 y6 y7 y8 y9 y10 r_20 y12 y13 y14 y15 y16 y17 y18 y19 y20 y21 x0 p0 p1 p2 p3 p4 p6 p7 p8 p9 p10 p11 (by (first | exact c_12 | omega)) (by (first | exact c_13 | omega)) l_y1 u_y1 l_y2 u_y2 l_y3 u_y3 l_y4 u_y4 l_25 u_26 l_y12 u_y12 l_y13 u_y13 (by first | assumption | (rw [rfl]; assumption))) mp_lkX10_409 3 rfl [3, 4, 6, 0, 11, 1] [2, 5, 7, 8, 9, 10] rfl rfl rfl rfl rfl ⟨(Nat.le_of_ble_eq_true rfl), (Nat.le_of_ble_eq_true rfl), (Nat.le_of_ble_eq_true rfl), (Nat.le_of_ble_eq_true rfl)⟩ (Nat.le_of_ble_eq_true rfl) (by first | exact mp_fd_ok mp_k_cX10_ring_ok (by decide +kernel) | decide +kernel) (fun v_42 w_43 h_44 => ?_)
      obtain ⟨g_45, r_46, rfl, rfl⟩ := h_44
      let w6_ : va_W := [(mp_arI E a1 0 5 f0), (mp_arI E a3 0 180 f2), (mp_arI E a6 0 300 f5), (mp_arI E a7 0 6 g_21), (mp_arI E a8 0 6 g_22), (mp_arI E a9 0 6 g_23), (mp_ob10 a0 0 a12 a13 a14 a15 a16 y1 y2 y3 y4 y5 y6 y7 y8 y9 y10 a1 a2 a3 a17 a4 a5 a6 a18 r_20 a7 a8 a9 a10 y12 y13 y14 a19 a20 y15 y16 a21 a22 a11 y17 y18 y19 y20 a23 a24 a25 y21), (mp_arI E a2 0 25 f1), (mp_arI E a4 0 90 f3), (mp_arI E a5 0 300 f4), (mp_arI E a10 3 1500 g_24), (mp_arI E a11 0 3 g_45)]
      show mp_W E X 2 31 [(0, .ref a0), (1, .int x0)] [.int r_46] w6_ 0 0
      exact mp_iret hF hQ rfl rfl (Nat.le_of_ble_eq_true rfl) (Nat.le_of_ble_eq_true rfl) [6, 0, 7, 1, 8, 9, 2, 3, 4, 5, 10, 11] (w' := [(mp_ob10 a0 0 a12 a13 a14 a15 a16 y1 y2 y3 y4 y5 y6 y7 y8 y9 y10 a1 a2 a3 a17 a4 a5 a6 a18 r_20 a7 a8 a9 a10 y12 y13 y14 a19 a20 y15 y16 a21 a22 a11 y17 y18 y19 y20 a23 a24 a25 y21), (mp_arI E a1 0 5 f0), (mp_arI E a2 0 25 f1), (mp_arI E a3 0 180 f2), (mp_arI E a4 0 90 f3), (mp_arI E a5 0 300 f4), (mp_arI E a6 0 300 f5), (mp_arI E a7 0 6 g_21), (mp_arI E a8 0 6 g_22), (mp_arI E a9 0 6 g_23), (mp_arI E a10 3 1500 g_24), (mp_arI E a11 0 3 g_45)]) rfl rfl ⟨r_20, g_21, g_22, g_23, g_24, g_45, r_46, rfl, l_25, u_26, p_27, rfl⟩ (by first | exact mp_fd_ok mp_k_cX10_ring_ok (by decide +kernel) | decide +kernel)
set_option maxHeartbeats 4000000 in
set_option maxRecDepth 100000 in
theorem bX10_ringed_133 (E : mp_E) (a0 a1 a2 a3 a4 a5 a6 a7 a8 a9 a10 a11 a12 a13 a14 a15 a16 a17 a18 a19 a20 a21 a22 a23 a24 a25 : Nat) (f0 : Nat → Int32) (f1 : Nat → Int32) (f2 : Nat → Int32) (f3 : Nat → Int32) (f4 : Nat → Int32) (f5 : Nat → Int32) (f6 : Nat → Int32) (f7 : Nat → Int32) (f8 : Nat → Int32) (f9 : Nat → Int32) (f10 : Nat → Int32) (y0 : Int32) (y1 : Int32) (y2 : Int32) (y3 : Int32) (y4 : Int32) (y5 : Int32) (y6 : Int64) (y7 : Int32) (y8 : Int32) (y9 : Int32) (y10 : Int32) (y11 : Int32) (y12 : Int32) (y13 : Int32) (y14 : Int32) (y15 : Int32) (y16 : Int32) (y17 : Int32) (y18 : Int32) (y19 : Int32) (y20 : Int32) (y21 : Int32) (x0 : Int32) (x1 : Int32) (p0 : mp_res f1 25 5 0 0 6) (p1 : mp_res f1 25 5 1 0 99) (p2 : mp_res f1 25 5 2 0 6) (p3 : mp_res f1 25 5 3 0 10) (p4 : mp_res f1 25 5 4 0 60) (p5 : mp_all f2 180 0 20) (p6 : mp_res f3 90 3 0 0 5) (p7 : mp_res f3 90 3 1 (-1) 99) (p8 : mp_res f4 300 6 0 0 5) (p9 : mp_res f4 300 6 1 0 5) (p10 : mp_res f4 300 6 3 0 99) (p11 : mp_res f4 300 6 4 0 1) (p12 : mp_actm f5) (p13 : mp_all f6 6 0 5) (l_y1 : 0 ≤ y1.toInt) (u_y1 : y1.toInt ≤ 1600) (l_y2 : 0 ≤ y2.toInt) (u_y2 : y2.toInt ≤ 1600) (l_y3 : 0 ≤ y3.toInt) (u_y3 : y3.toInt ≤ 4) (l_y4 : 0 ≤ y4.toInt) (u_y4 : y4.toInt ≤ 1600) (l_y11 : 0 ≤ y11.toInt) (u_y11 : y11.toInt ≤ 99) (l_y12 : 0 ≤ y12.toInt) (u_y12 : y12.toInt ≤ 5) (l_y13 : 0 ≤ y13.toInt) (u_y13 : y13.toInt ≤ 12) (q0 : mp_prm f4 (f1 3).toInt) (q1 : (f1 1).toInt + mp_k200 f5 (f1 4).toInt ≤ 99) : mp_Ct E yX10_ringed cX10_ringed 3 (some FieldType.int) 17 0 0 412 [.ref a0, .int x0, .int x1] [(mp_ob10 a0 y0 a12 a13 a14 a15 a16 y1 y2 y3 y4 y5 y6 y7 y8 y9 y10 a1 a2 a3 a17 a4 a5 a6 a18 y11 a7 a8 a9 a10 y12 y13 y14 a19 a20 y15 y16 a21 a22 a11 y17 y18 y19 y20 a23 a24 a25 y21), (mp_arI E a1 0 5 f0), (mp_arI E a2 0 25 f1), (mp_arI E a3 0 180 f2), (mp_arI E a4 0 90 f3), (mp_arI E a5 0 300 f4), (mp_arI E a6 0 300 f5), (mp_arI E a7 0 6 f6), (mp_arI E a8 0 6 f7), (mp_arI E a9 0 6 f8), (mp_arI E a10 3 1500 f9), (mp_arI E a11 0 3 f10)] (fun v w' => ∃ r1 : Int32, ∃ h2 : Nat → Int32, ∃ h3 : Nat → Int32, ∃ h4 : Nat → Int32, ∃ h5 : Nat → Int32, ∃ h6 : Nat → Int32, ∃ r7 : Int32, v = some (.int r7) ∧ 0 ≤ r1.toInt ∧ r1.toInt ≤ 99 ∧ mp_all h2 6 0 5 ∧ w' = [(mp_ob10 a0 0 a12 a13 a14 a15 a16 y1 y2 y3 y4 y5 y6 y7 y8 y9 y10 a1 a2 a3 a17 a4 a5 a6 a18 r1 a7 a8 a9 a10 y12 y13 y14 a19 a20 y15 y16 a21 a22 a11 y17 y18 y19 y20 a23 a24 a25 y21), (mp_arI E a1 0 5 f0), (mp_arI E a2 0 25 f1), (mp_arI E a3 0 180 f2), (mp_arI E a4 0 90 f3), (mp_arI E a5 0 300 f4), (mp_arI E a6 0 300 f5), (mp_arI E a7 0 6 h2), (mp_arI E a8 0 6 h3), (mp_arI E a9 0 6 h4), (mp_arI E a10 3 1500 h5), (mp_arI E a11 0 3 h6)]) := by
  refine mp_met false (by decide) (by decide) (Nat.le_of_ble_eq_true rfl) (fun X hF hQ => ?_)
  have hF : mp_F E X (RX10, cX10_ringed, 3, (17, 0, 0, 412), (some FieldType.int), false) := hF
  let w1_ : va_W := [(mp_ob10 a0 y0 a12 a13 a14 a15 a16 y1 y2 y3 y4 y5 y6 y7 y8 y9 y10 a1 a2 a3 a17 a4 a5 a6 a18 y11 a7 a8 a9 a10 y12 y13 y14 a19 a20 y15 y16 a21 a22 a11 y17 y18 y19 y20 a23 a24 a25 y21), (mp_arI E a1 0 5 f0), (mp_arI E a2 0 25 f1), (mp_arI E a3 0 180 f2), (mp_arI E a4 0 90 f3), (mp_arI E a5 0 300 f4), (mp_arI E a6 0 300 f5), (mp_arI E a7 0 6 f6), (mp_arI E a8 0 6 f7), (mp_arI E a9 0 6 f8), (mp_arI E a10 3 1500 f9), (mp_arI E a11 0 3 f10)]
  show mp_W E X 3 0 [(0, .ref a0), (1, .int x0), (2, .int x1)] [] w1_ 0 0
  refine mp_run mp_k_cX10_ringed_ok hF mp_tabX10_ok [mp_i (.aload_n 0), mp_c (.iconst 0) 0, mp_h (.putfield 92) [0, 0]] (by decide +kernel) ?_
  refine And.intro rfl (And.intro rfl (And.intro rfl (And.intro rfl (And.intro (Nat.le_of_ble_eq_true rfl) ?_))))
  let w2_ : va_W := [(mp_ob10 a0 0 a12 a13 a14 a15 a16 y1 y2 y3 y4 y5 y6 y7 y8 y9 y10 a1 a2 a3 a17 a4 a5 a6 a18 y11 a7 a8 a9 a10 y12 y13 y14 a19 a20 y15 y16 a21 a22 a11 y17 y18 y19 y20 a23 a24 a25 y21), (mp_arI E a1 0 5 f0), (mp_arI E a2 0 25 f1), (mp_arI E a3 0 180 f2), (mp_arI E a4 0 90 f3), (mp_arI E a5 0 300 f4), (mp_arI E a6 0 300 f5), (mp_arI E a7 0 6 f6), (mp_arI E a8 0 6 f7), (mp_arI E a9 0 6 f8), (mp_arI E a10 3 1500 f9), (mp_arI E a11 0 3 f10)]
  show mp_W E X 3 5 [(0, .ref a0), (1, .int x0), (2, .int x1)] [] w2_ 0 0
  refine mp_run mp_k_cX10_ringed_ok hF mp_tabX10_ok [mp_i (.aload_n 0)] (by decide +kernel) ?_
  show mp_W E X 3 6 [(0, .ref a0), (1, .int x0), (2, .int x1)] [.ref a0] w2_ 0 0
  refine mp_callV hF (As := []) (rest := []) (wr := [(mp_arI E a2 0 25 f1), (mp_arI E a3 0 180 f2), (mp_arI E a4 0 90 f3), (mp_arI E a5 0 300 f4), (mp_arI E a6 0 300 f5), (mp_arI E a7 0 6 f6), (mp_arI E a8 0 6 f7), (mp_arI E a9 0 6 f8), (mp_arI E a10 3 1500 f9), (mp_arI E a11 0 3 f10)]) (bX10_areIsles_81 E a0 a1 a12 a13 a14 a15 a16 a2 a3 a17 a4 a5 a6 a18 a7 a8 a9 a10 a19 a20 a21 a22 a11 a23 a24 a25 f0 0 y1 y2 y3 y4 y5 y6 y7 y8 y9 y10 y11 y12 y13 y14 y15 y16 y17 y18 y19 y20 y21 l_y1 u_y1 l_y2 u_y2 l_y3 u_y3 l_y4 u_y4 l_y11 u_y11 l_y12 u_y12 l_y13 u_y13) mp_lkX10_306 0 rfl [0, 1] [2, 3, 4, 5, 6, 7, 8, 9, 10, 11] rfl rfl rfl rfl rfl ⟨(Nat.le_of_ble_eq_true rfl), (Nat.le_of_ble_eq_true rfl), (Nat.le_of_ble_eq_true rfl), (Nat.le_of_ble_eq_true rfl)⟩ (Nat.le_of_ble_eq_true rfl) (by first | exact mp_fd_ok mp_k_cX10_ringed_ok (by decide +kernel) | decide +kernel) (fun v_1 w_2 h_3 => ?_)
  rcases h_3 with ⟨rfl, x_4, rfl⟩ | ⟨rfl, x_5, rfl⟩
  · skip
    let w3_ : va_W := [(mp_arI E a2 0 25 f1), (mp_arI E a3 0 180 f2), (mp_arI E a4 0 90 f3), (mp_arI E a5 0 300 f4), (mp_arI E a6 0 300 f5), (mp_arI E a7 0 6 f6), (mp_arI E a8 0 6 f7), (mp_arI E a9 0 6 f8), (mp_arI E a10 3 1500 f9), (mp_arI E a11 0 3 f10), (mp_ob10 a0 0 a12 a13 a14 a15 a16 y1 y2 y3 y4 y5 y6 y7 y8 y9 y10 a1 a2 a3 a17 a4 a5 a6 a18 y11 a7 a8 a9 a10 y12 y13 y14 a19 a20 y15 y16 a21 a22 a11 y17 y18 y19 y20 a23 a24 a25 y21), (mp_arI E a1 0 5 f0)]
    show mp_W E X 3 9 [(0, .ref a0), (1, .int x0), (2, .int x1)] [.int 0] w3_ 0 0
    refine mp_run mp_k_cX10_ringed_ok hF mp_tabX10_ok [mp_h (.ifCond .eq 10) [19]] (by decide +kernel) ?_
    refine And.intro (fun _ => ?_) (fun c_6 => absurd c_6 (by decide))
    show mp_W E X 3 19 [(0, .ref a0), (1, .int x0), (2, .int x1)] [] w3_ 0 0
    refine mp_run mp_k_cX10_ringed_ok hF mp_tabX10_ok [mp_c (.bipush (-2)) (-2)] (by decide +kernel) ?_
    show mp_W E X 3 21 [(0, .ref a0), (1, .int x0), (2, .int x1)] [.int (-2)] w3_ 0 0
    exact mp_iret hF hQ rfl rfl (Nat.le_of_ble_eq_true rfl) (Nat.le_of_ble_eq_true rfl) [10, 11, 0, 1, 2, 3, 4, 5, 6, 7, 8, 9] (w' := w2_) rfl rfl ⟨y11, f6, f7, f8, f9, f10, (-2), rfl, l_y11, u_y11, p13, rfl⟩ (by first | exact mp_fd_ok mp_k_cX10_ringed_ok (by decide +kernel) | decide +kernel)
  · skip
    let w4_ : va_W := [(mp_arI E a2 0 25 f1), (mp_arI E a3 0 180 f2), (mp_arI E a4 0 90 f3), (mp_arI E a5 0 300 f4), (mp_arI E a6 0 300 f5), (mp_arI E a7 0 6 f6), (mp_arI E a8 0 6 f7), (mp_arI E a9 0 6 f8), (mp_arI E a10 3 1500 f9), (mp_arI E a11 0 3 f10), (mp_ob10 a0 0 a12 a13 a14 a15 a16 y1 y2 y3 y4 y5 y6 y7 y8 y9 y10 a1 a2 a3 a17 a4 a5 a6 a18 y11 a7 a8 a9 a10 y12 y13 y14 a19 a20 y15 y16 a21 a22 a11 y17 y18 y19 y20 a23 a24 a25 y21), (mp_arI E a1 0 5 f0)]
    show mp_W E X 3 9 [(0, .ref a0), (1, .int x0), (2, .int x1)] [.int 1] w4_ 0 0
    refine mp_run mp_k_cX10_ringed_ok hF mp_tabX10_ok [mp_h (.ifCond .eq 10) [19]] (by decide +kernel) ?_
    refine And.intro (fun c_7 => absurd c_7 (by decide)) (fun _ => ?_)
    show mp_W E X 3 12 [(0, .ref a0), (1, .int x0), (2, .int x1)] [] w4_ 0 0
    refine mp_run mp_k_cX10_ringed_ok hF mp_tabX10_ok [mp_i (.iload_n 1)] (by decide +kernel) ?_
    show mp_W E X 3 13 [(0, .ref a0), (1, .int x0), (2, .int x1)] [.int x0] w4_ 0 0
    refine mp_callS hF (As := [.int x0]) (rest := []) (wr := w4_) (bX10_isMoon_60 E x0) mp_lkX10_273 [] [0, 1, 2, 3, 4, 5, 6, 7, 8, 9, 10, 11] rfl rfl rfl rfl rfl ⟨(Nat.le_of_ble_eq_true rfl), (Nat.le_of_ble_eq_true rfl), (Nat.le_of_ble_eq_true rfl), (Nat.le_of_ble_eq_true rfl)⟩ (Nat.le_of_ble_eq_true rfl) (by first | exact mp_fd_ok mp_k_cX10_ringed_ok (by decide +kernel) | decide +kernel) (fun v_8 w_9 h_10 => ?_)
    rcases h_10 with ⟨rfl, x_11, rfl⟩ | ⟨rfl, c_12, c_13, x_14, rfl⟩
    · skip
      show mp_W E X 3 16 [(0, .ref a0), (1, .int x0), (2, .int x1)] [.int 0] w4_ 0 0
      refine mp_run mp_k_cX10_ringed_ok hF mp_tabX10_ok [mp_h (.ifCond .ne 6) [22]] (by decide +kernel) ?_
      refine And.intro (fun c_15 => absurd c_15 (by decide)) (fun _ => ?_)
      show mp_W E X 3 19 [(0, .ref a0), (1, .int x0), (2, .int x1)] [] w4_ 0 0
      refine mp_run mp_k_cX10_ringed_ok hF mp_tabX10_ok [mp_c (.bipush (-2)) (-2)] (by decide +kernel) ?_
      show mp_W E X 3 21 [(0, .ref a0), (1, .int x0), (2, .int x1)] [.int (-2)] w4_ 0 0
      exact mp_iret hF hQ rfl rfl (Nat.le_of_ble_eq_true rfl) (Nat.le_of_ble_eq_true rfl) [10, 11, 0, 1, 2, 3, 4, 5, 6, 7, 8, 9] (w' := w2_) rfl rfl ⟨y11, f6, f7, f8, f9, f10, (-2), rfl, l_y11, u_y11, p13, rfl⟩ (by first | exact mp_fd_ok mp_k_cX10_ringed_ok (by decide +kernel) | decide +kernel)
    · skip
      have c_12 : 0 ≤ x0.toInt := c_12
      have c_13 : x0.toInt ≤ 99 := c_13
      show mp_W E X 3 16 [(0, .ref a0), (1, .int x0), (2, .int x1)] [.int 1] w4_ 0 0
      refine mp_run mp_k_cX10_ringed_ok hF mp_tabX10_ok [mp_h (.ifCond .ne 6) [22]] (by decide +kernel) ?_
      refine And.intro (fun _ => ?_) (fun c_16 => absurd c_16 (by decide))
      show mp_W E X 3 22 [(0, .ref a0), (1, .int x0), (2, .int x1)] [] w4_ 0 0
      refine mp_run mp_k_cX10_ringed_ok hF mp_tabX10_ok [mp_i (.aload_n 0)] (by decide +kernel) ?_
      show mp_W E X 3 23 [(0, .ref a0), (1, .int x0), (2, .int x1)] [.ref a0] w4_ 0 0
      refine mp_callV hF (As := []) (rest := []) (wr := [(mp_arI E a5 0 300 f4), (mp_arI E a11 0 3 f10), (mp_arI E a1 0 5 f0)]) (bX10_lays_62 E a0 a2 a3 a4 a6 a7 a8 a9 a10 a12 a13 a14 a15 a16 a1 a17 a5 a18 a19 a20 a21 a22 a11 a23 a24 a25 f1 f2 f3 f5 f6 f7 f8 f9 0 y1 y2 y3 y4 y5 y6 y7 y8 y9 y10 y11 y12 y13 y14 y15 y16 y17 y18 y19 y20 y21 p0 p1 p2 p3 p4 p5 p6 p7 p12 p13 l_y1 u_y1 l_y2 u_y2 l_y3 u_y3 l_y4 u_y4 l_y11 u_y11 l_y12 u_y12 l_y13 u_y13 (by (first | exact q1 | omega))) mp_lkX10_288 10 rfl [10, 0, 1, 2, 4, 5, 6, 7, 8] [3, 9, 11] rfl rfl rfl rfl rfl ⟨(Nat.le_of_ble_eq_true rfl), (Nat.le_of_ble_eq_true rfl), (Nat.le_of_ble_eq_true rfl), (Nat.le_of_ble_eq_true rfl)⟩ (Nat.le_of_ble_eq_true rfl) (by first | exact mp_fd_ok mp_k_cX10_ringed_ok (by decide +kernel) | decide +kernel) (fun v_17 w_18 h_19 => ?_)
      refine h_19.elim fun r_20 q_30 => q_30.elim fun g_21 q_31 => q_31.elim fun g_22 q_32 => q_32.elim fun g_23 q_33 => q_33.elim fun g_24 q_34 => q_34.elim fun e_35 q_36 => q_36.elim fun l_25 q_37 => q_37.elim fun u_26 q_38 => q_38.elim fun p_27 q_39 => q_39.elim fun x_28 q_40 => q_40.elim fun x_29 e_41 => ?_
      clear h_19 q_30 q_31 q_32 q_33 q_34 q_36 q_37 q_38 q_39 q_40
      subst e_35
      subst e_41
      let w5_ : va_W := [(mp_arI E a5 0 300 f4), (mp_arI E a11 0 3 f10), (mp_arI E a1 0 5 f0), (mp_ob10 a0 0 a12 a13 a14 a15 a16 y1 y2 y3 y4 y5 y6 y7 y8 y9 y10 a1 a2 a3 a17 a4 a5 a6 a18 r_20 a7 a8 a9 a10 y12 y13 y14 a19 a20 y15 y16 a21 a22 a11 y17 y18 y19 y20 a23 a24 a25 y21), (mp_arI E a2 0 25 f1), (mp_arI E a3 0 180 f2), (mp_arI E a4 0 90 f3), (mp_arI E a6 0 300 f5), (mp_arI E a7 0 6 g_21), (mp_arI E a8 0 6 g_22), (mp_arI E a9 0 6 g_23), (mp_arI E a10 3 1500 g_24)]
      show mp_W E X 3 26 [(0, .ref a0), (1, .int x0), (2, .int x1)] [] w5_ 0 0
      refine mp_run mp_k_cX10_ringed_ok hF mp_tabX10_ok [mp_i (.aload_n 0), mp_i (.iload_n 1)] (by decide +kernel) ?_
      show mp_W E X 3 28 [(0, .ref a0), (1, .int x0), (2, .int x1)] [.int x0, .ref a0] w5_ 0 0
      refine mp_callV hF (As := [.int x0]) (rest := []) (wr := [(mp_arI E a1 0 5 f0), (mp_arI E a3 0 180 f2), (mp_arI E a6 0 300 f5), (mp_arI E a7 0 6 g_21), (mp_arI E a8 0 6 g_22), (mp_arI E a9 0 6 g_23)]) (bX10_ringOf_131 E a0 a2 a4 a5 a10 a11 a12 a13 a14 a15 a16 a1 a3 a17 a6 a18 a7 a8 a9 a19 a20 a21 a22 a23 a24 a25 f1 f3 f4 g_24 f10 0 y1 y2 y3 y4 y5 y6 y7 y8 y9 y10 r_20 y12 y13 y14 y15 y16 y17 y18 y19 y20 y21 x0 p0 p1 p2 p3 p4 p6 p7 p8 p9 p10 p11 (by (first | exact c_12 | omega)) (by (first | exact c_13 | omega)) l_y1 u_y1 l_y2 u_y2 l_y3 u_y3 l_y4 u_y4 l_25 u_26 l_y12 u_y12 l_y13 u_y13 (by first | assumption | (rw [rfl]; assumption))) mp_lkX10_409 3 rfl [3, 4, 6, 0, 11, 1] [2, 5, 7, 8, 9, 10] rfl rfl rfl rfl rfl ⟨(Nat.le_of_ble_eq_true rfl), (Nat.le_of_ble_eq_true rfl), (Nat.le_of_ble_eq_true rfl), (Nat.le_of_ble_eq_true rfl)⟩ (Nat.le_of_ble_eq_true rfl) (by first | exact mp_fd_ok mp_k_cX10_ringed_ok (by decide +kernel) | decide +kernel) (fun v_42 w_43 h_44 => ?_)
      obtain ⟨g_45, r_46, rfl, rfl⟩ := h_44
      let w6_ : va_W := [(mp_arI E a1 0 5 f0), (mp_arI E a3 0 180 f2), (mp_arI E a6 0 300 f5), (mp_arI E a7 0 6 g_21), (mp_arI E a8 0 6 g_22), (mp_arI E a9 0 6 g_23), (mp_ob10 a0 0 a12 a13 a14 a15 a16 y1 y2 y3 y4 y5 y6 y7 y8 y9 y10 a1 a2 a3 a17 a4 a5 a6 a18 r_20 a7 a8 a9 a10 y12 y13 y14 a19 a20 y15 y16 a21 a22 a11 y17 y18 y19 y20 a23 a24 a25 y21), (mp_arI E a2 0 25 f1), (mp_arI E a4 0 90 f3), (mp_arI E a5 0 300 f4), (mp_arI E a10 3 1500 g_24), (mp_arI E a11 0 3 g_45)]
      show mp_W E X 3 31 [(0, .ref a0), (1, .int x0), (2, .int x1)] [.int r_46] w6_ 0 0
      refine mp_run mp_k_cX10_ringed_ok hF mp_tabX10_ok [mp_h (.ifCond .le 24) [55]] (by decide +kernel) ?_
      refine And.intro (fun c_47 => ?_) (fun c_47 => ?_)
      · have c_47 : r_46.toInt ≤ 0 := c_47
        show mp_W E X 3 55 [(0, .ref a0), (1, .int x0), (2, .int x1)] [] w6_ 0 0
        refine mp_run mp_k_cX10_ringed_ok hF mp_tabX10_ok [mp_c (.iconst (-1)) (-1)] (by decide +kernel) ?_
        show mp_W E X 3 56 [(0, .ref a0), (1, .int x0), (2, .int x1)] [.int (-1)] w6_ 0 0
        exact mp_iret hF hQ rfl rfl (Nat.le_of_ble_eq_true rfl) (Nat.le_of_ble_eq_true rfl) [6, 0, 7, 1, 8, 9, 2, 3, 4, 5, 10, 11] (w' := [(mp_ob10 a0 0 a12 a13 a14 a15 a16 y1 y2 y3 y4 y5 y6 y7 y8 y9 y10 a1 a2 a3 a17 a4 a5 a6 a18 r_20 a7 a8 a9 a10 y12 y13 y14 a19 a20 y15 y16 a21 a22 a11 y17 y18 y19 y20 a23 a24 a25 y21), (mp_arI E a1 0 5 f0), (mp_arI E a2 0 25 f1), (mp_arI E a3 0 180 f2), (mp_arI E a4 0 90 f3), (mp_arI E a5 0 300 f4), (mp_arI E a6 0 300 f5), (mp_arI E a7 0 6 g_21), (mp_arI E a8 0 6 g_22), (mp_arI E a9 0 6 g_23), (mp_arI E a10 3 1500 g_24), (mp_arI E a11 0 3 g_45)]) rfl rfl ⟨r_20, g_21, g_22, g_23, g_24, g_45, (-1), rfl, l_25, u_26, p_27, rfl⟩ (by first | exact mp_fd_ok mp_k_cX10_ringed_ok (by decide +kernel) | decide +kernel)
      · have c_47 : 0 < r_46.toInt := c_47
        show mp_W E X 3 34 [(0, .ref a0), (1, .int x0), (2, .int x1)] [] w6_ 0 0
        refine mp_run mp_k_cX10_ringed_ok hF mp_tabX10_ok [mp_i (.iload_n 2), mp_i .i2l, mp_cl (.lconst 0) 0, mp_cl (.ldc2_w 260) 2] (by decide +kernel) ?_
        intro z_48 h_49
        have e_50 : z_48.toInt = x1.toInt := mp_i2l h_49
        show mp_W E X 3 40 [(0, .ref a0), (1, .int x0), (2, .int x1)] [.long 2, .long 0, .long z_48] w6_ 0 0
        refine mp_callS hF (As := [.long z_48, .long 0, .long 2]) (rest := []) (wr := w6_) (bX10_in_0 E z_48 0 2) mp_lkX10_97 [] [0, 1, 2, 3, 4, 5, 6, 7, 8, 9, 10, 11] rfl rfl rfl rfl rfl ⟨(Nat.le_of_ble_eq_true rfl), (Nat.le_of_ble_eq_true rfl), (Nat.le_of_ble_eq_true rfl), (Nat.le_of_ble_eq_true rfl)⟩ (Nat.le_of_ble_eq_true rfl) (by first | exact mp_fd_ok mp_k_cX10_ringed_ok (by decide +kernel) | decide +kernel) (fun v_51 w_52 h_53 => ?_)
        rcases h_53 with ⟨rfl, x_54, rfl⟩ | ⟨rfl, c_55, c_56, rfl⟩
        · skip
          have i_57 : (0 : Int64).toInt = 0 := by decide
          have i_58 : (2 : Int64).toInt = 2 := by decide
          show mp_W E X 3 43 [(0, .ref a0), (1, .int x0), (2, .int x1)] [.int 0] w6_ 0 0
          refine mp_run mp_k_cX10_ringed_ok hF mp_tabX10_ok [mp_h (.ifCond .eq 12) [55]] (by decide +kernel) ?_
          refine And.intro (fun _ => ?_) (fun c_59 => absurd c_59 (by decide))
          show mp_W E X 3 55 [(0, .ref a0), (1, .int x0), (2, .int x1)] [] w6_ 0 0
          refine mp_run mp_k_cX10_ringed_ok hF mp_tabX10_ok [mp_c (.iconst (-1)) (-1)] (by decide +kernel) ?_
          show mp_W E X 3 56 [(0, .ref a0), (1, .int x0), (2, .int x1)] [.int (-1)] w6_ 0 0
          exact mp_iret hF hQ rfl rfl (Nat.le_of_ble_eq_true rfl) (Nat.le_of_ble_eq_true rfl) [6, 0, 7, 1, 8, 9, 2, 3, 4, 5, 10, 11] (w' := [(mp_ob10 a0 0 a12 a13 a14 a15 a16 y1 y2 y3 y4 y5 y6 y7 y8 y9 y10 a1 a2 a3 a17 a4 a5 a6 a18 r_20 a7 a8 a9 a10 y12 y13 y14 a19 a20 y15 y16 a21 a22 a11 y17 y18 y19 y20 a23 a24 a25 y21), (mp_arI E a1 0 5 f0), (mp_arI E a2 0 25 f1), (mp_arI E a3 0 180 f2), (mp_arI E a4 0 90 f3), (mp_arI E a5 0 300 f4), (mp_arI E a6 0 300 f5), (mp_arI E a7 0 6 g_21), (mp_arI E a8 0 6 g_22), (mp_arI E a9 0 6 g_23), (mp_arI E a10 3 1500 g_24), (mp_arI E a11 0 3 g_45)]) rfl rfl ⟨r_20, g_21, g_22, g_23, g_24, g_45, (-1), rfl, l_25, u_26, p_27, rfl⟩ (by first | exact mp_fd_ok mp_k_cX10_ringed_ok (by decide +kernel) | decide +kernel)
        · skip
          have c_55 : 0 ≤ z_48.toInt := c_55
          have c_56 : z_48.toInt ≤ 2 := c_56
          have i_60 : (0 : Int64).toInt = 0 := by decide
          have i_61 : (2 : Int64).toInt = 2 := by decide
          show mp_W E X 3 43 [(0, .ref a0), (1, .int x0), (2, .int x1)] [.int 1] w6_ 0 0
          refine mp_run mp_k_cX10_ringed_ok hF mp_tabX10_ok [mp_h (.ifCond .eq 12) [55]] (by decide +kernel) ?_
          refine And.intro (fun c_62 => absurd c_62 (by decide)) (fun _ => ?_)
          show mp_W E X 3 46 [(0, .ref a0), (1, .int x0), (2, .int x1)] [] w6_ 0 0
          refine mp_run mp_k_cX10_ringed_ok hF mp_tabX10_ok [mp_i (.aload_n 0), mp_h (.getfield 80) [38, 6], mp_i (.iload_n 2), mp_h .iaload [11], mp_h (.goto 4) [56]] (by decide +kernel) ?_
          refine And.intro rfl (And.intro rfl ?_)
          refine And.intro rfl (And.intro rfl (And.intro (vp_in_iff.mpr (by (first | exact mp_o1734 c_55 e_50 c_56 | omega))) ?_))
          intro z_63 h_64
          show mp_W E X 3 56 [(0, .ref a0), (1, .int x0), (2, .int x1)] [.int z_63] w6_ 0 0
          exact mp_iret hF hQ rfl rfl (Nat.le_of_ble_eq_true rfl) (Nat.le_of_ble_eq_true rfl) [6, 0, 7, 1, 8, 9, 2, 3, 4, 5, 10, 11] (w' := [(mp_ob10 a0 0 a12 a13 a14 a15 a16 y1 y2 y3 y4 y5 y6 y7 y8 y9 y10 a1 a2 a3 a17 a4 a5 a6 a18 r_20 a7 a8 a9 a10 y12 y13 y14 a19 a20 y15 y16 a21 a22 a11 y17 y18 y19 y20 a23 a24 a25 y21), (mp_arI E a1 0 5 f0), (mp_arI E a2 0 25 f1), (mp_arI E a3 0 180 f2), (mp_arI E a4 0 90 f3), (mp_arI E a5 0 300 f4), (mp_arI E a6 0 300 f5), (mp_arI E a7 0 6 g_21), (mp_arI E a8 0 6 g_22), (mp_arI E a9 0 6 g_23), (mp_arI E a10 3 1500 g_24), (mp_arI E a11 0 3 g_45)]) rfl rfl ⟨r_20, g_21, g_22, g_23, g_24, g_45, z_63, rfl, l_25, u_26, p_27, rfl⟩ (by first | exact mp_fd_ok mp_k_cX10_ringed_ok (by decide +kernel) | decide +kernel)
set_option maxHeartbeats 4000000 in
set_option maxRecDepth 100000 in
theorem bX10_strikes_134 (E : mp_E) (a0 a1 a2 a3 a4 a5 a6 a7 a8 a9 a10 a11 a12 a13 a14 a15 a16 a17 a18 a19 a20 a21 a22 a23 a24 a25 : Nat) (f0 : Nat → Int32) (f1 : Nat → Int32) (f2 : Nat → Int32) (f3 : Nat → Int32) (f4 : Nat → Int32) (f5 : Nat → Int32) (f6 : Nat → Int32) (f7 : Nat → Int32) (f8 : Nat → Int32) (y0 : Int32) (y1 : Int32) (y2 : Int32) (y3 : Int32) (y4 : Int32) (y5 : Int32) (y6 : Int64) (y7 : Int32) (y8 : Int32) (y9 : Int32) (y10 : Int32) (y11 : Int32) (y12 : Int32) (y13 : Int32) (y14 : Int32) (y15 : Int32) (y16 : Int32) (y17 : Int32) (y18 : Int32) (y19 : Int32) (y20 : Int32) (y21 : Int32) (x0 : Int32) (x1 : Int32) (x2 : Int32) (x3 : Int32) (p0 : mp_res f0 25 5 0 0 6) (p1 : mp_res f0 25 5 1 0 99) (p2 : mp_res f0 25 5 2 0 6) (p3 : mp_res f0 25 5 3 0 10) (p4 : mp_res f0 25 5 4 0 60) (p5 : mp_all f1 180 0 20) (p6 : mp_res f2 90 3 0 0 5) (p7 : mp_res f2 90 3 1 (-1) 99) (p8 : mp_res f3 300 6 0 0 5) (p9 : mp_res f3 300 6 1 0 5) (p10 : mp_res f3 300 6 3 0 99) (p11 : mp_res f3 300 6 4 0 1) (p12 : mp_actm f4) (p13 : mp_all f5 6 0 5) (l_y1 : 0 ≤ y1.toInt) (u_y1 : y1.toInt ≤ 1600) (l_y2 : 0 ≤ y2.toInt) (u_y2 : y2.toInt ≤ 1600) (l_y3 : 0 ≤ y3.toInt) (u_y3 : y3.toInt ≤ 4) (l_y4 : 0 ≤ y4.toInt) (u_y4 : y4.toInt ≤ 1600) (l_y11 : 0 ≤ y11.toInt) (u_y11 : y11.toInt ≤ 99) (l_y12 : 0 ≤ y12.toInt) (u_y12 : y12.toInt ≤ 5) (l_y13 : 0 ≤ y13.toInt) (u_y13 : y13.toInt ≤ 12) (q0 : mp_prm f3 (f0 3).toInt) (q1 : (f0 1).toInt + mp_k200 f4 (f0 4).toInt ≤ 99) : mp_Ct E yX10_strikes cX10_strikes 5 (some FieldType.int) 16 0 0 387 [.ref a0, .int x0, .int x1, .int x2, .int x3] [(mp_ob10 a0 y0 a10 a11 a12 a13 a14 y1 y2 y3 y4 y5 y6 y7 y8 y9 y10 a15 a1 a2 a16 a3 a4 a5 a17 y11 a6 a7 a8 a9 y12 y13 y14 a18 a19 y15 y16 a20 a21 a22 y17 y18 y19 y20 a23 a24 a25 y21), (mp_arI E a1 0 25 f0), (mp_arI E a2 0 180 f1), (mp_arI E a3 0 90 f2), (mp_arI E a4 0 300 f3), (mp_arI E a5 0 300 f4), (mp_arI E a6 0 6 f5), (mp_arI E a7 0 6 f6), (mp_arI E a8 0 6 f7), (mp_arI E a9 3 1500 f8)] (fun v w' => ∃ r1 : Int32, ∃ h2 : Nat → Int32, ∃ h3 : Nat → Int32, ∃ h4 : Nat → Int32, ∃ h5 : Nat → Int32, ∃ r6 : Int32, v = some (.int r6) ∧ 0 ≤ r1.toInt ∧ r1.toInt ≤ 99 ∧ mp_all h2 6 0 5 ∧ w' = [(mp_ob10 a0 0 a10 a11 a12 a13 a14 y1 y2 y3 y4 y5 y6 y7 y8 y9 y10 a15 a1 a2 a16 a3 a4 a5 a17 r1 a6 a7 a8 a9 y12 y13 y14 a18 a19 y15 y16 a20 a21 a22 y17 y18 y19 y20 a23 a24 a25 y21), (mp_arI E a1 0 25 f0), (mp_arI E a2 0 180 f1), (mp_arI E a3 0 90 f2), (mp_arI E a4 0 300 f3), (mp_arI E a5 0 300 f4), (mp_arI E a6 0 6 h2), (mp_arI E a7 0 6 h3), (mp_arI E a8 0 6 h4), (mp_arI E a9 3 1500 h5)]) := by
  refine mp_met false (by decide) (by decide) (Nat.le_of_ble_eq_true rfl) (fun X hF hQ => ?_)
  have hF : mp_F E X (RX10, cX10_strikes, 5, (16, 0, 0, 387), (some FieldType.int), false) := hF
  let w1_ : va_W := [(mp_ob10 a0 y0 a10 a11 a12 a13 a14 y1 y2 y3 y4 y5 y6 y7 y8 y9 y10 a15 a1 a2 a16 a3 a4 a5 a17 y11 a6 a7 a8 a9 y12 y13 y14 a18 a19 y15 y16 a20 a21 a22 y17 y18 y19 y20 a23 a24 a25 y21), (mp_arI E a1 0 25 f0), (mp_arI E a2 0 180 f1), (mp_arI E a3 0 90 f2), (mp_arI E a4 0 300 f3), (mp_arI E a5 0 300 f4), (mp_arI E a6 0 6 f5), (mp_arI E a7 0 6 f6), (mp_arI E a8 0 6 f7), (mp_arI E a9 3 1500 f8)]
  show mp_W E X 5 0 [(0, .ref a0), (1, .int x0), (2, .int x1), (3, .int x2), (4, .int x3)] [] w1_ 0 0
  refine mp_run mp_k_cX10_strikes_ok hF mp_tabX10_ok [mp_i (.aload_n 0), mp_c (.iconst 0) 0, mp_h (.putfield 92) [0, 0]] (by decide +kernel) ?_
  refine And.intro rfl (And.intro rfl (And.intro rfl (And.intro rfl (And.intro (Nat.le_of_ble_eq_true rfl) ?_))))
  let w2_ : va_W := [(mp_ob10 a0 0 a10 a11 a12 a13 a14 y1 y2 y3 y4 y5 y6 y7 y8 y9 y10 a15 a1 a2 a16 a3 a4 a5 a17 y11 a6 a7 a8 a9 y12 y13 y14 a18 a19 y15 y16 a20 a21 a22 y17 y18 y19 y20 a23 a24 a25 y21), (mp_arI E a1 0 25 f0), (mp_arI E a2 0 180 f1), (mp_arI E a3 0 90 f2), (mp_arI E a4 0 300 f3), (mp_arI E a5 0 300 f4), (mp_arI E a6 0 6 f5), (mp_arI E a7 0 6 f6), (mp_arI E a8 0 6 f7), (mp_arI E a9 3 1500 f8)]
  show mp_W E X 5 5 [(0, .ref a0), (1, .int x0), (2, .int x1), (3, .int x2), (4, .int x3)] [] w2_ 0 0
  refine mp_run mp_k_cX10_strikes_ok hF mp_tabX10_ok [mp_i (.aload_n 0), mp_i (.iload_n 1), mp_i (.iload_n 2)] (by decide +kernel) ?_
  show mp_W E X 5 8 [(0, .ref a0), (1, .int x0), (2, .int x1), (3, .int x2), (4, .int x3)] [.int x1, .int x0, .ref a0] w2_ 0 0
  refine mp_callV hF (As := [.int x0, .int x1]) (rest := []) (wr := [(mp_arI E a2 0 180 f1), (mp_arI E a3 0 90 f2), (mp_arI E a4 0 300 f3), (mp_arI E a5 0 300 f4), (mp_arI E a6 0 6 f5), (mp_arI E a7 0 6 f6), (mp_arI E a8 0 6 f7), (mp_arI E a9 3 1500 f8)]) (bX10_areTwo_75 E a0 a1 a10 a11 a12 a13 a14 a15 a2 a16 a3 a4 a5 a17 a6 a7 a8 a9 a18 a19 a20 a21 a22 a23 a24 a25 f0 0 y1 y2 y3 y4 y5 y6 y7 y8 y9 y10 y11 y12 y13 y14 y15 y16 y17 y18 y19 y20 y21 x0 x1 p0 p1 p2 p3 p4 l_y1 u_y1 l_y2 u_y2 l_y3 u_y3 l_y4 u_y4 l_y11 u_y11 l_y12 u_y12 l_y13 u_y13) mp_lkX10_294 0 rfl [0, 1] [2, 3, 4, 5, 6, 7, 8, 9] rfl rfl rfl rfl rfl ⟨(Nat.le_of_ble_eq_true rfl), (Nat.le_of_ble_eq_true rfl), (Nat.le_of_ble_eq_true rfl), (Nat.le_of_ble_eq_true rfl)⟩ (Nat.le_of_ble_eq_true rfl) (by first | exact mp_fd_ok mp_k_cX10_strikes_ok (by decide +kernel) | decide +kernel) (fun v_1 w_2 h_3 => ?_)
  refine h_3.elim (fun q_13 => ?_) (fun q_14 => ?_)
  · skip
    refine q_13.elim fun e_15 q_16 => q_16.elim fun x_4 e_17 => ?_
    clear h_3 q_13 q_16
    subst e_15
    subst e_17
    let w3_ : va_W := [(mp_arI E a2 0 180 f1), (mp_arI E a3 0 90 f2), (mp_arI E a4 0 300 f3), (mp_arI E a5 0 300 f4), (mp_arI E a6 0 6 f5), (mp_arI E a7 0 6 f6), (mp_arI E a8 0 6 f7), (mp_arI E a9 3 1500 f8), (mp_ob10 a0 0 a10 a11 a12 a13 a14 y1 y2 y3 y4 y5 y6 y7 y8 y9 y10 a15 a1 a2 a16 a3 a4 a5 a17 y11 a6 a7 a8 a9 y12 y13 y14 a18 a19 y15 y16 a20 a21 a22 y17 y18 y19 y20 a23 a24 a25 y21), (mp_arI E a1 0 25 f0)]
    show mp_W E X 5 11 [(0, .ref a0), (1, .int x0), (2, .int x1), (3, .int x2), (4, .int x3)] [.int 0] w3_ 0 0
    refine mp_run mp_k_cX10_strikes_ok hF mp_tabX10_ok [mp_h (.ifCond .eq 25) [36]] (by decide +kernel) ?_
    refine And.intro (fun _ => ?_) (fun c_18 => absurd c_18 (by decide))
    show mp_W E X 5 36 [(0, .ref a0), (1, .int x0), (2, .int x1), (3, .int x2), (4, .int x3)] [] w3_ 0 0
    refine mp_run mp_k_cX10_strikes_ok hF mp_tabX10_ok [mp_c (.bipush (-2)) (-2)] (by decide +kernel) ?_
    show mp_W E X 5 38 [(0, .ref a0), (1, .int x0), (2, .int x1), (3, .int x2), (4, .int x3)] [.int (-2)] w3_ 0 0
    exact mp_iret hF hQ rfl rfl (Nat.le_of_ble_eq_true rfl) (Nat.le_of_ble_eq_true rfl) [8, 9, 0, 1, 2, 3, 4, 5, 6, 7] (w' := w2_) rfl rfl ⟨y11, f5, f6, f7, f8, (-2), rfl, l_y11, u_y11, p13, rfl⟩ (by first | exact mp_fd_ok mp_k_cX10_strikes_ok (by decide +kernel) | decide +kernel)
  · skip
    refine q_14.elim fun e_19 q_20 => q_20.elim fun c_5 q_21 => q_21.elim fun c_6 q_22 => q_22.elim fun c_7 q_23 => q_23.elim fun x_8 q_24 => q_24.elim fun x_9 q_25 => q_25.elim fun x_10 q_26 => q_26.elim fun x_11 q_27 => q_27.elim fun x_12 e_28 => ?_
    clear h_3 q_14 q_20 q_21 q_22 q_23 q_24 q_25 q_26 q_27
    subst e_19
    subst e_28
    have c_5 : 0 ≤ x0.toInt := c_5
    have c_6 : 0 ≤ x1.toInt := c_6
    have c_7 : x0.toInt ≠ x1.toInt := c_7
    let w4_ : va_W := [(mp_arI E a2 0 180 f1), (mp_arI E a3 0 90 f2), (mp_arI E a4 0 300 f3), (mp_arI E a5 0 300 f4), (mp_arI E a6 0 6 f5), (mp_arI E a7 0 6 f6), (mp_arI E a8 0 6 f7), (mp_arI E a9 3 1500 f8), (mp_ob10 a0 0 a10 a11 a12 a13 a14 y1 y2 y3 y4 y5 y6 y7 y8 y9 y10 a15 a1 a2 a16 a3 a4 a5 a17 y11 a6 a7 a8 a9 y12 y13 y14 a18 a19 y15 y16 a20 a21 a22 y17 y18 y19 y20 a23 a24 a25 y21), (mp_arI E a1 0 25 f0)]
    show mp_W E X 5 11 [(0, .ref a0), (1, .int x0), (2, .int x1), (3, .int x2), (4, .int x3)] [.int 1] w4_ 0 0
    refine mp_run mp_k_cX10_strikes_ok hF mp_tabX10_ok [mp_h (.ifCond .eq 25) [36]] (by decide +kernel) ?_
    refine And.intro (fun c_29 => absurd c_29 (by decide)) (fun _ => ?_)
    show mp_W E X 5 14 [(0, .ref a0), (1, .int x0), (2, .int x1), (3, .int x2), (4, .int x3)] [] w4_ 0 0
    refine mp_run mp_k_cX10_strikes_ok hF mp_tabX10_ok [mp_i (.aload_n 0), mp_i (.iload_n 2), mp_i (.iload_n 3)] (by decide +kernel) ?_
    show mp_W E X 5 17 [(0, .ref a0), (1, .int x0), (2, .int x1), (3, .int x2), (4, .int x3)] [.int x2, .int x1, .ref a0] w4_ 0 0
    refine mp_callV hF (As := [.int x1, .int x2]) (rest := []) (wr := [(mp_arI E a2 0 180 f1), (mp_arI E a3 0 90 f2), (mp_arI E a4 0 300 f3), (mp_arI E a5 0 300 f4), (mp_arI E a6 0 6 f5), (mp_arI E a7 0 6 f6), (mp_arI E a8 0 6 f7), (mp_arI E a9 3 1500 f8)]) (bX10_areTwo_75 E a0 a1 a10 a11 a12 a13 a14 a15 a2 a16 a3 a4 a5 a17 a6 a7 a8 a9 a18 a19 a20 a21 a22 a23 a24 a25 f0 0 y1 y2 y3 y4 y5 y6 y7 y8 y9 y10 y11 y12 y13 y14 y15 y16 y17 y18 y19 y20 y21 x1 x2 p0 p1 p2 p3 p4 l_y1 u_y1 l_y2 u_y2 l_y3 u_y3 l_y4 u_y4 l_y11 u_y11 l_y12 u_y12 l_y13 u_y13) mp_lkX10_294 8 rfl [8, 9] [0, 1, 2, 3, 4, 5, 6, 7] rfl rfl rfl rfl rfl ⟨(Nat.le_of_ble_eq_true rfl), (Nat.le_of_ble_eq_true rfl), (Nat.le_of_ble_eq_true rfl), (Nat.le_of_ble_eq_true rfl)⟩ (Nat.le_of_ble_eq_true rfl) (by first | exact mp_fd_ok mp_k_cX10_strikes_ok (by decide +kernel) | decide +kernel) (fun v_30 w_31 h_32 => ?_)
    refine h_32.elim (fun q_42 => ?_) (fun q_43 => ?_)
    · skip
      refine q_42.elim fun e_44 q_45 => q_45.elim fun x_33 e_46 => ?_
      clear h_32 q_42 q_45
      subst e_44
      subst e_46
      show mp_W E X 5 20 [(0, .ref a0), (1, .int x0), (2, .int x1), (3, .int x2), (4, .int x3)] [.int 0] w4_ 0 0
      refine mp_run mp_k_cX10_strikes_ok hF mp_tabX10_ok [mp_h (.ifCond .eq 16) [36]] (by decide +kernel) ?_
      refine And.intro (fun _ => ?_) (fun c_47 => absurd c_47 (by decide))
      show mp_W E X 5 36 [(0, .ref a0), (1, .int x0), (2, .int x1), (3, .int x2), (4, .int x3)] [] w4_ 0 0
      refine mp_run mp_k_cX10_strikes_ok hF mp_tabX10_ok [mp_c (.bipush (-2)) (-2)] (by decide +kernel) ?_
      show mp_W E X 5 38 [(0, .ref a0), (1, .int x0), (2, .int x1), (3, .int x2), (4, .int x3)] [.int (-2)] w4_ 0 0
      exact mp_iret hF hQ rfl rfl (Nat.le_of_ble_eq_true rfl) (Nat.le_of_ble_eq_true rfl) [8, 9, 0, 1, 2, 3, 4, 5, 6, 7] (w' := w2_) rfl rfl ⟨y11, f5, f6, f7, f8, (-2), rfl, l_y11, u_y11, p13, rfl⟩ (by first | exact mp_fd_ok mp_k_cX10_strikes_ok (by decide +kernel) | decide +kernel)
    · skip
      refine q_43.elim fun e_48 q_49 => q_49.elim fun c_34 q_50 => q_50.elim fun c_35 q_51 => q_51.elim fun c_36 q_52 => q_52.elim fun x_37 q_53 => q_53.elim fun x_38 q_54 => q_54.elim fun x_39 q_55 => q_55.elim fun x_40 q_56 => q_56.elim fun x_41 e_57 => ?_
      clear h_32 q_43 q_49 q_50 q_51 q_52 q_53 q_54 q_55 q_56
      subst e_48
      subst e_57
      have c_34 : 0 ≤ x1.toInt := c_34
      have c_35 : 0 ≤ x2.toInt := c_35
      have c_36 : x1.toInt ≠ x2.toInt := c_36
      show mp_W E X 5 20 [(0, .ref a0), (1, .int x0), (2, .int x1), (3, .int x2), (4, .int x3)] [.int 1] w4_ 0 0
      refine mp_run mp_k_cX10_strikes_ok hF mp_tabX10_ok [mp_h (.ifCond .eq 16) [36]] (by decide +kernel) ?_
      refine And.intro (fun c_58 => absurd c_58 (by decide)) (fun _ => ?_)
      show mp_W E X 5 23 [(0, .ref a0), (1, .int x0), (2, .int x1), (3, .int x2), (4, .int x3)] [] w4_ 0 0
      refine mp_run mp_k_cX10_strikes_ok hF mp_tabX10_ok [mp_i (.iload_n 1), mp_i (.iload_n 3), mp_h (.if_icmp .eq 11) [36]] (by decide +kernel) ?_
      refine And.intro (fun c_59 => ?_) (fun c_59 => ?_)
      · have c_59 : x0.toInt = x2.toInt := (congrArg Int32.toInt c_59)
        show mp_W E X 5 36 [(0, .ref a0), (1, .int x0), (2, .int x1), (3, .int x2), (4, .int x3)] [] w4_ 0 0
        refine mp_run mp_k_cX10_strikes_ok hF mp_tabX10_ok [mp_c (.bipush (-2)) (-2)] (by decide +kernel) ?_
        show mp_W E X 5 38 [(0, .ref a0), (1, .int x0), (2, .int x1), (3, .int x2), (4, .int x3)] [.int (-2)] w4_ 0 0
        exact mp_iret hF hQ rfl rfl (Nat.le_of_ble_eq_true rfl) (Nat.le_of_ble_eq_true rfl) [8, 9, 0, 1, 2, 3, 4, 5, 6, 7] (w' := w2_) rfl rfl ⟨y11, f5, f6, f7, f8, (-2), rfl, l_y11, u_y11, p13, rfl⟩ (by first | exact mp_fd_ok mp_k_cX10_strikes_ok (by decide +kernel) | decide +kernel)
      · have c_59 : x0.toInt ≠ x2.toInt := c_59
        show mp_W E X 5 28 [(0, .ref a0), (1, .int x0), (2, .int x1), (3, .int x2), (4, .int x3)] [] w4_ 0 0
        refine mp_run mp_k_cX10_strikes_ok hF mp_tabX10_ok [mp_i (.iload 4)] (by decide +kernel) ?_
        show mp_W E X 5 30 [(0, .ref a0), (1, .int x0), (2, .int x1), (3, .int x2), (4, .int x3)] [.int x3] w4_ 0 0
        refine mp_callS hF (As := [.int x3]) (rest := []) (wr := w4_) (bX10_isMoon_60 E x3) mp_lkX10_273 [] [0, 1, 2, 3, 4, 5, 6, 7, 8, 9] rfl rfl rfl rfl rfl ⟨(Nat.le_of_ble_eq_true rfl), (Nat.le_of_ble_eq_true rfl), (Nat.le_of_ble_eq_true rfl), (Nat.le_of_ble_eq_true rfl)⟩ (Nat.le_of_ble_eq_true rfl) (by first | exact mp_fd_ok mp_k_cX10_strikes_ok (by decide +kernel) | decide +kernel) (fun v_60 w_61 h_62 => ?_)
        rcases h_62 with ⟨rfl, x_63, rfl⟩ | ⟨rfl, c_64, c_65, x_66, rfl⟩
        · skip
          show mp_W E X 5 33 [(0, .ref a0), (1, .int x0), (2, .int x1), (3, .int x2), (4, .int x3)] [.int 0] w4_ 0 0
          refine mp_run mp_k_cX10_strikes_ok hF mp_tabX10_ok [mp_h (.ifCond .ne 6) [39]] (by decide +kernel) ?_
          refine And.intro (fun c_67 => absurd c_67 (by decide)) (fun _ => ?_)
          show mp_W E X 5 36 [(0, .ref a0), (1, .int x0), (2, .int x1), (3, .int x2), (4, .int x3)] [] w4_ 0 0
          refine mp_run mp_k_cX10_strikes_ok hF mp_tabX10_ok [mp_c (.bipush (-2)) (-2)] (by decide +kernel) ?_
          show mp_W E X 5 38 [(0, .ref a0), (1, .int x0), (2, .int x1), (3, .int x2), (4, .int x3)] [.int (-2)] w4_ 0 0
          exact mp_iret hF hQ rfl rfl (Nat.le_of_ble_eq_true rfl) (Nat.le_of_ble_eq_true rfl) [8, 9, 0, 1, 2, 3, 4, 5, 6, 7] (w' := w2_) rfl rfl ⟨y11, f5, f6, f7, f8, (-2), rfl, l_y11, u_y11, p13, rfl⟩ (by first | exact mp_fd_ok mp_k_cX10_strikes_ok (by decide +kernel) | decide +kernel)
        · skip
          have c_64 : 0 ≤ x3.toInt := c_64
          have c_65 : x3.toInt ≤ 99 := c_65
          show mp_W E X 5 33 [(0, .ref a0), (1, .int x0), (2, .int x1), (3, .int x2), (4, .int x3)] [.int 1] w4_ 0 0
          refine mp_run mp_k_cX10_strikes_ok hF mp_tabX10_ok [mp_h (.ifCond .ne 6) [39]] (by decide +kernel) ?_
          refine And.intro (fun _ => ?_) (fun c_68 => absurd c_68 (by decide))
          show mp_W E X 5 39 [(0, .ref a0), (1, .int x0), (2, .int x1), (3, .int x2), (4, .int x3)] [] w4_ 0 0
          refine mp_run mp_k_cX10_strikes_ok hF mp_tabX10_ok [mp_i (.aload_n 0)] (by decide +kernel) ?_
          show mp_W E X 5 40 [(0, .ref a0), (1, .int x0), (2, .int x1), (3, .int x2), (4, .int x3)] [.ref a0] w4_ 0 0
          refine mp_callV hF (As := []) (rest := []) (wr := [(mp_arI E a4 0 300 f3)]) (bX10_lays_62 E a0 a1 a2 a3 a5 a6 a7 a8 a9 a10 a11 a12 a13 a14 a15 a16 a4 a17 a18 a19 a20 a21 a22 a23 a24 a25 f0 f1 f2 f4 f5 f6 f7 f8 0 y1 y2 y3 y4 y5 y6 y7 y8 y9 y10 y11 y12 y13 y14 y15 y16 y17 y18 y19 y20 y21 p0 p1 p2 p3 p4 p5 p6 p7 p12 p13 l_y1 u_y1 l_y2 u_y2 l_y3 u_y3 l_y4 u_y4 l_y11 u_y11 l_y12 u_y12 l_y13 u_y13 (by (first | exact q1 | omega))) mp_lkX10_288 8 rfl [8, 9, 0, 1, 3, 4, 5, 6, 7] [2] rfl rfl rfl rfl rfl ⟨(Nat.le_of_ble_eq_true rfl), (Nat.le_of_ble_eq_true rfl), (Nat.le_of_ble_eq_true rfl), (Nat.le_of_ble_eq_true rfl)⟩ (Nat.le_of_ble_eq_true rfl) (by first | exact mp_fd_ok mp_k_cX10_strikes_ok (by decide +kernel) | decide +kernel) (fun v_69 w_70 h_71 => ?_)
          refine h_71.elim fun r_72 q_82 => q_82.elim fun g_73 q_83 => q_83.elim fun g_74 q_84 => q_84.elim fun g_75 q_85 => q_85.elim fun g_76 q_86 => q_86.elim fun e_87 q_88 => q_88.elim fun l_77 q_89 => q_89.elim fun u_78 q_90 => q_90.elim fun p_79 q_91 => q_91.elim fun x_80 q_92 => q_92.elim fun x_81 e_93 => ?_
          clear h_71 q_82 q_83 q_84 q_85 q_86 q_88 q_89 q_90 q_91 q_92
          subst e_87
          subst e_93
          let w5_ : va_W := [(mp_arI E a4 0 300 f3), (mp_ob10 a0 0 a10 a11 a12 a13 a14 y1 y2 y3 y4 y5 y6 y7 y8 y9 y10 a15 a1 a2 a16 a3 a4 a5 a17 r_72 a6 a7 a8 a9 y12 y13 y14 a18 a19 y15 y16 a20 a21 a22 y17 y18 y19 y20 a23 a24 a25 y21), (mp_arI E a1 0 25 f0), (mp_arI E a2 0 180 f1), (mp_arI E a3 0 90 f2), (mp_arI E a5 0 300 f4), (mp_arI E a6 0 6 g_73), (mp_arI E a7 0 6 g_74), (mp_arI E a8 0 6 g_75), (mp_arI E a9 3 1500 g_76)]
          show mp_W E X 5 43 [(0, .ref a0), (1, .int x0), (2, .int x1), (3, .int x2), (4, .int x3)] [] w5_ 0 0
          refine mp_run mp_k_cX10_strikes_ok hF mp_tabX10_ok [mp_i (.aload_n 0), mp_i (.iload_n 1), mp_i (.iload_n 2), mp_i (.iload_n 3), mp_i (.iload 4)] (by decide +kernel) ?_
          show mp_W E X 5 49 [(0, .ref a0), (1, .int x0), (2, .int x1), (3, .int x2), (4, .int x3)] [.int x3, .int x2, .int x1, .int x0, .ref a0] w5_ 0 0
          refine mp_callV hF (As := [.int x0, .int x1, .int x2, .int x3]) (rest := []) (wr := [(mp_arI E a2 0 180 f1), (mp_arI E a5 0 300 f4), (mp_arI E a6 0 6 g_73), (mp_arI E a7 0 6 g_74), (mp_arI E a8 0 6 g_75)]) (bX10_struckOf_130 E a0 a1 a3 a4 a9 a10 a11 a12 a13 a14 a15 a2 a16 a5 a17 a6 a7 a8 a18 a19 a20 a21 a22 a23 a24 a25 f0 f2 f3 g_76 0 y1 y2 y3 y4 y5 y6 y7 y8 y9 y10 r_72 y12 y13 y14 y15 y16 y17 y18 y19 y20 y21 x0 x1 x2 x3 p0 p1 p2 p3 p4 p6 p7 p8 p9 p10 p11 (by (first | exact c_64 | omega)) (by (first | exact c_65 | omega)) l_y1 u_y1 l_y2 u_y2 l_y3 u_y3 l_y4 u_y4 l_77 u_78 l_y12 u_y12 l_y13 u_y13 (by first | assumption | (rw [rfl]; assumption))) mp_lkX10_405 1 rfl [1, 2, 4, 0, 9] [3, 5, 6, 7, 8] rfl rfl rfl rfl rfl ⟨(Nat.le_of_ble_eq_true rfl), (Nat.le_of_ble_eq_true rfl), (Nat.le_of_ble_eq_true rfl), (Nat.le_of_ble_eq_true rfl)⟩ (Nat.le_of_ble_eq_true rfl) (by first | exact mp_fd_ok mp_k_cX10_strikes_ok (by decide +kernel) | decide +kernel) (fun v_94 w_95 h_96 => ?_)
          obtain ⟨r_97, rfl, rfl⟩ := h_96
          let w6_ : va_W := [(mp_arI E a2 0 180 f1), (mp_arI E a5 0 300 f4), (mp_arI E a6 0 6 g_73), (mp_arI E a7 0 6 g_74), (mp_arI E a8 0 6 g_75), (mp_ob10 a0 0 a10 a11 a12 a13 a14 y1 y2 y3 y4 y5 y6 y7 y8 y9 y10 a15 a1 a2 a16 a3 a4 a5 a17 r_72 a6 a7 a8 a9 y12 y13 y14 a18 a19 y15 y16 a20 a21 a22 y17 y18 y19 y20 a23 a24 a25 y21), (mp_arI E a1 0 25 f0), (mp_arI E a3 0 90 f2), (mp_arI E a4 0 300 f3), (mp_arI E a9 3 1500 g_76)]
          show mp_W E X 5 52 [(0, .ref a0), (1, .int x0), (2, .int x1), (3, .int x2), (4, .int x3)] [.int r_97] w6_ 0 0
          exact mp_iret hF hQ rfl rfl (Nat.le_of_ble_eq_true rfl) (Nat.le_of_ble_eq_true rfl) [5, 6, 0, 7, 8, 1, 2, 3, 4, 9] (w' := [(mp_ob10 a0 0 a10 a11 a12 a13 a14 y1 y2 y3 y4 y5 y6 y7 y8 y9 y10 a15 a1 a2 a16 a3 a4 a5 a17 r_72 a6 a7 a8 a9 y12 y13 y14 a18 a19 y15 y16 a20 a21 a22 y17 y18 y19 y20 a23 a24 a25 y21), (mp_arI E a1 0 25 f0), (mp_arI E a2 0 180 f1), (mp_arI E a3 0 90 f2), (mp_arI E a4 0 300 f3), (mp_arI E a5 0 300 f4), (mp_arI E a6 0 6 g_73), (mp_arI E a7 0 6 g_74), (mp_arI E a8 0 6 g_75), (mp_arI E a9 3 1500 g_76)]) rfl rfl ⟨r_72, g_73, g_74, g_75, g_76, r_97, rfl, l_77, u_78, p_79, rfl⟩ (by first | exact mp_fd_ok mp_k_cX10_strikes_ok (by decide +kernel) | decide +kernel)
set_option maxHeartbeats 4000000 in
set_option maxRecDepth 100000 in
theorem bX10_whyNot_135 (E : mp_E) (a0 a1 a2 a3 a4 a5 a6 a7 a8 a9 a10 a11 a12 a13 a14 a15 a16 a17 a18 a19 a20 a21 a22 a23 a24 a25 : Nat) (f0 : Nat → Int32) (f1 : Nat → Int32) (f2 : Nat → Int64) (f3 : Nat → Int32) (f4 : Nat → Int32) (y0 : Int32) (y1 : Int32) (y2 : Int32) (y3 : Int32) (y4 : Int32) (y5 : Int32) (y6 : Int64) (y7 : Int32) (y8 : Int32) (y9 : Int32) (y10 : Int32) (y11 : Int32) (y12 : Int32) (y13 : Int32) (y14 : Int32) (y15 : Int32) (y16 : Int32) (y17 : Int32) (y18 : Int32) (y19 : Int32) (y20 : Int32) (y21 : Int32) (x0 : Int32) (x1 : Int32) (p0 : mp_all f1 4 0 60) (p1 : mp_res f3 25 5 0 0 6) (p2 : mp_res f3 25 5 1 0 99) (p3 : mp_res f3 25 5 2 0 6) (p4 : mp_res f3 25 5 3 0 10) (p5 : mp_res f3 25 5 4 0 60) (p6 : mp_res f4 300 6 0 0 5) (p7 : mp_res f4 300 6 1 0 5) (p8 : mp_res f4 300 6 3 0 99) (p9 : mp_res f4 300 6 4 0 1) (l_y1 : 0 ≤ y1.toInt) (u_y1 : y1.toInt ≤ 1600) (l_y2 : 0 ≤ y2.toInt) (u_y2 : y2.toInt ≤ 1600) (l_y3 : 0 ≤ y3.toInt) (u_y3 : y3.toInt ≤ 4) (l_y4 : 0 ≤ y4.toInt) (u_y4 : y4.toInt ≤ 1600) (l_y11 : 0 ≤ y11.toInt) (u_y11 : y11.toInt ≤ 99) (l_y12 : 0 ≤ y12.toInt) (u_y12 : y12.toInt ≤ 5) (l_y13 : 0 ≤ y13.toInt) (u_y13 : y13.toInt ≤ 12) : mp_Ct E yX10_whyNot cX10_whyNot 4 (some FieldType.int) 2 0 0 46 [.ref a0, .int x0, .int x1] [(mp_ob10 a0 y0 a1 a2 a3 a6 a7 y1 y2 y3 y4 y5 y6 y7 y8 y9 y10 a8 a4 a9 a10 a11 a5 a12 a13 y11 a14 a15 a16 a17 y12 y13 y14 a18 a19 y15 y16 a20 a21 a22 y17 y18 y19 y20 a23 a24 a25 y21), (mp_arI E a1 0 4 f0), (mp_arI E a2 0 4 f1), (mp_arL E a3 240 f2), (mp_arI E a4 0 25 f3), (mp_arI E a5 0 300 f4)] (fun v w' => (v = some (.int (-2)) ∧ ((x0.toInt < 0 ∨ 3 < x0.toInt ∨ x1.toInt < 0 ∨ (f3 3).toInt ≤ x1.toInt ∨ (0 ≤ x1.toInt ∧ x1.toInt < (f3 3).toInt ∧ (f4 (6 * x1.toInt.toNat + 5)).toInt ≠ -1)) ∨ (((0 ≤ x0.toInt ∧ x0.toInt ≤ 3) ∧ (0 ≤ x1.toInt ∧ x1.toInt < (f3 3).toInt) ∧ (f4 (6 * x1.toInt.toNat + 5)).toInt = -1) ∧ (f0 x0.toInt.toNat).toInt ≠ -1 ∧ ((f1 x0.toInt.toNat).toInt % 2 ≠ 0 ∨ ¬ mp_vd f2 x0.toInt ((f1 x0.toInt.toNat).toInt / 2).toNat (f4 (6 * x1.toInt.toNat + 3)).toInt))) ∧ w' = [(mp_ob10 a0 y0 a1 a2 a3 a6 a7 y1 y2 y3 y4 y5 y6 y7 y8 y9 y10 a8 a4 a9 a10 a11 a5 a12 a13 y11 a14 a15 a16 a17 y12 y13 y14 a18 a19 y15 y16 a20 a21 a22 y17 y18 y19 y20 a23 a24 a25 y21), (mp_arI E a1 0 4 f0), (mp_arI E a2 0 4 f1), (mp_arL E a3 240 f2), (mp_arI E a4 0 25 f3), (mp_arI E a5 0 300 f4)]) ∨ (v = some (.int 0) ∧ 0 ≤ x0.toInt ∧ x0.toInt ≤ 3 ∧ 0 ≤ x1.toInt ∧ (0 ≤ x0.toInt) ∧ (x0.toInt ≤ 3) ∧ (0 ≤ x1.toInt) ∧ (x1.toInt ≤ 9) ∧ ((f1 x0.toInt.toNat).toInt % 2 = 0) ∧ (mp_wn f2 x0.toInt (f1 x0.toInt.toNat).toInt (f4 (6 * x1.toInt.toNat + 3)).toInt) ∧ ((0 ≤ x0.toInt ∧ x0.toInt ≤ 3) ∧ (0 ≤ x1.toInt ∧ x1.toInt < (f3 3).toInt) ∧ (f4 (6 * x1.toInt.toNat + 5)).toInt = -1 ∧ (f0 x0.toInt.toNat).toInt ≠ -1 ∧ (f1 x0.toInt.toNat).toInt % 2 = 0) ∧ (mp_vd f2 x0.toInt ((f1 x0.toInt.toNat).toInt / 2).toNat (f4 (6 * x1.toInt.toNat + 3)).toInt) ∧ (0 ≤ (f1 x0.toInt.toNat).toInt) ∧ w' = [(mp_ob10 a0 y0 a1 a2 a3 a6 a7 y1 y2 y3 y4 y5 y6 y7 y8 y9 y10 a8 a4 a9 a10 a11 a5 a12 a13 y11 a14 a15 a16 a17 y12 y13 y14 a18 a19 y15 y16 a20 a21 a22 y17 y18 y19 y20 a23 a24 a25 y21), (mp_arI E a1 0 4 f0), (mp_arI E a2 0 4 f1), (mp_arL E a3 240 f2), (mp_arI E a4 0 25 f3), (mp_arI E a5 0 300 f4)]) ∨ (v = some (.int (-6)) ∧ 0 ≤ x0.toInt ∧ x0.toInt ≤ 3 ∧ 0 ≤ x1.toInt ∧ ((0 ≤ x0.toInt ∧ x0.toInt ≤ 3) ∧ (0 ≤ x1.toInt ∧ x1.toInt < (f3 3).toInt) ∧ (f4 (6 * x1.toInt.toNat + 5)).toInt = -1 ∧ (f0 x0.toInt.toNat).toInt = -1) ∧ w' = [(mp_ob10 a0 y0 a1 a2 a3 a6 a7 y1 y2 y3 y4 y5 y6 y7 y8 y9 y10 a8 a4 a9 a10 a11 a5 a12 a13 y11 a14 a15 a16 a17 y12 y13 y14 a18 a19 y15 y16 a20 a21 a22 y17 y18 y19 y20 a23 a24 a25 y21), (mp_arI E a1 0 4 f0), (mp_arI E a2 0 4 f1), (mp_arL E a3 240 f2), (mp_arI E a4 0 25 f3), (mp_arI E a5 0 300 f4)])) := by
  refine mp_met false (by decide) (by decide) (Nat.le_of_ble_eq_true rfl) (fun X hF hQ => ?_)
  have hF : mp_F E X (RX10, cX10_whyNot, 4, (2, 0, 0, 46), (some FieldType.int), false) := hF
  let w1_ : va_W := [(mp_ob10 a0 y0 a1 a2 a3 a6 a7 y1 y2 y3 y4 y5 y6 y7 y8 y9 y10 a8 a4 a9 a10 a11 a5 a12 a13 y11 a14 a15 a16 a17 y12 y13 y14 a18 a19 y15 y16 a20 a21 a22 y17 y18 y19 y20 a23 a24 a25 y21), (mp_arI E a1 0 4 f0), (mp_arI E a2 0 4 f1), (mp_arL E a3 240 f2), (mp_arI E a4 0 25 f3), (mp_arI E a5 0 300 f4)]
  show mp_W E X 4 0 [(0, .ref a0), (1, .int x0), (2, .int x1)] [] w1_ 0 0
  refine mp_run mp_k_cX10_whyNot_ok hF mp_tabX10_ok [mp_i (.iload_n 1)] (by decide +kernel) ?_
  show mp_W E X 4 1 [(0, .ref a0), (1, .int x0), (2, .int x1)] [.int x0] w1_ 0 0
  refine mp_callS hF (As := [.int x0]) (rest := []) (wr := w1_) (bX10_isSlot_1 E x0) mp_lkX10_101 [] [0, 1, 2, 3, 4, 5] rfl rfl rfl rfl rfl ⟨(Nat.le_of_ble_eq_true rfl), (Nat.le_of_ble_eq_true rfl), (Nat.le_of_ble_eq_true rfl), (Nat.le_of_ble_eq_true rfl)⟩ (Nat.le_of_ble_eq_true rfl) (by first | exact mp_fd_ok mp_k_cX10_whyNot_ok (by decide +kernel) | decide +kernel) (fun v_1 w_2 h_3 => ?_)
  rcases h_3 with ⟨rfl, x_4, rfl⟩ | ⟨rfl, c_5, c_6, x_7, rfl⟩
  · skip
    show mp_W E X 4 4 [(0, .ref a0), (1, .int x0), (2, .int x1)] [.int 0] w1_ 0 0
    refine mp_run mp_k_cX10_whyNot_ok hF mp_tabX10_ok [mp_h (.ifCond .eq 21) [25]] (by decide +kernel) ?_
    refine And.intro (fun _ => ?_) (fun c_8 => absurd c_8 (by decide))
    show mp_W E X 4 25 [(0, .ref a0), (1, .int x0), (2, .int x1)] [] w1_ 0 0
    refine mp_run mp_k_cX10_whyNot_ok hF mp_tabX10_ok [mp_c (.bipush (-2)) (-2)] (by decide +kernel) ?_
    show mp_W E X 4 27 [(0, .ref a0), (1, .int x0), (2, .int x1)] [.int (-2)] w1_ 0 0
    exact mp_iret hF hQ rfl rfl (Nat.le_of_ble_eq_true rfl) (Nat.le_of_ble_eq_true rfl) [0, 1, 2, 3, 4, 5] (w' := w1_) rfl rfl (Or.inl ⟨rfl, (by first | exact Or.inl (by (first | exact mp_o691 x_4 | omega)) | exact Or.inr ⟨by omega, by omega, Or.inl (by omega)⟩), rfl⟩) (by first | exact mp_fd_ok mp_k_cX10_whyNot_ok (by decide +kernel) | decide +kernel)
  · skip
    have c_5 : 0 ≤ x0.toInt := c_5
    have c_6 : x0.toInt ≤ 3 := c_6
    show mp_W E X 4 4 [(0, .ref a0), (1, .int x0), (2, .int x1)] [.int 1] w1_ 0 0
    refine mp_run mp_k_cX10_whyNot_ok hF mp_tabX10_ok [mp_h (.ifCond .eq 21) [25]] (by decide +kernel) ?_
    refine And.intro (fun c_9 => absurd c_9 (by decide)) (fun _ => ?_)
    show mp_W E X 4 7 [(0, .ref a0), (1, .int x0), (2, .int x1)] [] w1_ 0 0
    refine mp_run mp_k_cX10_whyNot_ok hF mp_tabX10_ok [mp_i (.aload_n 0), mp_i (.iload_n 2)] (by decide +kernel) ?_
    show mp_W E X 4 9 [(0, .ref a0), (1, .int x0), (2, .int x1)] [.int x1, .ref a0] w1_ 0 0
    refine mp_callV hF (As := [.int x1]) (rest := []) (wr := [(mp_arI E a1 0 4 f0), (mp_arI E a2 0 4 f1), (mp_arL E a3 240 f2), (mp_arI E a5 0 300 f4)]) (bX10_isPromise_55 E a0 a4 a1 a2 a3 a6 a7 a8 a9 a10 a11 a5 a12 a13 a14 a15 a16 a17 a18 a19 a20 a21 a22 a23 a24 a25 f3 y0 y1 y2 y3 y4 y5 y6 y7 y8 y9 y10 y11 y12 y13 y14 y15 y16 y17 y18 y19 y20 y21 x1 p1 p2 p3 p4 p5 l_y1 u_y1 l_y2 u_y2 l_y3 u_y3 l_y4 u_y4 l_y11 u_y11 l_y12 u_y12 l_y13 u_y13) mp_lkX10_262 0 rfl [0, 4] [1, 2, 3, 5] rfl rfl rfl rfl rfl ⟨(Nat.le_of_ble_eq_true rfl), (Nat.le_of_ble_eq_true rfl), (Nat.le_of_ble_eq_true rfl), (Nat.le_of_ble_eq_true rfl)⟩ (Nat.le_of_ble_eq_true rfl) (by first | exact mp_fd_ok mp_k_cX10_whyNot_ok (by decide +kernel) | decide +kernel) (fun v_10 w_11 h_12 => ?_)
    refine h_12.elim (fun q_18 => ?_) (fun q_19 => ?_)
    · skip
      refine q_18.elim fun e_20 q_21 => q_21.elim fun x_13 e_22 => ?_
      clear h_12 q_18 q_21
      subst e_20
      subst e_22
      let w2_ : va_W := [(mp_arI E a1 0 4 f0), (mp_arI E a2 0 4 f1), (mp_arL E a3 240 f2), (mp_arI E a5 0 300 f4), (mp_ob10 a0 y0 a1 a2 a3 a6 a7 y1 y2 y3 y4 y5 y6 y7 y8 y9 y10 a8 a4 a9 a10 a11 a5 a12 a13 y11 a14 a15 a16 a17 y12 y13 y14 a18 a19 y15 y16 a20 a21 a22 y17 y18 y19 y20 a23 a24 a25 y21), (mp_arI E a4 0 25 f3)]
      show mp_W E X 4 12 [(0, .ref a0), (1, .int x0), (2, .int x1)] [.int 0] w2_ 0 0
      refine mp_run mp_k_cX10_whyNot_ok hF mp_tabX10_ok [mp_h (.ifCond .eq 13) [25]] (by decide +kernel) ?_
      refine And.intro (fun _ => ?_) (fun c_23 => absurd c_23 (by decide))
      show mp_W E X 4 25 [(0, .ref a0), (1, .int x0), (2, .int x1)] [] w2_ 0 0
      refine mp_run mp_k_cX10_whyNot_ok hF mp_tabX10_ok [mp_c (.bipush (-2)) (-2)] (by decide +kernel) ?_
      show mp_W E X 4 27 [(0, .ref a0), (1, .int x0), (2, .int x1)] [.int (-2)] w2_ 0 0
      exact mp_iret hF hQ rfl rfl (Nat.le_of_ble_eq_true rfl) (Nat.le_of_ble_eq_true rfl) [4, 0, 1, 2, 5, 3] (w' := w1_) rfl rfl (Or.inl ⟨rfl, (by first | exact Or.inl (by (first | exact mp_o692 x_13 | omega)) | exact Or.inr ⟨by omega, by omega, Or.inl (by omega)⟩), rfl⟩) (by first | exact mp_fd_ok mp_k_cX10_whyNot_ok (by decide +kernel) | decide +kernel)
    · skip
      refine q_19.elim fun e_24 q_25 => q_25.elim fun c_14 q_26 => q_26.elim fun x_15 q_27 => q_27.elim fun x_16 q_28 => q_28.elim fun x_17 e_29 => ?_
      clear h_12 q_19 q_25 q_26 q_27 q_28
      subst e_24
      subst e_29
      have c_14 : 0 ≤ x1.toInt := c_14
      let w3_ : va_W := [(mp_arI E a1 0 4 f0), (mp_arI E a2 0 4 f1), (mp_arL E a3 240 f2), (mp_arI E a5 0 300 f4), (mp_ob10 a0 y0 a1 a2 a3 a6 a7 y1 y2 y3 y4 y5 y6 y7 y8 y9 y10 a8 a4 a9 a10 a11 a5 a12 a13 y11 a14 a15 a16 a17 y12 y13 y14 a18 a19 y15 y16 a20 a21 a22 y17 y18 y19 y20 a23 a24 a25 y21), (mp_arI E a4 0 25 f3)]
      show mp_W E X 4 12 [(0, .ref a0), (1, .int x0), (2, .int x1)] [.int 1] w3_ 0 0
      refine mp_run mp_k_cX10_whyNot_ok hF mp_tabX10_ok [mp_h (.ifCond .eq 13) [25]] (by decide +kernel) ?_
      refine And.intro (fun c_30 => absurd c_30 (by decide)) (fun _ => ?_)
      show mp_W E X 4 15 [(0, .ref a0), (1, .int x0), (2, .int x1)] [] w3_ 0 0
      refine mp_run mp_k_cX10_whyNot_ok hF mp_tabX10_ok [mp_i (.aload_n 0), mp_i (.iload_n 2), mp_c (.iconst 5) 5] (by decide +kernel) ?_
      show mp_W E X 4 18 [(0, .ref a0), (1, .int x0), (2, .int x1)] [.int 5, .int x1, .ref a0] w3_ 0 0
      refine mp_callV hF (As := [.int x1, .int 5]) (rest := []) (wr := [(mp_arI E a1 0 4 f0), (mp_arI E a2 0 4 f1), (mp_arL E a3 240 f2), (mp_arI E a4 0 25 f3)]) (bX10_of_67 E a0 a5 a1 a2 a3 a6 a7 a8 a4 a9 a10 a11 a12 a13 a14 a15 a16 a17 a18 a19 a20 a21 a22 a23 a24 a25 f4 y0 y1 y2 y3 y4 y5 y6 y7 y8 y9 y10 y11 y12 y13 y14 y15 y16 y17 y18 y19 y20 y21 x1 p6 p7 p8 p9 (by (first | exact c_14 | omega)) (by (first | exact x_16 | omega)) l_y1 u_y1 l_y2 u_y2 l_y3 u_y3 l_y4 u_y4 l_y11 u_y11 l_y12 u_y12 l_y13 u_y13) mp_lkX10_267 4 rfl [4, 3] [0, 1, 2, 5] rfl rfl rfl rfl rfl ⟨(Nat.le_of_ble_eq_true rfl), (Nat.le_of_ble_eq_true rfl), (Nat.le_of_ble_eq_true rfl), (Nat.le_of_ble_eq_true rfl)⟩ (Nat.le_of_ble_eq_true rfl) (by first | exact mp_fd_ok mp_k_cX10_whyNot_ok (by decide +kernel) | decide +kernel) (fun v_31 w_32 h_33 => ?_)
      obtain ⟨r_34, rfl, x_35, rfl⟩ := h_33
      let w4_ : va_W := [(mp_arI E a1 0 4 f0), (mp_arI E a2 0 4 f1), (mp_arL E a3 240 f2), (mp_arI E a4 0 25 f3), (mp_ob10 a0 y0 a1 a2 a3 a6 a7 y1 y2 y3 y4 y5 y6 y7 y8 y9 y10 a8 a4 a9 a10 a11 a5 a12 a13 y11 a14 a15 a16 a17 y12 y13 y14 a18 a19 y15 y16 a20 a21 a22 y17 y18 y19 y20 a23 a24 a25 y21), (mp_arI E a5 0 300 f4)]
      show mp_W E X 4 21 [(0, .ref a0), (1, .int x0), (2, .int x1)] [.int r_34] w4_ 0 0
      refine mp_run mp_k_cX10_whyNot_ok hF mp_tabX10_ok [mp_c (.iconst (-1)) (-1), mp_h (.if_icmp .eq 6) [28]] (by decide +kernel) ?_
      refine And.intro (fun c_36 => ?_) (fun c_36 => ?_)
      · have c_36 : r_34.toInt = (-1) := (congrArg Int32.toInt c_36)
        show mp_W E X 4 28 [(0, .ref a0), (1, .int x0), (2, .int x1)] [] w4_ 0 0
        refine mp_run mp_k_cX10_whyNot_ok hF mp_tabX10_ok [mp_i (.aload_n 0), mp_h (.getfield 7) [1, 4], mp_i (.iload_n 1), mp_h .iaload [0], mp_c (.iconst (-1)) (-1), mp_h (.if_icmp .ne 6) [41]] (by decide +kernel) ?_
        refine And.intro rfl (And.intro rfl ?_)
        refine And.intro rfl (And.intro rfl (And.intro (vp_in_iff.mpr (by (first | exact mp_o637 c_5 c_6 | omega))) ?_))
        intro z_37 h_38
        have e_39 : z_37.toInt = (f0 x0.toInt.toNat).toInt := congrArg Int32.toInt h_38
        refine And.intro (fun c_40 => ?_) (fun c_40 => ?_)
        · have c_40 : z_37.toInt ≠ (-1) := c_40
          show mp_W E X 4 41 [(0, .ref a0), (1, .int x0), (2, .int x1)] [] w4_ 0 0
          refine mp_run mp_k_cX10_whyNot_ok hF mp_tabX10_ok [mp_i (.aload_n 0), mp_h (.getfield 13) [2, 4], mp_i (.iload_n 1), mp_h .iaload [1], mp_c (.iconst 2) 2, mp_i .irem, mp_h (.ifCond .eq 6) [55]] (by decide +kernel) ?_
          refine And.intro rfl (And.intro rfl ?_)
          refine And.intro rfl (And.intro rfl (And.intro (vp_in_iff.mpr (by (first | exact mp_o637 c_5 c_6 | omega))) ?_))
          intro z_41 h_42
          have e_43 : 0 ≤ z_41.toInt ∧ z_41.toInt ≤ 60 := mp_all_ld h_42 p0 (by (first | exact c_5 | omega)) (by (first | exact mp_o638 c_6 | omega))
          have e_44 : z_41.toInt = (f1 x0.toInt.toNat).toInt := congrArg Int32.toInt h_42
          have e_45 : z_41.toInt = (f1 x0.toInt.toNat).toInt := congrArg Int32.toInt h_42
          refine And.intro (by decide) ?_
          intro z_46 h_47
          have e_48 : z_46.toInt = z_41.toInt % 2 := mp_rem (a := z_41.toInt) (b := 2) h_47 rfl (by decide) (by (first | exact mp_o1472 e_43 | omega)) (by decide)
          refine And.intro (fun c_49 => ?_) (fun c_49 => ?_)
          · have c_49 : z_46.toInt = 0 := (congrArg Int32.toInt c_49)
            show mp_W E X 4 55 [(0, .ref a0), (1, .int x0), (2, .int x1)] [] w4_ 0 0
            refine mp_run mp_k_cX10_whyNot_ok hF mp_tabX10_ok [mp_c (.iconst 0) 0, mp_i (.istore_n 3)] (by decide +kernel) ?_
            show mp_W E X 4 57 [(3, .int 0), (0, .ref a0), (1, .int x0), (2, .int x1)] [] w4_ 0 0
            have lp_57 : ∀ (d_58 : Nat) (i_50 : Int32), 0 ≤ i_50.toInt → i_50.toInt ≤ 78 → (i_50.toInt % 2 = 0) → (mp_wn f2 x0.toInt i_50.toInt (f4 (6 * x1.toInt.toNat + 3)).toInt) → (mp_vd f2 x0.toInt (i_50.toInt / 2).toNat (f4 (6 * x1.toInt.toNat + 3)).toInt) → (0 ≤ i_50.toInt ∧ i_50.toInt ≤ (f1 x0.toInt.toNat).toInt) → z_41.toInt - i_50.toInt ≤ (d_58 : Int) → mp_W E X 4 57 [(3, .int i_50), (0, .ref a0), (1, .int x0), (2, .int x1)] [] [(mp_arI E a1 0 4 f0), (mp_arI E a2 0 4 f1), (mp_arL E a3 240 f2), (mp_arI E a4 0 25 f3), (mp_ob10 a0 y0 a1 a2 a3 a6 a7 y1 y2 y3 y4 y5 y6 y7 y8 y9 y10 a8 a4 a9 a10 a11 a5 a12 a13 y11 a14 a15 a16 a17 y12 y13 y14 a18 a19 y15 y16 a20 a21 a22 y17 y18 y19 y20 a23 a24 a25 y21), (mp_arI E a5 0 300 f4)] 0 0 := by
              intro d_58
              induction d_58 using Nat.strongRecOn with
              | ind d_58 ih_59 =>
                intro i_50 l_51 u_52 x_53 x_54 x_55 x_56 hm_60
                refine mp_run mp_k_cX10_whyNot_ok hF mp_tabX10_ok [mp_i (.iload_n 3), mp_i (.aload_n 0), mp_h (.getfield 13) [2, 4], mp_i (.iload_n 1), mp_h .iaload [1], mp_h (.if_icmp .ge 69) [133]] (by decide +kernel) ?_
                refine And.intro rfl (And.intro rfl ?_)
                refine And.intro rfl (And.intro rfl (And.intro (vp_in_iff.mpr (by (first | exact mp_o637 c_5 c_6 | omega))) ?_))
                intro z_61 h_62
                have k_63 : z_41 = z_61 := h_42.trans h_62.symm
                subst k_63
                refine And.intro (fun c_64 => ?_) (fun c_64 => ?_)
                · have c_64 : z_41.toInt ≤ i_50.toInt := c_64
                  show mp_W E X 4 133 [(3, .int i_50), (0, .ref a0), (1, .int x0), (2, .int x1)] [] w4_ 0 0
                  refine mp_run mp_k_cX10_whyNot_ok hF mp_tabX10_ok [mp_c (.iconst 0) 0] (by decide +kernel) ?_
                  show mp_W E X 4 134 [(3, .int i_50), (0, .ref a0), (1, .int x0), (2, .int x1)] [.int 0] w4_ 0 0
                  exact mp_iret hF hQ rfl rfl (Nat.le_of_ble_eq_true rfl) (Nat.le_of_ble_eq_true rfl) [4, 0, 1, 2, 3, 5] (w' := w1_) rfl rfl (Or.inr (Or.inl ⟨rfl, (by first | (first | exact c_5 | omega) | decide), (by first | (first | exact c_6 | omega) | decide), (by first | (first | exact c_14 | omega) | decide), (by (first | exact c_5 | omega)), (by (first | exact c_6 | omega)), (by (first | exact c_14 | omega)), (by (first | exact x_16 | omega)), (by (first | exact mp_o653 c_49 e_44 e_48 | omega)), (mp_wn_le x_54 (by (first | exact mp_o787 e_44 c_64 | omega))), (by (first | exact mp_o1735 c_5 c_14 c_6 x_15 c_36 x_35 c_49 e_39 c_40 e_44 e_48 | omega)), (by have k9 := x_55; rw [show (i_50.toInt / 2).toNat = ((f1 x0.toInt.toNat).toInt / 2).toNat from by (first | exact mp_o1736 x_56 e_44 c_64 | omega)] at k9; exact k9), (by (first | exact mp_o1737 x_56 | omega)), rfl⟩)) (by first | exact mp_fd_ok mp_k_cX10_whyNot_ok (by decide +kernel) | decide +kernel)
                · have c_64 : i_50.toInt < z_41.toInt := c_64
                  show mp_W E X 4 67 [(3, .int i_50), (0, .ref a0), (1, .int x0), (2, .int x1)] [] w4_ 0 0
                  refine mp_run mp_k_cX10_whyNot_ok hF mp_tabX10_ok [mp_i (.aload_n 0), mp_h (.getfield 16) [3, 4], mp_c (.bipush 60) 60, mp_i (.iload_n 1), mp_i .imul, mp_i (.iload_n 3), mp_i .iadd, mp_h .laload [2], mp_i (.aload_n 0), mp_i (.iload_n 2), mp_c (.iconst 3) 3] (by decide +kernel) ?_
                  refine And.intro rfl (And.intro rfl ?_)
                  intro z_65 h_66
                  have e_67 : z_65.toInt = 60 * x0.toInt := mp_mul (a := 60) (b := x0.toInt) h_66 (by decide) rfl (by (first | exact mp_o926 c_5 | omega)) (by (first | exact mp_o927 c_6 | omega))
                  intro z_68 h_69
                  have e_70 : z_68.toInt = z_65.toInt + i_50.toInt := mp_add (a := z_65.toInt) (b := i_50.toInt) h_69 rfl rfl (by (first | exact mp_o928 l_51 c_5 e_67 | omega)) (by (first | exact mp_o1738 u_52 c_6 e_67 | omega))
                  refine And.intro rfl (And.intro rfl (And.intro (vp_in_iff.mpr (by (first | exact mp_o1739 c_5 c_6 l_51 e_67 e_70 c_64 e_43 | omega))) ?_))
                  intro z_71 h_72
                  show mp_W E X 4 81 [(3, .int i_50), (0, .ref a0), (1, .int x0), (2, .int x1)] [.int 3, .int x1, .ref a0, .long z_71] w4_ 0 0
                  refine mp_callV hF (As := [.int x1, .int 3]) (rest := [.long z_71]) (wr := [(mp_arI E a1 0 4 f0), (mp_arI E a2 0 4 f1), (mp_arL E a3 240 f2), (mp_arI E a4 0 25 f3)]) (bX10_of_63 E a0 a5 a1 a2 a3 a6 a7 a8 a4 a9 a10 a11 a12 a13 a14 a15 a16 a17 a18 a19 a20 a21 a22 a23 a24 a25 f4 y0 y1 y2 y3 y4 y5 y6 y7 y8 y9 y10 y11 y12 y13 y14 y15 y16 y17 y18 y19 y20 y21 x1 p6 p7 p8 p9 (by (first | exact c_14 | omega)) (by (first | exact x_16 | omega)) l_y1 u_y1 l_y2 u_y2 l_y3 u_y3 l_y4 u_y4 l_y11 u_y11 l_y12 u_y12 l_y13 u_y13) mp_lkX10_267 4 rfl [4, 5] [0, 1, 2, 3] rfl rfl rfl rfl rfl ⟨(Nat.le_of_ble_eq_true rfl), (Nat.le_of_ble_eq_true rfl), (Nat.le_of_ble_eq_true rfl), (Nat.le_of_ble_eq_true rfl)⟩ (Nat.le_of_ble_eq_true rfl) (by first | exact mp_fd_ok mp_k_cX10_whyNot_ok (by decide +kernel) | decide +kernel) (fun v_73 w_74 h_75 => ?_)
                  refine h_75.elim fun r_76 q_80 => q_80.elim fun e_81 q_82 => q_82.elim fun l_77 q_83 => q_83.elim fun u_78 q_84 => q_84.elim fun x_79 e_85 => ?_
                  clear h_75 q_80 q_82 q_83 q_84
                  subst e_81
                  subst e_85
                  show mp_W E X 4 84 [(3, .int i_50), (0, .ref a0), (1, .int x0), (2, .int x1)] [.int r_76, .long z_71] w4_ 0 0
                  refine mp_run mp_k_cX10_whyNot_ok hF mp_tabX10_ok [mp_i .i2l, mp_i (.aload_n 0), mp_i (.iload_n 2), mp_c (.iconst 3) 3] (by decide +kernel) ?_
                  intro z_86 h_87
                  have e_88 : z_86.toInt = r_76.toInt := mp_i2l h_87
                  show mp_W E X 4 88 [(3, .int i_50), (0, .ref a0), (1, .int x0), (2, .int x1)] [.int 3, .int x1, .ref a0, .long z_86, .long z_71] w4_ 0 0
                  refine mp_callV hF (As := [.int x1, .int 3]) (rest := [.long z_86, .long z_71]) (wr := [(mp_arI E a1 0 4 f0), (mp_arI E a2 0 4 f1), (mp_arL E a3 240 f2), (mp_arI E a4 0 25 f3)]) (bX10_of_63 E a0 a5 a1 a2 a3 a6 a7 a8 a4 a9 a10 a11 a12 a13 a14 a15 a16 a17 a18 a19 a20 a21 a22 a23 a24 a25 f4 y0 y1 y2 y3 y4 y5 y6 y7 y8 y9 y10 y11 y12 y13 y14 y15 y16 y17 y18 y19 y20 y21 x1 p6 p7 p8 p9 (by (first | exact c_14 | omega)) (by (first | exact x_16 | omega)) l_y1 u_y1 l_y2 u_y2 l_y3 u_y3 l_y4 u_y4 l_y11 u_y11 l_y12 u_y12 l_y13 u_y13) mp_lkX10_267 4 rfl [4, 5] [0, 1, 2, 3] rfl rfl rfl rfl rfl ⟨(Nat.le_of_ble_eq_true rfl), (Nat.le_of_ble_eq_true rfl), (Nat.le_of_ble_eq_true rfl), (Nat.le_of_ble_eq_true rfl)⟩ (Nat.le_of_ble_eq_true rfl) (by first | exact mp_fd_ok mp_k_cX10_whyNot_ok (by decide +kernel) | decide +kernel) (fun v_89 w_90 h_91 => ?_)
                  refine h_91.elim fun r_92 q_96 => q_96.elim fun e_97 q_98 => q_98.elim fun l_93 q_99 => q_99.elim fun u_94 q_100 => q_100.elim fun x_95 e_101 => ?_
                  clear h_91 q_96 q_98 q_99 q_100
                  subst e_97
                  subst e_101
                  show mp_W E X 4 91 [(3, .int i_50), (0, .ref a0), (1, .int x0), (2, .int x1)] [.int r_92, .long z_86, .long z_71] w4_ 0 0
                  refine mp_run mp_k_cX10_whyNot_ok hF mp_tabX10_ok [mp_c (.bipush 10) 10, mp_i .iadd, mp_i .i2l] (by decide +kernel) ?_
                  intro z_102 h_103
                  have e_104 : z_102.toInt = r_92.toInt + 10 := mp_add (a := r_92.toInt) (b := 10) h_103 rfl (by decide) (by (first | exact mp_o1740 l_93 | omega)) (by (first | exact mp_o1741 u_94 | omega))
                  intro z_105 h_106
                  have e_107 : z_105.toInt = z_102.toInt := mp_i2l h_106
                  show mp_W E X 4 95 [(3, .int i_50), (0, .ref a0), (1, .int x0), (2, .int x1)] [.long z_105, .long z_86, .long z_71] w4_ 0 0
                  refine mp_callS hF (As := [.long z_71, .long z_86, .long z_105]) (rest := []) (wr := w4_) (bX10_in_0 E z_71 z_86 z_105) mp_lkX10_97 [] [0, 1, 2, 3, 4, 5] rfl rfl rfl rfl rfl ⟨(Nat.le_of_ble_eq_true rfl), (Nat.le_of_ble_eq_true rfl), (Nat.le_of_ble_eq_true rfl), (Nat.le_of_ble_eq_true rfl)⟩ (Nat.le_of_ble_eq_true rfl) (by first | exact mp_fd_ok mp_k_cX10_whyNot_ok (by decide +kernel) | decide +kernel) (fun v_108 w_109 h_110 => ?_)
                  rcases h_110 with ⟨rfl, x_111, rfl⟩ | ⟨rfl, c_112, c_113, rfl⟩
                  · skip
                    show mp_W E X 4 98 [(3, .int i_50), (0, .ref a0), (1, .int x0), (2, .int x1)] [.int 0] w4_ 0 0
                    refine mp_run mp_k_cX10_whyNot_ok hF mp_tabX10_ok [mp_h (.ifCond .eq 26) [124]] (by decide +kernel) ?_
                    refine And.intro (fun _ => ?_) (fun c_114 => absurd c_114 (by decide))
                    show mp_W E X 4 124 [(3, .int i_50), (0, .ref a0), (1, .int x0), (2, .int x1)] [] w4_ 0 0
                    refine mp_run mp_k_cX10_whyNot_ok hF mp_tabX10_ok [mp_c (.bipush (-2)) (-2)] (by decide +kernel) ?_
                    show mp_W E X 4 126 [(3, .int i_50), (0, .ref a0), (1, .int x0), (2, .int x1)] [.int (-2)] w4_ 0 0
                    exact mp_iret hF hQ rfl rfl (Nat.le_of_ble_eq_true rfl) (Nat.le_of_ble_eq_true rfl) [4, 0, 1, 2, 3, 5] (w' := w1_) rfl rfl (Or.inl ⟨rfl, (Or.inr ⟨by (first | exact mp_o1742 c_5 c_14 c_6 x_15 c_36 x_35 | omega), by (first | exact mp_o214 e_39 c_40 | omega), Or.inr (mp_vd_no1 (mp_pt_at (k := i_50.toInt) h_72 (by simp only [Int32.toNatClampNeg]; (first | exact mp_o1743 x_53 c_5 l_51 e_67 e_70 | omega))) (by (first | exact mp_o1744 l_51 c_49 e_44 c_64 e_48 | omega)) (by (first | exact mp_o1745 x_79 x_95 e_104 e_88 x_111 e_107 | omega)))⟩), rfl⟩) (by first | exact mp_fd_ok mp_k_cX10_whyNot_ok (by decide +kernel) | decide +kernel)
                  · skip
                    have c_112 : z_86.toInt ≤ z_71.toInt := c_112
                    have c_113 : z_71.toInt ≤ z_105.toInt := c_113
                    show mp_W E X 4 98 [(3, .int i_50), (0, .ref a0), (1, .int x0), (2, .int x1)] [.int 1] w4_ 0 0
                    refine mp_run mp_k_cX10_whyNot_ok hF mp_tabX10_ok [mp_h (.ifCond .eq 26) [124]] (by decide +kernel) ?_
                    refine And.intro (fun c_115 => absurd c_115 (by decide)) (fun _ => ?_)
                    show mp_W E X 4 101 [(3, .int i_50), (0, .ref a0), (1, .int x0), (2, .int x1)] [] w4_ 0 0
                    refine mp_run mp_k_cX10_whyNot_ok hF mp_tabX10_ok [mp_i (.aload_n 0), mp_h (.getfield 16) [3, 4], mp_c (.bipush 60) 60, mp_i (.iload_n 1), mp_i .imul, mp_i (.iload_n 3), mp_i .iadd, mp_c (.iconst 1) 1, mp_i .iadd, mp_h .laload [2], mp_cl (.lconst 1) 1, mp_cl (.ldc2_w 412) 1000000] (by decide +kernel) ?_
                    refine And.intro rfl (And.intro rfl ?_)
                    intro z_116 h_117
                    have e_118 : z_116.toInt = 60 * x0.toInt := mp_mul (a := 60) (b := x0.toInt) h_117 (by decide) rfl (by (first | exact mp_o926 c_5 | omega)) (by (first | exact mp_o927 c_6 | omega))
                    intro z_119 h_120
                    have e_121 : z_119.toInt = z_116.toInt + i_50.toInt := mp_add (a := z_116.toInt) (b := i_50.toInt) h_120 rfl rfl (by (first | exact mp_o928 l_51 c_5 e_118 | omega)) (by (first | exact mp_o1738 u_52 c_6 e_118 | omega))
                    intro z_122 h_123
                    have e_124 : z_122.toInt = z_119.toInt + 1 := mp_add (a := z_119.toInt) (b := 1) h_123 rfl (by decide) (by (first | exact mp_o1746 c_5 l_51 e_118 e_121 | omega)) (by (first | exact mp_o1747 c_6 e_118 u_52 e_121 | omega))
                    refine And.intro rfl (And.intro rfl (And.intro (vp_in_iff.mpr (by (first | exact mp_o1748 x_53 l_51 c_5 c_6 e_118 e_121 e_124 c_64 e_43 | omega))) ?_))
                    intro z_125 h_126
                    show mp_W E X 4 118 [(3, .int i_50), (0, .ref a0), (1, .int x0), (2, .int x1)] [.long 1000000, .long 1, .long z_125] w4_ 0 0
                    refine mp_callS hF (As := [.long z_125, .long 1, .long 1000000]) (rest := []) (wr := w4_) (bX10_in_0 E z_125 1 1000000) mp_lkX10_97 [] [0, 1, 2, 3, 4, 5] rfl rfl rfl rfl rfl ⟨(Nat.le_of_ble_eq_true rfl), (Nat.le_of_ble_eq_true rfl), (Nat.le_of_ble_eq_true rfl), (Nat.le_of_ble_eq_true rfl)⟩ (Nat.le_of_ble_eq_true rfl) (by first | exact mp_fd_ok mp_k_cX10_whyNot_ok (by decide +kernel) | decide +kernel) (fun v_127 w_128 h_129 => ?_)
                    rcases h_129 with ⟨rfl, x_130, rfl⟩ | ⟨rfl, c_131, c_132, rfl⟩
                    · skip
                      have i_133 : (1 : Int64).toInt = 1 := by decide
                      have i_134 : (1000000 : Int64).toInt = 1000000 := by decide
                      show mp_W E X 4 121 [(3, .int i_50), (0, .ref a0), (1, .int x0), (2, .int x1)] [.int 0] w4_ 0 0
                      refine mp_run mp_k_cX10_whyNot_ok hF mp_tabX10_ok [mp_h (.ifCond .ne 6) [127]] (by decide +kernel) ?_
                      refine And.intro (fun c_135 => absurd c_135 (by decide)) (fun _ => ?_)
                      show mp_W E X 4 124 [(3, .int i_50), (0, .ref a0), (1, .int x0), (2, .int x1)] [] w4_ 0 0
                      refine mp_run mp_k_cX10_whyNot_ok hF mp_tabX10_ok [mp_c (.bipush (-2)) (-2)] (by decide +kernel) ?_
                      show mp_W E X 4 126 [(3, .int i_50), (0, .ref a0), (1, .int x0), (2, .int x1)] [.int (-2)] w4_ 0 0
                      exact mp_iret hF hQ rfl rfl (Nat.le_of_ble_eq_true rfl) (Nat.le_of_ble_eq_true rfl) [4, 0, 1, 2, 3, 5] (w' := w1_) rfl rfl (Or.inl ⟨rfl, (Or.inr ⟨by (first | exact mp_o1742 c_5 c_14 c_6 x_15 c_36 x_35 | omega), by (first | exact mp_o214 e_39 c_40 | omega), Or.inr (mp_vd_no (mp_pt_at (k := i_50.toInt) h_72 (by simp only [Int32.toNatClampNeg]; (first | exact mp_o1743 x_53 c_5 l_51 e_67 e_70 | omega))) (mp_pw_at (k := i_50.toInt) h_126 (by simp only [Int32.toNatClampNeg]; (first | exact mp_o1749 x_53 c_5 l_51 e_118 e_121 e_124 | omega))) (by (first | exact mp_o1744 l_51 c_49 e_44 c_64 e_48 | omega)) (by (first | exact mp_o1750 i_133 x_130 i_134 | omega)))⟩), rfl⟩) (by first | exact mp_fd_ok mp_k_cX10_whyNot_ok (by decide +kernel) | decide +kernel)
                    · skip
                      have c_131 : 1 ≤ z_125.toInt := c_131
                      have c_132 : z_125.toInt ≤ 1000000 := c_132
                      have i_136 : (1 : Int64).toInt = 1 := by decide
                      have i_137 : (1000000 : Int64).toInt = 1000000 := by decide
                      show mp_W E X 4 121 [(3, .int i_50), (0, .ref a0), (1, .int x0), (2, .int x1)] [.int 1] w4_ 0 0
                      refine mp_run mp_k_cX10_whyNot_ok hF mp_tabX10_ok [mp_h (.ifCond .ne 6) [127]] (by decide +kernel) ?_
                      refine And.intro (fun _ => ?_) (fun c_138 => absurd c_138 (by decide))
                      show mp_W E X 4 127 [(3, .int i_50), (0, .ref a0), (1, .int x0), (2, .int x1)] [] w4_ 0 0
                      refine mp_run mp_k_cX10_whyNot_ok hF mp_tabX10_ok [mp_c (.iinc 3 2) 2, mp_h (.goto (-73)) [57]] (by decide +kernel) ?_
                      intro z_139 h_140
                      have e_141 : z_139.toInt = i_50.toInt + 2 := mp_add (a := i_50.toInt) (b := 2) h_140 rfl (by decide) (by (first | exact mp_o672 l_51 | omega)) (by (first | exact mp_o1751 u_52 | omega))
                      show mp_W E X 4 57 [(3, .int z_139), (0, .ref a0), (1, .int x0), (2, .int x1)] [] w4_ 0 0
                      exact mp_sub [0, 1, 2, 3] rfl [0, 1, 2, 3, 4, 5] rfl rfl (ih_59 (d_58 - 1) (by (first | exact mp_o72 hm_60 c_64 | omega)) z_139 (by (first | exact mp_o675 l_51 e_141 | omega)) (by (first | exact mp_o1752 e_141 c_64 e_43 | omega)) (by (first | exact mp_o1753 x_53 e_141 | omega)) (mp_wn_s x_54 h_72 (by (first | exact mp_o1754 e_67 e_70 | omega)) (by (first | exact c_5 | omega)) (by (first | exact l_51 | omega)) (by (first | exact mp_o1755 x_79 x_95 e_104 e_88 c_112 e_107 c_113 | omega)) (by (first | exact e_141 | omega)) (by (first | exact x_53 | omega))) (mp_vd_s x_55 (mp_pt_at (k := i_50.toInt) h_72 (by simp only [Int32.toNatClampNeg]; (first | exact mp_o1743 x_53 c_5 l_51 e_67 e_70 | omega))) (mp_pw_at (k := i_50.toInt) h_126 (by simp only [Int32.toNatClampNeg]; (first | exact mp_o1749 x_53 c_5 l_51 e_118 e_121 e_124 | omega))) ⟨⟨by (first | exact mp_o677 x_79 e_88 c_112 | omega), by (first | exact mp_o678 x_95 e_104 e_107 c_113 | omega)⟩, by (first | exact c_131 | omega), by (first | exact c_132 | omega)⟩ (by (first | exact mp_o681 l_51 e_141 | omega))) (by (first | exact mp_o1756 x_53 l_51 e_141 c_49 e_44 c_64 e_48 | omega)) (by (first | exact mp_o1757 hm_60 e_141 | omega)))
            exact mp_sub [0, 1, 2, 3] rfl [0, 1, 2, 3, 4, 5] rfl rfl (lp_57 _ 0 (by decide) (by decide) (by decide) (mp_wn_0 (by decide)) (mp_vd_0 (by decide)) (by have i0 : (0 : Int32).toInt = 0 := rfl; have i1 : (1 : Int32).toInt = 1 := rfl; (first | exact mp_o1758 i0 e_44 e_43 | omega)) (Int.self_le_toNat _))
          · have c_49 : z_46.toInt ≠ 0 := c_49
            show mp_W E X 4 52 [(0, .ref a0), (1, .int x0), (2, .int x1)] [] w4_ 0 0
            refine mp_run mp_k_cX10_whyNot_ok hF mp_tabX10_ok [mp_c (.bipush (-2)) (-2)] (by decide +kernel) ?_
            show mp_W E X 4 54 [(0, .ref a0), (1, .int x0), (2, .int x1)] [.int (-2)] w4_ 0 0
            exact mp_iret hF hQ rfl rfl (Nat.le_of_ble_eq_true rfl) (Nat.le_of_ble_eq_true rfl) [4, 0, 1, 2, 3, 5] (w' := w1_) rfl rfl (Or.inl ⟨rfl, (by first | exact Or.inl (by omega) | exact Or.inr ⟨by (first | exact mp_o1742 c_5 c_14 c_6 x_15 c_36 x_35 | omega), by (first | exact mp_o214 e_39 c_40 | omega), Or.inl (by (first | exact mp_o690 e_44 e_48 c_49 | omega))⟩), rfl⟩) (by first | exact mp_fd_ok mp_k_cX10_whyNot_ok (by decide +kernel) | decide +kernel)
        · have c_40 : z_37.toInt = (-1) := (congrArg Int32.toInt c_40)
          show mp_W E X 4 38 [(0, .ref a0), (1, .int x0), (2, .int x1)] [] w4_ 0 0
          refine mp_run mp_k_cX10_whyNot_ok hF mp_tabX10_ok [mp_c (.bipush (-6)) (-6)] (by decide +kernel) ?_
          show mp_W E X 4 40 [(0, .ref a0), (1, .int x0), (2, .int x1)] [.int (-6)] w4_ 0 0
          exact mp_iret hF hQ rfl rfl (Nat.le_of_ble_eq_true rfl) (Nat.le_of_ble_eq_true rfl) [4, 0, 1, 2, 3, 5] (w' := w1_) rfl rfl (Or.inr (Or.inr ⟨rfl, (by first | (first | exact c_5 | omega) | decide), (by first | (first | exact c_6 | omega) | decide), (by first | (first | exact c_14 | omega) | decide), (by (first | exact mp_o1759 c_5 c_14 c_6 x_15 c_36 x_35 c_40 e_39 | omega)), rfl⟩)) (by first | exact mp_fd_ok mp_k_cX10_whyNot_ok (by decide +kernel) | decide +kernel)
      · have c_36 : r_34.toInt ≠ (-1) := c_36
        show mp_W E X 4 25 [(0, .ref a0), (1, .int x0), (2, .int x1)] [] w4_ 0 0
        refine mp_run mp_k_cX10_whyNot_ok hF mp_tabX10_ok [mp_c (.bipush (-2)) (-2)] (by decide +kernel) ?_
        show mp_W E X 4 27 [(0, .ref a0), (1, .int x0), (2, .int x1)] [.int (-2)] w4_ 0 0
        exact mp_iret hF hQ rfl rfl (Nat.le_of_ble_eq_true rfl) (Nat.le_of_ble_eq_true rfl) [4, 0, 1, 2, 3, 5] (w' := w1_) rfl rfl (Or.inl ⟨rfl, (by first | exact Or.inl (by (first | exact mp_o697 x_35 c_36 | omega)) | exact Or.inr ⟨by omega, by omega, Or.inl (by omega)⟩), rfl⟩) (by first | exact mp_fd_ok mp_k_cX10_whyNot_ok (by decide +kernel) | decide +kernel)
set_option maxHeartbeats 4000000 in
set_option maxRecDepth 100000 in
theorem bX10_worthBy_136 (E : mp_E) (a0 a1 a2 a3 a4 a5 a6 a7 a8 a9 a10 a11 a12 a13 a14 a15 a16 a17 a18 a19 a20 a21 a22 a23 a24 a25 : Nat) (f0 : Nat → Int32) (y0 : Int32) (y1 : Int32) (y2 : Int32) (y3 : Int32) (y4 : Int32) (y5 : Int32) (y6 : Int64) (y7 : Int32) (y8 : Int32) (y9 : Int32) (y10 : Int32) (y11 : Int32) (y12 : Int32) (y13 : Int32) (y14 : Int32) (y15 : Int32) (y16 : Int32) (y17 : Int32) (y18 : Int32) (y19 : Int32) (y20 : Int32) (y21 : Int32) (x0 : Int32) (x1 : Int32) (x2 : Int32) (p0 : mp_res f0 300 6 0 0 5) (p1 : mp_res f0 300 6 1 0 5) (p2 : mp_res f0 300 6 3 0 99) (p3 : mp_res f0 300 6 4 0 1) (l_x0 : 0 ≤ x0.toInt) (u_x0 : x0.toInt ≤ 9) (l_x2 : 0 ≤ x2.toInt) (u_x2 : x2.toInt ≤ 10) (l_y1 : 0 ≤ y1.toInt) (u_y1 : y1.toInt ≤ 1600) (l_y2 : 0 ≤ y2.toInt) (u_y2 : y2.toInt ≤ 1600) (l_y3 : 0 ≤ y3.toInt) (u_y3 : y3.toInt ≤ 4) (l_y4 : 0 ≤ y4.toInt) (u_y4 : y4.toInt ≤ 1600) (l_y11 : 0 ≤ y11.toInt) (u_y11 : y11.toInt ≤ 99) (l_y12 : 0 ≤ y12.toInt) (u_y12 : y12.toInt ≤ 5) (l_y13 : 0 ≤ y13.toInt) (u_y13 : y13.toInt ≤ 12) (q0 : 1 ≤ (f0 (6 * x0.toInt.toNat + 2)).toInt ∧ (f0 (6 * x0.toInt.toNat + 2)).toInt ≤ 1000000) : mp_Ct E yX10_worthBy cX10_worthBy 5 (some FieldType.int) 1 0 0 22 [.ref a0, .int x0, .int x1, .int x2] [(mp_ob10 a0 y0 a2 a3 a4 a5 a6 y1 y2 y3 y4 y5 y6 y7 y8 y9 y10 a7 a8 a9 a10 a11 a1 a12 a13 y11 a14 a15 a16 a17 y12 y13 y14 a18 a19 y15 y16 a20 a21 a22 y17 y18 y19 y20 a23 a24 a25 y21), (mp_arI E a1 0 300 f0)] (fun v w' => ∃ r1 : Int32, v = some (.int r1) ∧ (∃ n : Nat, n ≤ 11 ∧ r1 = mp_hv (f0 (6 * x0.toInt.toNat + 2)) (Int32.ofNat n)) ∧ (r1.toInt = mp_ce (f0 (6 * x0.toInt.toNat + 2)).toInt (mp_hb (f0 (6 * x0.toInt.toNat + 4)).toInt x1 x2.toInt.toNat).toNat) ∧ w' = [(mp_ob10 a0 y0 a2 a3 a4 a5 a6 y1 y2 y3 y4 y5 y6 y7 y8 y9 y10 a7 a8 a9 a10 a11 a1 a12 a13 y11 a14 a15 a16 a17 y12 y13 y14 a18 a19 y15 y16 a20 a21 a22 y17 y18 y19 y20 a23 a24 a25 y21), (mp_arI E a1 0 300 f0)]) := by
  refine mp_met false (by decide) (by decide) (Nat.le_of_ble_eq_true rfl) (fun X hF hQ => ?_)
  have hF : mp_F E X (RX10, cX10_worthBy, 5, (1, 0, 0, 22), (some FieldType.int), false) := hF
  let w1_ : va_W := [(mp_ob10 a0 y0 a2 a3 a4 a5 a6 y1 y2 y3 y4 y5 y6 y7 y8 y9 y10 a7 a8 a9 a10 a11 a1 a12 a13 y11 a14 a15 a16 a17 y12 y13 y14 a18 a19 y15 y16 a20 a21 a22 y17 y18 y19 y20 a23 a24 a25 y21), (mp_arI E a1 0 300 f0)]
  show mp_W E X 5 0 [(0, .ref a0), (1, .int x0), (2, .int x1), (3, .int x2)] [] w1_ 0 0
  refine mp_run mp_k_cX10_worthBy_ok hF mp_tabX10_ok [mp_i (.iload_n 3), mp_i (.istore 4)] (by decide +kernel) ?_
  show mp_W E X 5 3 [(4, .int x2), (0, .ref a0), (1, .int x0), (2, .int x1), (3, .int x2)] [] w1_ 0 0
  have lp_7 : ∀ (d_8 : Nat) (i_1 : Int32), 0 ≤ i_1.toInt → i_1.toInt ≤ 10 → (i_1.toInt ≤ x2.toInt) → (mp_hb (f0 (6 * x0.toInt.toNat + 4)).toInt x1 x2.toInt.toNat = mp_hb (f0 (6 * x0.toInt.toNat + 4)).toInt x1 i_1.toInt.toNat + (x2.toInt - i_1.toInt)) → (0 ≤ i_1.toInt) → i_1.toInt ≤ (d_8 : Int) → mp_W E X 5 3 [(4, .int i_1), (0, .ref a0), (1, .int x0), (2, .int x1), (3, .int x2)] [] [(mp_ob10 a0 y0 a2 a3 a4 a5 a6 y1 y2 y3 y4 y5 y6 y7 y8 y9 y10 a7 a8 a9 a10 a11 a1 a12 a13 y11 a14 a15 a16 a17 y12 y13 y14 a18 a19 y15 y16 a20 a21 a22 y17 y18 y19 y20 a23 a24 a25 y21), (mp_arI E a1 0 300 f0)] 0 0 := by
    intro d_8
    induction d_8 using Nat.strongRecOn with
    | ind d_8 ih_9 =>
      intro i_1 l_2 u_3 x_4 x_5 x_6 hm_10
      refine mp_run mp_k_cX10_worthBy_ok hF mp_tabX10_ok [mp_i (.iload 4), mp_h (.ifCond .le 20) [25]] (by decide +kernel) ?_
      refine And.intro (fun c_11 => ?_) (fun c_11 => ?_)
      · have c_11 : i_1.toInt ≤ 0 := c_11
        show mp_W E X 5 25 [(4, .int i_1), (0, .ref a0), (1, .int x0), (2, .int x1), (3, .int x2)] [] w1_ 0 0
        refine mp_run mp_k_cX10_worthBy_ok hF mp_tabX10_ok [mp_i (.aload_n 0), mp_i (.iload_n 1), mp_c (.iconst 2) 2] (by decide +kernel) ?_
        show mp_W E X 5 28 [(4, .int i_1), (0, .ref a0), (1, .int x0), (2, .int x1), (3, .int x2)] [.int 2, .int x0, .ref a0] w1_ 0 0
        refine mp_callV hF (As := [.int x0, .int 2]) (rest := []) (wr := []) (bX10_of_70 E a0 a1 a2 a3 a4 a5 a6 a7 a8 a9 a10 a11 a12 a13 a14 a15 a16 a17 a18 a19 a20 a21 a22 a23 a24 a25 f0 y0 y1 y2 y3 y4 y5 y6 y7 y8 y9 y10 y11 y12 y13 y14 y15 y16 y17 y18 y19 y20 y21 x0 p0 p1 p2 p3 l_x0 u_x0 l_y1 u_y1 l_y2 u_y2 l_y3 u_y3 l_y4 u_y4 l_y11 u_y11 l_y12 u_y12 l_y13 u_y13) mp_lkX10_267 0 rfl [0, 1] [] rfl rfl rfl rfl rfl ⟨(Nat.le_of_ble_eq_true rfl), (Nat.le_of_ble_eq_true rfl), (Nat.le_of_ble_eq_true rfl), (Nat.le_of_ble_eq_true rfl)⟩ (Nat.le_of_ble_eq_true rfl) (by first | exact mp_fd_ok mp_k_cX10_worthBy_ok (by decide +kernel) | decide +kernel) (fun v_12 w_13 h_14 => ?_)
        obtain ⟨r_15, rfl, x_16, rfl⟩ := h_14
        show mp_W E X 5 31 [(4, .int i_1), (0, .ref a0), (1, .int x0), (2, .int x1), (3, .int x2)] [.int r_15] w1_ 0 0
        refine mp_run mp_k_cX10_worthBy_ok hF mp_tabX10_ok [mp_i (.iload_n 3), mp_i (.iload 4), mp_i .isub, mp_i (.iload 4), mp_h (.ifCond .ne 12) [49]] (by decide +kernel) ?_
        intro z_17 h_18
        have e_19 : z_17.toInt = x2.toInt - i_1.toInt := mp_subi (a := x2.toInt) (b := i_1.toInt) h_18 rfl rfl (by omega) (by omega)
        refine And.intro (fun c_20 => ?_) (fun c_20 => ?_)
        · have c_20 : i_1.toInt ≠ 0 := c_20
          exfalso; omega
        · have c_20 : i_1.toInt = 0 := (congrArg Int32.toInt c_20)
          show mp_W E X 5 40 [(4, .int i_1), (0, .ref a0), (1, .int x0), (2, .int x1), (3, .int x2)] [.int z_17, .int r_15] w1_ 0 0
          refine mp_run mp_k_cX10_worthBy_ok hF mp_tabX10_ok [mp_i (.aload_n 0), mp_i (.iload_n 1), mp_c (.iconst 4) 4] (by decide +kernel) ?_
          show mp_W E X 5 43 [(4, .int i_1), (0, .ref a0), (1, .int x0), (2, .int x1), (3, .int x2)] [.int 4, .int x0, .ref a0, .int z_17, .int r_15] w1_ 0 0
          refine mp_callV hF (As := [.int x0, .int 4]) (rest := [.int z_17, .int r_15]) (wr := []) (bX10_of_65 E a0 a1 a2 a3 a4 a5 a6 a7 a8 a9 a10 a11 a12 a13 a14 a15 a16 a17 a18 a19 a20 a21 a22 a23 a24 a25 f0 y0 y1 y2 y3 y4 y5 y6 y7 y8 y9 y10 y11 y12 y13 y14 y15 y16 y17 y18 y19 y20 y21 x0 p0 p1 p2 p3 l_x0 u_x0 l_y1 u_y1 l_y2 u_y2 l_y3 u_y3 l_y4 u_y4 l_y11 u_y11 l_y12 u_y12 l_y13 u_y13) mp_lkX10_267 0 rfl [0, 1] [] rfl rfl rfl rfl rfl ⟨(Nat.le_of_ble_eq_true rfl), (Nat.le_of_ble_eq_true rfl), (Nat.le_of_ble_eq_true rfl), (Nat.le_of_ble_eq_true rfl)⟩ (Nat.le_of_ble_eq_true rfl) (by first | exact mp_fd_ok mp_k_cX10_worthBy_ok (by decide +kernel) | decide +kernel) (fun v_21 w_22 h_23 => ?_)
          refine h_23.elim fun r_24 q_28 => q_28.elim fun e_29 q_30 => q_30.elim fun l_25 q_31 => q_31.elim fun u_26 q_32 => q_32.elim fun x_27 e_33 => ?_
          clear h_23 q_28 q_30 q_31 q_32
          subst e_29
          subst e_33
          show mp_W E X 5 46 [(4, .int i_1), (0, .ref a0), (1, .int x0), (2, .int x1), (3, .int x2)] [.int r_24, .int z_17, .int r_15] w1_ 0 0
          refine mp_run mp_k_cX10_worthBy_ok hF mp_tabX10_ok [mp_h (.goto 4) [50], mp_i .iadd] (by decide +kernel) ?_
          intro z_34 h_35
          have e_36 : z_34.toInt = z_17.toInt + r_24.toInt := mp_add (a := z_17.toInt) (b := r_24.toInt) h_35 rfl rfl (by omega) (by omega)
          show mp_W E X 5 51 [(4, .int i_1), (0, .ref a0), (1, .int x0), (2, .int x1), (3, .int x2)] [.int z_34, .int r_15] w1_ 0 0
          refine mp_callS hF (As := [.int r_15, .int z_34]) (rest := []) (wr := w1_) (bX10_halved_71 E r_15 z_34) mp_lkX10_285 [] [0, 1] rfl rfl rfl rfl rfl ⟨(Nat.le_of_ble_eq_true rfl), (Nat.le_of_ble_eq_true rfl), (Nat.le_of_ble_eq_true rfl), (Nat.le_of_ble_eq_true rfl)⟩ (Nat.le_of_ble_eq_true rfl) (by first | exact mp_fd_ok mp_k_cX10_worthBy_ok (by decide +kernel) | decide +kernel) (fun v_37 w_38 h_39 => ?_)
          obtain ⟨r_40, rfl, x_41, rfl⟩ := h_39
          show mp_W E X 5 54 [(4, .int i_1), (0, .ref a0), (1, .int x0), (2, .int x1), (3, .int x2)] [.int r_40] w1_ 0 0
          exact mp_iret hF hQ rfl rfl (Nat.le_of_ble_eq_true rfl) (Nat.le_of_ble_eq_true rfl) [0, 1] (w' := w1_) rfl rfl ⟨r_40, rfl, ⟨z_34.toInt.toNat, by omega, by rw [x_41, Int32.toInt_inj.mp x_16, mp_ofnat (by omega)]⟩, (mp_hv_ce x_41 (by omega) q0 (by omega) (by have k9 := mp_hb_e0 x_5 (by omega); omega)), rfl⟩ (by first | exact mp_fd_ok mp_k_cX10_worthBy_ok (by decide +kernel) | decide +kernel)
      · have c_11 : 0 < i_1.toInt := c_11
        show mp_W E X 5 8 [(4, .int i_1), (0, .ref a0), (1, .int x0), (2, .int x1), (3, .int x2)] [] w1_ 0 0
        refine mp_run mp_k_cX10_worthBy_ok hF mp_tabX10_ok [mp_i (.iload_n 2), mp_i (.iload 4), mp_c (.iconst 1) 1, mp_i .isub] (by decide +kernel) ?_
        intro z_42 h_43
        have e_44 : z_42.toInt = i_1.toInt - 1 := mp_subi (a := i_1.toInt) (b := 1) h_43 rfl (by decide) (by omega) (by omega)
        show mp_W E X 5 13 [(4, .int i_1), (0, .ref a0), (1, .int x0), (2, .int x1), (3, .int x2)] [.int z_42, .int x1] w1_ 0 0
        refine mp_callS hF (As := [.int x1, .int z_42]) (rest := []) (wr := w1_) (bX10_isBit_86 E x1 z_42) mp_lkX10_312 [] [0, 1] rfl rfl rfl rfl rfl ⟨(Nat.le_of_ble_eq_true rfl), (Nat.le_of_ble_eq_true rfl), (Nat.le_of_ble_eq_true rfl), (Nat.le_of_ble_eq_true rfl)⟩ (Nat.le_of_ble_eq_true rfl) (by first | exact mp_fd_ok mp_k_cX10_worthBy_ok (by decide +kernel) | decide +kernel) (fun v_45 w_46 h_47 => ?_)
        rcases h_47 with ⟨rfl, x_48, rfl⟩ | ⟨rfl, x_49, rfl⟩
        · skip
          show mp_W E X 5 16 [(4, .int i_1), (0, .ref a0), (1, .int x0), (2, .int x1), (3, .int x2)] [.int 0] w1_ 0 0
          refine mp_run mp_k_cX10_worthBy_ok hF mp_tabX10_ok [mp_h (.ifCond .ne 9) [25]] (by decide +kernel) ?_
          refine And.intro (fun c_50 => absurd c_50 (by decide)) (fun _ => ?_)
          show mp_W E X 5 19 [(4, .int i_1), (0, .ref a0), (1, .int x0), (2, .int x1), (3, .int x2)] [] w1_ 0 0
          refine mp_run mp_k_cX10_worthBy_ok hF mp_tabX10_ok [mp_c (.iinc 4 (-1)) (-1), mp_h (.goto (-19)) [3]] (by decide +kernel) ?_
          intro z_51 h_52
          have e_53 : z_51.toInt = i_1.toInt + (-1) := mp_add (a := i_1.toInt) (b := (-1)) h_52 rfl (by decide) (by omega) (by omega)
          show mp_W E X 5 3 [(4, .int z_51), (0, .ref a0), (1, .int x0), (2, .int x1), (3, .int x2)] [] w1_ 0 0
          exact mp_sub [0, 1, 2, 3, 4] rfl [0, 1] rfl rfl (ih_9 (d_8 - 1) (by omega) z_51 (by omega) (by omega) (by omega) (mp_hb_dn x_5 (by omega) (by omega) x_48 (by omega)) (by omega) (by omega))
        · skip
          show mp_W E X 5 16 [(4, .int i_1), (0, .ref a0), (1, .int x0), (2, .int x1), (3, .int x2)] [.int 1] w1_ 0 0
          refine mp_run mp_k_cX10_worthBy_ok hF mp_tabX10_ok [mp_h (.ifCond .ne 9) [25]] (by decide +kernel) ?_
          refine And.intro (fun _ => ?_) (fun c_54 => absurd c_54 (by decide))
          show mp_W E X 5 25 [(4, .int i_1), (0, .ref a0), (1, .int x0), (2, .int x1), (3, .int x2)] [] w1_ 0 0
          refine mp_run mp_k_cX10_worthBy_ok hF mp_tabX10_ok [mp_i (.aload_n 0), mp_i (.iload_n 1), mp_c (.iconst 2) 2] (by decide +kernel) ?_
          show mp_W E X 5 28 [(4, .int i_1), (0, .ref a0), (1, .int x0), (2, .int x1), (3, .int x2)] [.int 2, .int x0, .ref a0] w1_ 0 0
          refine mp_callV hF (As := [.int x0, .int 2]) (rest := []) (wr := []) (bX10_of_70 E a0 a1 a2 a3 a4 a5 a6 a7 a8 a9 a10 a11 a12 a13 a14 a15 a16 a17 a18 a19 a20 a21 a22 a23 a24 a25 f0 y0 y1 y2 y3 y4 y5 y6 y7 y8 y9 y10 y11 y12 y13 y14 y15 y16 y17 y18 y19 y20 y21 x0 p0 p1 p2 p3 l_x0 u_x0 l_y1 u_y1 l_y2 u_y2 l_y3 u_y3 l_y4 u_y4 l_y11 u_y11 l_y12 u_y12 l_y13 u_y13) mp_lkX10_267 0 rfl [0, 1] [] rfl rfl rfl rfl rfl ⟨(Nat.le_of_ble_eq_true rfl), (Nat.le_of_ble_eq_true rfl), (Nat.le_of_ble_eq_true rfl), (Nat.le_of_ble_eq_true rfl)⟩ (Nat.le_of_ble_eq_true rfl) (by first | exact mp_fd_ok mp_k_cX10_worthBy_ok (by decide +kernel) | decide +kernel) (fun v_55 w_56 h_57 => ?_)
          obtain ⟨r_58, rfl, x_59, rfl⟩ := h_57
          show mp_W E X 5 31 [(4, .int i_1), (0, .ref a0), (1, .int x0), (2, .int x1), (3, .int x2)] [.int r_58] w1_ 0 0
          refine mp_run mp_k_cX10_worthBy_ok hF mp_tabX10_ok [mp_i (.iload_n 3), mp_i (.iload 4), mp_i .isub, mp_i (.iload 4), mp_h (.ifCond .ne 12) [49]] (by decide +kernel) ?_
          intro z_60 h_61
          have e_62 : z_60.toInt = x2.toInt - i_1.toInt := mp_subi (a := x2.toInt) (b := i_1.toInt) h_61 rfl rfl (by omega) (by omega)
          refine And.intro (fun c_63 => ?_) (fun c_63 => ?_)
          · have c_63 : i_1.toInt ≠ 0 := c_63
            show mp_W E X 5 49 [(4, .int i_1), (0, .ref a0), (1, .int x0), (2, .int x1), (3, .int x2)] [.int z_60, .int r_58] w1_ 0 0
            refine mp_run mp_k_cX10_worthBy_ok hF mp_tabX10_ok [mp_c (.iconst 0) 0, mp_i .iadd] (by decide +kernel) ?_
            intro z_64 h_65
            have e_66 : z_64.toInt = z_60.toInt + 0 := mp_add (a := z_60.toInt) (b := 0) h_65 rfl (by decide) (by omega) (by omega)
            show mp_W E X 5 51 [(4, .int i_1), (0, .ref a0), (1, .int x0), (2, .int x1), (3, .int x2)] [.int z_64, .int r_58] w1_ 0 0
            refine mp_callS hF (As := [.int r_58, .int z_64]) (rest := []) (wr := w1_) (bX10_halved_71 E r_58 z_64) mp_lkX10_285 [] [0, 1] rfl rfl rfl rfl rfl ⟨(Nat.le_of_ble_eq_true rfl), (Nat.le_of_ble_eq_true rfl), (Nat.le_of_ble_eq_true rfl), (Nat.le_of_ble_eq_true rfl)⟩ (Nat.le_of_ble_eq_true rfl) (by first | exact mp_fd_ok mp_k_cX10_worthBy_ok (by decide +kernel) | decide +kernel) (fun v_67 w_68 h_69 => ?_)
            obtain ⟨r_70, rfl, x_71, rfl⟩ := h_69
            show mp_W E X 5 54 [(4, .int i_1), (0, .ref a0), (1, .int x0), (2, .int x1), (3, .int x2)] [.int r_70] w1_ 0 0
            exact mp_iret hF hQ rfl rfl (Nat.le_of_ble_eq_true rfl) (Nat.le_of_ble_eq_true rfl) [0, 1] (w' := w1_) rfl rfl ⟨r_70, rfl, ⟨z_64.toInt.toNat, by omega, by rw [x_71, Int32.toInt_inj.mp x_59, mp_ofnat (by omega)]⟩, (mp_hv_ce x_71 (by omega) q0 (by omega) (by have k9 := mp_hb_e1 x_5 (by omega) (by omega) x_49; omega)), rfl⟩ (by first | exact mp_fd_ok mp_k_cX10_worthBy_ok (by decide +kernel) | decide +kernel)
          · have c_63 : i_1.toInt = 0 := (congrArg Int32.toInt c_63)
            exfalso; omega
  exact mp_sub [0, 1, 2, 3, 4] rfl [0, 1] rfl rfl (lp_7 _ x2 l_x2 u_x2 (by omega) (by omega) (by omega) (Int.self_le_toNat _))
set_option maxHeartbeats 4000000 in
set_option maxRecDepth 100000 in
theorem bX10_isWay_137 (E : mp_E) (a0 a1 a2 a3 a4 a5 a6 a7 a8 a9 a10 a11 a12 a13 a14 a15 a16 a17 a18 a19 a20 a21 a22 a23 a24 a25 : Nat) (f0 : Nat → Int32) (f1 : Nat → Int32) (f2 : Nat → Int64) (f3 : Nat → Int32) (f4 : Nat → Int32) (y0 : Int32) (y1 : Int32) (y2 : Int32) (y3 : Int32) (y4 : Int32) (y5 : Int32) (y6 : Int64) (y7 : Int32) (y8 : Int32) (y9 : Int32) (y10 : Int32) (y11 : Int32) (y12 : Int32) (y13 : Int32) (y14 : Int32) (y15 : Int32) (y16 : Int32) (y17 : Int32) (y18 : Int32) (y19 : Int32) (y20 : Int32) (y21 : Int32) (x0 : Int32) (x1 : Int32) (x2 : Int32) (p0 : mp_all f1 4 0 60) (p1 : mp_res f3 25 5 0 0 6) (p2 : mp_res f3 25 5 1 0 99) (p3 : mp_res f3 25 5 2 0 6) (p4 : mp_res f3 25 5 3 0 10) (p5 : mp_res f3 25 5 4 0 60) (p6 : mp_res f4 300 6 0 0 5) (p7 : mp_res f4 300 6 1 0 5) (p8 : mp_res f4 300 6 3 0 99) (p9 : mp_res f4 300 6 4 0 1) (l_x0 : 0 ≤ x0.toInt) (u_x0 : x0.toInt ≤ 3) (l_x1 : 0 ≤ x1.toInt) (u_x1 : x1.toInt ≤ 9) (l_y1 : 0 ≤ y1.toInt) (u_y1 : y1.toInt ≤ 1600) (l_y2 : 0 ≤ y2.toInt) (u_y2 : y2.toInt ≤ 1600) (l_y3 : 0 ≤ y3.toInt) (u_y3 : y3.toInt ≤ 4) (l_y4 : 0 ≤ y4.toInt) (u_y4 : y4.toInt ≤ 1600) (l_y11 : 0 ≤ y11.toInt) (u_y11 : y11.toInt ≤ 99) (l_y12 : 0 ≤ y12.toInt) (u_y12 : y12.toInt ≤ 5) (l_y13 : 0 ≤ y13.toInt) (u_y13 : y13.toInt ≤ 12) (q0 : (f1 x0.toInt.toNat).toInt % 2 = 0) (q1 : mp_wn f2 x0.toInt (f1 x0.toInt.toNat).toInt (f4 (6 * x1.toInt.toNat + 3)).toInt) (q2 : mp_vd f2 x0.toInt ((f1 x0.toInt.toNat).toInt / 2).toNat (f4 (6 * x1.toInt.toNat + 3)).toInt) (q3 : 1 ≤ (f4 (6 * x1.toInt.toNat + 2)).toInt ∧ (f4 (6 * x1.toInt.toNat + 2)).toInt ≤ 1000000) (q4 : 0 ≤ (f1 x0.toInt.toNat).toInt) : mp_Ct E yX10_isWay cX10_isWay 5 (some FieldType.boolean) 2 0 0 46 [.ref a0, .int x0, .int x1, .int x2] [(mp_ob10 a0 y0 a1 a2 a3 a6 a7 y1 y2 y3 y4 y5 y6 y7 y8 y9 y10 a8 a4 a9 a10 a11 a5 a12 a13 y11 a14 a15 a16 a17 y12 y13 y14 a18 a19 y15 y16 a20 a21 a22 y17 y18 y19 y20 a23 a24 a25 y21), (mp_arI E a1 0 4 f0), (mp_arI E a2 0 4 f1), (mp_arL E a3 240 f2), (mp_arI E a4 0 25 f3), (mp_arI E a5 0 300 f4)] (fun v w' => (v = some (.int 1) ∧ (mp_ft f2 x0.toInt (f4 (6 * x1.toInt.toNat + 3)).toInt (f4 (6 * x1.toInt.toNat + 2)).toInt (f4 (6 * x1.toInt.toNat + 4)).toInt x2 ((f1 x0.toInt.toNat).toInt / 2).toNat = true) ∧ w' = [(mp_ob10 a0 y0 a1 a2 a3 a6 a7 y1 y2 y3 y4 y5 y6 y7 y8 y9 y10 a8 a4 a9 a10 a11 a5 a12 a13 y11 a14 a15 a16 a17 y12 y13 y14 a18 a19 y15 y16 a20 a21 a22 y17 y18 y19 y20 a23 a24 a25 y21), (mp_arI E a1 0 4 f0), (mp_arI E a2 0 4 f1), (mp_arL E a3 240 f2), (mp_arI E a4 0 25 f3), (mp_arI E a5 0 300 f4)]) ∨ (v = some (.int 0) ∧ (mp_ft f2 x0.toInt (f4 (6 * x1.toInt.toNat + 3)).toInt (f4 (6 * x1.toInt.toNat + 2)).toInt (f4 (6 * x1.toInt.toNat + 4)).toInt x2 ((f1 x0.toInt.toNat).toInt / 2).toNat = false) ∧ w' = [(mp_ob10 a0 y0 a1 a2 a3 a6 a7 y1 y2 y3 y4 y5 y6 y7 y8 y9 y10 a8 a4 a9 a10 a11 a5 a12 a13 y11 a14 a15 a16 a17 y12 y13 y14 a18 a19 y15 y16 a20 a21 a22 y17 y18 y19 y20 a23 a24 a25 y21), (mp_arI E a1 0 4 f0), (mp_arI E a2 0 4 f1), (mp_arL E a3 240 f2), (mp_arI E a4 0 25 f3), (mp_arI E a5 0 300 f4)])) := by
  refine mp_met false (by decide) (by decide) (Nat.le_of_ble_eq_true rfl) (fun X hF hQ => ?_)
  have hF : mp_F E X (RX10, cX10_isWay, 5, (2, 0, 0, 46), (some FieldType.boolean), false) := hF
  let w1_ : va_W := [(mp_ob10 a0 y0 a1 a2 a3 a6 a7 y1 y2 y3 y4 y5 y6 y7 y8 y9 y10 a8 a4 a9 a10 a11 a5 a12 a13 y11 a14 a15 a16 a17 y12 y13 y14 a18 a19 y15 y16 a20 a21 a22 y17 y18 y19 y20 a23 a24 a25 y21), (mp_arI E a1 0 4 f0), (mp_arI E a2 0 4 f1), (mp_arL E a3 240 f2), (mp_arI E a4 0 25 f3), (mp_arI E a5 0 300 f4)]
  show mp_W E X 5 0 [(0, .ref a0), (1, .int x0), (2, .int x1), (3, .int x2)] [] w1_ 0 0
  refine mp_run mp_k_cX10_isWay_ok hF mp_tabX10_ok [mp_c (.iconst 0) 0, mp_i (.istore 4)] (by decide +kernel) ?_
  show mp_W E X 5 3 [(4, .int 0), (0, .ref a0), (1, .int x0), (2, .int x1), (3, .int x2)] [] w1_ 0 0
  have lp_8 : ∀ (d_9 : Nat) (i_1 : Int32), 0 ≤ i_1.toInt → i_1.toInt ≤ 78 → (i_1.toInt % 2 = 0) → (0 ≤ i_1.toInt) → (mp_ft f2 x0.toInt (f4 (6 * x1.toInt.toNat + 3)).toInt (f4 (6 * x1.toInt.toNat + 2)).toInt (f4 (6 * x1.toInt.toNat + 4)).toInt x2 (i_1.toInt / 2).toNat = true) → (i_1.toInt ≤ (f1 x0.toInt.toNat).toInt) → (f1 x0.toInt.toNat).toInt - i_1.toInt ≤ (d_9 : Int) → mp_W E X 5 3 [(4, .int i_1), (0, .ref a0), (1, .int x0), (2, .int x1), (3, .int x2)] [] [(mp_ob10 a0 y0 a1 a2 a3 a6 a7 y1 y2 y3 y4 y5 y6 y7 y8 y9 y10 a8 a4 a9 a10 a11 a5 a12 a13 y11 a14 a15 a16 a17 y12 y13 y14 a18 a19 y15 y16 a20 a21 a22 y17 y18 y19 y20 a23 a24 a25 y21), (mp_arI E a1 0 4 f0), (mp_arI E a2 0 4 f1), (mp_arL E a3 240 f2), (mp_arI E a4 0 25 f3), (mp_arI E a5 0 300 f4)] 0 0 := by
    intro d_9
    induction d_9 using Nat.strongRecOn with
    | ind d_9 ih_10 =>
      intro i_1 l_2 u_3 x_4 x_5 x_6 x_7 hm_11
      refine mp_run mp_k_cX10_isWay_ok hF mp_tabX10_ok [mp_i (.iload 4), mp_i (.aload_n 0), mp_h (.getfield 13) [2, 0], mp_i (.iload_n 1), mp_h .iaload [2], mp_h (.if_icmp .ge 56) [67]] (by decide +kernel) ?_
      refine And.intro rfl (And.intro rfl ?_)
      refine And.intro rfl (And.intro rfl (And.intro (vp_in_iff.mpr (by omega)) ?_))
      intro z_12 h_13
      have e_14 : 0 ≤ z_12.toInt ∧ z_12.toInt ≤ 60 := mp_all_ld h_13 p0 (by omega) (by omega)
      have e_15 : z_12.toInt = (f1 x0.toInt.toNat).toInt := congrArg Int32.toInt h_13
      refine And.intro (fun c_16 => ?_) (fun c_16 => ?_)
      · have c_16 : z_12.toInt ≤ i_1.toInt := c_16
        show mp_W E X 5 67 [(4, .int i_1), (0, .ref a0), (1, .int x0), (2, .int x1), (3, .int x2)] [] w1_ 0 0
        refine mp_run mp_k_cX10_isWay_ok hF mp_tabX10_ok [mp_c (.iconst 1) 1] (by decide +kernel) ?_
        show mp_W E X 5 68 [(4, .int i_1), (0, .ref a0), (1, .int x0), (2, .int x1), (3, .int x2)] [.int 1] w1_ 0 0
        exact mp_iret hF hQ rfl (by decide) (Nat.le_of_ble_eq_true rfl) (Nat.le_of_ble_eq_true rfl) [0, 1, 2, 3, 4, 5] (w' := w1_) rfl rfl (Or.inl ⟨rfl, (by have k9 := x_6; rw [show (i_1.toInt / 2).toNat = ((f1 x0.toInt.toNat).toInt / 2).toNat from by omega] at k9; exact k9), rfl⟩) (by first | exact mp_fd_ok mp_k_cX10_isWay_ok (by decide +kernel) | decide +kernel)
      · have c_16 : i_1.toInt < z_12.toInt := c_16
        show mp_W E X 5 14 [(4, .int i_1), (0, .ref a0), (1, .int x0), (2, .int x1), (3, .int x2)] [] w1_ 0 0
        refine mp_run mp_k_cX10_isWay_ok hF mp_tabX10_ok [mp_i (.aload_n 0), mp_i (.iload_n 2), mp_i (.iload_n 3), mp_i (.aload_n 0), mp_h (.getfield 16) [3, 0], mp_c (.bipush 60) 60, mp_i (.iload_n 1), mp_i .imul, mp_i (.iload 4), mp_i .iadd, mp_h .laload [3], mp_i .l2i, mp_i (.aload_n 0), mp_i (.iload_n 2), mp_c (.iconst 3) 3] (by decide +kernel) ?_
        refine And.intro rfl (And.intro rfl ?_)
        intro z_17 h_18
        have e_19 : z_17.toInt = 60 * x0.toInt := mp_mul (a := 60) (b := x0.toInt) h_18 (by decide) rfl (by omega) (by omega)
        intro z_20 h_21
        have e_22 : z_20.toInt = z_17.toInt + i_1.toInt := mp_add (a := z_17.toInt) (b := i_1.toInt) h_21 rfl rfl (by omega) (by omega)
        refine And.intro rfl (And.intro rfl (And.intro (vp_in_iff.mpr (by omega)) ?_))
        intro z_23 h_24
        have e_26 := mp_res_at p8 (6 * x1.toInt.toNat + 3) (by omega) (by omega)
        have e_25 := mp_wn_ld (slot := x0.toInt) (i := i_1.toInt) q1 h_24 (by omega) (by omega) (by omega) (by omega) (by omega)
        have pt_27 : z_23.toInt = mp_pt f2 x0.toInt (i_1.toInt / 2).toNat := mp_pt_at h_24 (by simp only [Int32.toNatClampNeg]; omega)
        intro z_28 h_29
        have e_30 : z_28.toInt = z_23.toInt := mp_l2i h_29 (by omega) (by omega)
        show mp_W E X 5 33 [(4, .int i_1), (0, .ref a0), (1, .int x0), (2, .int x1), (3, .int x2)] [.int 3, .int x1, .ref a0, .int z_28, .int x2, .int x1, .ref a0] w1_ 0 0
        refine mp_callV hF (As := [.int x1, .int 3]) (rest := [.int z_28, .int x2, .int x1, .ref a0]) (wr := [(mp_arI E a1 0 4 f0), (mp_arI E a2 0 4 f1), (mp_arL E a3 240 f2), (mp_arI E a4 0 25 f3)]) (bX10_of_63 E a0 a5 a1 a2 a3 a6 a7 a8 a4 a9 a10 a11 a12 a13 a14 a15 a16 a17 a18 a19 a20 a21 a22 a23 a24 a25 f4 y0 y1 y2 y3 y4 y5 y6 y7 y8 y9 y10 y11 y12 y13 y14 y15 y16 y17 y18 y19 y20 y21 x1 p6 p7 p8 p9 l_x1 u_x1 l_y1 u_y1 l_y2 u_y2 l_y3 u_y3 l_y4 u_y4 l_y11 u_y11 l_y12 u_y12 l_y13 u_y13) mp_lkX10_267 0 rfl [0, 5] [1, 2, 3, 4] rfl rfl rfl rfl rfl ⟨(Nat.le_of_ble_eq_true rfl), (Nat.le_of_ble_eq_true rfl), (Nat.le_of_ble_eq_true rfl), (Nat.le_of_ble_eq_true rfl)⟩ (Nat.le_of_ble_eq_true rfl) (by first | exact mp_fd_ok mp_k_cX10_isWay_ok (by decide +kernel) | decide +kernel) (fun v_31 w_32 h_33 => ?_)
        refine h_33.elim fun r_34 q_38 => q_38.elim fun e_39 q_40 => q_40.elim fun l_35 q_41 => q_41.elim fun u_36 q_42 => q_42.elim fun x_37 e_43 => ?_
        clear h_33 q_38 q_40 q_41 q_42
        subst e_39
        subst e_43
        let w2_ : va_W := [(mp_arI E a1 0 4 f0), (mp_arI E a2 0 4 f1), (mp_arL E a3 240 f2), (mp_arI E a4 0 25 f3), (mp_ob10 a0 y0 a1 a2 a3 a6 a7 y1 y2 y3 y4 y5 y6 y7 y8 y9 y10 a8 a4 a9 a10 a11 a5 a12 a13 y11 a14 a15 a16 a17 y12 y13 y14 a18 a19 y15 y16 a20 a21 a22 y17 y18 y19 y20 a23 a24 a25 y21), (mp_arI E a5 0 300 f4)]
        show mp_W E X 5 36 [(4, .int i_1), (0, .ref a0), (1, .int x0), (2, .int x1), (3, .int x2)] [.int r_34, .int z_28, .int x2, .int x1, .ref a0] w2_ 0 0
        refine mp_run mp_k_cX10_isWay_ok hF mp_tabX10_ok [mp_i .isub] (by decide +kernel) ?_
        intro z_44 h_45
        have e_46 : z_44.toInt = z_28.toInt - r_34.toInt := mp_subi (a := z_28.toInt) (b := r_34.toInt) h_45 rfl rfl (by omega) (by omega)
        show mp_W E X 5 37 [(4, .int i_1), (0, .ref a0), (1, .int x0), (2, .int x1), (3, .int x2)] [.int z_44, .int x2, .int x1, .ref a0] w2_ 0 0
        refine mp_callV hF (As := [.int x1, .int x2, .int z_44]) (rest := []) (wr := [(mp_arI E a1 0 4 f0), (mp_arI E a2 0 4 f1), (mp_arL E a3 240 f2), (mp_arI E a4 0 25 f3)]) (bX10_worthBy_136 E a0 a5 a1 a2 a3 a6 a7 a8 a4 a9 a10 a11 a12 a13 a14 a15 a16 a17 a18 a19 a20 a21 a22 a23 a24 a25 f4 y0 y1 y2 y3 y4 y5 y6 y7 y8 y9 y10 y11 y12 y13 y14 y15 y16 y17 y18 y19 y20 y21 x1 x2 z_44 p6 p7 p8 p9 l_x1 u_x1 (by omega) (by omega) l_y1 u_y1 l_y2 u_y2 l_y3 u_y3 l_y4 u_y4 l_y11 u_y11 l_y12 u_y12 l_y13 u_y13 (by assumption)) mp_lkX10_414 4 rfl [4, 5] [0, 1, 2, 3] rfl rfl rfl rfl rfl ⟨(Nat.le_of_ble_eq_true rfl), (Nat.le_of_ble_eq_true rfl), (Nat.le_of_ble_eq_true rfl), (Nat.le_of_ble_eq_true rfl)⟩ (Nat.le_of_ble_eq_true rfl) (by first | exact mp_fd_ok mp_k_cX10_isWay_ok (by decide +kernel) | decide +kernel) (fun v_47 w_48 h_49 => ?_)
        obtain ⟨r_50, rfl, x_51, x_52, rfl⟩ := h_49
        show mp_W E X 5 40 [(4, .int i_1), (0, .ref a0), (1, .int x0), (2, .int x1), (3, .int x2)] [.int r_50] w2_ 0 0
        refine mp_run mp_k_cX10_isWay_ok hF mp_tabX10_ok [mp_i .i2l, mp_i (.aload_n 0), mp_h (.getfield 16) [3, 4], mp_c (.bipush 60) 60, mp_i (.iload_n 1), mp_i .imul, mp_i (.iload 4), mp_i .iadd, mp_c (.iconst 1) 1, mp_i .iadd, mp_h .laload [2], mp_i .lcmp, mp_h (.ifCond .eq 5) [61]] (by decide +kernel) ?_
        intro z_53 h_54
        have e_55 : z_53.toInt = r_50.toInt := mp_i2l h_54
        refine And.intro rfl (And.intro rfl ?_)
        intro z_56 h_57
        have e_58 : z_56.toInt = 60 * x0.toInt := mp_mul (a := 60) (b := x0.toInt) h_57 (by decide) rfl (by omega) (by omega)
        intro z_59 h_60
        have e_61 : z_59.toInt = z_56.toInt + i_1.toInt := mp_add (a := z_56.toInt) (b := i_1.toInt) h_60 rfl rfl (by omega) (by omega)
        intro z_62 h_63
        have e_64 : z_62.toInt = z_59.toInt + 1 := mp_add (a := z_59.toInt) (b := 1) h_63 rfl (by decide) (by omega) (by omega)
        refine And.intro rfl (And.intro rfl (And.intro (vp_in_iff.mpr (by omega)) ?_))
        intro z_65 h_66
        have pw_67 : z_65.toInt = mp_pw f2 x0.toInt (i_1.toInt / 2).toNat := mp_pw_at h_66 (by simp only [Int32.toNatClampNeg]; omega)
        intro z_68 h_69
        refine And.intro (fun c_70 => ?_) (fun c_70 => ?_)
        · have c_70 : z_53.toInt = z_65.toInt := mp_lc_eq h_69 c_70
          show mp_W E X 5 61 [(4, .int i_1), (0, .ref a0), (1, .int x0), (2, .int x1), (3, .int x2)] [] w2_ 0 0
          refine mp_run mp_k_cX10_isWay_ok hF mp_tabX10_ok [mp_c (.iinc 4 2) 2, mp_h (.goto (-61)) [3]] (by decide +kernel) ?_
          intro z_71 h_72
          have e_73 : z_71.toInt = i_1.toInt + 2 := mp_add (a := i_1.toInt) (b := 2) h_72 rfl (by decide) (by omega) (by omega)
          show mp_W E X 5 3 [(4, .int z_71), (0, .ref a0), (1, .int x0), (2, .int x1), (3, .int x2)] [] w2_ 0 0
          exact mp_sub [0, 1, 2, 3, 4] rfl [4, 0, 1, 2, 3, 5] rfl rfl (ih_10 (d_9 - 1) (by omega) z_71 (by omega) (by omega) (by omega) (by omega) (mp_ft_t x_6 pt_27 pw_67 (by have k9 := x_52; rw [show (z_23.toInt - (f4 (6 * x1.toInt.toNat + 3)).toInt).toNat = z_44.toInt.toNat from by omega]; omega) (by omega)) (by omega) (by omega))
        · have c_70 : z_53.toInt ≠ z_65.toInt := mp_lc_ne h_69 c_70
          show mp_W E X 5 59 [(4, .int i_1), (0, .ref a0), (1, .int x0), (2, .int x1), (3, .int x2)] [] w2_ 0 0
          refine mp_run mp_k_cX10_isWay_ok hF mp_tabX10_ok [mp_c (.iconst 0) 0] (by decide +kernel) ?_
          show mp_W E X 5 60 [(4, .int i_1), (0, .ref a0), (1, .int x0), (2, .int x1), (3, .int x2)] [.int 0] w2_ 0 0
          exact mp_iret hF hQ rfl (by decide) (Nat.le_of_ble_eq_true rfl) (Nat.le_of_ble_eq_true rfl) [4, 0, 1, 2, 3, 5] (w' := w1_) rfl rfl (Or.inr ⟨rfl, (mp_ft_f pt_27 pw_67 (by have k9 := x_52; rw [show (z_23.toInt - (f4 (6 * x1.toInt.toNat + 3)).toInt).toNat = z_44.toInt.toNat from by omega]; omega) (by omega)), rfl⟩) (by first | exact mp_fd_ok mp_k_cX10_isWay_ok (by decide +kernel) | decide +kernel)
  exact mp_sub [0, 1, 2, 3, 4] rfl [0, 1, 2, 3, 4, 5] rfl rfl (lp_8 _ 0 (by decide) (by decide) (by decide) (by decide) (by first | rfl | decide) (by have i0 : (0 : Int32).toInt = 0 := rfl; have i1 : (1 : Int32).toInt = 1 := rfl; omega) (Int.self_le_toNat _))
set_option maxHeartbeats 4000000 in
set_option maxRecDepth 100000 in
theorem bX10_laysWays_138 (E : mp_E) (a0 a1 a2 a3 a4 a5 a6 a7 a8 a9 a10 a11 a12 a13 a14 a15 a16 a17 a18 a19 a20 a21 a22 a23 a24 a25 : Nat) (f0 : Nat → Int32) (f1 : Nat → Int32) (f2 : Nat → Int64) (f3 : Nat → Int32) (f4 : Nat → Int32) (y0 : Int32) (y1 : Int32) (y2 : Int32) (y3 : Int32) (y4 : Int32) (y5 : Int32) (y6 : Int64) (y7 : Int32) (y8 : Int32) (y9 : Int32) (y10 : Int32) (y11 : Int32) (y12 : Int32) (y13 : Int32) (y14 : Int32) (y15 : Int32) (y16 : Int32) (y17 : Int32) (y18 : Int32) (y19 : Int32) (y20 : Int32) (y21 : Int32) (x0 : Int32) (x1 : Int32) (p0 : mp_all f1 4 0 60) (p1 : mp_res f3 25 5 0 0 6) (p2 : mp_res f3 25 5 1 0 99) (p3 : mp_res f3 25 5 2 0 6) (p4 : mp_res f3 25 5 3 0 10) (p5 : mp_res f3 25 5 4 0 60) (p6 : mp_res f4 300 6 0 0 5) (p7 : mp_res f4 300 6 1 0 5) (p8 : mp_res f4 300 6 3 0 99) (p9 : mp_res f4 300 6 4 0 1) (l_x0 : 0 ≤ x0.toInt) (u_x0 : x0.toInt ≤ 3) (l_x1 : 0 ≤ x1.toInt) (u_x1 : x1.toInt ≤ 9) (l_y1 : 0 ≤ y1.toInt) (u_y1 : y1.toInt ≤ 1600) (l_y2 : 0 ≤ y2.toInt) (u_y2 : y2.toInt ≤ 1600) (l_y3 : 0 ≤ y3.toInt) (u_y3 : y3.toInt ≤ 4) (l_y4 : 0 ≤ y4.toInt) (u_y4 : y4.toInt ≤ 1600) (l_y11 : 0 ≤ y11.toInt) (u_y11 : y11.toInt ≤ 99) (l_y12 : 0 ≤ y12.toInt) (u_y12 : y12.toInt ≤ 5) (l_y13 : 0 ≤ y13.toInt) (u_y13 : y13.toInt ≤ 12) (q0 : (f1 x0.toInt.toNat).toInt % 2 = 0) (q1 : mp_wn f2 x0.toInt (f1 x0.toInt.toNat).toInt (f4 (6 * x1.toInt.toNat + 3)).toInt) (q2 : mp_vd f2 x0.toInt ((f1 x0.toInt.toNat).toInt / 2).toNat (f4 (6 * x1.toInt.toNat + 3)).toInt) (q3 : 1 ≤ (f4 (6 * x1.toInt.toNat + 2)).toInt ∧ (f4 (6 * x1.toInt.toNat + 2)).toInt ≤ 1000000) (q4 : 0 ≤ (f1 x0.toInt.toNat).toInt) : mp_Ct E yX10_laysWays cX10_laysWays 4 none 3 0 0 70 [.ref a0, .int x0, .int x1] [(mp_ob10 a0 y0 a1 a2 a3 a6 a7 y1 y2 y3 y4 y5 y6 y7 y8 y9 y10 a8 a4 a9 a10 a11 a5 a12 a13 y11 a14 a15 a16 a17 y12 y13 y14 a18 a19 y15 y16 a20 a21 a22 y17 y18 y19 y20 a23 a24 a25 y21), (mp_arI E a1 0 4 f0), (mp_arI E a2 0 4 f1), (mp_arL E a3 240 f2), (mp_arI E a4 0 25 f3), (mp_arI E a5 0 300 f4)] (fun v w' => ∃ r1 : Int32, ∃ r2 : Int32, ∃ r3 : Int32, ∃ r4 : Int32, v = none ∧ 0 ≤ r3.toInt ∧ r3.toInt ≤ 1023 ∧ (r1.toInt = mp_wN (fun m => mp_ft f2 x0.toInt (f4 (6 * x1.toInt.toNat + 3)).toInt (f4 (6 * x1.toInt.toNat + 2)).toInt (f4 (6 * x1.toInt.toNat + 4)).toInt (Int32.ofNat m) ((f1 x0.toInt.toNat).toInt / 2).toNat) 1024) ∧ (r2 = mp_wA (fun m => mp_ft f2 x0.toInt (f4 (6 * x1.toInt.toNat + 3)).toInt (f4 (6 * x1.toInt.toNat + 2)).toInt (f4 (6 * x1.toInt.toNat + 4)).toInt (Int32.ofNat m) ((f1 x0.toInt.toNat).toInt / 2).toNat) 1024) ∧ (r3 = mp_wO (fun m => mp_ft f2 x0.toInt (f4 (6 * x1.toInt.toNat + 3)).toInt (f4 (6 * x1.toInt.toNat + 2)).toInt (f4 (6 * x1.toInt.toNat + 4)).toInt (Int32.ofNat m) ((f1 x0.toInt.toNat).toInt / 2).toNat) 1024) ∧ (r4.toInt = mp_wF (fun m => mp_ft f2 x0.toInt (f4 (6 * x1.toInt.toNat + 3)).toInt (f4 (6 * x1.toInt.toNat + 2)).toInt (f4 (6 * x1.toInt.toNat + 4)).toInt (Int32.ofNat m) ((f1 x0.toInt.toNat).toInt / 2).toNat) 1024) ∧ w' = [(mp_ob10 a0 y0 a1 a2 a3 a6 a7 y1 y2 y3 y4 y5 y6 y7 y8 y9 y10 a8 a4 a9 a10 a11 a5 a12 a13 y11 a14 a15 a16 a17 y12 y13 y14 a18 a19 y15 y16 a20 a21 a22 r1 r2 r3 r4 a23 a24 a25 y21), (mp_arI E a1 0 4 f0), (mp_arI E a2 0 4 f1), (mp_arL E a3 240 f2), (mp_arI E a4 0 25 f3), (mp_arI E a5 0 300 f4)]) := by
  refine mp_met false (by decide) (by decide) (Nat.le_of_ble_eq_true rfl) (fun X hF hQ => ?_)
  have hF : mp_F E X (RX10, cX10_laysWays, 4, (3, 0, 0, 70), none, false) := hF
  let w1_ : va_W := [(mp_ob10 a0 y0 a1 a2 a3 a6 a7 y1 y2 y3 y4 y5 y6 y7 y8 y9 y10 a8 a4 a9 a10 a11 a5 a12 a13 y11 a14 a15 a16 a17 y12 y13 y14 a18 a19 y15 y16 a20 a21 a22 y17 y18 y19 y20 a23 a24 a25 y21), (mp_arI E a1 0 4 f0), (mp_arI E a2 0 4 f1), (mp_arL E a3 240 f2), (mp_arI E a4 0 25 f3), (mp_arI E a5 0 300 f4)]
  show mp_W E X 4 0 [(0, .ref a0), (1, .int x0), (2, .int x1)] [] w1_ 0 0
  refine mp_run mp_k_cX10_laysWays_ok hF mp_tabX10_ok [mp_i (.aload_n 0), mp_c (.iconst 0) 0, mp_h (.putfield 417) [39, 0]] (by decide +kernel) ?_
  refine And.intro rfl (And.intro rfl (And.intro rfl (And.intro rfl (And.intro (Nat.le_of_ble_eq_true rfl) ?_))))
  let w2_ : va_W := [(mp_ob10 a0 y0 a1 a2 a3 a6 a7 y1 y2 y3 y4 y5 y6 y7 y8 y9 y10 a8 a4 a9 a10 a11 a5 a12 a13 y11 a14 a15 a16 a17 y12 y13 y14 a18 a19 y15 y16 a20 a21 a22 0 y18 y19 y20 a23 a24 a25 y21), (mp_arI E a1 0 4 f0), (mp_arI E a2 0 4 f1), (mp_arL E a3 240 f2), (mp_arI E a4 0 25 f3), (mp_arI E a5 0 300 f4)]
  show mp_W E X 4 5 [(0, .ref a0), (1, .int x0), (2, .int x1)] [] w2_ 0 0
  refine mp_run mp_k_cX10_laysWays_ok hF mp_tabX10_ok [mp_i (.aload_n 0), mp_c (.sipush 1023) 1023, mp_h (.putfield 420) [40, 0]] (by decide +kernel) ?_
  refine And.intro rfl (And.intro rfl (And.intro rfl (And.intro rfl (And.intro (Nat.le_of_ble_eq_true rfl) ?_))))
  let w3_ : va_W := [(mp_ob10 a0 y0 a1 a2 a3 a6 a7 y1 y2 y3 y4 y5 y6 y7 y8 y9 y10 a8 a4 a9 a10 a11 a5 a12 a13 y11 a14 a15 a16 a17 y12 y13 y14 a18 a19 y15 y16 a20 a21 a22 0 1023 y19 y20 a23 a24 a25 y21), (mp_arI E a1 0 4 f0), (mp_arI E a2 0 4 f1), (mp_arL E a3 240 f2), (mp_arI E a4 0 25 f3), (mp_arI E a5 0 300 f4)]
  show mp_W E X 4 12 [(0, .ref a0), (1, .int x0), (2, .int x1)] [] w3_ 0 0
  refine mp_run mp_k_cX10_laysWays_ok hF mp_tabX10_ok [mp_i (.aload_n 0), mp_c (.iconst 0) 0, mp_h (.putfield 423) [41, 0]] (by decide +kernel) ?_
  refine And.intro rfl (And.intro rfl (And.intro rfl (And.intro rfl (And.intro (Nat.le_of_ble_eq_true rfl) ?_))))
  let w4_ : va_W := [(mp_ob10 a0 y0 a1 a2 a3 a6 a7 y1 y2 y3 y4 y5 y6 y7 y8 y9 y10 a8 a4 a9 a10 a11 a5 a12 a13 y11 a14 a15 a16 a17 y12 y13 y14 a18 a19 y15 y16 a20 a21 a22 0 1023 0 y20 a23 a24 a25 y21), (mp_arI E a1 0 4 f0), (mp_arI E a2 0 4 f1), (mp_arL E a3 240 f2), (mp_arI E a4 0 25 f3), (mp_arI E a5 0 300 f4)]
  show mp_W E X 4 17 [(0, .ref a0), (1, .int x0), (2, .int x1)] [] w4_ 0 0
  refine mp_run mp_k_cX10_laysWays_ok hF mp_tabX10_ok [mp_i (.aload_n 0), mp_c (.ldc 142) 1000000, mp_h (.putfield 426) [42, 0]] (by decide +kernel) ?_
  refine And.intro rfl (And.intro rfl (And.intro rfl (And.intro rfl (And.intro (Nat.le_of_ble_eq_true rfl) ?_))))
  let w5_ : va_W := [(mp_ob10 a0 y0 a1 a2 a3 a6 a7 y1 y2 y3 y4 y5 y6 y7 y8 y9 y10 a8 a4 a9 a10 a11 a5 a12 a13 y11 a14 a15 a16 a17 y12 y13 y14 a18 a19 y15 y16 a20 a21 a22 0 1023 0 1000000 a23 a24 a25 y21), (mp_arI E a1 0 4 f0), (mp_arI E a2 0 4 f1), (mp_arL E a3 240 f2), (mp_arI E a4 0 25 f3), (mp_arI E a5 0 300 f4)]
  show mp_W E X 4 23 [(0, .ref a0), (1, .int x0), (2, .int x1)] [] w5_ 0 0
  refine mp_run mp_k_cX10_laysWays_ok hF mp_tabX10_ok [mp_c (.iconst 0) 0, mp_i (.istore_n 3)] (by decide +kernel) ?_
  show mp_W E X 4 25 [(3, .int 0), (0, .ref a0), (1, .int x0), (2, .int x1)] [] w5_ 0 0
  have lp_15 : ∀ (d_16 : Nat) (i_1 : Int32) (i_2 : Int32) (i_3 : Int32) (i_4 : Int32) (i_5 : Int32), 0 ≤ i_1.toInt → i_1.toInt ≤ 1024 → 0 ≤ i_5.toInt → i_5.toInt ≤ 1023 → (i_2.toInt = mp_wN (fun m => mp_ft f2 x0.toInt (f4 (6 * x1.toInt.toNat + 3)).toInt (f4 (6 * x1.toInt.toNat + 2)).toInt (f4 (6 * x1.toInt.toNat + 4)).toInt (Int32.ofNat m) ((f1 x0.toInt.toNat).toInt / 2).toNat) i_1.toInt.toNat) → (i_3 = mp_wA (fun m => mp_ft f2 x0.toInt (f4 (6 * x1.toInt.toNat + 3)).toInt (f4 (6 * x1.toInt.toNat + 2)).toInt (f4 (6 * x1.toInt.toNat + 4)).toInt (Int32.ofNat m) ((f1 x0.toInt.toNat).toInt / 2).toNat) i_1.toInt.toNat) → (i_5 = mp_wO (fun m => mp_ft f2 x0.toInt (f4 (6 * x1.toInt.toNat + 3)).toInt (f4 (6 * x1.toInt.toNat + 2)).toInt (f4 (6 * x1.toInt.toNat + 4)).toInt (Int32.ofNat m) ((f1 x0.toInt.toNat).toInt / 2).toNat) i_1.toInt.toNat) → (i_4.toInt = mp_wF (fun m => mp_ft f2 x0.toInt (f4 (6 * x1.toInt.toNat + 3)).toInt (f4 (6 * x1.toInt.toNat + 2)).toInt (f4 (6 * x1.toInt.toNat + 4)).toInt (Int32.ofNat m) ((f1 x0.toInt.toNat).toInt / 2).toNat) i_1.toInt.toNat) → (0 ≤ i_1.toInt ∧ i_1.toInt ≤ 1024) → -(i_1.toInt) + 1024 ≤ (d_16 : Int) → mp_W E X 4 25 [(3, .int i_1), (0, .ref a0), (1, .int x0), (2, .int x1)] [] [(mp_ob10 a0 y0 a1 a2 a3 a6 a7 y1 y2 y3 y4 y5 y6 y7 y8 y9 y10 a8 a4 a9 a10 a11 a5 a12 a13 y11 a14 a15 a16 a17 y12 y13 y14 a18 a19 y15 y16 a20 a21 a22 i_2 i_3 i_5 i_4 a23 a24 a25 y21), (mp_arI E a1 0 4 f0), (mp_arI E a2 0 4 f1), (mp_arL E a3 240 f2), (mp_arI E a4 0 25 f3), (mp_arI E a5 0 300 f4)] 0 0 := by
    intro d_16
    induction d_16 using Nat.strongRecOn with
    | ind d_16 ih_17 =>
      intro i_1 i_2 i_3 i_4 i_5 l_6 u_7 l_8 u_9 x_10 x_11 x_12 x_13 x_14 hm_18
      refine mp_run mp_k_cX10_laysWays_ok hF mp_tabX10_ok [mp_i (.iload_n 3), mp_c (.sipush 1024) 1024, mp_h (.if_icmp .ge 78) [107]] (by decide +kernel) ?_
      refine And.intro (fun c_19 => ?_) (fun c_19 => ?_)
      · have c_19 : 1024 ≤ i_1.toInt := c_19
        let w6_ : va_W := [(mp_ob10 a0 y0 a1 a2 a3 a6 a7 y1 y2 y3 y4 y5 y6 y7 y8 y9 y10 a8 a4 a9 a10 a11 a5 a12 a13 y11 a14 a15 a16 a17 y12 y13 y14 a18 a19 y15 y16 a20 a21 a22 i_2 i_3 i_5 i_4 a23 a24 a25 y21), (mp_arI E a1 0 4 f0), (mp_arI E a2 0 4 f1), (mp_arL E a3 240 f2), (mp_arI E a4 0 25 f3), (mp_arI E a5 0 300 f4)]
        show mp_W E X 4 107 [(3, .int i_1), (0, .ref a0), (1, .int x0), (2, .int x1)] [] w6_ 0 0
        exact mp_vret hF hQ rfl (Nat.le_of_ble_eq_true rfl) (Nat.le_of_ble_eq_true rfl) [0, 1, 2, 3, 4, 5] (w' := w6_) rfl rfl ⟨i_2, i_3, i_5, i_4, rfl, l_8, u_9, (by have k9 := x_10; rw [show i_1.toInt.toNat = 1024 from by omega] at k9; exact k9), (by have k9 := x_11; rw [show i_1.toInt.toNat = 1024 from by omega] at k9; exact k9), (by have k9 := x_12; rw [show i_1.toInt.toNat = 1024 from by omega] at k9; exact k9), (by have k9 := x_13; rw [show i_1.toInt.toNat = 1024 from by omega] at k9; exact k9), rfl⟩ (by first | exact mp_fd_ok mp_k_cX10_laysWays_ok (by decide +kernel) | decide +kernel)
      · have c_19 : i_1.toInt < 1024 := c_19
        let w7_ : va_W := [(mp_ob10 a0 y0 a1 a2 a3 a6 a7 y1 y2 y3 y4 y5 y6 y7 y8 y9 y10 a8 a4 a9 a10 a11 a5 a12 a13 y11 a14 a15 a16 a17 y12 y13 y14 a18 a19 y15 y16 a20 a21 a22 i_2 i_3 i_5 i_4 a23 a24 a25 y21), (mp_arI E a1 0 4 f0), (mp_arI E a2 0 4 f1), (mp_arL E a3 240 f2), (mp_arI E a4 0 25 f3), (mp_arI E a5 0 300 f4)]
        show mp_W E X 4 32 [(3, .int i_1), (0, .ref a0), (1, .int x0), (2, .int x1)] [] w7_ 0 0
        refine mp_run mp_k_cX10_laysWays_ok hF mp_tabX10_ok [mp_i (.aload_n 0), mp_i (.iload_n 1), mp_i (.iload_n 2), mp_i (.iload_n 3)] (by decide +kernel) ?_
        show mp_W E X 4 36 [(3, .int i_1), (0, .ref a0), (1, .int x0), (2, .int x1)] [.int i_1, .int x1, .int x0, .ref a0] w7_ 0 0
        refine mp_callV hF (As := [.int x0, .int x1, .int i_1]) (rest := []) (wr := []) (bX10_isWay_137 E a0 a1 a2 a3 a4 a5 a6 a7 a8 a9 a10 a11 a12 a13 a14 a15 a16 a17 a18 a19 a20 a21 a22 a23 a24 a25 f0 f1 f2 f3 f4 y0 y1 y2 y3 y4 y5 y6 y7 y8 y9 y10 y11 y12 y13 y14 y15 y16 i_2 i_3 i_5 i_4 y21 x0 x1 i_1 p0 p1 p2 p3 p4 p5 p6 p7 p8 p9 l_x0 u_x0 l_x1 u_x1 l_y1 u_y1 l_y2 u_y2 l_y3 u_y3 l_y4 u_y4 l_y11 u_y11 l_y12 u_y12 l_y13 u_y13 (by first | assumption | omega) (by assumption) (by assumption) (by first | assumption | (have k9 := q0 x1.toInt.toNat (by omega); omega)) (by first | assumption | omega)) mp_lkX10_429 0 rfl [0, 1, 2, 3, 4, 5] [] rfl rfl rfl rfl rfl ⟨(Nat.le_of_ble_eq_true rfl), (Nat.le_of_ble_eq_true rfl), (Nat.le_of_ble_eq_true rfl), (Nat.le_of_ble_eq_true rfl)⟩ (Nat.le_of_ble_eq_true rfl) (by first | exact mp_fd_ok mp_k_cX10_laysWays_ok (by decide +kernel) | decide +kernel) (fun v_20 w_21 h_22 => ?_)
        rcases h_22 with ⟨rfl, x_23, rfl⟩ | ⟨rfl, x_24, rfl⟩
        · skip
          show mp_W E X 4 39 [(3, .int i_1), (0, .ref a0), (1, .int x0), (2, .int x1)] [.int 1] w7_ 0 0
          refine mp_run mp_k_cX10_laysWays_ok hF mp_tabX10_ok [mp_h (.ifCond .ne 6) [45]] (by decide +kernel) ?_
          refine And.intro (fun _ => ?_) (fun c_25 => absurd c_25 (by decide))
          show mp_W E X 4 45 [(3, .int i_1), (0, .ref a0), (1, .int x0), (2, .int x1)] [] w7_ 0 0
          refine mp_run mp_k_cX10_laysWays_ok hF mp_tabX10_ok [mp_i (.aload_n 0), mp_i .dup, mp_h (.getfield 417) [39, 0], mp_c (.iconst 1) 1, mp_i .iadd, mp_h (.putfield 417) [39, 0]] (by decide +kernel) ?_
          refine And.intro rfl ?_
          refine And.intro rfl (And.intro rfl ?_)
          intro z_26 h_27
          have e_28 := mp_bnd i_2
          refine And.intro rfl (And.intro rfl (And.intro rfl (And.intro rfl (And.intro (Nat.le_of_ble_eq_true rfl) ?_))))
          let w8_ : va_W := [(mp_ob10 a0 y0 a1 a2 a3 a6 a7 y1 y2 y3 y4 y5 y6 y7 y8 y9 y10 a8 a4 a9 a10 a11 a5 a12 a13 y11 a14 a15 a16 a17 y12 y13 y14 a18 a19 y15 y16 a20 a21 a22 z_26 i_3 i_5 i_4 a23 a24 a25 y21), (mp_arI E a1 0 4 f0), (mp_arI E a2 0 4 f1), (mp_arL E a3 240 f2), (mp_arI E a4 0 25 f3), (mp_arI E a5 0 300 f4)]
          show mp_W E X 4 55 [(3, .int i_1), (0, .ref a0), (1, .int x0), (2, .int x1)] [] w8_ 0 0
          refine mp_run mp_k_cX10_laysWays_ok hF mp_tabX10_ok [mp_i (.aload_n 0), mp_i .dup, mp_h (.getfield 420) [40, 0], mp_i (.iload_n 3), mp_i .iand, mp_h (.putfield 420) [40, 0]] (by decide +kernel) ?_
          refine And.intro rfl ?_
          refine And.intro rfl (And.intro rfl ?_)
          intro z_30 h_31
          refine And.intro rfl (And.intro rfl (And.intro rfl (And.intro rfl (And.intro (Nat.le_of_ble_eq_true rfl) ?_))))
          let w9_ : va_W := [(mp_ob10 a0 y0 a1 a2 a3 a6 a7 y1 y2 y3 y4 y5 y6 y7 y8 y9 y10 a8 a4 a9 a10 a11 a5 a12 a13 y11 a14 a15 a16 a17 y12 y13 y14 a18 a19 y15 y16 a20 a21 a22 z_26 z_30 i_5 i_4 a23 a24 a25 y21), (mp_arI E a1 0 4 f0), (mp_arI E a2 0 4 f1), (mp_arL E a3 240 f2), (mp_arI E a4 0 25 f3), (mp_arI E a5 0 300 f4)]
          show mp_W E X 4 65 [(3, .int i_1), (0, .ref a0), (1, .int x0), (2, .int x1)] [] w9_ 0 0
          refine mp_run mp_k_cX10_laysWays_ok hF mp_tabX10_ok [mp_i (.aload_n 0), mp_i .dup, mp_h (.getfield 423) [41, 0], mp_i (.iload_n 3), mp_i .ior, mp_h (.putfield 423) [41, 0]] (by decide +kernel) ?_
          refine And.intro rfl ?_
          refine And.intro rfl (And.intro rfl ?_)
          intro z_33 h_34
          have e_36 : 0 ≤ z_33.toInt ∧ z_33.toInt ≤ 1023 := mp_or10 h_34 ⟨by omega, by omega⟩ ⟨by omega, by omega⟩
          refine And.intro rfl (And.intro rfl (And.intro rfl (And.intro rfl (And.intro (Nat.le_of_ble_eq_true rfl) ?_))))
          let w10_ : va_W := [(mp_ob10 a0 y0 a1 a2 a3 a6 a7 y1 y2 y3 y4 y5 y6 y7 y8 y9 y10 a8 a4 a9 a10 a11 a5 a12 a13 y11 a14 a15 a16 a17 y12 y13 y14 a18 a19 y15 y16 a20 a21 a22 z_26 z_30 z_33 i_4 a23 a24 a25 y21), (mp_arI E a1 0 4 f0), (mp_arI E a2 0 4 f1), (mp_arL E a3 240 f2), (mp_arI E a4 0 25 f3), (mp_arI E a5 0 300 f4)]
          show mp_W E X 4 75 [(3, .int i_1), (0, .ref a0), (1, .int x0), (2, .int x1)] [] w10_ 0 0
          refine mp_run mp_k_cX10_laysWays_ok hF mp_tabX10_ok [mp_i (.aload_n 0), mp_i (.iload_n 3)] (by decide +kernel) ?_
          show mp_W E X 4 77 [(3, .int i_1), (0, .ref a0), (1, .int x0), (2, .int x1)] [.int i_1, .ref a0] w10_ 0 0
          refine mp_callS hF (As := [.int i_1]) (rest := [.ref a0]) (wr := w10_) (bX10_sizeOf_116 E i_1) mp_lkX10_373 [] [0, 1, 2, 3, 4, 5] rfl rfl rfl rfl rfl ⟨(Nat.le_of_ble_eq_true rfl), (Nat.le_of_ble_eq_true rfl), (Nat.le_of_ble_eq_true rfl), (Nat.le_of_ble_eq_true rfl)⟩ (Nat.le_of_ble_eq_true rfl) (by first | exact mp_fd_ok mp_k_cX10_laysWays_ok (by decide +kernel) | decide +kernel) (fun v_37 w_38 h_39 => ?_)
          obtain ⟨r_40, rfl, x_41, rfl⟩ := h_39
          show mp_W E X 4 80 [(3, .int i_1), (0, .ref a0), (1, .int x0), (2, .int x1)] [.int r_40, .ref a0] w10_ 0 0
          refine mp_run mp_k_cX10_laysWays_ok hF mp_tabX10_ok [mp_i (.aload_n 0), mp_h (.getfield 426) [42, 0], mp_h (.if_icmp .ge 10) [94]] (by decide +kernel) ?_
          refine And.intro rfl (And.intro rfl ?_)
          refine And.intro (fun c_42 => ?_) (fun c_42 => ?_)
          · have c_42 : i_4.toInt ≤ r_40.toInt := c_42
            show mp_W E X 4 94 [(3, .int i_1), (0, .ref a0), (1, .int x0), (2, .int x1)] [.ref a0] w10_ 0 0
            refine mp_run mp_k_cX10_laysWays_ok hF mp_tabX10_ok [mp_i (.aload_n 0), mp_h (.getfield 426) [42, 0], mp_h (.putfield 426) [42, 0]] (by decide +kernel) ?_
            refine And.intro rfl (And.intro rfl ?_)
            refine And.intro rfl (And.intro rfl (And.intro rfl (And.intro rfl (And.intro (Nat.le_of_ble_eq_true rfl) ?_))))
            show mp_W E X 4 101 [(3, .int i_1), (0, .ref a0), (1, .int x0), (2, .int x1)] [] w10_ 0 0
            refine mp_run mp_k_cX10_laysWays_ok hF mp_tabX10_ok [mp_c (.iinc 3 1) 1, mp_h (.goto (-79)) [25]] (by decide +kernel) ?_
            intro z_43 h_44
            have e_45 : z_43.toInt = i_1.toInt + 1 := mp_add (a := i_1.toInt) (b := 1) h_44 rfl (by decide) (by omega) (by omega)
            show mp_W E X 4 25 [(3, .int z_43), (0, .ref a0), (1, .int x0), (2, .int x1)] [] w10_ 0 0
            exact mp_sub [0, 1, 2, 3] rfl [0, 1, 2, 3, 4, 5] rfl rfl (ih_17 (d_16 - 1) (by omega) z_43 z_26 z_30 i_4 z_33 (by omega) (by omega) (by omega) (by omega) (mp_wN_t x_10 (by show mp_ft _ _ _ _ _ (Int32.ofNat _) _ = true; rw [mp_ofnat (by omega)]; exact x_23) ⟨by omega, by omega⟩ (mp_inc h_27 (mp_wN_bd x_10 ⟨by omega, by omega⟩))) (mp_wA_t x_11 (by show mp_ft _ _ _ _ _ (Int32.ofNat _) _ = true; rw [mp_ofnat (by omega)]; exact x_23) ⟨by omega, by omega⟩ h_31) (mp_wO_t x_12 (by show mp_ft _ _ _ _ _ (Int32.ofNat _) _ = true; rw [mp_ofnat (by omega)]; exact x_23) ⟨by omega, by omega⟩ h_34) (mp_wF_n x_13 ⟨by omega, by omega⟩ (by have k9 := (x_41 ⟨by omega, by omega⟩); omega)) (by omega) (by omega))
          · have c_42 : r_40.toInt < i_4.toInt := c_42
            show mp_W E X 4 87 [(3, .int i_1), (0, .ref a0), (1, .int x0), (2, .int x1)] [.ref a0] w10_ 0 0
            refine mp_run mp_k_cX10_laysWays_ok hF mp_tabX10_ok [mp_i (.iload_n 3)] (by decide +kernel) ?_
            show mp_W E X 4 88 [(3, .int i_1), (0, .ref a0), (1, .int x0), (2, .int x1)] [.int i_1, .ref a0] w10_ 0 0
            refine mp_callS hF (As := [.int i_1]) (rest := [.ref a0]) (wr := w10_) (bX10_sizeOf_116 E i_1) mp_lkX10_373 [] [0, 1, 2, 3, 4, 5] rfl rfl rfl rfl rfl ⟨(Nat.le_of_ble_eq_true rfl), (Nat.le_of_ble_eq_true rfl), (Nat.le_of_ble_eq_true rfl), (Nat.le_of_ble_eq_true rfl)⟩ (Nat.le_of_ble_eq_true rfl) (by first | exact mp_fd_ok mp_k_cX10_laysWays_ok (by decide +kernel) | decide +kernel) (fun v_46 w_47 h_48 => ?_)
            obtain ⟨r_49, rfl, x_50, rfl⟩ := h_48
            show mp_W E X 4 91 [(3, .int i_1), (0, .ref a0), (1, .int x0), (2, .int x1)] [.int r_49, .ref a0] w10_ 0 0
            refine mp_run mp_k_cX10_laysWays_ok hF mp_tabX10_ok [mp_h (.goto 7) [98], mp_h (.putfield 426) [42, 0]] (by decide +kernel) ?_
            refine And.intro rfl (And.intro rfl (And.intro rfl (And.intro rfl (And.intro (Nat.le_of_ble_eq_true rfl) ?_))))
            let w11_ : va_W := [(mp_ob10 a0 y0 a1 a2 a3 a6 a7 y1 y2 y3 y4 y5 y6 y7 y8 y9 y10 a8 a4 a9 a10 a11 a5 a12 a13 y11 a14 a15 a16 a17 y12 y13 y14 a18 a19 y15 y16 a20 a21 a22 z_26 z_30 z_33 r_49 a23 a24 a25 y21), (mp_arI E a1 0 4 f0), (mp_arI E a2 0 4 f1), (mp_arL E a3 240 f2), (mp_arI E a4 0 25 f3), (mp_arI E a5 0 300 f4)]
            show mp_W E X 4 101 [(3, .int i_1), (0, .ref a0), (1, .int x0), (2, .int x1)] [] w11_ 0 0
            refine mp_run mp_k_cX10_laysWays_ok hF mp_tabX10_ok [mp_c (.iinc 3 1) 1, mp_h (.goto (-79)) [25]] (by decide +kernel) ?_
            intro z_51 h_52
            have e_53 : z_51.toInt = i_1.toInt + 1 := mp_add (a := i_1.toInt) (b := 1) h_52 rfl (by decide) (by omega) (by omega)
            show mp_W E X 4 25 [(3, .int z_51), (0, .ref a0), (1, .int x0), (2, .int x1)] [] w11_ 0 0
            exact mp_sub [0, 1, 2, 3] rfl [0, 1, 2, 3, 4, 5] rfl rfl (ih_17 (d_16 - 1) (by omega) z_51 z_26 z_30 r_49 z_33 (by omega) (by omega) (by omega) (by omega) (mp_wN_t x_10 (by show mp_ft _ _ _ _ _ (Int32.ofNat _) _ = true; rw [mp_ofnat (by omega)]; exact x_23) ⟨by omega, by omega⟩ (mp_inc h_27 (mp_wN_bd x_10 ⟨by omega, by omega⟩))) (mp_wA_t x_11 (by show mp_ft _ _ _ _ _ (Int32.ofNat _) _ = true; rw [mp_ofnat (by omega)]; exact x_23) ⟨by omega, by omega⟩ h_31) (mp_wO_t x_12 (by show mp_ft _ _ _ _ _ (Int32.ofNat _) _ = true; rw [mp_ofnat (by omega)]; exact x_23) ⟨by omega, by omega⟩ h_34) ((x_50 ⟨by omega, by omega⟩).trans (mp_wF_t x_13 (by show mp_ft _ _ _ _ _ (Int32.ofNat _) _ = true; rw [mp_ofnat (by omega)]; exact x_23) ⟨by omega, by omega⟩ (by have k9 := (x_41 ⟨by omega, by omega⟩); omega))) (by omega) (by omega))
        · skip
          show mp_W E X 4 39 [(3, .int i_1), (0, .ref a0), (1, .int x0), (2, .int x1)] [.int 0] w7_ 0 0
          refine mp_run mp_k_cX10_laysWays_ok hF mp_tabX10_ok [mp_h (.ifCond .ne 6) [45]] (by decide +kernel) ?_
          refine And.intro (fun c_54 => absurd c_54 (by decide)) (fun _ => ?_)
          show mp_W E X 4 42 [(3, .int i_1), (0, .ref a0), (1, .int x0), (2, .int x1)] [] w7_ 0 0
          refine mp_run mp_k_cX10_laysWays_ok hF mp_tabX10_ok [mp_h (.goto 59) [101], mp_c (.iinc 3 1) 1, mp_h (.goto (-79)) [25]] (by decide +kernel) ?_
          intro z_55 h_56
          have e_57 : z_55.toInt = i_1.toInt + 1 := mp_add (a := i_1.toInt) (b := 1) h_56 rfl (by decide) (by omega) (by omega)
          show mp_W E X 4 25 [(3, .int z_55), (0, .ref a0), (1, .int x0), (2, .int x1)] [] w7_ 0 0
          exact mp_sub [0, 1, 2, 3] rfl [0, 1, 2, 3, 4, 5] rfl rfl (ih_17 (d_16 - 1) (by omega) z_55 i_2 i_3 i_4 i_5 (by omega) (by omega) l_8 u_9 (mp_wN_f x_10 (by show mp_ft _ _ _ _ _ (Int32.ofNat _) _ = false; rw [mp_ofnat (by omega)]; exact x_24) ⟨by omega, by omega⟩) (mp_wA_f x_11 (by show mp_ft _ _ _ _ _ (Int32.ofNat _) _ = false; rw [mp_ofnat (by omega)]; exact x_24) ⟨by omega, by omega⟩) (mp_wO_f x_12 (by show mp_ft _ _ _ _ _ (Int32.ofNat _) _ = false; rw [mp_ofnat (by omega)]; exact x_24) ⟨by omega, by omega⟩) (mp_wF_f x_13 (by show mp_ft _ _ _ _ _ (Int32.ofNat _) _ = false; rw [mp_ofnat (by omega)]; exact x_24) ⟨by omega, by omega⟩) (by omega) (by omega))
  exact mp_sub [0, 1, 2, 3] rfl [0, 1, 2, 3, 4, 5] rfl rfl (lp_15 _ 0 0 1023 1000000 0 (by decide) (by decide) (by decide) (by decide) (by first | rfl | decide) (by first | rfl | decide) (by first | rfl | decide) (by first | rfl | decide) (by have i0 : (0 : Int32).toInt = 0 := rfl; have i1 : (1 : Int32).toInt = 1 := rfl; omega) (Int.self_le_toNat _))
