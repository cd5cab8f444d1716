set_option maxHeartbeats 4000000 in
set_option maxRecDepth 100000 in
theorem bX10_ring_132 (E : mp_E) (a0 a1 a2 a3 a4 a5 a6 a7 a8 a9 a10 a11 a12 a13 a14 a15 a16 a17 a18 a19 a20 a21 a22 a23 a24 a25 : Nat) (f0 : Nat → Int32) (f1 : Nat → Int32) (f2 : Nat → Int32) (f3 : Nat → Int32) (f4 : Nat → Int32) (f5 : Nat → Int32) (f6 : Nat → Int32) (f7 : Nat → Int32) (f8 : Nat → Int32) (f9 : Nat → Int32) (f10 : Nat → Int32) (y0 : Int32) (y1 : Int32) (y2 : Int32) (y3 : Int32) (y4 : Int32) (y5 : Int32) (y6 : Int64) (y7 : Int32) (y8 : Int32) (y9 : Int32) (y10 : Int32) (y11 : Int32) (y12 : Int32) (y13 : Int32) (y14 : Int32) (y15 : Int32) (y16 : Int32) (y17 : Int32) (y18 : Int32) (y19 : Int32) (y20 : Int32) (y21 : Int32) (x0 : Int32) (p0 : mp_res f1 25 5 0 0 6) (p1 : mp_res f1 25 5 1 0 99) (p2 : mp_res f1 25 5 2 0 6) (p3 : mp_res f1 25 5 3 0 10) (p4 : mp_res f1 25 5 4 0 60) (p5 : mp_all f2 180 0 20) (p6 : mp_res f3 90 3 0 0 5) (p7 : mp_res f3 90 3 1 (-1) 99) (p8 : mp_res f4 300 6 0 0 5) (p9 : mp_res f4 300 6 1 0 5) (p10 : mp_res f4 300 6 3 0 99) (p11 : mp_res f4 300 6 4 0 1) (p12 : mp_actm f5) (p13 : mp_all f6 6 0 5) (l_y1 : 0 ≤ y1.toInt) (u_y1 : y1.toInt ≤ 1600) (l_y2 : 0 ≤ y2.toInt) (u_y2 : y2.toInt ≤ 1600) (l_y3 : 0 ≤ y3.toInt) (u_y3 : y3.toInt ≤ 4) (l_y4 : 0 ≤ y4.toInt) (u_y4 : y4.toInt ≤ 1600) (l_y11 : 0 ≤ y11.toInt) (u_y11 : y11.toInt ≤ 99) (l_y12 : 0 ≤ y12.toInt) (u_y12 : y12.toInt ≤ 5) (l_y13 : 0 ≤ y13.toInt) (u_y13 : y13.toInt ≤ 12) (q0 : mp_prm f4 (f1 3).toInt) (q1 : (f1 1).toInt + mp_k200 f5 (f1 4).toInt ≤ 99) : mp_Ct E yX10_ring cX10_ring 2 (some FieldType.int) 17 0 0 412 [.ref a0, .int x0] [(mp_ob10 a0 y0 a12 a13 a14 a15 a16 y1 y2 y3 y4 y5 y6 y7 y8 y9 y10 a1 a2 a3 a17 a4 a5 a6 a18 y11 a7 a8 a9 a10 y12 y13 y14 a19 a20 y15 y16 a21 a22 a11 y17 y18 y19 y20 a23 a24 a25 y21), (mp_arI E a1 0 5 f0), (mp_arI E a2 0 25 f1), (mp_arI E a3 0 180 f2), (mp_arI E a4 0 90 f3), (mp_arI E a5 0 300 f4), (mp_arI E a6 0 300 f5), (mp_arI E a7 0 6 f6), (mp_arI E a8 0 6 f7), (mp_arI E a9 0 6 f8), (mp_arI E a10 3 1500 f9), (mp_arI E a11 0 3 f10)] (fun v w' => ∃ r1 : Int32, ∃ h2 : Nat → Int32, ∃ h3 : Nat → Int32, ∃ h4 : Nat → Int32, ∃ h5 : Nat → Int32, ∃ h6 : Nat → Int32, ∃ r7 : Int32, v = some (.int r7) ∧ 0 ≤ r1.toInt ∧ r1.toInt ≤ 99 ∧ mp_all h2 6 0 5 ∧ w' = [(mp_ob10 a0 0 a12 a13 a14 a15 a16 y1 y2 y3 y4 y5 y6 y7 y8 y9 y10 a1 a2 a3 a17 a4 a5 a6 a18 r1 a7 a8 a9 a10 y12 y13 y14 a19 a20 y15 y16 a21 a22 a11 y17 y18 y19 y20 a23 a24 a25 y21), (mp_arI E a1 0 5 f0), (mp_arI E a2 0 25 f1), (mp_arI E a3 0 180 f2), (mp_arI E a4 0 90 f3), (mp_arI E a5 0 300 f4), (mp_arI E a6 0 300 f5), (mp_arI E a7 0 6 h2), (mp_arI E a8 0 6 h3), (mp_arI E a9 0 6 h4), (mp_arI E a10 3 1500 h5), (mp_arI E a11 0 3 h6)]) := by
  refine mp_met false (by decide) (by decide) (Nat.le_of_ble_eq_true rfl) (fun X hF hQ => ?_)
  have hF : mp_F E X (RX10, cX10_ring, 2, (17, 0, 0, 412), (some FieldType.int), false) := hF
  let w1_ : va_W := [(mp_ob10 a0 y0 a12 a13 a14 a15 a16 y1 y2 y3 y4 y5 y6 y7 y8 y9 y10 a1 a2 a3 a17 a4 a5 a6 a18 y11 a7 a8 a9 a10 y12 y13 y14 a19 a20 y15 y16 a21 a22 a11 y17 y18 y19 y20 a23 a24 a25 y21), (mp_arI E a1 0 5 f0), (mp_arI E a2 0 25 f1), (mp_arI E a3 0 180 f2), (mp_arI E a4 0 90 f3), (mp_arI E a5 0 300 f4), (mp_arI E a6 0 300 f5), (mp_arI E a7 0 6 f6), (mp_arI E a8 0 6 f7), (mp_arI E a9 0 6 f8), (mp_arI E a10 3 1500 f9), (mp_arI E a11 0 3 f10)]
  show mp_W E X 2 0 [(0, .ref a0), (1, .int x0)] [] w1_ 0 0
  refine mp_run mp_k_cX10_ring_ok hF mp_tabX10_ok [mp_i (.aload_n 0), mp_c (.iconst 0) 0, mp_h (.putfield 92) [0, 0]] (by decide +kernel) ?_
  refine And.intro rfl (And.intro rfl (And.intro rfl (And.intro rfl (And.intro (Nat.le_of_ble_eq_true rfl) ?_))))
  let w2_ : va_W := [(mp_ob10 a0 0 a12 a13 a14 a15 a16 y1 y2 y3 y4 y5 y6 y7 y8 y9 y10 a1 a2 a3 a17 a4 a5 a6 a18 y11 a7 a8 a9 a10 y12 y13 y14 a19 a20 y15 y16 a21 a22 a11 y17 y18 y19 y20 a23 a24 a25 y21), (mp_arI E a1 0 5 f0), (mp_arI E a2 0 25 f1), (mp_arI E a3 0 180 f2), (mp_arI E a4 0 90 f3), (mp_arI E a5 0 300 f4), (mp_arI E a6 0 300 f5), (mp_arI E a7 0 6 f6), (mp_arI E a8 0 6 f7), (mp_arI E a9 0 6 f8), (mp_arI E a10 3 1500 f9), (mp_arI E a11 0 3 f10)]
  show mp_W E X 2 5 [(0, .ref a0), (1, .int x0)] [] w2_ 0 0
  refine mp_run mp_k_cX10_ring_ok hF mp_tabX10_ok [mp_i (.aload_n 0)] (by decide +kernel) ?_
  show mp_W E X 2 6 [(0, .ref a0), (1, .int x0)] [.ref a0] w2_ 0 0
  refine mp_callV hF (As := []) (rest := []) (wr := [(mp_arI E a2 0 25 f1), (mp_arI E a3 0 180 f2), (mp_arI E a4 0 90 f3), (mp_arI E a5 0 300 f4), (mp_arI E a6 0 300 f5), (mp_arI E a7 0 6 f6), (mp_arI E a8 0 6 f7), (mp_arI E a9 0 6 f8), (mp_arI E a10 3 1500 f9), (mp_arI E a11 0 3 f10)]) (bX10_areIsles_81 E a0 a1 a12 a13 a14 a15 a16 a2 a3 a17 a4 a5 a6 a18 a7 a8 a9 a10 a19 a20 a21 a22 a11 a23 a24 a25 f0 0 y1 y2 y3 y4 y5 y6 y7 y8 y9 y10 y11 y12 y13 y14 y15 y16 y17 y18 y19 y20 y21 l_y1 u_y1 l_y2 u_y2 l_y3 u_y3 l_y4 u_y4 l_y11 u_y11 l_y12 u_y12 l_y13 u_y13) mp_lkX10_306 0 rfl [0, 1] [2, 3, 4, 5, 6, 7, 8, 9, 10, 11] rfl rfl rfl rfl rfl ⟨(Nat.le_of_ble_eq_true rfl), (Nat.le_of_ble_eq_true rfl), (Nat.le_of_ble_eq_true rfl), (Nat.le_of_ble_eq_true rfl)⟩ (Nat.le_of_ble_eq_true rfl) (by first | exact mp_fd_ok mp_k_cX10_ring_ok (by decide +kernel) | decide +kernel) (fun v_1 w_2 h_3 => ?_)
  rcases h_3 with ⟨rfl, x_4, rfl⟩ | ⟨rfl, x_5, rfl⟩
  · skip
    let w3_ : va_W := [(mp_arI E a2 0 25 f1), (mp_arI E a3 0 180 f2), (mp_arI E a4 0 90 f3), (mp_arI E a5 0 300 f4), (mp_arI E a6 0 300 f5), (mp_arI E a7 0 6 f6), (mp_arI E a8 0 6 f7), (mp_arI E a9 0 6 f8), (mp_arI E a10 3 1500 f9), (mp_arI E a11 0 3 f10), (mp_ob10 a0 0 a12 a13 a14 a15 a16 y1 y2 y3 y4 y5 y6 y7 y8 y9 y10 a1 a2 a3 a17 a4 a5 a6 a18 y11 a7 a8 a9 a10 y12 y13 y14 a19 a20 y15 y16 a21 a22 a11 y17 y18 y19 y20 a23 a24 a25 y21), (mp_arI E a1 0 5 f0)]
    show mp_W E X 2 9 [(0, .ref a0), (1, .int x0)] [.int 0] w3_ 0 0
    refine mp_run mp_k_cX10_ring_ok hF mp_tabX10_ok [mp_h (.ifCond .eq 10) [19]] (by decide +kernel) ?_
    refine And.intro (fun _ => ?_) (fun c_6 => absurd c_6 (by decide))
    show mp_W E X 2 19 [(0, .ref a0), (1, .int x0)] [] w3_ 0 0
    refine mp_run mp_k_cX10_ring_ok hF mp_tabX10_ok [mp_c (.bipush (-2)) (-2)] (by decide +kernel) ?_
    show mp_W E X 2 21 [(0, .ref a0), (1, .int x0)] [.int (-2)] w3_ 0 0
    exact mp_iret hF hQ rfl rfl (Nat.le_of_ble_eq_true rfl) (Nat.le_of_ble_eq_true rfl) [10, 11, 0, 1, 2, 3, 4, 5, 6, 7, 8, 9] (w' := w2_) rfl rfl ⟨y11, f6, f7, f8, f9, f10, (-2), rfl, l_y11, u_y11, p13, rfl⟩ (by first | exact mp_fd_ok mp_k_cX10_ring_ok (by decide +kernel) | decide +kernel)
  · skip
    let w4_ : va_W := [(mp_arI E a2 0 25 f1), (mp_arI E a3 0 180 f2), (mp_arI E a4 0 90 f3), (mp_arI E a5 0 300 f4), (mp_arI E a6 0 300 f5), (mp_arI E a7 0 6 f6), (mp_arI E a8 0 6 f7), (mp_arI E a9 0 6 f8), (mp_arI E a10 3 1500 f9), (mp_arI E a11 0 3 f10), (mp_ob10 a0 0 a12 a13 a14 a15 a16 y1 y2 y3 y4 y5 y6 y7 y8 y9 y10 a1 a2 a3 a17 a4 a5 a6 a18 y11 a7 a8 a9 a10 y12 y13 y14 a19 a20 y15 y16 a21 a22 a11 y17 y18 y19 y20 a23 a24 a25 y21), (mp_arI E a1 0 5 f0)]
    show mp_W E X 2 9 [(0, .ref a0), (1, .int x0)] [.int 1] w4_ 0 0
    refine mp_run mp_k_cX10_ring_ok hF mp_tabX10_ok [mp_h (.ifCond .eq 10) [19]] (by decide +kernel) ?_
    refine And.intro (fun c_7 => absurd c_7 (by decide)) (fun _ => ?_)
    show mp_W E X 2 12 [(0, .ref a0), (1, .int x0)] [] w4_ 0 0
    refine mp_run mp_k_cX10_ring_ok hF mp_tabX10_ok [mp_i (.iload_n 1)] (by decide +kernel) ?_
    show mp_W E X 2 13 [(0, .ref a0), (1, .int x0)] [.int x0] w4_ 0 0
    refine mp_callS hF (As := [.int x0]) (rest := []) (wr := w4_) (bX10_isMoon_60 E x0) mp_lkX10_273 [] [0, 1, 2, 3, 4, 5, 6, 7, 8, 9, 10, 11] rfl rfl rfl rfl rfl ⟨(Nat.le_of_ble_eq_true rfl), (Nat.le_of_ble_eq_true rfl), (Nat.le_of_ble_eq_true rfl), (Nat.le_of_ble_eq_true rfl)⟩ (Nat.le_of_ble_eq_true rfl) (by first | exact mp_fd_ok mp_k_cX10_ring_ok (by decide +kernel) | decide +kernel) (fun v_8 w_9 h_10 => ?_)
    rcases h_10 with ⟨rfl, x_11, rfl⟩ | ⟨rfl, c_12, c_13, x_14, rfl⟩
    · skip
      show mp_W E X 2 16 [(0, .ref a0), (1, .int x0)] [.int 0] w4_ 0 0
      refine mp_run mp_k_cX10_ring_ok hF mp_tabX10_ok [mp_h (.ifCond .ne 6) [22]] (by decide +kernel) ?_
      refine And.intro (fun c_15 => absurd c_15 (by decide)) (fun _ => ?_)
      show mp_W E X 2 19 [(0, .ref a0), (1, .int x0)] [] w4_ 0 0
      refine mp_run mp_k_cX10_ring_ok hF mp_tabX10_ok [mp_c (.bipush (-2)) (-2)] (by decide +kernel) ?_
      show mp_W E X 2 21 [(0, .ref a0), (1, .int x0)] [.int (-2)] w4_ 0 0
      exact mp_iret hF hQ rfl rfl (Nat.le_of_ble_eq_true rfl) (Nat.le_of_ble_eq_true rfl) [10, 11, 0, 1, 2, 3, 4, 5, 6, 7, 8, 9] (w' := w2_) rfl rfl ⟨y11, f6, f7, f8, f9, f10, (-2), rfl, l_y11, u_y11, p13, rfl⟩ (by first | exact mp_fd_ok mp_k_cX10_ring_ok (by decide +kernel) | decide +kernel)
    · skip
      have c_12 : 0 ≤ x0.toInt := c_12
      have c_13 : x0.toInt ≤ 99 := c_13
      show mp_W E X 2 16 [(0, .ref a0), (1, .int x0)] [.int 1] w4_ 0 0
      refine mp_run mp_k_cX10_ring_ok hF mp_tabX10_ok [mp_h (.ifCond .ne 6) [22]] (by decide +kernel) ?_
      refine And.intro (fun _ => ?_) (fun c_16 => absurd c_16 (by decide))
      show mp_W E X 2 22 [(0, .ref a0), (1, .int x0)] [] w4_ 0 0
      refine mp_run mp_k_cX10_ring_ok hF mp_tabX10_ok [mp_i (.aload_n 0)] (by decide +kernel) ?_
      show mp_W E X 2 23 [(0, .ref a0), (1, .int x0)] [.ref a0] w4_ 0 0
      refine mp_callV hF (As := []) (rest := []) (wr := [(mp_arI E a5 0 300 f4), (mp_arI E a11 0 3 f10), (mp_arI E a1 0 5 f0)]) (bX10_lays_62 E a0 a2 a3 a4 a6 a7 a8 a9 a10 a12 a13 a14 a15 a16 a1 a17 a5 a18 a19 a20 a21 a22 a11 a23 a24 a25 f1 f2 f3 f5 f6 f7 f8 f9 0 y1 y2 y3 y4 y5 y6 y7 y8 y9 y10 y11 y12 y13 y14 y15 y16 y17 y18 y19 y20 y21 p0 p1 p2 p3 p4 p5 p6 p7 p12 p13 l_y1 u_y1 l_y2 u_y2 l_y3 u_y3 l_y4 u_y4 l_y11 u_y11 l_y12 u_y12 l_y13 u_y13 (by (first | exact q1 | omega))) mp_lkX10_288 10 rfl [10, 0, 1, 2, 4, 5, 6, 7, 8] [3, 9, 11] rfl rfl rfl rfl rfl ⟨(Nat.le_of_ble_eq_true rfl), (Nat.le_of_ble_eq_true rfl), (Nat.le_of_ble_eq_true rfl), (Nat.le_of_ble_eq_true rfl)⟩ (Nat.le_of_ble_eq_true rfl) (by first | exact mp_fd_ok mp_k_cX10_ring_ok (by decide +kernel) | decide +kernel) (fun v_17 w_18 h_19 => ?_)
      refine h_19.elim fun r_20 q_30 => q_30.elim fun g_21 q_31 => q_31.elim fun g_22 q_32 => q_32.elim fun g_23 q_33 => q_33.elim fun g_24 q_34 => q_34.elim fun e_35 q_36 => q_36.elim fun l_25 q_37 => q_37.elim fun u_26 q_38 => q_38.elim fun p_27 q_39 => q_39.elim fun x_28 q_40 => q_40.elim fun x_29 e_41 => ?_
      clear h_19 q_30 q_31 q_32 q_33 q_34 q_36 q_37 q_38 q_39 q_40
      subst e_35
      subst e_41
      let w5_ : va_W := [(mp_arI E a5 0 300 f4), (mp_arI E a11 0 3 f10), (mp_arI E a1 0 5 f0), (mp_ob10 a0 0 a12 a13 a14 a15 a16 y1 y2 y3 y4 y5 y6 y7 y8 y9 y10 a1 a2 a3 a17 a4 a5 a6 a18 r_20 a7 a8 a9 a10 y12 y13 y14 a19 a20 y15 y16 a21 a22 a11 y17 y18 y19 y20 a23 a24 a25 y21), (mp_arI E a2 0 25 f1), (mp_arI E a3 0 180 f2), (mp_arI E a4 0 90 f3), (mp_arI E a6 0 300 f5), (mp_arI E a7 0 6 g_21), (mp_arI E a8 0 6 g_22), (mp_arI E a9 0 6 g_23), (mp_arI E a10 3 1500 g_24)]
      show mp_W E X 2 26 [(0, .ref a0), (1, .int x0)] [] w5_ 0 0
      refine mp_run mp_k_cX10_ring_ok hF mp_tabX10_ok [mp_i (.aload_n 0), mp_i (.iload_n 1)] (by decide +kernel) ?_
      show mp_W E X 2 28 [(0, .ref a0), (1, .int x0)] [.int x0, .ref a0] w5_ 0 0
      refine mp_callV hF (As := [.int x0]) (rest := []) (wr := [(mp_arI E a1 0 5 f0), (mp_arI E a3 0 180 f2), (mp_arI E a6 0 300 f5), (mp_arI E a7 0 6 g_21), (mp_arI E a8 0 6 g_22), (mp_arI E a9 0 6 g_23)]) (bX10_ringOf_131 E a0 a2 a4 a5 a10 a11 a12 a13 a14 a15 a16 a1 a3 a17 a6 a18 a7 a8 a9 a19 a20 a21 a22 a23 a24 a25 f1 f3 f4 g_24 f10 0 y1 y2 y3 y4 y5 y6 y7 y8 y9 y10 r_20 y12 y13 y14 y15 y16 y17 y18 y19 y20 y21 x0 p0 p1 p2 p3 p4 p6 p7 p8 p9 p10 p11 (by (first | exact c_12 | omega)) (by (first | exact c_13 | omega)) l_y1 u_y1 l_y2 u_y2 l_y3 u_y3 l_y4 u_y4 l_25 u_26 l_y12 u_y12 l_y13 u_y13 (by first | assumption | (rw [rfl]; assumption))) mp_lkX10_409 3 rfl [3, 4, 6, 0, 11, 1] [2, 5, 7, 8, 9, 10] rfl rfl rfl rfl rfl ⟨(Nat.le_of_ble_eq_true rfl), (Nat.le_of_ble_eq_true rfl), (Nat.le_of_ble_eq_true rfl), (Nat.le_of_ble_eq_true rfl)⟩ (Nat.le_of_ble_eq_true rfl) (by first | exact mp_fd_ok mp_k_cX10_ring_ok (by decide +kernel) | decide +kernel) (fun v_42 w_43 h_44 => ?_)
      obtain ⟨g_45, r_46, rfl, rfl⟩ := h_44
      let w6_ : va_W := [(mp_arI E a1 0 5 f0), (mp_arI E a3 0 180 f2), (mp_arI E a6 0 300 f5), (mp_arI E a7 0 6 g_21), (mp_arI E a8 0 6 g_22), (mp_arI E a9 0 6 g_23), (mp_ob10 a0 0 a12 a13 a14 a15 a16 y1 y2 y3 y4 y5 y6 y7 y8 y9 y10 a1 a2 a3 a17 a4 a5 a6 a18 r_20 a7 a8 a9 a10 y12 y13 y14 a19 a20 y15 y16 a21 a22 a11 y17 y18 y19 y20 a23 a24 a25 y21), (mp_arI E a2 0 25 f1), (mp_arI E a4 0 90 f3), (mp_arI E a5 0 300 f4), (mp_arI E a10 3 1500 g_24), (mp_arI E a11 0 3 g_45)]
      show mp_W E X 2 31 [(0, .ref a0), (1, .int x0)] [.int r_46] w6_ 0 0
      exact mp_iret hF hQ rfl rfl (Nat.le_of_ble_eq_true rfl) (Nat.le_of_ble_eq_true rfl) [6, 0, 7, 1, 8, 9, 2, 3, 4, 5, 10, 11] (w' := [(mp_ob10 a0 0 a12 a13 a14 a15 a16 y1 y2 y3 y4 y5 y6 y7 y8 y9 y10 a1 a2 a3 a17 a4 a5 a6 a18 r_20 a7 a8 a9 a10 y12 y13 y14 a19 a20 y15 y16 a21 a22 a11 y17 y18 y19 y20 a23 a24 a25 y21), (mp_arI E a1 0 5 f0), (mp_arI E a2 0 25 f1), (mp_arI E a3 0 180 f2), (mp_arI E a4 0 90 f3), (mp_arI E a5 0 300 f4), (mp_arI E a6 0 300 f5), (mp_arI E a7 0 6 g_21), (mp_arI E a8 0 6 g_22), (mp_arI E a9 0 6 g_23), (mp_arI E a10 3 1500 g_24), (mp_arI E a11 0 3 g_45)]) rfl rfl ⟨r_20, g_21, g_22, g_23, g_24, g_45, r_46, rfl, l_25, u_26, p_27, rfl⟩ (by first | exact mp_fd_ok mp_k_cX10_ring_ok (by decide +kernel) | decide +kernel)
set_option maxHeartbeats 4000000 in
set_option maxRecDepth 100000 in
theorem bX10_ringed_133 (E : mp_E) (a0 a1 a2 a3 a4 a5 a6 a7 a8 a9 a10 a11 a12 a13 a14 a15 a16 a17 a18 a19 a20 a21 a22 a23 a24 a25 : Nat) (f0 : Nat → Int32) (f1 : Nat → Int32) (f2 : Nat → Int32) (f3 : Nat → Int32) (f4 : Nat → Int32) (f5 : Nat → Int32) (f6 : Nat → Int32) (f7 : Nat → Int32) (f8 : Nat → Int32) (f9 : Nat → Int32) (f10 : Nat → Int32) (y0 : Int32) (y1 : Int32) (y2 : Int32) (y3 : Int32) (y4 : Int32) (y5 : Int32) (y6 : Int64) (y7 : Int32) (y8 : Int32) (y9 : Int32) (y10 : Int32) (y11 : Int32) (y12 : Int32) (y13 : Int32) (y14 : Int32) (y15 : Int32) (y16 : Int32) (y17 : Int32) (y18 : Int32) (y19 : Int32) (y20 : Int32) (y21 : Int32) (x0 : Int32) (x1 : Int32) (p0 : mp_res f1 25 5 0 0 6) (p1 : mp_res f1 25 5 1 0 99) (p2 : mp_res f1 25 5 2 0 6) (p3 : mp_res f1 25 5 3 0 10) (p4 : mp_res f1 25 5 4 0 60) (p5 : mp_all f2 180 0 20) (p6 : mp_res f3 90 3 0 0 5) (p7 : mp_res f3 90 3 1 (-1) 99) (p8 : mp_res f4 300 6 0 0 5) (p9 : mp_res f4 300 6 1 0 5) (p10 : mp_res f4 300 6 3 0 99) (p11 : mp_res f4 300 6 4 0 1) (p12 : mp_actm f5) (p13 : mp_all f6 6 0 5) (l_y1 : 0 ≤ y1.toInt) (u_y1 : y1.toInt ≤ 1600) (l_y2 : 0 ≤ y2.toInt) (u_y2 : y2.toInt ≤ 1600) (l_y3 : 0 ≤ y3.toInt) (u_y3 : y3.toInt ≤ 4) (l_y4 : 0 ≤ y4.toInt) (u_y4 : y4.toInt ≤ 1600) (l_y11 : 0 ≤ y11.toInt) (u_y11 : y11.toInt ≤ 99) (l_y12 : 0 ≤ y12.toInt) (u_y12 : y12.toInt ≤ 5) (l_y13 : 0 ≤ y13.toInt) (u_y13 : y13.toInt ≤ 12) (q0 : mp_prm f4 (f1 3).toInt) (q1 : (f1 1).toInt + mp_k200 f5 (f1 4).toInt ≤ 99) : mp_Ct E yX10_ringed cX10_ringed 3 (some FieldType.int) 17 0 0 412 [.ref a0, .int x0, .int x1] [(mp_ob10 a0 y0 a12 a13 a14 a15 a16 y1 y2 y3 y4 y5 y6 y7 y8 y9 y10 a1 a2 a3 a17 a4 a5 a6 a18 y11 a7 a8 a9 a10 y12 y13 y14 a19 a20 y15 y16 a21 a22 a11 y17 y18 y19 y20 a23 a24 a25 y21), (mp_arI E a1 0 5 f0), (mp_arI E a2 0 25 f1), (mp_arI E a3 0 180 f2), (mp_arI E a4 0 90 f3), (mp_arI E a5 0 300 f4), (mp_arI E a6 0 300 f5), (mp_arI E a7 0 6 f6), (mp_arI E a8 0 6 f7), (mp_arI E a9 0 6 f8), (mp_arI E a10 3 1500 f9), (mp_arI E a11 0 3 f10)] (fun v w' => ∃ r1 : Int32, ∃ h2 : Nat → Int32, ∃ h3 : Nat → Int32, ∃ h4 : Nat → Int32, ∃ h5 : Nat → Int32, ∃ h6 : Nat → Int32, ∃ r7 : Int32, v = some (.int r7) ∧ 0 ≤ r1.toInt ∧ r1.toInt ≤ 99 ∧ mp_all h2 6 0 5 ∧ w' = [(mp_ob10 a0 0 a12 a13 a14 a15 a16 y1 y2 y3 y4 y5 y6 y7 y8 y9 y10 a1 a2 a3 a17 a4 a5 a6 a18 r1 a7 a8 a9 a10 y12 y13 y14 a19 a20 y15 y16 a21 a22 a11 y17 y18 y19 y20 a23 a24 a25 y21), (mp_arI E a1 0 5 f0), (mp_arI E a2 0 25 f1), (mp_arI E a3 0 180 f2), (mp_arI E a4 0 90 f3), (mp_arI E a5 0 300 f4), (mp_arI E a6 0 300 f5), (mp_arI E a7 0 6 h2), (mp_arI E a8 0 6 h3), (mp_arI E a9 0 6 h4), (mp_arI E a10 3 1500 h5), (mp_arI E a11 0 3 h6)]) := by
  refine mp_met false (by decide) (by decide) (Nat.le_of_ble_eq_true rfl) (fun X hF hQ => ?_)
  have hF : mp_F E X (RX10, cX10_ringed, 3, (17, 0, 0, 412), (some FieldType.int), false) := hF
  let w1_ : va_W := [(mp_ob10 a0 y0 a12 a13 a14 a15 a16 y1 y2 y3 y4 y5 y6 y7 y8 y9 y10 a1 a2 a3 a17 a4 a5 a6 a18 y11 a7 a8 a9 a10 y12 y13 y14 a19 a20 y15 y16 a21 a22 a11 y17 y18 y19 y20 a23 a24 a25 y21), (mp_arI E a1 0 5 f0), (mp_arI E a2 0 25 f1), (mp_arI E a3 0 180 f2), (mp_arI E a4 0 90 f3), (mp_arI E a5 0 300 f4), (mp_arI E a6 0 300 f5), (mp_arI E a7 0 6 f6), (mp_arI E a8 0 6 f7), (mp_arI E a9 0 6 f8), (mp_arI E a10 3 1500 f9), (mp_arI E a11 0 3 f10)]
  show mp_W E X 3 0 [(0, .ref a0), (1, .int x0), (2, .int x1)] [] w1_ 0 0
  refine mp_run mp_k_cX10_ringed_ok hF mp_tabX10_ok [mp_i (.aload_n 0), mp_c (.iconst 0) 0, mp_h (.putfield 92) [0, 0]] (by decide +kernel) ?_
  refine And.intro rfl (And.intro rfl (And.intro rfl (And.intro rfl (And.intro (Nat.le_of_ble_eq_true rfl) ?_))))
  let w2_ : va_W := [(mp_ob10 a0 0 a12 a13 a14 a15 a16 y1 y2 y3 y4 y5 y6 y7 y8 y9 y10 a1 a2 a3 a17 a4 a5 a6 a18 y11 a7 a8 a9 a10 y12 y13 y14 a19 a20 y15 y16 a21 a22 a11 y17 y18 y19 y20 a23 a24 a25 y21), (mp_arI E a1 0 5 f0), (mp_arI E a2 0 25 f1), (mp_arI E a3 0 180 f2), (mp_arI E a4 0 90 f3), (mp_arI E a5 0 300 f4), (mp_arI E a6 0 300 f5), (mp_arI E a7 0 6 f6), (mp_arI E a8 0 6 f7), (mp_arI E a9 0 6 f8), (mp_arI E a10 3 1500 f9), (mp_arI E a11 0 3 f10)]
  show mp_W E X 3 5 [(0, .ref a0), (1, .int x0), (2, .int x1)] [] w2_ 0 0
  refine mp_run mp_k_cX10_ringed_ok hF mp_tabX10_ok [mp_i (.aload_n 0)] (by decide +kernel) ?_
  show mp_W E X 3 6 [(0, .ref a0), (1, .int x0), (2, .int x1)] [.ref a0] w2_ 0 0
  refine mp_callV hF (As := []) (rest := []) (wr := [(mp_arI E a2 0 25 f1), (mp_arI E a3 0 180 f2), (mp_arI E a4 0 90 f3), (mp_arI E a5 0 300 f4), (mp_arI E a6 0 300 f5), (mp_arI E a7 0 6 f6), (mp_arI E a8 0 6 f7), (mp_arI E a9 0 6 f8), (mp_arI E a10 3 1500 f9), (mp_arI E a11 0 3 f10)]) (bX10_areIsles_81 E a0 a1 a12 a13 a14 a15 a16 a2 a3 a17 a4 a5 a6 a18 a7 a8 a9 a10 a19 a20 a21 a22 a11 a23 a24 a25 f0 0 y1 y2 y3 y4 y5 y6 y7 y8 y9 y10 y11 y12 y13 y14 y15 y16 y17 y18 y19 y20 y21 l_y1 u_y1 l_y2 u_y2 l_y3 u_y3 l_y4 u_y4 l_y11 u_y11 l_y12 u_y12 l_y13 u_y13) mp_lkX10_306 0 rfl [0, 1] [2, 3, 4, 5, 6, 7, 8, 9, 10, 11] rfl rfl rfl rfl rfl ⟨(Nat.le_of_ble_eq_true rfl), (Nat.le_of_ble_eq_true rfl), (Nat.le_of_ble_eq_true rfl), (Nat.le_of_ble_eq_true rfl)⟩ (Nat.le_of_ble_eq_true rfl) (by first | exact mp_fd_ok mp_k_cX10_ringed_ok (by decide +kernel) | decide +kernel) (fun v_1 w_2 h_3 => ?_)
  rcases h_3 with ⟨rfl, x_4, rfl⟩ | ⟨rfl, x_5, rfl⟩
  · skip
    let w3_ : va_W := [(mp_arI E a2 0 25 f1), (mp_arI E a3 0 180 f2), (mp_arI E a4 0 90 f3), (mp_arI E a5 0 300 f4), (mp_arI E a6 0 300 f5), (mp_arI E a7 0 6 f6), (mp_arI E a8 0 6 f7), (mp_arI E a9 0 6 f8), (mp_arI E a10 3 1500 f9), (mp_arI E a11 0 3 f10), (mp_ob10 a0 0 a12 a13 a14 a15 a16 y1 y2 y3 y4 y5 y6 y7 y8 y9 y10 a1 a2 a3 a17 a4 a5 a6 a18 y11 a7 a8 a9 a10 y12 y13 y14 a19 a20 y15 y16 a21 a22 a11 y17 y18 y19 y20 a23 a24 a25 y21), (mp_arI E a1 0 5 f0)]
    show mp_W E X 3 9 [(0, .ref a0), (1, .int x0), (2, .int x1)] [.int 0] w3_ 0 0
    refine mp_run mp_k_cX10_ringed_ok hF mp_tabX10_ok [mp_h (.ifCond .eq 10) [19]] (by decide +kernel) ?_
    refine And.intro (fun _ => ?_) (fun c_6 => absurd c_6 (by decide))
    show mp_W E X 3 19 [(0, .ref a0), (1, .int x0), (2, .int x1)] [] w3_ 0 0
    refine mp_run mp_k_cX10_ringed_ok hF mp_tabX10_ok [mp_c (.bipush (-2)) (-2)] (by decide +kernel) ?_
    show mp_W E X 3 21 [(0, .ref a0), (1, .int x0), (2, .int x1)] [.int (-2)] w3_ 0 0
    exact mp_iret hF hQ rfl rfl (Nat.le_of_ble_eq_true rfl) (Nat.le_of_ble_eq_true rfl) [10, 11, 0, 1, 2, 3, 4, 5, 6, 7, 8, 9] (w' := w2_) rfl rfl ⟨y11, f6, f7, f8, f9, f10, (-2), rfl, l_y11, u_y11, p13, rfl⟩ (by first | exact mp_fd_ok mp_k_cX10_ringed_ok (by decide +kernel) | decide +kernel)
  · skip
    let w4_ : va_W := [(mp_arI E a2 0 25 f1), (mp_arI E a3 0 180 f2), (mp_arI E a4 0 90 f3), (mp_arI E a5 0 300 f4), (mp_arI E a6 0 300 f5), (mp_arI E a7 0 6 f6), (mp_arI E a8 0 6 f7), (mp_arI E a9 0 6 f8), (mp_arI E a10 3 1500 f9), (mp_arI E a11 0 3 f10), (mp_ob10 a0 0 a12 a13 a14 a15 a16 y1 y2 y3 y4 y5 y6 y7 y8 y9 y10 a1 a2 a3 a17 a4 a5 a6 a18 y11 a7 a8 a9 a10 y12 y13 y14 a19 a20 y15 y16 a21 a22 a11 y17 y18 y19 y20 a23 a24 a25 y21), (mp_arI E a1 0 5 f0)]
    show mp_W E X 3 9 [(0, .ref a0), (1, .int x0), (2, .int x1)] [.int 1] w4_ 0 0
    refine mp_run mp_k_cX10_ringed_ok hF mp_tabX10_ok [mp_h (.ifCond .eq 10) [19]] (by decide +kernel) ?_
    refine And.intro (fun c_7 => absurd c_7 (by decide)) (fun _ => ?_)
    show mp_W E X 3 12 [(0, .ref a0), (1, .int x0), (2, .int x1)] [] w4_ 0 0
    refine mp_run mp_k_cX10_ringed_ok hF mp_tabX10_ok [mp_i (.iload_n 1)] (by decide +kernel) ?_
    show mp_W E X 3 13 [(0, .ref a0), (1, .int x0), (2, .int x1)] [.int x0] w4_ 0 0
    refine mp_callS hF (As := [.int x0]) (rest := []) (wr := w4_) (bX10_isMoon_60 E x0) mp_lkX10_273 [] [0, 1, 2, 3, 4, 5, 6, 7, 8, 9, 10, 11] rfl rfl rfl rfl rfl ⟨(Nat.le_of_ble_eq_true rfl), (Nat.le_of_ble_eq_true rfl), (Nat.le_of_ble_eq_true rfl), (Nat.le_of_ble_eq_true rfl)⟩ (Nat.le_of_ble_eq_true rfl) (by first | exact mp_fd_ok mp_k_cX10_ringed_ok (by decide +kernel) | decide +kernel) (fun v_8 w_9 h_10 => ?_)
    rcases h_10 with ⟨rfl, x_11, rfl⟩ | ⟨rfl, c_12, c_13, x_14, rfl⟩
    · skip
      show mp_W E X 3 16 [(0, .ref a0), (1, .int x0), (2, .int x1)] [.int 0] w4_ 0 0
      refine mp_run mp_k_cX10_ringed_ok hF mp_tabX10_ok [mp_h (.ifCond .ne 6) [22]] (by decide +kernel) ?_
      refine And.intro (fun c_15 => absurd c_15 (by decide)) (fun _ => ?_)
      show mp_W E X 3 19 [(0, .ref a0), (1, .int x0), (2, .int x1)] [] w4_ 0 0
      refine mp_run mp_k_cX10_ringed_ok hF mp_tabX10_ok [mp_c (.bipush (-2)) (-2)] (by decide +kernel) ?_
      show mp_W E X 3 21 [(0, .ref a0), (1, .int x0), (2, .int x1)] [.int (-2)] w4_ 0 0
      exact mp_iret hF hQ rfl rfl (Nat.le_of_ble_eq_true rfl) (Nat.le_of_ble_eq_true rfl) [10, 11, 0, 1, 2, 3, 4, 5, 6, 7, 8, 9] (w' := w2_) rfl rfl ⟨y11, f6, f7, f8, f9, f10, (-2), rfl, l_y11, u_y11, p13, rfl⟩ (by first | exact mp_fd_ok mp_k_cX10_ringed_ok (by decide +kernel) | decide +kernel)
    · skip
      have c_12 : 0 ≤ x0.toInt := c_12
      have c_13 : x0.toInt ≤ 99 := c_13
      show mp_W E X 3 16 [(0, .ref a0), (1, .int x0), (2, .int x1)] [.int 1] w4_ 0 0
      refine mp_run mp_k_cX10_ringed_ok hF mp_tabX10_ok [mp_h (.ifCond .ne 6) [22]] (by decide +kernel) ?_
      refine And.intro (fun _ => ?_) (fun c_16 => absurd c_16 (by decide))
      show mp_W E X 3 22 [(0, .ref a0), (1, .int x0), (2, .int x1)] [] w4_ 0 0
      refine mp_run mp_k_cX10_ringed_ok hF mp_tabX10_ok [mp_i (.aload_n 0)] (by decide +kernel) ?_
      show mp_W E X 3 23 [(0, .ref a0), (1, .int x0), (2, .int x1)] [.ref a0] w4_ 0 0
      refine mp_callV hF (As := []) (rest := []) (wr := [(mp_arI E a5 0 300 f4), (mp_arI E a11 0 3 f10), (mp_arI E a1 0 5 f0)]) (bX10_lays_62 E a0 a2 a3 a4 a6 a7 a8 a9 a10 a12 a13 a14 a15 a16 a1 a17 a5 a18 a19 a20 a21 a22 a11 a23 a24 a25 f1 f2 f3 f5 f6 f7 f8 f9 0 y1 y2 y3 y4 y5 y6 y7 y8 y9 y10 y11 y12 y13 y14 y15 y16 y17 y18 y19 y20 y21 p0 p1 p2 p3 p4 p5 p6 p7 p12 p13 l_y1 u_y1 l_y2 u_y2 l_y3 u_y3 l_y4 u_y4 l_y11 u_y11 l_y12 u_y12 l_y13 u_y13 (by (first | exact q1 | omega))) mp_lkX10_288 10 rfl [10, 0, 1, 2, 4, 5, 6, 7, 8] [3, 9, 11] rfl rfl rfl rfl rfl ⟨(Nat.le_of_ble_eq_true rfl), (Nat.le_of_ble_eq_true rfl), (Nat.le_of_ble_eq_true rfl), (Nat.le_of_ble_eq_true rfl)⟩ (Nat.le_of_ble_eq_true rfl) (by first | exact mp_fd_ok mp_k_cX10_ringed_ok (by decide +kernel) | decide +kernel) (fun v_17 w_18 h_19 => ?_)
      refine h_19.elim fun r_20 q_30 => q_30.elim fun g_21 q_31 => q_31.elim fun g_22 q_32 => q_32.elim fun g_23 q_33 => q_33.elim fun g_24 q_34 => q_34.elim fun e_35 q_36 => q_36.elim fun l_25 q_37 => q_37.elim fun u_26 q_38 => q_38.elim fun p_27 q_39 => q_39.elim fun x_28 q_40 => q_40.elim fun x_29 e_41 => ?_
      clear h_19 q_30 q_31 q_32 q_33 q_34 q_36 q_37 q_38 q_39 q_40
      subst e_35
      subst e_41
      let w5_ : va_W := [(mp_arI E a5 0 300 f4), (mp_arI E a11 0 3 f10), (mp_arI E a1 0 5 f0), (mp_ob10 a0 0 a12 a13 a14 a15 a16 y1 y2 y3 y4 y5 y6 y7 y8 y9 y10 a1 a2 a3 a17 a4 a5 a6 a18 r_20 a7 a8 a9 a10 y12 y13 y14 a19 a20 y15 y16 a21 a22 a11 y17 y18 y19 y20 a23 a24 a25 y21), (mp_arI E a2 0 25 f1), (mp_arI E a3 0 180 f2), (mp_arI E a4 0 90 f3), (mp_arI E a6 0 300 f5), (mp_arI E a7 0 6 g_21), (mp_arI E a8 0 6 g_22), (mp_arI E a9 0 6 g_23), (mp_arI E a10 3 1500 g_24)]
      show mp_W E X 3 26 [(0, .ref a0), (1, .int x0), (2, .int x1)] [] w5_ 0 0
      refine mp_run mp_k_cX10_ringed_ok hF mp_tabX10_ok [mp_i (.aload_n 0), mp_i (.iload_n 1)] (by decide +kernel) ?_
      show mp_W E X 3 28 [(0, .ref a0), (1, .int x0), (2, .int x1)] [.int x0, .ref a0] w5_ 0 0
      refine mp_callV hF (As := [.int x0]) (rest := []) (wr := [(mp_arI E a1 0 5 f0), (mp_arI E a3 0 180 f2), (mp_arI E a6 0 300 f5), (mp_arI E a7 0 6 g_21), (mp_arI E a8 0 6 g_22), (mp_arI E a9 0 6 g_23)]) (bX10_ringOf_131 E a0 a2 a4 a5 a10 a11 a12 a13 a14 a15 a16 a1 a3 a17 a6 a18 a7 a8 a9 a19 a20 a21 a22 a23 a24 a25 f1 f3 f4 g_24 f10 0 y1 y2 y3 y4 y5 y6 y7 y8 y9 y10 r_20 y12 y13 y14 y15 y16 y17 y18 y19 y20 y21 x0 p0 p1 p2 p3 p4 p6 p7 p8 p9 p10 p11 (by (first | exact c_12 | omega)) (by (first | exact c_13 | omega)) l_y1 u_y1 l_y2 u_y2 l_y3 u_y3 l_y4 u_y4 l_25 u_26 l_y12 u_y12 l_y13 u_y13 (by first | assumption | (rw [rfl]; assumption))) mp_lkX10_409 3 rfl [3, 4, 6, 0, 11, 1] [2, 5, 7, 8, 9, 10] rfl rfl rfl rfl rfl ⟨(Nat.le_of_ble_eq_true rfl), (Nat.le_of_ble_eq_true rfl), (Nat.le_of_ble_eq_true rfl), (Nat.le_of_ble_eq_true rfl)⟩ (Nat.le_of_ble_eq_true rfl) (by first | exact mp_fd_ok mp_k_cX10_ringed_ok (by decide +kernel) | decide +kernel) (fun v_42 w_43 h_44 => ?_)
      obtain ⟨g_45, r_46, rfl, rfl⟩ := h_44
      let w6_ : va_W := [(mp_arI E a1 0 5 f0), (mp_arI E a3 0 180 f2), (mp_arI E a6 0 300 f5), (mp_arI E a7 0 6 g_21), (mp_arI E a8 0 6 g_22), (mp_arI E a9 0 6 g_23), (mp_ob10 a0 0 a12 a13 a14 a15 a16 y1 y2 y3 y4 y5 y6 y7 y8 y9 y10 a1 a2 a3 a17 a4 a5 a6 a18 r_20 a7 a8 a9 a10 y12 y13 y14 a19 a20 y15 y16 a21 a22 a11 y17 y18 y19 y20 a23 a24 a25 y21), (mp_arI E a2 0 25 f1), (mp_arI E a4 0 90 f3), (mp_arI E a5 0 300 f4), (mp_arI E a10 3 1500 g_24), (mp_arI E a11 0 3 g_45)]
      show mp_W E X 3 31 [(0, .ref a0), (1, .int x0), (2, .int x1)] [.int r_46] w6_ 0 0
      refine mp_run mp_k_cX10_ringed_ok hF mp_tabX10_ok [mp_h (.ifCond .le 24) [55]] (by decide +kernel) ?_
      refine And.intro (fun c_47 => ?_) (fun c_47 => ?_)
      · have c_47 : r_46.toInt ≤ 0 := c_47
        show mp_W E X 3 55 [(0, .ref a0), (1, .int x0), (2, .int x1)] [] w6_ 0 0
        refine mp_run mp_k_cX10_ringed_ok hF mp_tabX10_ok [mp_c (.iconst (-1)) (-1)] (by decide +kernel) ?_
        show mp_W E X 3 56 [(0, .ref a0), (1, .int x0), (2, .int x1)] [.int (-1)] w6_ 0 0
        exact mp_iret hF hQ rfl rfl (Nat.le_of_ble_eq_true rfl) (Nat.le_of_ble_eq_true rfl) [6, 0, 7, 1, 8, 9, 2, 3, 4, 5, 10, 11] (w' := [(mp_ob10 a0 0 a12 a13 a14 a15 a16 y1 y2 y3 y4 y5 y6 y7 y8 y9 y10 a1 a2 a3 a17 a4 a5 a6 a18 r_20 a7 a8 a9 a10 y12 y13 y14 a19 a20 y15 y16 a21 a22 a11 y17 y18 y19 y20 a23 a24 a25 y21), (mp_arI E a1 0 5 f0), (mp_arI E a2 0 25 f1), (mp_arI E a3 0 180 f2), (mp_arI E a4 0 90 f3), (mp_arI E a5 0 300 f4), (mp_arI E a6 0 300 f5), (mp_arI E a7 0 6 g_21), (mp_arI E a8 0 6 g_22), (mp_arI E a9 0 6 g_23), (mp_arI E a10 3 1500 g_24), (mp_arI E a11 0 3 g_45)]) rfl rfl ⟨r_20, g_21, g_22, g_23, g_24, g_45, (-1), rfl, l_25, u_26, p_27, rfl⟩ (by first | exact mp_fd_ok mp_k_cX10_ringed_ok (by decide +kernel) | decide +kernel)
      · have c_47 : 0 < r_46.toInt := c_47
        show mp_W E X 3 34 [(0, .ref a0), (1, .int x0), (2, .int x1)] [] w6_ 0 0
        refine mp_run mp_k_cX10_ringed_ok hF mp_tabX10_ok [mp_i (.iload_n 2), mp_i .i2l, mp_cl (.lconst 0) 0, mp_cl (.ldc2_w 260) 2] (by decide +kernel) ?_
        intro z_48 h_49
        have e_50 : z_48.toInt = x1.toInt := mp_i2l h_49
        show mp_W E X 3 40 [(0, .ref a0), (1, .int x0), (2, .int x1)] [.long 2, .long 0, .long z_48] w6_ 0 0
        refine mp_callS hF (As := [.long z_48, .long 0, .long 2]) (rest := []) (wr := w6_) (bX10_in_0 E z_48 0 2) mp_lkX10_97 [] [0, 1, 2, 3, 4, 5, 6, 7, 8, 9, 10, 11] rfl rfl rfl rfl rfl ⟨(Nat.le_of_ble_eq_true rfl), (Nat.le_of_ble_eq_true rfl), (Nat.le_of_ble_eq_true rfl), (Nat.le_of_ble_eq_true rfl)⟩ (Nat.le_of_ble_eq_true rfl) (by first | exact mp_fd_ok mp_k_cX10_ringed_ok (by decide +kernel) | decide +kernel) (fun v_51 w_52 h_53 => ?_)
        rcases h_53 with ⟨rfl, x_54, rfl⟩ | ⟨rfl, c_55, c_56, rfl⟩
        · skip
          have i_57 : (0 : Int64).toInt = 0 := by decide
          have i_58 : (2 : Int64).toInt = 2 := by decide
          show mp_W E X 3 43 [(0, .ref a0), (1, .int x0), (2, .int x1)] [.int 0] w6_ 0 0
          refine mp_run mp_k_cX10_ringed_ok hF mp_tabX10_ok [mp_h (.ifCond .eq 12) [55]] (by decide +kernel) ?_
          refine And.intro (fun _ => ?_) (fun c_59 => absurd c_59 (by decide))
          show mp_W E X 3 55 [(0, .ref a0), (1, .int x0), (2, .int x1)] [] w6_ 0 0
          refine mp_run mp_k_cX10_ringed_ok hF mp_tabX10_ok [mp_c (.iconst (-1)) (-1)] (by decide +kernel) ?_
          show mp_W E X 3 56 [(0, .ref a0), (1, .int x0), (2, .int x1)] [.int (-1)] w6_ 0 0
          exact mp_iret hF hQ rfl rfl (Nat.le_of_ble_eq_true rfl) (Nat.le_of_ble_eq_true rfl) [6, 0, 7, 1, 8, 9, 2, 3, 4, 5, 10, 11] (w' := [(mp_ob10 a0 0 a12 a13 a14 a15 a16 y1 y2 y3 y4 y5 y6 y7 y8 y9 y10 a1 a2 a3 a17 a4 a5 a6 a18 r_20 a7 a8 a9 a10 y12 y13 y14 a19 a20 y15 y16 a21 a22 a11 y17 y18 y19 y20 a23 a24 a25 y21), (mp_arI E a1 0 5 f0), (mp_arI E a2 0 25 f1), (mp_arI E a3 0 180 f2), (mp_arI E a4 0 90 f3), (mp_arI E a5 0 300 f4), (mp_arI E a6 0 300 f5), (mp_arI E a7 0 6 g_21), (mp_arI E a8 0 6 g_22), (mp_arI E a9 0 6 g_23), (mp_arI E a10 3 1500 g_24), (mp_arI E a11 0 3 g_45)]) rfl rfl ⟨r_20, g_21, g_22, g_23, g_24, g_45, (-1), rfl, l_25, u_26, p_27, rfl⟩ (by first | exact mp_fd_ok mp_k_cX10_ringed_ok (by decide +kernel) | decide +kernel)
        · skip
          have c_55 : 0 ≤ z_48.toInt := c_55
          have c_56 : z_48.toInt ≤ 2 := c_56
          have i_60 : (0 : Int64).toInt = 0 := by decide
          have i_61 : (2 : Int64).toInt = 2 := by decide
          show mp_W E X 3 43 [(0, .ref a0), (1, .int x0), (2, .int x1)] [.int 1] w6_ 0 0
          refine mp_run mp_k_cX10_ringed_ok hF mp_tabX10_ok [mp_h (.ifCond .eq 12) [55]] (by decide +kernel) ?_
          refine And.intro (fun c_62 => absurd c_62 (by decide)) (fun _ => ?_)
          show mp_W E X 3 46 [(0, .ref a0), (1, .int x0), (2, .int x1)] [] w6_ 0 0
          refine mp_run mp_k_cX10_ringed_ok hF mp_tabX10_ok [mp_i (.aload_n 0), mp_h (.getfield 80) [38, 6], mp_i (.iload_n 2), mp_h .iaload [11], mp_h (.goto 4) [56]] (by decide +kernel) ?_
          refine And.intro rfl (And.intro rfl ?_)
          refine And.intro rfl (And.intro rfl (And.intro (vp_in_iff.mpr (by (first | exact mp_o1734 c_55 e_50 c_56 | omega))) ?_))
          intro z_63 h_64
          show mp_W E X 3 56 [(0, .ref a0), (1, .int x0), (2, .int x1)] [.int z_63] w6_ 0 0
          exact mp_iret hF hQ rfl rfl (Nat.le_of_ble_eq_true rfl) (Nat.le_of_ble_eq_true rfl) [6, 0, 7, 1, 8, 9, 2, 3, 4, 5, 10, 11] (w' := [(mp_ob10 a0 0 a12 a13 a14 a15 a16 y1 y2 y3 y4 y5 y6 y7 y8 y9 y10 a1 a2 a3 a17 a4 a5 a6 a18 r_20 a7 a8 a9 a10 y12 y13 y14 a19 a20 y15 y16 a21 a22 a11 y17 y18 y19 y20 a23 a24 a25 y21), (mp_arI E a1 0 5 f0), (mp_arI E a2 0 25 f1), (mp_arI E a3 0 180 f2), (mp_arI E a4 0 90 f3), (mp_arI E a5 0 300 f4), (mp_arI E a6 0 300 f5), (mp_arI E a7 0 6 g_21), (mp_arI E a8 0 6 g_22), (mp_arI E a9 0 6 g_23), (mp_arI E a10 3 1500 g_24), (mp_arI E a11 0 3 g_45)]) rfl rfl ⟨r_20, g_21, g_22, g_23, g_24, g_45, z_63, rfl, l_25, u_26, p_27, rfl⟩ (by first | exact mp_fd_ok mp_k_cX10_ringed_ok (by decide +kernel) | decide +kernel)
set_option maxHeartbeats 4000000 in
set_option maxRecDepth 100000 in
theorem bX10_strikes_134 (E : mp_E) (a0 a1 a2 a3 a4 a5 a6 a7 a8 a9 a10 a11 a12 a13 a14 a15 a16 a17 a18 a19 a20 a21 a22 a23 a24 a25 : Nat) (f0 : Nat → Int32) (f1 : Nat → Int32) (f2 : Nat → Int32) (f3 : Nat → Int32) (f4 : Nat → Int32) (f5 : Nat → Int32) (f6 : Nat → Int32) (f7 : Nat → Int32) (f8 : Nat → Int32) (y0 : Int32) (y1 : Int32) (y2 : Int32) (y3 : Int32) (y4 : Int32) (y5 : Int32) (y6 : Int64) (y7 : Int32) (y8 : Int32) (y9 : Int32) (y10 : Int32) (y11 : Int32) (y12 : Int32) (y13 : Int32) (y14 : Int32) (y15 : Int32) (y16 : Int32) (y17 : Int32) (y18 : Int32) (y19 : Int32) (y20 : Int32) (y21 : Int32) (x0 : Int32) (x1 : Int32) (x2 : Int32) (x3 : Int32) (p0 : mp_res f0 25 5 0 0 6) (p1 : mp_res f0 25 5 1 0 99) (p2 : mp_res f0 25 5 2 0 6) (p3 : mp_res f0 25 5 3 0 10) (p4 : mp_res f0 25 5 4 0 60) (p5 : mp_all f1 180 0 20) (p6 : mp_res f2 90 3 0 0 5) (p7 : mp_res f2 90 3 1 (-1) 99) (p8 : mp_res f3 300 6 0 0 5) (p9 : mp_res f3 300 6 1 0 5) (p10 : mp_res f3 300 6 3 0 99) (p11 : mp_res f3 300 6 4 0 1) (p12 : mp_actm f4) (p13 : mp_all f5 6 0 5) (l_y1 : 0 ≤ y1.toInt) (u_y1 : y1.toInt ≤ 1600) (l_y2 : 0 ≤ y2.toInt) (u_y2 : y2.toInt ≤ 1600) (l_y3 : 0 ≤ y3.toInt) (u_y3 : y3.toInt ≤ 4) (l_y4 : 0 ≤ y4.toInt) (u_y4 : y4.toInt ≤ 1600) (l_y11 : 0 ≤ y11.toInt) (u_y11 : y11.toInt ≤ 99) (l_y12 : 0 ≤ y12.toInt) (u_y12 : y12.toInt ≤ 5) (l_y13 : 0 ≤ y13.toInt) (u_y13 : y13.toInt ≤ 12) (q0 : mp_prm f3 (f0 3).toInt) (q1 : (f0 1).toInt + mp_k200 f4 (f0 4).toInt ≤ 99) : mp_Ct E yX10_strikes cX10_strikes 5 (some FieldType.int) 16 0 0 387 [.ref a0, .int x0, .int x1, .int x2, .int x3] [(mp_ob10 a0 y0 a10 a11 a12 a13 a14 y1 y2 y3 y4 y5 y6 y7 y8 y9 y10 a15 a1 a2 a16 a3 a4 a5 a17 y11 a6 a7 a8 a9 y12 y13 y14 a18 a19 y15 y16 a20 a21 a22 y17 y18 y19 y20 a23 a24 a25 y21), (mp_arI E a1 0 25 f0), (mp_arI E a2 0 180 f1), (mp_arI E a3 0 90 f2), (mp_arI E a4 0 300 f3), (mp_arI E a5 0 300 f4), (mp_arI E a6 0 6 f5), (mp_arI E a7 0 6 f6), (mp_arI E a8 0 6 f7), (mp_arI E a9 3 1500 f8)] (fun v w' => ∃ r1 : Int32, ∃ h2 : Nat → Int32, ∃ h3 : Nat → Int32, ∃ h4 : Nat → Int32, ∃ h5 : Nat → Int32, ∃ r6 : Int32, v = some (.int r6) ∧ 0 ≤ r1.toInt ∧ r1.toInt ≤ 99 ∧ mp_all h2 6 0 5 ∧ w' = [(mp_ob10 a0 0 a10 a11 a12 a13 a14 y1 y2 y3 y4 y5 y6 y7 y8 y9 y10 a15 a1 a2 a16 a3 a4 a5 a17 r1 a6 a7 a8 a9 y12 y13 y14 a18 a19 y15 y16 a20 a21 a22 y17 y18 y19 y20 a23 a24 a25 y21), (mp_arI E a1 0 25 f0), (mp_arI E a2 0 180 f1), (mp_arI E a3 0 90 f2), (mp_arI E a4 0 300 f3), (mp_arI E a5 0 300 f4), (mp_arI E a6 0 6 h2), (mp_arI E a7 0 6 h3), (mp_arI E a8 0 6 h4), (mp_arI E a9 3 1500 h5)]) := by
  refine mp_met false (by decide) (by decide) (Nat.le_of_ble_eq_true rfl) (fun X hF hQ => ?_)
  have hF : mp_F E X (RX10, cX10_strikes, 5, (16, 0, 0, 387), (some FieldType.int), false) := hF
  let w1_ : va_W := [(mp_ob10 a0 y0 a10 a11 a12 a13 a14 y1 y2 y3 y4 y5 y6 y7 y8 y9 y10 a15 a1 a2 a16 a3 a4 a5 a17 y11 a6 a7 a8 a9 y12 y13 y14 a18 a19 y15 y16 a20 a21 a22 y17 y18 y19 y20 a23 a24 a25 y21), (mp_arI E a1 0 25 f0), (mp_arI E a2 0 180 f1), (mp_arI E a3 0 90 f2), (mp_arI E a4 0 300 f3), (mp_arI E a5 0 300 f4), (mp_arI E a6 0 6 f5), (mp_arI E a7 0 6 f6), (mp_arI E a8 0 6 f7), (mp_arI E a9 3 1500 f8)]
  show mp_W E X 5 0 [(0, .ref a0), (1, .int x0), (2, .int x1), (3, .int x2), (4, .int x3)] [] w1_ 0 0
  refine mp_run mp_k_cX10_strikes_ok hF mp_tabX10_ok [mp_i (.aload_n 0), mp_c (.iconst 0) 0, mp_h (.putfield 92) [0, 0]] (by decide +kernel) ?_
  refine And.intro rfl (And.intro rfl (And.intro rfl (And.intro rfl (And.intro (Nat.le_of_ble_eq_true rfl) ?_))))
  let w2_ : va_W := [(mp_ob10 a0 0 a10 a11 a12 a13 a14 y1 y2 y3 y4 y5 y6 y7 y8 y9 y10 a15 a1 a2 a16 a3 a4 a5 a17 y11 a6 a7 a8 a9 y12 y13 y14 a18 a19 y15 y16 a20 a21 a22 y17 y18 y19 y20 a23 a24 a25 y21), (mp_arI E a1 0 25 f0), (mp_arI E a2 0 180 f1), (mp_arI E a3 0 90 f2), (mp_arI E a4 0 300 f3), (mp_arI E a5 0 300 f4), (mp_arI E a6 0 6 f5), (mp_arI E a7 0 6 f6), (mp_arI E a8 0 6 f7), (mp_arI E a9 3 1500 f8)]
  show mp_W E X 5 5 [(0, .ref a0), (1, .int x0), (2, .int x1), (3, .int x2), (4, .int x3)] [] w2_ 0 0
  refine mp_run mp_k_cX10_strikes_ok hF mp_tabX10_ok [mp_i (.aload_n 0), mp_i (.iload_n 1), mp_i (.iload_n 2)] (by decide +kernel) ?_
  show mp_W E X 5 8 [(0, .ref a0), (1, .int x0), (2, .int x1), (3, .int x2), (4, .int x3)] [.int x1, .int x0, .ref a0] w2_ 0 0
  refine mp_callV hF (As := [.int x0, .int x1]) (rest := []) (wr := [(mp_arI E a2 0 180 f1), (mp_arI E a3 0 90 f2), (mp_arI E a4 0 300 f3), (mp_arI E a5 0 300 f4), (mp_arI E a6 0 6 f5), (mp_arI E a7 0 6 f6), (mp_arI E a8 0 6 f7), (mp_arI E a9 3 1500 f8)]) (bX10_areTwo_75 E a0 a1 a10 a11 a12 a13 a14 a15 a2 a16 a3 a4 a5 a17 a6 a7 a8 a9 a18 a19 a20 a21 a22 a23 a24 a25 f0 0 y1 y2 y3 y4 y5 y6 y7 y8 y9 y10 y11 y12 y13 y14 y15 y16 y17 y18 y19 y20 y21 x0 x1 p0 p1 p2 p3 p4 l_y1 u_y1 l_y2 u_y2 l_y3 u_y3 l_y4 u_y4 l_y11 u_y11 l_y12 u_y12 l_y13 u_y13) mp_lkX10_294 0 rfl [0, 1] [2, 3, 4, 5, 6, 7, 8, 9] rfl rfl rfl rfl rfl ⟨(Nat.le_of_ble_eq_true rfl), (Nat.le_of_ble_eq_true rfl), (Nat.le_of_ble_eq_true rfl), (Nat.le_of_ble_eq_true rfl)⟩ (Nat.le_of_ble_eq_true rfl) (by first | exact mp_fd_ok mp_k_cX10_strikes_ok (by decide +kernel) | decide +kernel) (fun v_1 w_2 h_3 => ?_)
  refine h_3.elim (fun q_13 => ?_) (fun q_14 => ?_)
  · skip
    refine q_13.elim fun e_15 q_16 => q_16.elim fun x_4 e_17 => ?_
    clear h_3 q_13 q_16
    subst e_15
    subst e_17
    let w3_ : va_W := [(mp_arI E a2 0 180 f1), (mp_arI E a3 0 90 f2), (mp_arI E a4 0 300 f3), (mp_arI E a5 0 300 f4), (mp_arI E a6 0 6 f5), (mp_arI E a7 0 6 f6), (mp_arI E a8 0 6 f7), (mp_arI E a9 3 1500 f8), (mp_ob10 a0 0 a10 a11 a12 a13 a14 y1 y2 y3 y4 y5 y6 y7 y8 y9 y10 a15 a1 a2 a16 a3 a4 a5 a17 y11 a6 a7 a8 a9 y12 y13 y14 a18 a19 y15 y16 a20 a21 a22 y17 y18 y19 y20 a23 a24 a25 y21), (mp_arI E a1 0 25 f0)]
    show mp_W E X 5 11 [(0, .ref a0), (1, .int x0), (2, .int x1), (3, .int x2), (4, .int x3)] [.int 0] w3_ 0 0
    refine mp_run mp_k_cX10_strikes_ok hF mp_tabX10_ok [mp_h (.ifCond .eq 25) [36]] (by decide +kernel) ?_
    refine And.intro (fun _ => ?_) (fun c_18 => absurd c_18 (by decide))
    show mp_W E X 5 36 [(0, .ref a0), (1, .int x0), (2, .int x1), (3, .int x2), (4, .int x3)] [] w3_ 0 0
    refine mp_run mp_k_cX10_strikes_ok hF mp_tabX10_ok [mp_c (.bipush (-2)) (-2)] (by decide +kernel) ?_
    show mp_W E X 5 38 [(0, .ref a0), (1, .int x0), (2, .int x1), (3, .int x2), (4, .int x3)] [.int (-2)] w3_ 0 0
    exact mp_iret hF hQ rfl rfl (Nat.le_of_ble_eq_true rfl) (Nat.le_of_ble_eq_true rfl) [8, 9, 0, 1, 2, 3, 4, 5, 6, 7] (w' := w2_) rfl rfl ⟨y11, f5, f6, f7, f8, (-2), rfl, l_y11, u_y11, p13, rfl⟩ (by first | exact mp_fd_ok mp_k_cX10_strikes_ok (by decide +kernel) | decide +kernel)
  · skip
    refine q_14.elim fun e_19 q_20 => q_20.elim fun c_5 q_21 => q_21.elim fun c_6 q_22 => q_22.elim fun c_7 q_23 => q_23.elim fun x_8 q_24 => q_24.elim fun x_9 q_25 => q_25.elim fun x_10 q_26 => q_26.elim fun x_11 q_27 => q_27.elim fun x_12 e_28 => ?_
    clear h_3 q_14 q_20 q_21 q_22 q_23 q_24 q_25 q_26 q_27
    subst e_19
    subst e_28
    have c_5 : 0 ≤ x0.toInt := c_5
    have c_6 : 0 ≤ x1.toInt := c_6
    have c_7 : x0.toInt ≠ x1.toInt := c_7
    let w4_ : va_W := [(mp_arI E a2 0 180 f1), (mp_arI E a3 0 90 f2), (mp_arI E a4 0 300 f3), (mp_arI E a5 0 300 f4), (mp_arI E a6 0 6 f5), (mp_arI E a7 0 6 f6), (mp_arI E a8 0 6 f7), (mp_arI E a9 3 1500 f8), (mp_ob10 a0 0 a10 a11 a12 a13 a14 y1 y2 y3 y4 y5 y6 y7 y8 y9 y10 a15 a1 a2 a16 a3 a4 a5 a17 y11 a6 a7 a8 a9 y12 y13 y14 a18 a19 y15 y16 a20 a21 a22 y17 y18 y19 y20 a23 a24 a25 y21), (mp_arI E a1 0 25 f0)]
    show mp_W E X 5 11 [(0, .ref a0), (1, .int x0), (2, .int x1), (3, .int x2), (4, .int x3)] [.int 1] w4_ 0 0
    refine mp_run mp_k_cX10_strikes_ok hF mp_tabX10_ok [mp_h (.ifCond .eq 25) [36]] (by decide +kernel) ?_
    refine And.intro (fun c_29 => absurd c_29 (by decide)) (fun _ => ?_)
    show mp_W E X 5 14 [(0, .ref a0), (1, .int x0), (2, .int x1), (3, .int x2), (4, .int x3)] [] w4_ 0 0
    refine mp_run mp_k_cX10_strikes_ok hF mp_tabX10_ok [mp_i (.aload_n 0), mp_i (.iload_n 2), mp_i (.iload_n 3)] (by decide +kernel) ?_
    show mp_W E X 5 17 [(0, .ref a0), (1, .int x0), (2, .int x1), (3, .int x2), (4, .int x3)] [.int x2, .int x1, .ref a0] w4_ 0 0
    refine mp_callV hF (As := [.int x1, .int x2]) (rest := []) (wr := [(mp_arI E a2 0 180 f1), (mp_arI E a3 0 90 f2), (mp_arI E a4 0 300 f3), (mp_arI E a5 0 300 f4), (mp_arI E a6 0 6 f5), (mp_arI E a7 0 6 f6), (mp_arI E a8 0 6 f7), (mp_arI E a9 3 1500 f8)]) (bX10_areTwo_75 E a0 a1 a10 a11 a12 a13 a14 a15 a2 a16 a3 a4 a5 a17 a6 a7 a8 a9 a18 a19 a20 a21 a22 a23 a24 a25 f0 0 y1 y2 y3 y4 y5 y6 y7 y8 y9 y10 y11 y12 y13 y14 y15 y16 y17 y18 y19 y20 y21 x1 x2 p0 p1 p2 p3 p4 l_y1 u_y1 l_y2 u_y2 l_y3 u_y3 l_y4 u_y4 l_y11 u_y11 l_y12 u_y12 l_y13 u_y13) mp_lkX10_294 8 rfl [8, 9] [0, 1, 2, 3, 4, 5, 6, 7] rfl rfl rfl rfl rfl ⟨(Nat.le_of_ble_eq_true rfl), (Nat.le_of_ble_eq_true rfl), (Nat.le_of_ble_eq_true rfl), (Nat.le_of_ble_eq_true rfl)⟩ (Nat.le_of_ble_eq_true rfl) (by first | exact mp_fd_ok mp_k_cX10_strikes_ok (by decide +kernel) | decide +kernel) (fun v_30 w_31 h_32 => ?_)
    refine h_32.elim (fun q_42 => ?_) (fun q_43 => ?_)
    · skip
      refine q_42.elim fun e_44 q_45 => q_45.elim fun x_33 e_46 => ?_
      clear h_32 q_42 q_45
      subst e_44
      subst e_46
      show mp_W E X 5 20 [(0, .ref a0), (1, .int x0), (2, .int x1), (3, .int x2), (4, .int x3)] [.int 0] w4_ 0 0
      refine mp_run mp_k_cX10_strikes_ok hF mp_tabX10_ok [mp_h (.ifCond .eq 16) [36]] (by decide +kernel) ?_
      refine And.intro (fun _ => ?_) (fun c_47 => absurd c_47 (by decide))
      show mp_W E X 5 36 [(0, .ref a0), (1, .int x0), (2, .int x1), (3, .int x2), (4, .int x3)] [] w4_ 0 0
      refine mp_run mp_k_cX10_strikes_ok hF mp_tabX10_ok [mp_c (.bipush (-2)) (-2)] (by decide +kernel) ?_
      show mp_W E X 5 38 [(0, .ref a0), (1, .int x0), (2, .int x1), (3, .int x2), (4, .int x3)] [.int (-2)] w4_ 0 0
      exact mp_iret hF hQ rfl rfl (Nat.le_of_ble_eq_true rfl) (Nat.le_of_ble_eq_true rfl) [8, 9, 0, 1, 2, 3, 4, 5, 6, 7] (w' := w2_) rfl rfl ⟨y11, f5, f6, f7, f8, (-2), rfl, l_y11, u_y11, p13, rfl⟩ (by first | exact mp_fd_ok mp_k_cX10_strikes_ok (by decide +kernel) | decide +kernel)
    · skip
      refine q_43.elim fun e_48 q_49 => q_49.elim fun c_34 q_50 => q_50.elim fun c_35 q_51 => q_51.elim fun c_36 q_52 => q_52.elim fun x_37 q_53 => q_53.elim fun x_38 q_54 => q_54.elim fun x_39 q_55 => q_55.elim fun x_40 q_56 => q_56.elim fun x_41 e_57 => ?_
      clear h_32 q_43 q_49 q_50 q_51 q_52 q_53 q_54 q_55 q_56
      subst e_48
      subst e_57
      have c_34 : 0 ≤ x1.toInt := c_34
      have c_35 : 0 ≤ x2.toInt := c_35
      have c_36 : x1.toInt ≠ x2.toInt := c_36
      show mp_W E X 5 20 [(0, .ref a0), (1, .int x0), (2, .int x1), (3, .int x2), (4, .int x3)] [.int 1] w4_ 0 0
      refine mp_run mp_k_cX10_strikes_ok hF mp_tabX10_ok [mp_h (.ifCond .eq 16) [36]] (by decide +kernel) ?_
      refine And.intro (fun c_58 => absurd c_58 (by decide)) (fun _ => ?_)
      show mp_W E X 5 23 [(0, .ref a0), (1, .int x0), (2, .int x1), (3, .int x2), (4, .int x3)] [] w4_ 0 0
      refine mp_run mp_k_cX10_strikes_ok hF mp_tabX10_ok [mp_i (.iload_n 1), mp_i (.iload_n 3), mp_h (.if_icmp .eq 11) [36]] (by decide +kernel) ?_
      refine And.intro (fun c_59 => ?_) (fun c_59 => ?_)
      · have c_59 : x0.toInt = x2.toInt := (congrArg Int32.toInt c_59)
        show mp_W E X 5 36 [(0, .ref a0), (1, .int x0), (2, .int x1), (3, .int x2), (4, .int x3)] [] w4_ 0 0
        refine mp_run mp_k_cX10_strikes_ok hF mp_tabX10_ok [mp_c (.bipush (-2)) (-2)] (by decide +kernel) ?_
        show mp_W E X 5 38 [(0, .ref a0), (1, .int x0), (2, .int x1), (3, .int x2), (4, .int x3)] [.int (-2)] w4_ 0 0
        exact mp_iret hF hQ rfl rfl (Nat.le_of_ble_eq_true rfl) (Nat.le_of_ble_eq_true rfl) [8, 9, 0, 1, 2, 3, 4, 5, 6, 7] (w' := w2_) rfl rfl ⟨y11, f5, f6, f7, f8, (-2), rfl, l_y11, u_y11, p13, rfl⟩ (by first | exact mp_fd_ok mp_k_cX10_strikes_ok (by decide +kernel) | decide +kernel)
      · have c_59 : x0.toInt ≠ x2.toInt := c_59
        show mp_W E X 5 28 [(0, .ref a0), (1, .int x0), (2, .int x1), (3, .int x2), (4, .int x3)] [] w4_ 0 0
        refine mp_run mp_k_cX10_strikes_ok hF mp_tabX10_ok [mp_i (.iload 4)] (by decide +kernel) ?_
        show mp_W E X 5 30 [(0, .ref a0), (1, .int x0), (2, .int x1), (3, .int x2), (4, .int x3)] [.int x3] w4_ 0 0
        refine mp_callS hF (As := [.int x3]) (rest := []) (wr := w4_) (bX10_isMoon_60 E x3) mp_lkX10_273 [] [0, 1, 2, 3, 4, 5, 6, 7, 8, 9] rfl rfl rfl rfl rfl ⟨(Nat.le_of_ble_eq_true rfl), (Nat.le_of_ble_eq_true rfl), (Nat.le_of_ble_eq_true rfl), (Nat.le_of_ble_eq_true rfl)⟩ (Nat.le_of_ble_eq_true rfl) (by first | exact mp_fd_ok mp_k_cX10_strikes_ok (by decide +kernel) | decide +kernel) (fun v_60 w_61 h_62 => ?_)
        rcases h_62 with ⟨rfl, x_63, rfl⟩ | ⟨rfl, c_64, c_65, x_66, rfl⟩
        · skip
          show mp_W E X 5 33 [(0, .ref a0), (1, .int x0), (2, .int x1), (3, .int x2), (4, .int x3)] [.int 0] w4_ 0 0
          refine mp_run mp_k_cX10_strikes_ok hF mp_tabX10_ok [mp_h (.ifCond .ne 6) [39]] (by decide +kernel) ?_
          refine And.intro (fun c_67 => absurd c_67 (by decide)) (fun _ => ?_)
          show mp_W E X 5 36 [(0, .ref a0), (1, .int x0), (2, .int x1), (3, .int x2), (4, .int x3)] [] w4_ 0 0
          refine mp_run mp_k_cX10_strikes_ok hF mp_tabX10_ok [mp_c (.bipush (-2)) (-2)] (by decide +kernel) ?_
          show mp_W E X 5 38 [(0, .ref a0), (1, .int x0), (2, .int x1), (3, .int x2), (4, .int x3)] [.int (-2)] w4_ 0 0
          exact mp_iret hF hQ rfl rfl (Nat.le_of_ble_eq_true rfl) (Nat.le_of_ble_eq_true rfl) [8, 9, 0, 1, 2, 3, 4, 5, 6, 7] (w' := w2_) rfl rfl ⟨y11, f5, f6, f7, f8, (-2), rfl, l_y11, u_y11, p13, rfl⟩ (by first | exact mp_fd_ok mp_k_cX10_strikes_ok (by decide +kernel) | decide +kernel)
        · skip
          have c_64 : 0 ≤ x3.toInt := c_64
          have c_65 : x3.toInt ≤ 99 := c_65
          show mp_W E X 5 33 [(0, .ref a0), (1, .int x0), (2, .int x1), (3, .int x2), (4, .int x3)] [.int 1] w4_ 0 0
          refine mp_run mp_k_cX10_strikes_ok hF mp_tabX10_ok [mp_h (.ifCond .ne 6) [39]] (by decide +kernel) ?_
          refine And.intro (fun _ => ?_) (fun c_68 => absurd c_68 (by decide))
          show mp_W E X 5 39 [(0, .ref a0), (1, .int x0), (2, .int x1), (3, .int x2), (4, .int x3)] [] w4_ 0 0
          refine mp_run mp_k_cX10_strikes_ok hF mp_tabX10_ok [mp_i (.aload_n 0)] (by decide +kernel) ?_
          show mp_W E X 5 40 [(0, .ref a0), (1, .int x0), (2, .int x1), (3, .int x2), (4, .int x3)] [.ref a0] w4_ 0 0
          refine mp_callV hF (As := []) (rest := []) (wr := [(mp_arI E a4 0 300 f3)]) (bX10_lays_62 E a0 a1 a2 a3 a5 a6 a7 a8 a9 a10 a11 a12 a13 a14 a15 a16 a4 a17 a18 a19 a20 a21 a22 a23 a24 a25 f0 f1 f2 f4 f5 f6 f7 f8 0 y1 y2 y3 y4 y5 y6 y7 y8 y9 y10 y11 y12 y13 y14 y15 y16 y17 y18 y19 y20 y21 p0 p1 p2 p3 p4 p5 p6 p7 p12 p13 l_y1 u_y1 l_y2 u_y2 l_y3 u_y3 l_y4 u_y4 l_y11 u_y11 l_y12 u_y12 l_y13 u_y13 (by (first | exact q1 | omega))) mp_lkX10_288 8 rfl [8, 9, 0, 1, 3, 4, 5, 6, 7] [2] rfl rfl rfl rfl rfl ⟨(Nat.le_of_ble_eq_true rfl), (Nat.le_of_ble_eq_true rfl), (Nat.le_of_ble_eq_true rfl), (Nat.le_of_ble_eq_true rfl)⟩ (Nat.le_of_ble_eq_true rfl) (by first | exact mp_fd_ok mp_k_cX10_strikes_ok (by decide +kernel) | decide +kernel) (fun v_69 w_70 h_71 => ?_)
          refine h_71.elim fun r_72 q_82 => q_82.elim fun g_73 q_83 => q_83.elim fun g_74 q_84 => q_84.elim fun g_75 q_85 => q_85.elim fun g_76 q_86 => q_86.elim fun e_87 q_88 => q_88.elim fun l_77 q_89 => q_89.elim fun u_78 q_90 => q_90.elim fun p_79 q_91 => q_91.elim fun x_80 q_92 => q_92.elim fun x_81 e_93 => ?_
          clear h_71 q_82 q_83 q_84 q_85 q_86 q_88 q_89 q_90 q_91 q_92
          subst e_87
          subst e_93
          let w5_ : va_W := [(mp_arI E a4 0 300 f3), (mp_ob10 a0 0 a10 a11 a12 a13 a14 y1 y2 y3 y4 y5 y6 y7 y8 y9 y10 a15 a1 a2 a16 a3 a4 a5 a17 r_72 a6 a7 a8 a9 y12 y13 y14 a18 a19 y15 y16 a20 a21 a22 y17 y18 y19 y20 a23 a24 a25 y21), (mp_arI E a1 0 25 f0), (mp_arI E a2 0 180 f1), (mp_arI E a3 0 90 f2), (mp_arI E a5 0 300 f4), (mp_arI E a6 0 6 g_73), (mp_arI E a7 0 6 g_74), (mp_arI E a8 0 6 g_75), (mp_arI E a9 3 1500 g_76)]
          show mp_W E X 5 43 [(0, .ref a0), (1, .int x0), (2, .int x1), (3, .int x2), (4, .int x3)] [] w5_ 0 0
          refine mp_run mp_k_cX10_strikes_ok hF mp_tabX10_ok [mp_i (.aload_n 0), mp_i (.iload_n 1), mp_i (.iload_n 2), mp_i (.iload_n 3), mp_i (.iload 4)] (by decide +kernel) ?_
          show mp_W E X 5 49 [(0, .ref a0), (1, .int x0), (2, .int x1), (3, .int x2), (4, .int x3)] [.int x3, .int x2, .int x1, .int x0, .ref a0] w5_ 0 0
          refine mp_callV hF (As := [.int x0, .int x1, .int x2, .int x3]) (rest := []) (wr := [(mp_arI E a2 0 180 f1), (mp_arI E a5 0 300 f4), (mp_arI E a6 0 6 g_73), (mp_arI E a7 0 6 g_74), (mp_arI E a8 0 6 g_75)]) (bX10_struckOf_130 E a0 a1 a3 a4 a9 a10 a11 a12 a13 a14 a15 a2 a16 a5 a17 a6 a7 a8 a18 a19 a20 a21 a22 a23 a24 a25 f0 f2 f3 g_76 0 y1 y2 y3 y4 y5 y6 y7 y8 y9 y10 r_72 y12 y13 y14 y15 y16 y17 y18 y19 y20 y21 x0 x1 x2 x3 p0 p1 p2 p3 p4 p6 p7 p8 p9 p10 p11 (by (first | exact c_64 | omega)) (by (first | exact c_65 | omega)) l_y1 u_y1 l_y2 u_y2 l_y3 u_y3 l_y4 u_y4 l_77 u_78 l_y12 u_y12 l_y13 u_y13 (by first | assumption | (rw [rfl]; assumption))) mp_lkX10_405 1 rfl [1, 2, 4, 0, 9] [3, 5, 6, 7, 8] rfl rfl rfl rfl rfl ⟨(Nat.le_of_ble_eq_true rfl), (Nat.le_of_ble_eq_true rfl), (Nat.le_of_ble_eq_true rfl), (Nat.le_of_ble_eq_true rfl)⟩ (Nat.le_of_ble_eq_true rfl) (by first | exact mp_fd_ok mp_k_cX10_strikes_ok (by decide +kernel) | decide +kernel) (fun v_94 w_95 h_96 => ?_)
          obtain ⟨r_97, rfl, rfl⟩ := h_96
          let w6_ : va_W := [(mp_arI E a2 0 180 f1), (mp_arI E a5 0 300 f4), (mp_arI E a6 0 6 g_73), (mp_arI E a7 0 6 g_74), (mp_arI E a8 0 6 g_75), (mp_ob10 a0 0 a10 a11 a12 a13 a14 y1 y2 y3 y4 y5 y6 y7 y8 y9 y10 a15 a1 a2 a16 a3 a4 a5 a17 r_72 a6 a7 a8 a9 y12 y13 y14 a18 a19 y15 y16 a20 a21 a22 y17 y18 y19 y20 a23 a24 a25 y21), (mp_arI E a1 0 25 f0), (mp_arI E a3 0 90 f2), (mp_arI E a4 0 300 f3), (mp_arI E a9 3 1500 g_76)]
          show mp_W E X 5 52 [(0, .ref a0), (1, .int x0), (2, .int x1), (3, .int x2), (4, .int x3)] [.int r_97] w6_ 0 0
          exact mp_iret hF hQ rfl rfl (Nat.le_of_ble_eq_true rfl) (Nat.le_of_ble_eq_true rfl) [5, 6, 0, 7, 8, 1, 2, 3, 4, 9] (w' := [(mp_ob10 a0 0 a10 a11 a12 a13 a14 y1 y2 y3 y4 y5 y6 y7 y8 y9 y10 a15 a1 a2 a16 a3 a4 a5 a17 r_72 a6 a7 a8 a9 y12 y13 y14 a18 a19 y15 y16 a20 a21 a22 y17 y18 y19 y20 a23 a24 a25 y21), (mp_arI E a1 0 25 f0), (mp_arI E a2 0 180 f1), (mp_arI E a3 0 90 f2), (mp_arI E a4 0 300 f3), (mp_arI E a5 0 300 f4), (mp_arI E a6 0 6 g_73), (mp_arI E a7 0 6 g_74), (mp_arI E a8 0 6 g_75), (mp_arI E a9 3 1500 g_76)]) rfl rfl ⟨r_72, g_73, g_74, g_75, g_76, r_97, rfl, l_77, u_78, p_79, rfl⟩ (by first | exact mp_fd_ok mp_k_cX10_strikes_ok (by decide +kernel) | decide +kernel)
set_option maxHeartbeats 4000000 in
set_option maxRecDepth 100000 in
theorem bX10_whyNot_135 (E : mp_E) (a0 a1 a2 a3 a4 a5 a6 a7 a8 a9 a10 a11 a12 a13 a14 a15 a16 a17 a18 a19 a20 a21 a22 a23 a24 a25 : Nat) (f0 : Nat → Int32) (f1 : Nat → Int32) (f2 : Nat → Int64) (f3 : Nat → Int32) (f4 : Nat → Int32) (y0 : Int32) (y1 : Int32) (y2 : Int32) (y3 : Int32) (y4 : Int32) (y5 : Int32) (y6 : Int64) (y7 : Int32) (y8 : Int32) (y9 : Int32) (y10 : Int32) (y11 : Int32) (y12 : Int32) (y13 : Int32) (y14 : Int32) (y15 : Int32) (y16 : Int32) (y17 : Int32) (y18 : Int32) (y19 : Int32) (y20 : Int32) (y21 : Int32) (x0 : Int32) (x1 : Int32) (p0 : mp_all f1 4 0 60) (p1 : mp_res f3 25 5 0 0 6) (p2 : mp_res f3 25 5 1 0 99) (p3 : mp_res f3 25 5 2 0 6) (p4 : mp_res f3 25 5 3 0 10) (p5 : mp_res f3 25 5 4 0 60) (p6 : mp_res f4 300 6 0 0 5) (p7 : mp_res f4 300 6 1 0 5) (p8 : mp_res f4 300 6 3 0 99) (p9 : mp_res f4 300 6 4 0 1) (l_y1 : 0 ≤ y1.toInt) (u_y1 : y1.toInt ≤ 1600) (l_y2 : 0 ≤ y2.toInt) (u_y2 : y2.toInt ≤ 1600) (l_y3 : 0 ≤ y3.toInt) (u_y3 : y3.toInt ≤ 4) (l_y4 : 0 ≤ y4.toInt) (u_y4 : y4.toInt ≤ 1600) (l_y11 : 0 ≤ y11.toInt) (u_y11 : y11.toInt ≤ 99) (l_y12 : 0 ≤ y12.toInt) (u_y12 : y12.toInt ≤ 5) (l_y13 : 0 ≤ y13.toInt) (u_y13 : y13.toInt ≤ 12) : mp_Ct E yX10_whyNot cX10_whyNot 4 (some FieldType.int) 2 0 0 46 [.ref a0, .int x0, .int x1] [(mp_ob10 a0 y0 a1 a2 a3 a6 a7 y1 y2 y3 y4 y5 y6 y7 y8 y9 y10 a8 a4 a9 a10 a11 a5 a12 a13 y11 a14 a15 a16 a17 y12 y13 y14 a18 a19 y15 y16 a20 a21 a22 y17 y18 y19 y20 a23 a24 a25 y21), (mp_arI E a1 0 4 f0), (mp_arI E a2 0 4 f1), (mp_arL E a3 240 f2), (mp_arI E a4 0 25 f3), (mp_arI E a5 0 300 f4)] (fun v w' => (v = some (.int (-2)) ∧ w' = [(mp_ob10 a0 y0 a1 a2 a3 a6 a7 y1 y2 y3 y4 y5 y6 y7 y8 y9 y10 a8 a4 a9 a10 a11 a5 a12 a13 y11 a14 a15 a16 a17 y12 y13 y14 a18 a19 y15 y16 a20 a21 a22 y17 y18 y19 y20 a23 a24 a25 y21), (mp_arI E a1 0 4 f0), (mp_arI E a2 0 4 f1), (mp_arL E a3 240 f2), (mp_arI E a4 0 25 f3), (mp_arI E a5 0 300 f4)]) ∨ (v = some (.int 0) ∧ 0 ≤ x0.toInt ∧ x0.toInt ≤ 3 ∧ 0 ≤ x1.toInt ∧ (0 ≤ x0.toInt) ∧ (x0.toInt ≤ 3) ∧ (0 ≤ x1.toInt) ∧ (x1.toInt ≤ 9) ∧ ((f1 x0.toInt.toNat).toInt % 2 = 0) ∧ (mp_wn f2 x0.toInt (f1 x0.toInt.toNat).toInt (f4 (6 * x1.toInt.toNat + 3)).toInt) ∧ w' = [(mp_ob10 a0 y0 a1 a2 a3 a6 a7 y1 y2 y3 y4 y5 y6 y7 y8 y9 y10 a8 a4 a9 a10 a11 a5 a12 a13 y11 a14 a15 a16 a17 y12 y13 y14 a18 a19 y15 y16 a20 a21 a22 y17 y18 y19 y20 a23 a24 a25 y21), (mp_arI E a1 0 4 f0), (mp_arI E a2 0 4 f1), (mp_arL E a3 240 f2), (mp_arI E a4 0 25 f3), (mp_arI E a5 0 300 f4)]) ∨ (v = some (.int (-6)) ∧ 0 ≤ x0.toInt ∧ x0.toInt ≤ 3 ∧ 0 ≤ x1.toInt ∧ w' = [(mp_ob10 a0 y0 a1 a2 a3 a6 a7 y1 y2 y3 y4 y5 y6 y7 y8 y9 y10 a8 a4 a9 a10 a11 a5 a12 a13 y11 a14 a15 a16 a17 y12 y13 y14 a18 a19 y15 y16 a20 a21 a22 y17 y18 y19 y20 a23 a24 a25 y21), (mp_arI E a1 0 4 f0), (mp_arI E a2 0 4 f1), (mp_arL E a3 240 f2), (mp_arI E a4 0 25 f3), (mp_arI E a5 0 300 f4)])) := by
  refine mp_met false (by decide) (by decide) (Nat.le_of_ble_eq_true rfl) (fun X hF hQ => ?_)
  have hF : mp_F E X (RX10, cX10_whyNot, 4, (2, 0, 0, 46), (some FieldType.int), false) := hF
  let w1_ : va_W := [(mp_ob10 a0 y0 a1 a2 a3 a6 a7 y1 y2 y3 y4 y5 y6 y7 y8 y9 y10 a8 a4 a9 a10 a11 a5 a12 a13 y11 a14 a15 a16 a17 y12 y13 y14 a18 a19 y15 y16 a20 a21 a22 y17 y18 y19 y20 a23 a24 a25 y21), (mp_arI E a1 0 4 f0), (mp_arI E a2 0 4 f1), (mp_arL E a3 240 f2), (mp_arI E a4 0 25 f3), (mp_arI E a5 0 300 f4)]
  show mp_W E X 4 0 [(0, .ref a0), (1, .int x0), (2, .int x1)] [] w1_ 0 0
  refine mp_run mp_k_cX10_whyNot_ok hF mp_tabX10_ok [mp_i (.iload_n 1)] (by decide +kernel) ?_
  show mp_W E X 4 1 [(0, .ref a0), (1, .int x0), (2, .int x1)] [.int x0] w1_ 0 0
  refine mp_callS hF (As := [.int x0]) (rest := []) (wr := w1_) (bX10_isSlot_1 E x0) mp_lkX10_101 [] [0, 1, 2, 3, 4, 5] rfl rfl rfl rfl rfl ⟨(Nat.le_of_ble_eq_true rfl), (Nat.le_of_ble_eq_true rfl), (Nat.le_of_ble_eq_true rfl), (Nat.le_of_ble_eq_true rfl)⟩ (Nat.le_of_ble_eq_true rfl) (by first | exact mp_fd_ok mp_k_cX10_whyNot_ok (by decide +kernel) | decide +kernel) (fun v_1 w_2 h_3 => ?_)
  rcases h_3 with ⟨rfl, x_4, rfl⟩ | ⟨rfl, c_5, c_6, x_7, rfl⟩
  · skip
    show mp_W E X 4 4 [(0, .ref a0), (1, .int x0), (2, .int x1)] [.int 0] w1_ 0 0
    refine mp_run mp_k_cX10_whyNot_ok hF mp_tabX10_ok [mp_h (.ifCond .eq 21) [25]] (by decide +kernel) ?_
    refine And.intro (fun _ => ?_) (fun c_8 => absurd c_8 (by decide))
    show mp_W E X 4 25 [(0, .ref a0), (1, .int x0), (2, .int x1)] [] w1_ 0 0
    refine mp_run mp_k_cX10_whyNot_ok hF mp_tabX10_ok [mp_c (.bipush (-2)) (-2)] (by decide +kernel) ?_
    show mp_W E X 4 27 [(0, .ref a0), (1, .int x0), (2, .int x1)] [.int (-2)] w1_ 0 0
    exact mp_iret hF hQ rfl rfl (Nat.le_of_ble_eq_true rfl) (Nat.le_of_ble_eq_true rfl) [0, 1, 2, 3, 4, 5] (w' := w1_) rfl rfl (Or.inl ⟨rfl, rfl⟩) (by first | exact mp_fd_ok mp_k_cX10_whyNot_ok (by decide +kernel) | decide +kernel)
  · skip
    have c_5 : 0 ≤ x0.toInt := c_5
    have c_6 : x0.toInt ≤ 3 := c_6
    show mp_W E X 4 4 [(0, .ref a0), (1, .int x0), (2, .int x1)] [.int 1] w1_ 0 0
    refine mp_run mp_k_cX10_whyNot_ok hF mp_tabX10_ok [mp_h (.ifCond .eq 21) [25]] (by decide +kernel) ?_
    refine And.intro (fun c_9 => absurd c_9 (by decide)) (fun _ => ?_)
    show mp_W E X 4 7 [(0, .ref a0), (1, .int x0), (2, .int x1)] [] w1_ 0 0
    refine mp_run mp_k_cX10_whyNot_ok hF mp_tabX10_ok [mp_i (.aload_n 0), mp_i (.iload_n 2)] (by decide +kernel) ?_
    show mp_W E X 4 9 [(0, .ref a0), (1, .int x0), (2, .int x1)] [.int x1, .ref a0] w1_ 0 0
    refine mp_callV hF (As := [.int x1]) (rest := []) (wr := [(mp_arI E a1 0 4 f0), (mp_arI E a2 0 4 f1), (mp_arL E a3 240 f2), (mp_arI E a5 0 300 f4)]) (bX10_isPromise_55 E a0 a4 a1 a2 a3 a6 a7 a8 a9 a10 a11 a5 a12 a13 a14 a15 a16 a17 a18 a19 a20 a21 a22 a23 a24 a25 f3 y0 y1 y2 y3 y4 y5 y6 y7 y8 y9 y10 y11 y12 y13 y14 y15 y16 y17 y18 y19 y20 y21 x1 p1 p2 p3 p4 p5 l_y1 u_y1 l_y2 u_y2 l_y3 u_y3 l_y4 u_y4 l_y11 u_y11 l_y12 u_y12 l_y13 u_y13) mp_lkX10_262 0 rfl [0, 4] [1, 2, 3, 5] rfl rfl rfl rfl rfl ⟨(Nat.le_of_ble_eq_true rfl), (Nat.le_of_ble_eq_true rfl), (Nat.le_of_ble_eq_true rfl), (Nat.le_of_ble_eq_true rfl)⟩ (Nat.le_of_ble_eq_true rfl) (by first | exact mp_fd_ok mp_k_cX10_whyNot_ok (by decide +kernel) | decide +kernel) (fun v_10 w_11 h_12 => ?_)
    refine h_12.elim (fun q_18 => ?_) (fun q_19 => ?_)
    · skip
      refine q_18.elim fun e_20 q_21 => q_21.elim fun x_13 e_22 => ?_
      clear h_12 q_18 q_21
      subst e_20
      subst e_22
      let w2_ : va_W := [(mp_arI E a1 0 4 f0), (mp_arI E a2 0 4 f1), (mp_arL E a3 240 f2), (mp_arI E a5 0 300 f4), (mp_ob10 a0 y0 a1 a2 a3 a6 a7 y1 y2 y3 y4 y5 y6 y7 y8 y9 y10 a8 a4 a9 a10 a11 a5 a12 a13 y11 a14 a15 a16 a17 y12 y13 y14 a18 a19 y15 y16 a20 a21 a22 y17 y18 y19 y20 a23 a24 a25 y21), (mp_arI E a4 0 25 f3)]
      show mp_W E X 4 12 [(0, .ref a0), (1, .int x0), (2, .int x1)] [.int 0] w2_ 0 0
      refine mp_run mp_k_cX10_whyNot_ok hF mp_tabX10_ok [mp_h (.ifCond .eq 13) [25]] (by decide +kernel) ?_
      refine And.intro (fun _ => ?_) (fun c_23 => absurd c_23 (by decide))
      show mp_W E X 4 25 [(0, .ref a0), (1, .int x0), (2, .int x1)] [] w2_ 0 0
      refine mp_run mp_k_cX10_whyNot_ok hF mp_tabX10_ok [mp_c (.bipush (-2)) (-2)] (by decide +kernel) ?_
      show mp_W E X 4 27 [(0, .ref a0), (1, .int x0), (2, .int x1)] [.int (-2)] w2_ 0 0
      exact mp_iret hF hQ rfl rfl (Nat.le_of_ble_eq_true rfl) (Nat.le_of_ble_eq_true rfl) [4, 0, 1, 2, 5, 3] (w' := w1_) rfl rfl (Or.inl ⟨rfl, rfl⟩) (by first | exact mp_fd_ok mp_k_cX10_whyNot_ok (by decide +kernel) | decide +kernel)
    · skip
      refine q_19.elim fun e_24 q_25 => q_25.elim fun c_14 q_26 => q_26.elim fun x_15 q_27 => q_27.elim fun x_16 q_28 => q_28.elim fun x_17 e_29 => ?_
      clear h_12 q_19 q_25 q_26 q_27 q_28
      subst e_24
      subst e_29
      have c_14 : 0 ≤ x1.toInt := c_14
      let w3_ : va_W := [(mp_arI E a1 0 4 f0), (mp_arI E a2 0 4 f1), (mp_arL E a3 240 f2), (mp_arI E a5 0 300 f4), (mp_ob10 a0 y0 a1 a2 a3 a6 a7 y1 y2 y3 y4 y5 y6 y7 y8 y9 y10 a8 a4 a9 a10 a11 a5 a12 a13 y11 a14 a15 a16 a17 y12 y13 y14 a18 a19 y15 y16 a20 a21 a22 y17 y18 y19 y20 a23 a24 a25 y21), (mp_arI E a4 0 25 f3)]
      show mp_W E X 4 12 [(0, .ref a0), (1, .int x0), (2, .int x1)] [.int 1] w3_ 0 0
      refine mp_run mp_k_cX10_whyNot_ok hF mp_tabX10_ok [mp_h (.ifCond .eq 13) [25]] (by decide +kernel) ?_
      refine And.intro (fun c_30 => absurd c_30 (by decide)) (fun _ => ?_)
      show mp_W E X 4 15 [(0, .ref a0), (1, .int x0), (2, .int x1)] [] w3_ 0 0
      refine mp_run mp_k_cX10_whyNot_ok hF mp_tabX10_ok [mp_i (.aload_n 0), mp_i (.iload_n 2), mp_c (.iconst 5) 5] (by decide +kernel) ?_
      show mp_W E X 4 18 [(0, .ref a0), (1, .int x0), (2, .int x1)] [.int 5, .int x1, .ref a0] w3_ 0 0
      refine mp_callV hF (As := [.int x1, .int 5]) (rest := []) (wr := [(mp_arI E a1 0 4 f0), (mp_arI E a2 0 4 f1), (mp_arL E a3 240 f2), (mp_arI E a4 0 25 f3)]) (bX10_of_67 E a0 a5 a1 a2 a3 a6 a7 a8 a4 a9 a10 a11 a12 a13 a14 a15 a16 a17 a18 a19 a20 a21 a22 a23 a24 a25 f4 y0 y1 y2 y3 y4 y5 y6 y7 y8 y9 y10 y11 y12 y13 y14 y15 y16 y17 y18 y19 y20 y21 x1 p6 p7 p8 p9 (by omega) (by omega) l_y1 u_y1 l_y2 u_y2 l_y3 u_y3 l_y4 u_y4 l_y11 u_y11 l_y12 u_y12 l_y13 u_y13) mp_lkX10_267 4 rfl [4, 3] [0, 1, 2, 5] rfl rfl rfl rfl rfl ⟨(Nat.le_of_ble_eq_true rfl), (Nat.le_of_ble_eq_true rfl), (Nat.le_of_ble_eq_true rfl), (Nat.le_of_ble_eq_true rfl)⟩ (Nat.le_of_ble_eq_true rfl) (by first | exact mp_fd_ok mp_k_cX10_whyNot_ok (by decide +kernel) | decide +kernel) (fun v_31 w_32 h_33 => ?_)
      obtain ⟨r_34, rfl, x_35, rfl⟩ := h_33
      let w4_ : va_W := [(mp_arI E a1 0 4 f0), (mp_arI E a2 0 4 f1), (mp_arL E a3 240 f2), (mp_arI E a4 0 25 f3), (mp_ob10 a0 y0 a1 a2 a3 a6 a7 y1 y2 y3 y4 y5 y6 y7 y8 y9 y10 a8 a4 a9 a10 a11 a5 a12 a13 y11 a14 a15 a16 a17 y12 y13 y14 a18 a19 y15 y16 a20 a21 a22 y17 y18 y19 y20 a23 a24 a25 y21), (mp_arI E a5 0 300 f4)]
      show mp_W E X 4 21 [(0, .ref a0), (1, .int x0), (2, .int x1)] [.int r_34] w4_ 0 0
      refine mp_run mp_k_cX10_whyNot_ok hF mp_tabX10_ok [mp_c (.iconst (-1)) (-1), mp_h (.if_icmp .eq 6) [28]] (by decide +kernel) ?_
      refine And.intro (fun c_36 => ?_) (fun c_36 => ?_)
      · have c_36 : r_34.toInt = (-1) := (congrArg Int32.toInt c_36)
        show mp_W E X 4 28 [(0, .ref a0), (1, .int x0), (2, .int x1)] [] w4_ 0 0
        refine mp_run mp_k_cX10_whyNot_ok hF mp_tabX10_ok [mp_i (.aload_n 0), mp_h (.getfield 7) [1, 4], mp_i (.iload_n 1), mp_h .iaload [0], mp_c (.iconst (-1)) (-1), mp_h (.if_icmp .ne 6) [41]] (by decide +kernel) ?_
        refine And.intro rfl (And.intro rfl ?_)
        refine And.intro rfl (And.intro rfl (And.intro (vp_in_iff.mpr (by omega)) ?_))
        intro z_37 h_38
        refine And.intro (fun c_39 => ?_) (fun c_39 => ?_)
        · have c_39 : z_37.toInt ≠ (-1) := c_39
          show mp_W E X 4 41 [(0, .ref a0), (1, .int x0), (2, .int x1)] [] w4_ 0 0
          refine mp_run mp_k_cX10_whyNot_ok hF mp_tabX10_ok [mp_i (.aload_n 0), mp_h (.getfield 13) [2, 4], mp_i (.iload_n 1), mp_h .iaload [1], mp_c (.iconst 2) 2, mp_i .irem, mp_h (.ifCond .eq 6) [55]] (by decide +kernel) ?_
          refine And.intro rfl (And.intro rfl ?_)
          refine And.intro rfl (And.intro rfl (And.intro (vp_in_iff.mpr (by omega)) ?_))
          intro z_40 h_41
          have e_42 : 0 ≤ z_40.toInt ∧ z_40.toInt ≤ 60 := mp_all_ld h_41 p0 (by omega) (by omega)
          have e_43 : z_40.toInt = (f1 x0.toInt.toNat).toInt := congrArg Int32.toInt h_41
          refine And.intro (by decide) ?_
          intro z_44 h_45
          have e_46 : z_44.toInt = z_40.toInt % 2 := mp_rem (a := z_40.toInt) (b := 2) h_45 rfl (by decide) (by omega) (by decide)
          refine And.intro (fun c_47 => ?_) (fun c_47 => ?_)
          · have c_47 : z_44.toInt = 0 := (congrArg Int32.toInt c_47)
            show mp_W E X 4 55 [(0, .ref a0), (1, .int x0), (2, .int x1)] [] w4_ 0 0
            refine mp_run mp_k_cX10_whyNot_ok hF mp_tabX10_ok [mp_c (.iconst 0) 0, mp_i (.istore_n 3)] (by decide +kernel) ?_
            show mp_W E X 4 57 [(3, .int 0), (0, .ref a0), (1, .int x0), (2, .int x1)] [] w4_ 0 0
            have lp_53 : ∀ (d_54 : Nat) (i_48 : Int32), 0 ≤ i_48.toInt → i_48.toInt ≤ 78 → (i_48.toInt % 2 = 0) → (mp_wn f2 x0.toInt i_48.toInt (f4 (6 * x1.toInt.toNat + 3)).toInt) → z_40.toInt - i_48.toInt ≤ (d_54 : Int) → mp_W E X 4 57 [(3, .int i_48), (0, .ref a0), (1, .int x0), (2, .int x1)] [] [(mp_arI E a1 0 4 f0), (mp_arI E a2 0 4 f1), (mp_arL E a3 240 f2), (mp_arI E a4 0 25 f3), (mp_ob10 a0 y0 a1 a2 a3 a6 a7 y1 y2 y3 y4 y5 y6 y7 y8 y9 y10 a8 a4 a9 a10 a11 a5 a12 a13 y11 a14 a15 a16 a17 y12 y13 y14 a18 a19 y15 y16 a20 a21 a22 y17 y18 y19 y20 a23 a24 a25 y21), (mp_arI E a5 0 300 f4)] 0 0 := by
              intro d_54
              induction d_54 using Nat.strongRecOn with
              | ind d_54 ih_55 =>
                intro i_48 l_49 u_50 x_51 x_52 hm_56
                refine mp_run mp_k_cX10_whyNot_ok hF mp_tabX10_ok [mp_i (.iload_n 3), mp_i (.aload_n 0), mp_h (.getfield 13) [2, 4], mp_i (.iload_n 1), mp_h .iaload [1], mp_h (.if_icmp .ge 69) [133]] (by decide +kernel) ?_
                refine And.intro rfl (And.intro rfl ?_)
                refine And.intro rfl (And.intro rfl (And.intro (vp_in_iff.mpr (by omega)) ?_))
                intro z_57 h_58
                have k_59 : z_40 = z_57 := h_41.trans h_58.symm
                subst k_59
                refine And.intro (fun c_60 => ?_) (fun c_60 => ?_)
                · have c_60 : z_40.toInt ≤ i_48.toInt := c_60
                  show mp_W E X 4 133 [(3, .int i_48), (0, .ref a0), (1, .int x0), (2, .int x1)] [] w4_ 0 0
                  refine mp_run mp_k_cX10_whyNot_ok hF mp_tabX10_ok [mp_c (.iconst 0) 0] (by decide +kernel) ?_
                  show mp_W E X 4 134 [(3, .int i_48), (0, .ref a0), (1, .int x0), (2, .int x1)] [.int 0] w4_ 0 0
                  exact mp_iret hF hQ rfl rfl (Nat.le_of_ble_eq_true rfl) (Nat.le_of_ble_eq_true rfl) [4, 0, 1, 2, 3, 5] (w' := w1_) rfl rfl (Or.inr (Or.inl ⟨rfl, (by first | omega | decide), (by first | omega | decide), (by first | omega | decide), (by omega), (by omega), (by omega), (by omega), (by omega), (mp_wn_le x_52 (by omega)), rfl⟩)) (by first | exact mp_fd_ok mp_k_cX10_whyNot_ok (by decide +kernel) | decide +kernel)
                · have c_60 : i_48.toInt < z_40.toInt := c_60
                  show mp_W E X 4 67 [(3, .int i_48), (0, .ref a0), (1, .int x0), (2, .int x1)] [] w4_ 0 0
                  refine mp_run mp_k_cX10_whyNot_ok hF mp_tabX10_ok [mp_i (.aload_n 0), mp_h (.getfield 16) [3, 4], mp_c (.bipush 60) 60, mp_i (.iload_n 1), mp_i .imul, mp_i (.iload_n 3), mp_i .iadd, mp_h .laload [2], mp_i (.aload_n 0), mp_i (.iload_n 2), mp_c (.iconst 3) 3] (by decide +kernel) ?_
                  refine And.intro rfl (And.intro rfl ?_)
                  intro z_61 h_62
                  have e_63 : z_61.toInt = 60 * x0.toInt := mp_mul (a := 60) (b := x0.toInt) h_62 (by decide) rfl (by omega) (by omega)
                  intro z_64 h_65
                  have e_66 : z_64.toInt = z_61.toInt + i_48.toInt := mp_add (a := z_61.toInt) (b := i_48.toInt) h_65 rfl rfl (by omega) (by omega)
                  refine And.intro rfl (And.intro rfl (And.intro (vp_in_iff.mpr (by omega)) ?_))
                  intro z_67 h_68
                  show mp_W E X 4 81 [(3, .int i_48), (0, .ref a0), (1, .int x0), (2, .int x1)] [.int 3, .int x1, .ref a0, .long z_67] w4_ 0 0
                  refine mp_callV hF (As := [.int x1, .int 3]) (rest := [.long z_67]) (wr := [(mp_arI E a1 0 4 f0), (mp_arI E a2 0 4 f1), (mp_arL E a3 240 f2), (mp_arI E a4 0 25 f3)]) (bX10_of_63 E a0 a5 a1 a2 a3 a6 a7 a8 a4 a9 a10 a11 a12 a13 a14 a15 a16 a17 a18 a19 a20 a21 a22 a23 a24 a25 f4 y0 y1 y2 y3 y4 y5 y6 y7 y8 y9 y10 y11 y12 y13 y14 y15 y16 y17 y18 y19 y20 y21 x1 p6 p7 p8 p9 (by omega) (by omega) l_y1 u_y1 l_y2 u_y2 l_y3 u_y3 l_y4 u_y4 l_y11 u_y11 l_y12 u_y12 l_y13 u_y13) mp_lkX10_267 4 rfl [4, 5] [0, 1, 2, 3] rfl rfl rfl rfl rfl ⟨(Nat.le_of_ble_eq_true rfl), (Nat.le_of_ble_eq_true rfl), (Nat.le_of_ble_eq_true rfl), (Nat.le_of_ble_eq_true rfl)⟩ (Nat.le_of_ble_eq_true rfl) (by first | exact mp_fd_ok mp_k_cX10_whyNot_ok (by decide +kernel) | decide +kernel) (fun v_69 w_70 h_71 => ?_)
                  refine h_71.elim fun r_72 q_76 => q_76.elim fun e_77 q_78 => q_78.elim fun l_73 q_79 => q_79.elim fun u_74 q_80 => q_80.elim fun x_75 e_81 => ?_
                  clear h_71 q_76 q_78 q_79 q_80
                  subst e_77
                  subst e_81
                  show mp_W E X 4 84 [(3, .int i_48), (0, .ref a0), (1, .int x0), (2, .int x1)] [.int r_72, .long z_67] w4_ 0 0
                  refine mp_run mp_k_cX10_whyNot_ok hF mp_tabX10_ok [mp_i .i2l, mp_i (.aload_n 0), mp_i (.iload_n 2), mp_c (.iconst 3) 3] (by decide +kernel) ?_
                  intro z_82 h_83
                  have e_84 : z_82.toInt = r_72.toInt := mp_i2l h_83
                  show mp_W E X 4 88 [(3, .int i_48), (0, .ref a0), (1, .int x0), (2, .int x1)] [.int 3, .int x1, .ref a0, .long z_82, .long z_67] w4_ 0 0
                  refine mp_callV hF (As := [.int x1, .int 3]) (rest := [.long z_82, .long z_67]) (wr := [(mp_arI E a1 0 4 f0), (mp_arI E a2 0 4 f1), (mp_arL E a3 240 f2), (mp_arI E a4 0 25 f3)]) (bX10_of_63 E a0 a5 a1 a2 a3 a6 a7 a8 a4 a9 a10 a11 a12 a13 a14 a15 a16 a17 a18 a19 a20 a21 a22 a23 a24 a25 f4 y0 y1 y2 y3 y4 y5 y6 y7 y8 y9 y10 y11 y12 y13 y14 y15 y16 y17 y18 y19 y20 y21 x1 p6 p7 p8 p9 (by omega) (by omega) l_y1 u_y1 l_y2 u_y2 l_y3 u_y3 l_y4 u_y4 l_y11 u_y11 l_y12 u_y12 l_y13 u_y13) mp_lkX10_267 4 rfl [4, 5] [0, 1, 2, 3] rfl rfl rfl rfl rfl ⟨(Nat.le_of_ble_eq_true rfl), (Nat.le_of_ble_eq_true rfl), (Nat.le_of_ble_eq_true rfl), (Nat.le_of_ble_eq_true rfl)⟩ (Nat.le_of_ble_eq_true rfl) (by first | exact mp_fd_ok mp_k_cX10_whyNot_ok (by decide +kernel) | decide +kernel) (fun v_85 w_86 h_87 => ?_)
                  refine h_87.elim fun r_88 q_92 => q_92.elim fun e_93 q_94 => q_94.elim fun l_89 q_95 => q_95.elim fun u_90 q_96 => q_96.elim fun x_91 e_97 => ?_
                  clear h_87 q_92 q_94 q_95 q_96
                  subst e_93
                  subst e_97
                  show mp_W E X 4 91 [(3, .int i_48), (0, .ref a0), (1, .int x0), (2, .int x1)] [.int r_88, .long z_82, .long z_67] w4_ 0 0
                  refine mp_run mp_k_cX10_whyNot_ok hF mp_tabX10_ok [mp_c (.bipush 10) 10, mp_i .iadd, mp_i .i2l] (by decide +kernel) ?_
                  intro z_98 h_99
                  have e_100 : z_98.toInt = r_88.toInt + 10 := mp_add (a := r_88.toInt) (b := 10) h_99 rfl (by decide) (by omega) (by omega)
                  intro z_101 h_102
                  have e_103 : z_101.toInt = z_98.toInt := mp_i2l h_102
                  show mp_W E X 4 95 [(3, .int i_48), (0, .ref a0), (1, .int x0), (2, .int x1)] [.long z_101, .long z_82, .long z_67] w4_ 0 0
                  refine mp_callS hF (As := [.long z_67, .long z_82, .long z_101]) (rest := []) (wr := w4_) (bX10_in_0 E z_67 z_82 z_101) mp_lkX10_97 [] [0, 1, 2, 3, 4, 5] rfl rfl rfl rfl rfl ⟨(Nat.le_of_ble_eq_true rfl), (Nat.le_of_ble_eq_true rfl), (Nat.le_of_ble_eq_true rfl), (Nat.le_of_ble_eq_true rfl)⟩ (Nat.le_of_ble_eq_true rfl) (by first | exact mp_fd_ok mp_k_cX10_whyNot_ok (by decide +kernel) | decide +kernel) (fun v_104 w_105 h_106 => ?_)
                  rcases h_106 with ⟨rfl, x_107, rfl⟩ | ⟨rfl, c_108, c_109, rfl⟩
                  · skip
                    show mp_W E X 4 98 [(3, .int i_48), (0, .ref a0), (1, .int x0), (2, .int x1)] [.int 0] w4_ 0 0
                    refine mp_run mp_k_cX10_whyNot_ok hF mp_tabX10_ok [mp_h (.ifCond .eq 26) [124]] (by decide +kernel) ?_
                    refine And.intro (fun _ => ?_) (fun c_110 => absurd c_110 (by decide))
                    show mp_W E X 4 124 [(3, .int i_48), (0, .ref a0), (1, .int x0), (2, .int x1)] [] w4_ 0 0
                    refine mp_run mp_k_cX10_whyNot_ok hF mp_tabX10_ok [mp_c (.bipush (-2)) (-2)] (by decide +kernel) ?_
                    show mp_W E X 4 126 [(3, .int i_48), (0, .ref a0), (1, .int x0), (2, .int x1)] [.int (-2)] w4_ 0 0
                    exact mp_iret hF hQ rfl rfl (Nat.le_of_ble_eq_true rfl) (Nat.le_of_ble_eq_true rfl) [4, 0, 1, 2, 3, 5] (w' := w1_) rfl rfl (Or.inl ⟨rfl, rfl⟩) (by first | exact mp_fd_ok mp_k_cX10_whyNot_ok (by decide +kernel) | decide +kernel)
                  · skip
                    have c_108 : z_82.toInt ≤ z_67.toInt := c_108
                    have c_109 : z_67.toInt ≤ z_101.toInt := c_109
                    show mp_W E X 4 98 [(3, .int i_48), (0, .ref a0), (1, .int x0), (2, .int x1)] [.int 1] w4_ 0 0
                    refine mp_run mp_k_cX10_whyNot_ok hF mp_tabX10_ok [mp_h (.ifCond .eq 26) [124]] (by decide +kernel) ?_
                    refine And.intro (fun c_111 => absurd c_111 (by decide)) (fun _ => ?_)
                    show mp_W E X 4 101 [(3, .int i_48), (0, .ref a0), (1, .int x0), (2, .int x1)] [] w4_ 0 0
                    refine mp_run mp_k_cX10_whyNot_ok hF mp_tabX10_ok [mp_i (.aload_n 0), mp_h (.getfield 16) [3, 4], mp_c (.bipush 60) 60, mp_i (.iload_n 1), mp_i .imul, mp_i (.iload_n 3), mp_i .iadd, mp_c (.iconst 1) 1, mp_i .iadd, mp_h .laload [2], mp_cl (.lconst 1) 1, mp_cl (.ldc2_w 412) 1000000] (by decide +kernel) ?_
                    refine And.intro rfl (And.intro rfl ?_)
                    intro z_112 h_113
                    have e_114 : z_112.toInt = 60 * x0.toInt := mp_mul (a := 60) (b := x0.toInt) h_113 (by decide) rfl (by omega) (by omega)
                    intro z_115 h_116
                    have e_117 : z_115.toInt = z_112.toInt + i_48.toInt := mp_add (a := z_112.toInt) (b := i_48.toInt) h_116 rfl rfl (by omega) (by omega)
                    intro z_118 h_119
                    have e_120 : z_118.toInt = z_115.toInt + 1 := mp_add (a := z_115.toInt) (b := 1) h_119 rfl (by decide) (by omega) (by omega)
                    refine And.intro rfl (And.intro rfl (And.intro (vp_in_iff.mpr (by omega)) ?_))
                    intro z_121 h_122
                    show mp_W E X 4 118 [(3, .int i_48), (0, .ref a0), (1, .int x0), (2, .int x1)] [.long 1000000, .long 1, .long z_121] w4_ 0 0
                    refine mp_callS hF (As := [.long z_121, .long 1, .long 1000000]) (rest := []) (wr := w4_) (bX10_in_0 E z_121 1 1000000) mp_lkX10_97 [] [0, 1, 2, 3, 4, 5] rfl rfl rfl rfl rfl ⟨(Nat.le_of_ble_eq_true rfl), (Nat.le_of_ble_eq_true rfl), (Nat.le_of_ble_eq_true rfl), (Nat.le_of_ble_eq_true rfl)⟩ (Nat.le_of_ble_eq_true rfl) (by first | exact mp_fd_ok mp_k_cX10_whyNot_ok (by decide +kernel) | decide +kernel) (fun v_123 w_124 h_125 => ?_)
                    rcases h_125 with ⟨rfl, x_126, rfl⟩ | ⟨rfl, c_127, c_128, rfl⟩
                    · skip
                      have i_129 : (1 : Int64).toInt = 1 := by decide
                      have i_130 : (1000000 : Int64).toInt = 1000000 := by decide
                      show mp_W E X 4 121 [(3, .int i_48), (0, .ref a0), (1, .int x0), (2, .int x1)] [.int 0] w4_ 0 0
                      refine mp_run mp_k_cX10_whyNot_ok hF mp_tabX10_ok [mp_h (.ifCond .ne 6) [127]] (by decide +kernel) ?_
                      refine And.intro (fun c_131 => absurd c_131 (by decide)) (fun _ => ?_)
                      show mp_W E X 4 124 [(3, .int i_48), (0, .ref a0), (1, .int x0), (2, .int x1)] [] w4_ 0 0
                      refine mp_run mp_k_cX10_whyNot_ok hF mp_tabX10_ok [mp_c (.bipush (-2)) (-2)] (by decide +kernel) ?_
                      show mp_W E X 4 126 [(3, .int i_48), (0, .ref a0), (1, .int x0), (2, .int x1)] [.int (-2)] w4_ 0 0
                      exact mp_iret hF hQ rfl rfl (Nat.le_of_ble_eq_true rfl) (Nat.le_of_ble_eq_true rfl) [4, 0, 1, 2, 3, 5] (w' := w1_) rfl rfl (Or.inl ⟨rfl, rfl⟩) (by first | exact mp_fd_ok mp_k_cX10_whyNot_ok (by decide +kernel) | decide +kernel)
                    · skip
                      have c_127 : 1 ≤ z_121.toInt := c_127
                      have c_128 : z_121.toInt ≤ 1000000 := c_128
                      have i_132 : (1 : Int64).toInt = 1 := by decide
                      have i_133 : (1000000 : Int64).toInt = 1000000 := by decide
                      show mp_W E X 4 121 [(3, .int i_48), (0, .ref a0), (1, .int x0), (2, .int x1)] [.int 1] w4_ 0 0
                      refine mp_run mp_k_cX10_whyNot_ok hF mp_tabX10_ok [mp_h (.ifCond .ne 6) [127]] (by decide +kernel) ?_
                      refine And.intro (fun _ => ?_) (fun c_134 => absurd c_134 (by decide))
                      show mp_W E X 4 127 [(3, .int i_48), (0, .ref a0), (1, .int x0), (2, .int x1)] [] w4_ 0 0
                      refine mp_run mp_k_cX10_whyNot_ok hF mp_tabX10_ok [mp_c (.iinc 3 2) 2, mp_h (.goto (-73)) [57]] (by decide +kernel) ?_
                      intro z_135 h_136
                      have e_137 : z_135.toInt = i_48.toInt + 2 := mp_add (a := i_48.toInt) (b := 2) h_136 rfl (by decide) (by omega) (by omega)
                      show mp_W E X 4 57 [(3, .int z_135), (0, .ref a0), (1, .int x0), (2, .int x1)] [] w4_ 0 0
                      exact mp_sub [0, 1, 2, 3] rfl [0, 1, 2, 3, 4, 5] rfl rfl (ih_55 (d_54 - 1) (by omega) z_135 (by omega) (by omega) (by omega) (mp_wn_s x_52 h_68 (by omega) (by omega) (by omega) (by omega) (by omega) (by omega)) (by omega))
            exact mp_sub [0, 1, 2, 3] rfl [0, 1, 2, 3, 4, 5] rfl rfl (lp_53 _ 0 (by decide) (by decide) (by decide) (mp_wn_0 (by decide)) (Int.self_le_toNat _))
          · have c_47 : z_44.toInt ≠ 0 := c_47
            show mp_W E X 4 52 [(0, .ref a0), (1, .int x0), (2, .int x1)] [] w4_ 0 0
            refine mp_run mp_k_cX10_whyNot_ok hF mp_tabX10_ok [mp_c (.bipush (-2)) (-2)] (by decide +kernel) ?_
            show mp_W E X 4 54 [(0, .ref a0), (1, .int x0), (2, .int x1)] [.int (-2)] w4_ 0 0
            exact mp_iret hF hQ rfl rfl (Nat.le_of_ble_eq_true rfl) (Nat.le_of_ble_eq_true rfl) [4, 0, 1, 2, 3, 5] (w' := w1_) rfl rfl (Or.inl ⟨rfl, rfl⟩) (by first | exact mp_fd_ok mp_k_cX10_whyNot_ok (by decide +kernel) | decide +kernel)
        · have c_39 : z_37.toInt = (-1) := (congrArg Int32.toInt c_39)
          show mp_W E X 4 38 [(0, .ref a0), (1, .int x0), (2, .int x1)] [] w4_ 0 0
          refine mp_run mp_k_cX10_whyNot_ok hF mp_tabX10_ok [mp_c (.bipush (-6)) (-6)] (by decide +kernel) ?_
          show mp_W E X 4 40 [(0, .ref a0), (1, .int x0), (2, .int x1)] [.int (-6)] w4_ 0 0
          exact mp_iret hF hQ rfl rfl (Nat.le_of_ble_eq_true rfl) (Nat.le_of_ble_eq_true rfl) [4, 0, 1, 2, 3, 5] (w' := w1_) rfl rfl (Or.inr (Or.inr ⟨rfl, (by first | omega | decide), (by first | omega | decide), (by first | omega | decide), rfl⟩)) (by first | exact mp_fd_ok mp_k_cX10_whyNot_ok (by decide +kernel) | decide +kernel)
      · have c_36 : r_34.toInt ≠ (-1) := c_36
        show mp_W E X 4 25 [(0, .ref a0), (1, .int x0), (2, .int x1)] [] w4_ 0 0
        refine mp_run mp_k_cX10_whyNot_ok hF mp_tabX10_ok [mp_c (.bipush (-2)) (-2)] (by decide +kernel) ?_
        show mp_W E X 4 27 [(0, .ref a0), (1, .int x0), (2, .int x1)] [.int (-2)] w4_ 0 0
        exact mp_iret hF hQ rfl rfl (Nat.le_of_ble_eq_true rfl) (Nat.le_of_ble_eq_true rfl) [4, 0, 1, 2, 3, 5] (w' := w1_) rfl rfl (Or.inl ⟨rfl, rfl⟩) (by first | exact mp_fd_ok mp_k_cX10_whyNot_ok (by decide +kernel) | decide +kernel)
set_option maxHeartbeats 4000000 in
set_option maxRecDepth 100000 in
theorem bX10_worthBy_136 (E : mp_E) (a0 a1 a2 a3 a4 a5 a6 a7 a8 a9 a10 a11 a12 a13 a14 a15 a16 a17 a18 a19 a20 a21 a22 a23 a24 a25 : Nat) (f0 : Nat → Int32) (y0 : Int32) (y1 : Int32) (y2 : Int32) (y3 : Int32) (y4 : Int32) (y5 : Int32) (y6 : Int64) (y7 : Int32) (y8 : Int32) (y9 : Int32) (y10 : Int32) (y11 : Int32) (y12 : Int32) (y13 : Int32) (y14 : Int32) (y15 : Int32) (y16 : Int32) (y17 : Int32) (y18 : Int32) (y19 : Int32) (y20 : Int32) (y21 : Int32) (x0 : Int32) (x1 : Int32) (x2 : Int32) (p0 : mp_res f0 300 6 0 0 5) (p1 : mp_res f0 300 6 1 0 5) (p2 : mp_res f0 300 6 3 0 99) (p3 : mp_res f0 300 6 4 0 1) (l_x0 : 0 ≤ x0.toInt) (u_x0 : x0.toInt ≤ 9) (l_x2 : 0 ≤ x2.toInt) (u_x2 : x2.toInt ≤ 10) (l_y1 : 0 ≤ y1.toInt) (u_y1 : y1.toInt ≤ 1600) (l_y2 : 0 ≤ y2.toInt) (u_y2 : y2.toInt ≤ 1600) (l_y3 : 0 ≤ y3.toInt) (u_y3 : y3.toInt ≤ 4) (l_y4 : 0 ≤ y4.toInt) (u_y4 : y4.toInt ≤ 1600) (l_y11 : 0 ≤ y11.toInt) (u_y11 : y11.toInt ≤ 99) (l_y12 : 0 ≤ y12.toInt) (u_y12 : y12.toInt ≤ 5) (l_y13 : 0 ≤ y13.toInt) (u_y13 : y13.toInt ≤ 12) : mp_Ct E yX10_worthBy cX10_worthBy 5 (some FieldType.int) 1 0 0 22 [.ref a0, .int x0, .int x1, .int x2] [(mp_ob10 a0 y0 a2 a3 a4 a5 a6 y1 y2 y3 y4 y5 y6 y7 y8 y9 y10 a7 a8 a9 a10 a11 a1 a12 a13 y11 a14 a15 a16 a17 y12 y13 y14 a18 a19 y15 y16 a20 a21 a22 y17 y18 y19 y20 a23 a24 a25 y21), (mp_arI E a1 0 300 f0)] (fun v w' => ∃ r1 : Int32, v = some (.int r1) ∧ (∃ n : Nat, n ≤ 11 ∧ r1 = mp_hv (f0 (6 * x0.toInt.toNat + 2)) (Int32.ofNat n)) ∧ w' = [(mp_ob10 a0 y0 a2 a3 a4 a5 a6 y1 y2 y3 y4 y5 y6 y7 y8 y9 y10 a7 a8 a9 a10 a11 a1 a12 a13 y11 a14 a15 a16 a17 y12 y13 y14 a18 a19 y15 y16 a20 a21 a22 y17 y18 y19 y20 a23 a24 a25 y21), (mp_arI E a1 0 300 f0)]) := by
  refine mp_met false (by decide) (by decide) (Nat.le_of_ble_eq_true rfl) (fun X hF hQ => ?_)
  have hF : mp_F E X (RX10, cX10_worthBy, 5, (1, 0, 0, 22), (some FieldType.int), false) := hF
  let w1_ : va_W := [(mp_ob10 a0 y0 a2 a3 a4 a5 a6 y1 y2 y3 y4 y5 y6 y7 y8 y9 y10 a7 a8 a9 a10 a11 a1 a12 a13 y11 a14 a15 a16 a17 y12 y13 y14 a18 a19 y15 y16 a20 a21 a22 y17 y18 y19 y20 a23 a24 a25 y21), (mp_arI E a1 0 300 f0)]
  show mp_W E X 5 0 [(0, .ref a0), (1, .int x0), (2, .int x1), (3, .int x2)] [] w1_ 0 0
  refine mp_run mp_k_cX10_worthBy_ok hF mp_tabX10_ok [mp_i (.iload_n 3), mp_i (.istore 4)] (by decide +kernel) ?_
  show mp_W E X 5 3 [(4, .int x2), (0, .ref a0), (1, .int x0), (2, .int x1), (3, .int x2)] [] w1_ 0 0
  have lp_5 : ∀ (d_6 : Nat) (i_1 : Int32), 0 ≤ i_1.toInt → i_1.toInt ≤ 10 → (i_1.toInt ≤ x2.toInt) → i_1.toInt ≤ (d_6 : Int) → mp_W E X 5 3 [(4, .int i_1), (0, .ref a0), (1, .int x0), (2, .int x1), (3, .int x2)] [] [(mp_ob10 a0 y0 a2 a3 a4 a5 a6 y1 y2 y3 y4 y5 y6 y7 y8 y9 y10 a7 a8 a9 a10 a11 a1 a12 a13 y11 a14 a15 a16 a17 y12 y13 y14 a18 a19 y15 y16 a20 a21 a22 y17 y18 y19 y20 a23 a24 a25 y21), (mp_arI E a1 0 300 f0)] 0 0 := by
    intro d_6
    induction d_6 using Nat.strongRecOn with
    | ind d_6 ih_7 =>
      intro i_1 l_2 u_3 x_4 hm_8
      refine mp_run mp_k_cX10_worthBy_ok hF mp_tabX10_ok [mp_i (.iload 4), mp_h (.ifCond .le 20) [25]] (by decide +kernel) ?_
      refine And.intro (fun c_9 => ?_) (fun c_9 => ?_)
      · have c_9 : i_1.toInt ≤ 0 := c_9
        show mp_W E X 5 25 [(4, .int i_1), (0, .ref a0), (1, .int x0), (2, .int x1), (3, .int x2)] [] w1_ 0 0
        refine mp_run mp_k_cX10_worthBy_ok hF mp_tabX10_ok [mp_i (.aload_n 0), mp_i (.iload_n 1), mp_c (.iconst 2) 2] (by decide +kernel) ?_
        show mp_W E X 5 28 [(4, .int i_1), (0, .ref a0), (1, .int x0), (2, .int x1), (3, .int x2)] [.int 2, .int x0, .ref a0] w1_ 0 0
        refine mp_callV hF (As := [.int x0, .int 2]) (rest := []) (wr := []) (bX10_of_70 E a0 a1 a2 a3 a4 a5 a6 a7 a8 a9 a10 a11 a12 a13 a14 a15 a16 a17 a18 a19 a20 a21 a22 a23 a24 a25 f0 y0 y1 y2 y3 y4 y5 y6 y7 y8 y9 y10 y11 y12 y13 y14 y15 y16 y17 y18 y19 y20 y21 x0 p0 p1 p2 p3 l_x0 u_x0 l_y1 u_y1 l_y2 u_y2 l_y3 u_y3 l_y4 u_y4 l_y11 u_y11 l_y12 u_y12 l_y13 u_y13) mp_lkX10_267 0 rfl [0, 1] [] rfl rfl rfl rfl rfl ⟨(Nat.le_of_ble_eq_true rfl), (Nat.le_of_ble_eq_true rfl), (Nat.le_of_ble_eq_true rfl), (Nat.le_of_ble_eq_true rfl)⟩ (Nat.le_of_ble_eq_true rfl) (by first | exact mp_fd_ok mp_k_cX10_worthBy_ok (by decide +kernel) | decide +kernel) (fun v_10 w_11 h_12 => ?_)
        obtain ⟨r_13, rfl, x_14, rfl⟩ := h_12
        show mp_W E X 5 31 [(4, .int i_1), (0, .ref a0), (1, .int x0), (2, .int x1), (3, .int x2)] [.int r_13] w1_ 0 0
        refine mp_run mp_k_cX10_worthBy_ok hF mp_tabX10_ok [mp_i (.iload_n 3), mp_i (.iload 4), mp_i .isub, mp_i (.iload 4), mp_h (.ifCond .ne 12) [49]] (by decide +kernel) ?_
        intro z_15 h_16
        have e_17 : z_15.toInt = x2.toInt - i_1.toInt := mp_subi (a := x2.toInt) (b := i_1.toInt) h_16 rfl rfl (by (first | exact mp_o1760 x_4 | omega)) (by (first | exact mp_o1761 l_2 u_x2 | omega))
        refine And.intro (fun c_18 => ?_) (fun c_18 => ?_)
        · have c_18 : i_1.toInt ≠ 0 := c_18
          exfalso; (first | exact mp_o1762 l_2 c_18 c_9 | omega)
        · have c_18 : i_1.toInt = 0 := (congrArg Int32.toInt c_18)
          show mp_W E X 5 40 [(4, .int i_1), (0, .ref a0), (1, .int x0), (2, .int x1), (3, .int x2)] [.int z_15, .int r_13] w1_ 0 0
          refine mp_run mp_k_cX10_worthBy_ok hF mp_tabX10_ok [mp_i (.aload_n 0), mp_i (.iload_n 1), mp_c (.iconst 4) 4] (by decide +kernel) ?_
          show mp_W E X 5 43 [(4, .int i_1), (0, .ref a0), (1, .int x0), (2, .int x1), (3, .int x2)] [.int 4, .int x0, .ref a0, .int z_15, .int r_13] w1_ 0 0
          refine mp_callV hF (As := [.int x0, .int 4]) (rest := [.int z_15, .int r_13]) (wr := []) (bX10_of_65 E a0 a1 a2 a3 a4 a5 a6 a7 a8 a9 a10 a11 a12 a13 a14 a15 a16 a17 a18 a19 a20 a21 a22 a23 a24 a25 f0 y0 y1 y2 y3 y4 y5 y6 y7 y8 y9 y10 y11 y12 y13 y14 y15 y16 y17 y18 y19 y20 y21 x0 p0 p1 p2 p3 l_x0 u_x0 l_y1 u_y1 l_y2 u_y2 l_y3 u_y3 l_y4 u_y4 l_y11 u_y11 l_y12 u_y12 l_y13 u_y13) mp_lkX10_267 0 rfl [0, 1] [] rfl rfl rfl rfl rfl ⟨(Nat.le_of_ble_eq_true rfl), (Nat.le_of_ble_eq_true rfl), (Nat.le_of_ble_eq_true rfl), (Nat.le_of_ble_eq_true rfl)⟩ (Nat.le_of_ble_eq_true rfl) (by first | exact mp_fd_ok mp_k_cX10_worthBy_ok (by decide +kernel) | decide +kernel) (fun v_19 w_20 h_21 => ?_)
          refine h_21.elim fun r_22 q_26 => q_26.elim fun e_27 q_28 => q_28.elim fun l_23 q_29 => q_29.elim fun u_24 q_30 => q_30.elim fun x_25 e_31 => ?_
          clear h_21 q_26 q_28 q_29 q_30
          subst e_27
          subst e_31
          show mp_W E X 5 46 [(4, .int i_1), (0, .ref a0), (1, .int x0), (2, .int x1), (3, .int x2)] [.int r_22, .int z_15, .int r_13] w1_ 0 0
          refine mp_run mp_k_cX10_worthBy_ok hF mp_tabX10_ok [mp_h (.goto 4) [50], mp_i .iadd] (by decide +kernel) ?_
          intro z_32 h_33
          have e_34 : z_32.toInt = z_15.toInt + r_22.toInt := mp_add (a := z_15.toInt) (b := r_22.toInt) h_33 rfl rfl (by (first | exact mp_o1763 l_23 l_x2 c_9 e_17 | omega)) (by (first | exact mp_o1764 u_24 l_2 u_x2 e_17 | omega))
          show mp_W E X 5 51 [(4, .int i_1), (0, .ref a0), (1, .int x0), (2, .int x1), (3, .int x2)] [.int z_32, .int r_13] w1_ 0 0
          refine mp_callS hF (As := [.int r_13, .int z_32]) (rest := []) (wr := w1_) (bX10_halved_71 E r_13 z_32) mp_lkX10_285 [] [0, 1] rfl rfl rfl rfl rfl ⟨(Nat.le_of_ble_eq_true rfl), (Nat.le_of_ble_eq_true rfl), (Nat.le_of_ble_eq_true rfl), (Nat.le_of_ble_eq_true rfl)⟩ (Nat.le_of_ble_eq_true rfl) (by first | exact mp_fd_ok mp_k_cX10_worthBy_ok (by decide +kernel) | decide +kernel) (fun v_35 w_36 h_37 => ?_)
          obtain ⟨r_38, rfl, x_39, rfl⟩ := h_37
          show mp_W E X 5 54 [(4, .int i_1), (0, .ref a0), (1, .int x0), (2, .int x1), (3, .int x2)] [.int r_38] w1_ 0 0
          exact mp_iret hF hQ rfl rfl (Nat.le_of_ble_eq_true rfl) (Nat.le_of_ble_eq_true rfl) [0, 1] (w' := w1_) rfl rfl ⟨r_38, rfl, ⟨z_32.toInt.toNat, by (first | exact mp_o1765 l_2 u_24 u_x2 e_17 e_34 | omega), by rw [x_39, Int32.toInt_inj.mp x_14, mp_ofnat (by (first | exact mp_o1766 l_x2 l_23 c_9 e_17 e_34 | omega))]⟩, rfl⟩ (by first | exact mp_fd_ok mp_k_cX10_worthBy_ok (by decide +kernel) | decide +kernel)
      · have c_9 : 0 < i_1.toInt := c_9
        show mp_W E X 5 8 [(4, .int i_1), (0, .ref a0), (1, .int x0), (2, .int x1), (3, .int x2)] [] w1_ 0 0
        refine mp_run mp_k_cX10_worthBy_ok hF mp_tabX10_ok [mp_i (.iload_n 2), mp_i (.iload 4), mp_c (.iconst 1) 1, mp_i .isub] (by decide +kernel) ?_
        intro z_40 h_41
        have e_42 : z_40.toInt = i_1.toInt - 1 := mp_subi (a := i_1.toInt) (b := 1) h_41 rfl (by decide) (by (first | exact mp_o735 c_9 | omega)) (by (first | exact mp_o704 u_3 | omega))
        show mp_W E X 5 13 [(4, .int i_1), (0, .ref a0), (1, .int x0), (2, .int x1), (3, .int x2)] [.int z_40, .int x1] w1_ 0 0
        refine mp_callS hF (As := [.int x1, .int z_40]) (rest := []) (wr := w1_) (bX10_isBit_86 E x1 z_40) mp_lkX10_312 [] [0, 1] rfl rfl rfl rfl rfl ⟨(Nat.le_of_ble_eq_true rfl), (Nat.le_of_ble_eq_true rfl), (Nat.le_of_ble_eq_true rfl), (Nat.le_of_ble_eq_true rfl)⟩ (Nat.le_of_ble_eq_true rfl) (by first | exact mp_fd_ok mp_k_cX10_worthBy_ok (by decide +kernel) | decide +kernel) (fun v_43 w_44 h_45 => ?_)
        rcases h_45 with ⟨rfl, x_46, rfl⟩ | ⟨rfl, x_47, rfl⟩
        · skip
          show mp_W E X 5 16 [(4, .int i_1), (0, .ref a0), (1, .int x0), (2, .int x1), (3, .int x2)] [.int 0] w1_ 0 0
          refine mp_run mp_k_cX10_worthBy_ok hF mp_tabX10_ok [mp_h (.ifCond .ne 9) [25]] (by decide +kernel) ?_
          refine And.intro (fun c_48 => absurd c_48 (by decide)) (fun _ => ?_)
          show mp_W E X 5 19 [(4, .int i_1), (0, .ref a0), (1, .int x0), (2, .int x1), (3, .int x2)] [] w1_ 0 0
          refine mp_run mp_k_cX10_worthBy_ok hF mp_tabX10_ok [mp_c (.iinc 4 (-1)) (-1), mp_h (.goto (-19)) [3]] (by decide +kernel) ?_
          intro z_49 h_50
          have e_51 : z_49.toInt = i_1.toInt + (-1) := mp_add (a := i_1.toInt) (b := (-1)) h_50 rfl (by decide) (by (first | exact mp_o1767 c_9 | omega)) (by (first | exact mp_o1768 u_3 | omega))
          show mp_W E X 5 3 [(4, .int z_49), (0, .ref a0), (1, .int x0), (2, .int x1), (3, .int x2)] [] w1_ 0 0
          exact mp_sub [0, 1, 2, 3, 4] rfl [0, 1] rfl rfl (ih_7 (d_6 - 1) (by (first | exact mp_o1769 c_9 hm_8 | omega)) z_49 (by (first | exact mp_o1770 c_9 e_51 | omega)) (by (first | exact mp_o1771 u_3 e_51 | omega)) (by first | (first | exact mp_o1772 x_4 e_51 | omega) | decide | (show z_49.toInt ≤ x2.toInt; first | fail | decide)) (by (first | exact mp_o1773 hm_8 e_51 | omega)))
        · skip
          show mp_W E X 5 16 [(4, .int i_1), (0, .ref a0), (1, .int x0), (2, .int x1), (3, .int x2)] [.int 1] w1_ 0 0
          refine mp_run mp_k_cX10_worthBy_ok hF mp_tabX10_ok [mp_h (.ifCond .ne 9) [25]] (by decide +kernel) ?_
          refine And.intro (fun _ => ?_) (fun c_52 => absurd c_52 (by decide))
          show mp_W E X 5 25 [(4, .int i_1), (0, .ref a0), (1, .int x0), (2, .int x1), (3, .int x2)] [] w1_ 0 0
          refine mp_run mp_k_cX10_worthBy_ok hF mp_tabX10_ok [mp_i (.aload_n 0), mp_i (.iload_n 1), mp_c (.iconst 2) 2] (by decide +kernel) ?_
          show mp_W E X 5 28 [(4, .int i_1), (0, .ref a0), (1, .int x0), (2, .int x1), (3, .int x2)] [.int 2, .int x0, .ref a0] w1_ 0 0
          refine mp_callV hF (As := [.int x0, .int 2]) (rest := []) (wr := []) (bX10_of_70 E a0 a1 a2 a3 a4 a5 a6 a7 a8 a9 a10 a11 a12 a13 a14 a15 a16 a17 a18 a19 a20 a21 a22 a23 a24 a25 f0 y0 y1 y2 y3 y4 y5 y6 y7 y8 y9 y10 y11 y12 y13 y14 y15 y16 y17 y18 y19 y20 y21 x0 p0 p1 p2 p3 l_x0 u_x0 l_y1 u_y1 l_y2 u_y2 l_y3 u_y3 l_y4 u_y4 l_y11 u_y11 l_y12 u_y12 l_y13 u_y13) mp_lkX10_267 0 rfl [0, 1] [] rfl rfl rfl rfl rfl ⟨(Nat.le_of_ble_eq_true rfl), (Nat.le_of_ble_eq_true rfl), (Nat.le_of_ble_eq_true rfl), (Nat.le_of_ble_eq_true rfl)⟩ (Nat.le_of_ble_eq_true rfl) (by first | exact mp_fd_ok mp_k_cX10_worthBy_ok (by decide +kernel) | decide +kernel) (fun v_53 w_54 h_55 => ?_)
          obtain ⟨r_56, rfl, x_57, rfl⟩ := h_55
          show mp_W E X 5 31 [(4, .int i_1), (0, .ref a0), (1, .int x0), (2, .int x1), (3, .int x2)] [.int r_56] w1_ 0 0
          refine mp_run mp_k_cX10_worthBy_ok hF mp_tabX10_ok [mp_i (.iload_n 3), mp_i (.iload 4), mp_i .isub, mp_i (.iload 4), mp_h (.ifCond .ne 12) [49]] (by decide +kernel) ?_
          intro z_58 h_59
          have e_60 : z_58.toInt = x2.toInt - i_1.toInt := mp_subi (a := x2.toInt) (b := i_1.toInt) h_59 rfl rfl (by (first | exact mp_o1760 x_4 | omega)) (by (first | exact mp_o1774 c_9 u_x2 | omega))
          refine And.intro (fun c_61 => ?_) (fun c_61 => ?_)
          · have c_61 : i_1.toInt ≠ 0 := c_61
            show mp_W E X 5 49 [(4, .int i_1), (0, .ref a0), (1, .int x0), (2, .int x1), (3, .int x2)] [.int z_58, .int r_56] w1_ 0 0
            refine mp_run mp_k_cX10_worthBy_ok hF mp_tabX10_ok [mp_c (.iconst 0) 0, mp_i .iadd] (by decide +kernel) ?_
            intro z_62 h_63
            have e_64 : z_62.toInt = z_58.toInt + 0 := mp_add (a := z_58.toInt) (b := 0) h_63 rfl (by decide) (by (first | exact mp_o1775 x_4 e_60 | omega)) (by (first | exact mp_o1776 c_9 u_x2 e_60 | omega))
            show mp_W E X 5 51 [(4, .int i_1), (0, .ref a0), (1, .int x0), (2, .int x1), (3, .int x2)] [.int z_62, .int r_56] w1_ 0 0
            refine mp_callS hF (As := [.int r_56, .int z_62]) (rest := []) (wr := w1_) (bX10_halved_71 E r_56 z_62) mp_lkX10_285 [] [0, 1] rfl rfl rfl rfl rfl ⟨(Nat.le_of_ble_eq_true rfl), (Nat.le_of_ble_eq_true rfl), (Nat.le_of_ble_eq_true rfl), (Nat.le_of_ble_eq_true rfl)⟩ (Nat.le_of_ble_eq_true rfl) (by first | exact mp_fd_ok mp_k_cX10_worthBy_ok (by decide +kernel) | decide +kernel) (fun v_65 w_66 h_67 => ?_)
            obtain ⟨r_68, rfl, x_69, rfl⟩ := h_67
            show mp_W E X 5 54 [(4, .int i_1), (0, .ref a0), (1, .int x0), (2, .int x1), (3, .int x2)] [.int r_68] w1_ 0 0
            exact mp_iret hF hQ rfl rfl (Nat.le_of_ble_eq_true rfl) (Nat.le_of_ble_eq_true rfl) [0, 1] (w' := w1_) rfl rfl ⟨r_68, rfl, ⟨z_62.toInt.toNat, by (first | exact mp_o1777 c_9 u_x2 e_60 e_64 | omega), by rw [x_69, Int32.toInt_inj.mp x_57, mp_ofnat (by (first | exact mp_o1778 e_64 x_4 e_60 | omega))]⟩, rfl⟩ (by first | exact mp_fd_ok mp_k_cX10_worthBy_ok (by decide +kernel) | decide +kernel)
          · have c_61 : i_1.toInt = 0 := (congrArg Int32.toInt c_61)
            exfalso; (first | exact mp_o1779 c_9 c_61 | omega)
  exact mp_sub [0, 1, 2, 3, 4] rfl [0, 1] rfl rfl (lp_5 _ x2 l_x2 u_x2 (by first | (first | exact mp_o102 | omega) | decide | (show x2.toInt ≤ x2.toInt; first | fail | decide)) (Int.self_le_toNat _))
set_option maxHeartbeats 4000000 in
set_option maxRecDepth 100000 in
theorem bX10_isWay_137 (E : mp_E) (a0 a1 a2 a3 a4 a5 a6 a7 a8 a9 a10 a11 a12 a13 a14 a15 a16 a17 a18 a19 a20 a21 a22 a23 a24 a25 : Nat) (f0 : Nat → Int32) (f1 : Nat → Int64) (f2 : Nat → Int32) (y0 : Int32) (y1 : Int32) (y2 : Int32) (y3 : Int32) (y4 : Int32) (y5 : Int32) (y6 : Int64) (y7 : Int32) (y8 : Int32) (y9 : Int32) (y10 : Int32) (y11 : Int32) (y12 : Int32) (y13 : Int32) (y14 : Int32) (y15 : Int32) (y16 : Int32) (y17 : Int32) (y18 : Int32) (y19 : Int32) (y20 : Int32) (y21 : Int32) (x0 : Int32) (x1 : Int32) (x2 : Int32) (p0 : mp_all f0 4 0 60) (p1 : mp_res f2 300 6 0 0 5) (p2 : mp_res f2 300 6 1 0 5) (p3 : mp_res f2 300 6 3 0 99) (p4 : mp_res f2 300 6 4 0 1) (l_x0 : 0 ≤ x0.toInt) (u_x0 : x0.toInt ≤ 3) (l_x1 : 0 ≤ x1.toInt) (u_x1 : x1.toInt ≤ 9) (l_y1 : 0 ≤ y1.toInt) (u_y1 : y1.toInt ≤ 1600) (l_y2 : 0 ≤ y2.toInt) (u_y2 : y2.toInt ≤ 1600) (l_y3 : 0 ≤ y3.toInt) (u_y3 : y3.toInt ≤ 4) (l_y4 : 0 ≤ y4.toInt) (u_y4 : y4.toInt ≤ 1600) (l_y11 : 0 ≤ y11.toInt) (u_y11 : y11.toInt ≤ 99) (l_y12 : 0 ≤ y12.toInt) (u_y12 : y12.toInt ≤ 5) (l_y13 : 0 ≤ y13.toInt) (u_y13 : y13.toInt ≤ 12) (q0 : (f0 x0.toInt.toNat).toInt % 2 = 0) (q1 : mp_wn f1 x0.toInt (f0 x0.toInt.toNat).toInt (f2 (6 * x1.toInt.toNat + 3)).toInt) : mp_Ct E yX10_isWay cX10_isWay 5 (some FieldType.boolean) 2 0 0 46 [.ref a0, .int x0, .int x1, .int x2] [(mp_ob10 a0 y0 a4 a1 a2 a5 a6 y1 y2 y3 y4 y5 y6 y7 y8 y9 y10 a7 a8 a9 a10 a11 a3 a12 a13 y11 a14 a15 a16 a17 y12 y13 y14 a18 a19 y15 y16 a20 a21 a22 y17 y18 y19 y20 a23 a24 a25 y21), (mp_arI E a1 0 4 f0), (mp_arL E a2 240 f1), (mp_arI E a3 0 300 f2)] (fun v w' => (v = some (.int 1) ∧ w' = [(mp_ob10 a0 y0 a4 a1 a2 a5 a6 y1 y2 y3 y4 y5 y6 y7 y8 y9 y10 a7 a8 a9 a10 a11 a3 a12 a13 y11 a14 a15 a16 a17 y12 y13 y14 a18 a19 y15 y16 a20 a21 a22 y17 y18 y19 y20 a23 a24 a25 y21), (mp_arI E a1 0 4 f0), (mp_arL E a2 240 f1), (mp_arI E a3 0 300 f2)]) ∨ (v = some (.int 0) ∧ w' = [(mp_ob10 a0 y0 a4 a1 a2 a5 a6 y1 y2 y3 y4 y5 y6 y7 y8 y9 y10 a7 a8 a9 a10 a11 a3 a12 a13 y11 a14 a15 a16 a17 y12 y13 y14 a18 a19 y15 y16 a20 a21 a22 y17 y18 y19 y20 a23 a24 a25 y21), (mp_arI E a1 0 4 f0), (mp_arL E a2 240 f1), (mp_arI E a3 0 300 f2)])) := by
  refine mp_met false (by decide) (by decide) (Nat.le_of_ble_eq_true rfl) (fun X hF hQ => ?_)
  have hF : mp_F E X (RX10, cX10_isWay, 5, (2, 0, 0, 46), (some FieldType.boolean), false) := hF
  let w1_ : va_W := [(mp_ob10 a0 y0 a4 a1 a2 a5 a6 y1 y2 y3 y4 y5 y6 y7 y8 y9 y10 a7 a8 a9 a10 a11 a3 a12 a13 y11 a14 a15 a16 a17 y12 y13 y14 a18 a19 y15 y16 a20 a21 a22 y17 y18 y19 y20 a23 a24 a25 y21), (mp_arI E a1 0 4 f0), (mp_arL E a2 240 f1), (mp_arI E a3 0 300 f2)]
  show mp_W E X 5 0 [(0, .ref a0), (1, .int x0), (2, .int x1), (3, .int x2)] [] w1_ 0 0
  refine mp_run mp_k_cX10_isWay_ok hF mp_tabX10_ok [mp_c (.iconst 0) 0, mp_i (.istore 4)] (by decide +kernel) ?_
  show mp_W E X 5 3 [(4, .int 0), (0, .ref a0), (1, .int x0), (2, .int x1), (3, .int x2)] [] w1_ 0 0
  have lp_6 : ∀ (d_7 : Nat) (i_1 : Int32), 0 ≤ i_1.toInt → i_1.toInt ≤ 78 → (i_1.toInt % 2 = 0) → (0 ≤ i_1.toInt) → (f0 x0.toInt.toNat).toInt - i_1.toInt ≤ (d_7 : Int) → mp_W E X 5 3 [(4, .int i_1), (0, .ref a0), (1, .int x0), (2, .int x1), (3, .int x2)] [] [(mp_ob10 a0 y0 a4 a1 a2 a5 a6 y1 y2 y3 y4 y5 y6 y7 y8 y9 y10 a7 a8 a9 a10 a11 a3 a12 a13 y11 a14 a15 a16 a17 y12 y13 y14 a18 a19 y15 y16 a20 a21 a22 y17 y18 y19 y20 a23 a24 a25 y21), (mp_arI E a1 0 4 f0), (mp_arL E a2 240 f1), (mp_arI E a3 0 300 f2)] 0 0 := by
    intro d_7
    induction d_7 using Nat.strongRecOn with
    | ind d_7 ih_8 =>
      intro i_1 l_2 u_3 x_4 x_5 hm_9
      refine mp_run mp_k_cX10_isWay_ok hF mp_tabX10_ok [mp_i (.iload 4), mp_i (.aload_n 0), mp_h (.getfield 13) [2, 0], mp_i (.iload_n 1), mp_h .iaload [1], mp_h (.if_icmp .ge 56) [67]] (by decide +kernel) ?_
      refine And.intro rfl (And.intro rfl ?_)
      refine And.intro rfl (And.intro rfl (And.intro (vp_in_iff.mpr (by (first | exact mp_o637 l_x0 u_x0 | omega))) ?_))
      intro z_10 h_11
      have e_12 : 0 ≤ z_10.toInt ∧ z_10.toInt ≤ 60 := mp_all_ld h_11 p0 (by (first | exact l_x0 | omega)) (by (first | exact mp_o638 u_x0 | omega))
      have e_13 : z_10.toInt = (f0 x0.toInt.toNat).toInt := congrArg Int32.toInt h_11
      refine And.intro (fun c_14 => ?_) (fun c_14 => ?_)
      · have c_14 : z_10.toInt ≤ i_1.toInt := c_14
        show mp_W E X 5 67 [(4, .int i_1), (0, .ref a0), (1, .int x0), (2, .int x1), (3, .int x2)] [] w1_ 0 0
        refine mp_run mp_k_cX10_isWay_ok hF mp_tabX10_ok [mp_c (.iconst 1) 1] (by decide +kernel) ?_
        show mp_W E X 5 68 [(4, .int i_1), (0, .ref a0), (1, .int x0), (2, .int x1), (3, .int x2)] [.int 1] w1_ 0 0
        exact mp_iret hF hQ rfl (by decide) (Nat.le_of_ble_eq_true rfl) (Nat.le_of_ble_eq_true rfl) [0, 1, 2, 3] (w' := w1_) rfl rfl (Or.inl ⟨rfl, rfl⟩) (by first | exact mp_fd_ok mp_k_cX10_isWay_ok (by decide +kernel) | decide +kernel)
      · have c_14 : i_1.toInt < z_10.toInt := c_14
        show mp_W E X 5 14 [(4, .int i_1), (0, .ref a0), (1, .int x0), (2, .int x1), (3, .int x2)] [] w1_ 0 0
        refine mp_run mp_k_cX10_isWay_ok hF mp_tabX10_ok [mp_i (.aload_n 0), mp_i (.iload_n 2), mp_i (.iload_n 3), mp_i (.aload_n 0), mp_h (.getfield 16) [3, 0], mp_c (.bipush 60) 60, mp_i (.iload_n 1), mp_i .imul, mp_i (.iload 4), mp_i .iadd, mp_h .laload [2], mp_i .l2i, mp_i (.aload_n 0), mp_i (.iload_n 2), mp_c (.iconst 3) 3] (by decide +kernel) ?_
        refine And.intro rfl (And.intro rfl ?_)
        intro z_15 h_16
        have e_17 : z_15.toInt = 60 * x0.toInt := mp_mul (a := 60) (b := x0.toInt) h_16 (by decide) rfl (by (first | exact mp_o926 l_x0 | omega)) (by (first | exact mp_o927 u_x0 | omega))
        intro z_18 h_19
        have e_20 : z_18.toInt = z_15.toInt + i_1.toInt := mp_add (a := z_15.toInt) (b := i_1.toInt) h_19 rfl rfl (by (first | exact mp_o928 l_2 l_x0 e_17 | omega)) (by (first | exact mp_o1738 u_3 u_x0 e_17 | omega))
        refine And.intro rfl (And.intro rfl (And.intro (vp_in_iff.mpr (by (first | exact mp_o1739 l_x0 u_x0 l_2 e_17 e_20 c_14 e_12 | omega))) ?_))
        intro z_21 h_22
        have e_24 := mp_res_at p3 (6 * x1.toInt.toNat + 3) (by (first | exact mp_o1780 u_x1 | omega)) (by (first | exact mp_o1781 | omega))
        have e_23 := mp_wn_ld (slot := x0.toInt) (i := i_1.toInt) q1 h_22 (by (first | exact mp_o1754 e_17 e_20 | omega)) (by (first | exact l_x0 | omega)) (by (first | exact x_5 | omega)) (by (first | exact mp_o1535 e_13 c_14 | omega)) (by (first | exact x_4 | omega))
        intro z_25 h_26
        have e_27 : z_25.toInt = z_21.toInt := mp_l2i h_26 (by (first | exact mp_o1782 e_24 e_23 | omega)) (by (first | exact mp_o1783 e_24 e_23 | omega))
        show mp_W E X 5 33 [(4, .int i_1), (0, .ref a0), (1, .int x0), (2, .int x1), (3, .int x2)] [.int 3, .int x1, .ref a0, .int z_25, .int x2, .int x1, .ref a0] w1_ 0 0
        refine mp_callV hF (As := [.int x1, .int 3]) (rest := [.int z_25, .int x2, .int x1, .ref a0]) (wr := [(mp_arI E a1 0 4 f0), (mp_arL E a2 240 f1)]) (bX10_of_63 E a0 a3 a4 a1 a2 a5 a6 a7 a8 a9 a10 a11 a12 a13 a14 a15 a16 a17 a18 a19 a20 a21 a22 a23 a24 a25 f2 y0 y1 y2 y3 y4 y5 y6 y7 y8 y9 y10 y11 y12 y13 y14 y15 y16 y17 y18 y19 y20 y21 x1 p1 p2 p3 p4 l_x1 u_x1 l_y1 u_y1 l_y2 u_y2 l_y3 u_y3 l_y4 u_y4 l_y11 u_y11 l_y12 u_y12 l_y13 u_y13) mp_lkX10_267 0 rfl [0, 3] [1, 2] rfl rfl rfl rfl rfl ⟨(Nat.le_of_ble_eq_true rfl), (Nat.le_of_ble_eq_true rfl), (Nat.le_of_ble_eq_true rfl), (Nat.le_of_ble_eq_true rfl)⟩ (Nat.le_of_ble_eq_true rfl) (by first | exact mp_fd_ok mp_k_cX10_isWay_ok (by decide +kernel) | decide +kernel) (fun v_28 w_29 h_30 => ?_)
        refine h_30.elim fun r_31 q_35 => q_35.elim fun e_36 q_37 => q_37.elim fun l_32 q_38 => q_38.elim fun u_33 q_39 => q_39.elim fun x_34 e_40 => ?_
        clear h_30 q_35 q_37 q_38 q_39
        subst e_36
        subst e_40
        let w2_ : va_W := [(mp_arI E a1 0 4 f0), (mp_arL E a2 240 f1), (mp_ob10 a0 y0 a4 a1 a2 a5 a6 y1 y2 y3 y4 y5 y6 y7 y8 y9 y10 a7 a8 a9 a10 a11 a3 a12 a13 y11 a14 a15 a16 a17 y12 y13 y14 a18 a19 y15 y16 a20 a21 a22 y17 y18 y19 y20 a23 a24 a25 y21), (mp_arI E a3 0 300 f2)]
        show mp_W E X 5 36 [(4, .int i_1), (0, .ref a0), (1, .int x0), (2, .int x1), (3, .int x2)] [.int r_31, .int z_25, .int x2, .int x1, .ref a0] w2_ 0 0
        refine mp_run mp_k_cX10_isWay_ok hF mp_tabX10_ok [mp_i .isub] (by decide +kernel) ?_
        intro z_41 h_42
        have e_43 : z_41.toInt = z_25.toInt - r_31.toInt := mp_subi (a := z_25.toInt) (b := r_31.toInt) h_42 rfl rfl (by (first | exact mp_o1784 e_27 x_34 e_23 | omega)) (by (first | exact mp_o1785 e_27 x_34 e_23 | omega))
        show mp_W E X 5 37 [(4, .int i_1), (0, .ref a0), (1, .int x0), (2, .int x1), (3, .int x2)] [.int z_41, .int x2, .int x1, .ref a0] w2_ 0 0
        refine mp_callV hF (As := [.int x1, .int x2, .int z_41]) (rest := []) (wr := [(mp_arI E a1 0 4 f0), (mp_arL E a2 240 f1)]) (bX10_worthBy_136 E a0 a3 a4 a1 a2 a5 a6 a7 a8 a9 a10 a11 a12 a13 a14 a15 a16 a17 a18 a19 a20 a21 a22 a23 a24 a25 f2 y0 y1 y2 y3 y4 y5 y6 y7 y8 y9 y10 y11 y12 y13 y14 y15 y16 y17 y18 y19 y20 y21 x1 x2 z_41 p1 p2 p3 p4 l_x1 u_x1 (by (first | exact mp_o1786 e_27 e_43 x_34 e_23 | omega)) (by (first | exact mp_o1787 e_27 e_43 x_34 e_23 | omega)) l_y1 u_y1 l_y2 u_y2 l_y3 u_y3 l_y4 u_y4 l_y11 u_y11 l_y12 u_y12 l_y13 u_y13) mp_lkX10_414 2 rfl [2, 3] [0, 1] rfl rfl rfl rfl rfl ⟨(Nat.le_of_ble_eq_true rfl), (Nat.le_of_ble_eq_true rfl), (Nat.le_of_ble_eq_true rfl), (Nat.le_of_ble_eq_true rfl)⟩ (Nat.le_of_ble_eq_true rfl) (by first | exact mp_fd_ok mp_k_cX10_isWay_ok (by decide +kernel) | decide +kernel) (fun v_44 w_45 h_46 => ?_)
        obtain ⟨r_47, rfl, x_48, rfl⟩ := h_46
        show mp_W E X 5 40 [(4, .int i_1), (0, .ref a0), (1, .int x0), (2, .int x1), (3, .int x2)] [.int r_47] w2_ 0 0
        refine mp_run mp_k_cX10_isWay_ok hF mp_tabX10_ok [mp_i .i2l, mp_i (.aload_n 0), mp_h (.getfield 16) [3, 2], mp_c (.bipush 60) 60, mp_i (.iload_n 1), mp_i .imul, mp_i (.iload 4), mp_i .iadd, mp_c (.iconst 1) 1, mp_i .iadd, mp_h .laload [1], mp_i .lcmp, mp_h (.ifCond .eq 5) [61]] (by decide +kernel) ?_
        intro z_49 h_50
        have e_51 : z_49.toInt = r_47.toInt := mp_i2l h_50
        refine And.intro rfl (And.intro rfl ?_)
        intro z_52 h_53
        have e_54 : z_52.toInt = 60 * x0.toInt := mp_mul (a := 60) (b := x0.toInt) h_53 (by decide) rfl (by omega) (by omega)
        intro z_55 h_56
        have e_57 : z_55.toInt = z_52.toInt + i_1.toInt := mp_add (a := z_52.toInt) (b := i_1.toInt) h_56 rfl rfl (by omega) (by omega)
        intro z_58 h_59
        have e_60 : z_58.toInt = z_55.toInt + 1 := mp_add (a := z_55.toInt) (b := 1) h_59 rfl (by decide) (by omega) (by omega)
        refine And.intro rfl (And.intro rfl (And.intro (vp_in_iff.mpr (by omega)) ?_))
        intro z_61 h_62
        intro z_63 h_64
        refine And.intro (fun c_65 => ?_) (fun c_65 => ?_)
        · have c_65 : z_49.toInt = z_61.toInt := mp_lc_eq h_64 c_65
          show mp_W E X 5 61 [(4, .int i_1), (0, .ref a0), (1, .int x0), (2, .int x1), (3, .int x2)] [] w2_ 0 0
          refine mp_run mp_k_cX10_isWay_ok hF mp_tabX10_ok [mp_c (.iinc 4 2) 2, mp_h (.goto (-61)) [3]] (by decide +kernel) ?_
          intro z_66 h_67
          have e_68 : z_66.toInt = i_1.toInt + 2 := mp_add (a := i_1.toInt) (b := 2) h_67 rfl (by decide) (by omega) (by omega)
          show mp_W E X 5 3 [(4, .int z_66), (0, .ref a0), (1, .int x0), (2, .int x1), (3, .int x2)] [] w2_ 0 0
          exact mp_sub [0, 1, 2, 3, 4] rfl [2, 0, 1, 3] rfl rfl (ih_8 (d_7 - 1) (by omega) z_66 (by omega) (by omega) (by first | omega | decide | (show z_66.toInt % 2 = 0; first | fail | decide)) (by first | omega | decide | (show 0 ≤ z_66.toInt; first | fail | decide)) (by omega))
        · have c_65 : z_49.toInt ≠ z_61.toInt := mp_lc_ne h_64 c_65
          show mp_W E X 5 59 [(4, .int i_1), (0, .ref a0), (1, .int x0), (2, .int x1), (3, .int x2)] [] w2_ 0 0
          refine mp_run mp_k_cX10_isWay_ok hF mp_tabX10_ok [mp_c (.iconst 0) 0] (by decide +kernel) ?_
          show mp_W E X 5 60 [(4, .int i_1), (0, .ref a0), (1, .int x0), (2, .int x1), (3, .int x2)] [.int 0] w2_ 0 0
          exact mp_iret hF hQ rfl (by decide) (Nat.le_of_ble_eq_true rfl) (Nat.le_of_ble_eq_true rfl) [2, 0, 1, 3] (w' := w1_) rfl rfl (Or.inr ⟨rfl, rfl⟩) (by first | exact mp_fd_ok mp_k_cX10_isWay_ok (by decide +kernel) | decide +kernel)
  exact mp_sub [0, 1, 2, 3, 4] rfl [0, 1, 2, 3] rfl rfl (lp_6 _ 0 (by decide) (by decide) (by first | fail | decide | (show 0 % 2 = 0; first | fail | decide)) (by first | fail | decide | (show 0 ≤ 0; first | fail | decide)) (Int.self_le_toNat _))
set_option maxHeartbeats 4000000 in
set_option maxRecDepth 100000 in
theorem bX10_laysWays_138 (E : mp_E) (a0 a1 a2 a3 a4 a5 a6 a7 a8 a9 a10 a11 a12 a13 a14 a15 a16 a17 a18 a19 a20 a21 a22 a23 a24 a25 : Nat) (f0 : Nat → Int32) (f1 : Nat → Int64) (f2 : Nat → Int32) (y0 : Int32) (y1 : Int32) (y2 : Int32) (y3 : Int32) (y4 : Int32) (y5 : Int32) (y6 : Int64) (y7 : Int32) (y8 : Int32) (y9 : Int32) (y10 : Int32) (y11 : Int32) (y12 : Int32) (y13 : Int32) (y14 : Int32) (y15 : Int32) (y16 : Int32) (y17 : Int32) (y18 : Int32) (y19 : Int32) (y20 : Int32) (y21 : Int32) (x0 : Int32) (x1 : Int32) (p0 : mp_all f0 4 0 60) (p1 : mp_res f2 300 6 0 0 5) (p2 : mp_res f2 300 6 1 0 5) (p3 : mp_res f2 300 6 3 0 99) (p4 : mp_res f2 300 6 4 0 1) (l_x0 : 0 ≤ x0.toInt) (u_x0 : x0.toInt ≤ 3) (l_x1 : 0 ≤ x1.toInt) (u_x1 : x1.toInt ≤ 9) (l_y1 : 0 ≤ y1.toInt) (u_y1 : y1.toInt ≤ 1600) (l_y2 : 0 ≤ y2.toInt) (u_y2 : y2.toInt ≤ 1600) (l_y3 : 0 ≤ y3.toInt) (u_y3 : y3.toInt ≤ 4) (l_y4 : 0 ≤ y4.toInt) (u_y4 : y4.toInt ≤ 1600) (l_y11 : 0 ≤ y11.toInt) (u_y11 : y11.toInt ≤ 99) (l_y12 : 0 ≤ y12.toInt) (u_y12 : y12.toInt ≤ 5) (l_y13 : 0 ≤ y13.toInt) (u_y13 : y13.toInt ≤ 12) (q0 : (f0 x0.toInt.toNat).toInt % 2 = 0) (q1 : mp_wn f1 x0.toInt (f0 x0.toInt.toNat).toInt (f2 (6 * x1.toInt.toNat + 3)).toInt) : mp_Ct E yX10_laysWays cX10_laysWays 4 none 3 0 0 70 [.ref a0, .int x0, .int x1] [(mp_ob10 a0 y0 a4 a1 a2 a5 a6 y1 y2 y3 y4 y5 y6 y7 y8 y9 y10 a7 a8 a9 a10 a11 a3 a12 a13 y11 a14 a15 a16 a17 y12 y13 y14 a18 a19 y15 y16 a20 a21 a22 y17 y18 y19 y20 a23 a24 a25 y21), (mp_arI E a1 0 4 f0), (mp_arL E a2 240 f1), (mp_arI E a3 0 300 f2)] (fun v w' => ∃ r1 : Int32, ∃ r2 : Int32, ∃ r3 : Int32, ∃ r4 : Int32, v = none ∧ 0 ≤ r3.toInt ∧ r3.toInt ≤ 1023 ∧ w' = [(mp_ob10 a0 y0 a4 a1 a2 a5 a6 y1 y2 y3 y4 y5 y6 y7 y8 y9 y10 a7 a8 a9 a10 a11 a3 a12 a13 y11 a14 a15 a16 a17 y12 y13 y14 a18 a19 y15 y16 a20 a21 a22 r1 r2 r3 r4 a23 a24 a25 y21), (mp_arI E a1 0 4 f0), (mp_arL E a2 240 f1), (mp_arI E a3 0 300 f2)]) := by
  refine mp_met false (by decide) (by decide) (Nat.le_of_ble_eq_true rfl) (fun X hF hQ => ?_)
  have hF : mp_F E X (RX10, cX10_laysWays, 4, (3, 0, 0, 70), none, false) := hF
  let w1_ : va_W := [(mp_ob10 a0 y0 a4 a1 a2 a5 a6 y1 y2 y3 y4 y5 y6 y7 y8 y9 y10 a7 a8 a9 a10 a11 a3 a12 a13 y11 a14 a15 a16 a17 y12 y13 y14 a18 a19 y15 y16 a20 a21 a22 y17 y18 y19 y20 a23 a24 a25 y21), (mp_arI E a1 0 4 f0), (mp_arL E a2 240 f1), (mp_arI E a3 0 300 f2)]
  show mp_W E X 4 0 [(0, .ref a0), (1, .int x0), (2, .int x1)] [] w1_ 0 0
  refine mp_run mp_k_cX10_laysWays_ok hF mp_tabX10_ok [mp_i (.aload_n 0), mp_c (.iconst 0) 0, mp_h (.putfield 417) [39, 0]] (by decide +kernel) ?_
  refine And.intro rfl (And.intro rfl (And.intro rfl (And.intro rfl (And.intro (Nat.le_of_ble_eq_true rfl) ?_))))
  let w2_ : va_W := [(mp_ob10 a0 y0 a4 a1 a2 a5 a6 y1 y2 y3 y4 y5 y6 y7 y8 y9 y10 a7 a8 a9 a10 a11 a3 a12 a13 y11 a14 a15 a16 a17 y12 y13 y14 a18 a19 y15 y16 a20 a21 a22 0 y18 y19 y20 a23 a24 a25 y21), (mp_arI E a1 0 4 f0), (mp_arL E a2 240 f1), (mp_arI E a3 0 300 f2)]
  show mp_W E X 4 5 [(0, .ref a0), (1, .int x0), (2, .int x1)] [] w2_ 0 0
  refine mp_run mp_k_cX10_laysWays_ok hF mp_tabX10_ok [mp_i (.aload_n 0), mp_c (.sipush 1023) 1023, mp_h (.putfield 420) [40, 0]] (by decide +kernel) ?_
  refine And.intro rfl (And.intro rfl (And.intro rfl (And.intro rfl (And.intro (Nat.le_of_ble_eq_true rfl) ?_))))
  let w3_ : va_W := [(mp_ob10 a0 y0 a4 a1 a2 a5 a6 y1 y2 y3 y4 y5 y6 y7 y8 y9 y10 a7 a8 a9 a10 a11 a3 a12 a13 y11 a14 a15 a16 a17 y12 y13 y14 a18 a19 y15 y16 a20 a21 a22 0 1023 y19 y20 a23 a24 a25 y21), (mp_arI E a1 0 4 f0), (mp_arL E a2 240 f1), (mp_arI E a3 0 300 f2)]
  show mp_W E X 4 12 [(0, .ref a0), (1, .int x0), (2, .int x1)] [] w3_ 0 0
  refine mp_run mp_k_cX10_laysWays_ok hF mp_tabX10_ok [mp_i (.aload_n 0), mp_c (.iconst 0) 0, mp_h (.putfield 423) [41, 0]] (by decide +kernel) ?_
  refine And.intro rfl (And.intro rfl (And.intro rfl (And.intro rfl (And.intro (Nat.le_of_ble_eq_true rfl) ?_))))
  let w4_ : va_W := [(mp_ob10 a0 y0 a4 a1 a2 a5 a6 y1 y2 y3 y4 y5 y6 y7 y8 y9 y10 a7 a8 a9 a10 a11 a3 a12 a13 y11 a14 a15 a16 a17 y12 y13 y14 a18 a19 y15 y16 a20 a21 a22 0 1023 0 y20 a23 a24 a25 y21), (mp_arI E a1 0 4 f0), (mp_arL E a2 240 f1), (mp_arI E a3 0 300 f2)]
  show mp_W E X 4 17 [(0, .ref a0), (1, .int x0), (2, .int x1)] [] w4_ 0 0
  refine mp_run mp_k_cX10_laysWays_ok hF mp_tabX10_ok [mp_i (.aload_n 0), mp_c (.ldc 142) 1000000, mp_h (.putfield 426) [42, 0]] (by decide +kernel) ?_
  refine And.intro rfl (And.intro rfl (And.intro rfl (And.intro rfl (And.intro (Nat.le_of_ble_eq_true rfl) ?_))))
  let w5_ : va_W := [(mp_ob10 a0 y0 a4 a1 a2 a5 a6 y1 y2 y3 y4 y5 y6 y7 y8 y9 y10 a7 a8 a9 a10 a11 a3 a12 a13 y11 a14 a15 a16 a17 y12 y13 y14 a18 a19 y15 y16 a20 a21 a22 0 1023 0 1000000 a23 a24 a25 y21), (mp_arI E a1 0 4 f0), (mp_arL E a2 240 f1), (mp_arI E a3 0 300 f2)]
  show mp_W E X 4 23 [(0, .ref a0), (1, .int x0), (2, .int x1)] [] w5_ 0 0
  refine mp_run mp_k_cX10_laysWays_ok hF mp_tabX10_ok [mp_c (.iconst 0) 0, mp_i (.istore_n 3)] (by decide +kernel) ?_
  show mp_W E X 4 25 [(3, .int 0), (0, .ref a0), (1, .int x0), (2, .int x1)] [] w5_ 0 0
  have lp_10 : ∀ (d_11 : Nat) (i_1 : Int32) (i_2 : Int32) (i_3 : Int32) (i_4 : Int32) (i_5 : Int32), 0 ≤ i_1.toInt → i_1.toInt ≤ 1024 → 0 ≤ i_5.toInt → i_5.toInt ≤ 1023 → -(i_1.toInt) + 1024 ≤ (d_11 : Int) → mp_W E X 4 25 [(3, .int i_1), (0, .ref a0), (1, .int x0), (2, .int x1)] [] [(mp_ob10 a0 y0 a4 a1 a2 a5 a6 y1 y2 y3 y4 y5 y6 y7 y8 y9 y10 a7 a8 a9 a10 a11 a3 a12 a13 y11 a14 a15 a16 a17 y12 y13 y14 a18 a19 y15 y16 a20 a21 a22 i_2 i_3 i_5 i_4 a23 a24 a25 y21), (mp_arI E a1 0 4 f0), (mp_arL E a2 240 f1), (mp_arI E a3 0 300 f2)] 0 0 := by
    intro d_11
    induction d_11 using Nat.strongRecOn with
    | ind d_11 ih_12 =>
      intro i_1 i_2 i_3 i_4 i_5 l_6 u_7 l_8 u_9 hm_13
      refine mp_run mp_k_cX10_laysWays_ok hF mp_tabX10_ok [mp_i (.iload_n 3), mp_c (.sipush 1024) 1024, mp_h (.if_icmp .ge 78) [107]] (by decide +kernel) ?_
      refine And.intro (fun c_14 => ?_) (fun c_14 => ?_)
      · have c_14 : 1024 ≤ i_1.toInt := c_14
        let w6_ : va_W := [(mp_ob10 a0 y0 a4 a1 a2 a5 a6 y1 y2 y3 y4 y5 y6 y7 y8 y9 y10 a7 a8 a9 a10 a11 a3 a12 a13 y11 a14 a15 a16 a17 y12 y13 y14 a18 a19 y15 y16 a20 a21 a22 i_2 i_3 i_5 i_4 a23 a24 a25 y21), (mp_arI E a1 0 4 f0), (mp_arL E a2 240 f1), (mp_arI E a3 0 300 f2)]
        show mp_W E X 4 107 [(3, .int i_1), (0, .ref a0), (1, .int x0), (2, .int x1)] [] w6_ 0 0
        exact mp_vret hF hQ rfl (Nat.le_of_ble_eq_true rfl) (Nat.le_of_ble_eq_true rfl) [0, 1, 2, 3] (w' := w6_) rfl rfl ⟨i_2, i_3, i_5, i_4, rfl, l_8, u_9, rfl⟩ (by first | exact mp_fd_ok mp_k_cX10_laysWays_ok (by decide +kernel) | decide +kernel)
      · have c_14 : i_1.toInt < 1024 := c_14
        let w7_ : va_W := [(mp_ob10 a0 y0 a4 a1 a2 a5 a6 y1 y2 y3 y4 y5 y6 y7 y8 y9 y10 a7 a8 a9 a10 a11 a3 a12 a13 y11 a14 a15 a16 a17 y12 y13 y14 a18 a19 y15 y16 a20 a21 a22 i_2 i_3 i_5 i_4 a23 a24 a25 y21), (mp_arI E a1 0 4 f0), (mp_arL E a2 240 f1), (mp_arI E a3 0 300 f2)]
        show mp_W E X 4 32 [(3, .int i_1), (0, .ref a0), (1, .int x0), (2, .int x1)] [] w7_ 0 0
        refine mp_run mp_k_cX10_laysWays_ok hF mp_tabX10_ok [mp_i (.aload_n 0), mp_i (.iload_n 1), mp_i (.iload_n 2), mp_i (.iload_n 3)] (by decide +kernel) ?_
        show mp_W E X 4 36 [(3, .int i_1), (0, .ref a0), (1, .int x0), (2, .int x1)] [.int i_1, .int x1, .int x0, .ref a0] w7_ 0 0
        refine mp_callV hF (As := [.int x0, .int x1, .int i_1]) (rest := []) (wr := []) (bX10_isWay_137 E a0 a1 a2 a3 a4 a5 a6 a7 a8 a9 a10 a11 a12 a13 a14 a15 a16 a17 a18 a19 a20 a21 a22 a23 a24 a25 f0 f1 f2 y0 y1 y2 y3 y4 y5 y6 y7 y8 y9 y10 y11 y12 y13 y14 y15 y16 i_2 i_3 i_5 i_4 y21 x0 x1 i_1 p0 p1 p2 p3 p4 l_x0 u_x0 l_x1 u_x1 l_y1 u_y1 l_y2 u_y2 l_y3 u_y3 l_y4 u_y4 l_y11 u_y11 l_y12 u_y12 l_y13 u_y13 (by first | assumption | omega) (by assumption)) mp_lkX10_429 0 rfl [0, 1, 2, 3] [] rfl rfl rfl rfl rfl ⟨(Nat.le_of_ble_eq_true rfl), (Nat.le_of_ble_eq_true rfl), (Nat.le_of_ble_eq_true rfl), (Nat.le_of_ble_eq_true rfl)⟩ (Nat.le_of_ble_eq_true rfl) (by first | exact mp_fd_ok mp_k_cX10_laysWays_ok (by decide +kernel) | decide +kernel) (fun v_15 w_16 h_17 => ?_)
        rcases h_17 with ⟨rfl, rfl⟩ | ⟨rfl, rfl⟩
        · skip
          show mp_W E X 4 39 [(3, .int i_1), (0, .ref a0), (1, .int x0), (2, .int x1)] [.int 1] w7_ 0 0
          refine mp_run mp_k_cX10_laysWays_ok hF mp_tabX10_ok [mp_h (.ifCond .ne 6) [45]] (by decide +kernel) ?_
          refine And.intro (fun _ => ?_) (fun c_18 => absurd c_18 (by decide))
          show mp_W E X 4 45 [(3, .int i_1), (0, .ref a0), (1, .int x0), (2, .int x1)] [] w7_ 0 0
          refine mp_run mp_k_cX10_laysWays_ok hF mp_tabX10_ok [mp_i (.aload_n 0), mp_i .dup, mp_h (.getfield 417) [39, 0], mp_c (.iconst 1) 1, mp_i .iadd, mp_h (.putfield 417) [39, 0]] (by decide +kernel) ?_
          refine And.intro rfl ?_
          refine And.intro rfl (And.intro rfl ?_)
          intro z_19 h_20
          have e_21 := mp_bnd i_2
          refine And.intro rfl (And.intro rfl (And.intro rfl (And.intro rfl (And.intro (Nat.le_of_ble_eq_true rfl) ?_))))
          let w8_ : va_W := [(mp_ob10 a0 y0 a4 a1 a2 a5 a6 y1 y2 y3 y4 y5 y6 y7 y8 y9 y10 a7 a8 a9 a10 a11 a3 a12 a13 y11 a14 a15 a16 a17 y12 y13 y14 a18 a19 y15 y16 a20 a21 a22 z_19 i_3 i_5 i_4 a23 a24 a25 y21), (mp_arI E a1 0 4 f0), (mp_arL E a2 240 f1), (mp_arI E a3 0 300 f2)]
          show mp_W E X 4 55 [(3, .int i_1), (0, .ref a0), (1, .int x0), (2, .int x1)] [] w8_ 0 0
          refine mp_run mp_k_cX10_laysWays_ok hF mp_tabX10_ok [mp_i (.aload_n 0), mp_i .dup, mp_h (.getfield 420) [40, 0], mp_i (.iload_n 3), mp_i .iand, mp_h (.putfield 420) [40, 0]] (by decide +kernel) ?_
          refine And.intro rfl ?_
          refine And.intro rfl (And.intro rfl ?_)
          intro z_23 h_24
          refine And.intro rfl (And.intro rfl (And.intro rfl (And.intro rfl (And.intro (Nat.le_of_ble_eq_true rfl) ?_))))
          let w9_ : va_W := [(mp_ob10 a0 y0 a4 a1 a2 a5 a6 y1 y2 y3 y4 y5 y6 y7 y8 y9 y10 a7 a8 a9 a10 a11 a3 a12 a13 y11 a14 a15 a16 a17 y12 y13 y14 a18 a19 y15 y16 a20 a21 a22 z_19 z_23 i_5 i_4 a23 a24 a25 y21), (mp_arI E a1 0 4 f0), (mp_arL E a2 240 f1), (mp_arI E a3 0 300 f2)]
          show mp_W E X 4 65 [(3, .int i_1), (0, .ref a0), (1, .int x0), (2, .int x1)] [] w9_ 0 0
          refine mp_run mp_k_cX10_laysWays_ok hF mp_tabX10_ok [mp_i (.aload_n 0), mp_i .dup, mp_h (.getfield 423) [41, 0], mp_i (.iload_n 3), mp_i .ior, mp_h (.putfield 423) [41, 0]] (by decide +kernel) ?_
          refine And.intro rfl ?_
          refine And.intro rfl (And.intro rfl ?_)
          intro z_26 h_27
          have e_29 : 0 ≤ z_26.toInt ∧ z_26.toInt ≤ 1023 := mp_or10 h_27 ⟨by (first | exact l_8 | omega), by (first | exact u_9 | omega)⟩ ⟨by (first | exact l_6 | omega), by (first | exact mp_o721 c_14 | omega)⟩
          refine And.intro rfl (And.intro rfl (And.intro rfl (And.intro rfl (And.intro (Nat.le_of_ble_eq_true rfl) ?_))))
          let w10_ : va_W := [(mp_ob10 a0 y0 a4 a1 a2 a5 a6 y1 y2 y3 y4 y5 y6 y7 y8 y9 y10 a7 a8 a9 a10 a11 a3 a12 a13 y11 a14 a15 a16 a17 y12 y13 y14 a18 a19 y15 y16 a20 a21 a22 z_19 z_23 z_26 i_4 a23 a24 a25 y21), (mp_arI E a1 0 4 f0), (mp_arL E a2 240 f1), (mp_arI E a3 0 300 f2)]
          show mp_W E X 4 75 [(3, .int i_1), (0, .ref a0), (1, .int x0), (2, .int x1)] [] w10_ 0 0
          refine mp_run mp_k_cX10_laysWays_ok hF mp_tabX10_ok [mp_i (.aload_n 0), mp_i (.iload_n 3)] (by decide +kernel) ?_
          show mp_W E X 4 77 [(3, .int i_1), (0, .ref a0), (1, .int x0), (2, .int x1)] [.int i_1, .ref a0] w10_ 0 0
          refine mp_callS hF (As := [.int i_1]) (rest := [.ref a0]) (wr := w10_) (bX10_sizeOf_116 E i_1) mp_lkX10_373 [] [0, 1, 2, 3] rfl rfl rfl rfl rfl ⟨(Nat.le_of_ble_eq_true rfl), (Nat.le_of_ble_eq_true rfl), (Nat.le_of_ble_eq_true rfl), (Nat.le_of_ble_eq_true rfl)⟩ (Nat.le_of_ble_eq_true rfl) (by first | exact mp_fd_ok mp_k_cX10_laysWays_ok (by decide +kernel) | decide +kernel) (fun v_30 w_31 h_32 => ?_)
          obtain ⟨r_33, rfl, rfl⟩ := h_32
          show mp_W E X 4 80 [(3, .int i_1), (0, .ref a0), (1, .int x0), (2, .int x1)] [.int r_33, .ref a0] w10_ 0 0
          refine mp_run mp_k_cX10_laysWays_ok hF mp_tabX10_ok [mp_i (.aload_n 0), mp_h (.getfield 426) [42, 0], mp_h (.if_icmp .ge 10) [94]] (by decide +kernel) ?_
          refine And.intro rfl (And.intro rfl ?_)
          refine And.intro (fun c_34 => ?_) (fun c_34 => ?_)
          · have c_34 : i_4.toInt ≤ r_33.toInt := c_34
            show mp_W E X 4 94 [(3, .int i_1), (0, .ref a0), (1, .int x0), (2, .int x1)] [.ref a0] w10_ 0 0
            refine mp_run mp_k_cX10_laysWays_ok hF mp_tabX10_ok [mp_i (.aload_n 0), mp_h (.getfield 426) [42, 0], mp_h (.putfield 426) [42, 0]] (by decide +kernel) ?_
            refine And.intro rfl (And.intro rfl ?_)
            refine And.intro rfl (And.intro rfl (And.intro rfl (And.intro rfl (And.intro (Nat.le_of_ble_eq_true rfl) ?_))))
            show mp_W E X 4 101 [(3, .int i_1), (0, .ref a0), (1, .int x0), (2, .int x1)] [] w10_ 0 0
            refine mp_run mp_k_cX10_laysWays_ok hF mp_tabX10_ok [mp_c (.iinc 3 1) 1, mp_h (.goto (-79)) [25]] (by decide +kernel) ?_
            intro z_35 h_36
            have e_37 : z_35.toInt = i_1.toInt + 1 := mp_add (a := i_1.toInt) (b := 1) h_36 rfl (by decide) (by (first | exact mp_o2 l_6 | omega)) (by (first | exact mp_o722 c_14 | omega))
            show mp_W E X 4 25 [(3, .int z_35), (0, .ref a0), (1, .int x0), (2, .int x1)] [] w10_ 0 0
            exact mp_sub [0, 1, 2, 3] rfl [0, 1, 2, 3] rfl rfl (ih_12 (d_11 - 1) (by (first | exact mp_o723 hm_13 c_14 | omega)) z_35 z_19 z_23 i_4 z_26 (by (first | exact mp_o51 l_6 e_37 | omega)) (by (first | exact mp_o724 c_14 e_37 | omega)) (by (first | exact mp_o465 e_29 | omega)) (by (first | exact mp_o466 e_29 | omega)) (by (first | exact mp_o725 hm_13 e_37 | omega)))
          · have c_34 : r_33.toInt < i_4.toInt := c_34
            show mp_W E X 4 87 [(3, .int i_1), (0, .ref a0), (1, .int x0), (2, .int x1)] [.ref a0] w10_ 0 0
            refine mp_run mp_k_cX10_laysWays_ok hF mp_tabX10_ok [mp_i (.iload_n 3)] (by decide +kernel) ?_
            show mp_W E X 4 88 [(3, .int i_1), (0, .ref a0), (1, .int x0), (2, .int x1)] [.int i_1, .ref a0] w10_ 0 0
            refine mp_callS hF (As := [.int i_1]) (rest := [.ref a0]) (wr := w10_) (bX10_sizeOf_116 E i_1) mp_lkX10_373 [] [0, 1, 2, 3] rfl rfl rfl rfl rfl ⟨(Nat.le_of_ble_eq_true rfl), (Nat.le_of_ble_eq_true rfl), (Nat.le_of_ble_eq_true rfl), (Nat.le_of_ble_eq_true rfl)⟩ (Nat.le_of_ble_eq_true rfl) (by first | exact mp_fd_ok mp_k_cX10_laysWays_ok (by decide +kernel) | decide +kernel) (fun v_38 w_39 h_40 => ?_)
            obtain ⟨r_41, rfl, rfl⟩ := h_40
            show mp_W E X 4 91 [(3, .int i_1), (0, .ref a0), (1, .int x0), (2, .int x1)] [.int r_41, .ref a0] w10_ 0 0
            refine mp_run mp_k_cX10_laysWays_ok hF mp_tabX10_ok [mp_h (.goto 7) [98], mp_h (.putfield 426) [42, 0]] (by decide +kernel) ?_
            refine And.intro rfl (And.intro rfl (And.intro rfl (And.intro rfl (And.intro (Nat.le_of_ble_eq_true rfl) ?_))))
            let w11_ : va_W := [(mp_ob10 a0 y0 a4 a1 a2 a5 a6 y1 y2 y3 y4 y5 y6 y7 y8 y9 y10 a7 a8 a9 a10 a11 a3 a12 a13 y11 a14 a15 a16 a17 y12 y13 y14 a18 a19 y15 y16 a20 a21 a22 z_19 z_23 z_26 r_41 a23 a24 a25 y21), (mp_arI E a1 0 4 f0), (mp_arL E a2 240 f1), (mp_arI E a3 0 300 f2)]
            show mp_W E X 4 101 [(3, .int i_1), (0, .ref a0), (1, .int x0), (2, .int x1)] [] w11_ 0 0
            refine mp_run mp_k_cX10_laysWays_ok hF mp_tabX10_ok [mp_c (.iinc 3 1) 1, mp_h (.goto (-79)) [25]] (by decide +kernel) ?_
            intro z_42 h_43
            have e_44 : z_42.toInt = i_1.toInt + 1 := mp_add (a := i_1.toInt) (b := 1) h_43 rfl (by decide) (by (first | exact mp_o2 l_6 | omega)) (by (first | exact mp_o722 c_14 | omega))
            show mp_W E X 4 25 [(3, .int z_42), (0, .ref a0), (1, .int x0), (2, .int x1)] [] w11_ 0 0
            exact mp_sub [0, 1, 2, 3] rfl [0, 1, 2, 3] rfl rfl (ih_12 (d_11 - 1) (by omega) z_42 z_19 z_23 r_41 z_26 (by omega) (by omega) (by omega) (by omega) (by omega))
        · skip
          show mp_W E X 4 39 [(3, .int i_1), (0, .ref a0), (1, .int x0), (2, .int x1)] [.int 0] w7_ 0 0
          refine mp_run mp_k_cX10_laysWays_ok hF mp_tabX10_ok [mp_h (.ifCond .ne 6) [45]] (by decide +kernel) ?_
          refine And.intro (fun c_45 => absurd c_45 (by decide)) (fun _ => ?_)
          show mp_W E X 4 42 [(3, .int i_1), (0, .ref a0), (1, .int x0), (2, .int x1)] [] w7_ 0 0
          refine mp_run mp_k_cX10_laysWays_ok hF mp_tabX10_ok [mp_h (.goto 59) [101], mp_c (.iinc 3 1) 1, mp_h (.goto (-79)) [25]] (by decide +kernel) ?_
          intro z_46 h_47
          have e_48 : z_46.toInt = i_1.toInt + 1 := mp_add (a := i_1.toInt) (b := 1) h_47 rfl (by decide) (by (first | exact mp_o2 l_6 | omega)) (by (first | exact mp_o722 c_14 | omega))
          show mp_W E X 4 25 [(3, .int z_46), (0, .ref a0), (1, .int x0), (2, .int x1)] [] w7_ 0 0
          exact mp_sub [0, 1, 2, 3] rfl [0, 1, 2, 3] rfl rfl (ih_12 (d_11 - 1) (by (first | exact mp_o723 hm_13 c_14 | omega)) z_46 i_2 i_3 i_4 i_5 (by (first | exact mp_o51 l_6 e_48 | omega)) (by (first | exact mp_o724 c_14 e_48 | omega)) l_8 u_9 (by (first | exact mp_o725 hm_13 e_48 | omega)))
  exact mp_sub [0, 1, 2, 3] rfl [0, 1, 2, 3] rfl rfl (lp_10 _ 0 0 1023 1000000 0 (by decide) (by decide) (by decide) (by decide) (Int.self_le_toNat _))
