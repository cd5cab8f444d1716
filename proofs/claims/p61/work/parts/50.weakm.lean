set_option maxHeartbeats 4000000 in
set_option maxRecDepth 100000 in
theorem bX10_onceBehind_110 (E : mp_E) (a0 a1 a2 a3 a4 a5 a6 a7 a8 a9 a10 a11 a12 a13 a14 a15 a16 a17 a18 a19 a20 a21 a22 a23 a24 a25 : Nat) (f0 : Nat → Int32) (f1 : Nat → Int32) (f2 : Nat → Int32) (f3 : Nat → Int32) (f4 : Nat → Int32) (f5 : Nat → Int32) (y0 : Int32) (y1 : Int32) (y2 : Int32) (y3 : Int32) (y4 : Int32) (y5 : Int32) (y6 : Int64) (y7 : Int32) (y8 : Int32) (y9 : Int32) (y10 : Int32) (y11 : Int32) (y12 : Int32) (y13 : Int32) (y14 : Int32) (y15 : Int32) (y16 : Int32) (y17 : Int32) (y18 : Int32) (y19 : Int32) (y20 : Int32) (y21 : Int32) (x0 : Int32) (x1 : Int32) (x2 : Int32) (p0 : mp_res f0 25 5 0 0 6) (p1 : mp_res f0 25 5 1 0 99) (p2 : mp_res f0 25 5 2 0 6) (p3 : mp_res f0 25 5 3 0 10) (p4 : mp_res f0 25 5 4 0 60) (p5 : mp_all f1 180 0 20) (p6 : mp_all f2 3000 0 1) (p7 : mp_res f3 90 3 0 0 5) (p8 : mp_res f3 90 3 1 (-1) 99) (p9 : mp_res f4 300 6 0 0 5) (p10 : mp_res f4 300 6 1 0 5) (p11 : mp_res f4 300 6 3 0 99) (p12 : mp_res f4 300 6 4 0 1) (p13 : mp_all f5 6 0 5) (l_y1 : 0 ≤ y1.toInt) (u_y1 : y1.toInt ≤ 1600) (l_y2 : 0 ≤ y2.toInt) (u_y2 : y2.toInt ≤ 1600) (l_y3 : 0 ≤ y3.toInt) (u_y3 : y3.toInt ≤ 4) (l_y4 : 0 ≤ y4.toInt) (u_y4 : y4.toInt ≤ 1600) (l_y11 : 0 ≤ y11.toInt) (u_y11 : y11.toInt ≤ 99) (l_y12 : 0 ≤ y12.toInt) (u_y12 : y12.toInt ≤ 5) (l_y13 : 0 ≤ y13.toInt) (u_y13 : y13.toInt ≤ 12) : mp_Ct E yX10_onceBehind cX10_onceBehind 7 (some FieldType.int) 2 0 0 46 [.ref a0, .int x0, .int x1, .int x2] [(mp_ob10 a0 y0 a7 a8 a9 a10 a11 y1 y2 y3 y4 y5 y6 y7 y8 y9 y10 a12 a1 a2 a3 a4 a5 a13 a14 y11 a6 a15 a16 a17 y12 y13 y14 a18 a19 y15 y16 a20 a21 a22 y17 y18 y19 y20 a23 a24 a25 y21), (mp_arI E a1 0 25 f0), (mp_arI E a2 0 180 f1), (mp_arI E a3 3 3000 f2), (mp_arI E a4 0 90 f3), (mp_arI E a5 0 300 f4), (mp_arI E a6 0 6 f5)] (fun v w' => ∃ r1 : Int32, v = some (.int r1) ∧ (r1 = mp_oncx y14 x0 (mp_sdx y14 f4 f5 f3 y12.toInt x1.toInt x2.toInt (f0 3).toInt.toNat) (f3 (3 * y12.toInt.toNat + 1)).toInt x2.toInt) ∧ w' = [(mp_ob10 a0 y0 a7 a8 a9 a10 a11 y1 y2 y3 y4 y5 y6 y7 y8 y9 y10 a12 a1 a2 a3 a4 a5 a13 a14 y11 a6 a15 a16 a17 y12 y13 y14 a18 a19 y15 y16 a20 a21 a22 y17 y18 y19 y20 a23 a24 a25 y21), (mp_arI E a1 0 25 f0), (mp_arI E a2 0 180 f1), (mp_arI E a3 3 3000 f2), (mp_arI E a4 0 90 f3), (mp_arI E a5 0 300 f4), (mp_arI E a6 0 6 f5)]) := by
  refine mp_met false (by decide) (by decide) (Nat.le_of_ble_eq_true rfl) (fun X hF hQ => ?_)
  have hF : mp_F E X (RX10, cX10_onceBehind, 7, (2, 0, 0, 46), (some FieldType.int), false) := hF
  let w1_ : va_W := [(mp_ob10 a0 y0 a7 a8 a9 a10 a11 y1 y2 y3 y4 y5 y6 y7 y8 y9 y10 a12 a1 a2 a3 a4 a5 a13 a14 y11 a6 a15 a16 a17 y12 y13 y14 a18 a19 y15 y16 a20 a21 a22 y17 y18 y19 y20 a23 a24 a25 y21), (mp_arI E a1 0 25 f0), (mp_arI E a2 0 180 f1), (mp_arI E a3 3 3000 f2), (mp_arI E a4 0 90 f3), (mp_arI E a5 0 300 f4), (mp_arI E a6 0 6 f5)]
  show mp_W E X 7 0 [(0, .ref a0), (1, .int x0), (2, .int x1), (3, .int x2)] [] w1_ 0 0
  refine mp_run mp_k_cX10_onceBehind_ok hF mp_tabX10_ok [mp_i (.aload_n 0), mp_i (.iload_n 2), mp_i (.iload_n 3)] (by decide +kernel) ?_
  show mp_W E X 7 3 [(0, .ref a0), (1, .int x0), (2, .int x1), (3, .int x2)] [.int x2, .int x1, .ref a0] w1_ 0 0
  refine mp_callV hF (As := [.int x1, .int x2]) (rest := []) (wr := []) (bX10_saidOn_109 E a0 a1 a2 a3 a4 a5 a6 a7 a8 a9 a10 a11 a12 a13 a14 a15 a16 a17 a18 a19 a20 a21 a22 a23 a24 a25 f0 f1 f2 f3 f4 f5 y0 y1 y2 y3 y4 y5 y6 y7 y8 y9 y10 y11 y12 y13 y14 y15 y16 y17 y18 y19 y20 y21 x1 x2 p0 p1 p2 p3 p4 p5 p6 p7 p8 p9 p10 p11 p12 p13 l_y1 u_y1 l_y2 u_y2 l_y3 u_y3 l_y4 u_y4 l_y11 u_y11 l_y12 u_y12 l_y13 u_y13) mp_lkX10_340 0 rfl [0, 1, 2, 3, 4, 5, 6] [] rfl rfl rfl rfl rfl ⟨(Nat.le_of_ble_eq_true rfl), (Nat.le_of_ble_eq_true rfl), (Nat.le_of_ble_eq_true rfl), (Nat.le_of_ble_eq_true rfl)⟩ (Nat.le_of_ble_eq_true rfl) (by first | exact mp_fd_ok mp_k_cX10_onceBehind_ok (by decide +kernel) | decide +kernel) (fun v_1 w_2 h_3 => ?_)
  refine h_3.elim fun r_4 q_8 => q_8.elim fun e_9 q_10 => q_10.elim fun l_5 q_11 => q_11.elim fun u_6 q_12 => q_12.elim fun x_7 e_13 => ?_
  clear h_3 q_8 q_10 q_11 q_12
  subst e_9
  subst e_13
  show mp_W E X 7 6 [(0, .ref a0), (1, .int x0), (2, .int x1), (3, .int x2)] [.int r_4] w1_ 0 0
  refine mp_run mp_k_cX10_onceBehind_ok hF mp_tabX10_ok [mp_i (.istore 4), mp_i (.iload_n 1), mp_i (.iload 4), mp_c (.iconst (-1)) (-1), mp_i .ixor, mp_i .iand, mp_h (.ifCond .eq 5) [19]] (by decide +kernel) ?_
  intro z_14 h_15
  intro z_17 h_18
  refine And.intro (fun c_20 => ?_) (fun c_20 => ?_)
  · have c_20 : z_17.toInt = 0 := (congrArg Int32.toInt c_20)
    show mp_W E X 7 19 [(4, .int r_4), (0, .ref a0), (1, .int x0), (2, .int x1), (3, .int x2)] [] w1_ 0 0
    refine mp_run mp_k_cX10_onceBehind_ok hF mp_tabX10_ok [mp_i (.aload_n 0), mp_h (.getfield 44) [20, 0], mp_c (.iconst 3) 3, mp_i (.aload_n 0), mp_h (.getfield 337) [29, 0], mp_i .imul, mp_c (.iconst 1) 1, mp_i .iadd, mp_h .iaload [4], mp_i (.istore 5), mp_i (.aload_n 0), mp_h (.getfield 334) [31, 0], mp_i (.iload 4), mp_c (.iconst (-1)) (-1), mp_i .ixor, mp_i .iand, mp_i (.istore 6), mp_i (.iload 6), mp_h (.ifCond .eq 19) [66]] (by decide +kernel) ?_
    refine And.intro rfl (And.intro rfl ?_)
    refine And.intro rfl (And.intro rfl ?_)
    intro z_21 h_22
    have e_23 : z_21.toInt = 3 * y12.toInt := mp_mul (a := 3) (b := y12.toInt) h_22 (by decide) rfl (by (first | exact mp_o1399 l_y12 | omega)) (by (first | exact mp_o1400 u_y12 | omega))
    intro z_24 h_25
    have e_26 : z_24.toInt = z_21.toInt + 1 := mp_add (a := z_21.toInt) (b := 1) h_25 rfl (by decide) (by (first | exact mp_o1549 l_y12 e_23 | omega)) (by (first | exact mp_o1550 u_y12 e_23 | omega))
    refine And.intro rfl (And.intro rfl (And.intro (vp_in_iff.mpr (by (first | exact mp_o1551 l_y12 u_y12 e_23 e_26 | omega))) ?_))
    intro z_27 h_28
    have e_29 : (-1) ≤ z_27.toInt ∧ z_27.toInt ≤ 99 := mp_res_ld h_28 p8 (by (first | exact mp_o1552 l_y12 e_23 e_26 | omega)) (by (first | exact mp_o1553 u_y12 e_23 e_26 | omega)) (by (first | exact mp_o1145 e_26 e_23 | omega))
    have e_30 : z_27.toInt = (f3 (3 * y12.toInt.toNat + 1)).toInt := mp_at_i h_28 (by (first | exact mp_o1554 l_y12 e_23 e_26 | omega))
    refine And.intro rfl (And.intro rfl ?_)
    intro z_31 h_32
    intro z_34 h_35
    refine And.intro (fun c_37 => ?_) (fun c_37 => ?_)
    · have c_37 : z_34.toInt = 0 := (congrArg Int32.toInt c_37)
      show mp_W E X 7 66 [(6, .int z_34), (5, .int z_27), (4, .int r_4), (0, .ref a0), (1, .int x0), (2, .int x1), (3, .int x2)] [] w1_ 0 0
      refine mp_run mp_k_cX10_onceBehind_ok hF mp_tabX10_ok [mp_i (.iload 6)] (by decide +kernel) ?_
      show mp_W E X 7 68 [(6, .int z_34), (5, .int z_27), (4, .int r_4), (0, .ref a0), (1, .int x0), (2, .int x1), (3, .int x2)] [.int z_34] w1_ 0 0
      exact mp_iret hF hQ rfl rfl (Nat.le_of_ble_eq_true rfl) (Nat.le_of_ble_eq_true rfl) [0, 1, 2, 3, 4, 5, 6] (w' := w1_) rfl rfl ⟨z_34, rfl, (by rw [← x_7]; exact mp_oncx_2 h_15 h_18 c_20 h_32 h_35 (by (first | exact mp_o1616 c_37 | omega))), rfl⟩ (by first | exact mp_fd_ok mp_k_cX10_onceBehind_ok (by decide +kernel) | decide +kernel)
    · have c_37 : z_34.toInt ≠ 0 := c_37
      show mp_W E X 7 50 [(6, .int z_34), (5, .int z_27), (4, .int r_4), (0, .ref a0), (1, .int x0), (2, .int x1), (3, .int x2)] [] w1_ 0 0
      refine mp_run mp_k_cX10_onceBehind_ok hF mp_tabX10_ok [mp_i (.iload 5), mp_c (.iconst (-1)) (-1), mp_h (.if_icmp .eq 13) [66]] (by decide +kernel) ?_
      refine And.intro (fun c_38 => ?_) (fun c_38 => ?_)
      · have c_38 : z_27.toInt = (-1) := (congrArg Int32.toInt c_38)
        show mp_W E X 7 66 [(6, .int z_34), (5, .int z_27), (4, .int r_4), (0, .ref a0), (1, .int x0), (2, .int x1), (3, .int x2)] [] w1_ 0 0
        refine mp_run mp_k_cX10_onceBehind_ok hF mp_tabX10_ok [mp_i (.iload 6)] (by decide +kernel) ?_
        show mp_W E X 7 68 [(6, .int z_34), (5, .int z_27), (4, .int r_4), (0, .ref a0), (1, .int x0), (2, .int x1), (3, .int x2)] [.int z_34] w1_ 0 0
        exact mp_iret hF hQ rfl rfl (Nat.le_of_ble_eq_true rfl) (Nat.le_of_ble_eq_true rfl) [0, 1, 2, 3, 4, 5, 6] (w' := w1_) rfl rfl ⟨z_34, rfl, (by rw [← x_7]; exact mp_oncx_2 h_15 h_18 c_20 h_32 h_35 (by (first | exact mp_o1617 c_38 e_30 | omega))), rfl⟩ (by first | exact mp_fd_ok mp_k_cX10_onceBehind_ok (by decide +kernel) | decide +kernel)
      · have c_38 : z_27.toInt ≠ (-1) := c_38
        show mp_W E X 7 56 [(6, .int z_34), (5, .int z_27), (4, .int r_4), (0, .ref a0), (1, .int x0), (2, .int x1), (3, .int x2)] [] w1_ 0 0
        refine mp_run mp_k_cX10_onceBehind_ok hF mp_tabX10_ok [mp_i (.iload_n 3), mp_i (.iload 5), mp_h (.if_icmp .le 7) [66]] (by decide +kernel) ?_
        refine And.intro (fun c_39 => ?_) (fun c_39 => ?_)
        · have c_39 : x2.toInt ≤ z_27.toInt := c_39
          show mp_W E X 7 66 [(6, .int z_34), (5, .int z_27), (4, .int r_4), (0, .ref a0), (1, .int x0), (2, .int x1), (3, .int x2)] [] w1_ 0 0
          refine mp_run mp_k_cX10_onceBehind_ok hF mp_tabX10_ok [mp_i (.iload 6)] (by decide +kernel) ?_
          show mp_W E X 7 68 [(6, .int z_34), (5, .int z_27), (4, .int r_4), (0, .ref a0), (1, .int x0), (2, .int x1), (3, .int x2)] [.int z_34] w1_ 0 0
          exact mp_iret hF hQ rfl rfl (Nat.le_of_ble_eq_true rfl) (Nat.le_of_ble_eq_true rfl) [0, 1, 2, 3, 4, 5, 6] (w' := w1_) rfl rfl ⟨z_34, rfl, (by rw [← x_7]; exact mp_oncx_2 h_15 h_18 c_20 h_32 h_35 (by (first | exact mp_o1618 e_30 c_39 | omega))), rfl⟩ (by first | exact mp_fd_ok mp_k_cX10_onceBehind_ok (by decide +kernel) | decide +kernel)
        · have c_39 : z_27.toInt < x2.toInt := c_39
          show mp_W E X 7 62 [(6, .int z_34), (5, .int z_27), (4, .int r_4), (0, .ref a0), (1, .int x0), (2, .int x1), (3, .int x2)] [] w1_ 0 0
          refine mp_run mp_k_cX10_onceBehind_ok hF mp_tabX10_ok [mp_c (.iconst (-1)) (-1), mp_h (.goto 5) [68]] (by decide +kernel) ?_
          show mp_W E X 7 68 [(6, .int z_34), (5, .int z_27), (4, .int r_4), (0, .ref a0), (1, .int x0), (2, .int x1), (3, .int x2)] [.int (-1)] w1_ 0 0
          exact mp_iret hF hQ rfl rfl (Nat.le_of_ble_eq_true rfl) (Nat.le_of_ble_eq_true rfl) [0, 1, 2, 3, 4, 5, 6] (w' := w1_) rfl rfl ⟨(-1), rfl, (by rw [← x_7]; exact mp_oncx_3 h_15 h_18 c_20 h_32 h_35 (by (first | exact c_37 | omega)) (by (first | exact mp_o214 e_30 c_38 | omega)) (by (first | exact mp_o1619 c_39 e_30 | omega))), rfl⟩ (by first | exact mp_fd_ok mp_k_cX10_onceBehind_ok (by decide +kernel) | decide +kernel)
  · have c_20 : z_17.toInt ≠ 0 := c_20
    show mp_W E X 7 17 [(4, .int r_4), (0, .ref a0), (1, .int x0), (2, .int x1), (3, .int x2)] [] w1_ 0 0
    refine mp_run mp_k_cX10_onceBehind_ok hF mp_tabX10_ok [mp_c (.iconst (-1)) (-1)] (by decide +kernel) ?_
    show mp_W E X 7 18 [(4, .int r_4), (0, .ref a0), (1, .int x0), (2, .int x1), (3, .int x2)] [.int (-1)] w1_ 0 0
    exact mp_iret hF hQ rfl rfl (Nat.le_of_ble_eq_true rfl) (Nat.le_of_ble_eq_true rfl) [0, 1, 2, 3, 4, 5, 6] (w' := w1_) rfl rfl ⟨(-1), rfl, (by rw [← x_7]; exact mp_oncx_1 h_15 h_18 c_20), rfl⟩ (by first | exact mp_fd_ok mp_k_cX10_onceBehind_ok (by decide +kernel) | decide +kernel)
set_option maxHeartbeats 4000000 in
set_option maxRecDepth 100000 in
theorem bX10_goesOn_111 (E : mp_E) : ∀ (d : Nat) (a0 a1 a2 a3 a4 a5 a6 a7 a8 a9 a10 a11 a12 a13 a14 a15 a16 a17 a18 a19 a20 a21 a22 a23 a24 a25 : Nat) (f0 : Nat → Int32) (f1 : Nat → Int32) (f2 : Nat → Int32) (f3 : Nat → Int32) (f4 : Nat → Int32) (f5 : Nat → Int32) (f6 : Nat → Int32) (f7 : Nat → Int64) (y0 : Int32) (y1 : Int32) (y2 : Int32) (y3 : Int32) (y4 : Int32) (y5 : Int32) (y6 : Int64) (y7 : Int32) (y8 : Int32) (y9 : Int32) (y10 : Int32) (y11 : Int32) (y12 : Int32) (y13 : Int32) (y14 : Int32) (y15 : Int32) (y16 : Int32) (y17 : Int32) (y18 : Int32) (y19 : Int32) (y20 : Int32) (y21 : Int32) (x0 : Int32) (x1 : Int32) (x2 : Int32) (p0 : mp_res f0 25 5 0 0 6) (p1 : mp_res f0 25 5 1 0 99) (p2 : mp_res f0 25 5 2 0 6) (p3 : mp_res f0 25 5 3 0 10) (p4 : mp_res f0 25 5 4 0 60) (p5 : mp_all f1 180 0 20) (p6 : mp_all f2 3000 0 1) (p7 : mp_res f3 90 3 0 0 5) (p8 : mp_res f3 90 3 1 (-1) 99) (p9 : mp_res f4 300 6 0 0 5) (p10 : mp_res f4 300 6 1 0 5) (p11 : mp_res f4 300 6 3 0 99) (p12 : mp_res f4 300 6 4 0 1) (p13 : mp_all f5 6 0 5) (l_x0 : 0 ≤ x0.toInt) (u_x0 : x0.toInt ≤ 12) (l_x1 : 0 ≤ x1.toInt) (u_x1 : x1.toInt ≤ 5) (l_y1 : 0 ≤ y1.toInt) (u_y1 : y1.toInt ≤ 1600) (l_y2 : 0 ≤ y2.toInt) (u_y2 : y2.toInt ≤ 1600) (l_y3 : 0 ≤ y3.toInt) (u_y3 : y3.toInt ≤ 4) (l_y4 : 0 ≤ y4.toInt) (u_y4 : y4.toInt ≤ 1600) (l_y11 : 0 ≤ y11.toInt) (u_y11 : y11.toInt ≤ 99) (l_y12 : 0 ≤ y12.toInt) (u_y12 : y12.toInt ≤ 5) (l_y13 : 0 ≤ y13.toInt) (u_y13 : y13.toInt ≤ 12) (q0 : x0.toInt ≤ y13.toInt) (q1 : y11.toInt + y13.toInt ≤ 99) (q2 : mp_allg ((f1, f2, f3, f4, f5, f0), y14, y12.toInt) y11.toInt y13.toInt (f0 0).toInt f6 (x0.toInt.toNat + 1)) (q3 : x0.toInt = 0 ∨ x2 = mp_resv ((f1, f2, f3, f4, f5, f0), y14, y12.toInt) x1.toInt (y11.toInt + x0.toInt)), y13.toInt - x0.toInt < (d : Int) → mp_Ct E yX10_goesOn cX10_goesOn 9 none (3 + 1 * d) 0 0 (72 + 28 * d) [.ref a0, .int x0, .int x1, .int x2] [(mp_ob10 a0 y0 a9 a10 a11 a12 a13 y1 y2 y3 y4 y5 y6 y7 y8 y9 y10 a14 a1 a2 a3 a4 a5 a15 a16 y11 a6 a17 a18 a19 y12 y13 y14 a7 a8 y15 y16 a20 a21 a22 y17 y18 y19 y20 a23 a24 a25 y21), (mp_arI E a1 0 25 f0), (mp_arI E a2 0 180 f1), (mp_arI E a3 3 3000 f2), (mp_arI E a4 0 90 f3), (mp_arI E a5 0 300 f4), (mp_arI E a6 0 6 f5), (mp_arI E a7 0 78 f6), (mp_arL E a8 78 f7)] (fun v w' => ∃ h1 : Nat → Int32, ∃ h2 : Nat → Int64, v = none ∧ (mp_GP ((f1, f2, f3, f4, f5, f0), y14, y12.toInt) y11.toInt y13.toInt (f0 0).toInt f6 h1 x0.toInt.toNat x1.toInt.toNat x2) ∧ w' = [(mp_ob10 a0 y0 a9 a10 a11 a12 a13 y1 y2 y3 y4 y5 y6 y7 y8 y9 y10 a14 a1 a2 a3 a4 a5 a15 a16 y11 a6 a17 a18 a19 y12 y13 y14 a7 a8 y15 y16 a20 a21 a22 y17 y18 y19 y20 a23 a24 a25 y21), (mp_arI E a1 0 25 f0), (mp_arI E a2 0 180 f1), (mp_arI E a3 3 3000 f2), (mp_arI E a4 0 90 f3), (mp_arI E a5 0 300 f4), (mp_arI E a6 0 6 f5), (mp_arI E a7 0 78 h1), (mp_arL E a8 78 h2)]) := by
  intro d
  induction d using Nat.strongRecOn with
  | ind d ih_d =>
  intro a0 a1 a2 a3 a4 a5 a6 a7 a8 a9 a10 a11 a12 a13 a14 a15 a16 a17 a18 a19 a20 a21 a22 a23 a24 a25 f0 f1 f2 f3 f4 f5 f6 f7 y0 y1 y2 y3 y4 y5 y6 y7 y8 y9 y10 y11 y12 y13 y14 y15 y16 y17 y18 y19 y20 y21 x0 x1 x2 p0 p1 p2 p3 p4 p5 p6 p7 p8 p9 p10 p11 p12 p13 l_x0 u_x0 l_x1 u_x1 l_y1 u_y1 l_y2 u_y2 l_y3 u_y3 l_y4 u_y4 l_y11 u_y11 l_y12 u_y12 l_y13 u_y13 q0 q1 q2 q3 hd_d
  refine mp_met false (by decide) (by decide) (Nat.le_of_ble_eq_true rfl) (fun X hF hQ => ?_)
  have hF : mp_F E X (RX10, cX10_goesOn, 9, (3 + 1 * d, 0, 0, 72 + 28 * d), none, false) := hF
  let w1_ : va_W := [(mp_ob10 a0 y0 a9 a10 a11 a12 a13 y1 y2 y3 y4 y5 y6 y7 y8 y9 y10 a14 a1 a2 a3 a4 a5 a15 a16 y11 a6 a17 a18 a19 y12 y13 y14 a7 a8 y15 y16 a20 a21 a22 y17 y18 y19 y20 a23 a24 a25 y21), (mp_arI E a1 0 25 f0), (mp_arI E a2 0 180 f1), (mp_arI E a3 3 3000 f2), (mp_arI E a4 0 90 f3), (mp_arI E a5 0 300 f4), (mp_arI E a6 0 6 f5), (mp_arI E a7 0 78 f6), (mp_arL E a8 78 f7)]
  show mp_W E X 9 0 [(0, .ref a0), (1, .int x0), (2, .int x1), (3, .int x2)] [] w1_ 0 0
  refine mp_runR mp_k_cX10_goesOn_ok hF mp_tabX10_ok (nL := 9) (ini := false) rfl rfl [mp_c (.bipush 6) 6, mp_i (.iload_n 1), mp_i .imul, mp_i (.iload_n 2), mp_i .iadd, mp_i (.istore 4), mp_i (.aload_n 0), mp_h (.getfield 68) [32, 0], mp_i (.iload 4), mp_c (.ldc 142) 1000000, mp_h .iastore [7]] (by decide +kernel) ?_
  intro z_1 h_2
  have e_3 : z_1.toInt = 6 * x0.toInt := mp_mul (a := 6) (b := x0.toInt) h_2 (by decide) rfl (by (first | exact mp_o1152 l_x0 | omega)) (by (first | exact mp_o1620 u_x0 | omega))
  intro z_4 h_5
  have e_6 : z_4.toInt = z_1.toInt + x1.toInt := mp_add (a := z_1.toInt) (b := x1.toInt) h_5 rfl rfl (by (first | exact mp_o1412 l_x1 l_x0 e_3 | omega)) (by (first | exact mp_o1621 u_x1 u_x0 e_3 | omega))
  refine And.intro rfl (And.intro rfl ?_)
  refine And.intro rfl (And.intro rfl (And.intro (vp_in_iff.mpr (by (first | exact mp_o1622 l_x0 u_x0 l_x1 u_x1 e_3 e_6 | omega))) ?_))
  intro g_7 h_8
  let w2_ : va_W := [(mp_ob10 a0 y0 a9 a10 a11 a12 a13 y1 y2 y3 y4 y5 y6 y7 y8 y9 y10 a14 a1 a2 a3 a4 a5 a15 a16 y11 a6 a17 a18 a19 y12 y13 y14 a7 a8 y15 y16 a20 a21 a22 y17 y18 y19 y20 a23 a24 a25 y21), (mp_arI E a1 0 25 f0), (mp_arI E a2 0 180 f1), (mp_arI E a3 3 3000 f2), (mp_arI E a4 0 90 f3), (mp_arI E a5 0 300 f4), (mp_arI E a6 0 6 f5), (mp_arI E a7 0 78 g_7), (mp_arL E a8 78 f7)]
  show mp_W E X 9 17 [(4, .int z_4), (0, .ref a0), (1, .int x0), (2, .int x1), (3, .int x2)] [] w2_ 0 0
  refine mp_runR mp_k_cX10_goesOn_ok hF mp_tabX10_ok (nL := 9) (ini := false) rfl rfl [mp_i (.aload_n 0), mp_h (.getfield 71) [33, 0], mp_i (.iload 4), mp_cl (.lconst 0) 0, mp_h .lastore [8]] (by decide +kernel) ?_
  refine And.intro rfl (And.intro rfl ?_)
  refine And.intro rfl (And.intro rfl (And.intro (vp_in_iff.mpr (by (first | exact mp_o1622 l_x0 u_x0 l_x1 u_x1 e_3 e_6 | omega))) ?_))
  intro g_9 h_10
  let w3_ : va_W := [(mp_ob10 a0 y0 a9 a10 a11 a12 a13 y1 y2 y3 y4 y5 y6 y7 y8 y9 y10 a14 a1 a2 a3 a4 a5 a15 a16 y11 a6 a17 a18 a19 y12 y13 y14 a7 a8 y15 y16 a20 a21 a22 y17 y18 y19 y20 a23 a24 a25 y21), (mp_arI E a1 0 25 f0), (mp_arI E a2 0 180 f1), (mp_arI E a3 3 3000 f2), (mp_arI E a4 0 90 f3), (mp_arI E a5 0 300 f4), (mp_arI E a6 0 6 f5), (mp_arI E a7 0 78 g_7), (mp_arL E a8 78 g_9)]
  show mp_W E X 9 25 [(4, .int z_4), (0, .ref a0), (1, .int x0), (2, .int x1), (3, .int x2)] [] w3_ 0 0
  refine mp_runR mp_k_cX10_goesOn_ok hF mp_tabX10_ok (nL := 9) (ini := false) rfl rfl [mp_i (.iload_n 1), mp_i (.aload_n 0), mp_h (.getfield 343) [30, 0], mp_h (.if_icmp .ne 20) [50]] (by decide +kernel) ?_
  refine And.intro rfl (And.intro rfl ?_)
  refine And.intro (fun c_11 => ?_) (fun c_11 => ?_)
  · have c_11 : x0.toInt ≠ y13.toInt := c_11
    have b_11 : x0.toInt < y13.toInt := by omega
    show mp_W E X 9 50 [(4, .int z_4), (0, .ref a0), (1, .int x0), (2, .int x1), (3, .int x2)] [] w3_ 0 0
    refine mp_runR mp_k_cX10_goesOn_ok hF mp_tabX10_ok (nL := 9) (ini := false) rfl rfl [mp_c (.iconst 0) 0, mp_i (.istore 5)] (by decide +kernel) ?_
    show mp_W E X 9 53 [(5, .int 0), (4, .int z_4), (0, .ref a0), (1, .int x0), (2, .int x1), (3, .int x2)] [] w3_ 0 0
    have lp_18 : ∀ (d_19 : Nat) (i_12 : Int32) (g_13 : Nat → Int64) (g_14 : Nat → Int32), 0 ≤ i_12.toInt → i_12.toInt ≤ 6 → (mp_LG ((f1, f2, f3, f4, f5, f0), y14, y12.toInt) y11.toInt y13.toInt (f0 0).toInt f6 g_14 x0.toInt.toNat x1.toInt.toNat x2 i_12.toInt) → (f0 0).toInt - i_12.toInt ≤ (d_19 : Int) → mp_W E X 9 53 [(5, .int i_12), (4, .int z_4), (0, .ref a0), (1, .int x0), (2, .int x1), (3, .int x2)] [] [(mp_ob10 a0 y0 a9 a10 a11 a12 a13 y1 y2 y3 y4 y5 y6 y7 y8 y9 y10 a14 a1 a2 a3 a4 a5 a15 a16 y11 a6 a17 a18 a19 y12 y13 y14 a7 a8 y15 y16 a20 a21 a22 y17 y18 y19 y20 a23 a24 a25 y21), (mp_arI E a1 0 25 f0), (mp_arI E a2 0 180 f1), (mp_arI E a3 3 3000 f2), (mp_arI E a4 0 90 f3), (mp_arI E a5 0 300 f4), (mp_arI E a6 0 6 f5), (mp_arI E a7 0 78 g_14), (mp_arL E a8 78 g_13)] 0 0 := by
      intro d_19
      induction d_19 using Nat.strongRecOn with
      | ind d_19 ih_20 =>
        intro i_12 g_13 g_14 l_15 u_16 x_17 hm_21
        have e_22 := x_17.2.1
        refine mp_runR mp_k_cX10_goesOn_ok hF mp_tabX10_ok (nL := 9) (ini := false) rfl rfl [mp_i (.iload 5), mp_i (.aload_n 0), mp_h (.getfield 34) [17, 0], mp_c (.iconst 0) 0, mp_h .iaload [1], mp_h (.if_icmp .ge 149) [210]] (by decide +kernel) ?_
        refine And.intro rfl (And.intro rfl ?_)
        refine And.intro rfl (And.intro rfl (And.intro (vp_in_iff.mpr (by decide)) ?_))
        intro z_23 h_24
        have e_25 : 0 ≤ z_23.toInt ∧ z_23.toInt ≤ 6 := mp_res_ld h_24 p0 (by decide) (by decide) (by decide)
        have e_26 : z_23.toInt = (f0 0).toInt := congrArg Int32.toInt (mp_at h_24 (by decide) rfl)
        refine And.intro (fun c_27 => ?_) (fun c_27 => ?_)
        · have c_27 : z_23.toInt ≤ i_12.toInt := c_27
          let w4_ : va_W := [(mp_ob10 a0 y0 a9 a10 a11 a12 a13 y1 y2 y3 y4 y5 y6 y7 y8 y9 y10 a14 a1 a2 a3 a4 a5 a15 a16 y11 a6 a17 a18 a19 y12 y13 y14 a7 a8 y15 y16 a20 a21 a22 y17 y18 y19 y20 a23 a24 a25 y21), (mp_arI E a1 0 25 f0), (mp_arI E a2 0 180 f1), (mp_arI E a3 3 3000 f2), (mp_arI E a4 0 90 f3), (mp_arI E a5 0 300 f4), (mp_arI E a6 0 6 f5), (mp_arI E a7 0 78 g_14), (mp_arL E a8 78 g_13)]
          show mp_W E X 9 210 [(5, .int i_12), (4, .int z_4), (0, .ref a0), (1, .int x0), (2, .int x1), (3, .int x2)] [] w4_ 0 0
          exact mp_vret hF hQ rfl (Nat.le_of_ble_eq_true rfl) (Nat.le_of_ble_eq_true rfl) [0, 1, 2, 3, 4, 5, 6, 7, 8] (w' := w4_) rfl rfl ⟨g_14, g_13, rfl, (mp_LG_end x_17 (by (first | exact mp_o787 e_26 c_27 | omega))), rfl⟩ (by first | exact mp_fd_ok mp_k_cX10_goesOn_ok (by decide +kernel) | decide +kernel | (dsimp only; decide +kernel))
        · have c_27 : i_12.toInt < z_23.toInt := c_27
          let w5_ : va_W := [(mp_ob10 a0 y0 a9 a10 a11 a12 a13 y1 y2 y3 y4 y5 y6 y7 y8 y9 y10 a14 a1 a2 a3 a4 a5 a15 a16 y11 a6 a17 a18 a19 y12 y13 y14 a7 a8 y15 y16 a20 a21 a22 y17 y18 y19 y20 a23 a24 a25 y21), (mp_arI E a1 0 25 f0), (mp_arI E a2 0 180 f1), (mp_arI E a3 3 3000 f2), (mp_arI E a4 0 90 f3), (mp_arI E a5 0 300 f4), (mp_arI E a6 0 6 f5), (mp_arI E a7 0 78 g_14), (mp_arL E a8 78 g_13)]
          show mp_W E X 9 64 [(5, .int i_12), (4, .int z_4), (0, .ref a0), (1, .int x0), (2, .int x1), (3, .int x2)] [] w5_ 0 0
          refine mp_runR mp_k_cX10_goesOn_ok hF mp_tabX10_ok (nL := 9) (ini := false) rfl rfl [mp_i (.aload_n 0), mp_i (.iload_n 2), mp_i (.iload 5), mp_i (.aload_n 0), mp_h (.getfield 276) [24, 0], mp_i (.iload_n 1), mp_i .iadd, mp_c (.iconst 1) 1, mp_i .iadd] (by decide +kernel) ?_
          refine And.intro rfl (And.intro rfl ?_)
          intro z_28 h_29
          have e_30 : z_28.toInt = y11.toInt + x0.toInt := mp_add (a := y11.toInt) (b := x0.toInt) h_29 rfl rfl (by (first | exact mp_o116 l_y11 l_x0 | omega)) (by (first | exact mp_o611 q1 q0 | omega))
          intro z_31 h_32
          have e_33 : z_31.toInt = z_28.toInt + 1 := mp_add (a := z_28.toInt) (b := 1) h_32 rfl (by decide) (by (first | exact mp_o1623 l_x0 l_y11 e_30 | omega)) (by (first | exact mp_o1624 q1 q0 e_30 | omega))
          show mp_W E X 9 76 [(5, .int i_12), (4, .int z_4), (0, .ref a0), (1, .int x0), (2, .int x1), (3, .int x2)] [.int z_31, .int i_12, .int x1, .ref a0] w5_ 0 0
          refine mp_callV hF (As := [.int x1, .int i_12, .int z_31]) (rest := []) (wr := [(mp_arI E a1 0 25 f0), (mp_arI E a5 0 300 f4), (mp_arI E a6 0 6 f5), (mp_arI E a7 0 78 g_14), (mp_arL E a8 78 g_13)]) (bX10_oarsBy_108 E a0 a2 a3 a4 a9 a10 a11 a12 a13 a14 a1 a5 a15 a16 a6 a17 a18 a19 a7 a8 a20 a21 a22 a23 a24 a25 f1 f2 f3 y0 y1 y2 y3 y4 y5 y6 y7 y8 y9 y10 y11 y12 y13 y14 y15 y16 y17 y18 y19 y20 y21 x1 i_12 z_31 p5 p6 p7 p8 l_x1 u_x1 l_15 (by (first | exact mp_o1538 c_27 e_25 | omega)) (by (first | exact mp_o1625 l_x0 l_y11 e_30 e_33 | omega)) (by (first | exact mp_o1626 e_33 q1 c_11 e_30 q0 | omega)) l_y1 u_y1 l_y2 u_y2 l_y3 u_y3 l_y4 u_y4 l_y11 u_y11 l_y12 u_y12 l_y13 u_y13) mp_lkX10_346 0 rfl [0, 2, 3, 4] [1, 5, 6, 7, 8] rfl rfl rfl rfl rfl ⟨(Nat.le_trans (m := 3) (Nat.le_of_ble_eq_true rfl) (Nat.le_add_right _ _)), (Nat.le_trans (m := 72) (Nat.le_of_ble_eq_true rfl) (Nat.le_add_right _ _)), (Nat.le_of_ble_eq_true rfl), (Nat.le_of_ble_eq_true rfl)⟩ (Nat.le_of_ble_eq_true rfl) (by first | exact mp_fd_ok mp_k_cX10_goesOn_ok (by decide +kernel) | decide +kernel | (dsimp only; decide +kernel)) (fun v_34 w_35 h_36 => ?_)
          refine h_36.elim fun r_37 q_41 => q_41.elim fun e_42 q_43 => q_43.elim fun l_38 q_44 => q_44.elim fun u_39 q_45 => q_45.elim fun x_40 e_46 => ?_
          clear h_36 q_41 q_43 q_44 q_45
          subst e_42
          subst e_46
          have k_47 : r_37.toInt = mp_oarv ((f1, f2, f3, f4, f5, f0), y14, y12.toInt) ((x1.toInt.toNat : Nat) : Int) ((i_12.toInt.toNat : Nat) : Int) (y11.toInt + ((x0.toInt.toNat : Nat) : Int) + 1) := by rw [show ((x1.toInt.toNat : Nat) : Int) = x1.toInt by (first | exact mp_o156 l_x1 | omega), show ((i_12.toInt.toNat : Nat) : Int) = i_12.toInt by (first | exact mp_o156 l_15 | omega), show y11.toInt + ((x0.toInt.toNat : Nat) : Int) + 1 = z_31.toInt by (first | exact mp_o1627 l_x0 e_30 e_33 | omega)]; exact mp_oarv_of x_40
          have e_48 : 0 ≤ r_37.toInt := by rw [k_47]; exact mp_oarv_nn _ _ _ _
          let w6_ : va_W := [(mp_arI E a1 0 25 f0), (mp_arI E a5 0 300 f4), (mp_arI E a6 0 6 f5), (mp_arI E a7 0 78 g_14), (mp_arL E a8 78 g_13), (mp_ob10 a0 y0 a9 a10 a11 a12 a13 y1 y2 y3 y4 y5 y6 y7 y8 y9 y10 a14 a1 a2 a3 a4 a5 a15 a16 y11 a6 a17 a18 a19 y12 y13 y14 a7 a8 y15 y16 a20 a21 a22 y17 y18 y19 y20 a23 a24 a25 y21), (mp_arI E a2 0 180 f1), (mp_arI E a3 3 3000 f2), (mp_arI E a4 0 90 f3)]
          show mp_W E X 9 79 [(5, .int i_12), (4, .int z_4), (0, .ref a0), (1, .int x0), (2, .int x1), (3, .int x2)] [.int r_37] w6_ 0 0
          refine mp_runR mp_k_cX10_goesOn_ok hF mp_tabX10_ok (nL := 9) (ini := false) rfl rfl [mp_i (.istore 6), mp_i (.iload 6), mp_c (.ldc 142) 1000000, mp_h (.if_icmp .lt 7) [92]] (by decide +kernel) ?_
          refine And.intro (fun c_49 => ?_) (fun c_49 => ?_)
          · have c_49 : r_37.toInt < 1000000 := c_49
            show mp_W E X 9 92 [(6, .int r_37), (5, .int i_12), (4, .int z_4), (0, .ref a0), (1, .int x0), (2, .int x1), (3, .int x2)] [] w6_ 0 0
            refine mp_runR mp_k_cX10_goesOn_ok hF mp_tabX10_ok (nL := 9) (ini := false) rfl rfl [mp_i (.aload_n 0), mp_i (.iload_n 3), mp_i (.iload 5), mp_i (.aload_n 0), mp_h (.getfield 276) [24, 5], mp_i (.iload_n 1), mp_i .iadd, mp_c (.iconst 1) 1, mp_i .iadd] (by decide +kernel) ?_
            refine And.intro rfl (And.intro rfl ?_)
            intro z_50 h_51
            have e_52 : z_50.toInt = y11.toInt + x0.toInt := mp_add (a := y11.toInt) (b := x0.toInt) h_51 rfl rfl (by (first | exact mp_o116 l_y11 l_x0 | omega)) (by (first | exact mp_o611 q1 q0 | omega))
            intro z_53 h_54
            have e_55 : z_53.toInt = z_50.toInt + 1 := mp_add (a := z_50.toInt) (b := 1) h_54 rfl (by decide) (by (first | exact mp_o1623 l_x0 l_y11 e_52 | omega)) (by (first | exact mp_o1624 q1 q0 e_52 | omega))
            show mp_W E X 9 104 [(6, .int r_37), (5, .int i_12), (4, .int z_4), (0, .ref a0), (1, .int x0), (2, .int x1), (3, .int x2)] [.int z_53, .int i_12, .int x2, .ref a0] w6_ 0 0
            refine mp_callV hF (As := [.int x2, .int i_12, .int z_53]) (rest := []) (wr := [(mp_arI E a7 0 78 g_14), (mp_arL E a8 78 g_13)]) (bX10_onceBehind_110 E a0 a1 a2 a3 a4 a5 a6 a9 a10 a11 a12 a13 a14 a15 a16 a17 a18 a19 a7 a8 a20 a21 a22 a23 a24 a25 f0 f1 f2 f3 f4 f5 y0 y1 y2 y3 y4 y5 y6 y7 y8 y9 y10 y11 y12 y13 y14 y15 y16 y17 y18 y19 y20 y21 x2 i_12 z_53 p0 p1 p2 p3 p4 p5 p6 p7 p8 p9 p10 p11 p12 p13 l_y1 u_y1 l_y2 u_y2 l_y3 u_y3 l_y4 u_y4 l_y11 u_y11 l_y12 u_y12 l_y13 u_y13) mp_lkX10_349 5 rfl [5, 0, 6, 7, 8, 1, 2] [3, 4] rfl rfl rfl rfl rfl ⟨(Nat.le_trans (m := 3) (Nat.le_of_ble_eq_true rfl) (Nat.le_add_right _ _)), (Nat.le_trans (m := 72) (Nat.le_of_ble_eq_true rfl) (Nat.le_add_right _ _)), (Nat.le_of_ble_eq_true rfl), (Nat.le_of_ble_eq_true rfl)⟩ (Nat.le_of_ble_eq_true rfl) (by first | exact mp_fd_ok mp_k_cX10_goesOn_ok (by decide +kernel) | decide +kernel | (dsimp only; decide +kernel)) (fun v_56 w_57 h_58 => ?_)
            obtain ⟨r_59, rfl, x_60, rfl⟩ := h_58
            have k_61 : r_59 = mp_oncv ((f1, f2, f3, f4, f5, f0), y14, y12.toInt) x2 ((i_12.toInt.toNat : Nat) : Int) (y11.toInt + ((x0.toInt.toNat : Nat) : Int) + 1) := by rw [show ((i_12.toInt.toNat : Nat) : Int) = i_12.toInt by (first | exact mp_o156 l_15 | omega), show y11.toInt + ((x0.toInt.toNat : Nat) : Int) + 1 = z_53.toInt by (first | exact mp_o1627 l_x0 e_52 e_55 | omega)]; exact x_60
            let w7_ : va_W := [(mp_arI E a7 0 78 g_14), (mp_arL E a8 78 g_13), (mp_ob10 a0 y0 a9 a10 a11 a12 a13 y1 y2 y3 y4 y5 y6 y7 y8 y9 y10 a14 a1 a2 a3 a4 a5 a15 a16 y11 a6 a17 a18 a19 y12 y13 y14 a7 a8 y15 y16 a20 a21 a22 y17 y18 y19 y20 a23 a24 a25 y21), (mp_arI E a1 0 25 f0), (mp_arI E a2 0 180 f1), (mp_arI E a3 3 3000 f2), (mp_arI E a4 0 90 f3), (mp_arI E a5 0 300 f4), (mp_arI E a6 0 6 f5)]
            show mp_W E X 9 107 [(6, .int r_37), (5, .int i_12), (4, .int z_4), (0, .ref a0), (1, .int x0), (2, .int x1), (3, .int x2)] [.int r_59] w7_ 0 0
            refine mp_runR mp_k_cX10_goesOn_ok hF mp_tabX10_ok (nL := 9) (ini := false) rfl rfl [mp_i (.istore 7), mp_i (.iload 7), mp_c (.iconst (-1)) (-1), mp_h (.if_icmp .ne 6) [118]] (by decide +kernel) ?_
            refine And.intro (fun c_62 => ?_) (fun c_62 => ?_)
            · have c_62 : r_59.toInt ≠ (-1) := c_62
              show mp_W E X 9 118 [(7, .int r_59), (6, .int r_37), (5, .int i_12), (4, .int z_4), (0, .ref a0), (1, .int x0), (2, .int x1), (3, .int x2)] [] w7_ 0 0
              refine mp_runR mp_k_cX10_goesOn_ok hF mp_tabX10_ok (nL := 9) (ini := false) rfl rfl [mp_c (.bipush 6) 6, mp_i (.iload_n 1), mp_c (.iconst 1) 1, mp_i .iadd, mp_i .imul, mp_i (.iload 5), mp_i .iadd, mp_i (.istore 8), mp_i (.aload_n 0), mp_h (.getfield 68) [32, 2], mp_i (.iload 8), mp_h .iaload [0], mp_h (.ifCond .ge 14) [150]] (by decide +kernel) ?_
              intro z_63 h_64
              have e_65 : z_63.toInt = x0.toInt + 1 := mp_add (a := x0.toInt) (b := 1) h_64 rfl (by decide) (by (first | exact mp_o2 l_x0 | omega)) (by (first | exact mp_o535 u_x0 | omega))
              intro z_66 h_67
              have e_68 : z_66.toInt = 6 * z_63.toInt := mp_mul (a := 6) (b := z_63.toInt) h_67 (by decide) rfl (by (first | exact mp_o1628 l_x0 e_65 | omega)) (by (first | exact mp_o1629 u_x0 e_65 | omega))
              intro z_69 h_70
              have e_71 : z_69.toInt = z_66.toInt + i_12.toInt := mp_add (a := z_66.toInt) (b := i_12.toInt) h_70 rfl rfl (by (first | exact mp_o1630 l_15 l_x0 e_65 e_68 | omega)) (by (first | exact mp_o1631 u_16 u_x0 e_65 e_68 | omega))
              refine And.intro rfl (And.intro rfl ?_)
              refine And.intro rfl (And.intro rfl (And.intro (vp_in_iff.mpr (by omega)) ?_))
              intro z_72 h_73
              have e_75 : z_72.toInt = (g_14 (6 * (x0.toInt.toNat + 1) + i_12.toInt.toNat)).toInt := mp_at_i h_73 (by (first | exact mp_o1632 l_x0 l_15 e_65 e_68 e_71 | omega))
              refine And.intro (fun c_76 => ?_) (fun c_76 => ?_)
              · have c_76 : 0 ≤ z_72.toInt := c_76
                show mp_W E X 9 150 [(8, .int z_69), (7, .int r_59), (6, .int r_37), (5, .int i_12), (4, .int z_4), (0, .ref a0), (1, .int x0), (2, .int x1), (3, .int x2)] [] w7_ 0 0
                have e_77 := mp_LG_bd (t := i_12.toInt.toNat) x_17 (by omega) (by (first | exact mp_o1633 c_27 e_25 | omega)) (by (first | exact mp_o921 c_76 e_75 | omega))
                refine mp_runR mp_k_cX10_goesOn_ok hF mp_tabX10_ok (nL := 9) (ini := false) rfl rfl [mp_i (.aload_n 0), mp_h (.getfield 68) [32, 2], mp_i (.iload 8), mp_h .iaload [0], mp_i (.iload 6), mp_i .iadd, mp_i (.aload_n 0), mp_h (.getfield 68) [32, 2], mp_i (.iload 4), mp_h .iaload [0], mp_h (.if_icmp .ge 20) [187]] (by decide +kernel) ?_
                refine And.intro rfl (And.intro rfl ?_)
                refine And.intro rfl (And.intro rfl (And.intro (vp_in_iff.mpr (by omega)) ?_))
                intro z_78 h_79
                have k_80 : z_72 = z_78 := h_73.trans h_79.symm
                subst k_80
                intro z_81 h_82
                have e_83 : z_81.toInt = z_72.toInt + r_37.toInt := mp_add (a := z_72.toInt) (b := r_37.toInt) h_82 rfl rfl (by (first | exact mp_o116 c_76 l_38 | omega)) (by (first | exact mp_o1634 c_49 e_77 e_75 | omega))
                refine And.intro rfl (And.intro rfl ?_)
                refine And.intro rfl (And.intro rfl (And.intro (vp_in_iff.mpr (by (first | exact mp_o1622 l_x0 u_x0 l_x1 u_x1 e_3 e_6 | omega))) ?_))
                intro z_84 h_85
                have e_87 : z_84.toInt = (g_14 (6 * x0.toInt.toNat + x1.toInt.toNat)).toInt := mp_at_i h_85 (by (first | exact mp_o1555 l_x0 l_x1 e_3 e_6 | omega))
                refine And.intro (fun c_88 => ?_) (fun c_88 => ?_)
                · have c_88 : z_84.toInt ≤ z_81.toInt := c_88
                  show mp_W E X 9 187 [(8, .int z_69), (7, .int r_59), (6, .int r_37), (5, .int i_12), (4, .int z_4), (0, .ref a0), (1, .int x0), (2, .int x1), (3, .int x2)] [] w7_ 0 0
                  refine mp_runR mp_k_cX10_goesOn_ok hF mp_tabX10_ok (nL := 9) (ini := false) rfl rfl [mp_i (.aload_n 0), mp_h (.getfield 71) [33, 2], mp_i (.iload 4), mp_i .dup2, mp_h .laload [1], mp_i (.aload_n 0), mp_h (.getfield 71) [33, 2], mp_i (.iload 8), mp_h .laload [1], mp_i .ladd, mp_h .lastore [1]] (by decide +kernel) ?_
                  refine And.intro rfl (And.intro rfl ?_)
                  refine And.intro rfl (And.intro rfl (And.intro (vp_in_iff.mpr (by (first | exact mp_o1622 l_x0 u_x0 l_x1 u_x1 e_3 e_6 | omega))) ?_))
                  intro z_89 h_90
                  refine And.intro rfl (And.intro rfl ?_)
                  refine And.intro rfl (And.intro rfl (And.intro (vp_in_iff.mpr (by omega)) ?_))
                  intro z_91 h_92
                  intro z_93 h_94
                  refine And.intro rfl (And.intro rfl (And.intro (vp_in_iff.mpr (by (first | exact mp_o1622 l_x0 u_x0 l_x1 u_x1 e_3 e_6 | omega))) ?_))
                  intro g_95 h_96
                  let w8_ : va_W := [(mp_arI E a7 0 78 g_14), (mp_arL E a8 78 g_95), (mp_ob10 a0 y0 a9 a10 a11 a12 a13 y1 y2 y3 y4 y5 y6 y7 y8 y9 y10 a14 a1 a2 a3 a4 a5 a15 a16 y11 a6 a17 a18 a19 y12 y13 y14 a7 a8 y15 y16 a20 a21 a22 y17 y18 y19 y20 a23 a24 a25 y21), (mp_arI E a1 0 25 f0), (mp_arI E a2 0 180 f1), (mp_arI E a3 3 3000 f2), (mp_arI E a4 0 90 f3), (mp_arI E a5 0 300 f4), (mp_arI E a6 0 6 f5)]
                  show mp_W E X 9 204 [(8, .int z_69), (7, .int r_59), (6, .int r_37), (5, .int i_12), (4, .int z_4), (0, .ref a0), (1, .int x0), (2, .int x1), (3, .int x2)] [] w8_ 0 0
                  refine mp_runR mp_k_cX10_goesOn_ok hF mp_tabX10_ok (nL := 9) (ini := false) rfl rfl [mp_c (.iinc 5 1) 1, mp_h (.goto (-154)) [53]] (by decide +kernel) ?_
                  intro z_97 h_98
                  have e_99 : z_97.toInt = i_12.toInt + 1 := mp_add (a := i_12.toInt) (b := 1) h_98 rfl (by decide) (by (first | exact mp_o2 l_15 | omega)) (by (first | exact mp_o351 u_16 | omega))
                  show mp_W E X 9 53 [(5, .int z_97), (8, .int z_69), (7, .int r_59), (6, .int r_37), (4, .int z_4), (0, .ref a0), (1, .int x0), (2, .int x1), (3, .int x2)] [] w8_ 0 0
                  exact mp_sub [0, 4, 5, 6, 7, 8] rfl [2, 3, 4, 5, 6, 7, 8, 0, 1] rfl rfl (ih_20 (d_19 - 1) (by (first | exact mp_o1454 hm_21 e_26 c_27 | omega)) z_97 g_95 g_14 (by (first | exact mp_o51 l_15 e_99 | omega)) (by (first | exact mp_o1485 e_99 c_27 e_25 | omega)) (mp_LG_next x_17 (T := i_12.toInt.toNat) (by (first | exact mp_o369 l_15 | omega)) (by (first | exact e_99 | omega)) (by (first | exact mp_o921 c_76 e_75 | omega))) (by (first | exact mp_o77 hm_21 e_99 | omega)))
                · have c_88 : z_81.toInt < z_84.toInt := c_88
                  show mp_W E X 9 170 [(8, .int z_69), (7, .int r_59), (6, .int r_37), (5, .int i_12), (4, .int z_4), (0, .ref a0), (1, .int x0), (2, .int x1), (3, .int x2)] [] w7_ 0 0
                  refine mp_runR mp_k_cX10_goesOn_ok hF mp_tabX10_ok (nL := 9) (ini := false) rfl rfl [mp_i (.aload_n 0), mp_h (.getfield 68) [32, 2], mp_i (.iload 4), mp_i (.aload_n 0), mp_h (.getfield 68) [32, 2], mp_i (.iload 8), mp_h .iaload [0], mp_i (.iload 6), mp_i .iadd, mp_h .iastore [0]] (by decide +kernel) ?_
                  refine And.intro rfl (And.intro rfl ?_)
                  refine And.intro rfl (And.intro rfl ?_)
                  refine And.intro rfl (And.intro rfl (And.intro (vp_in_iff.mpr (by omega)) ?_))
                  intro z_100 h_101
                  have k_102 : z_72 = z_100 := h_73.trans h_101.symm
                  subst k_102
                  intro z_103 h_104
                  have e_105 : z_103.toInt = z_72.toInt + r_37.toInt := mp_add (a := z_72.toInt) (b := r_37.toInt) h_104 rfl rfl (by (first | exact mp_o116 c_76 l_38 | omega)) (by (first | exact mp_o1634 c_49 e_77 e_75 | omega))
                  refine And.intro rfl (And.intro rfl (And.intro (vp_in_iff.mpr (by (first | exact mp_o1622 l_x0 u_x0 l_x1 u_x1 e_3 e_6 | omega))) ?_))
                  intro g_106 h_107
                  let w9_ : va_W := [(mp_arI E a7 0 78 g_106), (mp_arL E a8 78 g_13), (mp_ob10 a0 y0 a9 a10 a11 a12 a13 y1 y2 y3 y4 y5 y6 y7 y8 y9 y10 a14 a1 a2 a3 a4 a5 a15 a16 y11 a6 a17 a18 a19 y12 y13 y14 a7 a8 y15 y16 a20 a21 a22 y17 y18 y19 y20 a23 a24 a25 y21), (mp_arI E a1 0 25 f0), (mp_arI E a2 0 180 f1), (mp_arI E a3 3 3000 f2), (mp_arI E a4 0 90 f3), (mp_arI E a5 0 300 f4), (mp_arI E a6 0 6 f5)]
                  show mp_W E X 9 187 [(8, .int z_69), (7, .int r_59), (6, .int r_37), (5, .int i_12), (4, .int z_4), (0, .ref a0), (1, .int x0), (2, .int x1), (3, .int x2)] [] w9_ 0 0
                  refine mp_runR mp_k_cX10_goesOn_ok hF mp_tabX10_ok (nL := 9) (ini := false) rfl rfl [mp_i (.aload_n 0), mp_h (.getfield 71) [33, 2], mp_i (.iload 4), mp_i .dup2, mp_h .laload [1], mp_i (.aload_n 0), mp_h (.getfield 71) [33, 2], mp_i (.iload 8), mp_h .laload [1], mp_i .ladd, mp_h .lastore [1]] (by decide +kernel) ?_
                  refine And.intro rfl (And.intro rfl ?_)
                  refine And.intro rfl (And.intro rfl (And.intro (vp_in_iff.mpr (by (first | exact mp_o1622 l_x0 u_x0 l_x1 u_x1 e_3 e_6 | omega))) ?_))
                  intro z_108 h_109
                  refine And.intro rfl (And.intro rfl ?_)
                  refine And.intro rfl (And.intro rfl (And.intro (vp_in_iff.mpr (by omega)) ?_))
                  intro z_110 h_111
                  intro z_112 h_113
                  refine And.intro rfl (And.intro rfl (And.intro (vp_in_iff.mpr (by (first | exact mp_o1622 l_x0 u_x0 l_x1 u_x1 e_3 e_6 | omega))) ?_))
                  intro g_114 h_115
                  let w10_ : va_W := [(mp_arI E a7 0 78 g_106), (mp_arL E a8 78 g_114), (mp_ob10 a0 y0 a9 a10 a11 a12 a13 y1 y2 y3 y4 y5 y6 y7 y8 y9 y10 a14 a1 a2 a3 a4 a5 a15 a16 y11 a6 a17 a18 a19 y12 y13 y14 a7 a8 y15 y16 a20 a21 a22 y17 y18 y19 y20 a23 a24 a25 y21), (mp_arI E a1 0 25 f0), (mp_arI E a2 0 180 f1), (mp_arI E a3 3 3000 f2), (mp_arI E a4 0 90 f3), (mp_arI E a5 0 300 f4), (mp_arI E a6 0 6 f5)]
                  show mp_W E X 9 204 [(8, .int z_69), (7, .int r_59), (6, .int r_37), (5, .int i_12), (4, .int z_4), (0, .ref a0), (1, .int x0), (2, .int x1), (3, .int x2)] [] w10_ 0 0
                  refine mp_runR mp_k_cX10_goesOn_ok hF mp_tabX10_ok (nL := 9) (ini := false) rfl rfl [mp_c (.iinc 5 1) 1, mp_h (.goto (-154)) [53]] (by decide +kernel) ?_
                  intro z_116 h_117
                  have e_118 : z_116.toInt = i_12.toInt + 1 := mp_add (a := i_12.toInt) (b := 1) h_117 rfl (by decide) (by (first | exact mp_o2 l_15 | omega)) (by (first | exact mp_o351 u_16 | omega))
                  show mp_W E X 9 53 [(5, .int z_116), (8, .int z_69), (7, .int r_59), (6, .int r_37), (4, .int z_4), (0, .ref a0), (1, .int x0), (2, .int x1), (3, .int x2)] [] w10_ 0 0
                  exact mp_sub [0, 4, 5, 6, 7, 8] rfl [2, 3, 4, 5, 6, 7, 8, 0, 1] rfl rfl (ih_20 (d_19 - 1) (by (first | exact mp_o1454 hm_21 e_26 c_27 | omega)) z_116 g_114 g_106 (by (first | exact mp_o51 l_15 e_118 | omega)) (by (first | exact mp_o1485 e_118 c_27 e_25 | omega)) (mp_LG_min (t := i_12.toInt.toNat) x_17 h_107 (by (first | exact mp_o1635 l_x0 l_x1 e_3 e_6 | omega)) (by (first | exact mp_o1636 u_x1 | omega)) (by (first | exact mp_o369 l_15 | omega)) (by (first | exact e_118 | omega)) (by (first | exact mp_o1607 l_15 e_26 c_27 | omega)) (by (first | exact mp_o921 c_76 e_75 | omega)) (by (first | exact mp_o1637 c_49 k_47 | omega)) (by rw [← k_61]; exact (fun q => c_62 (by rw [q]; rfl))) (by (first | exact mp_o1638 e_75 k_47 e_105 | omega)) (by (first | exact mp_o1639 e_87 c_88 e_105 e_83 | omega))) (by (first | exact mp_o77 hm_21 e_118 | omega)))
              · have c_76 : z_72.toInt < 0 := c_76
                show mp_W E X 9 139 [(8, .int z_69), (7, .int r_59), (6, .int r_37), (5, .int i_12), (4, .int z_4), (0, .ref a0), (1, .int x0), (2, .int x1), (3, .int x2)] [] w7_ 0 0
                refine mp_runR mp_k_cX10_goesOn_ok hF mp_tabX10_ok (nL := 9) (ini := false) rfl rfl [mp_i (.aload_n 0), mp_i (.iload_n 1), mp_c (.iconst 1) 1, mp_i .iadd, mp_i (.iload 5), mp_i (.iload 7)] (by decide +kernel) ?_
                intro z_119 h_120
                have e_121 : z_119.toInt = x0.toInt + 1 := mp_add (a := x0.toInt) (b := 1) h_120 rfl (by decide) (by (first | exact mp_o2 l_x0 | omega)) (by (first | exact mp_o535 u_x0 | omega))
                show mp_W E X 9 147 [(8, .int z_69), (7, .int r_59), (6, .int r_37), (5, .int i_12), (4, .int z_4), (0, .ref a0), (1, .int x0), (2, .int x1), (3, .int x2)] [.int r_59, .int i_12, .int z_119, .ref a0] w7_ 0 0
                refine mp_callV hF (As := [.int z_119, .int i_12, .int r_59]) (rest := []) (wr := []) (ih_d (d - 1) (by (first | exact mp_o1640 hd_d q0 | omega)) a0 a1 a2 a3 a4 a5 a6 a7 a8 a9 a10 a11 a12 a13 a14 a15 a16 a17 a18 a19 a20 a21 a22 a23 a24 a25 f0 f1 f2 f3 f4 f5 g_14 g_13 y0 y1 y2 y3 y4 y5 y6 y7 y8 y9 y10 y11 y12 y13 y14 y15 y16 y17 y18 y19 y20 y21 z_119 i_12 r_59 p0 p1 p2 p3 p4 p5 p6 p7 p8 p9 p10 p11 p12 p13 (by (first | exact mp_o51 l_x0 e_121 | omega)) (by omega) l_15 (by (first | exact mp_o1538 c_27 e_25 | omega)) l_y1 u_y1 l_y2 u_y2 l_y3 u_y3 l_y4 u_y4 l_y11 u_y11 l_y12 u_y12 l_y13 u_y13 (by omega) (by (first | exact q1 | omega)) (mp_LG_allg x_17 (by (first | exact mp_o1641 e_121 | omega))) (Or.inr (by rw [show i_12.toInt = ((i_12.toInt.toNat : Nat) : Int) by (first | exact mp_o369 l_15 | omega), show y11.toInt + z_119.toInt = y11.toInt + ((x0.toInt.toNat : Nat) : Int) + 1 by (first | exact mp_o1642 l_x0 e_121 | omega)]; exact k_61.trans (mp_oncv_val (by rw [← k_61]; exact (fun q => c_62 (by rw [q]; rfl)))))) (by (first | exact mp_o1643 hd_d e_121 | omega))) mp_lkX10_352 2 rfl [2, 3, 4, 5, 6, 7, 8, 0, 1] [] rfl rfl rfl rfl rfl ⟨(by show 3 + 1 * (d - 1) + 1 ≤ 3 + 1 * d; (first | exact mp_o1644 hd_d q0 | omega)), (by show 8 + (9 + 11) + (72 + 28 * (d - 1)) ≤ 72 + 28 * d; (first | exact mp_o1645 hd_d q0 | omega)), (Nat.le_of_ble_eq_true rfl), (Nat.le_of_ble_eq_true rfl)⟩ (Nat.le_of_ble_eq_true rfl) (by first | exact mp_fd_ok mp_k_cX10_goesOn_ok (by decide +kernel) | decide +kernel | (dsimp only; decide +kernel)) (fun v_122 w_123 h_124 => ?_)
                obtain ⟨g_125, g_126, rfl, x_127, rfl⟩ := h_124
                have k_128 := mp_LG_rec x_17 (by have k9 := x_127; rw [show z_119.toInt.toNat = x0.toInt.toNat + 1 by (first | exact mp_o772 l_x0 e_121 | omega)] at k9; exact k9) (by (first | exact mp_o369 l_15 | omega)) (by (first | exact mp_o1633 c_27 e_25 | omega)) (by (first | exact mp_o1636 u_x1 | omega)) (k_61.trans (mp_oncv_val (by rw [← k_61]; exact (fun q => c_62 (by rw [q]; rfl))))) (by (first | exact mp_o1646 c_76 e_75 | omega))
                have k_129 := k_128.1
                have e_130 := k_128.2
                let w11_ : va_W := [(mp_ob10 a0 y0 a9 a10 a11 a12 a13 y1 y2 y3 y4 y5 y6 y7 y8 y9 y10 a14 a1 a2 a3 a4 a5 a15 a16 y11 a6 a17 a18 a19 y12 y13 y14 a7 a8 y15 y16 a20 a21 a22 y17 y18 y19 y20 a23 a24 a25 y21), (mp_arI E a1 0 25 f0), (mp_arI E a2 0 180 f1), (mp_arI E a3 3 3000 f2), (mp_arI E a4 0 90 f3), (mp_arI E a5 0 300 f4), (mp_arI E a6 0 6 f5), (mp_arI E a7 0 78 g_125), (mp_arL E a8 78 g_126)]
                show mp_W E X 9 150 [(8, .int z_69), (7, .int r_59), (6, .int r_37), (5, .int i_12), (4, .int z_4), (0, .ref a0), (1, .int x0), (2, .int x1), (3, .int x2)] [] w11_ 0 0
                refine mp_runR mp_k_cX10_goesOn_ok hF mp_tabX10_ok (nL := 9) (ini := false) rfl rfl [mp_i (.aload_n 0), mp_h (.getfield 68) [32, 0], mp_i (.iload 8), mp_h .iaload [7], mp_i (.iload 6), mp_i .iadd, mp_i (.aload_n 0), mp_h (.getfield 68) [32, 0], mp_i (.iload 4), mp_h .iaload [7], mp_h (.if_icmp .ge 20) [187]] (by decide +kernel) ?_
                refine And.intro rfl (And.intro rfl ?_)
                refine And.intro rfl (And.intro rfl (And.intro (vp_in_iff.mpr (by omega)) ?_))
                intro z_131 h_132
                have e_134 : z_131.toInt = (g_125 (6 * (x0.toInt.toNat + 1) + i_12.toInt.toNat)).toInt := mp_at_i h_132 (by (first | exact mp_o1632 l_x0 l_15 e_65 e_68 e_71 | omega))
                intro z_135 h_136
                have e_137 : z_135.toInt = z_131.toInt + r_37.toInt := mp_add (a := z_131.toInt) (b := r_37.toInt) h_136 rfl rfl (by omega) (by omega)
                refine And.intro rfl (And.intro rfl ?_)
                refine And.intro rfl (And.intro rfl (And.intro (vp_in_iff.mpr (by (first | exact mp_o1622 l_x0 u_x0 l_x1 u_x1 e_3 e_6 | omega))) ?_))
                intro z_138 h_139
                have e_141 : z_138.toInt = (g_125 (6 * x0.toInt.toNat + x1.toInt.toNat)).toInt := mp_at_i h_139 (by (first | exact mp_o1555 l_x0 l_x1 e_3 e_6 | omega))
                refine And.intro (fun c_142 => ?_) (fun c_142 => ?_)
                · have c_142 : z_138.toInt ≤ z_135.toInt := c_142
                  show mp_W E X 9 187 [(8, .int z_69), (7, .int r_59), (6, .int r_37), (5, .int i_12), (4, .int z_4), (0, .ref a0), (1, .int x0), (2, .int x1), (3, .int x2)] [] w11_ 0 0
                  refine mp_runR mp_k_cX10_goesOn_ok hF mp_tabX10_ok (nL := 9) (ini := false) rfl rfl [mp_i (.aload_n 0), mp_h (.getfield 71) [33, 0], mp_i (.iload 4), mp_i .dup2, mp_h .laload [8], mp_i (.aload_n 0), mp_h (.getfield 71) [33, 0], mp_i (.iload 8), mp_h .laload [8], mp_i .ladd, mp_h .lastore [8]] (by decide +kernel) ?_
                  refine And.intro rfl (And.intro rfl ?_)
                  refine And.intro rfl (And.intro rfl (And.intro (vp_in_iff.mpr (by (first | exact mp_o1622 l_x0 u_x0 l_x1 u_x1 e_3 e_6 | omega))) ?_))
                  intro z_143 h_144
                  refine And.intro rfl (And.intro rfl ?_)
                  refine And.intro rfl (And.intro rfl (And.intro (vp_in_iff.mpr (by omega)) ?_))
                  intro z_145 h_146
                  intro z_147 h_148
                  refine And.intro rfl (And.intro rfl (And.intro (vp_in_iff.mpr (by (first | exact mp_o1622 l_x0 u_x0 l_x1 u_x1 e_3 e_6 | omega))) ?_))
                  intro g_149 h_150
                  let w12_ : va_W := [(mp_ob10 a0 y0 a9 a10 a11 a12 a13 y1 y2 y3 y4 y5 y6 y7 y8 y9 y10 a14 a1 a2 a3 a4 a5 a15 a16 y11 a6 a17 a18 a19 y12 y13 y14 a7 a8 y15 y16 a20 a21 a22 y17 y18 y19 y20 a23 a24 a25 y21), (mp_arI E a1 0 25 f0), (mp_arI E a2 0 180 f1), (mp_arI E a3 3 3000 f2), (mp_arI E a4 0 90 f3), (mp_arI E a5 0 300 f4), (mp_arI E a6 0 6 f5), (mp_arI E a7 0 78 g_125), (mp_arL E a8 78 g_149)]
                  show mp_W E X 9 204 [(8, .int z_69), (7, .int r_59), (6, .int r_37), (5, .int i_12), (4, .int z_4), (0, .ref a0), (1, .int x0), (2, .int x1), (3, .int x2)] [] w12_ 0 0
                  refine mp_runR mp_k_cX10_goesOn_ok hF mp_tabX10_ok (nL := 9) (ini := false) rfl rfl [mp_c (.iinc 5 1) 1, mp_h (.goto (-154)) [53]] (by decide +kernel) ?_
                  intro z_151 h_152
                  have e_153 : z_151.toInt = i_12.toInt + 1 := mp_add (a := i_12.toInt) (b := 1) h_152 rfl (by decide) (by (first | exact mp_o2 l_15 | omega)) (by (first | exact mp_o351 u_16 | omega))
                  show mp_W E X 9 53 [(5, .int z_151), (8, .int z_69), (7, .int r_59), (6, .int r_37), (4, .int z_4), (0, .ref a0), (1, .int x0), (2, .int x1), (3, .int x2)] [] w12_ 0 0
                  exact mp_sub [0, 4, 5, 6, 7, 8] rfl [0, 1, 2, 3, 4, 5, 6, 7, 8] rfl rfl (ih_20 (d_19 - 1) (by (first | exact mp_o1454 hm_21 e_26 c_27 | omega)) z_151 g_149 g_125 (by (first | exact mp_o51 l_15 e_153 | omega)) (by (first | exact mp_o1485 e_153 c_27 e_25 | omega)) (mp_LG_next k_129 (T := i_12.toInt.toNat) (by (first | exact mp_o369 l_15 | omega)) (by (first | exact e_153 | omega)) (by omega)) (by (first | exact mp_o77 hm_21 e_153 | omega)))
                · have c_142 : z_135.toInt < z_138.toInt := c_142
                  show mp_W E X 9 170 [(8, .int z_69), (7, .int r_59), (6, .int r_37), (5, .int i_12), (4, .int z_4), (0, .ref a0), (1, .int x0), (2, .int x1), (3, .int x2)] [] w11_ 0 0
                  refine mp_runR mp_k_cX10_goesOn_ok hF mp_tabX10_ok (nL := 9) (ini := false) rfl rfl [mp_i (.aload_n 0), mp_h (.getfield 68) [32, 0], mp_i (.iload 4), mp_i (.aload_n 0), mp_h (.getfield 68) [32, 0], mp_i (.iload 8), mp_h .iaload [7], mp_i (.iload 6), mp_i .iadd, mp_h .iastore [7]] (by decide +kernel) ?_
                  refine And.intro rfl (And.intro rfl ?_)
                  refine And.intro rfl (And.intro rfl ?_)
                  refine And.intro rfl (And.intro rfl (And.intro (vp_in_iff.mpr (by omega)) ?_))
                  intro z_154 h_155
                  have k_156 : z_131 = z_154 := h_132.trans h_155.symm
                  subst k_156
                  intro z_157 h_158
                  have e_159 : z_157.toInt = z_131.toInt + r_37.toInt := mp_add (a := z_131.toInt) (b := r_37.toInt) h_158 rfl rfl (by omega) (by omega)
                  refine And.intro rfl (And.intro rfl (And.intro (vp_in_iff.mpr (by (first | exact mp_o1622 l_x0 u_x0 l_x1 u_x1 e_3 e_6 | omega))) ?_))
                  intro g_160 h_161
                  let w13_ : va_W := [(mp_ob10 a0 y0 a9 a10 a11 a12 a13 y1 y2 y3 y4 y5 y6 y7 y8 y9 y10 a14 a1 a2 a3 a4 a5 a15 a16 y11 a6 a17 a18 a19 y12 y13 y14 a7 a8 y15 y16 a20 a21 a22 y17 y18 y19 y20 a23 a24 a25 y21), (mp_arI E a1 0 25 f0), (mp_arI E a2 0 180 f1), (mp_arI E a3 3 3000 f2), (mp_arI E a4 0 90 f3), (mp_arI E a5 0 300 f4), (mp_arI E a6 0 6 f5), (mp_arI E a7 0 78 g_160), (mp_arL E a8 78 g_126)]
                  show mp_W E X 9 187 [(8, .int z_69), (7, .int r_59), (6, .int r_37), (5, .int i_12), (4, .int z_4), (0, .ref a0), (1, .int x0), (2, .int x1), (3, .int x2)] [] w13_ 0 0
                  refine mp_runR mp_k_cX10_goesOn_ok hF mp_tabX10_ok (nL := 9) (ini := false) rfl rfl [mp_i (.aload_n 0), mp_h (.getfield 71) [33, 0], mp_i (.iload 4), mp_i .dup2, mp_h .laload [8], mp_i (.aload_n 0), mp_h (.getfield 71) [33, 0], mp_i (.iload 8), mp_h .laload [8], mp_i .ladd, mp_h .lastore [8]] (by decide +kernel) ?_
                  refine And.intro rfl (And.intro rfl ?_)
                  refine And.intro rfl (And.intro rfl (And.intro (vp_in_iff.mpr (by (first | exact mp_o1622 l_x0 u_x0 l_x1 u_x1 e_3 e_6 | omega))) ?_))
                  intro z_162 h_163
                  refine And.intro rfl (And.intro rfl ?_)
                  refine And.intro rfl (And.intro rfl (And.intro (vp_in_iff.mpr (by omega)) ?_))
                  intro z_164 h_165
                  intro z_166 h_167
                  refine And.intro rfl (And.intro rfl (And.intro (vp_in_iff.mpr (by (first | exact mp_o1622 l_x0 u_x0 l_x1 u_x1 e_3 e_6 | omega))) ?_))
                  intro g_168 h_169
                  let w14_ : va_W := [(mp_ob10 a0 y0 a9 a10 a11 a12 a13 y1 y2 y3 y4 y5 y6 y7 y8 y9 y10 a14 a1 a2 a3 a4 a5 a15 a16 y11 a6 a17 a18 a19 y12 y13 y14 a7 a8 y15 y16 a20 a21 a22 y17 y18 y19 y20 a23 a24 a25 y21), (mp_arI E a1 0 25 f0), (mp_arI E a2 0 180 f1), (mp_arI E a3 3 3000 f2), (mp_arI E a4 0 90 f3), (mp_arI E a5 0 300 f4), (mp_arI E a6 0 6 f5), (mp_arI E a7 0 78 g_160), (mp_arL E a8 78 g_168)]
                  show mp_W E X 9 204 [(8, .int z_69), (7, .int r_59), (6, .int r_37), (5, .int i_12), (4, .int z_4), (0, .ref a0), (1, .int x0), (2, .int x1), (3, .int x2)] [] w14_ 0 0
                  refine mp_runR mp_k_cX10_goesOn_ok hF mp_tabX10_ok (nL := 9) (ini := false) rfl rfl [mp_c (.iinc 5 1) 1, mp_h (.goto (-154)) [53]] (by decide +kernel) ?_
                  intro z_170 h_171
                  have e_172 : z_170.toInt = i_12.toInt + 1 := mp_add (a := i_12.toInt) (b := 1) h_171 rfl (by decide) (by (first | exact mp_o2 l_15 | omega)) (by (first | exact mp_o351 u_16 | omega))
                  show mp_W E X 9 53 [(5, .int z_170), (8, .int z_69), (7, .int r_59), (6, .int r_37), (4, .int z_4), (0, .ref a0), (1, .int x0), (2, .int x1), (3, .int x2)] [] w14_ 0 0
                  exact mp_sub [0, 4, 5, 6, 7, 8] rfl [0, 1, 2, 3, 4, 5, 6, 7, 8] rfl rfl (ih_20 (d_19 - 1) (by (first | exact mp_o1454 hm_21 e_26 c_27 | omega)) z_170 g_168 g_160 (by (first | exact mp_o51 l_15 e_172 | omega)) (by (first | exact mp_o1485 e_172 c_27 e_25 | omega)) (mp_LG_min (t := i_12.toInt.toNat) k_129 h_161 (by (first | exact mp_o1635 l_x0 l_x1 e_3 e_6 | omega)) (by (first | exact mp_o1636 u_x1 | omega)) (by (first | exact mp_o369 l_15 | omega)) (by (first | exact e_172 | omega)) (by (first | exact mp_o1607 l_15 e_26 c_27 | omega)) (by omega) (by (first | exact mp_o1637 c_49 k_47 | omega)) (by rw [← k_61]; exact (fun q => c_62 (by rw [q]; rfl))) (by (first | exact mp_o1638 e_134 k_47 e_159 | omega)) (by (first | exact mp_o1639 e_141 c_142 e_159 e_137 | omega))) (by (first | exact mp_o77 hm_21 e_172 | omega)))
            · have c_62 : r_59.toInt = (-1) := (congrArg Int32.toInt c_62)
              show mp_W E X 9 115 [(7, .int r_59), (6, .int r_37), (5, .int i_12), (4, .int z_4), (0, .ref a0), (1, .int x0), (2, .int x1), (3, .int x2)] [] w7_ 0 0
              refine mp_runR mp_k_cX10_goesOn_ok hF mp_tabX10_ok (nL := 9) (ini := false) rfl rfl [mp_h (.goto 89) [204], mp_c (.iinc 5 1) 1, mp_h (.goto (-154)) [53]] (by decide +kernel) ?_
              intro z_173 h_174
              have e_175 : z_173.toInt = i_12.toInt + 1 := mp_add (a := i_12.toInt) (b := 1) h_174 rfl (by decide) (by (first | exact mp_o2 l_15 | omega)) (by (first | exact mp_o351 u_16 | omega))
              show mp_W E X 9 53 [(5, .int z_173), (7, .int r_59), (6, .int r_37), (4, .int z_4), (0, .ref a0), (1, .int x0), (2, .int x1), (3, .int x2)] [] w7_ 0 0
              exact mp_sub [0, 3, 4, 5, 6, 7] rfl [2, 3, 4, 5, 6, 7, 8, 0, 1] rfl rfl (ih_20 (d_19 - 1) (by (first | exact mp_o1454 hm_21 e_26 c_27 | omega)) z_173 g_13 g_14 (by (first | exact mp_o51 l_15 e_175 | omega)) (by (first | exact mp_o1485 e_175 c_27 e_25 | omega)) (mp_LG_skip x_17 (T := i_12.toInt.toNat) (by (first | exact mp_o369 l_15 | omega)) (by (first | exact e_175 | omega)) (fun q => q.2 (k_61.symm.trans (Int32.toInt_inj.mp c_62)))) (by (first | exact mp_o77 hm_21 e_175 | omega)))
          · have c_49 : 1000000 ≤ r_37.toInt := c_49
            show mp_W E X 9 88 [(6, .int r_37), (5, .int i_12), (4, .int z_4), (0, .ref a0), (1, .int x0), (2, .int x1), (3, .int x2)] [] w6_ 0 0
            refine mp_runR mp_k_cX10_goesOn_ok hF mp_tabX10_ok (nL := 9) (ini := false) rfl rfl [mp_c (.iconst (-1)) (-1), mp_h (.goto 18) [107], mp_i (.istore 7), mp_i (.iload 7), mp_c (.iconst (-1)) (-1), mp_h (.if_icmp .ne 6) [118]] (by decide +kernel) ?_
            refine And.intro (fun c_176 => absurd c_176 (by decide)) (fun _ => ?_)
            show mp_W E X 9 115 [(7, .int (-1)), (6, .int r_37), (5, .int i_12), (4, .int z_4), (0, .ref a0), (1, .int x0), (2, .int x1), (3, .int x2)] [] w6_ 0 0
            refine mp_runR mp_k_cX10_goesOn_ok hF mp_tabX10_ok (nL := 9) (ini := false) rfl rfl [mp_h (.goto 89) [204], mp_c (.iinc 5 1) 1, mp_h (.goto (-154)) [53]] (by decide +kernel) ?_
            intro z_177 h_178
            have e_179 : z_177.toInt = i_12.toInt + 1 := mp_add (a := i_12.toInt) (b := 1) h_178 rfl (by decide) (by (first | exact mp_o2 l_15 | omega)) (by (first | exact mp_o351 u_16 | omega))
            show mp_W E X 9 53 [(5, .int z_177), (7, .int (-1)), (6, .int r_37), (4, .int z_4), (0, .ref a0), (1, .int x0), (2, .int x1), (3, .int x2)] [] w6_ 0 0
            exact mp_sub [0, 3, 4, 5, 6, 7] rfl [5, 0, 6, 7, 8, 1, 2, 3, 4] rfl rfl (ih_20 (d_19 - 1) (by (first | exact mp_o1454 hm_21 e_26 c_27 | omega)) z_177 g_13 g_14 (by (first | exact mp_o51 l_15 e_179 | omega)) (by (first | exact mp_o1485 e_179 c_27 e_25 | omega)) (mp_LG_skip x_17 (T := i_12.toInt.toNat) (by (first | exact mp_o369 l_15 | omega)) (by (first | exact e_179 | omega)) (fun q => absurd q.1 (by omega))) (by (first | exact mp_o77 hm_21 e_179 | omega)))
    exact mp_sub [0, 1, 2, 3, 4, 5] rfl [0, 1, 2, 3, 4, 5, 6, 7, 8] rfl rfl (lp_18 _ 0 g_9 g_7 (by decide) (by decide) (mp_LG_0 q2 h_8 (by (first | exact mp_o1635 l_x0 l_x1 e_3 e_6 | omega)) (by (first | exact mp_o1636 u_x1 | omega)) (by decide) rfl) (Int.self_le_toNat _))
  · have c_11 : x0.toInt = y13.toInt := (congrArg Int32.toInt c_11)
    show mp_W E X 9 33 [(4, .int z_4), (0, .ref a0), (1, .int x0), (2, .int x1), (3, .int x2)] [] w3_ 0 0
    refine mp_runR mp_k_cX10_goesOn_ok hF mp_tabX10_ok (nL := 9) (ini := false) rfl rfl [mp_i (.aload_n 0), mp_h (.getfield 68) [32, 0], mp_i (.iload 4), mp_c (.iconst 0) 0, mp_h .iastore [7]] (by decide +kernel) ?_
    refine And.intro rfl (And.intro rfl ?_)
    refine And.intro rfl (And.intro rfl (And.intro (vp_in_iff.mpr (by (first | exact mp_o1622 l_x0 u_x0 l_x1 u_x1 e_3 e_6 | omega))) ?_))
    intro g_180 h_181
    let w15_ : va_W := [(mp_ob10 a0 y0 a9 a10 a11 a12 a13 y1 y2 y3 y4 y5 y6 y7 y8 y9 y10 a14 a1 a2 a3 a4 a5 a15 a16 y11 a6 a17 a18 a19 y12 y13 y14 a7 a8 y15 y16 a20 a21 a22 y17 y18 y19 y20 a23 a24 a25 y21), (mp_arI E a1 0 25 f0), (mp_arI E a2 0 180 f1), (mp_arI E a3 3 3000 f2), (mp_arI E a4 0 90 f3), (mp_arI E a5 0 300 f4), (mp_arI E a6 0 6 f5), (mp_arI E a7 0 78 g_180), (mp_arL E a8 78 g_9)]
    show mp_W E X 9 41 [(4, .int z_4), (0, .ref a0), (1, .int x0), (2, .int x1), (3, .int x2)] [] w15_ 0 0
    refine mp_runR mp_k_cX10_goesOn_ok hF mp_tabX10_ok (nL := 9) (ini := false) rfl rfl [mp_i (.aload_n 0), mp_h (.getfield 71) [33, 0], mp_i (.iload 4), mp_cl (.lconst 1) 1, mp_h .lastore [8]] (by decide +kernel) ?_
    refine And.intro rfl (And.intro rfl ?_)
    refine And.intro rfl (And.intro rfl (And.intro (vp_in_iff.mpr (by (first | exact mp_o1622 l_x0 u_x0 l_x1 u_x1 e_3 e_6 | omega))) ?_))
    intro g_182 h_183
    let w16_ : va_W := [(mp_ob10 a0 y0 a9 a10 a11 a12 a13 y1 y2 y3 y4 y5 y6 y7 y8 y9 y10 a14 a1 a2 a3 a4 a5 a15 a16 y11 a6 a17 a18 a19 y12 y13 y14 a7 a8 y15 y16 a20 a21 a22 y17 y18 y19 y20 a23 a24 a25 y21), (mp_arI E a1 0 25 f0), (mp_arI E a2 0 180 f1), (mp_arI E a3 3 3000 f2), (mp_arI E a4 0 90 f3), (mp_arI E a5 0 300 f4), (mp_arI E a6 0 6 f5), (mp_arI E a7 0 78 g_180), (mp_arL E a8 78 g_182)]
    show mp_W E X 9 49 [(4, .int z_4), (0, .ref a0), (1, .int x0), (2, .int x1), (3, .int x2)] [] w16_ 0 0
    exact mp_vret hF hQ rfl (Nat.le_of_ble_eq_true rfl) (Nat.le_of_ble_eq_true rfl) [0, 1, 2, 3, 4, 5, 6, 7, 8] (w' := w16_) rfl rfl ⟨g_180, g_182, rfl, (mp_GP_last q2 h_8 (by (first | exact mp_o1635 l_x0 l_x1 e_3 e_6 | omega)) h_181 (by (first | exact mp_o1635 l_x0 l_x1 e_3 e_6 | omega)) (by (first | exact mp_o1636 u_x1 | omega)) (by decide) (by (first | exact mp_o1647 l_x0 c_11 | omega))), rfl⟩ (by first | exact mp_fd_ok mp_k_cX10_goesOn_ok (by decide +kernel) | decide +kernel | (dsimp only; decide +kernel))
set_option maxHeartbeats 4000000 in
set_option maxRecDepth 100000 in
theorem bX10_plansFor_112 (E : mp_E) (a0 a1 a2 a3 a4 a5 a6 a7 a8 a9 a10 a11 a12 a13 a14 a15 a16 a17 a18 a19 a20 a21 a22 a23 a24 a25 : Nat) (f0 : Nat → Int32) (f1 : Nat → Int32) (f2 : Nat → Int32) (f3 : Nat → Int32) (f4 : Nat → Int32) (f5 : Nat → Int32) (f6 : Nat → Int32) (f7 : Nat → Int32) (f8 : Nat → Int64) (y0 : Int32) (y1 : Int32) (y2 : Int32) (y3 : Int32) (y4 : Int32) (y5 : Int32) (y6 : Int64) (y7 : Int32) (y8 : Int32) (y9 : Int32) (y10 : Int32) (y11 : Int32) (y12 : Int32) (y13 : Int32) (y14 : Int32) (y15 : Int32) (y16 : Int32) (y17 : Int32) (y18 : Int32) (y19 : Int32) (y20 : Int32) (y21 : Int32) (x0 : Int32) (x1 : Int32) (x2 : Int32) (p0 : mp_res f0 25 5 0 0 6) (p1 : mp_res f0 25 5 1 0 99) (p2 : mp_res f0 25 5 2 0 6) (p3 : mp_res f0 25 5 3 0 10) (p4 : mp_res f0 25 5 4 0 60) (p5 : mp_all f1 180 0 20) (p6 : mp_all f2 3000 0 1) (p7 : mp_res f3 90 3 0 0 5) (p8 : mp_res f3 90 3 1 (-1) 99) (p9 : mp_res f4 300 6 0 0 5) (p10 : mp_res f4 300 6 1 0 5) (p11 : mp_res f4 300 6 3 0 99) (p12 : mp_res f4 300 6 4 0 1) (p13 : mp_all f5 6 0 5) (l_x0 : 0 ≤ x0.toInt) (u_x0 : x0.toInt ≤ 5) (l_x1 : 1 ≤ x1.toInt) (u_x1 : x1.toInt ≤ 12) (l_y1 : 0 ≤ y1.toInt) (u_y1 : y1.toInt ≤ 1600) (l_y2 : 0 ≤ y2.toInt) (u_y2 : y2.toInt ≤ 1600) (l_y3 : 0 ≤ y3.toInt) (u_y3 : y3.toInt ≤ 4) (l_y4 : 0 ≤ y4.toInt) (u_y4 : y4.toInt ≤ 1600) (l_y11 : 0 ≤ y11.toInt) (u_y11 : y11.toInt ≤ 99) (l_y12 : 0 ≤ y12.toInt) (u_y12 : y12.toInt ≤ 5) (l_y13 : 0 ≤ y13.toInt) (u_y13 : y13.toInt ≤ 12) (q0 : y11.toInt + x1.toInt ≤ 99) : mp_Ct E yX10_plansFor cX10_plansFor 5 (some FieldType.int) 17 0 0 464 [.ref a0, .int x0, .int x1, .int x2] [(mp_ob10 a0 y0 a10 a11 a12 a13 a14 y1 y2 y3 y4 y5 y6 y7 y8 y9 y10 a15 a1 a2 a3 a4 a5 a16 a17 y11 a6 a18 a19 a7 y12 y13 y14 a8 a9 y15 y16 a20 a21 a22 y17 y18 y19 y20 a23 a24 a25 y21), (mp_arI E a1 0 25 f0), (mp_arI E a2 0 180 f1), (mp_arI E a3 3 3000 f2), (mp_arI E a4 0 90 f3), (mp_arI E a5 0 300 f4), (mp_arI E a6 0 6 f5), (mp_arI E a7 3 1500 f6), (mp_arI E a8 0 78 f7), (mp_arL E a9 78 f8)] (fun v w' => ∃ h1 : Nat → Int32, ∃ h2 : Nat → Int64, ∃ r3 : Int32, v = some (.int r3) ∧ (∃ once : Int32, once = mp_onw x2 f6 f4 f3 y11.toInt (f0 3).toInt.toNat ∧ mp_good ((f1, f2, f3, f4, f5, f0), x2, x0.toInt) y11.toInt x1.toInt (f0 0).toInt h1 0 (f5 (x0.toInt.toNat)).toInt.toNat once ∧ mp_allg ((f1, f2, f3, f4, f5, f0), x2, x0.toInt) y11.toInt x1.toInt (f0 0).toInt h1 1 ∧ r3.toInt = (h1 (f5 (x0.toInt.toNat)).toInt.toNat).toInt) ∧ w' = [(mp_ob10 a0 y0 a10 a11 a12 a13 a14 y1 y2 y3 y4 y5 y6 y7 y8 y9 y10 a15 a1 a2 a3 a4 a5 a16 a17 y11 a6 a18 a19 a7 x0 x1 x2 a8 a9 y15 y16 a20 a21 a22 y17 y18 y19 y20 a23 a24 a25 y21), (mp_arI E a1 0 25 f0), (mp_arI E a2 0 180 f1), (mp_arI E a3 3 3000 f2), (mp_arI E a4 0 90 f3), (mp_arI E a5 0 300 f4), (mp_arI E a6 0 6 f5), (mp_arI E a7 3 1500 f6), (mp_arI E a8 0 78 h1), (mp_arL E a9 78 h2)]) := by
  refine mp_met false (by decide) (by decide) (Nat.le_of_ble_eq_true rfl) (fun X hF hQ => ?_)
  have hF : mp_F E X (RX10, cX10_plansFor, 5, (17, 0, 0, 464), (some FieldType.int), false) := hF
  let w1_ : va_W := [(mp_ob10 a0 y0 a10 a11 a12 a13 a14 y1 y2 y3 y4 y5 y6 y7 y8 y9 y10 a15 a1 a2 a3 a4 a5 a16 a17 y11 a6 a18 a19 a7 y12 y13 y14 a8 a9 y15 y16 a20 a21 a22 y17 y18 y19 y20 a23 a24 a25 y21), (mp_arI E a1 0 25 f0), (mp_arI E a2 0 180 f1), (mp_arI E a3 3 3000 f2), (mp_arI E a4 0 90 f3), (mp_arI E a5 0 300 f4), (mp_arI E a6 0 6 f5), (mp_arI E a7 3 1500 f6), (mp_arI E a8 0 78 f7), (mp_arL E a9 78 f8)]
  show mp_W E X 5 0 [(0, .ref a0), (1, .int x0), (2, .int x1), (3, .int x2)] [] w1_ 0 0
  refine mp_run mp_k_cX10_plansFor_ok hF mp_tabX10_ok [mp_i (.aload_n 0), mp_i (.iload_n 1), mp_h (.putfield 337) [29, 0]] (by decide +kernel) ?_
  refine And.intro rfl (And.intro rfl (And.intro rfl (And.intro rfl (And.intro (Nat.le_of_ble_eq_true rfl) ?_))))
  let w2_ : va_W := [(mp_ob10 a0 y0 a10 a11 a12 a13 a14 y1 y2 y3 y4 y5 y6 y7 y8 y9 y10 a15 a1 a2 a3 a4 a5 a16 a17 y11 a6 a18 a19 a7 x0 y13 y14 a8 a9 y15 y16 a20 a21 a22 y17 y18 y19 y20 a23 a24 a25 y21), (mp_arI E a1 0 25 f0), (mp_arI E a2 0 180 f1), (mp_arI E a3 3 3000 f2), (mp_arI E a4 0 90 f3), (mp_arI E a5 0 300 f4), (mp_arI E a6 0 6 f5), (mp_arI E a7 3 1500 f6), (mp_arI E a8 0 78 f7), (mp_arL E a9 78 f8)]
  show mp_W E X 5 5 [(0, .ref a0), (1, .int x0), (2, .int x1), (3, .int x2)] [] w2_ 0 0
  refine mp_run mp_k_cX10_plansFor_ok hF mp_tabX10_ok [mp_i (.aload_n 0), mp_i (.iload_n 2), mp_h (.putfield 343) [30, 0]] (by decide +kernel) ?_
  refine And.intro rfl (And.intro rfl (And.intro rfl (And.intro rfl (And.intro (Nat.le_of_ble_eq_true rfl) ?_))))
  let w3_ : va_W := [(mp_ob10 a0 y0 a10 a11 a12 a13 a14 y1 y2 y3 y4 y5 y6 y7 y8 y9 y10 a15 a1 a2 a3 a4 a5 a16 a17 y11 a6 a18 a19 a7 x0 x1 y14 a8 a9 y15 y16 a20 a21 a22 y17 y18 y19 y20 a23 a24 a25 y21), (mp_arI E a1 0 25 f0), (mp_arI E a2 0 180 f1), (mp_arI E a3 3 3000 f2), (mp_arI E a4 0 90 f3), (mp_arI E a5 0 300 f4), (mp_arI E a6 0 6 f5), (mp_arI E a7 3 1500 f6), (mp_arI E a8 0 78 f7), (mp_arL E a9 78 f8)]
  show mp_W E X 5 10 [(0, .ref a0), (1, .int x0), (2, .int x1), (3, .int x2)] [] w3_ 0 0
  refine mp_run mp_k_cX10_plansFor_ok hF mp_tabX10_ok [mp_i (.aload_n 0), mp_i (.iload_n 3), mp_h (.putfield 334) [31, 0]] (by decide +kernel) ?_
  refine And.intro rfl (And.intro rfl (And.intro rfl (And.intro rfl (And.intro (Nat.le_of_ble_eq_true rfl) ?_))))
  let w4_ : va_W := [(mp_ob10 a0 y0 a10 a11 a12 a13 a14 y1 y2 y3 y4 y5 y6 y7 y8 y9 y10 a15 a1 a2 a3 a4 a5 a16 a17 y11 a6 a18 a19 a7 x0 x1 x2 a8 a9 y15 y16 a20 a21 a22 y17 y18 y19 y20 a23 a24 a25 y21), (mp_arI E a1 0 25 f0), (mp_arI E a2 0 180 f1), (mp_arI E a3 3 3000 f2), (mp_arI E a4 0 90 f3), (mp_arI E a5 0 300 f4), (mp_arI E a6 0 6 f5), (mp_arI E a7 3 1500 f6), (mp_arI E a8 0 78 f7), (mp_arL E a9 78 f8)]
  show mp_W E X 5 15 [(0, .ref a0), (1, .int x0), (2, .int x1), (3, .int x2)] [] w4_ 0 0
  refine mp_run mp_k_cX10_plansFor_ok hF mp_tabX10_ok [mp_c (.iconst 0) 0, mp_i (.istore 4)] (by decide +kernel) ?_
  show mp_W E X 5 18 [(4, .int 0), (0, .ref a0), (1, .int x0), (2, .int x1), (3, .int x2)] [] w4_ 0 0
  have lp_6 : ∀ (d_7 : Nat) (i_1 : Int32) (g_2 : Nat → Int32), 0 ≤ i_1.toInt → i_1.toInt ≤ 78 → (∀ j : Nat, (j : Int) < i_1.toInt → (g_2 j).toInt = -1) → -(i_1.toInt) + 78 ≤ (d_7 : Int) → mp_W E X 5 18 [(4, .int i_1), (0, .ref a0), (1, .int x0), (2, .int x1), (3, .int x2)] [] [(mp_ob10 a0 y0 a10 a11 a12 a13 a14 y1 y2 y3 y4 y5 y6 y7 y8 y9 y10 a15 a1 a2 a3 a4 a5 a16 a17 y11 a6 a18 a19 a7 x0 x1 x2 a8 a9 y15 y16 a20 a21 a22 y17 y18 y19 y20 a23 a24 a25 y21), (mp_arI E a1 0 25 f0), (mp_arI E a2 0 180 f1), (mp_arI E a3 3 3000 f2), (mp_arI E a4 0 90 f3), (mp_arI E a5 0 300 f4), (mp_arI E a6 0 6 f5), (mp_arI E a7 3 1500 f6), (mp_arI E a8 0 78 g_2), (mp_arL E a9 78 f8)] 0 0 := by
    intro d_7
    induction d_7 using Nat.strongRecOn with
    | ind d_7 ih_8 =>
      intro i_1 g_2 l_3 u_4 x_5 hm_9
      refine mp_run mp_k_cX10_plansFor_ok hF mp_tabX10_ok [mp_i (.iload 4), mp_c (.bipush 78) 78, mp_h (.if_icmp .ge 17) [39]] (by decide +kernel) ?_
      refine And.intro (fun c_10 => ?_) (fun c_10 => ?_)
      · have c_10 : 78 ≤ i_1.toInt := c_10
        let w5_ : va_W := [(mp_ob10 a0 y0 a10 a11 a12 a13 a14 y1 y2 y3 y4 y5 y6 y7 y8 y9 y10 a15 a1 a2 a3 a4 a5 a16 a17 y11 a6 a18 a19 a7 x0 x1 x2 a8 a9 y15 y16 a20 a21 a22 y17 y18 y19 y20 a23 a24 a25 y21), (mp_arI E a1 0 25 f0), (mp_arI E a2 0 180 f1), (mp_arI E a3 3 3000 f2), (mp_arI E a4 0 90 f3), (mp_arI E a5 0 300 f4), (mp_arI E a6 0 6 f5), (mp_arI E a7 3 1500 f6), (mp_arI E a8 0 78 g_2), (mp_arL E a9 78 f8)]
        show mp_W E X 5 39 [(4, .int i_1), (0, .ref a0), (1, .int x0), (2, .int x1), (3, .int x2)] [] w5_ 0 0
        refine mp_run mp_k_cX10_plansFor_ok hF mp_tabX10_ok [mp_i (.aload_n 0), mp_c (.iconst 0) 0, mp_i (.aload_n 0), mp_h (.getfield 56) [25, 0], mp_i (.iload_n 1), mp_h .iaload [6], mp_i (.aload_n 0)] (by decide +kernel) ?_
        refine And.intro rfl (And.intro rfl ?_)
        refine And.intro rfl (And.intro rfl (And.intro (vp_in_iff.mpr (by (first | exact mp_o230 l_x0 u_x0 | omega))) ?_))
        intro z_11 h_12
        have e_13 : 0 ≤ z_11.toInt ∧ z_11.toInt ≤ 5 := mp_all_ld h_12 p13 (by (first | exact l_x0 | omega)) (by (first | exact mp_o475 u_x0 | omega))
        have e_14 : z_11.toInt = (f5 (x0.toInt.toNat)).toInt := mp_at_i h_12 (by (first | exact mp_o369 l_x0 | omega))
        show mp_W E X 5 48 [(4, .int i_1), (0, .ref a0), (1, .int x0), (2, .int x1), (3, .int x2)] [.ref a0, .int z_11, .int 0, .ref a0] w5_ 0 0
        refine mp_callV hF (As := []) (rest := [.int z_11, .int 0, .ref a0]) (wr := [(mp_arI E a2 0 180 f1), (mp_arI E a3 3 3000 f2), (mp_arI E a6 0 6 f5), (mp_arI E a8 0 78 g_2), (mp_arL E a9 78 f8)]) (bX10_onceNow_107 E a0 a1 a4 a5 a7 a10 a11 a12 a13 a14 a15 a2 a3 a16 a17 a6 a18 a19 a8 a9 a20 a21 a22 a23 a24 a25 f0 f3 f4 f6 y0 y1 y2 y3 y4 y5 y6 y7 y8 y9 y10 y11 x0 x1 x2 y15 y16 y17 y18 y19 y20 y21 p0 p1 p2 p3 p4 p7 p8 p9 p10 p11 p12 l_y1 u_y1 l_y2 u_y2 l_y3 u_y3 l_y4 u_y4 l_y11 u_y11 l_x0 u_x0 (by (first | exact mp_o254 l_x1 | omega)) u_x1) mp_lkX10_356 0 rfl [0, 1, 4, 5, 7] [2, 3, 6, 8, 9] rfl rfl rfl rfl rfl ⟨(Nat.le_of_ble_eq_true rfl), (Nat.le_of_ble_eq_true rfl), (Nat.le_of_ble_eq_true rfl), (Nat.le_of_ble_eq_true rfl)⟩ (Nat.le_of_ble_eq_true rfl) (by first | exact mp_fd_ok mp_k_cX10_plansFor_ok (by decide +kernel) | decide +kernel) (fun v_15 w_16 h_17 => ?_)
        refine h_17.elim fun r_18 q_22 => q_22.elim fun e_23 q_24 => q_24.elim fun l_19 q_25 => q_25.elim fun u_20 q_26 => q_26.elim fun x_21 e_27 => ?_
        clear h_17 q_22 q_24 q_25 q_26
        subst e_23
        subst e_27
        let w6_ : va_W := [(mp_arI E a2 0 180 f1), (mp_arI E a3 3 3000 f2), (mp_arI E a6 0 6 f5), (mp_arI E a8 0 78 g_2), (mp_arL E a9 78 f8), (mp_ob10 a0 y0 a10 a11 a12 a13 a14 y1 y2 y3 y4 y5 y6 y7 y8 y9 y10 a15 a1 a2 a3 a4 a5 a16 a17 y11 a6 a18 a19 a7 x0 x1 x2 a8 a9 y15 y16 a20 a21 a22 y17 y18 y19 y20 a23 a24 a25 y21), (mp_arI E a1 0 25 f0), (mp_arI E a4 0 90 f3), (mp_arI E a5 0 300 f4), (mp_arI E a7 3 1500 f6)]
        show mp_W E X 5 51 [(4, .int i_1), (0, .ref a0), (1, .int x0), (2, .int x1), (3, .int x2)] [.int r_18, .int z_11, .int 0, .ref a0] w6_ 0 0
        refine mp_callV hF (As := [.int 0, .int z_11, .int r_18]) (rest := []) (wr := [(mp_arI E a7 3 1500 f6)]) (bX10_goesOn_111 E 13 a0 a1 a2 a3 a4 a5 a6 a8 a9 a10 a11 a12 a13 a14 a15 a16 a17 a18 a19 a7 a20 a21 a22 a23 a24 a25 f0 f1 f2 f3 f4 f5 g_2 f8 y0 y1 y2 y3 y4 y5 y6 y7 y8 y9 y10 y11 x0 x1 x2 y15 y16 y17 y18 y19 y20 y21 0 z_11 r_18 p0 p1 p2 p3 p4 p5 p6 p7 p8 p9 p10 p11 p12 p13 (by decide) (by decide) e_13.1 e_13.2 l_y1 u_y1 l_y2 u_y2 l_y3 u_y3 l_y4 u_y4 l_y11 u_y11 l_x0 u_x0 (by (first | exact mp_o254 l_x1 | omega)) u_x1 (by have h8 : (0 : Int32).toInt = 0 := rfl; (first | exact mp_o1648 l_x1 h8 | omega)) (by (first | exact q0 | omega)) (mp_allg_none (fun j hj => x_5 j (by (first | exact mp_o1649 c_10 hj | omega))) (by (first | exact u_x1 | omega))) (Or.inl (by decide)) (by first | fail | (have h8 : (0 : Int32).toInt = 0 := rfl; (first | exact mp_o1650 u_x1 h8 | omega)))) mp_lkX10_352 5 rfl [5, 6, 0, 1, 7, 8, 2, 3, 4] [9] rfl rfl rfl rfl rfl ⟨(Nat.le_of_ble_eq_true rfl), (Nat.le_of_ble_eq_true rfl), (Nat.le_of_ble_eq_true rfl), (Nat.le_of_ble_eq_true rfl)⟩ (Nat.le_of_ble_eq_true rfl) (by first | exact mp_fd_ok mp_k_cX10_plansFor_ok (by decide +kernel) | decide +kernel) (fun v_28 w_29 h_30 => ?_)
        obtain ⟨g_31, g_32, rfl, x_33, rfl⟩ := h_30
        let w7_ : va_W := [(mp_arI E a7 3 1500 f6), (mp_ob10 a0 y0 a10 a11 a12 a13 a14 y1 y2 y3 y4 y5 y6 y7 y8 y9 y10 a15 a1 a2 a3 a4 a5 a16 a17 y11 a6 a18 a19 a7 x0 x1 x2 a8 a9 y15 y16 a20 a21 a22 y17 y18 y19 y20 a23 a24 a25 y21), (mp_arI E a1 0 25 f0), (mp_arI E a2 0 180 f1), (mp_arI E a3 3 3000 f2), (mp_arI E a4 0 90 f3), (mp_arI E a5 0 300 f4), (mp_arI E a6 0 6 f5), (mp_arI E a8 0 78 g_31), (mp_arL E a9 78 g_32)]
        show mp_W E X 5 54 [(4, .int i_1), (0, .ref a0), (1, .int x0), (2, .int x1), (3, .int x2)] [] w7_ 0 0
        refine mp_run mp_k_cX10_plansFor_ok hF mp_tabX10_ok [mp_i (.aload_n 0), mp_h (.getfield 68) [32, 1], mp_i (.aload_n 0), mp_h (.getfield 56) [25, 1], mp_i (.iload_n 1), mp_h .iaload [7], mp_h .iaload [8]] (by decide +kernel) ?_
        refine And.intro rfl (And.intro rfl ?_)
        refine And.intro rfl (And.intro rfl ?_)
        refine And.intro rfl (And.intro rfl (And.intro (vp_in_iff.mpr (by (first | exact mp_o230 l_x0 u_x0 | omega))) ?_))
        intro z_34 h_35
        have k_36 : z_11 = z_34 := h_12.trans h_35.symm
        subst k_36
        refine And.intro rfl (And.intro rfl (And.intro (vp_in_iff.mpr (by (first | exact mp_o1651 e_13 | omega))) ?_))
        intro z_37 h_38
        have e_39 : z_37.toInt = (g_31 ((f5 (x0.toInt.toNat)).toInt.toNat)).toInt := mp_at_i h_38 (by (first | exact mp_o1652 e_13 e_14 | omega))
        show mp_W E X 5 65 [(4, .int i_1), (0, .ref a0), (1, .int x0), (2, .int x1), (3, .int x2)] [.int z_37] w7_ 0 0
        exact mp_iret hF hQ rfl rfl (Nat.le_of_ble_eq_true rfl) (Nat.le_of_ble_eq_true rfl) [1, 2, 3, 4, 5, 6, 7, 0, 8, 9] (w' := [(mp_ob10 a0 y0 a10 a11 a12 a13 a14 y1 y2 y3 y4 y5 y6 y7 y8 y9 y10 a15 a1 a2 a3 a4 a5 a16 a17 y11 a6 a18 a19 a7 x0 x1 x2 a8 a9 y15 y16 a20 a21 a22 y17 y18 y19 y20 a23 a24 a25 y21), (mp_arI E a1 0 25 f0), (mp_arI E a2 0 180 f1), (mp_arI E a3 3 3000 f2), (mp_arI E a4 0 90 f3), (mp_arI E a5 0 300 f4), (mp_arI E a6 0 6 f5), (mp_arI E a7 3 1500 f6), (mp_arI E a8 0 78 g_31), (mp_arL E a9 78 g_32)]) rfl rfl ⟨g_31, g_32, z_37, rfl, ⟨_, x_21, (mp_GP_0 x_33 (by decide) (by (first | exact mp_o1568 e_14 | omega))).1, (mp_GP_0 (w := (f5 (x0.toInt.toNat)).toInt.toNat) x_33 (by decide) (by (first | exact mp_o1568 e_14 | omega))).2, by (first | exact e_39 | omega)⟩, rfl⟩ (by first | exact mp_fd_ok mp_k_cX10_plansFor_ok (by decide +kernel) | decide +kernel)
      · have c_10 : i_1.toInt < 78 := c_10
        let w8_ : va_W := [(mp_ob10 a0 y0 a10 a11 a12 a13 a14 y1 y2 y3 y4 y5 y6 y7 y8 y9 y10 a15 a1 a2 a3 a4 a5 a16 a17 y11 a6 a18 a19 a7 x0 x1 x2 a8 a9 y15 y16 a20 a21 a22 y17 y18 y19 y20 a23 a24 a25 y21), (mp_arI E a1 0 25 f0), (mp_arI E a2 0 180 f1), (mp_arI E a3 3 3000 f2), (mp_arI E a4 0 90 f3), (mp_arI E a5 0 300 f4), (mp_arI E a6 0 6 f5), (mp_arI E a7 3 1500 f6), (mp_arI E a8 0 78 g_2), (mp_arL E a9 78 f8)]
        show mp_W E X 5 25 [(4, .int i_1), (0, .ref a0), (1, .int x0), (2, .int x1), (3, .int x2)] [] w8_ 0 0
        refine mp_run mp_k_cX10_plansFor_ok hF mp_tabX10_ok [mp_i (.aload_n 0), mp_h (.getfield 68) [32, 0], mp_i (.iload 4), mp_c (.iconst (-1)) (-1), mp_h .iastore [8]] (by decide +kernel) ?_
        refine And.intro rfl (And.intro rfl ?_)
        refine And.intro rfl (And.intro rfl (And.intro (vp_in_iff.mpr (by (first | exact mp_o1653 l_3 c_10 | omega))) ?_))
        intro g_40 h_41
        let w9_ : va_W := [(mp_ob10 a0 y0 a10 a11 a12 a13 a14 y1 y2 y3 y4 y5 y6 y7 y8 y9 y10 a15 a1 a2 a3 a4 a5 a16 a17 y11 a6 a18 a19 a7 x0 x1 x2 a8 a9 y15 y16 a20 a21 a22 y17 y18 y19 y20 a23 a24 a25 y21), (mp_arI E a1 0 25 f0), (mp_arI E a2 0 180 f1), (mp_arI E a3 3 3000 f2), (mp_arI E a4 0 90 f3), (mp_arI E a5 0 300 f4), (mp_arI E a6 0 6 f5), (mp_arI E a7 3 1500 f6), (mp_arI E a8 0 78 g_40), (mp_arL E a9 78 f8)]
        show mp_W E X 5 33 [(4, .int i_1), (0, .ref a0), (1, .int x0), (2, .int x1), (3, .int x2)] [] w9_ 0 0
        refine mp_run mp_k_cX10_plansFor_ok hF mp_tabX10_ok [mp_c (.iinc 4 1) 1, mp_h (.goto (-18)) [18]] (by decide +kernel) ?_
        intro z_42 h_43
        have e_44 : z_42.toInt = i_1.toInt + 1 := mp_add (a := i_1.toInt) (b := 1) h_43 rfl (by decide) (by (first | exact mp_o2 l_3 | omega)) (by (first | exact mp_o1654 c_10 | omega))
        show mp_W E X 5 18 [(4, .int z_42), (0, .ref a0), (1, .int x0), (2, .int x1), (3, .int x2)] [] w9_ 0 0
        exact mp_sub [0, 1, 2, 3, 4] rfl [0, 1, 2, 3, 4, 5, 6, 7, 8, 9] rfl rfl (ih_8 (d_7 - 1) (by (first | exact mp_o1655 hm_9 c_10 | omega)) z_42 g_40 (by (first | exact mp_o51 l_3 e_44 | omega)) (by (first | exact mp_o1656 c_10 e_44 | omega)) (mp_m1_s x_5 h_41 (by (first | exact mp_o53 l_3 e_44 | omega)) (by (first | exact mp_o19 | omega))) (by (first | exact mp_o1657 hm_9 e_44 | omega)))
  exact mp_sub [0, 1, 2, 3, 4] rfl [0, 1, 2, 3, 4, 5, 6, 7, 8, 9] rfl rfl (lp_6 _ 0 f7 (by decide) (by decide) (mp_m1_0 (by decide)) (Int.self_le_toNat _))
set_option maxHeartbeats 4000000 in
set_option maxRecDepth 100000 in
theorem bX10_keeps_113 (E : mp_E) (a0 a1 a2 a3 a4 a5 a6 a7 a8 a9 a10 a11 a12 a13 a14 a15 a16 a17 a18 a19 a20 a21 a22 a23 a24 a25 : Nat) (f0 : Nat → Int32) (f1 : Nat → Int32) (f2 : Nat → Int32) (f3 : Nat → Int32) (f4 : Nat → Int32) (f5 : Nat → Int32) (f6 : Nat → Int32) (f7 : Nat → Int32) (f8 : Nat → Int32) (f9 : Nat → Int32) (f10 : Nat → Int32) (f11 : Nat → Int64) (y0 : Int32) (y1 : Int32) (y2 : Int32) (y3 : Int32) (y4 : Int32) (y5 : Int32) (y6 : Int64) (y7 : Int32) (y8 : Int32) (y9 : Int32) (y10 : Int32) (y11 : Int32) (y12 : Int32) (y13 : Int32) (y14 : Int32) (y15 : Int32) (y16 : Int32) (y17 : Int32) (y18 : Int32) (y19 : Int32) (y20 : Int32) (y21 : Int32) (x0 : Int32) (x1 : Int32) (p0 : mp_res f0 25 5 0 0 6) (p1 : mp_res f0 25 5 1 0 99) (p2 : mp_res f0 25 5 2 0 6) (p3 : mp_res f0 25 5 3 0 10) (p4 : mp_res f0 25 5 4 0 60) (p5 : mp_all f1 180 0 20) (p6 : mp_all f2 3000 0 1) (p7 : mp_res f3 90 3 0 0 5) (p8 : mp_res f3 90 3 1 (-1) 99) (p9 : mp_res f4 300 6 0 0 5) (p10 : mp_res f4 300 6 1 0 5) (p11 : mp_res f4 300 6 3 0 99) (p12 : mp_res f4 300 6 4 0 1) (p13 : mp_actm f5) (p14 : mp_all f6 6 0 5) (l_y1 : 0 ≤ y1.toInt) (u_y1 : y1.toInt ≤ 1600) (l_y2 : 0 ≤ y2.toInt) (u_y2 : y2.toInt ≤ 1600) (l_y3 : 0 ≤ y3.toInt) (u_y3 : y3.toInt ≤ 4) (l_y4 : 0 ≤ y4.toInt) (u_y4 : y4.toInt ≤ 1600) (l_y11 : 0 ≤ y11.toInt) (u_y11 : y11.toInt ≤ 99) (l_y12 : 0 ≤ y12.toInt) (u_y12 : y12.toInt ≤ 5) (l_y13 : 0 ≤ y13.toInt) (u_y13 : y13.toInt ≤ 12) (q0 : (f0 1).toInt + mp_k200 f5 (f0 4).toInt ≤ 99) : mp_Ct E yX10_keeps cX10_keeps 4 (some FieldType.int) 18 0 0 488 [.ref a0, .int x0, .int x1] [(mp_ob10 a0 y0 a13 a14 a15 a16 a17 y1 y2 y3 y4 y5 y6 y7 y8 y9 y10 a18 a1 a2 a3 a4 a5 a6 a19 y11 a7 a8 a9 a10 y12 y13 y14 a11 a12 y15 y16 a20 a21 a22 y17 y18 y19 y20 a23 a24 a25 y21), (mp_arI E a1 0 25 f0), (mp_arI E a2 0 180 f1), (mp_arI E a3 3 3000 f2), (mp_arI E a4 0 90 f3), (mp_arI E a5 0 300 f4), (mp_arI E a6 0 300 f5), (mp_arI E a7 0 6 f6), (mp_arI E a8 0 6 f7), (mp_arI E a9 0 6 f8), (mp_arI E a10 3 1500 f9), (mp_arI E a11 0 78 f10), (mp_arL E a12 78 f11)] (fun v w' => ∃ r1 : Int32, ∃ r2 : Int32, ∃ r3 : Int32, ∃ r4 : Int32, ∃ h5 : Nat → Int32, ∃ h6 : Nat → Int32, ∃ h7 : Nat → Int32, ∃ h8 : Nat → Int32, ∃ h9 : Nat → Int32, ∃ h10 : Nat → Int64, ∃ r11 : Int32, v = some (.int r11) ∧ 0 ≤ r1.toInt ∧ r1.toInt ≤ 99 ∧ 0 ≤ r2.toInt ∧ r2.toInt ≤ 5 ∧ 0 ≤ r3.toInt ∧ r3.toInt ≤ 12 ∧ r11.toInt ≤ 999999 ∧ mp_all h5 6 0 5 ∧ w' = [(mp_ob10 a0 0 a13 a14 a15 a16 a17 y1 y2 y3 y4 y5 y6 y7 y8 y9 y10 a18 a1 a2 a3 a4 a5 a6 a19 r1 a7 a8 a9 a10 r2 r3 r4 a11 a12 y15 y16 a20 a21 a22 y17 y18 y19 y20 a23 a24 a25 y21), (mp_arI E a1 0 25 f0), (mp_arI E a2 0 180 f1), (mp_arI E a3 3 3000 f2), (mp_arI E a4 0 90 f3), (mp_arI E a5 0 300 f4), (mp_arI E a6 0 300 f5), (mp_arI E a7 0 6 h5), (mp_arI E a8 0 6 h6), (mp_arI E a9 0 6 h7), (mp_arI E a10 3 1500 h8), (mp_arI E a11 0 78 h9), (mp_arL E a12 78 h10)]) := by
  refine mp_met false (by decide) (by decide) (Nat.le_of_ble_eq_true rfl) (fun X hF hQ => ?_)
  have hF : mp_F E X (RX10, cX10_keeps, 4, (18, 0, 0, 488), (some FieldType.int), false) := hF
  let w1_ : va_W := [(mp_ob10 a0 y0 a13 a14 a15 a16 a17 y1 y2 y3 y4 y5 y6 y7 y8 y9 y10 a18 a1 a2 a3 a4 a5 a6 a19 y11 a7 a8 a9 a10 y12 y13 y14 a11 a12 y15 y16 a20 a21 a22 y17 y18 y19 y20 a23 a24 a25 y21), (mp_arI E a1 0 25 f0), (mp_arI E a2 0 180 f1), (mp_arI E a3 3 3000 f2), (mp_arI E a4 0 90 f3), (mp_arI E a5 0 300 f4), (mp_arI E a6 0 300 f5), (mp_arI E a7 0 6 f6), (mp_arI E a8 0 6 f7), (mp_arI E a9 0 6 f8), (mp_arI E a10 3 1500 f9), (mp_arI E a11 0 78 f10), (mp_arL E a12 78 f11)]
  show mp_W E X 4 0 [(0, .ref a0), (1, .int x0), (2, .int x1)] [] w1_ 0 0
  refine mp_run mp_k_cX10_keeps_ok hF mp_tabX10_ok [mp_i (.aload_n 0), mp_c (.iconst 0) 0, mp_h (.putfield 92) [0, 0]] (by decide +kernel) ?_
  refine And.intro rfl (And.intro rfl (And.intro rfl (And.intro rfl (And.intro (Nat.le_of_ble_eq_true rfl) ?_))))
  let w2_ : va_W := [(mp_ob10 a0 0 a13 a14 a15 a16 a17 y1 y2 y3 y4 y5 y6 y7 y8 y9 y10 a18 a1 a2 a3 a4 a5 a6 a19 y11 a7 a8 a9 a10 y12 y13 y14 a11 a12 y15 y16 a20 a21 a22 y17 y18 y19 y20 a23 a24 a25 y21), (mp_arI E a1 0 25 f0), (mp_arI E a2 0 180 f1), (mp_arI E a3 3 3000 f2), (mp_arI E a4 0 90 f3), (mp_arI E a5 0 300 f4), (mp_arI E a6 0 300 f5), (mp_arI E a7 0 6 f6), (mp_arI E a8 0 6 f7), (mp_arI E a9 0 6 f8), (mp_arI E a10 3 1500 f9), (mp_arI E a11 0 78 f10), (mp_arL E a12 78 f11)]
  show mp_W E X 4 5 [(0, .ref a0), (1, .int x0), (2, .int x1)] [] w2_ 0 0
  refine mp_run mp_k_cX10_keeps_ok hF mp_tabX10_ok [mp_i (.aload_n 0), mp_i (.iload_n 1), mp_i (.iload_n 2)] (by decide +kernel) ?_
  show mp_W E X 4 8 [(0, .ref a0), (1, .int x0), (2, .int x1)] [.int x1, .int x0, .ref a0] w2_ 0 0
  refine mp_callV hF (As := [.int x0, .int x1]) (rest := []) (wr := [(mp_arI E a3 3 3000 f2), (mp_arI E a5 0 300 f4), (mp_arI E a11 0 78 f10), (mp_arL E a12 78 f11)]) (bX10_isPlan_105 E a0 a1 a2 a4 a6 a7 a8 a9 a10 a13 a14 a15 a16 a17 a18 a3 a5 a19 a11 a12 a20 a21 a22 a23 a24 a25 f0 f1 f3 f5 f6 f7 f8 f9 0 y1 y2 y3 y4 y5 y6 y7 y8 y9 y10 y11 y12 y13 y14 y15 y16 y17 y18 y19 y20 y21 x0 x1 p0 p1 p2 p3 p4 p5 p7 p8 p13 p14 l_y1 u_y1 l_y2 u_y2 l_y3 u_y3 l_y4 u_y4 l_y11 u_y11 l_y12 u_y12 l_y13 u_y13 (by (first | exact q0 | omega))) mp_lkX10_361 0 rfl [0, 1, 2, 4, 6, 7, 8, 9, 10] [3, 5, 11, 12] rfl rfl rfl rfl rfl ⟨(Nat.le_of_ble_eq_true rfl), (Nat.le_of_ble_eq_true rfl), (Nat.le_of_ble_eq_true rfl), (Nat.le_of_ble_eq_true rfl)⟩ (Nat.le_of_ble_eq_true rfl) (by first | exact mp_fd_ok mp_k_cX10_keeps_ok (by decide +kernel) | decide +kernel) (fun v_1 w_2 h_3 => ?_)
  refine h_3.elim (fun q_28 => ?_) (fun q_29 => ?_)
  · skip
    refine q_28.elim fun r_4 q_30 => q_30.elim fun g_5 q_31 => q_31.elim fun g_6 q_32 => q_32.elim fun g_7 q_33 => q_33.elim fun g_8 q_34 => q_34.elim fun e_35 q_36 => q_36.elim fun l_9 q_37 => q_37.elim fun u_10 q_38 => q_38.elim fun p_11 e_39 => ?_
    clear h_3 q_28 q_30 q_31 q_32 q_33 q_34 q_36 q_37 q_38
    subst e_35
    subst e_39
    let w3_ : va_W := [(mp_arI E a3 3 3000 f2), (mp_arI E a5 0 300 f4), (mp_arI E a11 0 78 f10), (mp_arL E a12 78 f11), (mp_ob10 a0 0 a13 a14 a15 a16 a17 y1 y2 y3 y4 y5 y6 y7 y8 y9 y10 a18 a1 a2 a3 a4 a5 a6 a19 r_4 a7 a8 a9 a10 y12 y13 y14 a11 a12 y15 y16 a20 a21 a22 y17 y18 y19 y20 a23 a24 a25 y21), (mp_arI E a1 0 25 f0), (mp_arI E a2 0 180 f1), (mp_arI E a4 0 90 f3), (mp_arI E a6 0 300 f5), (mp_arI E a7 0 6 g_5), (mp_arI E a8 0 6 g_6), (mp_arI E a9 0 6 g_7), (mp_arI E a10 3 1500 g_8)]
    show mp_W E X 4 11 [(0, .ref a0), (1, .int x0), (2, .int x1)] [.int 0] w3_ 0 0
    refine mp_run mp_k_cX10_keeps_ok hF mp_tabX10_ok [mp_h (.ifCond .ne 6) [17]] (by decide +kernel) ?_
    refine And.intro (fun c_40 => absurd c_40 (by decide)) (fun _ => ?_)
    show mp_W E X 4 14 [(0, .ref a0), (1, .int x0), (2, .int x1)] [] w3_ 0 0
    refine mp_run mp_k_cX10_keeps_ok hF mp_tabX10_ok [mp_c (.bipush (-2)) (-2)] (by decide +kernel) ?_
    show mp_W E X 4 16 [(0, .ref a0), (1, .int x0), (2, .int x1)] [.int (-2)] w3_ 0 0
    exact mp_iret hF hQ rfl rfl (Nat.le_of_ble_eq_true rfl) (Nat.le_of_ble_eq_true rfl) [4, 5, 6, 0, 7, 1, 8, 9, 10, 11, 12, 2, 3] (w' := [(mp_ob10 a0 0 a13 a14 a15 a16 a17 y1 y2 y3 y4 y5 y6 y7 y8 y9 y10 a18 a1 a2 a3 a4 a5 a6 a19 r_4 a7 a8 a9 a10 y12 y13 y14 a11 a12 y15 y16 a20 a21 a22 y17 y18 y19 y20 a23 a24 a25 y21), (mp_arI E a1 0 25 f0), (mp_arI E a2 0 180 f1), (mp_arI E a3 3 3000 f2), (mp_arI E a4 0 90 f3), (mp_arI E a5 0 300 f4), (mp_arI E a6 0 300 f5), (mp_arI E a7 0 6 g_5), (mp_arI E a8 0 6 g_6), (mp_arI E a9 0 6 g_7), (mp_arI E a10 3 1500 g_8), (mp_arI E a11 0 78 f10), (mp_arL E a12 78 f11)]) rfl rfl ⟨r_4, y12, y13, y14, g_5, g_6, g_7, g_8, f10, f11, (-2), rfl, l_9, u_10, l_y12, u_y12, l_y13, u_y13, (by decide), p_11, rfl⟩ (by first | exact mp_fd_ok mp_k_cX10_keeps_ok (by decide +kernel) | decide +kernel)
  · skip
    refine q_29.elim fun r_12 q_41 => q_41.elim fun g_13 q_42 => q_42.elim fun g_14 q_43 => q_43.elim fun g_15 q_44 => q_44.elim fun g_16 q_45 => q_45.elim fun e_46 q_47 => q_47.elim fun c_17 q_48 => q_48.elim fun c_18 q_49 => q_49.elim fun c_19 q_50 => q_50.elim fun l_20 q_51 => q_51.elim fun u_21 q_52 => q_52.elim fun p_22 q_53 => q_53.elim fun x_23 q_54 => q_54.elim fun x_24 q_55 => q_55.elim fun x_25 q_56 => q_56.elim fun x_26 q_57 => q_57.elim fun x_27 e_58 => ?_
    clear h_3 q_29 q_41 q_42 q_43 q_44 q_45 q_47 q_48 q_49 q_50 q_51 q_52 q_53 q_54 q_55 q_56 q_57
    subst e_46
    subst e_58
    have c_17 : 0 ≤ x0.toInt := c_17
    have c_18 : 1 ≤ x1.toInt := c_18
    have c_19 : x1.toInt ≤ 12 := c_19
    let w4_ : va_W := [(mp_arI E a3 3 3000 f2), (mp_arI E a5 0 300 f4), (mp_arI E a11 0 78 f10), (mp_arL E a12 78 f11), (mp_ob10 a0 0 a13 a14 a15 a16 a17 y1 y2 y3 y4 y5 y6 y7 y8 y9 y10 a18 a1 a2 a3 a4 a5 a6 a19 r_12 a7 a8 a9 a10 y12 y13 y14 a11 a12 y15 y16 a20 a21 a22 y17 y18 y19 y20 a23 a24 a25 y21), (mp_arI E a1 0 25 f0), (mp_arI E a2 0 180 f1), (mp_arI E a4 0 90 f3), (mp_arI E a6 0 300 f5), (mp_arI E a7 0 6 g_13), (mp_arI E a8 0 6 g_14), (mp_arI E a9 0 6 g_15), (mp_arI E a10 3 1500 g_16)]
    show mp_W E X 4 11 [(0, .ref a0), (1, .int x0), (2, .int x1)] [.int 1] w4_ 0 0
    refine mp_run mp_k_cX10_keeps_ok hF mp_tabX10_ok [mp_h (.ifCond .ne 6) [17]] (by decide +kernel) ?_
    refine And.intro (fun _ => ?_) (fun c_59 => absurd c_59 (by decide))
    show mp_W E X 4 17 [(0, .ref a0), (1, .int x0), (2, .int x1)] [] w4_ 0 0
    refine mp_run mp_k_cX10_keeps_ok hF mp_tabX10_ok [mp_i (.aload_n 0), mp_i (.iload_n 1), mp_i (.iload_n 2), mp_i (.aload_n 0), mp_i (.iload_n 1)] (by decide +kernel) ?_
    show mp_W E X 4 22 [(0, .ref a0), (1, .int x0), (2, .int x1)] [.int x0, .ref a0, .int x1, .int x0, .ref a0] w4_ 0 0
    refine mp_callV hF (As := [.int x0]) (rest := [.int x1, .int x0, .ref a0]) (wr := [(mp_arI E a3 3 3000 f2), (mp_arI E a11 0 78 f10), (mp_arL E a12 78 f11), (mp_arI E a2 0 180 f1), (mp_arI E a6 0 300 f5), (mp_arI E a7 0 6 g_13), (mp_arI E a8 0 6 g_14), (mp_arI E a9 0 6 g_15)]) (bX10_keptNow_106 E a0 a1 a4 a5 a10 a13 a14 a15 a16 a17 a18 a2 a3 a6 a19 a7 a8 a9 a11 a12 a20 a21 a22 a23 a24 a25 f0 f3 f4 g_16 0 y1 y2 y3 y4 y5 y6 y7 y8 y9 y10 r_12 y12 y13 y14 y15 y16 y17 y18 y19 y20 y21 x0 p0 p1 p2 p3 p4 p7 p8 p9 p10 p11 p12 l_y1 u_y1 l_y2 u_y2 l_y3 u_y3 l_y4 u_y4 l_20 (by (first | exact mp_o1658 u_21 | omega)) l_y12 u_y12 l_y13 u_y13) mp_lkX10_364 4 rfl [4, 5, 7, 1, 12] [0, 2, 3, 6, 8, 9, 10, 11] rfl rfl rfl rfl rfl ⟨(Nat.le_of_ble_eq_true rfl), (Nat.le_of_ble_eq_true rfl), (Nat.le_of_ble_eq_true rfl), (Nat.le_of_ble_eq_true rfl)⟩ (Nat.le_of_ble_eq_true rfl) (by first | exact mp_fd_ok mp_k_cX10_keeps_ok (by decide +kernel) | decide +kernel) (fun v_60 w_61 h_62 => ?_)
    obtain ⟨r_63, rfl, l_64, u_65, rfl⟩ := h_62
    let w5_ : va_W := [(mp_arI E a3 3 3000 f2), (mp_arI E a11 0 78 f10), (mp_arL E a12 78 f11), (mp_arI E a2 0 180 f1), (mp_arI E a6 0 300 f5), (mp_arI E a7 0 6 g_13), (mp_arI E a8 0 6 g_14), (mp_arI E a9 0 6 g_15), (mp_ob10 a0 0 a13 a14 a15 a16 a17 y1 y2 y3 y4 y5 y6 y7 y8 y9 y10 a18 a1 a2 a3 a4 a5 a6 a19 r_12 a7 a8 a9 a10 y12 y13 y14 a11 a12 y15 y16 a20 a21 a22 y17 y18 y19 y20 a23 a24 a25 y21), (mp_arI E a1 0 25 f0), (mp_arI E a4 0 90 f3), (mp_arI E a5 0 300 f4), (mp_arI E a10 3 1500 g_16)]
    show mp_W E X 4 25 [(0, .ref a0), (1, .int x0), (2, .int x1)] [.int r_63, .int x1, .int x0, .ref a0] w5_ 0 0
    refine mp_callV hF (As := [.int x0, .int x1, .int r_63]) (rest := []) (wr := [(mp_arI E a6 0 300 f5), (mp_arI E a8 0 6 g_14), (mp_arI E a9 0 6 g_15)]) (bX10_plansFor_112 E a0 a1 a2 a3 a4 a5 a7 a10 a11 a12 a13 a14 a15 a16 a17 a18 a6 a19 a8 a9 a20 a21 a22 a23 a24 a25 f0 f1 f2 f3 f4 g_13 g_16 f10 f11 0 y1 y2 y3 y4 y5 y6 y7 y8 y9 y10 r_12 y12 y13 y14 y15 y16 y17 y18 y19 y20 y21 x0 x1 r_63 p0 p1 p2 p3 p4 p5 p6 p7 p8 p9 p10 p11 p12 p_22 (by (first | exact c_17 | omega)) (by (first | exact x_24 | omega)) (by (first | exact c_18 | omega)) (by (first | exact c_19 | omega)) l_y1 u_y1 l_y2 u_y2 l_y3 u_y3 l_y4 u_y4 l_20 (by (first | exact mp_o1658 u_21 | omega)) l_y12 u_y12 l_y13 u_y13 (by first | (first | exact x_27 | omega) | (show r_12.toInt + x1.toInt ≤ 99; omega))) mp_lkX10_367 8 rfl [8, 9, 3, 0, 10, 11, 5, 12, 1, 2] [4, 6, 7] rfl rfl rfl rfl rfl ⟨(Nat.le_of_ble_eq_true rfl), (Nat.le_of_ble_eq_true rfl), (Nat.le_of_ble_eq_true rfl), (Nat.le_of_ble_eq_true rfl)⟩ (Nat.le_of_ble_eq_true rfl) (by first | exact mp_fd_ok mp_k_cX10_keeps_ok (by decide +kernel) | decide +kernel) (fun v_66 w_67 h_68 => ?_)
    refine h_68.elim fun g_69 q_73 => q_73.elim fun g_70 q_74 => q_74.elim fun r_71 q_75 => q_75.elim fun e_76 q_77 => q_77.elim fun x_72 e_78 => ?_
    clear h_68 q_73 q_74 q_75 q_77
    subst e_76
    subst e_78
    let w6_ : va_W := [(mp_arI E a6 0 300 f5), (mp_arI E a8 0 6 g_14), (mp_arI E a9 0 6 g_15), (mp_ob10 a0 0 a13 a14 a15 a16 a17 y1 y2 y3 y4 y5 y6 y7 y8 y9 y10 a18 a1 a2 a3 a4 a5 a6 a19 r_12 a7 a8 a9 a10 x0 x1 r_63 a11 a12 y15 y16 a20 a21 a22 y17 y18 y19 y20 a23 a24 a25 y21), (mp_arI E a1 0 25 f0), (mp_arI E a2 0 180 f1), (mp_arI E a3 3 3000 f2), (mp_arI E a4 0 90 f3), (mp_arI E a5 0 300 f4), (mp_arI E a7 0 6 g_13), (mp_arI E a10 3 1500 g_16), (mp_arI E a11 0 78 g_69), (mp_arL E a12 78 g_70)]
    show mp_W E X 4 28 [(0, .ref a0), (1, .int x0), (2, .int x1)] [.int r_71] w6_ 0 0
    refine mp_run mp_k_cX10_keeps_ok hF mp_tabX10_ok [mp_i (.istore_n 3), mp_i (.iload_n 3), mp_c (.ldc 142) 1000000, mp_h (.if_icmp .lt 7) [39]] (by decide +kernel) ?_
    refine And.intro (fun c_79 => ?_) (fun c_79 => ?_)
    · have c_79 : r_71.toInt < 1000000 := c_79
      show mp_W E X 4 39 [(3, .int r_71), (0, .ref a0), (1, .int x0), (2, .int x1)] [] w6_ 0 0
      refine mp_run mp_k_cX10_keeps_ok hF mp_tabX10_ok [mp_i (.iload_n 3)] (by decide +kernel) ?_
      show mp_W E X 4 40 [(3, .int r_71), (0, .ref a0), (1, .int x0), (2, .int x1)] [.int r_71] w6_ 0 0
      exact mp_iret hF hQ rfl rfl (Nat.le_of_ble_eq_true rfl) (Nat.le_of_ble_eq_true rfl) [3, 4, 5, 6, 7, 8, 0, 9, 1, 2, 10, 11, 12] (w' := [(mp_ob10 a0 0 a13 a14 a15 a16 a17 y1 y2 y3 y4 y5 y6 y7 y8 y9 y10 a18 a1 a2 a3 a4 a5 a6 a19 r_12 a7 a8 a9 a10 x0 x1 r_63 a11 a12 y15 y16 a20 a21 a22 y17 y18 y19 y20 a23 a24 a25 y21), (mp_arI E a1 0 25 f0), (mp_arI E a2 0 180 f1), (mp_arI E a3 3 3000 f2), (mp_arI E a4 0 90 f3), (mp_arI E a5 0 300 f4), (mp_arI E a6 0 300 f5), (mp_arI E a7 0 6 g_13), (mp_arI E a8 0 6 g_14), (mp_arI E a9 0 6 g_15), (mp_arI E a10 3 1500 g_16), (mp_arI E a11 0 78 g_69), (mp_arL E a12 78 g_70)]) rfl rfl ⟨r_12, x0, x1, r_63, g_13, g_14, g_15, g_16, g_69, g_70, r_71, rfl, l_20, (by (first | exact mp_o1658 u_21 | omega)), (by (first | exact c_17 | omega)), (by (first | exact x_24 | omega)), (by (first | exact mp_o254 c_18 | omega)), (by (first | exact c_19 | omega)), (by omega), p_22, rfl⟩ (by first | exact mp_fd_ok mp_k_cX10_keeps_ok (by decide +kernel) | decide +kernel)
    · have c_79 : 1000000 ≤ r_71.toInt := c_79
      show mp_W E X 4 35 [(3, .int r_71), (0, .ref a0), (1, .int x0), (2, .int x1)] [] w6_ 0 0
      refine mp_run mp_k_cX10_keeps_ok hF mp_tabX10_ok [mp_c (.iconst (-1)) (-1), mp_h (.goto 4) [40]] (by decide +kernel) ?_
      show mp_W E X 4 40 [(3, .int r_71), (0, .ref a0), (1, .int x0), (2, .int x1)] [.int (-1)] w6_ 0 0
      exact mp_iret hF hQ rfl rfl (Nat.le_of_ble_eq_true rfl) (Nat.le_of_ble_eq_true rfl) [3, 4, 5, 6, 7, 8, 0, 9, 1, 2, 10, 11, 12] (w' := [(mp_ob10 a0 0 a13 a14 a15 a16 a17 y1 y2 y3 y4 y5 y6 y7 y8 y9 y10 a18 a1 a2 a3 a4 a5 a6 a19 r_12 a7 a8 a9 a10 x0 x1 r_63 a11 a12 y15 y16 a20 a21 a22 y17 y18 y19 y20 a23 a24 a25 y21), (mp_arI E a1 0 25 f0), (mp_arI E a2 0 180 f1), (mp_arI E a3 3 3000 f2), (mp_arI E a4 0 90 f3), (mp_arI E a5 0 300 f4), (mp_arI E a6 0 300 f5), (mp_arI E a7 0 6 g_13), (mp_arI E a8 0 6 g_14), (mp_arI E a9 0 6 g_15), (mp_arI E a10 3 1500 g_16), (mp_arI E a11 0 78 g_69), (mp_arL E a12 78 g_70)]) rfl rfl ⟨r_12, x0, x1, r_63, g_13, g_14, g_15, g_16, g_69, g_70, (-1), rfl, l_20, (by (first | exact mp_o1658 u_21 | omega)), (by (first | exact c_17 | omega)), (by (first | exact x_24 | omega)), (by (first | exact mp_o254 c_18 | omega)), (by (first | exact c_19 | omega)), (by decide), p_22, rfl⟩ (by first | exact mp_fd_ok mp_k_cX10_keeps_ok (by decide +kernel) | decide +kernel)
set_option maxHeartbeats 4000000 in
set_option maxRecDepth 100000 in
theorem bX10_isStep_114 (E : mp_E) (a0 a1 a2 a3 a4 a5 a6 a7 a8 a9 a10 a11 a12 a13 a14 a15 a16 a17 a18 a19 a20 a21 a22 a23 a24 a25 : Nat) (f0 : Nat → Int32) (f1 : Nat → Int32) (f2 : Nat → Int32) (f3 : Nat → Int32) (f4 : Nat → Int32) (f5 : Nat → Int32) (f6 : Nat → Int32) (y0 : Int32) (y1 : Int32) (y2 : Int32) (y3 : Int32) (y4 : Int32) (y5 : Int32) (y6 : Int64) (y7 : Int32) (y8 : Int32) (y9 : Int32) (y10 : Int32) (y11 : Int32) (y12 : Int32) (y13 : Int32) (y14 : Int32) (y15 : Int32) (y16 : Int32) (y17 : Int32) (y18 : Int32) (y19 : Int32) (y20 : Int32) (y21 : Int32) (x0 : Int32) (x1 : Int32) (x2 : Int32) (x3 : Int32) (p0 : mp_res f0 25 5 0 0 6) (p1 : mp_res f0 25 5 1 0 99) (p2 : mp_res f0 25 5 2 0 6) (p3 : mp_res f0 25 5 3 0 10) (p4 : mp_res f0 25 5 4 0 60) (p5 : mp_all f1 180 0 20) (p6 : mp_all f2 3000 0 1) (p7 : mp_res f3 90 3 0 0 5) (p8 : mp_res f3 90 3 1 (-1) 99) (p9 : mp_res f4 300 6 0 0 5) (p10 : mp_res f4 300 6 1 0 5) (p11 : mp_res f4 300 6 3 0 99) (p12 : mp_res f4 300 6 4 0 1) (p13 : mp_all f5 6 0 5) (l_x0 : 0 ≤ x0.toInt) (u_x0 : x0.toInt ≤ 11) (l_x1 : 0 ≤ x1.toInt) (u_x1 : x1.toInt ≤ 5) (l_x2 : 0 ≤ x2.toInt) (u_x2 : x2.toInt ≤ 5) (l_y1 : 0 ≤ y1.toInt) (u_y1 : y1.toInt ≤ 1600) (l_y2 : 0 ≤ y2.toInt) (u_y2 : y2.toInt ≤ 1600) (l_y3 : 0 ≤ y3.toInt) (u_y3 : y3.toInt ≤ 4) (l_y4 : 0 ≤ y4.toInt) (u_y4 : y4.toInt ≤ 1600) (l_y11 : 0 ≤ y11.toInt) (u_y11 : y11.toInt ≤ 99) (l_y12 : 0 ≤ y12.toInt) (u_y12 : y12.toInt ≤ 5) (l_y13 : 0 ≤ y13.toInt) (u_y13 : y13.toInt ≤ 12) (q0 : y11.toInt + x0.toInt ≤ 98) (q1 : mp_PW ((f1, f2, f3, f4, f5, f0), y14, y12.toInt) y11.toInt y13.toInt (f0 0).toInt f6 x0.toInt.toNat x1.toInt.toNat x3) (q2 : x0.toInt < y13.toInt) (q3 : x2.toInt < (f0 0).toInt) : mp_Ct E yX10_isStep cX10_isStep 6 (some FieldType.boolean) 3 0 0 72 [.ref a0, .int x0, .int x1, .int x2, .int x3] [(mp_ob10 a0 y0 a8 a9 a10 a11 a12 y1 y2 y3 y4 y5 y6 y7 y8 y9 y10 a13 a1 a2 a3 a4 a5 a14 a15 y11 a6 a16 a17 a18 y12 y13 y14 a7 a19 y15 y16 a20 a21 a22 y17 y18 y19 y20 a23 a24 a25 y21), (mp_arI E a1 0 25 f0), (mp_arI E a2 0 180 f1), (mp_arI E a3 3 3000 f2), (mp_arI E a4 0 90 f3), (mp_arI E a5 0 300 f4), (mp_arI E a6 0 6 f5), (mp_arI E a7 0 78 f6)] (fun v w' => (v = some (.int 0) ∧ (¬ mp_stp ((f1, f2, f3, f4, f5, f0), y14, y12.toInt) y11.toInt f6 x0.toInt.toNat x1.toInt.toNat x3 x2.toInt.toNat) ∧ w' = [(mp_ob10 a0 y0 a8 a9 a10 a11 a12 y1 y2 y3 y4 y5 y6 y7 y8 y9 y10 a13 a1 a2 a3 a4 a5 a14 a15 y11 a6 a16 a17 a18 y12 y13 y14 a7 a19 y15 y16 a20 a21 a22 y17 y18 y19 y20 a23 a24 a25 y21), (mp_arI E a1 0 25 f0), (mp_arI E a2 0 180 f1), (mp_arI E a3 3 3000 f2), (mp_arI E a4 0 90 f3), (mp_arI E a5 0 300 f4), (mp_arI E a6 0 6 f5), (mp_arI E a7 0 78 f6)]) ∨ (v = some (.int 1) ∧ (mp_stp ((f1, f2, f3, f4, f5, f0), y14, y12.toInt) y11.toInt f6 x0.toInt.toNat x1.toInt.toNat x3 x2.toInt.toNat) ∧ w' = [(mp_ob10 a0 y0 a8 a9 a10 a11 a12 y1 y2 y3 y4 y5 y6 y7 y8 y9 y10 a13 a1 a2 a3 a4 a5 a14 a15 y11 a6 a16 a17 a18 y12 y13 y14 a7 a19 y15 y16 a20 a21 a22 y17 y18 y19 y20 a23 a24 a25 y21), (mp_arI E a1 0 25 f0), (mp_arI E a2 0 180 f1), (mp_arI E a3 3 3000 f2), (mp_arI E a4 0 90 f3), (mp_arI E a5 0 300 f4), (mp_arI E a6 0 6 f5), (mp_arI E a7 0 78 f6)])) := by
  refine mp_met false (by decide) (by decide) (Nat.le_of_ble_eq_true rfl) (fun X hF hQ => ?_)
  have hF : mp_F E X (RX10, cX10_isStep, 6, (3, 0, 0, 72), (some FieldType.boolean), false) := hF
  let w1_ : va_W := [(mp_ob10 a0 y0 a8 a9 a10 a11 a12 y1 y2 y3 y4 y5 y6 y7 y8 y9 y10 a13 a1 a2 a3 a4 a5 a14 a15 y11 a6 a16 a17 a18 y12 y13 y14 a7 a19 y15 y16 a20 a21 a22 y17 y18 y19 y20 a23 a24 a25 y21), (mp_arI E a1 0 25 f0), (mp_arI E a2 0 180 f1), (mp_arI E a3 3 3000 f2), (mp_arI E a4 0 90 f3), (mp_arI E a5 0 300 f4), (mp_arI E a6 0 6 f5), (mp_arI E a7 0 78 f6)]
  show mp_W E X 6 0 [(0, .ref a0), (1, .int x0), (2, .int x1), (3, .int x2), (4, .int x3)] [] w1_ 0 0
  refine mp_run mp_k_cX10_isStep_ok hF mp_tabX10_ok [mp_i (.aload_n 0), mp_i (.iload_n 2), mp_i (.iload_n 3), mp_i (.aload_n 0), mp_h (.getfield 276) [24, 0], mp_i (.iload_n 1), mp_i .iadd, mp_c (.iconst 1) 1, mp_i .iadd] (by decide +kernel) ?_
  refine And.intro rfl (And.intro rfl ?_)
  intro z_1 h_2
  have e_3 : z_1.toInt = y11.toInt + x0.toInt := mp_add (a := y11.toInt) (b := x0.toInt) h_2 rfl rfl (by (first | exact mp_o116 l_y11 l_x0 | omega)) (by (first | exact mp_o1659 q0 | omega))
  intro z_4 h_5
  have e_6 : z_4.toInt = z_1.toInt + 1 := mp_add (a := z_1.toInt) (b := 1) h_5 rfl (by decide) (by (first | exact mp_o1623 l_x0 l_y11 e_3 | omega)) (by (first | exact mp_o1660 q0 e_3 | omega))
  show mp_W E X 6 11 [(0, .ref a0), (1, .int x0), (2, .int x1), (3, .int x2), (4, .int x3)] [.int z_4, .int x2, .int x1, .ref a0] w1_ 0 0
  refine mp_callV hF (As := [.int x1, .int x2, .int z_4]) (rest := []) (wr := [(mp_arI E a1 0 25 f0), (mp_arI E a5 0 300 f4), (mp_arI E a6 0 6 f5), (mp_arI E a7 0 78 f6)]) (bX10_oarsBy_108 E a0 a2 a3 a4 a8 a9 a10 a11 a12 a13 a1 a5 a14 a15 a6 a16 a17 a18 a7 a19 a20 a21 a22 a23 a24 a25 f1 f2 f3 y0 y1 y2 y3 y4 y5 y6 y7 y8 y9 y10 y11 y12 y13 y14 y15 y16 y17 y18 y19 y20 y21 x1 x2 z_4 p5 p6 p7 p8 l_x1 u_x1 l_x2 u_x2 (by (first | exact mp_o1625 l_x0 l_y11 e_3 e_6 | omega)) (by (first | exact mp_o1661 e_6 q0 e_3 | omega)) l_y1 u_y1 l_y2 u_y2 l_y3 u_y3 l_y4 u_y4 l_y11 u_y11 l_y12 u_y12 l_y13 u_y13) mp_lkX10_346 0 rfl [0, 2, 3, 4] [1, 5, 6, 7] rfl rfl rfl rfl rfl ⟨(Nat.le_of_ble_eq_true rfl), (Nat.le_of_ble_eq_true rfl), (Nat.le_of_ble_eq_true rfl), (Nat.le_of_ble_eq_true rfl)⟩ (Nat.le_of_ble_eq_true rfl) (by first | exact mp_fd_ok mp_k_cX10_isStep_ok (by decide +kernel) | decide +kernel) (fun v_7 w_8 h_9 => ?_)
  refine h_9.elim fun r_10 q_14 => q_14.elim fun e_15 q_16 => q_16.elim fun l_11 q_17 => q_17.elim fun u_12 q_18 => q_18.elim fun x_13 e_19 => ?_
  clear h_9 q_14 q_16 q_17 q_18
  subst e_15
  subst e_19
  have k_20 : r_10.toInt = mp_oarv ((f1, f2, f3, f4, f5, f0), y14, y12.toInt) ((x1.toInt.toNat : Nat) : Int) ((x2.toInt.toNat : Nat) : Int) (y11.toInt + ((x0.toInt.toNat : Nat) : Int) + 1) := by rw [show ((x1.toInt.toNat : Nat) : Int) = x1.toInt by (first | exact mp_o156 l_x1 | omega), show ((x2.toInt.toNat : Nat) : Int) = x2.toInt by (first | exact mp_o156 l_x2 | omega), show y11.toInt + ((x0.toInt.toNat : Nat) : Int) + 1 = z_4.toInt by (first | exact mp_o1627 l_x0 e_3 e_6 | omega)]; exact mp_oarv_of x_13
  have e_21 : 0 ≤ r_10.toInt := by rw [k_20]; exact mp_oarv_nn _ _ _ _
  let w2_ : va_W := [(mp_arI E a1 0 25 f0), (mp_arI E a5 0 300 f4), (mp_arI E a6 0 6 f5), (mp_arI E a7 0 78 f6), (mp_ob10 a0 y0 a8 a9 a10 a11 a12 y1 y2 y3 y4 y5 y6 y7 y8 y9 y10 a13 a1 a2 a3 a4 a5 a14 a15 y11 a6 a16 a17 a18 y12 y13 y14 a7 a19 y15 y16 a20 a21 a22 y17 y18 y19 y20 a23 a24 a25 y21), (mp_arI E a2 0 180 f1), (mp_arI E a3 3 3000 f2), (mp_arI E a4 0 90 f3)]
  show mp_W E X 6 14 [(0, .ref a0), (1, .int x0), (2, .int x1), (3, .int x2), (4, .int x3)] [.int r_10] w2_ 0 0
  refine mp_run mp_k_cX10_isStep_ok hF mp_tabX10_ok [mp_i (.istore 5), mp_i (.iload 5), mp_c (.ldc 142) 1000000, mp_h (.if_icmp .ge 56) [76]] (by decide +kernel) ?_
  refine And.intro (fun c_22 => ?_) (fun c_22 => ?_)
  · have c_22 : 1000000 ≤ r_10.toInt := c_22
    show mp_W E X 6 76 [(5, .int r_10), (0, .ref a0), (1, .int x0), (2, .int x1), (3, .int x2), (4, .int x3)] [] w2_ 0 0
    refine mp_run mp_k_cX10_isStep_ok hF mp_tabX10_ok [mp_c (.iconst 0) 0] (by decide +kernel) ?_
    show mp_W E X 6 77 [(5, .int r_10), (0, .ref a0), (1, .int x0), (2, .int x1), (3, .int x2), (4, .int x3)] [.int 0] w2_ 0 0
    exact mp_iret hF hQ rfl (by decide) (Nat.le_of_ble_eq_true rfl) (Nat.le_of_ble_eq_true rfl) [4, 0, 5, 6, 7, 1, 2, 3] (w' := w1_) rfl rfl (Or.inl ⟨rfl, (fun q => by have h9 := q.1; (first | exact mp_o1662 c_22 h9 k_20 | omega)), rfl⟩) (by first | exact mp_fd_ok mp_k_cX10_isStep_ok (by decide +kernel) | decide +kernel)
  · have c_22 : r_10.toInt < 1000000 := c_22
    show mp_W E X 6 23 [(5, .int r_10), (0, .ref a0), (1, .int x0), (2, .int x1), (3, .int x2), (4, .int x3)] [] w2_ 0 0
    refine mp_run mp_k_cX10_isStep_ok hF mp_tabX10_ok [mp_i (.aload_n 0), mp_i (.iload 4), mp_i (.iload_n 3), mp_i (.aload_n 0), mp_h (.getfield 276) [24, 4], mp_i (.iload_n 1), mp_i .iadd, mp_c (.iconst 1) 1, mp_i .iadd] (by decide +kernel) ?_
    refine And.intro rfl (And.intro rfl ?_)
    intro z_23 h_24
    have e_25 : z_23.toInt = y11.toInt + x0.toInt := mp_add (a := y11.toInt) (b := x0.toInt) h_24 rfl rfl (by (first | exact mp_o116 l_y11 l_x0 | omega)) (by (first | exact mp_o1659 q0 | omega))
    intro z_26 h_27
    have e_28 : z_26.toInt = z_23.toInt + 1 := mp_add (a := z_23.toInt) (b := 1) h_27 rfl (by decide) (by (first | exact mp_o1623 l_x0 l_y11 e_25 | omega)) (by (first | exact mp_o1660 q0 e_25 | omega))
    show mp_W E X 6 35 [(5, .int r_10), (0, .ref a0), (1, .int x0), (2, .int x1), (3, .int x2), (4, .int x3)] [.int z_26, .int x2, .int x3, .ref a0] w2_ 0 0
    refine mp_callV hF (As := [.int x3, .int x2, .int z_26]) (rest := []) (wr := [(mp_arI E a7 0 78 f6)]) (bX10_onceBehind_110 E a0 a1 a2 a3 a4 a5 a6 a8 a9 a10 a11 a12 a13 a14 a15 a16 a17 a18 a7 a19 a20 a21 a22 a23 a24 a25 f0 f1 f2 f3 f4 f5 y0 y1 y2 y3 y4 y5 y6 y7 y8 y9 y10 y11 y12 y13 y14 y15 y16 y17 y18 y19 y20 y21 x3 x2 z_26 p0 p1 p2 p3 p4 p5 p6 p7 p8 p9 p10 p11 p12 p13 l_y1 u_y1 l_y2 u_y2 l_y3 u_y3 l_y4 u_y4 l_y11 u_y11 l_y12 u_y12 l_y13 u_y13) mp_lkX10_349 4 rfl [4, 0, 5, 6, 7, 1, 2] [3] rfl rfl rfl rfl rfl ⟨(Nat.le_of_ble_eq_true rfl), (Nat.le_of_ble_eq_true rfl), (Nat.le_of_ble_eq_true rfl), (Nat.le_of_ble_eq_true rfl)⟩ (Nat.le_of_ble_eq_true rfl) (by first | exact mp_fd_ok mp_k_cX10_isStep_ok (by decide +kernel) | decide +kernel) (fun v_29 w_30 h_31 => ?_)
    obtain ⟨r_32, rfl, x_33, rfl⟩ := h_31
    have k_34 : r_32 = mp_oncv ((f1, f2, f3, f4, f5, f0), y14, y12.toInt) x3 ((x2.toInt.toNat : Nat) : Int) (y11.toInt + ((x0.toInt.toNat : Nat) : Int) + 1) := by rw [show ((x2.toInt.toNat : Nat) : Int) = x2.toInt by (first | exact mp_o156 l_x2 | omega), show y11.toInt + ((x0.toInt.toNat : Nat) : Int) + 1 = z_26.toInt by (first | exact mp_o1627 l_x0 e_25 e_28 | omega)]; exact x_33
    let w3_ : va_W := [(mp_arI E a7 0 78 f6), (mp_ob10 a0 y0 a8 a9 a10 a11 a12 y1 y2 y3 y4 y5 y6 y7 y8 y9 y10 a13 a1 a2 a3 a4 a5 a14 a15 y11 a6 a16 a17 a18 y12 y13 y14 a7 a19 y15 y16 a20 a21 a22 y17 y18 y19 y20 a23 a24 a25 y21), (mp_arI E a1 0 25 f0), (mp_arI E a2 0 180 f1), (mp_arI E a3 3 3000 f2), (mp_arI E a4 0 90 f3), (mp_arI E a5 0 300 f4), (mp_arI E a6 0 6 f5)]
    show mp_W E X 6 38 [(5, .int r_10), (0, .ref a0), (1, .int x0), (2, .int x1), (3, .int x2), (4, .int x3)] [.int r_32] w3_ 0 0
    refine mp_run mp_k_cX10_isStep_ok hF mp_tabX10_ok [mp_c (.iconst (-1)) (-1), mp_h (.if_icmp .eq 37) [76]] (by decide +kernel) ?_
    refine And.intro (fun c_35 => ?_) (fun c_35 => ?_)
    · have c_35 : r_32.toInt = (-1) := (congrArg Int32.toInt c_35)
      show mp_W E X 6 76 [(5, .int r_10), (0, .ref a0), (1, .int x0), (2, .int x1), (3, .int x2), (4, .int x3)] [] w3_ 0 0
      refine mp_run mp_k_cX10_isStep_ok hF mp_tabX10_ok [mp_c (.iconst 0) 0] (by decide +kernel) ?_
      show mp_W E X 6 77 [(5, .int r_10), (0, .ref a0), (1, .int x0), (2, .int x1), (3, .int x2), (4, .int x3)] [.int 0] w3_ 0 0
      exact mp_iret hF hQ rfl (by decide) (Nat.le_of_ble_eq_true rfl) (Nat.le_of_ble_eq_true rfl) [1, 2, 3, 4, 5, 6, 7, 0] (w' := w1_) rfl rfl (Or.inl ⟨rfl, (by first | exact (fun q => q.2.1 (k_34.symm.trans (Int32.toInt_inj.mp c_35))) | exact (fun q => by have h9 := q.2.2; omega)), rfl⟩) (by first | exact mp_fd_ok mp_k_cX10_isStep_ok (by decide +kernel) | decide +kernel)
    · have c_35 : r_32.toInt ≠ (-1) := c_35
      show mp_W E X 6 42 [(5, .int r_10), (0, .ref a0), (1, .int x0), (2, .int x1), (3, .int x2), (4, .int x3)] [] w3_ 0 0
      refine mp_run mp_k_cX10_isStep_ok hF mp_tabX10_ok [mp_i (.aload_n 0), mp_h (.getfield 68) [32, 1], mp_c (.bipush 6) 6, mp_i (.iload_n 1), mp_c (.iconst 1) 1, mp_i .iadd, mp_i .imul, mp_i (.iload_n 3), mp_i .iadd, mp_h .iaload [0], mp_i (.iload 5), mp_i .iadd, mp_i (.aload_n 0), mp_h (.getfield 68) [32, 1], mp_c (.bipush 6) 6, mp_i (.iload_n 1), mp_i .imul, mp_i (.iload_n 2), mp_i .iadd, mp_h .iaload [0], mp_h (.if_icmp .ne 7) [76]] (by decide +kernel) ?_
      refine And.intro rfl (And.intro rfl ?_)
      intro z_36 h_37
      have e_38 : z_36.toInt = x0.toInt + 1 := mp_add (a := x0.toInt) (b := 1) h_37 rfl (by decide) (by (first | exact mp_o2 l_x0 | omega)) (by (first | exact mp_o569 u_x0 | omega))
      intro z_39 h_40
      have e_41 : z_39.toInt = 6 * z_36.toInt := mp_mul (a := 6) (b := z_36.toInt) h_40 (by decide) rfl (by (first | exact mp_o1628 l_x0 e_38 | omega)) (by (first | exact mp_o1663 u_x0 e_38 | omega))
      intro z_42 h_43
      have e_44 : z_42.toInt = z_39.toInt + x2.toInt := mp_add (a := z_39.toInt) (b := x2.toInt) h_43 rfl rfl (by (first | exact mp_o1630 l_x2 l_x0 e_38 e_41 | omega)) (by (first | exact mp_o1664 u_x2 u_x0 e_38 e_41 | omega))
      refine And.intro rfl (And.intro rfl (And.intro (vp_in_iff.mpr (by (first | exact mp_o1665 l_x0 u_x0 l_x2 u_x2 e_38 e_41 e_44 | omega))) ?_))
      intro z_45 h_46
      have e_48 : z_45.toInt = (f6 (6 * (x0.toInt.toNat + 1) + x2.toInt.toNat)).toInt := mp_at_i h_46 (by (first | exact mp_o1632 l_x0 l_x2 e_38 e_41 e_44 | omega))
      have e_49 := mp_PW_bd (to := x2.toInt.toNat) q1 (by (first | exact mp_o473 l_x0 q2 | omega)) (by (first | exact mp_o473 l_x2 q3 | omega)) (by (first | exact mp_o1636 u_x2 | omega)) (by (first | exact mp_o1637 c_22 k_20 | omega)) (by rw [← k_34]; exact (fun q => c_35 (by rw [q]; rfl)))
      intro z_50 h_51
      have e_52 : z_50.toInt = z_45.toInt + r_10.toInt := mp_add (a := z_45.toInt) (b := r_10.toInt) h_51 rfl rfl (by (first | exact mp_o1666 l_11 e_48 e_49 | omega)) (by (first | exact mp_o1667 c_22 e_48 e_49 | omega))
      refine And.intro rfl (And.intro rfl ?_)
      intro z_53 h_54
      have e_55 : z_53.toInt = 6 * x0.toInt := mp_mul (a := 6) (b := x0.toInt) h_54 (by decide) rfl (by (first | exact mp_o1152 l_x0 | omega)) (by (first | exact mp_o1668 u_x0 | omega))
      intro z_56 h_57
      have e_58 : z_56.toInt = z_53.toInt + x1.toInt := mp_add (a := z_53.toInt) (b := x1.toInt) h_57 rfl rfl (by (first | exact mp_o1412 l_x1 l_x0 e_55 | omega)) (by (first | exact mp_o1669 u_x1 u_x0 e_55 | omega))
      refine And.intro rfl (And.intro rfl (And.intro (vp_in_iff.mpr (by (first | exact mp_o1670 l_x0 u_x0 l_x1 u_x1 e_55 e_58 | omega))) ?_))
      intro z_59 h_60
      have e_62 : z_59.toInt = (f6 (6 * x0.toInt.toNat + x1.toInt.toNat)).toInt := mp_at_i h_60 (by (first | exact mp_o1555 l_x0 l_x1 e_55 e_58 | omega))
      refine And.intro (fun c_63 => ?_) (fun c_63 => ?_)
      · have c_63 : z_50.toInt ≠ z_59.toInt := c_63
        show mp_W E X 6 76 [(5, .int r_10), (0, .ref a0), (1, .int x0), (2, .int x1), (3, .int x2), (4, .int x3)] [] w3_ 0 0
        refine mp_run mp_k_cX10_isStep_ok hF mp_tabX10_ok [mp_c (.iconst 0) 0] (by decide +kernel) ?_
        show mp_W E X 6 77 [(5, .int r_10), (0, .ref a0), (1, .int x0), (2, .int x1), (3, .int x2), (4, .int x3)] [.int 0] w3_ 0 0
        exact mp_iret hF hQ rfl (by decide) (Nat.le_of_ble_eq_true rfl) (Nat.le_of_ble_eq_true rfl) [1, 2, 3, 4, 5, 6, 7, 0] (w' := w1_) rfl rfl (Or.inl ⟨rfl, (by first | exact (fun q => q.2.1 (k_34.symm.trans (Int32.toInt_inj.mp c_35))) | exact (fun q => by have h9 := q.2.2; (first | exact mp_o1671 k_20 h9 e_48 e_52 e_62 c_63 | omega))), rfl⟩) (by first | exact mp_fd_ok mp_k_cX10_isStep_ok (by decide +kernel) | decide +kernel)
      · have c_63 : z_50.toInt = z_59.toInt := (congrArg Int32.toInt c_63)
        show mp_W E X 6 72 [(5, .int r_10), (0, .ref a0), (1, .int x0), (2, .int x1), (3, .int x2), (4, .int x3)] [] w3_ 0 0
        refine mp_run mp_k_cX10_isStep_ok hF mp_tabX10_ok [mp_c (.iconst 1) 1, mp_h (.goto 4) [77]] (by decide +kernel) ?_
        show mp_W E X 6 77 [(5, .int r_10), (0, .ref a0), (1, .int x0), (2, .int x1), (3, .int x2), (4, .int x3)] [.int 1] w3_ 0 0
        exact mp_iret hF hQ rfl (by decide) (Nat.le_of_ble_eq_true rfl) (Nat.le_of_ble_eq_true rfl) [1, 2, 3, 4, 5, 6, 7, 0] (w' := w1_) rfl rfl (Or.inr ⟨rfl, ⟨by (first | exact mp_o1637 c_22 k_20 | omega), (by rw [← k_34]; exact (fun q => c_35 (by rw [q]; rfl))), by (first | exact mp_o1672 e_48 k_20 e_52 e_62 c_63 | omega)⟩, rfl⟩) (by first | exact mp_fd_ok mp_k_cX10_isStep_ok (by decide +kernel) | decide +kernel)
set_option maxHeartbeats 4000000 in
set_option maxRecDepth 100000 in
theorem bX10_plan_115 (E : mp_E) (a0 a1 a2 a3 a4 a5 a6 a7 a8 a9 a10 a11 a12 a13 a14 a15 a16 a17 a18 a19 a20 a21 a22 a23 a24 a25 : Nat) (f0 : Nat → Int32) (f1 : Nat → Int32) (f2 : Nat → Int32) (f3 : Nat → Int32) (f4 : Nat → Int32) (f5 : Nat → Int32) (f6 : Nat → Int32) (f7 : Nat → Int32) (f8 : Nat → Int32) (f9 : Nat → Int32) (f10 : Nat → Int32) (f11 : Nat → Int64) (y0 : Int32) (y1 : Int32) (y2 : Int32) (y3 : Int32) (y4 : Int32) (y5 : Int32) (y6 : Int64) (y7 : Int32) (y8 : Int32) (y9 : Int32) (y10 : Int32) (y11 : Int32) (y12 : Int32) (y13 : Int32) (y14 : Int32) (y15 : Int32) (y16 : Int32) (y17 : Int32) (y18 : Int32) (y19 : Int32) (y20 : Int32) (y21 : Int32) (x0 : Int32) (x1 : Int32) (x2 : Int32) (p0 : mp_res f0 25 5 0 0 6) (p1 : mp_res f0 25 5 1 0 99) (p2 : mp_res f0 25 5 2 0 6) (p3 : mp_res f0 25 5 3 0 10) (p4 : mp_res f0 25 5 4 0 60) (p5 : mp_all f1 180 0 20) (p6 : mp_all f2 3000 0 1) (p7 : mp_res f3 90 3 0 0 5) (p8 : mp_res f3 90 3 1 (-1) 99) (p9 : mp_res f4 300 6 0 0 5) (p10 : mp_res f4 300 6 1 0 5) (p11 : mp_res f4 300 6 3 0 99) (p12 : mp_res f4 300 6 4 0 1) (p13 : mp_actm f5) (p14 : mp_all f6 6 0 5) (l_y1 : 0 ≤ y1.toInt) (u_y1 : y1.toInt ≤ 1600) (l_y2 : 0 ≤ y2.toInt) (u_y2 : y2.toInt ≤ 1600) (l_y3 : 0 ≤ y3.toInt) (u_y3 : y3.toInt ≤ 4) (l_y4 : 0 ≤ y4.toInt) (u_y4 : y4.toInt ≤ 1600) (l_y11 : 0 ≤ y11.toInt) (u_y11 : y11.toInt ≤ 99) (l_y12 : 0 ≤ y12.toInt) (u_y12 : y12.toInt ≤ 5) (l_y13 : 0 ≤ y13.toInt) (u_y13 : y13.toInt ≤ 12) (q0 : (f0 1).toInt + mp_k200 f5 (f0 4).toInt ≤ 99) : mp_Ct E yX10_plan cX10_plan 8 (some FieldType.int) 18 0 0 488 [.ref a0, .int x0, .int x1, .int x2] [(mp_ob10 a0 y0 a13 a14 a15 a16 a17 y1 y2 y3 y4 y5 y6 y7 y8 y9 y10 a18 a1 a2 a3 a4 a5 a6 a19 y11 a7 a8 a9 a10 y12 y13 y14 a11 a12 y15 y16 a20 a21 a22 y17 y18 y19 y20 a23 a24 a25 y21), (mp_arI E a1 0 25 f0), (mp_arI E a2 0 180 f1), (mp_arI E a3 3 3000 f2), (mp_arI E a4 0 90 f3), (mp_arI E a5 0 300 f4), (mp_arI E a6 0 300 f5), (mp_arI E a7 0 6 f6), (mp_arI E a8 0 6 f7), (mp_arI E a9 0 6 f8), (mp_arI E a10 3 1500 f9), (mp_arI E a11 0 78 f10), (mp_arL E a12 78 f11)] (fun v w' => ∃ r1 : Int32, ∃ r2 : Int32, ∃ r3 : Int32, ∃ r4 : Int32, ∃ h5 : Nat → Int32, ∃ h6 : Nat → Int32, ∃ h7 : Nat → Int32, ∃ h8 : Nat → Int32, ∃ h9 : Nat → Int32, ∃ h10 : Nat → Int64, ∃ r11 : Int32, v = some (.int r11) ∧ 0 ≤ r1.toInt ∧ r1.toInt ≤ 99 ∧ 0 ≤ r2.toInt ∧ r2.toInt ≤ 5 ∧ 0 ≤ r3.toInt ∧ r3.toInt ≤ 12 ∧ (-2) ≤ r11.toInt ∧ r11.toInt ≤ 5 ∧ mp_all h5 6 0 5 ∧ w' = [(mp_ob10 a0 0 a13 a14 a15 a16 a17 y1 y2 y3 y4 y5 y6 y7 y8 y9 y10 a18 a1 a2 a3 a4 a5 a6 a19 r1 a7 a8 a9 a10 r2 r3 r4 a11 a12 y15 y16 a20 a21 a22 y17 y18 y19 y20 a23 a24 a25 y21), (mp_arI E a1 0 25 f0), (mp_arI E a2 0 180 f1), (mp_arI E a3 3 3000 f2), (mp_arI E a4 0 90 f3), (mp_arI E a5 0 300 f4), (mp_arI E a6 0 300 f5), (mp_arI E a7 0 6 h5), (mp_arI E a8 0 6 h6), (mp_arI E a9 0 6 h7), (mp_arI E a10 3 1500 h8), (mp_arI E a11 0 78 h9), (mp_arL E a12 78 h10)]) := by
  refine mp_met false (by decide) (by decide) (Nat.le_of_ble_eq_true rfl) (fun X hF hQ => ?_)
  have hF : mp_F E X (RX10, cX10_plan, 8, (18, 0, 0, 488), (some FieldType.int), false) := hF
  let w1_ : va_W := [(mp_ob10 a0 y0 a13 a14 a15 a16 a17 y1 y2 y3 y4 y5 y6 y7 y8 y9 y10 a18 a1 a2 a3 a4 a5 a6 a19 y11 a7 a8 a9 a10 y12 y13 y14 a11 a12 y15 y16 a20 a21 a22 y17 y18 y19 y20 a23 a24 a25 y21), (mp_arI E a1 0 25 f0), (mp_arI E a2 0 180 f1), (mp_arI E a3 3 3000 f2), (mp_arI E a4 0 90 f3), (mp_arI E a5 0 300 f4), (mp_arI E a6 0 300 f5), (mp_arI E a7 0 6 f6), (mp_arI E a8 0 6 f7), (mp_arI E a9 0 6 f8), (mp_arI E a10 3 1500 f9), (mp_arI E a11 0 78 f10), (mp_arL E a12 78 f11)]
  show mp_W E X 8 0 [(0, .ref a0), (1, .int x0), (2, .int x1), (3, .int x2)] [] w1_ 0 0
  refine mp_run mp_k_cX10_plan_ok hF mp_tabX10_ok [mp_i (.aload_n 0), mp_c (.iconst 0) 0, mp_h (.putfield 92) [0, 0]] (by decide +kernel) ?_
  refine And.intro rfl (And.intro rfl (And.intro rfl (And.intro rfl (And.intro (Nat.le_of_ble_eq_true rfl) ?_))))
  let w2_ : va_W := [(mp_ob10 a0 0 a13 a14 a15 a16 a17 y1 y2 y3 y4 y5 y6 y7 y8 y9 y10 a18 a1 a2 a3 a4 a5 a6 a19 y11 a7 a8 a9 a10 y12 y13 y14 a11 a12 y15 y16 a20 a21 a22 y17 y18 y19 y20 a23 a24 a25 y21), (mp_arI E a1 0 25 f0), (mp_arI E a2 0 180 f1), (mp_arI E a3 3 3000 f2), (mp_arI E a4 0 90 f3), (mp_arI E a5 0 300 f4), (mp_arI E a6 0 300 f5), (mp_arI E a7 0 6 f6), (mp_arI E a8 0 6 f7), (mp_arI E a9 0 6 f8), (mp_arI E a10 3 1500 f9), (mp_arI E a11 0 78 f10), (mp_arL E a12 78 f11)]
  show mp_W E X 8 5 [(0, .ref a0), (1, .int x0), (2, .int x1), (3, .int x2)] [] w2_ 0 0
  refine mp_run mp_k_cX10_plan_ok hF mp_tabX10_ok [mp_i (.aload_n 0), mp_i (.iload_n 1), mp_i (.iload_n 2)] (by decide +kernel) ?_
  show mp_W E X 8 8 [(0, .ref a0), (1, .int x0), (2, .int x1), (3, .int x2)] [.int x1, .int x0, .ref a0] w2_ 0 0
  refine mp_callV hF (As := [.int x0, .int x1]) (rest := []) (wr := [(mp_arI E a3 3 3000 f2), (mp_arI E a5 0 300 f4), (mp_arI E a11 0 78 f10), (mp_arL E a12 78 f11)]) (bX10_isPlan_105 E a0 a1 a2 a4 a6 a7 a8 a9 a10 a13 a14 a15 a16 a17 a18 a3 a5 a19 a11 a12 a20 a21 a22 a23 a24 a25 f0 f1 f3 f5 f6 f7 f8 f9 0 y1 y2 y3 y4 y5 y6 y7 y8 y9 y10 y11 y12 y13 y14 y15 y16 y17 y18 y19 y20 y21 x0 x1 p0 p1 p2 p3 p4 p5 p7 p8 p13 p14 l_y1 u_y1 l_y2 u_y2 l_y3 u_y3 l_y4 u_y4 l_y11 u_y11 l_y12 u_y12 l_y13 u_y13 (by (first | exact q0 | omega))) mp_lkX10_361 0 rfl [0, 1, 2, 4, 6, 7, 8, 9, 10] [3, 5, 11, 12] rfl rfl rfl rfl rfl ⟨(Nat.le_of_ble_eq_true rfl), (Nat.le_of_ble_eq_true rfl), (Nat.le_of_ble_eq_true rfl), (Nat.le_of_ble_eq_true rfl)⟩ (Nat.le_of_ble_eq_true rfl) (by first | exact mp_fd_ok mp_k_cX10_plan_ok (by decide +kernel) | decide +kernel) (fun v_1 w_2 h_3 => ?_)
  refine h_3.elim (fun q_28 => ?_) (fun q_29 => ?_)
  · skip
    refine q_28.elim fun r_4 q_30 => q_30.elim fun g_5 q_31 => q_31.elim fun g_6 q_32 => q_32.elim fun g_7 q_33 => q_33.elim fun g_8 q_34 => q_34.elim fun e_35 q_36 => q_36.elim fun l_9 q_37 => q_37.elim fun u_10 q_38 => q_38.elim fun p_11 e_39 => ?_
    clear h_3 q_28 q_30 q_31 q_32 q_33 q_34 q_36 q_37 q_38
    subst e_35
    subst e_39
    let w3_ : va_W := [(mp_arI E a3 3 3000 f2), (mp_arI E a5 0 300 f4), (mp_arI E a11 0 78 f10), (mp_arL E a12 78 f11), (mp_ob10 a0 0 a13 a14 a15 a16 a17 y1 y2 y3 y4 y5 y6 y7 y8 y9 y10 a18 a1 a2 a3 a4 a5 a6 a19 r_4 a7 a8 a9 a10 y12 y13 y14 a11 a12 y15 y16 a20 a21 a22 y17 y18 y19 y20 a23 a24 a25 y21), (mp_arI E a1 0 25 f0), (mp_arI E a2 0 180 f1), (mp_arI E a4 0 90 f3), (mp_arI E a6 0 300 f5), (mp_arI E a7 0 6 g_5), (mp_arI E a8 0 6 g_6), (mp_arI E a9 0 6 g_7), (mp_arI E a10 3 1500 g_8)]
    show mp_W E X 8 11 [(0, .ref a0), (1, .int x0), (2, .int x1), (3, .int x2)] [.int 0] w3_ 0 0
    refine mp_run mp_k_cX10_plan_ok hF mp_tabX10_ok [mp_h (.ifCond .ne 6) [17]] (by decide +kernel) ?_
    refine And.intro (fun c_40 => absurd c_40 (by decide)) (fun _ => ?_)
    show mp_W E X 8 14 [(0, .ref a0), (1, .int x0), (2, .int x1), (3, .int x2)] [] w3_ 0 0
    refine mp_run mp_k_cX10_plan_ok hF mp_tabX10_ok [mp_c (.bipush (-2)) (-2)] (by decide +kernel) ?_
    show mp_W E X 8 16 [(0, .ref a0), (1, .int x0), (2, .int x1), (3, .int x2)] [.int (-2)] w3_ 0 0
    exact mp_iret hF hQ rfl rfl (Nat.le_of_ble_eq_true rfl) (Nat.le_of_ble_eq_true rfl) [4, 5, 6, 0, 7, 1, 8, 9, 10, 11, 12, 2, 3] (w' := [(mp_ob10 a0 0 a13 a14 a15 a16 a17 y1 y2 y3 y4 y5 y6 y7 y8 y9 y10 a18 a1 a2 a3 a4 a5 a6 a19 r_4 a7 a8 a9 a10 y12 y13 y14 a11 a12 y15 y16 a20 a21 a22 y17 y18 y19 y20 a23 a24 a25 y21), (mp_arI E a1 0 25 f0), (mp_arI E a2 0 180 f1), (mp_arI E a3 3 3000 f2), (mp_arI E a4 0 90 f3), (mp_arI E a5 0 300 f4), (mp_arI E a6 0 300 f5), (mp_arI E a7 0 6 g_5), (mp_arI E a8 0 6 g_6), (mp_arI E a9 0 6 g_7), (mp_arI E a10 3 1500 g_8), (mp_arI E a11 0 78 f10), (mp_arL E a12 78 f11)]) rfl rfl ⟨r_4, y12, y13, y14, g_5, g_6, g_7, g_8, f10, f11, (-2), rfl, l_9, u_10, l_y12, u_y12, l_y13, u_y13, (by decide), (by decide), p_11, rfl⟩ (by first | exact mp_fd_ok mp_k_cX10_plan_ok (by decide +kernel) | decide +kernel)
  · skip
    refine q_29.elim fun r_12 q_41 => q_41.elim fun g_13 q_42 => q_42.elim fun g_14 q_43 => q_43.elim fun g_15 q_44 => q_44.elim fun g_16 q_45 => q_45.elim fun e_46 q_47 => q_47.elim fun c_17 q_48 => q_48.elim fun c_18 q_49 => q_49.elim fun c_19 q_50 => q_50.elim fun l_20 q_51 => q_51.elim fun u_21 q_52 => q_52.elim fun p_22 q_53 => q_53.elim fun x_23 q_54 => q_54.elim fun x_24 q_55 => q_55.elim fun x_25 q_56 => q_56.elim fun x_26 q_57 => q_57.elim fun x_27 e_58 => ?_
    clear h_3 q_29 q_41 q_42 q_43 q_44 q_45 q_47 q_48 q_49 q_50 q_51 q_52 q_53 q_54 q_55 q_56 q_57
    subst e_46
    subst e_58
    have c_17 : 0 ≤ x0.toInt := c_17
    have c_18 : 1 ≤ x1.toInt := c_18
    have c_19 : x1.toInt ≤ 12 := c_19
    let w4_ : va_W := [(mp_arI E a3 3 3000 f2), (mp_arI E a5 0 300 f4), (mp_arI E a11 0 78 f10), (mp_arL E a12 78 f11), (mp_ob10 a0 0 a13 a14 a15 a16 a17 y1 y2 y3 y4 y5 y6 y7 y8 y9 y10 a18 a1 a2 a3 a4 a5 a6 a19 r_12 a7 a8 a9 a10 y12 y13 y14 a11 a12 y15 y16 a20 a21 a22 y17 y18 y19 y20 a23 a24 a25 y21), (mp_arI E a1 0 25 f0), (mp_arI E a2 0 180 f1), (mp_arI E a4 0 90 f3), (mp_arI E a6 0 300 f5), (mp_arI E a7 0 6 g_13), (mp_arI E a8 0 6 g_14), (mp_arI E a9 0 6 g_15), (mp_arI E a10 3 1500 g_16)]
    show mp_W E X 8 11 [(0, .ref a0), (1, .int x0), (2, .int x1), (3, .int x2)] [.int 1] w4_ 0 0
    refine mp_run mp_k_cX10_plan_ok hF mp_tabX10_ok [mp_h (.ifCond .ne 6) [17]] (by decide +kernel) ?_
    refine And.intro (fun _ => ?_) (fun c_59 => absurd c_59 (by decide))
    show mp_W E X 8 17 [(0, .ref a0), (1, .int x0), (2, .int x1), (3, .int x2)] [] w4_ 0 0
    refine mp_run mp_k_cX10_plan_ok hF mp_tabX10_ok [mp_i (.aload_n 0), mp_i (.iload_n 1), mp_i (.iload_n 2), mp_i (.aload_n 0), mp_i (.iload_n 1)] (by decide +kernel) ?_
    show mp_W E X 8 22 [(0, .ref a0), (1, .int x0), (2, .int x1), (3, .int x2)] [.int x0, .ref a0, .int x1, .int x0, .ref a0] w4_ 0 0
    refine mp_callV hF (As := [.int x0]) (rest := [.int x1, .int x0, .ref a0]) (wr := [(mp_arI E a3 3 3000 f2), (mp_arI E a11 0 78 f10), (mp_arL E a12 78 f11), (mp_arI E a2 0 180 f1), (mp_arI E a6 0 300 f5), (mp_arI E a7 0 6 g_13), (mp_arI E a8 0 6 g_14), (mp_arI E a9 0 6 g_15)]) (bX10_keptNow_106 E a0 a1 a4 a5 a10 a13 a14 a15 a16 a17 a18 a2 a3 a6 a19 a7 a8 a9 a11 a12 a20 a21 a22 a23 a24 a25 f0 f3 f4 g_16 0 y1 y2 y3 y4 y5 y6 y7 y8 y9 y10 r_12 y12 y13 y14 y15 y16 y17 y18 y19 y20 y21 x0 p0 p1 p2 p3 p4 p7 p8 p9 p10 p11 p12 l_y1 u_y1 l_y2 u_y2 l_y3 u_y3 l_y4 u_y4 l_20 (by (first | exact mp_o1658 u_21 | omega)) l_y12 u_y12 l_y13 u_y13) mp_lkX10_364 4 rfl [4, 5, 7, 1, 12] [0, 2, 3, 6, 8, 9, 10, 11] rfl rfl rfl rfl rfl ⟨(Nat.le_of_ble_eq_true rfl), (Nat.le_of_ble_eq_true rfl), (Nat.le_of_ble_eq_true rfl), (Nat.le_of_ble_eq_true rfl)⟩ (Nat.le_of_ble_eq_true rfl) (by first | exact mp_fd_ok mp_k_cX10_plan_ok (by decide +kernel) | decide +kernel) (fun v_60 w_61 h_62 => ?_)
    obtain ⟨r_63, rfl, l_64, u_65, rfl⟩ := h_62
    let w5_ : va_W := [(mp_arI E a3 3 3000 f2), (mp_arI E a11 0 78 f10), (mp_arL E a12 78 f11), (mp_arI E a2 0 180 f1), (mp_arI E a6 0 300 f5), (mp_arI E a7 0 6 g_13), (mp_arI E a8 0 6 g_14), (mp_arI E a9 0 6 g_15), (mp_ob10 a0 0 a13 a14 a15 a16 a17 y1 y2 y3 y4 y5 y6 y7 y8 y9 y10 a18 a1 a2 a3 a4 a5 a6 a19 r_12 a7 a8 a9 a10 y12 y13 y14 a11 a12 y15 y16 a20 a21 a22 y17 y18 y19 y20 a23 a24 a25 y21), (mp_arI E a1 0 25 f0), (mp_arI E a4 0 90 f3), (mp_arI E a5 0 300 f4), (mp_arI E a10 3 1500 g_16)]
    show mp_W E X 8 25 [(0, .ref a0), (1, .int x0), (2, .int x1), (3, .int x2)] [.int r_63, .int x1, .int x0, .ref a0] w5_ 0 0
    refine mp_callV hF (As := [.int x0, .int x1, .int r_63]) (rest := []) (wr := [(mp_arI E a6 0 300 f5), (mp_arI E a8 0 6 g_14), (mp_arI E a9 0 6 g_15)]) (bX10_plansFor_112 E a0 a1 a2 a3 a4 a5 a7 a10 a11 a12 a13 a14 a15 a16 a17 a18 a6 a19 a8 a9 a20 a21 a22 a23 a24 a25 f0 f1 f2 f3 f4 g_13 g_16 f10 f11 0 y1 y2 y3 y4 y5 y6 y7 y8 y9 y10 r_12 y12 y13 y14 y15 y16 y17 y18 y19 y20 y21 x0 x1 r_63 p0 p1 p2 p3 p4 p5 p6 p7 p8 p9 p10 p11 p12 p_22 (by (first | exact c_17 | omega)) (by (first | exact x_24 | omega)) (by (first | exact c_18 | omega)) (by (first | exact c_19 | omega)) l_y1 u_y1 l_y2 u_y2 l_y3 u_y3 l_y4 u_y4 l_20 (by (first | exact mp_o1658 u_21 | omega)) l_y12 u_y12 l_y13 u_y13 (by first | (first | exact x_27 | omega) | (show r_12.toInt + x1.toInt ≤ 99; omega))) mp_lkX10_367 8 rfl [8, 9, 3, 0, 10, 11, 5, 12, 1, 2] [4, 6, 7] rfl rfl rfl rfl rfl ⟨(Nat.le_of_ble_eq_true rfl), (Nat.le_of_ble_eq_true rfl), (Nat.le_of_ble_eq_true rfl), (Nat.le_of_ble_eq_true rfl)⟩ (Nat.le_of_ble_eq_true rfl) (by first | exact mp_fd_ok mp_k_cX10_plan_ok (by decide +kernel) | decide +kernel) (fun v_66 w_67 h_68 => ?_)
    refine h_68.elim fun g_69 q_73 => q_73.elim fun g_70 q_74 => q_74.elim fun r_71 q_75 => q_75.elim fun e_76 q_77 => q_77.elim fun x_72 e_78 => ?_
    clear h_68 q_73 q_74 q_75 q_77
    subst e_76
    subst e_78
    obtain ⟨o_79, o_80, o_81, o_82, o_83⟩ := x_72
    let w6_ : va_W := [(mp_arI E a6 0 300 f5), (mp_arI E a8 0 6 g_14), (mp_arI E a9 0 6 g_15), (mp_ob10 a0 0 a13 a14 a15 a16 a17 y1 y2 y3 y4 y5 y6 y7 y8 y9 y10 a18 a1 a2 a3 a4 a5 a6 a19 r_12 a7 a8 a9 a10 x0 x1 r_63 a11 a12 y15 y16 a20 a21 a22 y17 y18 y19 y20 a23 a24 a25 y21), (mp_arI E a1 0 25 f0), (mp_arI E a2 0 180 f1), (mp_arI E a3 3 3000 f2), (mp_arI E a4 0 90 f3), (mp_arI E a5 0 300 f4), (mp_arI E a7 0 6 g_13), (mp_arI E a10 3 1500 g_16), (mp_arI E a11 0 78 g_69), (mp_arL E a12 78 g_70)]
    show mp_W E X 8 28 [(0, .ref a0), (1, .int x0), (2, .int x1), (3, .int x2)] [.int r_71] w6_ 0 0
    refine mp_run mp_k_cX10_plan_ok hF mp_tabX10_ok [mp_c (.ldc 142) 1000000, mp_h (.if_icmp .ge 16) [46]] (by decide +kernel) ?_
    refine And.intro (fun c_84 => ?_) (fun c_84 => ?_)
    · have c_84 : 1000000 ≤ r_71.toInt := c_84
      show mp_W E X 8 46 [(0, .ref a0), (1, .int x0), (2, .int x1), (3, .int x2)] [] w6_ 0 0
      refine mp_run mp_k_cX10_plan_ok hF mp_tabX10_ok [mp_c (.iconst (-1)) (-1)] (by decide +kernel) ?_
      show mp_W E X 8 47 [(0, .ref a0), (1, .int x0), (2, .int x1), (3, .int x2)] [.int (-1)] w6_ 0 0
      exact mp_iret hF hQ rfl rfl (Nat.le_of_ble_eq_true rfl) (Nat.le_of_ble_eq_true rfl) [3, 4, 5, 6, 7, 8, 0, 9, 1, 2, 10, 11, 12] (w' := [(mp_ob10 a0 0 a13 a14 a15 a16 a17 y1 y2 y3 y4 y5 y6 y7 y8 y9 y10 a18 a1 a2 a3 a4 a5 a6 a19 r_12 a7 a8 a9 a10 x0 x1 r_63 a11 a12 y15 y16 a20 a21 a22 y17 y18 y19 y20 a23 a24 a25 y21), (mp_arI E a1 0 25 f0), (mp_arI E a2 0 180 f1), (mp_arI E a3 3 3000 f2), (mp_arI E a4 0 90 f3), (mp_arI E a5 0 300 f4), (mp_arI E a6 0 300 f5), (mp_arI E a7 0 6 g_13), (mp_arI E a8 0 6 g_14), (mp_arI E a9 0 6 g_15), (mp_arI E a10 3 1500 g_16), (mp_arI E a11 0 78 g_69), (mp_arL E a12 78 g_70)]) rfl rfl ⟨r_12, x0, x1, r_63, g_13, g_14, g_15, g_16, g_69, g_70, (-1), rfl, l_20, (by (first | exact mp_o1658 u_21 | omega)), (by (first | exact c_17 | omega)), (by (first | exact x_24 | omega)), (by (first | exact mp_o254 c_18 | omega)), (by (first | exact c_19 | omega)), (by decide), (by decide), p_22, rfl⟩ (by first | exact mp_fd_ok mp_k_cX10_plan_ok (by decide +kernel) | decide +kernel)
    · have c_84 : r_71.toInt < 1000000 := c_84
      show mp_W E X 8 33 [(0, .ref a0), (1, .int x0), (2, .int x1), (3, .int x2)] [] w6_ 0 0
      refine mp_run mp_k_cX10_plan_ok hF mp_tabX10_ok [mp_i (.iload_n 3), mp_i .i2l, mp_cl (.lconst 0) 0, mp_i (.iload_n 2), mp_c (.iconst 1) 1, mp_i .isub, mp_i .i2l] (by decide +kernel) ?_
      intro z_85 h_86
      have e_87 : z_85.toInt = x2.toInt := mp_i2l h_86
      intro z_88 h_89
      have e_90 : z_88.toInt = x1.toInt - 1 := mp_subi (a := x1.toInt) (b := 1) h_89 rfl (by decide) (by (first | exact mp_o617 c_18 | omega)) (by (first | exact mp_o617 c_18 | omega))
      intro z_91 h_92
      have e_93 : z_91.toInt = z_88.toInt := mp_i2l h_92
      show mp_W E X 8 40 [(0, .ref a0), (1, .int x0), (2, .int x1), (3, .int x2)] [.long z_91, .long 0, .long z_85] w6_ 0 0
      refine mp_callS hF (As := [.long z_85, .long 0, .long z_91]) (rest := []) (wr := w6_) (bX10_in_0 E z_85 0 z_91) mp_lkX10_97 [] [0, 1, 2, 3, 4, 5, 6, 7, 8, 9, 10, 11, 12] rfl rfl rfl rfl rfl ⟨(Nat.le_of_ble_eq_true rfl), (Nat.le_of_ble_eq_true rfl), (Nat.le_of_ble_eq_true rfl), (Nat.le_of_ble_eq_true rfl)⟩ (Nat.le_of_ble_eq_true rfl) (by first | exact mp_fd_ok mp_k_cX10_plan_ok (by decide +kernel) | decide +kernel) (fun v_94 w_95 h_96 => ?_)
      rcases h_96 with ⟨rfl, x_97, rfl⟩ | ⟨rfl, c_98, c_99, rfl⟩
      · skip
        have i_100 : (0 : Int64).toInt = 0 := by decide
        show mp_W E X 8 43 [(0, .ref a0), (1, .int x0), (2, .int x1), (3, .int x2)] [.int 0] w6_ 0 0
        refine mp_run mp_k_cX10_plan_ok hF mp_tabX10_ok [mp_h (.ifCond .ne 5) [48]] (by decide +kernel) ?_
        refine And.intro (fun c_101 => absurd c_101 (by decide)) (fun _ => ?_)
        show mp_W E X 8 46 [(0, .ref a0), (1, .int x0), (2, .int x1), (3, .int x2)] [] w6_ 0 0
        refine mp_run mp_k_cX10_plan_ok hF mp_tabX10_ok [mp_c (.iconst (-1)) (-1)] (by decide +kernel) ?_
        show mp_W E X 8 47 [(0, .ref a0), (1, .int x0), (2, .int x1), (3, .int x2)] [.int (-1)] w6_ 0 0
        exact mp_iret hF hQ rfl rfl (Nat.le_of_ble_eq_true rfl) (Nat.le_of_ble_eq_true rfl) [3, 4, 5, 6, 7, 8, 0, 9, 1, 2, 10, 11, 12] (w' := [(mp_ob10 a0 0 a13 a14 a15 a16 a17 y1 y2 y3 y4 y5 y6 y7 y8 y9 y10 a18 a1 a2 a3 a4 a5 a6 a19 r_12 a7 a8 a9 a10 x0 x1 r_63 a11 a12 y15 y16 a20 a21 a22 y17 y18 y19 y20 a23 a24 a25 y21), (mp_arI E a1 0 25 f0), (mp_arI E a2 0 180 f1), (mp_arI E a3 3 3000 f2), (mp_arI E a4 0 90 f3), (mp_arI E a5 0 300 f4), (mp_arI E a6 0 300 f5), (mp_arI E a7 0 6 g_13), (mp_arI E a8 0 6 g_14), (mp_arI E a9 0 6 g_15), (mp_arI E a10 3 1500 g_16), (mp_arI E a11 0 78 g_69), (mp_arL E a12 78 g_70)]) rfl rfl ⟨r_12, x0, x1, r_63, g_13, g_14, g_15, g_16, g_69, g_70, (-1), rfl, l_20, (by (first | exact mp_o1658 u_21 | omega)), (by (first | exact c_17 | omega)), (by (first | exact x_24 | omega)), (by (first | exact mp_o254 c_18 | omega)), (by (first | exact c_19 | omega)), (by decide), (by decide), p_22, rfl⟩ (by first | exact mp_fd_ok mp_k_cX10_plan_ok (by decide +kernel) | decide +kernel)
      · skip
        have c_98 : 0 ≤ z_85.toInt := c_98
        have c_99 : z_85.toInt ≤ z_91.toInt := c_99
        have i_102 : (0 : Int64).toInt = 0 := by decide
        show mp_W E X 8 43 [(0, .ref a0), (1, .int x0), (2, .int x1), (3, .int x2)] [.int 1] w6_ 0 0
        refine mp_run mp_k_cX10_plan_ok hF mp_tabX10_ok [mp_h (.ifCond .ne 5) [48]] (by decide +kernel) ?_
        refine And.intro (fun _ => ?_) (fun c_103 => absurd c_103 (by decide))
        show mp_W E X 8 48 [(0, .ref a0), (1, .int x0), (2, .int x1), (3, .int x2)] [] w6_ 0 0
        refine mp_run mp_k_cX10_plan_ok hF mp_tabX10_ok [mp_i (.aload_n 0), mp_h (.getfield 56) [25, 3], mp_i (.iload_n 1), mp_h .iaload [9], mp_i (.istore 4), mp_i (.aload_n 0)] (by decide +kernel) ?_
        refine And.intro rfl (And.intro rfl ?_)
        refine And.intro rfl (And.intro rfl (And.intro (vp_in_iff.mpr (by (first | exact mp_o1658 x_24 | omega))) ?_))
        intro z_104 h_105
        have e_106 : 0 ≤ z_104.toInt ∧ z_104.toInt ≤ 5 := mp_all_ld h_105 p_22 (by (first | exact c_17 | omega)) (by (first | exact mp_o1658 x_24 | omega))
        have e_107 : z_104.toInt = (g_13 (x0.toInt.toNat)).toInt := mp_at_i h_105 (by (first | exact mp_o369 c_17 | omega))
        show mp_W E X 8 57 [(4, .int z_104), (0, .ref a0), (1, .int x0), (2, .int x1), (3, .int x2)] [.ref a0] w6_ 0 0
        refine mp_callV hF (As := []) (rest := []) (wr := [(mp_arI E a6 0 300 f5), (mp_arI E a8 0 6 g_14), (mp_arI E a9 0 6 g_15), (mp_arI E a2 0 180 f1), (mp_arI E a3 3 3000 f2), (mp_arI E a7 0 6 g_13), (mp_arI E a11 0 78 g_69), (mp_arL E a12 78 g_70)]) (bX10_onceNow_107 E a0 a1 a4 a5 a10 a13 a14 a15 a16 a17 a18 a2 a3 a6 a19 a7 a8 a9 a11 a12 a20 a21 a22 a23 a24 a25 f0 f3 f4 g_16 0 y1 y2 y3 y4 y5 y6 y7 y8 y9 y10 r_12 x0 x1 r_63 y15 y16 y17 y18 y19 y20 y21 p0 p1 p2 p3 p4 p7 p8 p9 p10 p11 p12 l_y1 u_y1 l_y2 u_y2 l_y3 u_y3 l_y4 u_y4 l_20 (by (first | exact mp_o369 l_20 | omega)) (by (first | exact c_17 | omega)) (by (first | exact x_24 | omega)) (by (first | exact mp_o254 c_18 | omega)) (by (first | exact c_19 | omega))) mp_lkX10_356 3 rfl [3, 4, 7, 8, 10] [0, 1, 2, 5, 6, 9, 11, 12] rfl rfl rfl rfl rfl ⟨(Nat.le_of_ble_eq_true rfl), (Nat.le_of_ble_eq_true rfl), (Nat.le_of_ble_eq_true rfl), (Nat.le_of_ble_eq_true rfl)⟩ (Nat.le_of_ble_eq_true rfl) (by first | exact mp_fd_ok mp_k_cX10_plan_ok (by decide +kernel) | decide +kernel) (fun v_108 w_109 h_110 => ?_)
        refine h_110.elim fun r_111 q_115 => q_115.elim fun e_116 q_117 => q_117.elim fun l_112 q_118 => q_118.elim fun u_113 q_119 => q_119.elim fun x_114 e_120 => ?_
        clear h_110 q_115 q_117 q_118 q_119
        subst e_116
        subst e_120
        let w7_ : va_W := [(mp_arI E a6 0 300 f5), (mp_arI E a8 0 6 g_14), (mp_arI E a9 0 6 g_15), (mp_arI E a2 0 180 f1), (mp_arI E a3 3 3000 f2), (mp_arI E a7 0 6 g_13), (mp_arI E a11 0 78 g_69), (mp_arL E a12 78 g_70), (mp_ob10 a0 0 a13 a14 a15 a16 a17 y1 y2 y3 y4 y5 y6 y7 y8 y9 y10 a18 a1 a2 a3 a4 a5 a6 a19 r_12 a7 a8 a9 a10 x0 x1 r_63 a11 a12 y15 y16 a20 a21 a22 y17 y18 y19 y20 a23 a24 a25 y21), (mp_arI E a1 0 25 f0), (mp_arI E a4 0 90 f3), (mp_arI E a5 0 300 f4), (mp_arI E a10 3 1500 g_16)]
        show mp_W E X 8 60 [(4, .int z_104), (0, .ref a0), (1, .int x0), (2, .int x1), (3, .int x2)] [.int r_111] w7_ 0 0
        refine mp_run mp_k_cX10_plan_ok hF mp_tabX10_ok [mp_i (.istore 5), mp_c (.iconst 0) 0, mp_i (.istore 6)] (by decide +kernel) ?_
        show mp_W E X 8 65 [(6, .int 0), (5, .int r_111), (4, .int z_104), (0, .ref a0), (1, .int x0), (2, .int x1), (3, .int x2)] [] w7_ 0 0
        have lp_130 : ∀ (d_131 : Nat) (i_121 : Int32) (i_122 : Int32) (i_123 : Int32), 0 ≤ i_121.toInt → i_121.toInt ≤ 12 → 0 ≤ i_123.toInt → i_123.toInt ≤ 5 → (mp_PW ((f1, f2, f3, f4, g_13, f0), r_63, x0.toInt) r_12.toInt x1.toInt (f0 0).toInt g_69 i_121.toInt.toNat i_123.toInt.toNat i_122) → (0 ≤ i_121.toInt) → x2.toInt - i_121.toInt + 1 ≤ (d_131 : Int) → mp_W E X 8 65 [(6, .int i_121), (5, .int i_122), (4, .int i_123), (0, .ref a0), (1, .int x0), (2, .int x1), (3, .int x2)] [] [(mp_arI E a6 0 300 f5), (mp_arI E a8 0 6 g_14), (mp_arI E a9 0 6 g_15), (mp_arI E a2 0 180 f1), (mp_arI E a3 3 3000 f2), (mp_arI E a7 0 6 g_13), (mp_arI E a11 0 78 g_69), (mp_arL E a12 78 g_70), (mp_ob10 a0 0 a13 a14 a15 a16 a17 y1 y2 y3 y4 y5 y6 y7 y8 y9 y10 a18 a1 a2 a3 a4 a5 a6 a19 r_12 a7 a8 a9 a10 x0 x1 r_63 a11 a12 y15 y16 a20 a21 a22 y17 y18 y19 y20 a23 a24 a25 y21), (mp_arI E a1 0 25 f0), (mp_arI E a4 0 90 f3), (mp_arI E a5 0 300 f4), (mp_arI E a10 3 1500 g_16)] 0 0 := by
          intro d_131
          induction d_131 using Nat.strongRecOn with
          | ind d_131 ih_132 =>
            intro i_121 i_122 i_123 l_124 u_125 l_126 u_127 x_128 x_129 hm_133
            refine mp_run mp_k_cX10_plan_ok hF mp_tabX10_ok [mp_i (.iload 6), mp_i (.iload_n 3), mp_h (.if_icmp .gt 56) [124]] (by decide +kernel) ?_
            refine And.intro (fun c_134 => ?_) (fun c_134 => ?_)
            · have c_134 : x2.toInt < i_121.toInt := c_134
              show mp_W E X 8 124 [(6, .int i_121), (5, .int i_122), (4, .int i_123), (0, .ref a0), (1, .int x0), (2, .int x1), (3, .int x2)] [] w7_ 0 0
              refine mp_run mp_k_cX10_plan_ok hF mp_tabX10_ok [mp_i (.iload 4)] (by decide +kernel) ?_
              show mp_W E X 8 126 [(6, .int i_121), (5, .int i_122), (4, .int i_123), (0, .ref a0), (1, .int x0), (2, .int x1), (3, .int x2)] [.int i_123] w7_ 0 0
              exact mp_iret hF hQ rfl rfl (Nat.le_of_ble_eq_true rfl) (Nat.le_of_ble_eq_true rfl) [8, 9, 3, 4, 10, 11, 0, 5, 1, 2, 12, 6, 7] (w' := [(mp_ob10 a0 0 a13 a14 a15 a16 a17 y1 y2 y3 y4 y5 y6 y7 y8 y9 y10 a18 a1 a2 a3 a4 a5 a6 a19 r_12 a7 a8 a9 a10 x0 x1 r_63 a11 a12 y15 y16 a20 a21 a22 y17 y18 y19 y20 a23 a24 a25 y21), (mp_arI E a1 0 25 f0), (mp_arI E a2 0 180 f1), (mp_arI E a3 3 3000 f2), (mp_arI E a4 0 90 f3), (mp_arI E a5 0 300 f4), (mp_arI E a6 0 300 f5), (mp_arI E a7 0 6 g_13), (mp_arI E a8 0 6 g_14), (mp_arI E a9 0 6 g_15), (mp_arI E a10 3 1500 g_16), (mp_arI E a11 0 78 g_69), (mp_arL E a12 78 g_70)]) rfl rfl ⟨r_12, x0, x1, r_63, g_13, g_14, g_15, g_16, g_69, g_70, i_123, rfl, l_20, (by (first | exact mp_o1658 u_21 | omega)), (by (first | exact c_17 | omega)), (by (first | exact x_24 | omega)), (by (first | exact mp_o254 c_18 | omega)), (by (first | exact c_19 | omega)), (by (first | exact mp_o399 l_126 | omega)), u_127, p_22, rfl⟩ (by first | exact mp_fd_ok mp_k_cX10_plan_ok (by decide +kernel) | decide +kernel)
            · have c_134 : i_121.toInt ≤ x2.toInt := c_134
              show mp_W E X 8 71 [(6, .int i_121), (5, .int i_122), (4, .int i_123), (0, .ref a0), (1, .int x0), (2, .int x1), (3, .int x2)] [] w7_ 0 0
              refine mp_run mp_k_cX10_plan_ok hF mp_tabX10_ok [mp_c (.iconst 0) 0, mp_i (.istore 7)] (by decide +kernel) ?_
              show mp_W E X 8 74 [(7, .int 0), (6, .int i_121), (5, .int i_122), (4, .int i_123), (0, .ref a0), (1, .int x0), (2, .int x1), (3, .int x2)] [] w7_ 0 0
              have lp_138 : ∀ (d_139 : Nat) (i_135 : Int32), (∀ t : Nat, (t : Int) < i_135.toInt → ¬ mp_stp ((f1, f2, f3, f4, g_13, f0), r_63, x0.toInt) r_12.toInt g_69 i_121.toInt.toNat i_123.toInt.toNat i_122 t) → (0 ≤ i_135.toInt) → 6 - i_135.toInt ≤ (d_139 : Int) → mp_W E X 8 74 [(7, .int i_135), (6, .int i_121), (5, .int i_122), (4, .int i_123), (0, .ref a0), (1, .int x0), (2, .int x1), (3, .int x2)] [] [(mp_arI E a6 0 300 f5), (mp_arI E a8 0 6 g_14), (mp_arI E a9 0 6 g_15), (mp_arI E a2 0 180 f1), (mp_arI E a3 3 3000 f2), (mp_arI E a7 0 6 g_13), (mp_arI E a11 0 78 g_69), (mp_arL E a12 78 g_70), (mp_ob10 a0 0 a13 a14 a15 a16 a17 y1 y2 y3 y4 y5 y6 y7 y8 y9 y10 a18 a1 a2 a3 a4 a5 a6 a19 r_12 a7 a8 a9 a10 x0 x1 r_63 a11 a12 y15 y16 a20 a21 a22 y17 y18 y19 y20 a23 a24 a25 y21), (mp_arI E a1 0 25 f0), (mp_arI E a4 0 90 f3), (mp_arI E a5 0 300 f4), (mp_arI E a10 3 1500 g_16)] 0 0 := by
                intro d_139
                induction d_139 using Nat.strongRecOn with
                | ind d_139 ih_140 =>
                  intro i_135 x_136 x_137 hm_141
                  have e_142 := mp_res_at p0 0 (by decide) (by decide)
                  have e_143 := mp_PW_to x_128 (by (first | exact mp_o1673 e_90 i_102 e_93 c_99 c_98 c_134 e_87 | omega)) x_136
                  refine mp_run mp_k_cX10_plan_ok hF mp_tabX10_ok [mp_i (.aload_n 0), mp_i (.iload 6), mp_i (.iload 4), mp_i (.iload 7), mp_i (.iload 5)] (by decide +kernel) ?_
                  show mp_W E X 8 83 [(7, .int i_135), (6, .int i_121), (5, .int i_122), (4, .int i_123), (0, .ref a0), (1, .int x0), (2, .int x1), (3, .int x2)] [.int i_122, .int i_135, .int i_123, .int i_121, .ref a0] w7_ 0 0
                  refine mp_callV hF (As := [.int i_121, .int i_123, .int i_135, .int i_122]) (rest := []) (wr := [(mp_arI E a6 0 300 f5), (mp_arI E a8 0 6 g_14), (mp_arI E a9 0 6 g_15), (mp_arL E a12 78 g_70), (mp_arI E a10 3 1500 g_16)]) (bX10_isStep_114 E a0 a1 a2 a3 a4 a5 a7 a11 a13 a14 a15 a16 a17 a18 a6 a19 a8 a9 a10 a12 a20 a21 a22 a23 a24 a25 f0 f1 f2 f3 f4 g_13 g_69 0 y1 y2 y3 y4 y5 y6 y7 y8 y9 y10 r_12 x0 x1 r_63 y15 y16 y17 y18 y19 y20 y21 i_121 i_123 i_135 i_122 p0 p1 p2 p3 p4 p5 p6 p7 p8 p9 p10 p11 p12 p_22 l_124 (by (first | exact mp_o1674 c_19 e_90 e_93 c_99 c_134 e_87 | omega)) l_126 u_127 (by (first | exact x_137 | omega)) (by (first | exact mp_o1538 e_143 e_142 | omega)) l_y1 u_y1 l_y2 u_y2 l_y3 u_y3 l_y4 u_y4 l_20 (by (first | exact mp_o1658 u_21 | omega)) (by (first | exact c_17 | omega)) (by (first | exact x_24 | omega)) (by (first | exact mp_o254 c_18 | omega)) (by (first | exact c_19 | omega)) (by (first | exact mp_o1675 x_27 e_90 e_93 c_99 c_134 e_87 | omega)) x_128 (by (first | exact mp_o1676 e_90 e_93 c_99 c_134 e_87 | omega)) (by (first | exact e_143 | omega))) mp_lkX10_370 8 rfl [8, 9, 3, 4, 10, 11, 5, 6] [0, 1, 2, 7, 12] rfl rfl rfl rfl rfl ⟨(Nat.le_of_ble_eq_true rfl), (Nat.le_of_ble_eq_true rfl), (Nat.le_of_ble_eq_true rfl), (Nat.le_of_ble_eq_true rfl)⟩ (Nat.le_of_ble_eq_true rfl) (by first | exact mp_fd_ok mp_k_cX10_plan_ok (by decide +kernel) | decide +kernel) (fun v_144 w_145 h_146 => ?_)
                  rcases h_146 with ⟨rfl, x_147, rfl⟩ | ⟨rfl, x_148, rfl⟩
                  · skip
                    let w8_ : va_W := [(mp_arI E a6 0 300 f5), (mp_arI E a8 0 6 g_14), (mp_arI E a9 0 6 g_15), (mp_arL E a12 78 g_70), (mp_arI E a10 3 1500 g_16), (mp_ob10 a0 0 a13 a14 a15 a16 a17 y1 y2 y3 y4 y5 y6 y7 y8 y9 y10 a18 a1 a2 a3 a4 a5 a6 a19 r_12 a7 a8 a9 a10 x0 x1 r_63 a11 a12 y15 y16 a20 a21 a22 y17 y18 y19 y20 a23 a24 a25 y21), (mp_arI E a1 0 25 f0), (mp_arI E a2 0 180 f1), (mp_arI E a3 3 3000 f2), (mp_arI E a4 0 90 f3), (mp_arI E a5 0 300 f4), (mp_arI E a7 0 6 g_13), (mp_arI E a11 0 78 g_69)]
                    show mp_W E X 8 86 [(7, .int i_135), (6, .int i_121), (5, .int i_122), (4, .int i_123), (0, .ref a0), (1, .int x0), (2, .int x1), (3, .int x2)] [.int 0] w8_ 0 0
                    refine mp_run mp_k_cX10_plan_ok hF mp_tabX10_ok [mp_h (.ifCond .ne 9) [95]] (by decide +kernel) ?_
                    refine And.intro (fun c_149 => absurd c_149 (by decide)) (fun _ => ?_)
                    show mp_W E X 8 89 [(7, .int i_135), (6, .int i_121), (5, .int i_122), (4, .int i_123), (0, .ref a0), (1, .int x0), (2, .int x1), (3, .int x2)] [] w8_ 0 0
                    refine mp_run mp_k_cX10_plan_ok hF mp_tabX10_ok [mp_c (.iinc 7 1) 1, mp_h (.goto (-18)) [74]] (by decide +kernel) ?_
                    intro z_150 h_151
                    have e_152 : z_150.toInt = i_135.toInt + 1 := mp_add (a := i_135.toInt) (b := 1) h_151 rfl (by decide) (by (first | exact mp_o2 x_137 | omega)) (by (first | exact mp_o1677 e_143 e_142 | omega))
                    show mp_W E X 8 74 [(7, .int z_150), (6, .int i_121), (5, .int i_122), (4, .int i_123), (0, .ref a0), (1, .int x0), (2, .int x1), (3, .int x2)] [] w8_ 0 0
                    exact mp_sub [0, 1, 2, 3, 4, 5, 6, 7] rfl [0, 1, 2, 7, 8, 11, 12, 3, 5, 6, 9, 10, 4] rfl rfl (ih_140 (d_139 - 1) (by (first | exact mp_o1678 hm_141 e_143 e_142 | omega)) z_150 (mp_nst_s x_136 x_147 (by (first | exact x_137 | omega)) (by (first | exact e_152 | omega))) (by (first | exact mp_o51 x_137 e_152 | omega)) (by (first | exact mp_o1678 hm_141 e_143 e_142 | omega)))
                  · skip
                    let w9_ : va_W := [(mp_arI E a6 0 300 f5), (mp_arI E a8 0 6 g_14), (mp_arI E a9 0 6 g_15), (mp_arL E a12 78 g_70), (mp_arI E a10 3 1500 g_16), (mp_ob10 a0 0 a13 a14 a15 a16 a17 y1 y2 y3 y4 y5 y6 y7 y8 y9 y10 a18 a1 a2 a3 a4 a5 a6 a19 r_12 a7 a8 a9 a10 x0 x1 r_63 a11 a12 y15 y16 a20 a21 a22 y17 y18 y19 y20 a23 a24 a25 y21), (mp_arI E a1 0 25 f0), (mp_arI E a2 0 180 f1), (mp_arI E a3 3 3000 f2), (mp_arI E a4 0 90 f3), (mp_arI E a5 0 300 f4), (mp_arI E a7 0 6 g_13), (mp_arI E a11 0 78 g_69)]
                    show mp_W E X 8 86 [(7, .int i_135), (6, .int i_121), (5, .int i_122), (4, .int i_123), (0, .ref a0), (1, .int x0), (2, .int x1), (3, .int x2)] [.int 1] w9_ 0 0
                    refine mp_run mp_k_cX10_plan_ok hF mp_tabX10_ok [mp_h (.ifCond .ne 9) [95]] (by decide +kernel) ?_
                    refine And.intro (fun _ => ?_) (fun c_153 => absurd c_153 (by decide))
                    show mp_W E X 8 95 [(7, .int i_135), (6, .int i_121), (5, .int i_122), (4, .int i_123), (0, .ref a0), (1, .int x0), (2, .int x1), (3, .int x2)] [] w9_ 0 0
                    refine mp_run mp_k_cX10_plan_ok hF mp_tabX10_ok [mp_i (.aload_n 0), mp_i (.iload 5), mp_i (.iload 7), mp_i (.aload_n 0), mp_h (.getfield 276) [24, 5], mp_i (.iload 6), mp_i .iadd, mp_c (.iconst 1) 1, mp_i .iadd] (by decide +kernel) ?_
                    refine And.intro rfl (And.intro rfl ?_)
                    intro z_154 h_155
                    have e_156 : z_154.toInt = r_12.toInt + i_121.toInt := mp_add (a := r_12.toInt) (b := i_121.toInt) h_155 rfl rfl (by (first | exact mp_o116 l_20 l_124 | omega)) (by (first | exact mp_o116 l_20 l_124 | omega))
                    intro z_157 h_158
                    have e_159 : z_157.toInt = z_154.toInt + 1 := mp_add (a := z_154.toInt) (b := 1) h_158 rfl (by decide) (by (first | exact mp_o1679 l_20 l_124 e_156 | omega)) (by (first | exact mp_o1680 x_27 e_90 e_93 c_99 e_156 e_87 c_134 | omega))
                    show mp_W E X 8 109 [(7, .int i_135), (6, .int i_121), (5, .int i_122), (4, .int i_123), (0, .ref a0), (1, .int x0), (2, .int x1), (3, .int x2)] [.int z_157, .int i_135, .int i_122, .ref a0] w9_ 0 0
                    refine mp_callV hF (As := [.int i_122, .int i_135, .int z_157]) (rest := []) (wr := [(mp_arI E a6 0 300 f5), (mp_arI E a8 0 6 g_14), (mp_arI E a9 0 6 g_15), (mp_arL E a12 78 g_70), (mp_arI E a10 3 1500 g_16), (mp_arI E a11 0 78 g_69)]) (bX10_onceBehind_110 E a0 a1 a2 a3 a4 a5 a7 a13 a14 a15 a16 a17 a18 a6 a19 a8 a9 a10 a11 a12 a20 a21 a22 a23 a24 a25 f0 f1 f2 f3 f4 g_13 0 y1 y2 y3 y4 y5 y6 y7 y8 y9 y10 r_12 x0 x1 r_63 y15 y16 y17 y18 y19 y20 y21 i_122 i_135 z_157 p0 p1 p2 p3 p4 p5 p6 p7 p8 p9 p10 p11 p12 p_22 l_y1 u_y1 l_y2 u_y2 l_y3 u_y3 l_y4 u_y4 l_20 (by (first | exact mp_o1658 u_21 | omega)) (by (first | exact c_17 | omega)) (by (first | exact x_24 | omega)) (by (first | exact mp_o254 c_18 | omega)) (by (first | exact c_19 | omega))) mp_lkX10_349 5 rfl [5, 6, 7, 8, 9, 10, 11] [0, 1, 2, 3, 4, 12] rfl rfl rfl rfl rfl ⟨(Nat.le_of_ble_eq_true rfl), (Nat.le_of_ble_eq_true rfl), (Nat.le_of_ble_eq_true rfl), (Nat.le_of_ble_eq_true rfl)⟩ (Nat.le_of_ble_eq_true rfl) (by first | exact mp_fd_ok mp_k_cX10_plan_ok (by decide +kernel) | decide +kernel) (fun v_160 w_161 h_162 => ?_)
                    obtain ⟨r_163, rfl, x_164, rfl⟩ := h_162
                    have k_165 : r_163 = mp_oncv ((f1, f2, f3, f4, g_13, f0), r_63, x0.toInt) i_122 ((i_135.toInt.toNat : Nat) : Int) (r_12.toInt + ((i_121.toInt.toNat : Nat) : Int) + 1) := by rw [show ((i_135.toInt.toNat : Nat) : Int) = i_135.toInt by (first | exact mp_o156 x_137 | omega), show r_12.toInt + ((i_121.toInt.toNat : Nat) : Int) + 1 = z_157.toInt by (first | exact mp_o1627 l_124 e_156 e_159 | omega)]; exact x_164
                    let w10_ : va_W := [(mp_arI E a6 0 300 f5), (mp_arI E a8 0 6 g_14), (mp_arI E a9 0 6 g_15), (mp_arL E a12 78 g_70), (mp_arI E a10 3 1500 g_16), (mp_arI E a11 0 78 g_69), (mp_ob10 a0 0 a13 a14 a15 a16 a17 y1 y2 y3 y4 y5 y6 y7 y8 y9 y10 a18 a1 a2 a3 a4 a5 a6 a19 r_12 a7 a8 a9 a10 x0 x1 r_63 a11 a12 y15 y16 a20 a21 a22 y17 y18 y19 y20 a23 a24 a25 y21), (mp_arI E a1 0 25 f0), (mp_arI E a2 0 180 f1), (mp_arI E a3 3 3000 f2), (mp_arI E a4 0 90 f3), (mp_arI E a5 0 300 f4), (mp_arI E a7 0 6 g_13)]
                    show mp_W E X 8 112 [(7, .int i_135), (6, .int i_121), (5, .int i_122), (4, .int i_123), (0, .ref a0), (1, .int x0), (2, .int x1), (3, .int x2)] [.int r_163] w10_ 0 0
                    refine mp_run mp_k_cX10_plan_ok hF mp_tabX10_ok [mp_i (.istore 5), mp_i (.iload 7), mp_i (.istore 4), mp_c (.iinc 6 1) 1, mp_h (.goto (-56)) [65]] (by decide +kernel) ?_
                    intro z_166 h_167
                    have e_168 : z_166.toInt = i_121.toInt + 1 := mp_add (a := i_121.toInt) (b := 1) h_167 rfl (by decide) (by (first | exact mp_o2 l_124 | omega)) (by (first | exact mp_o2 l_124 | omega))
                    show mp_W E X 8 65 [(6, .int z_166), (4, .int i_135), (5, .int r_163), (7, .int i_135), (0, .ref a0), (1, .int x0), (2, .int x1), (3, .int x2)] [] w10_ 0 0
                    exact mp_sub [0, 2, 1, 4, 5, 6, 7] rfl [0, 1, 2, 8, 9, 12, 5, 3, 6, 7, 10, 11, 4] rfl rfl (ih_132 (d_131 - 1) (by (first | exact mp_o586 hm_133 c_134 | omega)) z_166 r_163 i_135 (by (first | exact mp_o586 l_124 u_125 | omega)) (by (first | exact mp_o1681 c_19 e_90 e_93 c_99 e_168 e_87 c_134 | omega)) (by (first | exact x_137 | omega)) (by (first | exact mp_o1538 e_143 e_142 | omega)) (mp_PW_s2 x_128 x_148 k_165 (by (first | exact mp_o1682 l_124 e_90 e_93 c_99 c_134 e_87 | omega)) (by (first | exact mp_o473 x_137 e_143 | omega)) (by (first | exact mp_o1538 e_143 e_142 | omega)) (by (first | exact mp_o51 l_124 e_168 | omega))) (by (first | exact mp_o586 l_124 u_125 | omega)) (by (first | exact mp_o772 hm_133 e_168 | omega)))
              exact mp_sub [0, 1, 2, 3, 4, 5, 6, 7] rfl [0, 1, 2, 3, 4, 5, 6, 7, 8, 9, 10, 11, 12] rfl rfl (lp_138 _ 0 (fun t ht => absurd ht (by have h8 : (0 : Int32).toInt = 0 := rfl; omega)) (by decide) (Int.self_le_toNat _))
        exact mp_sub [0, 1, 2, 3, 4, 5, 6] rfl [0, 1, 2, 3, 4, 5, 6, 7, 8, 9, 10, 11, 12] rfl rfl (lp_130 _ 0 r_111 z_104 (by decide) (by decide) e_106.1 e_106.2 (mp_PW_0 o_81 o_82 (x_114.trans o_80.symm) o_83 (by (first | exact c_84 | omega)) (by (first | exact mp_o1683 e_107 e_106 | omega)) (by (first | exact mp_o1683 e_107 e_106 | omega)) (by decide)) (by decide) (Int.self_le_toNat _))
set_option maxHeartbeats 4000000 in
set_option maxRecDepth 100000 in
theorem bX10_sizeOf_116 (E : mp_E) (x0 : Int32) : mp_Ct E yX10_sizeOf cX10_sizeOf 3 (some FieldType.int) 0 0 0 0 [.int x0] [] (fun v w' => ∃ r1 : Int32, v = some (.int r1) ∧ w' = []) := by
  refine mp_met false (by decide) (by decide) (Nat.le_of_ble_eq_true rfl) (fun X hF hQ => ?_)
  have hF : mp_F E X (RX10, cX10_sizeOf, 3, (0, 0, 0, 0), (some FieldType.int), false) := hF
  show mp_W E X 3 0 [(0, .int x0)] [] [] 0 0
  refine mp_run mp_k_cX10_sizeOf_ok hF mp_tabX10_ok [mp_c (.iconst 0) 0, mp_i (.istore_n 1), mp_i (.iload_n 0), mp_i (.istore_n 2)] (by decide +kernel) ?_
  show mp_W E X 3 4 [(2, .int x0), (1, .int 0), (0, .int x0)] [] [] 0 0
  have lp_3 : ∀ (d_4 : Nat) (i_1 : Int32) (i_2 : Int32), (i_1.toUInt32.toNat : Int) ≤ (d_4 : Int) → mp_W E X 3 4 [(2, .int i_1), (1, .int i_2), (0, .int x0)] [] [] 0 0 := by
    intro d_4
    induction d_4 using Nat.strongRecOn with
    | ind d_4 ih_5 =>
      intro i_1 i_2 hm_6
      refine mp_run mp_k_cX10_sizeOf_ok hF mp_tabX10_ok [mp_i (.iload_n 2), mp_h (.ifCond .eq 15) [20]] (by decide +kernel) ?_
      refine And.intro (fun c_7 => ?_) (fun c_7 => ?_)
      · have c_7 : i_1.toInt = 0 := (congrArg Int32.toInt c_7)
        show mp_W E X 3 20 [(2, .int i_1), (1, .int i_2), (0, .int x0)] [] [] 0 0
        refine mp_run mp_k_cX10_sizeOf_ok hF mp_tabX10_ok [mp_i (.iload_n 1)] (by decide +kernel) ?_
        show mp_W E X 3 21 [(2, .int i_1), (1, .int i_2), (0, .int x0)] [.int i_2] [] 0 0
        exact mp_iret hF hQ rfl rfl (Nat.le_of_ble_eq_true rfl) (Nat.le_of_ble_eq_true rfl) [] (w' := []) rfl rfl ⟨i_2, rfl, rfl⟩ (by first | exact mp_fd_ok mp_k_cX10_sizeOf_ok (by decide +kernel) | decide +kernel)
      · have c_7 : i_1.toInt ≠ 0 := c_7
        show mp_W E X 3 8 [(2, .int i_1), (1, .int i_2), (0, .int x0)] [] [] 0 0
        refine mp_run mp_k_cX10_sizeOf_ok hF mp_tabX10_ok [mp_c (.iinc 1 1) 1, mp_i (.iload_n 2), mp_i (.iload_n 2), mp_c (.iconst 1) 1, mp_i .isub, mp_i .iand, mp_i (.istore_n 2), mp_h (.goto (-13)) [4]] (by decide +kernel) ?_
        intro z_8 h_9
        have e_10 := mp_bnd i_2
        intro z_12 h_13
        have e_14 := mp_bnd i_1
        have e_15 := mp_bnd i_1
        intro z_17 h_18
        have e_19 := mp_bnd i_1
        have e_21 := mp_lowbit h_13 h_18
        show mp_W E X 3 4 [(2, .int z_17), (1, .int z_8), (0, .int x0)] [] [] 0 0
        exact mp_sub [0, 1, 2] rfl [] rfl rfl (ih_5 (d_4 - 1) (by (first | exact mp_o1684 hm_6 c_7 e_21 | omega)) z_17 z_8 (by (first | exact mp_o1685 hm_6 e_21 c_7 | omega)))
  exact mp_sub [0, 1, 2] rfl [] rfl rfl (lp_3 _ x0 0 (Int.self_le_toNat _))
set_option maxHeartbeats 4000000 in
set_option maxRecDepth 100000 in
theorem bX10_fallenOf_117 (E : mp_E) (a0 a1 a2 a3 a4 a5 a6 a7 a8 a9 a10 a11 a12 a13 a14 a15 a16 a17 a18 a19 a20 a21 a22 a23 a24 a25 : Nat) (f0 : Nat → Int32) (f1 : Nat → Int32) (f2 : Nat → Int32) (f3 : Nat → Int32) (f4 : Nat → Int32) (f5 : Nat → Int32) (f6 : Nat → Int32) (f7 : Nat → Int32) (f8 : Nat → Int64) (y0 : Int32) (y1 : Int32) (y2 : Int32) (y3 : Int32) (y4 : Int32) (y5 : Int32) (y6 : Int64) (y7 : Int32) (y8 : Int32) (y9 : Int32) (y10 : Int32) (y11 : Int32) (y12 : Int32) (y13 : Int32) (y14 : Int32) (y15 : Int32) (y16 : Int32) (y17 : Int32) (y18 : Int32) (y19 : Int32) (y20 : Int32) (y21 : Int32) (x0 : Int32) (x1 : Int32) (p0 : mp_res f0 25 5 0 0 6) (p1 : mp_res f0 25 5 1 0 99) (p2 : mp_res f0 25 5 2 0 6) (p3 : mp_res f0 25 5 3 0 10) (p4 : mp_res f0 25 5 4 0 60) (p5 : mp_all f1 180 0 20) (p6 : mp_all f2 3000 0 1) (p7 : mp_res f3 90 3 0 0 5) (p8 : mp_res f3 90 3 1 (-1) 99) (p9 : mp_res f4 300 6 0 0 5) (p10 : mp_res f4 300 6 1 0 5) (p11 : mp_res f4 300 6 3 0 99) (p12 : mp_res f4 300 6 4 0 1) (p13 : mp_all f5 6 0 5) (l_x0 : 0 ≤ x0.toInt) (u_x0 : x0.toInt ≤ 5) (l_x1 : 1 ≤ x1.toInt) (u_x1 : x1.toInt ≤ 12) (l_y1 : 0 ≤ y1.toInt) (u_y1 : y1.toInt ≤ 1600) (l_y2 : 0 ≤ y2.toInt) (u_y2 : y2.toInt ≤ 1600) (l_y3 : 0 ≤ y3.toInt) (u_y3 : y3.toInt ≤ 4) (l_y4 : 0 ≤ y4.toInt) (u_y4 : y4.toInt ≤ 1600) (l_y11 : 0 ≤ y11.toInt) (u_y11 : y11.toInt ≤ 99) (l_y12 : 0 ≤ y12.toInt) (u_y12 : y12.toInt ≤ 5) (l_y13 : 0 ≤ y13.toInt) (u_y13 : y13.toInt ≤ 12) (q0 : y11.toInt + x1.toInt ≤ 99) : mp_Ct E yX10_fallenOf cX10_fallenOf 6 (some FieldType.int) 18 0 0 488 [.ref a0, .int x0, .int x1] [(mp_ob10 a0 y0 a10 a11 a12 a13 a14 y1 y2 y3 y4 y5 y6 y7 y8 y9 y10 a15 a1 a2 a3 a4 a5 a16 a17 y11 a6 a18 a19 a7 y12 y13 y14 a8 a9 y15 y16 a20 a21 a22 y17 y18 y19 y20 a23 a24 a25 y21), (mp_arI E a1 0 25 f0), (mp_arI E a2 0 180 f1), (mp_arI E a3 3 3000 f2), (mp_arI E a4 0 90 f3), (mp_arI E a5 0 300 f4), (mp_arI E a6 0 6 f5), (mp_arI E a7 3 1500 f6), (mp_arI E a8 0 78 f7), (mp_arL E a9 78 f8)] (fun v w' => ∃ r1 : Int32, ∃ r2 : Int32, ∃ r3 : Int32, ∃ h4 : Nat → Int32, ∃ h5 : Nat → Int64, ∃ r6 : Int32, v = some (.int r6) ∧ 0 ≤ r1.toInt ∧ r1.toInt ≤ 5 ∧ 0 ≤ r2.toInt ∧ r2.toInt ≤ 12 ∧ 0 ≤ r6.toInt ∧ r6.toInt ≤ 1023 ∧ w' = [(mp_ob10 a0 y0 a10 a11 a12 a13 a14 y1 y2 y3 y4 y5 y6 y7 y8 y9 y10 a15 a1 a2 a3 a4 a5 a16 a17 y11 a6 a18 a19 a7 r1 r2 r3 a8 a9 y15 y16 a20 a21 a22 y17 y18 y19 y20 a23 a24 a25 y21), (mp_arI E a1 0 25 f0), (mp_arI E a2 0 180 f1), (mp_arI E a3 3 3000 f2), (mp_arI E a4 0 90 f3), (mp_arI E a5 0 300 f4), (mp_arI E a6 0 6 f5), (mp_arI E a7 3 1500 f6), (mp_arI E a8 0 78 h4), (mp_arL E a9 78 h5)]) := by
  refine mp_met false (by decide) (by decide) (Nat.le_of_ble_eq_true rfl) (fun X hF hQ => ?_)
  have hF : mp_F E X (RX10, cX10_fallenOf, 6, (18, 0, 0, 488), (some FieldType.int), false) := hF
  let w1_ : va_W := [(mp_ob10 a0 y0 a10 a11 a12 a13 a14 y1 y2 y3 y4 y5 y6 y7 y8 y9 y10 a15 a1 a2 a3 a4 a5 a16 a17 y11 a6 a18 a19 a7 y12 y13 y14 a8 a9 y15 y16 a20 a21 a22 y17 y18 y19 y20 a23 a24 a25 y21), (mp_arI E a1 0 25 f0), (mp_arI E a2 0 180 f1), (mp_arI E a3 3 3000 f2), (mp_arI E a4 0 90 f3), (mp_arI E a5 0 300 f4), (mp_arI E a6 0 6 f5), (mp_arI E a7 3 1500 f6), (mp_arI E a8 0 78 f7), (mp_arL E a9 78 f8)]
  show mp_W E X 6 0 [(0, .ref a0), (1, .int x0), (2, .int x1)] [] w1_ 0 0
  refine mp_run mp_k_cX10_fallenOf_ok hF mp_tabX10_ok [mp_i (.aload_n 0), mp_i (.iload_n 1)] (by decide +kernel) ?_
  show mp_W E X 6 2 [(0, .ref a0), (1, .int x0), (2, .int x1)] [.int x0, .ref a0] w1_ 0 0
  refine mp_callV hF (As := [.int x0]) (rest := []) (wr := [(mp_arI E a2 0 180 f1), (mp_arI E a3 3 3000 f2), (mp_arI E a6 0 6 f5), (mp_arI E a8 0 78 f7), (mp_arL E a9 78 f8)]) (bX10_keptNow_106 E a0 a1 a4 a5 a7 a10 a11 a12 a13 a14 a15 a2 a3 a16 a17 a6 a18 a19 a8 a9 a20 a21 a22 a23 a24 a25 f0 f3 f4 f6 y0 y1 y2 y3 y4 y5 y6 y7 y8 y9 y10 y11 y12 y13 y14 y15 y16 y17 y18 y19 y20 y21 x0 p0 p1 p2 p3 p4 p7 p8 p9 p10 p11 p12 l_y1 u_y1 l_y2 u_y2 l_y3 u_y3 l_y4 u_y4 l_y11 u_y11 l_y12 u_y12 l_y13 u_y13) mp_lkX10_364 0 rfl [0, 1, 4, 5, 7] [2, 3, 6, 8, 9] rfl rfl rfl rfl rfl ⟨(Nat.le_of_ble_eq_true rfl), (Nat.le_of_ble_eq_true rfl), (Nat.le_of_ble_eq_true rfl), (Nat.le_of_ble_eq_true rfl)⟩ (Nat.le_of_ble_eq_true rfl) (by first | exact mp_fd_ok mp_k_cX10_fallenOf_ok (by decide +kernel) | decide +kernel) (fun v_1 w_2 h_3 => ?_)
  obtain ⟨r_4, rfl, l_5, u_6, rfl⟩ := h_3
  let w2_ : va_W := [(mp_arI E a2 0 180 f1), (mp_arI E a3 3 3000 f2), (mp_arI E a6 0 6 f5), (mp_arI E a8 0 78 f7), (mp_arL E a9 78 f8), (mp_ob10 a0 y0 a10 a11 a12 a13 a14 y1 y2 y3 y4 y5 y6 y7 y8 y9 y10 a15 a1 a2 a3 a4 a5 a16 a17 y11 a6 a18 a19 a7 y12 y13 y14 a8 a9 y15 y16 a20 a21 a22 y17 y18 y19 y20 a23 a24 a25 y21), (mp_arI E a1 0 25 f0), (mp_arI E a4 0 90 f3), (mp_arI E a5 0 300 f4), (mp_arI E a7 3 1500 f6)]
  show mp_W E X 6 5 [(0, .ref a0), (1, .int x0), (2, .int x1)] [.int r_4] w2_ 0 0
  refine mp_run mp_k_cX10_fallenOf_ok hF mp_tabX10_ok [mp_i (.istore_n 3), mp_i (.iload_n 3), mp_i (.istore 4), mp_c (.iconst 0) 0, mp_i (.istore 5)] (by decide +kernel) ?_
  show mp_W E X 6 12 [(5, .int 0), (4, .int r_4), (3, .int r_4), (0, .ref a0), (1, .int x0), (2, .int x1)] [] w2_ 0 0
  have lp_22 : ∀ (d_23 : Nat) (i_7 : Int32) (g_8 : Nat → Int32) (g_9 : Nat → Int64) (i_10 : Int32) (i_11 : Int32) (i_12 : Int32) (i_13 : Int32), 0 ≤ i_7.toInt → i_7.toInt ≤ 1024 → 0 ≤ i_10.toInt → i_10.toInt ≤ 5 → 0 ≤ i_11.toInt → i_11.toInt ≤ 12 → 0 ≤ i_13.toInt → i_13.toInt ≤ 1023 → r_4.toInt - i_7.toInt + 1 ≤ (d_23 : Int) → mp_W E X 6 12 [(5, .int i_7), (4, .int i_13), (3, .int r_4), (0, .ref a0), (1, .int x0), (2, .int x1)] [] [(mp_arI E a2 0 180 f1), (mp_arI E a3 3 3000 f2), (mp_arI E a6 0 6 f5), (mp_arI E a8 0 78 g_8), (mp_arL E a9 78 g_9), (mp_ob10 a0 y0 a10 a11 a12 a13 a14 y1 y2 y3 y4 y5 y6 y7 y8 y9 y10 a15 a1 a2 a3 a4 a5 a16 a17 y11 a6 a18 a19 a7 i_10 i_11 i_12 a8 a9 y15 y16 a20 a21 a22 y17 y18 y19 y20 a23 a24 a25 y21), (mp_arI E a1 0 25 f0), (mp_arI E a4 0 90 f3), (mp_arI E a5 0 300 f4), (mp_arI E a7 3 1500 f6)] 0 0 := by
    intro d_23
    induction d_23 using Nat.strongRecOn with
    | ind d_23 ih_24 =>
      intro i_7 g_8 g_9 i_10 i_11 i_12 i_13 l_14 u_15 l_16 u_17 l_18 u_19 l_20 u_21 hm_25
      refine mp_run mp_k_cX10_fallenOf_ok hF mp_tabX10_ok [mp_i (.iload 5), mp_i (.iload_n 3), mp_h (.if_icmp .gt 75) [90]] (by decide +kernel) ?_
      refine And.intro (fun c_26 => ?_) (fun c_26 => ?_)
      · have c_26 : r_4.toInt < i_7.toInt := c_26
        let w3_ : va_W := [(mp_arI E a2 0 180 f1), (mp_arI E a3 3 3000 f2), (mp_arI E a6 0 6 f5), (mp_arI E a8 0 78 g_8), (mp_arL E a9 78 g_9), (mp_ob10 a0 y0 a10 a11 a12 a13 a14 y1 y2 y3 y4 y5 y6 y7 y8 y9 y10 a15 a1 a2 a3 a4 a5 a16 a17 y11 a6 a18 a19 a7 i_10 i_11 i_12 a8 a9 y15 y16 a20 a21 a22 y17 y18 y19 y20 a23 a24 a25 y21), (mp_arI E a1 0 25 f0), (mp_arI E a4 0 90 f3), (mp_arI E a5 0 300 f4), (mp_arI E a7 3 1500 f6)]
        show mp_W E X 6 90 [(5, .int i_7), (4, .int i_13), (3, .int r_4), (0, .ref a0), (1, .int x0), (2, .int x1)] [] w3_ 0 0
        refine mp_run mp_k_cX10_fallenOf_ok hF mp_tabX10_ok [mp_i (.iload 4)] (by decide +kernel) ?_
        show mp_W E X 6 92 [(5, .int i_7), (4, .int i_13), (3, .int r_4), (0, .ref a0), (1, .int x0), (2, .int x1)] [.int i_13] w3_ 0 0
        exact mp_iret hF hQ rfl rfl (Nat.le_of_ble_eq_true rfl) (Nat.le_of_ble_eq_true rfl) [5, 6, 0, 1, 7, 8, 2, 9, 3, 4] (w' := [(mp_ob10 a0 y0 a10 a11 a12 a13 a14 y1 y2 y3 y4 y5 y6 y7 y8 y9 y10 a15 a1 a2 a3 a4 a5 a16 a17 y11 a6 a18 a19 a7 i_10 i_11 i_12 a8 a9 y15 y16 a20 a21 a22 y17 y18 y19 y20 a23 a24 a25 y21), (mp_arI E a1 0 25 f0), (mp_arI E a2 0 180 f1), (mp_arI E a3 3 3000 f2), (mp_arI E a4 0 90 f3), (mp_arI E a5 0 300 f4), (mp_arI E a6 0 6 f5), (mp_arI E a7 3 1500 f6), (mp_arI E a8 0 78 g_8), (mp_arL E a9 78 g_9)]) rfl rfl ⟨i_10, i_11, i_12, g_8, g_9, i_13, rfl, l_16, u_17, l_18, u_19, l_20, u_21, rfl⟩ (by first | exact mp_fd_ok mp_k_cX10_fallenOf_ok (by decide +kernel) | decide +kernel)
      · have c_26 : i_7.toInt ≤ r_4.toInt := c_26
        let w4_ : va_W := [(mp_arI E a2 0 180 f1), (mp_arI E a3 3 3000 f2), (mp_arI E a6 0 6 f5), (mp_arI E a8 0 78 g_8), (mp_arL E a9 78 g_9), (mp_ob10 a0 y0 a10 a11 a12 a13 a14 y1 y2 y3 y4 y5 y6 y7 y8 y9 y10 a15 a1 a2 a3 a4 a5 a16 a17 y11 a6 a18 a19 a7 i_10 i_11 i_12 a8 a9 y15 y16 a20 a21 a22 y17 y18 y19 y20 a23 a24 a25 y21), (mp_arI E a1 0 25 f0), (mp_arI E a4 0 90 f3), (mp_arI E a5 0 300 f4), (mp_arI E a7 3 1500 f6)]
        show mp_W E X 6 18 [(5, .int i_7), (4, .int i_13), (3, .int r_4), (0, .ref a0), (1, .int x0), (2, .int x1)] [] w4_ 0 0
        refine mp_run mp_k_cX10_fallenOf_ok hF mp_tabX10_ok [mp_i (.iload 5), mp_i (.iload_n 3), mp_c (.iconst (-1)) (-1), mp_i .ixor, mp_i .iand, mp_h (.ifCond .ne 60) [84]] (by decide +kernel) ?_
        intro z_27 h_28
        intro z_30 h_31
        refine And.intro (fun c_33 => ?_) (fun c_33 => ?_)
        · have c_33 : z_30.toInt ≠ 0 := c_33
          show mp_W E X 6 84 [(5, .int i_7), (4, .int i_13), (3, .int r_4), (0, .ref a0), (1, .int x0), (2, .int x1)] [] w4_ 0 0
          refine mp_run mp_k_cX10_fallenOf_ok hF mp_tabX10_ok [mp_c (.iinc 5 1) 1, mp_h (.goto (-75)) [12]] (by decide +kernel) ?_
          intro z_34 h_35
          have e_36 : z_34.toInt = i_7.toInt + 1 := mp_add (a := i_7.toInt) (b := 1) h_35 rfl (by decide) (by omega) (by omega)
          show mp_W E X 6 12 [(5, .int z_34), (4, .int i_13), (3, .int r_4), (0, .ref a0), (1, .int x0), (2, .int x1)] [] w4_ 0 0
          exact mp_sub [0, 1, 2, 3, 4, 5] rfl [0, 1, 2, 3, 4, 5, 6, 7, 8, 9] rfl rfl (ih_24 (d_23 - 1) (by omega) z_34 g_8 g_9 i_10 i_11 i_12 i_13 (by omega) (by omega) l_16 u_17 l_18 u_19 l_20 u_21 (by omega))
        · have c_33 : z_30.toInt = 0 := (congrArg Int32.toInt c_33)
          show mp_W E X 6 27 [(5, .int i_7), (4, .int i_13), (3, .int r_4), (0, .ref a0), (1, .int x0), (2, .int x1)] [] w4_ 0 0
          refine mp_run mp_k_cX10_fallenOf_ok hF mp_tabX10_ok [mp_i (.iload 5)] (by decide +kernel) ?_
          show mp_W E X 6 29 [(5, .int i_7), (4, .int i_13), (3, .int r_4), (0, .ref a0), (1, .int x0), (2, .int x1)] [.int i_7] w4_ 0 0
          refine mp_callS hF (As := [.int i_7]) (rest := []) (wr := w4_) (bX10_sizeOf_116 E i_7) mp_lkX10_373 [] [0, 1, 2, 3, 4, 5, 6, 7, 8, 9] rfl rfl rfl rfl rfl ⟨(Nat.le_of_ble_eq_true rfl), (Nat.le_of_ble_eq_true rfl), (Nat.le_of_ble_eq_true rfl), (Nat.le_of_ble_eq_true rfl)⟩ (Nat.le_of_ble_eq_true rfl) (by first | exact mp_fd_ok mp_k_cX10_fallenOf_ok (by decide +kernel) | decide +kernel) (fun v_37 w_38 h_39 => ?_)
          obtain ⟨r_40, rfl, rfl⟩ := h_39
          show mp_W E X 6 32 [(5, .int i_7), (4, .int i_13), (3, .int r_4), (0, .ref a0), (1, .int x0), (2, .int x1)] [.int r_40] w4_ 0 0
          refine mp_run mp_k_cX10_fallenOf_ok hF mp_tabX10_ok [mp_i (.iload 4)] (by decide +kernel) ?_
          show mp_W E X 6 34 [(5, .int i_7), (4, .int i_13), (3, .int r_4), (0, .ref a0), (1, .int x0), (2, .int x1)] [.int i_13, .int r_40] w4_ 0 0
          refine mp_callS hF (As := [.int i_13]) (rest := [.int r_40]) (wr := w4_) (bX10_sizeOf_116 E i_13) mp_lkX10_373 [] [0, 1, 2, 3, 4, 5, 6, 7, 8, 9] rfl rfl rfl rfl rfl ⟨(Nat.le_of_ble_eq_true rfl), (Nat.le_of_ble_eq_true rfl), (Nat.le_of_ble_eq_true rfl), (Nat.le_of_ble_eq_true rfl)⟩ (Nat.le_of_ble_eq_true rfl) (by first | exact mp_fd_ok mp_k_cX10_fallenOf_ok (by decide +kernel) | decide +kernel) (fun v_41 w_42 h_43 => ?_)
          obtain ⟨r_44, rfl, rfl⟩ := h_43
          show mp_W E X 6 37 [(5, .int i_7), (4, .int i_13), (3, .int r_4), (0, .ref a0), (1, .int x0), (2, .int x1)] [.int r_44, .int r_40] w4_ 0 0
          refine mp_run mp_k_cX10_fallenOf_ok hF mp_tabX10_ok [mp_h (.if_icmp .gt 47) [84]] (by decide +kernel) ?_
          refine And.intro (fun c_45 => ?_) (fun c_45 => ?_)
          · have c_45 : r_44.toInt < r_40.toInt := c_45
            show mp_W E X 6 84 [(5, .int i_7), (4, .int i_13), (3, .int r_4), (0, .ref a0), (1, .int x0), (2, .int x1)] [] w4_ 0 0
            refine mp_run mp_k_cX10_fallenOf_ok hF mp_tabX10_ok [mp_c (.iinc 5 1) 1, mp_h (.goto (-75)) [12]] (by decide +kernel) ?_
            intro z_46 h_47
            have e_48 : z_46.toInt = i_7.toInt + 1 := mp_add (a := i_7.toInt) (b := 1) h_47 rfl (by decide) (by omega) (by omega)
            show mp_W E X 6 12 [(5, .int z_46), (4, .int i_13), (3, .int r_4), (0, .ref a0), (1, .int x0), (2, .int x1)] [] w4_ 0 0
            exact mp_sub [0, 1, 2, 3, 4, 5] rfl [0, 1, 2, 3, 4, 5, 6, 7, 8, 9] rfl rfl (ih_24 (d_23 - 1) (by omega) z_46 g_8 g_9 i_10 i_11 i_12 i_13 (by omega) (by omega) l_16 u_17 l_18 u_19 l_20 u_21 (by omega))
          · have c_45 : r_40.toInt ≤ r_44.toInt := c_45
            show mp_W E X 6 40 [(5, .int i_7), (4, .int i_13), (3, .int r_4), (0, .ref a0), (1, .int x0), (2, .int x1)] [] w4_ 0 0
            refine mp_run mp_k_cX10_fallenOf_ok hF mp_tabX10_ok [mp_i (.iload 5)] (by decide +kernel) ?_
            show mp_W E X 6 42 [(5, .int i_7), (4, .int i_13), (3, .int r_4), (0, .ref a0), (1, .int x0), (2, .int x1)] [.int i_7] w4_ 0 0
            refine mp_callS hF (As := [.int i_7]) (rest := []) (wr := w4_) (bX10_sizeOf_116 E i_7) mp_lkX10_373 [] [0, 1, 2, 3, 4, 5, 6, 7, 8, 9] rfl rfl rfl rfl rfl ⟨(Nat.le_of_ble_eq_true rfl), (Nat.le_of_ble_eq_true rfl), (Nat.le_of_ble_eq_true rfl), (Nat.le_of_ble_eq_true rfl)⟩ (Nat.le_of_ble_eq_true rfl) (by first | exact mp_fd_ok mp_k_cX10_fallenOf_ok (by decide +kernel) | decide +kernel) (fun v_49 w_50 h_51 => ?_)
            obtain ⟨r_52, rfl, rfl⟩ := h_51
            show mp_W E X 6 45 [(5, .int i_7), (4, .int i_13), (3, .int r_4), (0, .ref a0), (1, .int x0), (2, .int x1)] [.int r_52] w4_ 0 0
            refine mp_run mp_k_cX10_fallenOf_ok hF mp_tabX10_ok [mp_i (.iload 4)] (by decide +kernel) ?_
            show mp_W E X 6 47 [(5, .int i_7), (4, .int i_13), (3, .int r_4), (0, .ref a0), (1, .int x0), (2, .int x1)] [.int i_13, .int r_52] w4_ 0 0
            refine mp_callS hF (As := [.int i_13]) (rest := [.int r_52]) (wr := w4_) (bX10_sizeOf_116 E i_13) mp_lkX10_373 [] [0, 1, 2, 3, 4, 5, 6, 7, 8, 9] rfl rfl rfl rfl rfl ⟨(Nat.le_of_ble_eq_true rfl), (Nat.le_of_ble_eq_true rfl), (Nat.le_of_ble_eq_true rfl), (Nat.le_of_ble_eq_true rfl)⟩ (Nat.le_of_ble_eq_true rfl) (by first | exact mp_fd_ok mp_k_cX10_fallenOf_ok (by decide +kernel) | decide +kernel) (fun v_53 w_54 h_55 => ?_)
            obtain ⟨r_56, rfl, rfl⟩ := h_55
            show mp_W E X 6 50 [(5, .int i_7), (4, .int i_13), (3, .int r_4), (0, .ref a0), (1, .int x0), (2, .int x1)] [.int r_56, .int r_52] w4_ 0 0
            refine mp_run mp_k_cX10_fallenOf_ok hF mp_tabX10_ok [mp_h (.if_icmp .ne 13) [63]] (by decide +kernel) ?_
            refine And.intro (fun c_57 => ?_) (fun c_57 => ?_)
            · have c_57 : r_52.toInt ≠ r_56.toInt := c_57
              show mp_W E X 6 63 [(5, .int i_7), (4, .int i_13), (3, .int r_4), (0, .ref a0), (1, .int x0), (2, .int x1)] [] w4_ 0 0
              refine mp_run mp_k_cX10_fallenOf_ok hF mp_tabX10_ok [mp_i (.aload_n 0), mp_i (.iload_n 1), mp_i (.iload_n 2), mp_i (.iload_n 3), mp_i (.iload 5), mp_c (.iconst (-1)) (-1), mp_i .ixor, mp_i .iand] (by decide +kernel) ?_
              intro z_58 h_59
              intro z_61 h_62
              show mp_W E X 6 72 [(5, .int i_7), (4, .int i_13), (3, .int r_4), (0, .ref a0), (1, .int x0), (2, .int x1)] [.int z_61, .int x1, .int x0, .ref a0] w4_ 0 0
              refine mp_callV hF (As := [.int x0, .int x1, .int z_61]) (rest := []) (wr := []) (bX10_plansFor_112 E a0 a1 a2 a3 a4 a5 a6 a7 a8 a9 a10 a11 a12 a13 a14 a15 a16 a17 a18 a19 a20 a21 a22 a23 a24 a25 f0 f1 f2 f3 f4 f5 f6 g_8 g_9 y0 y1 y2 y3 y4 y5 y6 y7 y8 y9 y10 y11 i_10 i_11 i_12 y15 y16 y17 y18 y19 y20 y21 x0 x1 z_61 p0 p1 p2 p3 p4 p5 p6 p7 p8 p9 p10 p11 p12 p13 l_x0 u_x0 l_x1 u_x1 l_y1 u_y1 l_y2 u_y2 l_y3 u_y3 l_y4 u_y4 l_y11 u_y11 l_16 u_17 l_18 u_19 (by first | omega | (show y11.toInt + x1.toInt ≤ 99; omega))) mp_lkX10_367 5 rfl [5, 6, 0, 1, 7, 8, 2, 9, 3, 4] [] rfl rfl rfl rfl rfl ⟨(Nat.le_of_ble_eq_true rfl), (Nat.le_of_ble_eq_true rfl), (Nat.le_of_ble_eq_true rfl), (Nat.le_of_ble_eq_true rfl)⟩ (Nat.le_of_ble_eq_true rfl) (by first | exact mp_fd_ok mp_k_cX10_fallenOf_ok (by decide +kernel) | decide +kernel) (fun v_64 w_65 h_66 => ?_)
              refine h_66.elim fun g_67 q_71 => q_71.elim fun g_68 q_72 => q_72.elim fun r_69 q_73 => q_73.elim fun e_74 q_75 => q_75.elim fun x_70 e_76 => ?_
              clear h_66 q_71 q_72 q_73 q_75
              subst e_74
              subst e_76
              let w5_ : va_W := [(mp_ob10 a0 y0 a10 a11 a12 a13 a14 y1 y2 y3 y4 y5 y6 y7 y8 y9 y10 a15 a1 a2 a3 a4 a5 a16 a17 y11 a6 a18 a19 a7 x0 x1 z_61 a8 a9 y15 y16 a20 a21 a22 y17 y18 y19 y20 a23 a24 a25 y21), (mp_arI E a1 0 25 f0), (mp_arI E a2 0 180 f1), (mp_arI E a3 3 3000 f2), (mp_arI E a4 0 90 f3), (mp_arI E a5 0 300 f4), (mp_arI E a6 0 6 f5), (mp_arI E a7 3 1500 f6), (mp_arI E a8 0 78 g_67), (mp_arL E a9 78 g_68)]
              show mp_W E X 6 75 [(5, .int i_7), (4, .int i_13), (3, .int r_4), (0, .ref a0), (1, .int x0), (2, .int x1)] [.int r_69] w5_ 0 0
              refine mp_run mp_k_cX10_fallenOf_ok hF mp_tabX10_ok [mp_c (.ldc 142) 1000000, mp_h (.if_icmp .ge 7) [84]] (by decide +kernel) ?_
              refine And.intro (fun c_77 => ?_) (fun c_77 => ?_)
              · have c_77 : 1000000 ≤ r_69.toInt := c_77
                show mp_W E X 6 84 [(5, .int i_7), (4, .int i_13), (3, .int r_4), (0, .ref a0), (1, .int x0), (2, .int x1)] [] w5_ 0 0
                refine mp_run mp_k_cX10_fallenOf_ok hF mp_tabX10_ok [mp_c (.iinc 5 1) 1, mp_h (.goto (-75)) [12]] (by decide +kernel) ?_
                intro z_78 h_79
                have e_80 : z_78.toInt = i_7.toInt + 1 := mp_add (a := i_7.toInt) (b := 1) h_79 rfl (by decide) (by omega) (by omega)
                show mp_W E X 6 12 [(5, .int z_78), (4, .int i_13), (3, .int r_4), (0, .ref a0), (1, .int x0), (2, .int x1)] [] w5_ 0 0
                exact mp_sub [0, 1, 2, 3, 4, 5] rfl [2, 3, 6, 8, 9, 0, 1, 4, 5, 7] rfl rfl (ih_24 (d_23 - 1) (by omega) z_78 g_67 g_68 x0 x1 z_61 i_13 (by omega) (by omega) l_x0 u_x0 (by omega) u_x1 l_20 u_21 (by omega))
              · have c_77 : r_69.toInt < 1000000 := c_77
                show mp_W E X 6 80 [(5, .int i_7), (4, .int i_13), (3, .int r_4), (0, .ref a0), (1, .int x0), (2, .int x1)] [] w5_ 0 0
                refine mp_run mp_k_cX10_fallenOf_ok hF mp_tabX10_ok [mp_i (.iload 5), mp_i (.istore 4), mp_c (.iinc 5 1) 1, mp_h (.goto (-75)) [12]] (by decide +kernel) ?_
                intro z_81 h_82
                have e_83 : z_81.toInt = i_7.toInt + 1 := mp_add (a := i_7.toInt) (b := 1) h_82 rfl (by decide) (by omega) (by omega)
                show mp_W E X 6 12 [(5, .int z_81), (4, .int i_7), (3, .int r_4), (0, .ref a0), (1, .int x0), (2, .int x1)] [] w5_ 0 0
                exact mp_sub [0, 1, 2, 3, 4, 5] rfl [2, 3, 6, 8, 9, 0, 1, 4, 5, 7] rfl rfl (ih_24 (d_23 - 1) (by omega) z_81 g_67 g_68 x0 x1 z_61 i_7 (by omega) (by omega) l_x0 u_x0 (by omega) u_x1 l_14 (by omega) (by omega))
            · have c_57 : r_52.toInt = r_56.toInt := (congrArg Int32.toInt c_57)
              show mp_W E X 6 53 [(5, .int i_7), (4, .int i_13), (3, .int r_4), (0, .ref a0), (1, .int x0), (2, .int x1)] [] w4_ 0 0
              refine mp_run mp_k_cX10_fallenOf_ok hF mp_tabX10_ok [mp_i (.iload 5), mp_i (.iload 4), mp_h (.if_icmp .lt 6) [63]] (by decide +kernel) ?_
              refine And.intro (fun c_84 => ?_) (fun c_84 => ?_)
              · have c_84 : i_7.toInt < i_13.toInt := c_84
                show mp_W E X 6 63 [(5, .int i_7), (4, .int i_13), (3, .int r_4), (0, .ref a0), (1, .int x0), (2, .int x1)] [] w4_ 0 0
                refine mp_run mp_k_cX10_fallenOf_ok hF mp_tabX10_ok [mp_i (.aload_n 0), mp_i (.iload_n 1), mp_i (.iload_n 2), mp_i (.iload_n 3), mp_i (.iload 5), mp_c (.iconst (-1)) (-1), mp_i .ixor, mp_i .iand] (by decide +kernel) ?_
                intro z_85 h_86
                intro z_88 h_89
                show mp_W E X 6 72 [(5, .int i_7), (4, .int i_13), (3, .int r_4), (0, .ref a0), (1, .int x0), (2, .int x1)] [.int z_88, .int x1, .int x0, .ref a0] w4_ 0 0
                refine mp_callV hF (As := [.int x0, .int x1, .int z_88]) (rest := []) (wr := []) (bX10_plansFor_112 E a0 a1 a2 a3 a4 a5 a6 a7 a8 a9 a10 a11 a12 a13 a14 a15 a16 a17 a18 a19 a20 a21 a22 a23 a24 a25 f0 f1 f2 f3 f4 f5 f6 g_8 g_9 y0 y1 y2 y3 y4 y5 y6 y7 y8 y9 y10 y11 i_10 i_11 i_12 y15 y16 y17 y18 y19 y20 y21 x0 x1 z_88 p0 p1 p2 p3 p4 p5 p6 p7 p8 p9 p10 p11 p12 p13 l_x0 u_x0 l_x1 u_x1 l_y1 u_y1 l_y2 u_y2 l_y3 u_y3 l_y4 u_y4 l_y11 u_y11 l_16 u_17 l_18 u_19 (by first | omega | (show y11.toInt + x1.toInt ≤ 99; omega))) mp_lkX10_367 5 rfl [5, 6, 0, 1, 7, 8, 2, 9, 3, 4] [] rfl rfl rfl rfl rfl ⟨(Nat.le_of_ble_eq_true rfl), (Nat.le_of_ble_eq_true rfl), (Nat.le_of_ble_eq_true rfl), (Nat.le_of_ble_eq_true rfl)⟩ (Nat.le_of_ble_eq_true rfl) (by first | exact mp_fd_ok mp_k_cX10_fallenOf_ok (by decide +kernel) | decide +kernel) (fun v_91 w_92 h_93 => ?_)
                refine h_93.elim fun g_94 q_98 => q_98.elim fun g_95 q_99 => q_99.elim fun r_96 q_100 => q_100.elim fun e_101 q_102 => q_102.elim fun x_97 e_103 => ?_
                clear h_93 q_98 q_99 q_100 q_102
                subst e_101
                subst e_103
                let w6_ : va_W := [(mp_ob10 a0 y0 a10 a11 a12 a13 a14 y1 y2 y3 y4 y5 y6 y7 y8 y9 y10 a15 a1 a2 a3 a4 a5 a16 a17 y11 a6 a18 a19 a7 x0 x1 z_88 a8 a9 y15 y16 a20 a21 a22 y17 y18 y19 y20 a23 a24 a25 y21), (mp_arI E a1 0 25 f0), (mp_arI E a2 0 180 f1), (mp_arI E a3 3 3000 f2), (mp_arI E a4 0 90 f3), (mp_arI E a5 0 300 f4), (mp_arI E a6 0 6 f5), (mp_arI E a7 3 1500 f6), (mp_arI E a8 0 78 g_94), (mp_arL E a9 78 g_95)]
                show mp_W E X 6 75 [(5, .int i_7), (4, .int i_13), (3, .int r_4), (0, .ref a0), (1, .int x0), (2, .int x1)] [.int r_96] w6_ 0 0
                refine mp_run mp_k_cX10_fallenOf_ok hF mp_tabX10_ok [mp_c (.ldc 142) 1000000, mp_h (.if_icmp .ge 7) [84]] (by decide +kernel) ?_
                refine And.intro (fun c_104 => ?_) (fun c_104 => ?_)
                · have c_104 : 1000000 ≤ r_96.toInt := c_104
                  show mp_W E X 6 84 [(5, .int i_7), (4, .int i_13), (3, .int r_4), (0, .ref a0), (1, .int x0), (2, .int x1)] [] w6_ 0 0
                  refine mp_run mp_k_cX10_fallenOf_ok hF mp_tabX10_ok [mp_c (.iinc 5 1) 1, mp_h (.goto (-75)) [12]] (by decide +kernel) ?_
                  intro z_105 h_106
                  have e_107 : z_105.toInt = i_7.toInt + 1 := mp_add (a := i_7.toInt) (b := 1) h_106 rfl (by decide) (by omega) (by omega)
                  show mp_W E X 6 12 [(5, .int z_105), (4, .int i_13), (3, .int r_4), (0, .ref a0), (1, .int x0), (2, .int x1)] [] w6_ 0 0
                  exact mp_sub [0, 1, 2, 3, 4, 5] rfl [2, 3, 6, 8, 9, 0, 1, 4, 5, 7] rfl rfl (ih_24 (d_23 - 1) (by omega) z_105 g_94 g_95 x0 x1 z_88 i_13 (by omega) (by omega) l_x0 u_x0 (by omega) u_x1 l_20 u_21 (by omega))
                · have c_104 : r_96.toInt < 1000000 := c_104
                  show mp_W E X 6 80 [(5, .int i_7), (4, .int i_13), (3, .int r_4), (0, .ref a0), (1, .int x0), (2, .int x1)] [] w6_ 0 0
                  refine mp_run mp_k_cX10_fallenOf_ok hF mp_tabX10_ok [mp_i (.iload 5), mp_i (.istore 4), mp_c (.iinc 5 1) 1, mp_h (.goto (-75)) [12]] (by decide +kernel) ?_
                  intro z_108 h_109
                  have e_110 : z_108.toInt = i_7.toInt + 1 := mp_add (a := i_7.toInt) (b := 1) h_109 rfl (by decide) (by omega) (by omega)
                  show mp_W E X 6 12 [(5, .int z_108), (4, .int i_7), (3, .int r_4), (0, .ref a0), (1, .int x0), (2, .int x1)] [] w6_ 0 0
                  exact mp_sub [0, 1, 2, 3, 4, 5] rfl [2, 3, 6, 8, 9, 0, 1, 4, 5, 7] rfl rfl (ih_24 (d_23 - 1) (by omega) z_108 g_94 g_95 x0 x1 z_88 i_7 (by omega) (by omega) l_x0 u_x0 (by omega) u_x1 l_14 (by omega) (by omega))
              · have c_84 : i_13.toInt ≤ i_7.toInt := c_84
                show mp_W E X 6 60 [(5, .int i_7), (4, .int i_13), (3, .int r_4), (0, .ref a0), (1, .int x0), (2, .int x1)] [] w4_ 0 0
                refine mp_run mp_k_cX10_fallenOf_ok hF mp_tabX10_ok [mp_h (.goto 24) [84], mp_c (.iinc 5 1) 1, mp_h (.goto (-75)) [12]] (by decide +kernel) ?_
                intro z_111 h_112
                have e_113 : z_111.toInt = i_7.toInt + 1 := mp_add (a := i_7.toInt) (b := 1) h_112 rfl (by decide) (by omega) (by omega)
                show mp_W E X 6 12 [(5, .int z_111), (4, .int i_13), (3, .int r_4), (0, .ref a0), (1, .int x0), (2, .int x1)] [] w4_ 0 0
                exact mp_sub [0, 1, 2, 3, 4, 5] rfl [0, 1, 2, 3, 4, 5, 6, 7, 8, 9] rfl rfl (ih_24 (d_23 - 1) (by omega) z_111 g_8 g_9 i_10 i_11 i_12 i_13 (by omega) (by omega) l_16 u_17 l_18 u_19 l_20 u_21 (by omega))
  exact mp_sub [0, 1, 2, 3, 4, 5] rfl [0, 1, 2, 3, 4, 5, 6, 7, 8, 9] rfl rfl (lp_22 _ 0 f7 f8 y12 y13 y14 r_4 (by decide) (by decide) l_y12 u_y12 l_y13 u_y13 l_5 u_6 (Int.self_le_toNat _))
