set_option maxHeartbeats 4000000 in
set_option maxRecDepth 100000 in
theorem bX10_onceBehind_110 (E : mp_E) (a0 a1 a2 a3 a4 a5 a6 a7 a8 a9 a10 a11 a12 a13 a14 a15 a16 a17 a18 a19 a20 a21 a22 a23 a24 a25 : Nat) (f0 : Nat → Int32) (f1 : Nat → Int32) (f2 : Nat → Int32) (f3 : Nat → Int32) (f4 : Nat → Int32) (f5 : Nat → Int32) (y0 : Int32) (y1 : Int32) (y2 : Int32) (y3 : Int32) (y4 : Int32) (y5 : Int32) (y6 : Int64) (y7 : Int32) (y8 : Int32) (y9 : Int32) (y10 : Int32) (y11 : Int32) (y12 : Int32) (y13 : Int32) (y14 : Int32) (y15 : Int32) (y16 : Int32) (y17 : Int32) (y18 : Int32) (y19 : Int32) (y20 : Int32) (y21 : Int32) (x0 : Int32) (x1 : Int32) (x2 : Int32) (p0 : mp_res f0 25 5 0 0 6) (p1 : mp_res f0 25 5 1 0 99) (p2 : mp_res f0 25 5 2 0 6) (p3 : mp_res f0 25 5 3 0 10) (p4 : mp_res f0 25 5 4 0 60) (p5 : mp_all f1 180 0 20) (p6 : mp_all f2 3000 0 1) (p7 : mp_res f3 90 3 0 0 5) (p8 : mp_res f3 90 3 1 (-1) 99) (p9 : mp_res f4 300 6 0 0 5) (p10 : mp_res f4 300 6 1 0 5) (p11 : mp_res f4 300 6 3 0 99) (p12 : mp_res f4 300 6 4 0 1) (p13 : mp_all f5 6 0 5) (l_y1 : 0 ≤ y1.toInt) (u_y1 : y1.toInt ≤ 1600) (l_y2 : 0 ≤ y2.toInt) (u_y2 : y2.toInt ≤ 1600) (l_y3 : 0 ≤ y3.toInt) (u_y3 : y3.toInt ≤ 4) (l_y4 : 0 ≤ y4.toInt) (u_y4 : y4.toInt ≤ 1600) (l_y11 : 0 ≤ y11.toInt) (u_y11 : y11.toInt ≤ 99) (l_y12 : 0 ≤ y12.toInt) (u_y12 : y12.toInt ≤ 5) (l_y13 : 0 ≤ y13.toInt) (u_y13 : y13.toInt ≤ 12) : mp_Ct E yX10_onceBehind cX10_onceBehind 7 (some FieldType.int) 2 0 0 46 [.ref a0, .int x0, .int x1, .int x2] [(mp_ob10 a0 y0 a7 a8 a9 a10 a11 y1 y2 y3 y4 y5 y6 y7 y8 y9 y10 a12 a1 a2 a3 a4 a5 a13 a14 y11 a6 a15 a16 a17 y12 y13 y14 a18 a19 y15 y16 a20 a21 a22 y17 y18 y19 y20 a23 a24 a25 y21), (mp_arI E a1 0 25 f0), (mp_arI E a2 0 180 f1), (mp_arI E a3 3 3000 f2), (mp_arI E a4 0 90 f3), (mp_arI E a5 0 300 f4), (mp_arI E a6 0 6 f5)] (fun v w' => ∃ r1 : Int32, v = some (.int r1) ∧ (r1 = mp_oncx y14 x0 (mp_sdx y14 f4 f5 f3 y12.toInt x1.toInt x2.toInt (f0 3).toInt.toNat) (f3 (3 * y12.toInt.toNat + 1)).toInt x2.toInt) ∧ w' = [(mp_ob10 a0 y0 a7 a8 a9 a10 a11 y1 y2 y3 y4 y5 y6 y7 y8 y9 y10 a12 a1 a2 a3 a4 a5 a13 a14 y11 a6 a15 a16 a17 y12 y13 y14 a18 a19 y15 y16 a20 a21 a22 y17 y18 y19 y20 a23 a24 a25 y21), (mp_arI E a1 0 25 f0), (mp_arI E a2 0 180 f1), (mp_arI E a3 3 3000 f2), (mp_arI E a4 0 90 f3), (mp_arI E a5 0 300 f4), (mp_arI E a6 0 6 f5)]) := by
  refine mp_met false (by decide) (by decide) (Nat.le_of_ble_eq_true rfl) (fun X hF hQ => ?_)
  have hF : mp_F E X (RX10, cX10_onceBehind, 7, (2, 0, 0, 46), (some FieldType.int), false) := hF
  let w1_ : va_W := [(mp_ob10 a0 y0 a7 a8 a9 a10 a11 y1 y2 y3 y4 y5 y6 y7 y8 y9 y10 a12 a1 a2 a3 a4 a5 a13 a14 y11 a6 a15 a16 a17 y12 y13 y14 a18 a19 y15 y16 a20 a21 a22 y17 y18 y19 y20 a23 a24 a25 y21), (mp_arI E a1 0 25 f0), (mp_arI E a2 0 180 f1), (mp_arI E a3 3 3000 f2), (mp_arI E a4 0 90 f3), (mp_arI E a5 0 300 f4), (mp_arI E a6 0 6 f5)]
  show mp_W E X 7 0 [(0, .ref a0), (1, .int x0), (2, .int x1), (3, .int x2)] [] w1_ 0 0
  refine mp_run mp_k_cX10_onceBehind_ok hF mp_tabX10_ok [mp_i (.aload_n 0), mp_i (.iload_n 2), mp_i (.iload_n 3)] (by decide +kernel) ?_
  show mp_W E X 7 3 [(0, .ref a0), (1, .int x0), (2, .int x1), (3, .int x2)] [.int x2, .int x1, .ref a0] w1_ 0 0
  refine mp_callV hF (As := [.int x1, .int x2]) (rest := []) (wr := []) (bX10_saidOn_109 E a0 a1 a2 a3 a4 a5 a6 a7 a8 a9 a10 a11 a12 a13 a14 a15 a16 a17 a18 a19 a20 a21 a22 a23 a24 a25 f0 f1 f2 f3 f4 f5 y0 y1 y2 y3 y4 y5 y6 y7 y8 y9 y10 y11 y12 y13 y14 y15 y16 y17 y18 y19 y20 y21 x1 x2 p0 p1 p2 p3 p4 p5 p6 p7 p8 p9 p10 p11 p12 p13 l_y1 u_y1 l_y2 u_y2 l_y3 u_y3 l_y4 u_y4 l_y11 u_y11 l_y12 u_y12 l_y13 u_y13) mp_lkX10_340 0 rfl [0, 1, 2, 3, 4, 5, 6] [] rfl rfl rfl rfl rfl ⟨(Nat.le_of_ble_eq_true rfl), (Nat.le_of_ble_eq_true rfl), (Nat.le_of_ble_eq_true rfl), (Nat.le_of_ble_eq_true rfl)⟩ (Nat.le_of_ble_eq_true rfl) (by first | exact mp_fd_ok mp_k_cX10_onceBehind_ok (by decide +kernel) | decide +kernel) (fun v_1 w_2 h_3 => ?_)
  refine h_3.elim fun r_4 q_8 => q_8.elim fun e_9 q_10 => q_10.elim fun l_5 q_11 => q_11.elim fun u_6 q_12 => q_12.elim fun x_7 e_13 => ?_
  clear h_3 q_8 q_10 q_11 q_12
  subst e_9
  subst e_13
  show mp_W E X 7 6 [(0, .ref a0), (1, .int x0), (2, .int x1), (3, .int x2)] [.int r_4] w1_ 0 0
  refine mp_run mp_k_cX10_onceBehind_ok hF mp_tabX10_ok [mp_i (.istore 4), mp_i (.iload_n 1), mp_i (.iload 4), mp_c (.iconst (-1)) (-1), mp_i .ixor, mp_i .iand, mp_h (.ifCond .eq 5) [19]] (by decide +kernel) ?_
  intro z_14 h_15
  intro z_17 h_18
  refine And.intro (fun c_20 => ?_) (fun c_20 => ?_)
  · have c_20 : z_17.toInt = 0 := (congrArg Int32.toInt c_20)
    show mp_W E X 7 19 [(4, .int r_4), (0, .ref a0), (1, .int x0), (2, .int x1), (3, .int x2)] [] w1_ 0 0
    refine mp_run mp_k_cX10_onceBehind_ok hF mp_tabX10_ok [mp_i (.aload_n 0), mp_h (.getfield 44) [20, 0], mp_c (.iconst 3) 3, mp_i (.aload_n 0), mp_h (.getfield 337) [29, 0], mp_i .imul, mp_c (.iconst 1) 1, mp_i .iadd, mp_h .iaload [4], mp_i (.istore 5), mp_i (.aload_n 0), mp_h (.getfield 334) [31, 0], mp_i (.iload 4), mp_c (.iconst (-1)) (-1), mp_i .ixor, mp_i .iand, mp_i (.istore 6), mp_i (.iload 6), mp_h (.ifCond .eq 19) [66]] (by decide +kernel) ?_
    refine And.intro rfl (And.intro rfl ?_)
    refine And.intro rfl (And.intro rfl ?_)
    intro z_21 h_22
    have e_23 : z_21.toInt = 3 * y12.toInt := mp_mul (a := 3) (b := y12.toInt) h_22 (by decide) rfl (by omega) (by omega)
    intro z_24 h_25
    have e_26 : z_24.toInt = z_21.toInt + 1 := mp_add (a := z_21.toInt) (b := 1) h_25 rfl (by decide) (by omega) (by omega)
    refine And.intro rfl (And.intro rfl (And.intro (vp_in_iff.mpr (by omega)) ?_))
    intro z_27 h_28
    have e_29 : (-1) ≤ z_27.toInt ∧ z_27.toInt ≤ 99 := mp_res_ld h_28 p8 (by omega) (by omega) (by omega)
    have e_30 : z_27.toInt = (f3 (3 * y12.toInt.toNat + 1)).toInt := mp_at_i h_28 (by omega)
    refine And.intro rfl (And.intro rfl ?_)
    intro z_31 h_32
    intro z_34 h_35
    refine And.intro (fun c_37 => ?_) (fun c_37 => ?_)
    · have c_37 : z_34.toInt = 0 := (congrArg Int32.toInt c_37)
      show mp_W E X 7 66 [(6, .int z_34), (5, .int z_27), (4, .int r_4), (0, .ref a0), (1, .int x0), (2, .int x1), (3, .int x2)] [] w1_ 0 0
      refine mp_run mp_k_cX10_onceBehind_ok hF mp_tabX10_ok [mp_i (.iload 6)] (by decide +kernel) ?_
      show mp_W E X 7 68 [(6, .int z_34), (5, .int z_27), (4, .int r_4), (0, .ref a0), (1, .int x0), (2, .int x1), (3, .int x2)] [.int z_34] w1_ 0 0
      exact mp_iret hF hQ rfl rfl (Nat.le_of_ble_eq_true rfl) (Nat.le_of_ble_eq_true rfl) [0, 1, 2, 3, 4, 5, 6] (w' := w1_) rfl rfl ⟨z_34, rfl, (by rw [← x_7]; exact mp_oncx_2 h_15 h_18 c_20 h_32 h_35 (by omega)), rfl⟩ (by first | exact mp_fd_ok mp_k_cX10_onceBehind_ok (by decide +kernel) | decide +kernel)
    · have c_37 : z_34.toInt ≠ 0 := c_37
      show mp_W E X 7 50 [(6, .int z_34), (5, .int z_27), (4, .int r_4), (0, .ref a0), (1, .int x0), (2, .int x1), (3, .int x2)] [] w1_ 0 0
      refine mp_run mp_k_cX10_onceBehind_ok hF mp_tabX10_ok [mp_i (.iload 5), mp_c (.iconst (-1)) (-1), mp_h (.if_icmp .eq 13) [66]] (by decide +kernel) ?_
      refine And.intro (fun c_38 => ?_) (fun c_38 => ?_)
      · have c_38 : z_27.toInt = (-1) := (congrArg Int32.toInt c_38)
        show mp_W E X 7 66 [(6, .int z_34), (5, .int z_27), (4, .int r_4), (0, .ref a0), (1, .int x0), (2, .int x1), (3, .int x2)] [] w1_ 0 0
        refine mp_run mp_k_cX10_onceBehind_ok hF mp_tabX10_ok [mp_i (.iload 6)] (by decide +kernel) ?_
        show mp_W E X 7 68 [(6, .int z_34), (5, .int z_27), (4, .int r_4), (0, .ref a0), (1, .int x0), (2, .int x1), (3, .int x2)] [.int z_34] w1_ 0 0
        exact mp_iret hF hQ rfl rfl (Nat.le_of_ble_eq_true rfl) (Nat.le_of_ble_eq_true rfl) [0, 1, 2, 3, 4, 5, 6] (w' := w1_) rfl rfl ⟨z_34, rfl, (by rw [← x_7]; exact mp_oncx_2 h_15 h_18 c_20 h_32 h_35 (by omega)), rfl⟩ (by first | exact mp_fd_ok mp_k_cX10_onceBehind_ok (by decide +kernel) | decide +kernel)
      · have c_38 : z_27.toInt ≠ (-1) := c_38
        show mp_W E X 7 56 [(6, .int z_34), (5, .int z_27), (4, .int r_4), (0, .ref a0), (1, .int x0), (2, .int x1), (3, .int x2)] [] w1_ 0 0
        refine mp_run mp_k_cX10_onceBehind_ok hF mp_tabX10_ok [mp_i (.iload_n 3), mp_i (.iload 5), mp_h (.if_icmp .le 7) [66]] (by decide +kernel) ?_
        refine And.intro (fun c_39 => ?_) (fun c_39 => ?_)
        · have c_39 : x2.toInt ≤ z_27.toInt := c_39
          show mp_W E X 7 66 [(6, .int z_34), (5, .int z_27), (4, .int r_4), (0, .ref a0), (1, .int x0), (2, .int x1), (3, .int x2)] [] w1_ 0 0
          refine mp_run mp_k_cX10_onceBehind_ok hF mp_tabX10_ok [mp_i (.iload 6)] (by decide +kernel) ?_
          show mp_W E X 7 68 [(6, .int z_34), (5, .int z_27), (4, .int r_4), (0, .ref a0), (1, .int x0), (2, .int x1), (3, .int x2)] [.int z_34] w1_ 0 0
          exact mp_iret hF hQ rfl rfl (Nat.le_of_ble_eq_true rfl) (Nat.le_of_ble_eq_true rfl) [0, 1, 2, 3, 4, 5, 6] (w' := w1_) rfl rfl ⟨z_34, rfl, (by rw [← x_7]; exact mp_oncx_2 h_15 h_18 c_20 h_32 h_35 (by omega)), rfl⟩ (by first | exact mp_fd_ok mp_k_cX10_onceBehind_ok (by decide +kernel) | decide +kernel)
        · have c_39 : z_27.toInt < x2.toInt := c_39
          show mp_W E X 7 62 [(6, .int z_34), (5, .int z_27), (4, .int r_4), (0, .ref a0), (1, .int x0), (2, .int x1), (3, .int x2)] [] w1_ 0 0
          refine mp_run mp_k_cX10_onceBehind_ok hF mp_tabX10_ok [mp_c (.iconst (-1)) (-1), mp_h (.goto 5) [68]] (by decide +kernel) ?_
          show mp_W E X 7 68 [(6, .int z_34), (5, .int z_27), (4, .int r_4), (0, .ref a0), (1, .int x0), (2, .int x1), (3, .int x2)] [.int (-1)] w1_ 0 0
          exact mp_iret hF hQ rfl rfl (Nat.le_of_ble_eq_true rfl) (Nat.le_of_ble_eq_true rfl) [0, 1, 2, 3, 4, 5, 6] (w' := w1_) rfl rfl ⟨(-1), rfl, (by rw [← x_7]; exact mp_oncx_3 h_15 h_18 c_20 h_32 h_35 (by omega) (by omega) (by omega)), rfl⟩ (by first | exact mp_fd_ok mp_k_cX10_onceBehind_ok (by decide +kernel) | decide +kernel)
  · have c_20 : z_17.toInt ≠ 0 := c_20
    show mp_W E X 7 17 [(4, .int r_4), (0, .ref a0), (1, .int x0), (2, .int x1), (3, .int x2)] [] w1_ 0 0
    refine mp_run mp_k_cX10_onceBehind_ok hF mp_tabX10_ok [mp_c (.iconst (-1)) (-1)] (by decide +kernel) ?_
    show mp_W E X 7 18 [(4, .int r_4), (0, .ref a0), (1, .int x0), (2, .int x1), (3, .int x2)] [.int (-1)] w1_ 0 0
    exact mp_iret hF hQ rfl rfl (Nat.le_of_ble_eq_true rfl) (Nat.le_of_ble_eq_true rfl) [0, 1, 2, 3, 4, 5, 6] (w' := w1_) rfl rfl ⟨(-1), rfl, (by rw [← x_7]; exact mp_oncx_1 h_15 h_18 c_20), rfl⟩ (by first | exact mp_fd_ok mp_k_cX10_onceBehind_ok (by decide +kernel) | decide +kernel)
