set_option maxHeartbeats 4000000 in
set_option maxRecDepth 100000 in
theorem bX10_fallenOf_117 (E : mp_E) (a0 a1 a2 a3 a4 a5 a6 a7 a8 a9 a10 a11 a12 a13 a14 a15 a16 a17 a18 a19 a20 a21 a22 a23 a24 a25 : Nat) (f0 : Nat → Int32) (f1 : Nat → Int32) (f2 : Nat → Int32) (f3 : Nat → Int32) (f4 : Nat → Int32) (f5 : Nat → Int32) (f6 : Nat → Int32) (f7 : Nat → Int32) (f8 : Nat → Int64) (y0 : Int32) (y1 : Int32) (y2 : Int32) (y3 : Int32) (y4 : Int32) (y5 : Int32) (y6 : Int64) (y7 : Int32) (y8 : Int32) (y9 : Int32) (y10 : Int32) (y11 : Int32) (y12 : Int32) (y13 : Int32) (y14 : Int32) (y15 : Int32) (y16 : Int32) (y17 : Int32) (y18 : Int32) (y19 : Int32) (y20 : Int32) (y21 : Int32) (x0 : Int32) (x1 : Int32) (p0 : mp_res f0 25 5 0 0 6) (p1 : mp_res f0 25 5 1 0 99) (p2 : mp_res f0 25 5 2 0 6) (p3 : mp_res f0 25 5 3 0 10) (p4 : mp_res f0 25 5 4 0 60) (p5 : mp_all f1 180 0 20) (p6 : mp_all f2 3000 0 1) (p7 : mp_res f3 90 3 0 0 5) (p8 : mp_res f3 90 3 1 (-1) 99) (p9 : mp_res f4 300 6 0 0 5) (p10 : mp_res f4 300 6 1 0 5) (p11 : mp_res f4 300 6 3 0 99) (p12 : mp_res f4 300 6 4 0 1) (p13 : mp_all f5 6 0 5) (l_x0 : 0 ≤ x0.toInt) (u_x0 : x0.toInt ≤ 5) (l_x1 : 1 ≤ x1.toInt) (u_x1 : x1.toInt ≤ 12) (l_y1 : 0 ≤ y1.toInt) (u_y1 : y1.toInt ≤ 1600) (l_y2 : 0 ≤ y2.toInt) (u_y2 : y2.toInt ≤ 1600) (l_y3 : 0 ≤ y3.toInt) (u_y3 : y3.toInt ≤ 4) (l_y4 : 0 ≤ y4.toInt) (u_y4 : y4.toInt ≤ 1600) (l_y11 : 0 ≤ y11.toInt) (u_y11 : y11.toInt ≤ 99) (l_y12 : 0 ≤ y12.toInt) (u_y12 : y12.toInt ≤ 5) (l_y13 : 0 ≤ y13.toInt) (u_y13 : y13.toInt ≤ 12) (q0 : y11.toInt + x1.toInt ≤ 99) : mp_Ct E yX10_fallenOf cX10_fallenOf 6 (some FieldType.int) 18 0 0 488 [.ref a0, .int x0, .int x1] [(mp_ob10 a0 y0 a10 a11 a12 a13 a14 y1 y2 y3 y4 y5 y6 y7 y8 y9 y10 a15 a1 a2 a3 a4 a5 a16 a17 y11 a6 a18 a19 a7 y12 y13 y14 a8 a9 y15 y16 a20 a21 a22 y17 y18 y19 y20 a23 a24 a25 y21), (mp_arI E a1 0 25 f0), (mp_arI E a2 0 180 f1), (mp_arI E a3 3 3000 f2), (mp_arI E a4 0 90 f3), (mp_arI E a5 0 300 f4), (mp_arI E a6 0 6 f5), (mp_arI E a7 3 1500 f6), (mp_arI E a8 0 78 f7), (mp_arL E a9 78 f8)] (fun v w' => ∃ r1 : Int32, ∃ r2 : Int32, ∃ r3 : Int32, ∃ h4 : Nat → Int32, ∃ h5 : Nat → Int64, ∃ r6 : Int32, v = some (.int r6) ∧ 0 ≤ r1.toInt ∧ r1.toInt ≤ 5 ∧ 0 ≤ r2.toInt ∧ r2.toInt ≤ 12 ∧ 0 ≤ r6.toInt ∧ r6.toInt ≤ 1023 ∧ w' = [(mp_ob10 a0 y0 a10 a11 a12 a13 a14 y1 y2 y3 y4 y5 y6 y7 y8 y9 y10 a15 a1 a2 a3 a4 a5 a16 a17 y11 a6 a18 a19 a7 r1 r2 r3 a8 a9 y15 y16 a20 a21 a22 y17 y18 y19 y20 a23 a24 a25 y21), (mp_arI E a1 0 25 f0), (mp_arI E a2 0 180 f1), (mp_arI E a3 3 3000 f2), (mp_arI E a4 0 90 f3), (mp_arI E a5 0 300 f4), (mp_arI E a6 0 6 f5), (mp_arI E a7 3 1500 f6), (mp_arI E a8 0 78 h4), (mp_arL E a9 78 h5)]) := by
  refine mp_met false (by decide) (by decide) (Nat.le_of_ble_eq_true rfl) (fun X hF hQ => ?_)
  have hF : mp_F E X (RX10, cX10_fallenOf, 6, (18, 0, 0, 488), (some FieldType.int), false) := hF
  let w1_ : va_W := [(mp_ob10 a0 y0 a10 a11 a12 a13 a14 y1 y2 y3 y4 y5 y6 y7 y8 y9 y10 a15 a1 a2 a3 a4 a5 a16 a17 y11 a6 a18 a19 a7 y12 y13 y14 a8 a9 y15 y16 a20 a21 a22 y17 y18 y19 y20 a23 a24 a25 y21), (mp_arI E a1 0 25 f0), (mp_arI E a2 0 180 f1), (mp_arI E a3 3 3000 f2), (mp_arI E a4 0 90 f3), (mp_arI E a5 0 300 f4), (mp_arI E a6 0 6 f5), (mp_arI E a7 3 1500 f6), (mp_arI E a8 0 78 f7), (mp_arL E a9 78 f8)]
  show mp_W E X 6 0 [(0, .ref a0), (1, .int x0), (2, .int x1)] [] w1_ 0 0
  refine mp_run mp_k_cX10_fallenOf_ok hF mp_tabX10_ok [mp_i (.aload_n 0), mp_i (.iload_n 1)] (by decide +kernel) ?_
  show mp_W E X 6 2 [(0, .ref a0), (1, .int x0), (2, .int x1)] [.int x0, .ref a0] w1_ 0 0
  refine mp_callV hF (As := [.int x0]) (rest := []) (wr := [(mp_arI E a2 0 180 f1), (mp_arI E a3 3 3000 f2), (mp_arI E a6 0 6 f5), (mp_arI E a8 0 78 f7), (mp_arL E a9 78 f8)]) (bX10_keptNow_106 E a0 a1 a4 a5 a7 a10 a11 a12 a13 a14 a15 a2 a3 a16 a17 a6 a18 a19 a8 a9 a20 a21 a22 a23 a24 a25 f0 f3 f4 f6 y0 y1 y2 y3 y4 y5 y6 y7 y8 y9 y10 y11 y12 y13 y14 y15 y16 y17 y18 y19 y20 y21 x0 p0 p1 p2 p3 p4 p7 p8 p9 p10 p11 p12 l_y1 u_y1 l_y2 u_y2 l_y3 u_y3 l_y4 u_y4 l_y11 u_y11 l_y12 u_y12 l_y13 u_y13) mp_lkX10_364 0 rfl [0, 1, 4, 5, 7] [2, 3, 6, 8, 9] rfl rfl rfl rfl rfl ⟨(Nat.le_of_ble_eq_true rfl), (Nat.le_of_ble_eq_true rfl), (Nat.le_of_ble_eq_true rfl), (Nat.le_of_ble_eq_true rfl)⟩ (Nat.le_of_ble_eq_true rfl) (by first | exact mp_fd_ok mp_k_cX10_fallenOf_ok (by decide +kernel) | decide +kernel) (fun v_1 w_2 h_3 => ?_)
  obtain ⟨r_4, rfl, l_5, u_6, rfl⟩ := h_3
  let w2_ : va_W := [(mp_arI E a2 0 180 f1), (mp_arI E a3 3 3000 f2), (mp_arI E a6 0 6 f5), (mp_arI E a8 0 78 f7), (mp_arL E a9 78 f8), (mp_ob10 a0 y0 a10 a11 a12 a13 a14 y1 y2 y3 y4 y5 y6 y7 y8 y9 y10 a15 a1 a2 a3 a4 a5 a16 a17 y11 a6 a18 a19 a7 y12 y13 y14 a8 a9 y15 y16 a20 a21 a22 y17 y18 y19 y20 a23 a24 a25 y21), (mp_arI E a1 0 25 f0), (mp_arI E a4 0 90 f3), (mp_arI E a5 0 300 f4), (mp_arI E a7 3 1500 f6)]
  show mp_W E X 6 5 [(0, .ref a0), (1, .int x0), (2, .int x1)] [.int r_4] w2_ 0 0
  refine mp_run mp_k_cX10_fallenOf_ok hF mp_tabX10_ok [mp_i (.istore_n 3), mp_i (.iload_n 3), mp_i (.istore 4), mp_c (.iconst 0) 0, mp_i (.istore 5)] (by decide +kernel) ?_
  show mp_W E X 6 12 [(5, .int 0), (4, .int r_4), (3, .int r_4), (0, .ref a0), (1, .int x0), (2, .int x1)] [] w2_ 0 0
  have lp_22 : ∀ (d_23 : Nat) (i_7 : Int32) (g_8 : Nat → Int32) (g_9 : Nat → Int64) (i_10 : Int32) (i_11 : Int32) (i_12 : Int32) (i_13 : Int32), 0 ≤ i_7.toInt → i_7.toInt ≤ 1024 → 0 ≤ i_10.toInt → i_10.toInt ≤ 5 → 0 ≤ i_11.toInt → i_11.toInt ≤ 12 → 0 ≤ i_13.toInt → i_13.toInt ≤ 1023 → r_4.toInt - i_7.toInt + 1 ≤ (d_23 : Int) → mp_W E X 6 12 [(5, .int i_7), (4, .int i_13), (3, .int r_4), (0, .ref a0), (1, .int x0), (2, .int x1)] [] [(mp_arI E a2 0 180 f1), (mp_arI E a3 3 3000 f2), (mp_arI E a6 0 6 f5), (mp_arI E a8 0 78 g_8), (mp_arL E a9 78 g_9), (mp_ob10 a0 y0 a10 a11 a12 a13 a14 y1 y2 y3 y4 y5 y6 y7 y8 y9 y10 a15 a1 a2 a3 a4 a5 a16 a17 y11 a6 a18 a19 a7 i_10 i_11 i_12 a8 a9 y15 y16 a20 a21 a22 y17 y18 y19 y20 a23 a24 a25 y21), (mp_arI E a1 0 25 f0), (mp_arI E a4 0 90 f3), (mp_arI E a5 0 300 f4), (mp_arI E a7 3 1500 f6)] 0 0 := by
    intro d_23
    induction d_23 using Nat.strongRecOn with
    | ind d_23 ih_24 =>
      intro i_7 g_8 g_9 i_10 i_11 i_12 i_13 l_14 u_15 l_16 u_17 l_18 u_19 l_20 u_21 hm_25
      refine mp_run mp_k_cX10_fallenOf_ok hF mp_tabX10_ok [mp_i (.iload 5), mp_i (.iload_n 3), mp_h (.if_icmp .gt 75) [90]] (by decide +kernel) ?_
      refine And.intro (fun c_26 => ?_) (fun c_26 => ?_)
      · have c_26 : r_4.toInt < i_7.toInt := c_26
        let w3_ : va_W := [(mp_arI E a2 0 180 f1), (mp_arI E a3 3 3000 f2), (mp_arI E a6 0 6 f5), (mp_arI E a8 0 78 g_8), (mp_arL E a9 78 g_9), (mp_ob10 a0 y0 a10 a11 a12 a13 a14 y1 y2 y3 y4 y5 y6 y7 y8 y9 y10 a15 a1 a2 a3 a4 a5 a16 a17 y11 a6 a18 a19 a7 i_10 i_11 i_12 a8 a9 y15 y16 a20 a21 a22 y17 y18 y19 y20 a23 a24 a25 y21), (mp_arI E a1 0 25 f0), (mp_arI E a4 0 90 f3), (mp_arI E a5 0 300 f4), (mp_arI E a7 3 1500 f6)]
        show mp_W E X 6 90 [(5, .int i_7), (4, .int i_13), (3, .int r_4), (0, .ref a0), (1, .int x0), (2, .int x1)] [] w3_ 0 0
        refine mp_run mp_k_cX10_fallenOf_ok hF mp_tabX10_ok [mp_i (.iload 4)] (by decide +kernel) ?_
        show mp_W E X 6 92 [(5, .int i_7), (4, .int i_13), (3, .int r_4), (0, .ref a0), (1, .int x0), (2, .int x1)] [.int i_13] w3_ 0 0
        exact mp_iret hF hQ rfl rfl (Nat.le_of_ble_eq_true rfl) (Nat.le_of_ble_eq_true rfl) [5, 6, 0, 1, 7, 8, 2, 9, 3, 4] (w' := [(mp_ob10 a0 y0 a10 a11 a12 a13 a14 y1 y2 y3 y4 y5 y6 y7 y8 y9 y10 a15 a1 a2 a3 a4 a5 a16 a17 y11 a6 a18 a19 a7 i_10 i_11 i_12 a8 a9 y15 y16 a20 a21 a22 y17 y18 y19 y20 a23 a24 a25 y21), (mp_arI E a1 0 25 f0), (mp_arI E a2 0 180 f1), (mp_arI E a3 3 3000 f2), (mp_arI E a4 0 90 f3), (mp_arI E a5 0 300 f4), (mp_arI E a6 0 6 f5), (mp_arI E a7 3 1500 f6), (mp_arI E a8 0 78 g_8), (mp_arL E a9 78 g_9)]) rfl rfl ⟨i_10, i_11, i_12, g_8, g_9, i_13, rfl, l_16, u_17, l_18, u_19, l_20, u_21, rfl⟩ (by first | exact mp_fd_ok mp_k_cX10_fallenOf_ok (by decide +kernel) | decide +kernel)
      · have c_26 : i_7.toInt ≤ r_4.toInt := c_26
        let w4_ : va_W := [(mp_arI E a2 0 180 f1), (mp_arI E a3 3 3000 f2), (mp_arI E a6 0 6 f5), (mp_arI E a8 0 78 g_8), (mp_arL E a9 78 g_9), (mp_ob10 a0 y0 a10 a11 a12 a13 a14 y1 y2 y3 y4 y5 y6 y7 y8 y9 y10 a15 a1 a2 a3 a4 a5 a16 a17 y11 a6 a18 a19 a7 i_10 i_11 i_12 a8 a9 y15 y16 a20 a21 a22 y17 y18 y19 y20 a23 a24 a25 y21), (mp_arI E a1 0 25 f0), (mp_arI E a4 0 90 f3), (mp_arI E a5 0 300 f4), (mp_arI E a7 3 1500 f6)]
        show mp_W E X 6 18 [(5, .int i_7), (4, .int i_13), (3, .int r_4), (0, .ref a0), (1, .int x0), (2, .int x1)] [] w4_ 0 0
        refine mp_run mp_k_cX10_fallenOf_ok hF mp_tabX10_ok [mp_i (.iload 5), mp_i (.iload_n 3), mp_c (.iconst (-1)) (-1), mp_i .ixor, mp_i .iand, mp_h (.ifCond .ne 60) [84]] (by decide +kernel) ?_
        intro z_27 h_28
        intro z_30 h_31
        refine And.intro (fun c_33 => ?_) (fun c_33 => ?_)
        · have c_33 : z_30.toInt ≠ 0 := c_33
          show mp_W E X 6 84 [(5, .int i_7), (4, .int i_13), (3, .int r_4), (0, .ref a0), (1, .int x0), (2, .int x1)] [] w4_ 0 0
          refine mp_run mp_k_cX10_fallenOf_ok hF mp_tabX10_ok [mp_c (.iinc 5 1) 1, mp_h (.goto (-75)) [12]] (by decide +kernel) ?_
          intro z_34 h_35
          have e_36 : z_34.toInt = i_7.toInt + 1 := mp_add (a := i_7.toInt) (b := 1) h_35 rfl (by decide) (by omega) (by omega)
          show mp_W E X 6 12 [(5, .int z_34), (4, .int i_13), (3, .int r_4), (0, .ref a0), (1, .int x0), (2, .int x1)] [] w4_ 0 0
          exact mp_sub [0, 1, 2, 3, 4, 5] rfl [0, 1, 2, 3, 4, 5, 6, 7, 8, 9] rfl rfl (ih_24 (d_23 - 1) (by omega) z_34 g_8 g_9 i_10 i_11 i_12 i_13 (by omega) (by omega) l_16 u_17 l_18 u_19 l_20 u_21 (by omega))
        · have c_33 : z_30.toInt = 0 := (congrArg Int32.toInt c_33)
          show mp_W E X 6 27 [(5, .int i_7), (4, .int i_13), (3, .int r_4), (0, .ref a0), (1, .int x0), (2, .int x1)] [] w4_ 0 0
          refine mp_run mp_k_cX10_fallenOf_ok hF mp_tabX10_ok [mp_i (.iload 5)] (by decide +kernel) ?_
          show mp_W E X 6 29 [(5, .int i_7), (4, .int i_13), (3, .int r_4), (0, .ref a0), (1, .int x0), (2, .int x1)] [.int i_7] w4_ 0 0
          refine mp_callS hF (As := [.int i_7]) (rest := []) (wr := w4_) (bX10_sizeOf_116 E i_7) mp_lkX10_373 [] [0, 1, 2, 3, 4, 5, 6, 7, 8, 9] rfl rfl rfl rfl rfl ⟨(Nat.le_of_ble_eq_true rfl), (Nat.le_of_ble_eq_true rfl), (Nat.le_of_ble_eq_true rfl), (Nat.le_of_ble_eq_true rfl)⟩ (Nat.le_of_ble_eq_true rfl) (by first | exact mp_fd_ok mp_k_cX10_fallenOf_ok (by decide +kernel) | decide +kernel) (fun v_37 w_38 h_39 => ?_)
          obtain ⟨r_40, rfl, rfl⟩ := h_39
          show mp_W E X 6 32 [(5, .int i_7), (4, .int i_13), (3, .int r_4), (0, .ref a0), (1, .int x0), (2, .int x1)] [.int r_40] w4_ 0 0
          refine mp_run mp_k_cX10_fallenOf_ok hF mp_tabX10_ok [mp_i (.iload 4)] (by decide +kernel) ?_
          show mp_W E X 6 34 [(5, .int i_7), (4, .int i_13), (3, .int r_4), (0, .ref a0), (1, .int x0), (2, .int x1)] [.int i_13, .int r_40] w4_ 0 0
          refine mp_callS hF (As := [.int i_13]) (rest := [.int r_40]) (wr := w4_) (bX10_sizeOf_116 E i_13) mp_lkX10_373 [] [0, 1, 2, 3, 4, 5, 6, 7, 8, 9] rfl rfl rfl rfl rfl ⟨(Nat.le_of_ble_eq_true rfl), (Nat.le_of_ble_eq_true rfl), (Nat.le_of_ble_eq_true rfl), (Nat.le_of_ble_eq_true rfl)⟩ (Nat.le_of_ble_eq_true rfl) (by first | exact mp_fd_ok mp_k_cX10_fallenOf_ok (by decide +kernel) | decide +kernel) (fun v_41 w_42 h_43 => ?_)
          obtain ⟨r_44, rfl, rfl⟩ := h_43
          show mp_W E X 6 37 [(5, .int i_7), (4, .int i_13), (3, .int r_4), (0, .ref a0), (1, .int x0), (2, .int x1)] [.int r_44, .int r_40] w4_ 0 0
          refine mp_run mp_k_cX10_fallenOf_ok hF mp_tabX10_ok [mp_h (.if_icmp .gt 47) [84]] (by decide +kernel) ?_
          refine And.intro (fun c_45 => ?_) (fun c_45 => ?_)
          · have c_45 : r_44.toInt < r_40.toInt := c_45
            show mp_W E X 6 84 [(5, .int i_7), (4, .int i_13), (3, .int r_4), (0, .ref a0), (1, .int x0), (2, .int x1)] [] w4_ 0 0
            refine mp_run mp_k_cX10_fallenOf_ok hF mp_tabX10_ok [mp_c (.iinc 5 1) 1, mp_h (.goto (-75)) [12]] (by decide +kernel) ?_
            intro z_46 h_47
            have e_48 : z_46.toInt = i_7.toInt + 1 := mp_add (a := i_7.toInt) (b := 1) h_47 rfl (by decide) (by omega) (by omega)
            show mp_W E X 6 12 [(5, .int z_46), (4, .int i_13), (3, .int r_4), (0, .ref a0), (1, .int x0), (2, .int x1)] [] w4_ 0 0
            exact mp_sub [0, 1, 2, 3, 4, 5] rfl [0, 1, 2, 3, 4, 5, 6, 7, 8, 9] rfl rfl (ih_24 (d_23 - 1) (by omega) z_46 g_8 g_9 i_10 i_11 i_12 i_13 (by omega) (by omega) l_16 u_17 l_18 u_19 l_20 u_21 (by omega))
          · have c_45 : r_40.toInt ≤ r_44.toInt := c_45
            show mp_W E X 6 40 [(5, .int i_7), (4, .int i_13), (3, .int r_4), (0, .ref a0), (1, .int x0), (2, .int x1)] [] w4_ 0 0
            refine mp_run mp_k_cX10_fallenOf_ok hF mp_tabX10_ok [mp_i (.iload 5)] (by decide +kernel) ?_
            show mp_W E X 6 42 [(5, .int i_7), (4, .int i_13), (3, .int r_4), (0, .ref a0), (1, .int x0), (2, .int x1)] [.int i_7] w4_ 0 0
            refine mp_callS hF (As := [.int i_7]) (rest := []) (wr := w4_) (bX10_sizeOf_116 E i_7) mp_lkX10_373 [] [0, 1, 2, 3, 4, 5, 6, 7, 8, 9] rfl rfl rfl rfl rfl ⟨(Nat.le_of_ble_eq_true rfl), (Nat.le_of_ble_eq_true rfl), (Nat.le_of_ble_eq_true rfl), (Nat.le_of_ble_eq_true rfl)⟩ (Nat.le_of_ble_eq_true rfl) (by first | exact mp_fd_ok mp_k_cX10_fallenOf_ok (by decide +kernel) | decide +kernel) (fun v_49 w_50 h_51 => ?_)
            obtain ⟨r_52, rfl, rfl⟩ := h_51
            show mp_W E X 6 45 [(5, .int i_7), (4, .int i_13), (3, .int r_4), (0, .ref a0), (1, .int x0), (2, .int x1)] [.int r_52] w4_ 0 0
            refine mp_run mp_k_cX10_fallenOf_ok hF mp_tabX10_ok [mp_i (.iload 4)] (by decide +kernel) ?_
            show mp_W E X 6 47 [(5, .int i_7), (4, .int i_13), (3, .int r_4), (0, .ref a0), (1, .int x0), (2, .int x1)] [.int i_13, .int r_52] w4_ 0 0
            refine mp_callS hF (As := [.int i_13]) (rest := [.int r_52]) (wr := w4_) (bX10_sizeOf_116 E i_13) mp_lkX10_373 [] [0, 1, 2, 3, 4, 5, 6, 7, 8, 9] rfl rfl rfl rfl rfl ⟨(Nat.le_of_ble_eq_true rfl), (Nat.le_of_ble_eq_true rfl), (Nat.le_of_ble_eq_true rfl), (Nat.le_of_ble_eq_true rfl)⟩ (Nat.le_of_ble_eq_true rfl) (by first | exact mp_fd_ok mp_k_cX10_fallenOf_ok (by decide +kernel) | decide +kernel) (fun v_53 w_54 h_55 => ?_)
            obtain ⟨r_56, rfl, rfl⟩ := h_55
            show mp_W E X 6 50 [(5, .int i_7), (4, .int i_13), (3, .int r_4), (0, .ref a0), (1, .int x0), (2, .int x1)] [.int r_56, .int r_52] w4_ 0 0
            refine mp_run mp_k_cX10_fallenOf_ok hF mp_tabX10_ok [mp_h (.if_icmp .ne 13) [63]] (by decide +kernel) ?_
            refine And.intro (fun c_57 => ?_) (fun c_57 => ?_)
            · have c_57 : r_52.toInt ≠ r_56.toInt := c_57
              show mp_W E X 6 63 [(5, .int i_7), (4, .int i_13), (3, .int r_4), (0, .ref a0), (1, .int x0), (2, .int x1)] [] w4_ 0 0
              refine mp_run mp_k_cX10_fallenOf_ok hF mp_tabX10_ok [mp_i (.aload_n 0), mp_i (.iload_n 1), mp_i (.iload_n 2), mp_i (.iload_n 3), mp_i (.iload 5), mp_c (.iconst (-1)) (-1), mp_i .ixor, mp_i .iand] (by decide +kernel) ?_
              intro z_58 h_59
              intro z_61 h_62
              show mp_W E X 6 72 [(5, .int i_7), (4, .int i_13), (3, .int r_4), (0, .ref a0), (1, .int x0), (2, .int x1)] [.int z_61, .int x1, .int x0, .ref a0] w4_ 0 0
              refine mp_callV hF (As := [.int x0, .int x1, .int z_61]) (rest := []) (wr := []) (bX10_plansFor_112 E a0 a1 a2 a3 a4 a5 a6 a7 a8 a9 a10 a11 a12 a13 a14 a15 a16 a17 a18 a19 a20 a21 a22 a23 a24 a25 f0 f1 f2 f3 f4 f5 f6 g_8 g_9 y0 y1 y2 y3 y4 y5 y6 y7 y8 y9 y10 y11 i_10 i_11 i_12 y15 y16 y17 y18 y19 y20 y21 x0 x1 z_61 p0 p1 p2 p3 p4 p5 p6 p7 p8 p9 p10 p11 p12 p13 l_x0 u_x0 l_x1 u_x1 l_y1 u_y1 l_y2 u_y2 l_y3 u_y3 l_y4 u_y4 l_y11 u_y11 l_16 u_17 l_18 u_19 (by first | omega | (show y11.toInt + x1.toInt ≤ 99; omega))) mp_lkX10_367 5 rfl [5, 6, 0, 1, 7, 8, 2, 9, 3, 4] [] rfl rfl rfl rfl rfl ⟨(Nat.le_of_ble_eq_true rfl), (Nat.le_of_ble_eq_true rfl), (Nat.le_of_ble_eq_true rfl), (Nat.le_of_ble_eq_true rfl)⟩ (Nat.le_of_ble_eq_true rfl) (by first | exact mp_fd_ok mp_k_cX10_fallenOf_ok (by decide +kernel) | decide +kernel) (fun v_64 w_65 h_66 => ?_)
              refine h_66.elim fun g_67 q_71 => q_71.elim fun g_68 q_72 => q_72.elim fun r_69 q_73 => q_73.elim fun e_74 q_75 => q_75.elim fun x_70 e_76 => ?_
              clear h_66 q_71 q_72 q_73 q_75
              subst e_74
              subst e_76
              let w5_ : va_W := [(mp_ob10 a0 y0 a10 a11 a12 a13 a14 y1 y2 y3 y4 y5 y6 y7 y8 y9 y10 a15 a1 a2 a3 a4 a5 a16 a17 y11 a6 a18 a19 a7 x0 x1 z_61 a8 a9 y15 y16 a20 a21 a22 y17 y18 y19 y20 a23 a24 a25 y21), (mp_arI E a1 0 25 f0), (mp_arI E a2 0 180 f1), (mp_arI E a3 3 3000 f2), (mp_arI E a4 0 90 f3), (mp_arI E a5 0 300 f4), (mp_arI E a6 0 6 f5), (mp_arI E a7 3 1500 f6), (mp_arI E a8 0 78 g_67), (mp_arL E a9 78 g_68)]
              show mp_W E X 6 75 [(5, .int i_7), (4, .int i_13), (3, .int r_4), (0, .ref a0), (1, .int x0), (2, .int x1)] [.int r_69] w5_ 0 0
              refine mp_run mp_k_cX10_fallenOf_ok hF mp_tabX10_ok [mp_c (.ldc 142) 1000000, mp_h (.if_icmp .ge 7) [84]] (by decide +kernel) ?_
              refine And.intro (fun c_77 => ?_) (fun c_77 => ?_)
              · have c_77 : 1000000 ≤ r_69.toInt := c_77
                show mp_W E X 6 84 [(5, .int i_7), (4, .int i_13), (3, .int r_4), (0, .ref a0), (1, .int x0), (2, .int x1)] [] w5_ 0 0
                refine mp_run mp_k_cX10_fallenOf_ok hF mp_tabX10_ok [mp_c (.iinc 5 1) 1, mp_h (.goto (-75)) [12]] (by decide +kernel) ?_
                intro z_78 h_79
                have e_80 : z_78.toInt = i_7.toInt + 1 := mp_add (a := i_7.toInt) (b := 1) h_79 rfl (by decide) (by omega) (by omega)
                show mp_W E X 6 12 [(5, .int z_78), (4, .int i_13), (3, .int r_4), (0, .ref a0), (1, .int x0), (2, .int x1)] [] w5_ 0 0
                exact mp_sub [0, 1, 2, 3, 4, 5] rfl [2, 3, 6, 8, 9, 0, 1, 4, 5, 7] rfl rfl (ih_24 (d_23 - 1) (by omega) z_78 g_67 g_68 x0 x1 z_61 i_13 (by omega) (by omega) l_x0 u_x0 (by omega) u_x1 l_20 u_21 (by omega))
              · have c_77 : r_69.toInt < 1000000 := c_77
                show mp_W E X 6 80 [(5, .int i_7), (4, .int i_13), (3, .int r_4), (0, .ref a0), (1, .int x0), (2, .int x1)] [] w5_ 0 0
                refine mp_run mp_k_cX10_fallenOf_ok hF mp_tabX10_ok [mp_i (.iload 5), mp_i (.istore 4), mp_c (.iinc 5 1) 1, mp_h (.goto (-75)) [12]] (by decide +kernel) ?_
                intro z_81 h_82
                have e_83 : z_81.toInt = i_7.toInt + 1 := mp_add (a := i_7.toInt) (b := 1) h_82 rfl (by decide) (by omega) (by omega)
                show mp_W E X 6 12 [(5, .int z_81), (4, .int i_7), (3, .int r_4), (0, .ref a0), (1, .int x0), (2, .int x1)] [] w5_ 0 0
                exact mp_sub [0, 1, 2, 3, 4, 5] rfl [2, 3, 6, 8, 9, 0, 1, 4, 5, 7] rfl rfl (ih_24 (d_23 - 1) (by omega) z_81 g_67 g_68 x0 x1 z_61 i_7 (by omega) (by omega) l_x0 u_x0 (by omega) u_x1 l_14 (by omega) (by omega))
            · have c_57 : r_52.toInt = r_56.toInt := (congrArg Int32.toInt c_57)
              show mp_W E X 6 53 [(5, .int i_7), (4, .int i_13), (3, .int r_4), (0, .ref a0), (1, .int x0), (2, .int x1)] [] w4_ 0 0
              refine mp_run mp_k_cX10_fallenOf_ok hF mp_tabX10_ok [mp_i (.iload 5), mp_i (.iload 4), mp_h (.if_icmp .lt 6) [63]] (by decide +kernel) ?_
              refine And.intro (fun c_84 => ?_) (fun c_84 => ?_)
              · have c_84 : i_7.toInt < i_13.toInt := c_84
                show mp_W E X 6 63 [(5, .int i_7), (4, .int i_13), (3, .int r_4), (0, .ref a0), (1, .int x0), (2, .int x1)] [] w4_ 0 0
                refine mp_run mp_k_cX10_fallenOf_ok hF mp_tabX10_ok [mp_i (.aload_n 0), mp_i (.iload_n 1), mp_i (.iload_n 2), mp_i (.iload_n 3), mp_i (.iload 5), mp_c (.iconst (-1)) (-1), mp_i .ixor, mp_i .iand] (by decide +kernel) ?_
                intro z_85 h_86
                intro z_88 h_89
                show mp_W E X 6 72 [(5, .int i_7), (4, .int i_13), (3, .int r_4), (0, .ref a0), (1, .int x0), (2, .int x1)] [.int z_88, .int x1, .int x0, .ref a0] w4_ 0 0
                refine mp_callV hF (As := [.int x0, .int x1, .int z_88]) (rest := []) (wr := []) (bX10_plansFor_112 E a0 a1 a2 a3 a4 a5 a6 a7 a8 a9 a10 a11 a12 a13 a14 a15 a16 a17 a18 a19 a20 a21 a22 a23 a24 a25 f0 f1 f2 f3 f4 f5 f6 g_8 g_9 y0 y1 y2 y3 y4 y5 y6 y7 y8 y9 y10 y11 i_10 i_11 i_12 y15 y16 y17 y18 y19 y20 y21 x0 x1 z_88 p0 p1 p2 p3 p4 p5 p6 p7 p8 p9 p10 p11 p12 p13 l_x0 u_x0 l_x1 u_x1 l_y1 u_y1 l_y2 u_y2 l_y3 u_y3 l_y4 u_y4 l_y11 u_y11 l_16 u_17 l_18 u_19 (by first | omega | (show y11.toInt + x1.toInt ≤ 99; omega))) mp_lkX10_367 5 rfl [5, 6, 0, 1, 7, 8, 2, 9, 3, 4] [] rfl rfl rfl rfl rfl ⟨(Nat.le_of_ble_eq_true rfl), (Nat.le_of_ble_eq_true rfl), (Nat.le_of_ble_eq_true rfl), (Nat.le_of_ble_eq_true rfl)⟩ (Nat.le_of_ble_eq_true rfl) (by first | exact mp_fd_ok mp_k_cX10_fallenOf_ok (by decide +kernel) | decide +kernel) (fun v_91 w_92 h_93 => ?_)
                refine h_93.elim fun g_94 q_98 => q_98.elim fun g_95 q_99 => q_99.elim fun r_96 q_100 => q_100.elim fun e_101 q_102 => q_102.elim fun x_97 e_103 => ?_
                clear h_93 q_98 q_99 q_100 q_102
                subst e_101
                subst e_103
                let w6_ : va_W := [(mp_ob10 a0 y0 a10 a11 a12 a13 a14 y1 y2 y3 y4 y5 y6 y7 y8 y9 y10 a15 a1 a2 a3 a4 a5 a16 a17 y11 a6 a18 a19 a7 x0 x1 z_88 a8 a9 y15 y16 a20 a21 a22 y17 y18 y19 y20 a23 a24 a25 y21), (mp_arI E a1 0 25 f0), (mp_arI E a2 0 180 f1), (mp_arI E a3 3 3000 f2), (mp_arI E a4 0 90 f3), (mp_arI E a5 0 300 f4), (mp_arI E a6 0 6 f5), (mp_arI E a7 3 1500 f6), (mp_arI E a8 0 78 g_94), (mp_arL E a9 78 g_95)]
                show mp_W E X 6 75 [(5, .int i_7), (4, .int i_13), (3, .int r_4), (0, .ref a0), (1, .int x0), (2, .int x1)] [.int r_96] w6_ 0 0
                refine mp_run mp_k_cX10_fallenOf_ok hF mp_tabX10_ok [mp_c (.ldc 142) 1000000, mp_h (.if_icmp .ge 7) [84]] (by decide +kernel) ?_
                refine And.intro (fun c_104 => ?_) (fun c_104 => ?_)
                · have c_104 : 1000000 ≤ r_96.toInt := c_104
                  show mp_W E X 6 84 [(5, .int i_7), (4, .int i_13), (3, .int r_4), (0, .ref a0), (1, .int x0), (2, .int x1)] [] w6_ 0 0
                  refine mp_run mp_k_cX10_fallenOf_ok hF mp_tabX10_ok [mp_c (.iinc 5 1) 1, mp_h (.goto (-75)) [12]] (by decide +kernel) ?_
                  intro z_105 h_106
                  have e_107 : z_105.toInt = i_7.toInt + 1 := mp_add (a := i_7.toInt) (b := 1) h_106 rfl (by decide) (by omega) (by omega)
                  show mp_W E X 6 12 [(5, .int z_105), (4, .int i_13), (3, .int r_4), (0, .ref a0), (1, .int x0), (2, .int x1)] [] w6_ 0 0
                  exact mp_sub [0, 1, 2, 3, 4, 5] rfl [2, 3, 6, 8, 9, 0, 1, 4, 5, 7] rfl rfl (ih_24 (d_23 - 1) (by omega) z_105 g_94 g_95 x0 x1 z_88 i_13 (by omega) (by omega) l_x0 u_x0 (by omega) u_x1 l_20 u_21 (by omega))
                · have c_104 : r_96.toInt < 1000000 := c_104
                  show mp_W E X 6 80 [(5, .int i_7), (4, .int i_13), (3, .int r_4), (0, .ref a0), (1, .int x0), (2, .int x1)] [] w6_ 0 0
                  refine mp_run mp_k_cX10_fallenOf_ok hF mp_tabX10_ok [mp_i (.iload 5), mp_i (.istore 4), mp_c (.iinc 5 1) 1, mp_h (.goto (-75)) [12]] (by decide +kernel) ?_
                  intro z_108 h_109
                  have e_110 : z_108.toInt = i_7.toInt + 1 := mp_add (a := i_7.toInt) (b := 1) h_109 rfl (by decide) (by omega) (by omega)
                  show mp_W E X 6 12 [(5, .int z_108), (4, .int i_7), (3, .int r_4), (0, .ref a0), (1, .int x0), (2, .int x1)] [] w6_ 0 0
                  exact mp_sub [0, 1, 2, 3, 4, 5] rfl [2, 3, 6, 8, 9, 0, 1, 4, 5, 7] rfl rfl (ih_24 (d_23 - 1) (by omega) z_108 g_94 g_95 x0 x1 z_88 i_7 (by omega) (by omega) l_x0 u_x0 (by omega) u_x1 l_14 (by omega) (by omega))
              · have c_84 : i_13.toInt ≤ i_7.toInt := c_84
                show mp_W E X 6 60 [(5, .int i_7), (4, .int i_13), (3, .int r_4), (0, .ref a0), (1, .int x0), (2, .int x1)] [] w4_ 0 0
                refine mp_run mp_k_cX10_fallenOf_ok hF mp_tabX10_ok [mp_h (.goto 24) [84], mp_c (.iinc 5 1) 1, mp_h (.goto (-75)) [12]] (by decide +kernel) ?_
                intro z_111 h_112
                have e_113 : z_111.toInt = i_7.toInt + 1 := mp_add (a := i_7.toInt) (b := 1) h_112 rfl (by decide) (by omega) (by omega)
                show mp_W E X 6 12 [(5, .int z_111), (4, .int i_13), (3, .int r_4), (0, .ref a0), (1, .int x0), (2, .int x1)] [] w4_ 0 0
                exact mp_sub [0, 1, 2, 3, 4, 5] rfl [0, 1, 2, 3, 4, 5, 6, 7, 8, 9] rfl rfl (ih_24 (d_23 - 1) (by omega) z_111 g_8 g_9 i_10 i_11 i_12 i_13 (by omega) (by omega) l_16 u_17 l_18 u_19 l_20 u_21 (by omega))
  exact mp_sub [0, 1, 2, 3, 4, 5] rfl [0, 1, 2, 3, 4, 5, 6, 7, 8, 9] rfl rfl (lp_22 _ 0 f7 f8 y12 y13 y14 r_4 (by decide) (by decide) l_y12 u_y12 l_y13 u_y13 l_5 u_6 (Int.self_le_toNat _))

