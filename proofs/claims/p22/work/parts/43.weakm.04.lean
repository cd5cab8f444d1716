set_option maxHeartbeats 4000000 in
set_option maxRecDepth 100000 in
theorem bX10_number_39 (E : mp_E) (a0 a1 a2 a3 a4 a5 a6 a7 a8 a9 a10 a11 a12 a13 a14 a15 a16 a17 a18 a19 a20 a21 a22 a23 a24 a25 : Nat) (f0 : Nat → Int32) (y0 : Int32) (y1 : Int32) (y2 : Int32) (y3 : Int32) (y4 : Int32) (y5 : Int32) (y6 : Int64) (y7 : Int32) (y8 : Int32) (y9 : Int32) (y10 : Int32) (y11 : Int32) (y12 : Int32) (y13 : Int32) (y14 : Int32) (y15 : Int32) (y16 : Int32) (y17 : Int32) (y18 : Int32) (y19 : Int32) (y20 : Int32) (y21 : Int32) (x0 : Int32) (l_x0 : (-1) ≤ x0.toInt) (u_x0 : x0.toInt ≤ 9) (l_y1 : 0 ≤ y1.toInt) (u_y1 : y1.toInt ≤ 1600) (l_y2 : 0 ≤ y2.toInt) (u_y2 : y2.toInt ≤ 1600) (l_y3 : 0 ≤ y3.toInt) (u_y3 : y3.toInt ≤ 4) (l_y4 : 0 ≤ y4.toInt) (u_y4 : y4.toInt ≤ 1600) (l_y11 : 0 ≤ y11.toInt) (u_y11 : y11.toInt ≤ 99) (l_y12 : 0 ≤ y12.toInt) (u_y12 : y12.toInt ≤ 5) (l_y13 : 0 ≤ y13.toInt) (u_y13 : y13.toInt ≤ 12) (q0 : y2.toInt ≤ y1.toInt) (q1 : mp_MT f0 y1.toInt y3.toInt y4.toInt y2.toInt y5.toInt y6.toInt) (q2 : x0.toInt ≤ 1000000) : mp_Ct E yX10_number cX10_number 4 (some FieldType.int) 2 0 0 44 [.ref a0, .int 0, .int x0] [(mp_ob10 a0 y0 a2 a3 a4 a5 a1 y1 y2 y3 y4 y5 y6 y7 y8 y9 y10 a6 a7 a8 a9 a10 a11 a12 a13 y11 a14 a15 a16 a17 y12 y13 y14 a18 a19 y15 y16 a20 a21 a22 y17 y18 y19 y20 a23 a24 a25 y21), (mp_arI E a1 1 1600 f0)] (fun v w' => ∃ r1 : Int32, ∃ r2 : Int32, ∃ r3 : Int32, ∃ r4 : Int32, ∃ r5 : Int64, ∃ r6 : Int32, ∃ r7 : Int32, ∃ r8 : Int32, v = some (.int r8) ∧ 0 ≤ r1.toInt ∧ r1.toInt ≤ 1600 ∧ 0 ≤ r2.toInt ∧ r2.toInt ≤ 4 ∧ 0 ≤ r3.toInt ∧ r3.toInt ≤ 1600 ∧ 0 ≤ r8.toInt ∧ r8.toInt ≤ 9 ∧ (r1.toInt ≤ y1.toInt) ∧ ((5 * (y1.toInt - r1.toInt) + r2.toInt) ≤ (5 * (y1.toInt - y2.toInt) + y3.toInt)) ∧ (r6.toInt ≠ 0 ∨ (0 ≤ r8.toInt ∧ r8.toInt ≤ x0.toInt)) ∧ (mp_NK f0 y1.toInt y7.toInt y8.toInt y4.toInt r6.toInt r7.toInt r3.toInt 0 x0.toInt r8.toInt) ∧ (mp_MT f0 y1.toInt r2.toInt r3.toInt r1.toInt r4.toInt r5.toInt) ∧ w' = [(mp_ob10 a0 y0 a2 a3 a4 a5 a1 y1 r1 r2 r3 r4 r5 r6 r7 y9 y10 a6 a7 a8 a9 a10 a11 a12 a13 y11 a14 a15 a16 a17 y12 y13 y14 a18 a19 y15 y16 a20 a21 a22 y17 y18 y19 y20 a23 a24 a25 y21), (mp_arI E a1 1 1600 f0)]) := by
  refine mp_met false (by decide) (by decide) (Nat.le_of_ble_eq_true rfl) (fun X hF hQ => ?_)
  have hF : mp_F E X (RX10, cX10_number, 4, (2, 0, 0, 44), (some FieldType.int), false) := hF
  let w1_ : va_W := [(mp_ob10 a0 y0 a2 a3 a4 a5 a1 y1 y2 y3 y4 y5 y6 y7 y8 y9 y10 a6 a7 a8 a9 a10 a11 a12 a13 y11 a14 a15 a16 a17 y12 y13 y14 a18 a19 y15 y16 a20 a21 a22 y17 y18 y19 y20 a23 a24 a25 y21), (mp_arI E a1 1 1600 f0)]
  show mp_W E X 4 0 [(0, .ref a0), (1, .int 0), (2, .int x0)] [] w1_ 0 0
  refine mp_run mp_k_cX10_number_ok hF mp_tabX10_ok [mp_i (.aload_n 0), mp_h (.getfield 144) [12, 0], mp_h (.ifCond .eq 5) [9]] (by decide +kernel) ?_
  refine And.intro rfl (And.intro rfl ?_)
  refine And.intro (fun c_1 => ?_) (fun c_1 => ?_)
  · have c_1 : y7.toInt = 0 := (congrArg Int32.toInt c_1)
    show mp_W E X 4 9 [(0, .ref a0), (1, .int 0), (2, .int x0)] [] w1_ 0 0
    refine mp_run mp_k_cX10_number_ok hF mp_tabX10_ok [mp_i (.aload_n 0), mp_h (.getfield 133) [8, 0], mp_c (.iconst 2) 2, mp_h (.if_icmp .eq 10) [24]] (by decide +kernel) ?_
    refine And.intro rfl (And.intro rfl ?_)
    refine And.intro (fun c_2 => ?_) (fun c_2 => ?_)
    · have c_2 : y3.toInt = 2 := (congrArg Int32.toInt c_2)
      show mp_W E X 4 24 [(0, .ref a0), (1, .int 0), (2, .int x0)] [] w1_ 0 0
      refine mp_run mp_k_cX10_number_ok hF mp_tabX10_ok [mp_i (.aload_n 0), mp_h (.getfield 126) [10, 0], mp_i .i2l, mp_i (.iload_n 1), mp_i .i2l, mp_i (.iload_n 2), mp_i .i2l] (by decide +kernel) ?_
      refine And.intro rfl (And.intro rfl ?_)
      intro z_3 h_4
      have e_5 : z_3.toInt = y5.toInt := mp_i2l h_4
      intro z_6 h_7
      obtain rfl : z_6 = 0 := h_7.trans (by decide)
      intro z_8 h_9
      have e_10 : z_8.toInt = x0.toInt := mp_i2l h_9
      show mp_W E X 4 33 [(0, .ref a0), (1, .int 0), (2, .int x0)] [.long z_8, .long 0, .long z_3] w1_ 0 0
      refine mp_callS hF (As := [.long z_3, .long 0, .long z_8]) (rest := []) (wr := w1_) (bX10_in_0 E z_3 0 z_8) mp_lkX10_97 [] [0, 1] rfl rfl rfl rfl rfl ⟨(Nat.le_of_ble_eq_true rfl), (Nat.le_of_ble_eq_true rfl), (Nat.le_of_ble_eq_true rfl), (Nat.le_of_ble_eq_true rfl)⟩ (Nat.le_of_ble_eq_true rfl) (by first | exact mp_fd_ok mp_k_cX10_number_ok (by decide +kernel) | decide +kernel) (fun v_11 w_12 h_13 => ?_)
      rcases h_13 with ⟨rfl, x_14, rfl⟩ | ⟨rfl, c_15, c_16, rfl⟩
      · skip
        have i_17 : (0 : Int64).toInt = 0 := by decide
        show mp_W E X 4 36 [(0, .ref a0), (1, .int 0), (2, .int x0)] [.int 0] w1_ 0 0
        refine mp_run mp_k_cX10_number_ok hF mp_tabX10_ok [mp_h (.ifCond .ne 10) [46]] (by decide +kernel) ?_
        refine And.intro (fun c_18 => absurd c_18 (by decide)) (fun _ => ?_)
        show mp_W E X 4 39 [(0, .ref a0), (1, .int 0), (2, .int x0)] [] w1_ 0 0
        refine mp_run mp_k_cX10_number_ok hF mp_tabX10_ok [mp_i (.aload_n 0), mp_c (.iconst 2) 2] (by decide +kernel) ?_
        show mp_W E X 4 41 [(0, .ref a0), (1, .int 0), (2, .int x0)] [.int 2, .ref a0] w1_ 0 0
        refine mp_callV hF (As := [.int 2]) (rest := []) (wr := [(mp_arI E a1 1 1600 f0)]) (bX10_fails_23 E a0 a2 a3 a4 a5 a1 a6 a7 a8 a9 a10 a11 a12 a13 a14 a15 a16 a17 a18 a19 a20 a21 a22 a23 a24 a25 y0 y1 y2 y3 y4 y5 y6 y7 y8 y9 y10 y11 y12 y13 y14 y15 y16 y17 y18 y19 y20 y21 l_y1 u_y1 l_y2 u_y2 l_y3 u_y3 l_y4 u_y4 l_y11 u_y11 l_y12 u_y12 l_y13 u_y13) mp_lkX10_160 0 rfl [0] [1] rfl rfl rfl rfl rfl ⟨(Nat.le_of_ble_eq_true rfl), (Nat.le_of_ble_eq_true rfl), (Nat.le_of_ble_eq_true rfl), (Nat.le_of_ble_eq_true rfl)⟩ (Nat.le_of_ble_eq_true rfl) (by first | exact mp_fd_ok mp_k_cX10_number_ok (by decide +kernel) | decide +kernel) (fun v_19 w_20 h_21 => ?_)
        refine h_21.elim fun r_22 q_26 => q_26.elim fun r_23 q_27 => q_27.elim fun e_28 q_29 => q_29.elim fun x_24 q_30 => q_30.elim fun x_25 e_31 => ?_
        clear h_21 q_26 q_27 q_29 q_30
        subst e_28
        subst e_31
        let w2_ : va_W := [(mp_arI E a1 1 1600 f0), (mp_ob10 a0 y0 a2 a3 a4 a5 a1 y1 y2 y3 y4 y5 y6 r_22 r_23 y9 y10 a6 a7 a8 a9 a10 a11 a12 a13 y11 a14 a15 a16 a17 y12 y13 y14 a18 a19 y15 y16 a20 a21 a22 y17 y18 y19 y20 a23 a24 a25 y21)]
        show mp_W E X 4 44 [(0, .ref a0), (1, .int 0), (2, .int x0)] [] w2_ 0 0
        refine mp_run mp_k_cX10_number_ok hF mp_tabX10_ok [mp_i (.iload_n 1)] (by decide +kernel) ?_
        show mp_W E X 4 45 [(0, .ref a0), (1, .int 0), (2, .int x0)] [.int 0] w2_ 0 0
        exact mp_iret hF hQ rfl rfl (Nat.le_of_ble_eq_true rfl) (Nat.le_of_ble_eq_true rfl) [1, 0] (w' := [(mp_ob10 a0 y0 a2 a3 a4 a5 a1 y1 y2 y3 y4 y5 y6 r_22 r_23 y9 y10 a6 a7 a8 a9 a10 a11 a12 a13 y11 a14 a15 a16 a17 y12 y13 y14 a18 a19 y15 y16 a20 a21 a22 y17 y18 y19 y20 a23 a24 a25 y21), (mp_arI E a1 1 1600 f0)]) rfl rfl ⟨y2, y3, y4, y5, y6, r_22, r_23, 0, rfl, l_y2, u_y2, l_y3, u_y3, l_y4, u_y4, (by decide), (by decide), (by first | (first | exact q0 | omega) | decide), (by first | (first | exact mp_o1069 | omega) | decide), (by first | (first | exact mp_o1076 x_25 | omega) | decide), (mp_NK_l3 q1 (by (first | exact c_2 | omega)) (by (first | exact c_1 | omega)) (by (first | exact mp_o1077 i_17 e_5 x_14 e_10 | omega)) (by first | (first | exact q2 | omega) | exact q2) (by first | (first | exact mp_o1078 c_1 x_25 | omega) | decide) (by (first | exact mp_o1079 c_1 x_25 | omega))), q1, rfl⟩ (by first | exact mp_fd_ok mp_k_cX10_number_ok (by decide +kernel) | decide +kernel)
      · skip
        have c_15 : 0 ≤ z_3.toInt := c_15
        have c_16 : z_3.toInt ≤ z_8.toInt := c_16
        have i_32 : (0 : Int64).toInt = 0 := by decide
        show mp_W E X 4 36 [(0, .ref a0), (1, .int 0), (2, .int x0)] [.int 1] w1_ 0 0
        refine mp_run mp_k_cX10_number_ok hF mp_tabX10_ok [mp_h (.ifCond .ne 10) [46]] (by decide +kernel) ?_
        refine And.intro (fun _ => ?_) (fun c_33 => absurd c_33 (by decide))
        show mp_W E X 4 46 [(0, .ref a0), (1, .int 0), (2, .int x0)] [] w1_ 0 0
        refine mp_run mp_k_cX10_number_ok hF mp_tabX10_ok [mp_i (.aload_n 0), mp_h (.getfield 126) [10, 0], mp_i (.istore_n 3), mp_i (.aload_n 0)] (by decide +kernel) ?_
        refine And.intro rfl (And.intro rfl ?_)
        show mp_W E X 4 52 [(3, .int y5), (0, .ref a0), (1, .int 0), (2, .int x0)] [.ref a0] w1_ 0 0
        refine mp_callV hF (As := []) (rest := []) (wr := []) (bX10_next_12 E a0 a1 a2 a3 a4 a5 a6 a7 a8 a9 a10 a11 a12 a13 a14 a15 a16 a17 a18 a19 a20 a21 a22 a23 a24 a25 f0 y0 y1 y2 y3 y4 y5 y6 y7 y8 y9 y10 y11 y12 y13 y14 y15 y16 y17 y18 y19 y20 y21 l_y1 u_y1 l_y2 u_y2 l_y3 u_y3 l_y4 u_y4 l_y11 u_y11 l_y12 u_y12 l_y13 u_y13 (by first | (first | exact q0 | omega) | (show y2.toInt ≤ y1.toInt; omega))) mp_lkX10_154 0 rfl [0, 1] [] rfl rfl rfl rfl rfl ⟨(Nat.le_of_ble_eq_true rfl), (Nat.le_of_ble_eq_true rfl), (Nat.le_of_ble_eq_true rfl), (Nat.le_of_ble_eq_true rfl)⟩ (Nat.le_of_ble_eq_true rfl) (by first | exact mp_fd_ok mp_k_cX10_number_ok (by decide +kernel) | decide +kernel) (fun v_34 w_35 h_36 => ?_)
        refine h_36.elim fun r_37 q_56 => q_56.elim fun r_38 q_57 => q_57.elim fun r_39 q_58 => q_58.elim fun r_40 q_59 => q_59.elim fun r_41 q_60 => q_60.elim fun e_61 q_62 => q_62.elim fun l_42 q_63 => q_63.elim fun u_43 q_64 => q_64.elim fun l_44 q_65 => q_65.elim fun u_45 q_66 => q_66.elim fun l_46 q_67 => q_67.elim fun u_47 q_68 => q_68.elim fun l_48 q_69 => q_69.elim fun u_49 q_70 => q_70.elim fun l_50 q_71 => q_71.elim fun u_51 q_72 => q_72.elim fun x_52 q_73 => q_73.elim fun x_53 q_74 => q_74.elim fun x_54 q_75 => q_75.elim fun x_55 e_76 => ?_
        clear h_36 q_56 q_57 q_58 q_59 q_60 q_62 q_63 q_64 q_65 q_66 q_67 q_68 q_69 q_70 q_71 q_72 q_73 q_74 q_75
        subst e_61
        subst e_76
        let w3_ : va_W := [(mp_ob10 a0 y0 a2 a3 a4 a5 a1 y1 r_37 r_38 r_39 r_40 r_41 y7 y8 y9 y10 a6 a7 a8 a9 a10 a11 a12 a13 y11 a14 a15 a16 a17 y12 y13 y14 a18 a19 y15 y16 a20 a21 a22 y17 y18 y19 y20 a23 a24 a25 y21), (mp_arI E a1 1 1600 f0)]
        show mp_W E X 4 55 [(3, .int y5), (0, .ref a0), (1, .int 0), (2, .int x0)] [] w3_ 0 0
        refine mp_run mp_k_cX10_number_ok hF mp_tabX10_ok [mp_i (.iload_n 3)] (by decide +kernel) ?_
        show mp_W E X 4 56 [(3, .int y5), (0, .ref a0), (1, .int 0), (2, .int x0)] [.int y5] w3_ 0 0
        exact mp_iret hF hQ rfl rfl (Nat.le_of_ble_eq_true rfl) (Nat.le_of_ble_eq_true rfl) [0, 1] (w' := w3_) rfl rfl ⟨r_37, r_38, r_39, r_40, r_41, y7, y8, y5, rfl, l_42, u_43, l_44, u_45, l_46, u_47, (by (first | exact mp_o921 c_15 e_5 | omega)), (by omega), (by first | (first | exact x_52 | omega) | decide), (by first | (first | exact mp_o1081 x_53 u_45 c_2 | omega) | decide), (by first | (first | exact mp_o1082 c_15 e_5 e_10 c_16 | omega) | decide), (mp_NK_l4 q1 (by (first | exact c_2 | omega)) (by (first | exact c_1 | omega)) (by (first | exact mp_o1083 c_15 e_5 e_10 c_16 | omega)) (by first | (first | exact q2 | omega) | exact q2) (by first | rfl | omega) (by first | (first | exact c_1 | omega) | decide) (show r_39.toInt = ((mp_NX f0 (y1.toInt).toNat (y4.toInt).toNat : Nat) : Int) from (by have k9 := x_54; unfold mp_NX; rw [← Int.toNat_natCast (mp_TE _ _ _), ← q1.2.2.1]; exact k9))), x_55, rfl⟩ (by first | exact mp_fd_ok mp_k_cX10_number_ok (by decide +kernel) | decide +kernel)
    · have c_2 : y3.toInt ≠ 2 := c_2
      show mp_W E X 4 17 [(0, .ref a0), (1, .int 0), (2, .int x0)] [] w1_ 0 0
      refine mp_run mp_k_cX10_number_ok hF mp_tabX10_ok [mp_i (.aload_n 0), mp_c (.iconst 1) 1] (by decide +kernel) ?_
      show mp_W E X 4 19 [(0, .ref a0), (1, .int 0), (2, .int x0)] [.int 1, .ref a0] w1_ 0 0
      refine mp_callV hF (As := [.int 1]) (rest := []) (wr := [(mp_arI E a1 1 1600 f0)]) (bX10_fails_20 E a0 a2 a3 a4 a5 a1 a6 a7 a8 a9 a10 a11 a12 a13 a14 a15 a16 a17 a18 a19 a20 a21 a22 a23 a24 a25 y0 y1 y2 y3 y4 y5 y6 y7 y8 y9 y10 y11 y12 y13 y14 y15 y16 y17 y18 y19 y20 y21 l_y1 u_y1 l_y2 u_y2 l_y3 u_y3 l_y4 u_y4 l_y11 u_y11 l_y12 u_y12 l_y13 u_y13) mp_lkX10_160 0 rfl [0] [1] rfl rfl rfl rfl rfl ⟨(Nat.le_of_ble_eq_true rfl), (Nat.le_of_ble_eq_true rfl), (Nat.le_of_ble_eq_true rfl), (Nat.le_of_ble_eq_true rfl)⟩ (Nat.le_of_ble_eq_true rfl) (by first | exact mp_fd_ok mp_k_cX10_number_ok (by decide +kernel) | decide +kernel) (fun v_77 w_78 h_79 => ?_)
      refine h_79.elim fun r_80 q_84 => q_84.elim fun r_81 q_85 => q_85.elim fun e_86 q_87 => q_87.elim fun x_82 q_88 => q_88.elim fun x_83 e_89 => ?_
      clear h_79 q_84 q_85 q_87 q_88
      subst e_86
      subst e_89
      let w4_ : va_W := [(mp_arI E a1 1 1600 f0), (mp_ob10 a0 y0 a2 a3 a4 a5 a1 y1 y2 y3 y4 y5 y6 r_80 r_81 y9 y10 a6 a7 a8 a9 a10 a11 a12 a13 y11 a14 a15 a16 a17 y12 y13 y14 a18 a19 y15 y16 a20 a21 a22 y17 y18 y19 y20 a23 a24 a25 y21)]
      show mp_W E X 4 22 [(0, .ref a0), (1, .int 0), (2, .int x0)] [] w4_ 0 0
      refine mp_run mp_k_cX10_number_ok hF mp_tabX10_ok [mp_i (.iload_n 1)] (by decide +kernel) ?_
      show mp_W E X 4 23 [(0, .ref a0), (1, .int 0), (2, .int x0)] [.int 0] w4_ 0 0
      exact mp_iret hF hQ rfl rfl (Nat.le_of_ble_eq_true rfl) (Nat.le_of_ble_eq_true rfl) [1, 0] (w' := [(mp_ob10 a0 y0 a2 a3 a4 a5 a1 y1 y2 y3 y4 y5 y6 r_80 r_81 y9 y10 a6 a7 a8 a9 a10 a11 a12 a13 y11 a14 a15 a16 a17 y12 y13 y14 a18 a19 y15 y16 a20 a21 a22 y17 y18 y19 y20 a23 a24 a25 y21), (mp_arI E a1 1 1600 f0)]) rfl rfl ⟨y2, y3, y4, y5, y6, r_80, r_81, 0, rfl, l_y2, u_y2, l_y3, u_y3, l_y4, u_y4, (by decide), (by decide), (by first | (first | exact q0 | omega) | decide), (by first | (first | exact mp_o1069 | omega) | decide), (by first | (first | exact mp_o1084 x_83 | omega) | decide), (mp_NK_l2 q1 (by (first | exact c_2 | omega)) (by (first | exact c_1 | omega)) (by first | (first | exact mp_o1085 c_1 x_83 | omega) | decide) (by (first | exact mp_o1086 c_1 x_83 | omega))), q1, rfl⟩ (by first | exact mp_fd_ok mp_k_cX10_number_ok (by decide +kernel) | decide +kernel)
  · have c_1 : y7.toInt ≠ 0 := c_1
    show mp_W E X 4 7 [(0, .ref a0), (1, .int 0), (2, .int x0)] [] w1_ 0 0
    refine mp_run mp_k_cX10_number_ok hF mp_tabX10_ok [mp_i (.iload_n 1)] (by decide +kernel) ?_
    show mp_W E X 4 8 [(0, .ref a0), (1, .int 0), (2, .int x0)] [.int 0] w1_ 0 0
    exact mp_iret hF hQ rfl rfl (Nat.le_of_ble_eq_true rfl) (Nat.le_of_ble_eq_true rfl) [0, 1] (w' := w1_) rfl rfl ⟨y2, y3, y4, y5, y6, y7, y8, 0, rfl, l_y2, u_y2, l_y3, u_y3, l_y4, u_y4, (by decide), (by decide), (by first | (first | exact q0 | omega) | decide), (by first | (first | exact mp_o1069 | omega) | decide), (by first | (first | exact mp_o1087 c_1 | omega) | decide), (mp_NK_l1 (by (first | exact c_1 | omega)) (by first | rfl | omega) (by first | rfl | omega)), q1, rfl⟩ (by first | exact mp_fd_ok mp_k_cX10_number_ok (by decide +kernel) | decide +kernel)
