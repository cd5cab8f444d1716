set_option maxHeartbeats 4000000 in
set_option maxRecDepth 100000 in
theorem bX10_lets_118 (E : mp_E) (a0 a1 a2 a3 a4 a5 a6 a7 a8 a9 a10 a11 a12 a13 a14 a15 a16 a17 a18 a19 a20 a21 a22 a23 a24 a25 : Nat) (f0 : Nat → Int32) (f1 : Nat → Int32) (f2 : Nat → Int32) (f3 : Nat → Int32) (f4 : Nat → Int32) (f5 : Nat → Int32) (f6 : Nat → Int32) (f7 : Nat → Int32) (f8 : Nat → Int32) (f9 : Nat → Int32) (f10 : Nat → Int32) (f11 : Nat → Int64) (y0 : Int32) (y1 : Int32) (y2 : Int32) (y3 : Int32) (y4 : Int32) (y5 : Int32) (y6 : Int64) (y7 : Int32) (y8 : Int32) (y9 : Int32) (y10 : Int32) (y11 : Int32) (y12 : Int32) (y13 : Int32) (y14 : Int32) (y15 : Int32) (y16 : Int32) (y17 : Int32) (y18 : Int32) (y19 : Int32) (y20 : Int32) (y21 : Int32) (x0 : Int32) (x1 : Int32) (p0 : mp_res f0 25 5 0 0 6) (p1 : mp_res f0 25 5 1 0 99) (p2 : mp_res f0 25 5 2 0 6) (p3 : mp_res f0 25 5 3 0 10) (p4 : mp_res f0 25 5 4 0 60) (p5 : mp_all f1 180 0 20) (p6 : mp_all f2 3000 0 1) (p7 : mp_res f3 90 3 0 0 5) (p8 : mp_res f3 90 3 1 (-1) 99) (p9 : mp_res f4 300 6 0 0 5) (p10 : mp_res f4 300 6 1 0 5) (p11 : mp_res f4 300 6 3 0 99) (p12 : mp_res f4 300 6 4 0 1) (p13 : mp_actm f5) (p14 : mp_all f6 6 0 5) (l_y1 : 0 ≤ y1.toInt) (u_y1 : y1.toInt ≤ 1600) (l_y2 : 0 ≤ y2.toInt) (u_y2 : y2.toInt ≤ 1600) (l_y3 : 0 ≤ y3.toInt) (u_y3 : y3.toInt ≤ 4) (l_y4 : 0 ≤ y4.toInt) (u_y4 : y4.toInt ≤ 1600) (l_y11 : 0 ≤ y11.toInt) (u_y11 : y11.toInt ≤ 99) (l_y12 : 0 ≤ y12.toInt) (u_y12 : y12.toInt ≤ 5) (l_y13 : 0 ≤ y13.toInt) (u_y13 : y13.toInt ≤ 12) (q0 : (f0 1).toInt + mp_k200 f5 (f0 4).toInt ≤ 99) : mp_Ct E yX10_lets cX10_lets 3 (some FieldType.int) 19 0 0 513 [.ref a0, .int x0, .int x1] [(mp_ob10 a0 y0 a13 a14 a15 a16 a17 y1 y2 y3 y4 y5 y6 y7 y8 y9 y10 a18 a1 a2 a3 a4 a5 a6 a19 y11 a7 a8 a9 a10 y12 y13 y14 a11 a12 y15 y16 a20 a21 a22 y17 y18 y19 y20 a23 a24 a25 y21), (mp_arI E a1 0 25 f0), (mp_arI E a2 0 180 f1), (mp_arI E a3 3 3000 f2), (mp_arI E a4 0 90 f3), (mp_arI E a5 0 300 f4), (mp_arI E a6 0 300 f5), (mp_arI E a7 0 6 f6), (mp_arI E a8 0 6 f7), (mp_arI E a9 0 6 f8), (mp_arI E a10 3 1500 f9), (mp_arI E a11 0 78 f10), (mp_arL E a12 78 f11)] (fun v w' => ∃ r1 : Int32, ∃ r2 : Int32, ∃ r3 : Int32, ∃ r4 : Int32, ∃ h5 : Nat → Int32, ∃ h6 : Nat → Int32, ∃ h7 : Nat → Int32, ∃ h8 : Nat → Int32, ∃ h9 : Nat → Int32, ∃ h10 : Nat → Int64, ∃ r11 : Int32, v = some (.int r11) ∧ 0 ≤ r1.toInt ∧ r1.toInt ≤ 99 ∧ 0 ≤ r2.toInt ∧ r2.toInt ≤ 5 ∧ 0 ≤ r3.toInt ∧ r3.toInt ≤ 12 ∧ mp_all h5 6 0 5 ∧ w' = [(mp_ob10 a0 0 a13 a14 a15 a16 a17 y1 y2 y3 y4 y5 y6 y7 y8 y9 y10 a18 a1 a2 a3 a4 a5 a6 a19 r1 a7 a8 a9 a10 r2 r3 r4 a11 a12 y15 y16 a20 a21 a22 y17 y18 y19 y20 a23 a24 a25 y21), (mp_arI E a1 0 25 f0), (mp_arI E a2 0 180 f1), (mp_arI E a3 3 3000 f2), (mp_arI E a4 0 90 f3), (mp_arI E a5 0 300 f4), (mp_arI E a6 0 300 f5), (mp_arI E a7 0 6 h5), (mp_arI E a8 0 6 h6), (mp_arI E a9 0 6 h7), (mp_arI E a10 3 1500 h8), (mp_arI E a11 0 78 h9), (mp_arL E a12 78 h10)]) := by
  refine mp_met false (by decide) (by decide) (Nat.le_of_ble_eq_true rfl) (fun X hF hQ => ?_)
  have hF : mp_F E X (RX10, cX10_lets, 3, (19, 0, 0, 513), (some FieldType.int), false) := hF
  let w1_ : va_W := [(mp_ob10 a0 y0 a13 a14 a15 a16 a17 y1 y2 y3 y4 y5 y6 y7 y8 y9 y10 a18 a1 a2 a3 a4 a5 a6 a19 y11 a7 a8 a9 a10 y12 y13 y14 a11 a12 y15 y16 a20 a21 a22 y17 y18 y19 y20 a23 a24 a25 y21), (mp_arI E a1 0 25 f0), (mp_arI E a2 0 180 f1), (mp_arI E a3 3 3000 f2), (mp_arI E a4 0 90 f3), (mp_arI E a5 0 300 f4), (mp_arI E a6 0 300 f5), (mp_arI E a7 0 6 f6), (mp_arI E a8 0 6 f7), (mp_arI E a9 0 6 f8), (mp_arI E a10 3 1500 f9), (mp_arI E a11 0 78 f10), (mp_arL E a12 78 f11)]
  show mp_W E X 3 0 [(0, .ref a0), (1, .int x0), (2, .int x1)] [] w1_ 0 0
  refine mp_run mp_k_cX10_lets_ok hF mp_tabX10_ok [mp_i (.aload_n 0), mp_c (.iconst 0) 0, mp_h (.putfield 92) [0, 0]] (by decide +kernel) ?_
  refine And.intro rfl (And.intro rfl (And.intro rfl (And.intro rfl (And.intro (Nat.le_of_ble_eq_true rfl) ?_))))
  let w2_ : va_W := [(mp_ob10 a0 0 a13 a14 a15 a16 a17 y1 y2 y3 y4 y5 y6 y7 y8 y9 y10 a18 a1 a2 a3 a4 a5 a6 a19 y11 a7 a8 a9 a10 y12 y13 y14 a11 a12 y15 y16 a20 a21 a22 y17 y18 y19 y20 a23 a24 a25 y21), (mp_arI E a1 0 25 f0), (mp_arI E a2 0 180 f1), (mp_arI E a3 3 3000 f2), (mp_arI E a4 0 90 f3), (mp_arI E a5 0 300 f4), (mp_arI E a6 0 300 f5), (mp_arI E a7 0 6 f6), (mp_arI E a8 0 6 f7), (mp_arI E a9 0 6 f8), (mp_arI E a10 3 1500 f9), (mp_arI E a11 0 78 f10), (mp_arL E a12 78 f11)]
  show mp_W E X 3 5 [(0, .ref a0), (1, .int x0), (2, .int x1)] [] w2_ 0 0
  refine mp_run mp_k_cX10_lets_ok hF mp_tabX10_ok [mp_i (.aload_n 0), mp_i (.iload_n 1), mp_i (.iload_n 2)] (by decide +kernel) ?_
  show mp_W E X 3 8 [(0, .ref a0), (1, .int x0), (2, .int x1)] [.int x1, .int x0, .ref a0] w2_ 0 0
  refine mp_callV hF (As := [.int x0, .int x1]) (rest := []) (wr := [(mp_arI E a3 3 3000 f2), (mp_arI E a5 0 300 f4), (mp_arI E a11 0 78 f10), (mp_arL E a12 78 f11)]) (bX10_isPlan_105 E a0 a1 a2 a4 a6 a7 a8 a9 a10 a13 a14 a15 a16 a17 a18 a3 a5 a19 a11 a12 a20 a21 a22 a23 a24 a25 f0 f1 f3 f5 f6 f7 f8 f9 0 y1 y2 y3 y4 y5 y6 y7 y8 y9 y10 y11 y12 y13 y14 y15 y16 y17 y18 y19 y20 y21 x0 x1 p0 p1 p2 p3 p4 p5 p7 p8 p13 p14 l_y1 u_y1 l_y2 u_y2 l_y3 u_y3 l_y4 u_y4 l_y11 u_y11 l_y12 u_y12 l_y13 u_y13 (by (first | exact q0 | omega))) mp_lkX10_361 0 rfl [0, 1, 2, 4, 6, 7, 8, 9, 10] [3, 5, 11, 12] rfl rfl rfl rfl rfl ⟨(Nat.le_of_ble_eq_true rfl), (Nat.le_of_ble_eq_true rfl), (Nat.le_of_ble_eq_true rfl), (Nat.le_of_ble_eq_true rfl)⟩ (Nat.le_of_ble_eq_true rfl) (by first | exact mp_fd_ok mp_k_cX10_lets_ok (by decide +kernel) | decide +kernel) (fun v_1 w_2 h_3 => ?_)
  refine h_3.elim (fun q_28 => ?_) (fun q_29 => ?_)
  · skip
    refine q_28.elim fun r_4 q_30 => q_30.elim fun g_5 q_31 => q_31.elim fun g_6 q_32 => q_32.elim fun g_7 q_33 => q_33.elim fun g_8 q_34 => q_34.elim fun e_35 q_36 => q_36.elim fun l_9 q_37 => q_37.elim fun u_10 q_38 => q_38.elim fun p_11 e_39 => ?_
    clear h_3 q_28 q_30 q_31 q_32 q_33 q_34 q_36 q_37 q_38
    subst e_35
    subst e_39
    let w3_ : va_W := [(mp_arI E a3 3 3000 f2), (mp_arI E a5 0 300 f4), (mp_arI E a11 0 78 f10), (mp_arL E a12 78 f11), (mp_ob10 a0 0 a13 a14 a15 a16 a17 y1 y2 y3 y4 y5 y6 y7 y8 y9 y10 a18 a1 a2 a3 a4 a5 a6 a19 r_4 a7 a8 a9 a10 y12 y13 y14 a11 a12 y15 y16 a20 a21 a22 y17 y18 y19 y20 a23 a24 a25 y21), (mp_arI E a1 0 25 f0), (mp_arI E a2 0 180 f1), (mp_arI E a4 0 90 f3), (mp_arI E a6 0 300 f5), (mp_arI E a7 0 6 g_5), (mp_arI E a8 0 6 g_6), (mp_arI E a9 0 6 g_7), (mp_arI E a10 3 1500 g_8)]
    show mp_W E X 3 11 [(0, .ref a0), (1, .int x0), (2, .int x1)] [.int 0] w3_ 0 0
    refine mp_run mp_k_cX10_lets_ok hF mp_tabX10_ok [mp_h (.ifCond .eq 15) [26]] (by decide +kernel) ?_
    refine And.intro (fun _ => ?_) (fun c_40 => absurd c_40 (by decide))
    show mp_W E X 3 26 [(0, .ref a0), (1, .int x0), (2, .int x1)] [] w3_ 0 0
    refine mp_run mp_k_cX10_lets_ok hF mp_tabX10_ok [mp_c (.bipush (-2)) (-2)] (by decide +kernel) ?_
    show mp_W E X 3 28 [(0, .ref a0), (1, .int x0), (2, .int x1)] [.int (-2)] w3_ 0 0
    exact mp_iret hF hQ rfl rfl (Nat.le_of_ble_eq_true rfl) (Nat.le_of_ble_eq_true rfl) [4, 5, 6, 0, 7, 1, 8, 9, 10, 11, 12, 2, 3] (w' := [(mp_ob10 a0 0 a13 a14 a15 a16 a17 y1 y2 y3 y4 y5 y6 y7 y8 y9 y10 a18 a1 a2 a3 a4 a5 a6 a19 r_4 a7 a8 a9 a10 y12 y13 y14 a11 a12 y15 y16 a20 a21 a22 y17 y18 y19 y20 a23 a24 a25 y21), (mp_arI E a1 0 25 f0), (mp_arI E a2 0 180 f1), (mp_arI E a3 3 3000 f2), (mp_arI E a4 0 90 f3), (mp_arI E a5 0 300 f4), (mp_arI E a6 0 300 f5), (mp_arI E a7 0 6 g_5), (mp_arI E a8 0 6 g_6), (mp_arI E a9 0 6 g_7), (mp_arI E a10 3 1500 g_8), (mp_arI E a11 0 78 f10), (mp_arL E a12 78 f11)]) rfl rfl ⟨r_4, y12, y13, y14, g_5, g_6, g_7, g_8, f10, f11, (-2), rfl, l_9, u_10, l_y12, u_y12, l_y13, u_y13, p_11, rfl⟩ (by first | exact mp_fd_ok mp_k_cX10_lets_ok (by decide +kernel) | decide +kernel)
  · skip
    refine q_29.elim fun r_12 q_41 => q_41.elim fun g_13 q_42 => q_42.elim fun g_14 q_43 => q_43.elim fun g_15 q_44 => q_44.elim fun g_16 q_45 => q_45.elim fun e_46 q_47 => q_47.elim fun c_17 q_48 => q_48.elim fun c_18 q_49 => q_49.elim fun c_19 q_50 => q_50.elim fun l_20 q_51 => q_51.elim fun u_21 q_52 => q_52.elim fun p_22 q_53 => q_53.elim fun x_23 q_54 => q_54.elim fun x_24 q_55 => q_55.elim fun x_25 q_56 => q_56.elim fun x_26 q_57 => q_57.elim fun x_27 e_58 => ?_
    clear h_3 q_29 q_41 q_42 q_43 q_44 q_45 q_47 q_48 q_49 q_50 q_51 q_52 q_53 q_54 q_55 q_56 q_57
    subst e_46
    subst e_58
    have c_17 : 0 ≤ x0.toInt := c_17
    have c_18 : 1 ≤ x1.toInt := c_18
    have c_19 : x1.toInt ≤ 12 := c_19
    let w4_ : va_W := [(mp_arI E a3 3 3000 f2), (mp_arI E a5 0 300 f4), (mp_arI E a11 0 78 f10), (mp_arL E a12 78 f11), (mp_ob10 a0 0 a13 a14 a15 a16 a17 y1 y2 y3 y4 y5 y6 y7 y8 y9 y10 a18 a1 a2 a3 a4 a5 a6 a19 r_12 a7 a8 a9 a10 y12 y13 y14 a11 a12 y15 y16 a20 a21 a22 y17 y18 y19 y20 a23 a24 a25 y21), (mp_arI E a1 0 25 f0), (mp_arI E a2 0 180 f1), (mp_arI E a4 0 90 f3), (mp_arI E a6 0 300 f5), (mp_arI E a7 0 6 g_13), (mp_arI E a8 0 6 g_14), (mp_arI E a9 0 6 g_15), (mp_arI E a10 3 1500 g_16)]
    show mp_W E X 3 11 [(0, .ref a0), (1, .int x0), (2, .int x1)] [.int 1] w4_ 0 0
    refine mp_run mp_k_cX10_lets_ok hF mp_tabX10_ok [mp_h (.ifCond .eq 15) [26]] (by decide +kernel) ?_
    refine And.intro (fun c_59 => absurd c_59 (by decide)) (fun _ => ?_)
    show mp_W E X 3 14 [(0, .ref a0), (1, .int x0), (2, .int x1)] [] w4_ 0 0
    refine mp_run mp_k_cX10_lets_ok hF mp_tabX10_ok [mp_i (.aload_n 0), mp_i (.iload_n 1), mp_i (.iload_n 2)] (by decide +kernel) ?_
    show mp_W E X 3 17 [(0, .ref a0), (1, .int x0), (2, .int x1)] [.int x1, .int x0, .ref a0] w4_ 0 0
    refine mp_callV hF (As := [.int x0, .int x1]) (rest := []) (wr := [(mp_arI E a6 0 300 f5), (mp_arI E a8 0 6 g_14), (mp_arI E a9 0 6 g_15)]) (bX10_fallenOf_117 E a0 a1 a2 a3 a4 a5 a7 a10 a11 a12 a13 a14 a15 a16 a17 a18 a6 a19 a8 a9 a20 a21 a22 a23 a24 a25 f0 f1 f2 f3 f4 g_13 g_16 f10 f11 0 y1 y2 y3 y4 y5 y6 y7 y8 y9 y10 r_12 y12 y13 y14 y15 y16 y17 y18 y19 y20 y21 x0 x1 p0 p1 p2 p3 p4 p5 p6 p7 p8 p9 p10 p11 p12 p_22 (by (first | exact c_17 | omega)) (by (first | exact x_24 | omega)) (by (first | exact c_18 | omega)) (by (first | exact c_19 | omega)) l_y1 u_y1 l_y2 u_y2 l_y3 u_y3 l_y4 u_y4 l_20 (by (first | exact mp_o1658 u_21 | omega)) l_y12 u_y12 l_y13 u_y13 (by first | (first | exact x_27 | omega) | (show r_12.toInt + x1.toInt ≤ 99; omega))) mp_lkX10_376 4 rfl [4, 5, 6, 0, 7, 1, 9, 12, 2, 3] [8, 10, 11] rfl rfl rfl rfl rfl ⟨(Nat.le_of_ble_eq_true rfl), (Nat.le_of_ble_eq_true rfl), (Nat.le_of_ble_eq_true rfl), (Nat.le_of_ble_eq_true rfl)⟩ (Nat.le_of_ble_eq_true rfl) (by first | exact mp_fd_ok mp_k_cX10_lets_ok (by decide +kernel) | decide +kernel) (fun v_60 w_61 h_62 => ?_)
    refine h_62.elim fun r_63 q_75 => q_75.elim fun r_64 q_76 => q_76.elim fun r_65 q_77 => q_77.elim fun g_66 q_78 => q_78.elim fun g_67 q_79 => q_79.elim fun r_68 q_80 => q_80.elim fun e_81 q_82 => q_82.elim fun l_69 q_83 => q_83.elim fun u_70 q_84 => q_84.elim fun l_71 q_85 => q_85.elim fun u_72 q_86 => q_86.elim fun l_73 q_87 => q_87.elim fun u_74 e_88 => ?_
    clear h_62 q_75 q_76 q_77 q_78 q_79 q_80 q_82 q_83 q_84 q_85 q_86 q_87
    subst e_81
    subst e_88
    let w5_ : va_W := [(mp_arI E a6 0 300 f5), (mp_arI E a8 0 6 g_14), (mp_arI E a9 0 6 g_15), (mp_ob10 a0 0 a13 a14 a15 a16 a17 y1 y2 y3 y4 y5 y6 y7 y8 y9 y10 a18 a1 a2 a3 a4 a5 a6 a19 r_12 a7 a8 a9 a10 r_63 r_64 r_65 a11 a12 y15 y16 a20 a21 a22 y17 y18 y19 y20 a23 a24 a25 y21), (mp_arI E a1 0 25 f0), (mp_arI E a2 0 180 f1), (mp_arI E a3 3 3000 f2), (mp_arI E a4 0 90 f3), (mp_arI E a5 0 300 f4), (mp_arI E a7 0 6 g_13), (mp_arI E a10 3 1500 g_16), (mp_arI E a11 0 78 g_66), (mp_arL E a12 78 g_67)]
    show mp_W E X 3 20 [(0, .ref a0), (1, .int x0), (2, .int x1)] [.int r_68] w5_ 0 0
    refine mp_callS hF (As := [.int r_68]) (rest := []) (wr := w5_) (bX10_sizeOf_116 E r_68) mp_lkX10_373 [] [0, 1, 2, 3, 4, 5, 6, 7, 8, 9, 10, 11, 12] rfl rfl rfl rfl rfl ⟨(Nat.le_of_ble_eq_true rfl), (Nat.le_of_ble_eq_true rfl), (Nat.le_of_ble_eq_true rfl), (Nat.le_of_ble_eq_true rfl)⟩ (Nat.le_of_ble_eq_true rfl) (by first | exact mp_fd_ok mp_k_cX10_lets_ok (by decide +kernel) | decide +kernel) (fun v_89 w_90 h_91 => ?_)
    obtain ⟨r_92, rfl, rfl⟩ := h_91
    show mp_W E X 3 23 [(0, .ref a0), (1, .int x0), (2, .int x1)] [.int r_92] w5_ 0 0
    refine mp_run mp_k_cX10_lets_ok hF mp_tabX10_ok [mp_h (.goto 5) [28]] (by decide +kernel) ?_
    show mp_W E X 3 28 [(0, .ref a0), (1, .int x0), (2, .int x1)] [.int r_92] w5_ 0 0
    exact mp_iret hF hQ rfl rfl (Nat.le_of_ble_eq_true rfl) (Nat.le_of_ble_eq_true rfl) [3, 4, 5, 6, 7, 8, 0, 9, 1, 2, 10, 11, 12] (w' := [(mp_ob10 a0 0 a13 a14 a15 a16 a17 y1 y2 y3 y4 y5 y6 y7 y8 y9 y10 a18 a1 a2 a3 a4 a5 a6 a19 r_12 a7 a8 a9 a10 r_63 r_64 r_65 a11 a12 y15 y16 a20 a21 a22 y17 y18 y19 y20 a23 a24 a25 y21), (mp_arI E a1 0 25 f0), (mp_arI E a2 0 180 f1), (mp_arI E a3 3 3000 f2), (mp_arI E a4 0 90 f3), (mp_arI E a5 0 300 f4), (mp_arI E a6 0 300 f5), (mp_arI E a7 0 6 g_13), (mp_arI E a8 0 6 g_14), (mp_arI E a9 0 6 g_15), (mp_arI E a10 3 1500 g_16), (mp_arI E a11 0 78 g_66), (mp_arL E a12 78 g_67)]) rfl rfl ⟨r_12, r_63, r_64, r_65, g_13, g_14, g_15, g_16, g_66, g_67, r_92, rfl, l_20, (by (first | exact mp_o1658 u_21 | omega)), l_69, u_70, l_71, u_72, p_22, rfl⟩ (by first | exact mp_fd_ok mp_k_cX10_lets_ok (by decide +kernel) | decide +kernel)
set_option maxHeartbeats 4000000 in
set_option maxRecDepth 100000 in
theorem bX10_fallen_119 (E : mp_E) (a0 a1 a2 a3 a4 a5 a6 a7 a8 a9 a10 a11 a12 a13 a14 a15 a16 a17 a18 a19 a20 a21 a22 a23 a24 a25 : Nat) (f0 : Nat → Int32) (f1 : Nat → Int32) (f2 : Nat → Int32) (f3 : Nat → Int32) (f4 : Nat → Int32) (f5 : Nat → Int32) (f6 : Nat → Int32) (f7 : Nat → Int32) (f8 : Nat → Int32) (f9 : Nat → Int32) (f10 : Nat → Int32) (f11 : Nat → Int64) (y0 : Int32) (y1 : Int32) (y2 : Int32) (y3 : Int32) (y4 : Int32) (y5 : Int32) (y6 : Int64) (y7 : Int32) (y8 : Int32) (y9 : Int32) (y10 : Int32) (y11 : Int32) (y12 : Int32) (y13 : Int32) (y14 : Int32) (y15 : Int32) (y16 : Int32) (y17 : Int32) (y18 : Int32) (y19 : Int32) (y20 : Int32) (y21 : Int32) (x0 : Int32) (x1 : Int32) (p0 : mp_res f0 25 5 0 0 6) (p1 : mp_res f0 25 5 1 0 99) (p2 : mp_res f0 25 5 2 0 6) (p3 : mp_res f0 25 5 3 0 10) (p4 : mp_res f0 25 5 4 0 60) (p5 : mp_all f1 180 0 20) (p6 : mp_all f2 3000 0 1) (p7 : mp_res f3 90 3 0 0 5) (p8 : mp_res f3 90 3 1 (-1) 99) (p9 : mp_res f4 300 6 0 0 5) (p10 : mp_res f4 300 6 1 0 5) (p11 : mp_res f4 300 6 3 0 99) (p12 : mp_res f4 300 6 4 0 1) (p13 : mp_actm f5) (p14 : mp_all f6 6 0 5) (l_y1 : 0 ≤ y1.toInt) (u_y1 : y1.toInt ≤ 1600) (l_y2 : 0 ≤ y2.toInt) (u_y2 : y2.toInt ≤ 1600) (l_y3 : 0 ≤ y3.toInt) (u_y3 : y3.toInt ≤ 4) (l_y4 : 0 ≤ y4.toInt) (u_y4 : y4.toInt ≤ 1600) (l_y11 : 0 ≤ y11.toInt) (u_y11 : y11.toInt ≤ 99) (l_y12 : 0 ≤ y12.toInt) (u_y12 : y12.toInt ≤ 5) (l_y13 : 0 ≤ y13.toInt) (u_y13 : y13.toInt ≤ 12) (q0 : (f0 1).toInt + mp_k200 f5 (f0 4).toInt ≤ 99) : mp_Ct E yX10_fallen cX10_fallen 3 (some FieldType.int) 19 0 0 513 [.ref a0, .int x0, .int x1] [(mp_ob10 a0 y0 a13 a14 a15 a16 a17 y1 y2 y3 y4 y5 y6 y7 y8 y9 y10 a18 a1 a2 a3 a4 a5 a6 a19 y11 a7 a8 a9 a10 y12 y13 y14 a11 a12 y15 y16 a20 a21 a22 y17 y18 y19 y20 a23 a24 a25 y21), (mp_arI E a1 0 25 f0), (mp_arI E a2 0 180 f1), (mp_arI E a3 3 3000 f2), (mp_arI E a4 0 90 f3), (mp_arI E a5 0 300 f4), (mp_arI E a6 0 300 f5), (mp_arI E a7 0 6 f6), (mp_arI E a8 0 6 f7), (mp_arI E a9 0 6 f8), (mp_arI E a10 3 1500 f9), (mp_arI E a11 0 78 f10), (mp_arL E a12 78 f11)] (fun v w' => ∃ r1 : Int32, ∃ r2 : Int32, ∃ r3 : Int32, ∃ r4 : Int32, ∃ h5 : Nat → Int32, ∃ h6 : Nat → Int32, ∃ h7 : Nat → Int32, ∃ h8 : Nat → Int32, ∃ h9 : Nat → Int32, ∃ h10 : Nat → Int64, ∃ r11 : Int32, v = some (.int r11) ∧ 0 ≤ r1.toInt ∧ r1.toInt ≤ 99 ∧ 0 ≤ r2.toInt ∧ r2.toInt ≤ 5 ∧ 0 ≤ r3.toInt ∧ r3.toInt ≤ 12 ∧ (-2) ≤ r11.toInt ∧ r11.toInt ≤ 1023 ∧ mp_all h5 6 0 5 ∧ w' = [(mp_ob10 a0 0 a13 a14 a15 a16 a17 y1 y2 y3 y4 y5 y6 y7 y8 y9 y10 a18 a1 a2 a3 a4 a5 a6 a19 r1 a7 a8 a9 a10 r2 r3 r4 a11 a12 y15 y16 a20 a21 a22 y17 y18 y19 y20 a23 a24 a25 y21), (mp_arI E a1 0 25 f0), (mp_arI E a2 0 180 f1), (mp_arI E a3 3 3000 f2), (mp_arI E a4 0 90 f3), (mp_arI E a5 0 300 f4), (mp_arI E a6 0 300 f5), (mp_arI E a7 0 6 h5), (mp_arI E a8 0 6 h6), (mp_arI E a9 0 6 h7), (mp_arI E a10 3 1500 h8), (mp_arI E a11 0 78 h9), (mp_arL E a12 78 h10)]) := by
  refine mp_met false (by decide) (by decide) (Nat.le_of_ble_eq_true rfl) (fun X hF hQ => ?_)
  have hF : mp_F E X (RX10, cX10_fallen, 3, (19, 0, 0, 513), (some FieldType.int), false) := hF
  let w1_ : va_W := [(mp_ob10 a0 y0 a13 a14 a15 a16 a17 y1 y2 y3 y4 y5 y6 y7 y8 y9 y10 a18 a1 a2 a3 a4 a5 a6 a19 y11 a7 a8 a9 a10 y12 y13 y14 a11 a12 y15 y16 a20 a21 a22 y17 y18 y19 y20 a23 a24 a25 y21), (mp_arI E a1 0 25 f0), (mp_arI E a2 0 180 f1), (mp_arI E a3 3 3000 f2), (mp_arI E a4 0 90 f3), (mp_arI E a5 0 300 f4), (mp_arI E a6 0 300 f5), (mp_arI E a7 0 6 f6), (mp_arI E a8 0 6 f7), (mp_arI E a9 0 6 f8), (mp_arI E a10 3 1500 f9), (mp_arI E a11 0 78 f10), (mp_arL E a12 78 f11)]
  show mp_W E X 3 0 [(0, .ref a0), (1, .int x0), (2, .int x1)] [] w1_ 0 0
  refine mp_run mp_k_cX10_fallen_ok hF mp_tabX10_ok [mp_i (.aload_n 0), mp_c (.iconst 0) 0, mp_h (.putfield 92) [0, 0]] (by decide +kernel) ?_
  refine And.intro rfl (And.intro rfl (And.intro rfl (And.intro rfl (And.intro (Nat.le_of_ble_eq_true rfl) ?_))))
  let w2_ : va_W := [(mp_ob10 a0 0 a13 a14 a15 a16 a17 y1 y2 y3 y4 y5 y6 y7 y8 y9 y10 a18 a1 a2 a3 a4 a5 a6 a19 y11 a7 a8 a9 a10 y12 y13 y14 a11 a12 y15 y16 a20 a21 a22 y17 y18 y19 y20 a23 a24 a25 y21), (mp_arI E a1 0 25 f0), (mp_arI E a2 0 180 f1), (mp_arI E a3 3 3000 f2), (mp_arI E a4 0 90 f3), (mp_arI E a5 0 300 f4), (mp_arI E a6 0 300 f5), (mp_arI E a7 0 6 f6), (mp_arI E a8 0 6 f7), (mp_arI E a9 0 6 f8), (mp_arI E a10 3 1500 f9), (mp_arI E a11 0 78 f10), (mp_arL E a12 78 f11)]
  show mp_W E X 3 5 [(0, .ref a0), (1, .int x0), (2, .int x1)] [] w2_ 0 0
  refine mp_run mp_k_cX10_fallen_ok hF mp_tabX10_ok [mp_i (.aload_n 0), mp_i (.iload_n 1), mp_i (.iload_n 2)] (by decide +kernel) ?_
  show mp_W E X 3 8 [(0, .ref a0), (1, .int x0), (2, .int x1)] [.int x1, .int x0, .ref a0] w2_ 0 0
  refine mp_callV hF (As := [.int x0, .int x1]) (rest := []) (wr := [(mp_arI E a3 3 3000 f2), (mp_arI E a5 0 300 f4), (mp_arI E a11 0 78 f10), (mp_arL E a12 78 f11)]) (bX10_isPlan_105 E a0 a1 a2 a4 a6 a7 a8 a9 a10 a13 a14 a15 a16 a17 a18 a3 a5 a19 a11 a12 a20 a21 a22 a23 a24 a25 f0 f1 f3 f5 f6 f7 f8 f9 0 y1 y2 y3 y4 y5 y6 y7 y8 y9 y10 y11 y12 y13 y14 y15 y16 y17 y18 y19 y20 y21 x0 x1 p0 p1 p2 p3 p4 p5 p7 p8 p13 p14 l_y1 u_y1 l_y2 u_y2 l_y3 u_y3 l_y4 u_y4 l_y11 u_y11 l_y12 u_y12 l_y13 u_y13 (by (first | exact q0 | omega))) mp_lkX10_361 0 rfl [0, 1, 2, 4, 6, 7, 8, 9, 10] [3, 5, 11, 12] rfl rfl rfl rfl rfl ⟨(Nat.le_of_ble_eq_true rfl), (Nat.le_of_ble_eq_true rfl), (Nat.le_of_ble_eq_true rfl), (Nat.le_of_ble_eq_true rfl)⟩ (Nat.le_of_ble_eq_true rfl) (by first | exact mp_fd_ok mp_k_cX10_fallen_ok (by decide +kernel) | decide +kernel) (fun v_1 w_2 h_3 => ?_)
  refine h_3.elim (fun q_28 => ?_) (fun q_29 => ?_)
  · skip
    refine q_28.elim fun r_4 q_30 => q_30.elim fun g_5 q_31 => q_31.elim fun g_6 q_32 => q_32.elim fun g_7 q_33 => q_33.elim fun g_8 q_34 => q_34.elim fun e_35 q_36 => q_36.elim fun l_9 q_37 => q_37.elim fun u_10 q_38 => q_38.elim fun p_11 e_39 => ?_
    clear h_3 q_28 q_30 q_31 q_32 q_33 q_34 q_36 q_37 q_38
    subst e_35
    subst e_39
    let w3_ : va_W := [(mp_arI E a3 3 3000 f2), (mp_arI E a5 0 300 f4), (mp_arI E a11 0 78 f10), (mp_arL E a12 78 f11), (mp_ob10 a0 0 a13 a14 a15 a16 a17 y1 y2 y3 y4 y5 y6 y7 y8 y9 y10 a18 a1 a2 a3 a4 a5 a6 a19 r_4 a7 a8 a9 a10 y12 y13 y14 a11 a12 y15 y16 a20 a21 a22 y17 y18 y19 y20 a23 a24 a25 y21), (mp_arI E a1 0 25 f0), (mp_arI E a2 0 180 f1), (mp_arI E a4 0 90 f3), (mp_arI E a6 0 300 f5), (mp_arI E a7 0 6 g_5), (mp_arI E a8 0 6 g_6), (mp_arI E a9 0 6 g_7), (mp_arI E a10 3 1500 g_8)]
    show mp_W E X 3 11 [(0, .ref a0), (1, .int x0), (2, .int x1)] [.int 0] w3_ 0 0
    refine mp_run mp_k_cX10_fallen_ok hF mp_tabX10_ok [mp_h (.ifCond .eq 12) [23]] (by decide +kernel) ?_
    refine And.intro (fun _ => ?_) (fun c_40 => absurd c_40 (by decide))
    show mp_W E X 3 23 [(0, .ref a0), (1, .int x0), (2, .int x1)] [] w3_ 0 0
    refine mp_run mp_k_cX10_fallen_ok hF mp_tabX10_ok [mp_c (.bipush (-2)) (-2)] (by decide +kernel) ?_
    show mp_W E X 3 25 [(0, .ref a0), (1, .int x0), (2, .int x1)] [.int (-2)] w3_ 0 0
    exact mp_iret hF hQ rfl rfl (Nat.le_of_ble_eq_true rfl) (Nat.le_of_ble_eq_true rfl) [4, 5, 6, 0, 7, 1, 8, 9, 10, 11, 12, 2, 3] (w' := [(mp_ob10 a0 0 a13 a14 a15 a16 a17 y1 y2 y3 y4 y5 y6 y7 y8 y9 y10 a18 a1 a2 a3 a4 a5 a6 a19 r_4 a7 a8 a9 a10 y12 y13 y14 a11 a12 y15 y16 a20 a21 a22 y17 y18 y19 y20 a23 a24 a25 y21), (mp_arI E a1 0 25 f0), (mp_arI E a2 0 180 f1), (mp_arI E a3 3 3000 f2), (mp_arI E a4 0 90 f3), (mp_arI E a5 0 300 f4), (mp_arI E a6 0 300 f5), (mp_arI E a7 0 6 g_5), (mp_arI E a8 0 6 g_6), (mp_arI E a9 0 6 g_7), (mp_arI E a10 3 1500 g_8), (mp_arI E a11 0 78 f10), (mp_arL E a12 78 f11)]) rfl rfl ⟨r_4, y12, y13, y14, g_5, g_6, g_7, g_8, f10, f11, (-2), rfl, l_9, u_10, l_y12, u_y12, l_y13, u_y13, (by decide), (by decide), p_11, rfl⟩ (by first | exact mp_fd_ok mp_k_cX10_fallen_ok (by decide +kernel) | decide +kernel)
  · skip
    refine q_29.elim fun r_12 q_41 => q_41.elim fun g_13 q_42 => q_42.elim fun g_14 q_43 => q_43.elim fun g_15 q_44 => q_44.elim fun g_16 q_45 => q_45.elim fun e_46 q_47 => q_47.elim fun c_17 q_48 => q_48.elim fun c_18 q_49 => q_49.elim fun c_19 q_50 => q_50.elim fun l_20 q_51 => q_51.elim fun u_21 q_52 => q_52.elim fun p_22 q_53 => q_53.elim fun x_23 q_54 => q_54.elim fun x_24 q_55 => q_55.elim fun x_25 q_56 => q_56.elim fun x_26 q_57 => q_57.elim fun x_27 e_58 => ?_
    clear h_3 q_29 q_41 q_42 q_43 q_44 q_45 q_47 q_48 q_49 q_50 q_51 q_52 q_53 q_54 q_55 q_56 q_57
    subst e_46
    subst e_58
    have c_17 : 0 ≤ x0.toInt := c_17
    have c_18 : 1 ≤ x1.toInt := c_18
    have c_19 : x1.toInt ≤ 12 := c_19
    let w4_ : va_W := [(mp_arI E a3 3 3000 f2), (mp_arI E a5 0 300 f4), (mp_arI E a11 0 78 f10), (mp_arL E a12 78 f11), (mp_ob10 a0 0 a13 a14 a15 a16 a17 y1 y2 y3 y4 y5 y6 y7 y8 y9 y10 a18 a1 a2 a3 a4 a5 a6 a19 r_12 a7 a8 a9 a10 y12 y13 y14 a11 a12 y15 y16 a20 a21 a22 y17 y18 y19 y20 a23 a24 a25 y21), (mp_arI E a1 0 25 f0), (mp_arI E a2 0 180 f1), (mp_arI E a4 0 90 f3), (mp_arI E a6 0 300 f5), (mp_arI E a7 0 6 g_13), (mp_arI E a8 0 6 g_14), (mp_arI E a9 0 6 g_15), (mp_arI E a10 3 1500 g_16)]
    show mp_W E X 3 11 [(0, .ref a0), (1, .int x0), (2, .int x1)] [.int 1] w4_ 0 0
    refine mp_run mp_k_cX10_fallen_ok hF mp_tabX10_ok [mp_h (.ifCond .eq 12) [23]] (by decide +kernel) ?_
    refine And.intro (fun c_59 => absurd c_59 (by decide)) (fun _ => ?_)
    show mp_W E X 3 14 [(0, .ref a0), (1, .int x0), (2, .int x1)] [] w4_ 0 0
    refine mp_run mp_k_cX10_fallen_ok hF mp_tabX10_ok [mp_i (.aload_n 0), mp_i (.iload_n 1), mp_i (.iload_n 2)] (by decide +kernel) ?_
    show mp_W E X 3 17 [(0, .ref a0), (1, .int x0), (2, .int x1)] [.int x1, .int x0, .ref a0] w4_ 0 0
    refine mp_callV hF (As := [.int x0, .int x1]) (rest := []) (wr := [(mp_arI E a6 0 300 f5), (mp_arI E a8 0 6 g_14), (mp_arI E a9 0 6 g_15)]) (bX10_fallenOf_117 E a0 a1 a2 a3 a4 a5 a7 a10 a11 a12 a13 a14 a15 a16 a17 a18 a6 a19 a8 a9 a20 a21 a22 a23 a24 a25 f0 f1 f2 f3 f4 g_13 g_16 f10 f11 0 y1 y2 y3 y4 y5 y6 y7 y8 y9 y10 r_12 y12 y13 y14 y15 y16 y17 y18 y19 y20 y21 x0 x1 p0 p1 p2 p3 p4 p5 p6 p7 p8 p9 p10 p11 p12 p_22 (by (first | exact c_17 | omega)) (by (first | exact x_24 | omega)) (by (first | exact c_18 | omega)) (by (first | exact c_19 | omega)) l_y1 u_y1 l_y2 u_y2 l_y3 u_y3 l_y4 u_y4 l_20 (by (first | exact mp_o1658 u_21 | omega)) l_y12 u_y12 l_y13 u_y13 (by first | (first | exact x_27 | omega) | (show r_12.toInt + x1.toInt ≤ 99; omega))) mp_lkX10_376 4 rfl [4, 5, 6, 0, 7, 1, 9, 12, 2, 3] [8, 10, 11] rfl rfl rfl rfl rfl ⟨(Nat.le_of_ble_eq_true rfl), (Nat.le_of_ble_eq_true rfl), (Nat.le_of_ble_eq_true rfl), (Nat.le_of_ble_eq_true rfl)⟩ (Nat.le_of_ble_eq_true rfl) (by first | exact mp_fd_ok mp_k_cX10_fallen_ok (by decide +kernel) | decide +kernel) (fun v_60 w_61 h_62 => ?_)
    refine h_62.elim fun r_63 q_75 => q_75.elim fun r_64 q_76 => q_76.elim fun r_65 q_77 => q_77.elim fun g_66 q_78 => q_78.elim fun g_67 q_79 => q_79.elim fun r_68 q_80 => q_80.elim fun e_81 q_82 => q_82.elim fun l_69 q_83 => q_83.elim fun u_70 q_84 => q_84.elim fun l_71 q_85 => q_85.elim fun u_72 q_86 => q_86.elim fun l_73 q_87 => q_87.elim fun u_74 e_88 => ?_
    clear h_62 q_75 q_76 q_77 q_78 q_79 q_80 q_82 q_83 q_84 q_85 q_86 q_87
    subst e_81
    subst e_88
    let w5_ : va_W := [(mp_arI E a6 0 300 f5), (mp_arI E a8 0 6 g_14), (mp_arI E a9 0 6 g_15), (mp_ob10 a0 0 a13 a14 a15 a16 a17 y1 y2 y3 y4 y5 y6 y7 y8 y9 y10 a18 a1 a2 a3 a4 a5 a6 a19 r_12 a7 a8 a9 a10 r_63 r_64 r_65 a11 a12 y15 y16 a20 a21 a22 y17 y18 y19 y20 a23 a24 a25 y21), (mp_arI E a1 0 25 f0), (mp_arI E a2 0 180 f1), (mp_arI E a3 3 3000 f2), (mp_arI E a4 0 90 f3), (mp_arI E a5 0 300 f4), (mp_arI E a7 0 6 g_13), (mp_arI E a10 3 1500 g_16), (mp_arI E a11 0 78 g_66), (mp_arL E a12 78 g_67)]
    show mp_W E X 3 20 [(0, .ref a0), (1, .int x0), (2, .int x1)] [.int r_68] w5_ 0 0
    refine mp_run mp_k_cX10_fallen_ok hF mp_tabX10_ok [mp_h (.goto 5) [25]] (by decide +kernel) ?_
    show mp_W E X 3 25 [(0, .ref a0), (1, .int x0), (2, .int x1)] [.int r_68] w5_ 0 0
    exact mp_iret hF hQ rfl rfl (Nat.le_of_ble_eq_true rfl) (Nat.le_of_ble_eq_true rfl) [3, 4, 5, 6, 7, 8, 0, 9, 1, 2, 10, 11, 12] (w' := [(mp_ob10 a0 0 a13 a14 a15 a16 a17 y1 y2 y3 y4 y5 y6 y7 y8 y9 y10 a18 a1 a2 a3 a4 a5 a6 a19 r_12 a7 a8 a9 a10 r_63 r_64 r_65 a11 a12 y15 y16 a20 a21 a22 y17 y18 y19 y20 a23 a24 a25 y21), (mp_arI E a1 0 25 f0), (mp_arI E a2 0 180 f1), (mp_arI E a3 3 3000 f2), (mp_arI E a4 0 90 f3), (mp_arI E a5 0 300 f4), (mp_arI E a6 0 300 f5), (mp_arI E a7 0 6 g_13), (mp_arI E a8 0 6 g_14), (mp_arI E a9 0 6 g_15), (mp_arI E a10 3 1500 g_16), (mp_arI E a11 0 78 g_66), (mp_arL E a12 78 g_67)]) rfl rfl ⟨r_12, r_63, r_64, r_65, g_13, g_14, g_15, g_16, g_66, g_67, r_68, rfl, l_20, (by (first | exact mp_o1658 u_21 | omega)), l_69, u_70, l_71, u_72, (by (first | exact mp_o399 l_73 | omega)), u_74, p_22, rfl⟩ (by first | exact mp_fd_ok mp_k_cX10_fallen_ok (by decide +kernel) | decide +kernel)
set_option maxHeartbeats 4000000 in
set_option maxRecDepth 100000 in
theorem bX10_plans_120 (E : mp_E) (a0 a1 a2 a3 a4 a5 a6 a7 a8 a9 a10 a11 a12 a13 a14 a15 a16 a17 a18 a19 a20 a21 a22 a23 a24 a25 : Nat) (f0 : Nat → Int32) (f1 : Nat → Int32) (f2 : Nat → Int32) (f3 : Nat → Int32) (f4 : Nat → Int32) (f5 : Nat → Int32) (f6 : Nat → Int32) (f7 : Nat → Int32) (f8 : Nat → Int32) (f9 : Nat → Int32) (f10 : Nat → Int32) (f11 : Nat → Int64) (y0 : Int32) (y1 : Int32) (y2 : Int32) (y3 : Int32) (y4 : Int32) (y5 : Int32) (y6 : Int64) (y7 : Int32) (y8 : Int32) (y9 : Int32) (y10 : Int32) (y11 : Int32) (y12 : Int32) (y13 : Int32) (y14 : Int32) (y15 : Int32) (y16 : Int32) (y17 : Int32) (y18 : Int32) (y19 : Int32) (y20 : Int32) (y21 : Int32) (x0 : Int32) (x1 : Int32) (p0 : mp_res f0 25 5 0 0 6) (p1 : mp_res f0 25 5 1 0 99) (p2 : mp_res f0 25 5 2 0 6) (p3 : mp_res f0 25 5 3 0 10) (p4 : mp_res f0 25 5 4 0 60) (p5 : mp_all f1 180 0 20) (p6 : mp_all f2 3000 0 1) (p7 : mp_res f3 90 3 0 0 5) (p8 : mp_res f3 90 3 1 (-1) 99) (p9 : mp_res f4 300 6 0 0 5) (p10 : mp_res f4 300 6 1 0 5) (p11 : mp_res f4 300 6 3 0 99) (p12 : mp_res f4 300 6 4 0 1) (p13 : mp_actm f5) (p14 : mp_all f6 6 0 5) (l_y1 : 0 ≤ y1.toInt) (u_y1 : y1.toInt ≤ 1600) (l_y2 : 0 ≤ y2.toInt) (u_y2 : y2.toInt ≤ 1600) (l_y3 : 0 ≤ y3.toInt) (u_y3 : y3.toInt ≤ 4) (l_y4 : 0 ≤ y4.toInt) (u_y4 : y4.toInt ≤ 1600) (l_y11 : 0 ≤ y11.toInt) (u_y11 : y11.toInt ≤ 99) (l_y12 : 0 ≤ y12.toInt) (u_y12 : y12.toInt ≤ 5) (l_y13 : 0 ≤ y13.toInt) (u_y13 : y13.toInt ≤ 12) (q0 : (f0 1).toInt + mp_k200 f5 (f0 4).toInt ≤ 99) : mp_Ct E yX10_plans cX10_plans 3 (some FieldType.long) 18 0 0 488 [.ref a0, .int x0, .int x1] [(mp_ob10 a0 y0 a13 a14 a15 a16 a17 y1 y2 y3 y4 y5 y6 y7 y8 y9 y10 a18 a1 a2 a3 a4 a5 a6 a19 y11 a7 a8 a9 a10 y12 y13 y14 a11 a12 y15 y16 a20 a21 a22 y17 y18 y19 y20 a23 a24 a25 y21), (mp_arI E a1 0 25 f0), (mp_arI E a2 0 180 f1), (mp_arI E a3 3 3000 f2), (mp_arI E a4 0 90 f3), (mp_arI E a5 0 300 f4), (mp_arI E a6 0 300 f5), (mp_arI E a7 0 6 f6), (mp_arI E a8 0 6 f7), (mp_arI E a9 0 6 f8), (mp_arI E a10 3 1500 f9), (mp_arI E a11 0 78 f10), (mp_arL E a12 78 f11)] (fun v w' => ∃ r1 : Int32, ∃ r2 : Int32, ∃ r3 : Int32, ∃ r4 : Int32, ∃ h5 : Nat → Int32, ∃ h6 : Nat → Int32, ∃ h7 : Nat → Int32, ∃ h8 : Nat → Int32, ∃ h9 : Nat → Int32, ∃ h10 : Nat → Int64, ∃ r11 : Int64, v = some (.long r11) ∧ 0 ≤ r1.toInt ∧ r1.toInt ≤ 99 ∧ 0 ≤ r2.toInt ∧ r2.toInt ≤ 5 ∧ 0 ≤ r3.toInt ∧ r3.toInt ≤ 12 ∧ mp_all h5 6 0 5 ∧ w' = [(mp_ob10 a0 0 a13 a14 a15 a16 a17 y1 y2 y3 y4 y5 y6 y7 y8 y9 y10 a18 a1 a2 a3 a4 a5 a6 a19 r1 a7 a8 a9 a10 r2 r3 r4 a11 a12 y15 y16 a20 a21 a22 y17 y18 y19 y20 a23 a24 a25 y21), (mp_arI E a1 0 25 f0), (mp_arI E a2 0 180 f1), (mp_arI E a3 3 3000 f2), (mp_arI E a4 0 90 f3), (mp_arI E a5 0 300 f4), (mp_arI E a6 0 300 f5), (mp_arI E a7 0 6 h5), (mp_arI E a8 0 6 h6), (mp_arI E a9 0 6 h7), (mp_arI E a10 3 1500 h8), (mp_arI E a11 0 78 h9), (mp_arL E a12 78 h10)]) := by
  refine mp_met false (by decide) (by decide) (Nat.le_of_ble_eq_true rfl) (fun X hF hQ => ?_)
  have hF : mp_F E X (RX10, cX10_plans, 3, (18, 0, 0, 488), (some FieldType.long), false) := hF
  let w1_ : va_W := [(mp_ob10 a0 y0 a13 a14 a15 a16 a17 y1 y2 y3 y4 y5 y6 y7 y8 y9 y10 a18 a1 a2 a3 a4 a5 a6 a19 y11 a7 a8 a9 a10 y12 y13 y14 a11 a12 y15 y16 a20 a21 a22 y17 y18 y19 y20 a23 a24 a25 y21), (mp_arI E a1 0 25 f0), (mp_arI E a2 0 180 f1), (mp_arI E a3 3 3000 f2), (mp_arI E a4 0 90 f3), (mp_arI E a5 0 300 f4), (mp_arI E a6 0 300 f5), (mp_arI E a7 0 6 f6), (mp_arI E a8 0 6 f7), (mp_arI E a9 0 6 f8), (mp_arI E a10 3 1500 f9), (mp_arI E a11 0 78 f10), (mp_arL E a12 78 f11)]
  show mp_W E X 3 0 [(0, .ref a0), (1, .int x0), (2, .int x1)] [] w1_ 0 0
  refine mp_run mp_k_cX10_plans_ok hF mp_tabX10_ok [mp_i (.aload_n 0), mp_c (.iconst 0) 0, mp_h (.putfield 92) [0, 0]] (by decide +kernel) ?_
  refine And.intro rfl (And.intro rfl (And.intro rfl (And.intro rfl (And.intro (Nat.le_of_ble_eq_true rfl) ?_))))
  let w2_ : va_W := [(mp_ob10 a0 0 a13 a14 a15 a16 a17 y1 y2 y3 y4 y5 y6 y7 y8 y9 y10 a18 a1 a2 a3 a4 a5 a6 a19 y11 a7 a8 a9 a10 y12 y13 y14 a11 a12 y15 y16 a20 a21 a22 y17 y18 y19 y20 a23 a24 a25 y21), (mp_arI E a1 0 25 f0), (mp_arI E a2 0 180 f1), (mp_arI E a3 3 3000 f2), (mp_arI E a4 0 90 f3), (mp_arI E a5 0 300 f4), (mp_arI E a6 0 300 f5), (mp_arI E a7 0 6 f6), (mp_arI E a8 0 6 f7), (mp_arI E a9 0 6 f8), (mp_arI E a10 3 1500 f9), (mp_arI E a11 0 78 f10), (mp_arL E a12 78 f11)]
  show mp_W E X 3 5 [(0, .ref a0), (1, .int x0), (2, .int x1)] [] w2_ 0 0
  refine mp_run mp_k_cX10_plans_ok hF mp_tabX10_ok [mp_i (.aload_n 0), mp_i (.iload_n 1), mp_i (.iload_n 2)] (by decide +kernel) ?_
  show mp_W E X 3 8 [(0, .ref a0), (1, .int x0), (2, .int x1)] [.int x1, .int x0, .ref a0] w2_ 0 0
  refine mp_callV hF (As := [.int x0, .int x1]) (rest := []) (wr := [(mp_arI E a3 3 3000 f2), (mp_arI E a5 0 300 f4), (mp_arI E a11 0 78 f10), (mp_arL E a12 78 f11)]) (bX10_isPlan_105 E a0 a1 a2 a4 a6 a7 a8 a9 a10 a13 a14 a15 a16 a17 a18 a3 a5 a19 a11 a12 a20 a21 a22 a23 a24 a25 f0 f1 f3 f5 f6 f7 f8 f9 0 y1 y2 y3 y4 y5 y6 y7 y8 y9 y10 y11 y12 y13 y14 y15 y16 y17 y18 y19 y20 y21 x0 x1 p0 p1 p2 p3 p4 p5 p7 p8 p13 p14 l_y1 u_y1 l_y2 u_y2 l_y3 u_y3 l_y4 u_y4 l_y11 u_y11 l_y12 u_y12 l_y13 u_y13 (by (first | exact q0 | omega))) mp_lkX10_361 0 rfl [0, 1, 2, 4, 6, 7, 8, 9, 10] [3, 5, 11, 12] rfl rfl rfl rfl rfl ⟨(Nat.le_of_ble_eq_true rfl), (Nat.le_of_ble_eq_true rfl), (Nat.le_of_ble_eq_true rfl), (Nat.le_of_ble_eq_true rfl)⟩ (Nat.le_of_ble_eq_true rfl) (by first | exact mp_fd_ok mp_k_cX10_plans_ok (by decide +kernel) | decide +kernel) (fun v_1 w_2 h_3 => ?_)
  refine h_3.elim (fun q_28 => ?_) (fun q_29 => ?_)
  · skip
    refine q_28.elim fun r_4 q_30 => q_30.elim fun g_5 q_31 => q_31.elim fun g_6 q_32 => q_32.elim fun g_7 q_33 => q_33.elim fun g_8 q_34 => q_34.elim fun e_35 q_36 => q_36.elim fun l_9 q_37 => q_37.elim fun u_10 q_38 => q_38.elim fun p_11 e_39 => ?_
    clear h_3 q_28 q_30 q_31 q_32 q_33 q_34 q_36 q_37 q_38
    subst e_35
    subst e_39
    let w3_ : va_W := [(mp_arI E a3 3 3000 f2), (mp_arI E a5 0 300 f4), (mp_arI E a11 0 78 f10), (mp_arL E a12 78 f11), (mp_ob10 a0 0 a13 a14 a15 a16 a17 y1 y2 y3 y4 y5 y6 y7 y8 y9 y10 a18 a1 a2 a3 a4 a5 a6 a19 r_4 a7 a8 a9 a10 y12 y13 y14 a11 a12 y15 y16 a20 a21 a22 y17 y18 y19 y20 a23 a24 a25 y21), (mp_arI E a1 0 25 f0), (mp_arI E a2 0 180 f1), (mp_arI E a4 0 90 f3), (mp_arI E a6 0 300 f5), (mp_arI E a7 0 6 g_5), (mp_arI E a8 0 6 g_6), (mp_arI E a9 0 6 g_7), (mp_arI E a10 3 1500 g_8)]
    show mp_W E X 3 11 [(0, .ref a0), (1, .int x0), (2, .int x1)] [.int 0] w3_ 0 0
    refine mp_run mp_k_cX10_plans_ok hF mp_tabX10_ok [mp_h (.ifCond .ne 7) [18]] (by decide +kernel) ?_
    refine And.intro (fun c_40 => absurd c_40 (by decide)) (fun _ => ?_)
    show mp_W E X 3 14 [(0, .ref a0), (1, .int x0), (2, .int x1)] [] w3_ 0 0
    refine mp_run mp_k_cX10_plans_ok hF mp_tabX10_ok [mp_cl (.ldc2_w 379) (-2)] (by decide +kernel) ?_
    show mp_W E X 3 17 [(0, .ref a0), (1, .int x0), (2, .int x1)] [.long (-2)] w3_ 0 0
    exact mp_lret hF hQ rfl (Nat.le_of_ble_eq_true rfl) (Nat.le_of_ble_eq_true rfl) [4, 5, 6, 0, 7, 1, 8, 9, 10, 11, 12, 2, 3] (w' := [(mp_ob10 a0 0 a13 a14 a15 a16 a17 y1 y2 y3 y4 y5 y6 y7 y8 y9 y10 a18 a1 a2 a3 a4 a5 a6 a19 r_4 a7 a8 a9 a10 y12 y13 y14 a11 a12 y15 y16 a20 a21 a22 y17 y18 y19 y20 a23 a24 a25 y21), (mp_arI E a1 0 25 f0), (mp_arI E a2 0 180 f1), (mp_arI E a3 3 3000 f2), (mp_arI E a4 0 90 f3), (mp_arI E a5 0 300 f4), (mp_arI E a6 0 300 f5), (mp_arI E a7 0 6 g_5), (mp_arI E a8 0 6 g_6), (mp_arI E a9 0 6 g_7), (mp_arI E a10 3 1500 g_8), (mp_arI E a11 0 78 f10), (mp_arL E a12 78 f11)]) rfl rfl ⟨r_4, y12, y13, y14, g_5, g_6, g_7, g_8, f10, f11, (-2), rfl, l_9, u_10, l_y12, u_y12, l_y13, u_y13, p_11, rfl⟩ (by first | exact mp_fd_ok mp_k_cX10_plans_ok (by decide +kernel) | decide +kernel)
  · skip
    refine q_29.elim fun r_12 q_41 => q_41.elim fun g_13 q_42 => q_42.elim fun g_14 q_43 => q_43.elim fun g_15 q_44 => q_44.elim fun g_16 q_45 => q_45.elim fun e_46 q_47 => q_47.elim fun c_17 q_48 => q_48.elim fun c_18 q_49 => q_49.elim fun c_19 q_50 => q_50.elim fun l_20 q_51 => q_51.elim fun u_21 q_52 => q_52.elim fun p_22 q_53 => q_53.elim fun x_23 q_54 => q_54.elim fun x_24 q_55 => q_55.elim fun x_25 q_56 => q_56.elim fun x_26 q_57 => q_57.elim fun x_27 e_58 => ?_
    clear h_3 q_29 q_41 q_42 q_43 q_44 q_45 q_47 q_48 q_49 q_50 q_51 q_52 q_53 q_54 q_55 q_56 q_57
    subst e_46
    subst e_58
    have c_17 : 0 ≤ x0.toInt := c_17
    have c_18 : 1 ≤ x1.toInt := c_18
    have c_19 : x1.toInt ≤ 12 := c_19
    let w4_ : va_W := [(mp_arI E a3 3 3000 f2), (mp_arI E a5 0 300 f4), (mp_arI E a11 0 78 f10), (mp_arL E a12 78 f11), (mp_ob10 a0 0 a13 a14 a15 a16 a17 y1 y2 y3 y4 y5 y6 y7 y8 y9 y10 a18 a1 a2 a3 a4 a5 a6 a19 r_12 a7 a8 a9 a10 y12 y13 y14 a11 a12 y15 y16 a20 a21 a22 y17 y18 y19 y20 a23 a24 a25 y21), (mp_arI E a1 0 25 f0), (mp_arI E a2 0 180 f1), (mp_arI E a4 0 90 f3), (mp_arI E a6 0 300 f5), (mp_arI E a7 0 6 g_13), (mp_arI E a8 0 6 g_14), (mp_arI E a9 0 6 g_15), (mp_arI E a10 3 1500 g_16)]
    show mp_W E X 3 11 [(0, .ref a0), (1, .int x0), (2, .int x1)] [.int 1] w4_ 0 0
    refine mp_run mp_k_cX10_plans_ok hF mp_tabX10_ok [mp_h (.ifCond .ne 7) [18]] (by decide +kernel) ?_
    refine And.intro (fun _ => ?_) (fun c_59 => absurd c_59 (by decide))
    show mp_W E X 3 18 [(0, .ref a0), (1, .int x0), (2, .int x1)] [] w4_ 0 0
    refine mp_run mp_k_cX10_plans_ok hF mp_tabX10_ok [mp_i (.aload_n 0), mp_i (.iload_n 1), mp_i (.iload_n 2), mp_i (.aload_n 0), mp_i (.iload_n 1)] (by decide +kernel) ?_
    show mp_W E X 3 23 [(0, .ref a0), (1, .int x0), (2, .int x1)] [.int x0, .ref a0, .int x1, .int x0, .ref a0] w4_ 0 0
    refine mp_callV hF (As := [.int x0]) (rest := [.int x1, .int x0, .ref a0]) (wr := [(mp_arI E a3 3 3000 f2), (mp_arI E a11 0 78 f10), (mp_arL E a12 78 f11), (mp_arI E a2 0 180 f1), (mp_arI E a6 0 300 f5), (mp_arI E a7 0 6 g_13), (mp_arI E a8 0 6 g_14), (mp_arI E a9 0 6 g_15)]) (bX10_keptNow_106 E a0 a1 a4 a5 a10 a13 a14 a15 a16 a17 a18 a2 a3 a6 a19 a7 a8 a9 a11 a12 a20 a21 a22 a23 a24 a25 f0 f3 f4 g_16 0 y1 y2 y3 y4 y5 y6 y7 y8 y9 y10 r_12 y12 y13 y14 y15 y16 y17 y18 y19 y20 y21 x0 p0 p1 p2 p3 p4 p7 p8 p9 p10 p11 p12 l_y1 u_y1 l_y2 u_y2 l_y3 u_y3 l_y4 u_y4 l_20 (by (first | exact mp_o1658 u_21 | omega)) l_y12 u_y12 l_y13 u_y13) mp_lkX10_364 4 rfl [4, 5, 7, 1, 12] [0, 2, 3, 6, 8, 9, 10, 11] rfl rfl rfl rfl rfl ⟨(Nat.le_of_ble_eq_true rfl), (Nat.le_of_ble_eq_true rfl), (Nat.le_of_ble_eq_true rfl), (Nat.le_of_ble_eq_true rfl)⟩ (Nat.le_of_ble_eq_true rfl) (by first | exact mp_fd_ok mp_k_cX10_plans_ok (by decide +kernel) | decide +kernel) (fun v_60 w_61 h_62 => ?_)
    obtain ⟨r_63, rfl, l_64, u_65, rfl⟩ := h_62
    let w5_ : va_W := [(mp_arI E a3 3 3000 f2), (mp_arI E a11 0 78 f10), (mp_arL E a12 78 f11), (mp_arI E a2 0 180 f1), (mp_arI E a6 0 300 f5), (mp_arI E a7 0 6 g_13), (mp_arI E a8 0 6 g_14), (mp_arI E a9 0 6 g_15), (mp_ob10 a0 0 a13 a14 a15 a16 a17 y1 y2 y3 y4 y5 y6 y7 y8 y9 y10 a18 a1 a2 a3 a4 a5 a6 a19 r_12 a7 a8 a9 a10 y12 y13 y14 a11 a12 y15 y16 a20 a21 a22 y17 y18 y19 y20 a23 a24 a25 y21), (mp_arI E a1 0 25 f0), (mp_arI E a4 0 90 f3), (mp_arI E a5 0 300 f4), (mp_arI E a10 3 1500 g_16)]
    show mp_W E X 3 26 [(0, .ref a0), (1, .int x0), (2, .int x1)] [.int r_63, .int x1, .int x0, .ref a0] w5_ 0 0
    refine mp_callV hF (As := [.int x0, .int x1, .int r_63]) (rest := []) (wr := [(mp_arI E a6 0 300 f5), (mp_arI E a8 0 6 g_14), (mp_arI E a9 0 6 g_15)]) (bX10_plansFor_112 E a0 a1 a2 a3 a4 a5 a7 a10 a11 a12 a13 a14 a15 a16 a17 a18 a6 a19 a8 a9 a20 a21 a22 a23 a24 a25 f0 f1 f2 f3 f4 g_13 g_16 f10 f11 0 y1 y2 y3 y4 y5 y6 y7 y8 y9 y10 r_12 y12 y13 y14 y15 y16 y17 y18 y19 y20 y21 x0 x1 r_63 p0 p1 p2 p3 p4 p5 p6 p7 p8 p9 p10 p11 p12 p_22 (by (first | exact c_17 | omega)) (by (first | exact x_24 | omega)) (by (first | exact c_18 | omega)) (by (first | exact c_19 | omega)) l_y1 u_y1 l_y2 u_y2 l_y3 u_y3 l_y4 u_y4 l_20 (by (first | exact mp_o1658 u_21 | omega)) l_y12 u_y12 l_y13 u_y13 (by first | (first | exact x_27 | omega) | (show r_12.toInt + x1.toInt ≤ 99; omega))) mp_lkX10_367 8 rfl [8, 9, 3, 0, 10, 11, 5, 12, 1, 2] [4, 6, 7] rfl rfl rfl rfl rfl ⟨(Nat.le_of_ble_eq_true rfl), (Nat.le_of_ble_eq_true rfl), (Nat.le_of_ble_eq_true rfl), (Nat.le_of_ble_eq_true rfl)⟩ (Nat.le_of_ble_eq_true rfl) (by first | exact mp_fd_ok mp_k_cX10_plans_ok (by decide +kernel) | decide +kernel) (fun v_66 w_67 h_68 => ?_)
    refine h_68.elim fun g_69 q_73 => q_73.elim fun g_70 q_74 => q_74.elim fun r_71 q_75 => q_75.elim fun e_76 q_77 => q_77.elim fun x_72 e_78 => ?_
    clear h_68 q_73 q_74 q_75 q_77
    subst e_76
    subst e_78
    let w6_ : va_W := [(mp_arI E a6 0 300 f5), (mp_arI E a8 0 6 g_14), (mp_arI E a9 0 6 g_15), (mp_ob10 a0 0 a13 a14 a15 a16 a17 y1 y2 y3 y4 y5 y6 y7 y8 y9 y10 a18 a1 a2 a3 a4 a5 a6 a19 r_12 a7 a8 a9 a10 x0 x1 r_63 a11 a12 y15 y16 a20 a21 a22 y17 y18 y19 y20 a23 a24 a25 y21), (mp_arI E a1 0 25 f0), (mp_arI E a2 0 180 f1), (mp_arI E a3 3 3000 f2), (mp_arI E a4 0 90 f3), (mp_arI E a5 0 300 f4), (mp_arI E a7 0 6 g_13), (mp_arI E a10 3 1500 g_16), (mp_arI E a11 0 78 g_69), (mp_arL E a12 78 g_70)]
    show mp_W E X 3 29 [(0, .ref a0), (1, .int x0), (2, .int x1)] [.int r_71] w6_ 0 0
    refine mp_run mp_k_cX10_plans_ok hF mp_tabX10_ok [mp_i .pop, mp_i (.aload_n 0), mp_h (.getfield 71) [33, 3], mp_i (.aload_n 0), mp_h (.getfield 56) [25, 3], mp_i (.iload_n 1), mp_h .iaload [9], mp_h .laload [12]] (by decide +kernel) ?_
    refine And.intro rfl ?_
    refine And.intro rfl (And.intro rfl ?_)
    refine And.intro rfl (And.intro rfl ?_)
    refine And.intro rfl (And.intro rfl (And.intro (vp_in_iff.mpr (by (first | exact mp_o230 c_17 x_24 | omega))) ?_))
    intro z_79 h_80
    have e_81 : 0 ≤ z_79.toInt ∧ z_79.toInt ≤ 5 := mp_all_ld h_80 p_22 (by (first | exact c_17 | omega)) (by (first | exact mp_o475 x_24 | omega))
    refine And.intro rfl (And.intro rfl (And.intro (vp_in_iff.mpr (by (first | exact mp_o1651 e_81 | omega))) ?_))
    intro z_82 h_83
    show mp_W E X 3 41 [(0, .ref a0), (1, .int x0), (2, .int x1)] [.long z_82] w6_ 0 0
    exact mp_lret hF hQ rfl (Nat.le_of_ble_eq_true rfl) (Nat.le_of_ble_eq_true rfl) [3, 4, 5, 6, 7, 8, 0, 9, 1, 2, 10, 11, 12] (w' := [(mp_ob10 a0 0 a13 a14 a15 a16 a17 y1 y2 y3 y4 y5 y6 y7 y8 y9 y10 a18 a1 a2 a3 a4 a5 a6 a19 r_12 a7 a8 a9 a10 x0 x1 r_63 a11 a12 y15 y16 a20 a21 a22 y17 y18 y19 y20 a23 a24 a25 y21), (mp_arI E a1 0 25 f0), (mp_arI E a2 0 180 f1), (mp_arI E a3 3 3000 f2), (mp_arI E a4 0 90 f3), (mp_arI E a5 0 300 f4), (mp_arI E a6 0 300 f5), (mp_arI E a7 0 6 g_13), (mp_arI E a8 0 6 g_14), (mp_arI E a9 0 6 g_15), (mp_arI E a10 3 1500 g_16), (mp_arI E a11 0 78 g_69), (mp_arL E a12 78 g_70)]) rfl rfl ⟨r_12, x0, x1, r_63, g_13, g_14, g_15, g_16, g_69, g_70, z_82, rfl, l_20, (by (first | exact mp_o1658 u_21 | omega)), (by (first | exact c_17 | omega)), (by (first | exact x_24 | omega)), (by (first | exact mp_o254 c_18 | omega)), (by (first | exact c_19 | omega)), p_22, rfl⟩ (by first | exact mp_fd_ok mp_k_cX10_plans_ok (by decide +kernel) | decide +kernel)
set_option maxHeartbeats 4000000 in
set_option maxRecDepth 100000 in
theorem bX10_isLove_121 (E : mp_E) (a0 a1 a2 a3 a4 a5 a6 a7 a8 a9 a10 a11 a12 a13 a14 a15 a16 a17 a18 a19 a20 a21 a22 a23 a24 a25 : Nat) (f0 : Nat → Int32) (f1 : Nat → Int32) (f2 : Nat → Int32) (f3 : Nat → Int32) (f4 : Nat → Int32) (f5 : Nat → Int32) (f6 : Nat → Int32) (f7 : Nat → Int32) (y0 : Int32) (y1 : Int32) (y2 : Int32) (y3 : Int32) (y4 : Int32) (y5 : Int32) (y6 : Int64) (y7 : Int32) (y8 : Int32) (y9 : Int32) (y10 : Int32) (y11 : Int32) (y12 : Int32) (y13 : Int32) (y14 : Int32) (y15 : Int32) (y16 : Int32) (y17 : Int32) (y18 : Int32) (y19 : Int32) (y20 : Int32) (y21 : Int32) (x0 : Int32) (x1 : Int32) (x2 : Int32) (p0 : mp_res f0 25 5 0 0 6) (p1 : mp_res f0 25 5 1 0 99) (p2 : mp_res f0 25 5 2 0 6) (p3 : mp_res f0 25 5 3 0 10) (p4 : mp_res f0 25 5 4 0 60) (p5 : mp_all f1 180 0 20) (p6 : mp_res f2 90 3 0 0 5) (p7 : mp_res f2 90 3 1 (-1) 99) (p8 : mp_actm f3) (p9 : mp_all f4 6 0 5) (l_y1 : 0 ≤ y1.toInt) (u_y1 : y1.toInt ≤ 1600) (l_y2 : 0 ≤ y2.toInt) (u_y2 : y2.toInt ≤ 1600) (l_y3 : 0 ≤ y3.toInt) (u_y3 : y3.toInt ≤ 4) (l_y4 : 0 ≤ y4.toInt) (u_y4 : y4.toInt ≤ 1600) (l_y11 : 0 ≤ y11.toInt) (u_y11 : y11.toInt ≤ 99) (l_y12 : 0 ≤ y12.toInt) (u_y12 : y12.toInt ≤ 5) (l_y13 : 0 ≤ y13.toInt) (u_y13 : y13.toInt ≤ 12) (q0 : (f0 1).toInt + mp_k200 f3 (f0 4).toInt ≤ 99) : mp_Ct E yX10_isLove cX10_isLove 4 (some FieldType.boolean) 2 0 0 46 [.ref a0, .int x0, .int x1, .int x2] [(mp_ob10 a0 y0 a9 a10 a11 a12 a13 y1 y2 y3 y4 y5 y6 y7 y8 y9 y10 a14 a1 a2 a15 a3 a16 a4 a17 y11 a5 a6 a7 a8 y12 y13 y14 a18 a19 y15 y16 a20 a21 a22 y17 y18 y19 y20 a23 a24 a25 y21), (mp_arI E a1 0 25 f0), (mp_arI E a2 0 180 f1), (mp_arI E a3 0 90 f2), (mp_arI E a4 0 300 f3), (mp_arI E a5 0 6 f4), (mp_arI E a6 0 6 f5), (mp_arI E a7 0 6 f6), (mp_arI E a8 3 1500 f7)] (fun v w' => (∃ r1 : Int32, ∃ h2 : Nat → Int32, ∃ h3 : Nat → Int32, ∃ h4 : Nat → Int32, ∃ h5 : Nat → Int32, v = some (.int 0) ∧ 0 ≤ r1.toInt ∧ r1.toInt ≤ 99 ∧ mp_all h2 6 0 5 ∧ w' = [(mp_ob10 a0 y0 a9 a10 a11 a12 a13 y1 y2 y3 y4 y5 y6 y7 y8 y9 y10 a14 a1 a2 a15 a3 a16 a4 a17 r1 a5 a6 a7 a8 y12 y13 y14 a18 a19 y15 y16 a20 a21 a22 y17 y18 y19 y20 a23 a24 a25 y21), (mp_arI E a1 0 25 f0), (mp_arI E a2 0 180 f1), (mp_arI E a3 0 90 f2), (mp_arI E a4 0 300 f3), (mp_arI E a5 0 6 h2), (mp_arI E a6 0 6 h3), (mp_arI E a7 0 6 h4), (mp_arI E a8 3 1500 h5)]) ∨ (∃ r1 : Int32, ∃ h2 : Nat → Int32, ∃ h3 : Nat → Int32, ∃ h4 : Nat → Int32, ∃ h5 : Nat → Int32, v = some (.int 1) ∧ 0 ≤ x0.toInt ∧ 1 ≤ x1.toInt ∧ 0 ≤ x2.toInt ∧ x2.toInt ≤ 12 ∧ 0 ≤ r1.toInt ∧ r1.toInt ≤ 99 ∧ mp_all h2 6 0 5 ∧ (0 ≤ x0.toInt) ∧ (x0.toInt ≤ 9) ∧ (x0.toInt < (f0 3).toInt) ∧ (0 ≤ x2.toInt) ∧ (x2.toInt ≤ 12) ∧ (r1.toInt + x2.toInt ≤ 99) ∧ w' = [(mp_ob10 a0 y0 a9 a10 a11 a12 a13 y1 y2 y3 y4 y5 y6 y7 y8 y9 y10 a14 a1 a2 a15 a3 a16 a4 a17 r1 a5 a6 a7 a8 y12 y13 y14 a18 a19 y15 y16 a20 a21 a22 y17 y18 y19 y20 a23 a24 a25 y21), (mp_arI E a1 0 25 f0), (mp_arI E a2 0 180 f1), (mp_arI E a3 0 90 f2), (mp_arI E a4 0 300 f3), (mp_arI E a5 0 6 h2), (mp_arI E a6 0 6 h3), (mp_arI E a7 0 6 h4), (mp_arI E a8 3 1500 h5)])) := by
  refine mp_met false (by decide) (by decide) (Nat.le_of_ble_eq_true rfl) (fun X hF hQ => ?_)
  have hF : mp_F E X (RX10, cX10_isLove, 4, (2, 0, 0, 46), (some FieldType.boolean), false) := hF
  let w1_ : va_W := [(mp_ob10 a0 y0 a9 a10 a11 a12 a13 y1 y2 y3 y4 y5 y6 y7 y8 y9 y10 a14 a1 a2 a15 a3 a16 a4 a17 y11 a5 a6 a7 a8 y12 y13 y14 a18 a19 y15 y16 a20 a21 a22 y17 y18 y19 y20 a23 a24 a25 y21), (mp_arI E a1 0 25 f0), (mp_arI E a2 0 180 f1), (mp_arI E a3 0 90 f2), (mp_arI E a4 0 300 f3), (mp_arI E a5 0 6 f4), (mp_arI E a6 0 6 f5), (mp_arI E a7 0 6 f6), (mp_arI E a8 3 1500 f7)]
  show mp_W E X 4 0 [(0, .ref a0), (1, .int x0), (2, .int x1), (3, .int x2)] [] w1_ 0 0
  refine mp_run mp_k_cX10_isLove_ok hF mp_tabX10_ok [mp_i (.aload_n 0), mp_i (.iload_n 1)] (by decide +kernel) ?_
  show mp_W E X 4 2 [(0, .ref a0), (1, .int x0), (2, .int x1), (3, .int x2)] [.int x0, .ref a0] w1_ 0 0
  refine mp_callV hF (As := [.int x0]) (rest := []) (wr := [(mp_arI E a2 0 180 f1), (mp_arI E a3 0 90 f2), (mp_arI E a4 0 300 f3), (mp_arI E a5 0 6 f4), (mp_arI E a6 0 6 f5), (mp_arI E a7 0 6 f6), (mp_arI E a8 3 1500 f7)]) (bX10_isPromise_55 E a0 a1 a9 a10 a11 a12 a13 a14 a2 a15 a3 a16 a4 a17 a5 a6 a7 a8 a18 a19 a20 a21 a22 a23 a24 a25 f0 y0 y1 y2 y3 y4 y5 y6 y7 y8 y9 y10 y11 y12 y13 y14 y15 y16 y17 y18 y19 y20 y21 x0 p0 p1 p2 p3 p4 l_y1 u_y1 l_y2 u_y2 l_y3 u_y3 l_y4 u_y4 l_y11 u_y11 l_y12 u_y12 l_y13 u_y13) mp_lkX10_262 0 rfl [0, 1] [2, 3, 4, 5, 6, 7, 8] rfl rfl rfl rfl rfl ⟨(Nat.le_of_ble_eq_true rfl), (Nat.le_of_ble_eq_true rfl), (Nat.le_of_ble_eq_true rfl), (Nat.le_of_ble_eq_true rfl)⟩ (Nat.le_of_ble_eq_true rfl) (by first | exact mp_fd_ok mp_k_cX10_isLove_ok (by decide +kernel) | decide +kernel) (fun v_1 w_2 h_3 => ?_)
  refine h_3.elim (fun q_9 => ?_) (fun q_10 => ?_)
  · skip
    refine q_9.elim fun e_11 q_12 => q_12.elim fun x_4 e_13 => ?_
    clear h_3 q_9 q_12
    subst e_11
    subst e_13
    let w2_ : va_W := [(mp_arI E a2 0 180 f1), (mp_arI E a3 0 90 f2), (mp_arI E a4 0 300 f3), (mp_arI E a5 0 6 f4), (mp_arI E a6 0 6 f5), (mp_arI E a7 0 6 f6), (mp_arI E a8 3 1500 f7), (mp_ob10 a0 y0 a9 a10 a11 a12 a13 y1 y2 y3 y4 y5 y6 y7 y8 y9 y10 a14 a1 a2 a15 a3 a16 a4 a17 y11 a5 a6 a7 a8 y12 y13 y14 a18 a19 y15 y16 a20 a21 a22 y17 y18 y19 y20 a23 a24 a25 y21), (mp_arI E a1 0 25 f0)]
    show mp_W E X 4 5 [(0, .ref a0), (1, .int x0), (2, .int x1), (3, .int x2)] [.int 0] w2_ 0 0
    refine mp_run mp_k_cX10_isLove_ok hF mp_tabX10_ok [mp_h (.ifCond .eq 20) [25]] (by decide +kernel) ?_
    refine And.intro (fun _ => ?_) (fun c_14 => absurd c_14 (by decide))
    show mp_W E X 4 25 [(0, .ref a0), (1, .int x0), (2, .int x1), (3, .int x2)] [] w2_ 0 0
    refine mp_run mp_k_cX10_isLove_ok hF mp_tabX10_ok [mp_c (.iconst 0) 0] (by decide +kernel) ?_
    show mp_W E X 4 26 [(0, .ref a0), (1, .int x0), (2, .int x1), (3, .int x2)] [.int 0] w2_ 0 0
    exact mp_iret hF hQ rfl (by decide) (Nat.le_of_ble_eq_true rfl) (Nat.le_of_ble_eq_true rfl) [7, 8, 0, 1, 2, 3, 4, 5, 6] (w' := w1_) rfl rfl (Or.inl ⟨y11, f4, f5, f6, f7, rfl, l_y11, u_y11, p9, rfl⟩) (by first | exact mp_fd_ok mp_k_cX10_isLove_ok (by decide +kernel) | decide +kernel)
  · skip
    refine q_10.elim fun e_15 q_16 => q_16.elim fun c_5 q_17 => q_17.elim fun x_6 q_18 => q_18.elim fun x_7 q_19 => q_19.elim fun x_8 e_20 => ?_
    clear h_3 q_10 q_16 q_17 q_18 q_19
    subst e_15
    subst e_20
    have c_5 : 0 ≤ x0.toInt := c_5
    let w3_ : va_W := [(mp_arI E a2 0 180 f1), (mp_arI E a3 0 90 f2), (mp_arI E a4 0 300 f3), (mp_arI E a5 0 6 f4), (mp_arI E a6 0 6 f5), (mp_arI E a7 0 6 f6), (mp_arI E a8 3 1500 f7), (mp_ob10 a0 y0 a9 a10 a11 a12 a13 y1 y2 y3 y4 y5 y6 y7 y8 y9 y10 a14 a1 a2 a15 a3 a16 a4 a17 y11 a5 a6 a7 a8 y12 y13 y14 a18 a19 y15 y16 a20 a21 a22 y17 y18 y19 y20 a23 a24 a25 y21), (mp_arI E a1 0 25 f0)]
    show mp_W E X 4 5 [(0, .ref a0), (1, .int x0), (2, .int x1), (3, .int x2)] [.int 1] w3_ 0 0
    refine mp_run mp_k_cX10_isLove_ok hF mp_tabX10_ok [mp_h (.ifCond .eq 20) [25]] (by decide +kernel) ?_
    refine And.intro (fun c_21 => absurd c_21 (by decide)) (fun _ => ?_)
    show mp_W E X 4 8 [(0, .ref a0), (1, .int x0), (2, .int x1), (3, .int x2)] [] w3_ 0 0
    refine mp_run mp_k_cX10_isLove_ok hF mp_tabX10_ok [mp_i (.iload_n 2), mp_c (.iconst 1) 1, mp_h (.if_icmp .lt 15) [25]] (by decide +kernel) ?_
    refine And.intro (fun c_22 => ?_) (fun c_22 => ?_)
    · have c_22 : x1.toInt < 1 := c_22
      show mp_W E X 4 25 [(0, .ref a0), (1, .int x0), (2, .int x1), (3, .int x2)] [] w3_ 0 0
      refine mp_run mp_k_cX10_isLove_ok hF mp_tabX10_ok [mp_c (.iconst 0) 0] (by decide +kernel) ?_
      show mp_W E X 4 26 [(0, .ref a0), (1, .int x0), (2, .int x1), (3, .int x2)] [.int 0] w3_ 0 0
      exact mp_iret hF hQ rfl (by decide) (Nat.le_of_ble_eq_true rfl) (Nat.le_of_ble_eq_true rfl) [7, 8, 0, 1, 2, 3, 4, 5, 6] (w' := w1_) rfl rfl (Or.inl ⟨y11, f4, f5, f6, f7, rfl, l_y11, u_y11, p9, rfl⟩) (by first | exact mp_fd_ok mp_k_cX10_isLove_ok (by decide +kernel) | decide +kernel)
    · have c_22 : 1 ≤ x1.toInt := c_22
      show mp_W E X 4 13 [(0, .ref a0), (1, .int x0), (2, .int x1), (3, .int x2)] [] w3_ 0 0
      refine mp_run mp_k_cX10_isLove_ok hF mp_tabX10_ok [mp_i (.iload_n 3), mp_i .i2l, mp_cl (.lconst 0) 0, mp_cl (.ldc2_w 359) 12] (by decide +kernel) ?_
      intro z_23 h_24
      have e_25 : z_23.toInt = x2.toInt := mp_i2l h_24
      show mp_W E X 4 19 [(0, .ref a0), (1, .int x0), (2, .int x1), (3, .int x2)] [.long 12, .long 0, .long z_23] w3_ 0 0
      refine mp_callS hF (As := [.long z_23, .long 0, .long 12]) (rest := []) (wr := w3_) (bX10_in_0 E z_23 0 12) mp_lkX10_97 [] [0, 1, 2, 3, 4, 5, 6, 7, 8] rfl rfl rfl rfl rfl ⟨(Nat.le_of_ble_eq_true rfl), (Nat.le_of_ble_eq_true rfl), (Nat.le_of_ble_eq_true rfl), (Nat.le_of_ble_eq_true rfl)⟩ (Nat.le_of_ble_eq_true rfl) (by first | exact mp_fd_ok mp_k_cX10_isLove_ok (by decide +kernel) | decide +kernel) (fun v_26 w_27 h_28 => ?_)
      rcases h_28 with ⟨rfl, x_29, rfl⟩ | ⟨rfl, c_30, c_31, rfl⟩
      · skip
        have i_32 : (0 : Int64).toInt = 0 := by decide
        have i_33 : (12 : Int64).toInt = 12 := by decide
        show mp_W E X 4 22 [(0, .ref a0), (1, .int x0), (2, .int x1), (3, .int x2)] [.int 0] w3_ 0 0
        refine mp_run mp_k_cX10_isLove_ok hF mp_tabX10_ok [mp_h (.ifCond .ne 5) [27]] (by decide +kernel) ?_
        refine And.intro (fun c_34 => absurd c_34 (by decide)) (fun _ => ?_)
        show mp_W E X 4 25 [(0, .ref a0), (1, .int x0), (2, .int x1), (3, .int x2)] [] w3_ 0 0
        refine mp_run mp_k_cX10_isLove_ok hF mp_tabX10_ok [mp_c (.iconst 0) 0] (by decide +kernel) ?_
        show mp_W E X 4 26 [(0, .ref a0), (1, .int x0), (2, .int x1), (3, .int x2)] [.int 0] w3_ 0 0
        exact mp_iret hF hQ rfl (by decide) (Nat.le_of_ble_eq_true rfl) (Nat.le_of_ble_eq_true rfl) [7, 8, 0, 1, 2, 3, 4, 5, 6] (w' := w1_) rfl rfl (Or.inl ⟨y11, f4, f5, f6, f7, rfl, l_y11, u_y11, p9, rfl⟩) (by first | exact mp_fd_ok mp_k_cX10_isLove_ok (by decide +kernel) | decide +kernel)
      · skip
        have c_30 : 0 ≤ z_23.toInt := c_30
        have c_31 : z_23.toInt ≤ 12 := c_31
        have i_35 : (0 : Int64).toInt = 0 := by decide
        have i_36 : (12 : Int64).toInt = 12 := by decide
        show mp_W E X 4 22 [(0, .ref a0), (1, .int x0), (2, .int x1), (3, .int x2)] [.int 1] w3_ 0 0
        refine mp_run mp_k_cX10_isLove_ok hF mp_tabX10_ok [mp_h (.ifCond .ne 5) [27]] (by decide +kernel) ?_
        refine And.intro (fun _ => ?_) (fun c_37 => absurd c_37 (by decide))
        show mp_W E X 4 27 [(0, .ref a0), (1, .int x0), (2, .int x1), (3, .int x2)] [] w3_ 0 0
        refine mp_run mp_k_cX10_isLove_ok hF mp_tabX10_ok [mp_i (.aload_n 0)] (by decide +kernel) ?_
        show mp_W E X 4 28 [(0, .ref a0), (1, .int x0), (2, .int x1), (3, .int x2)] [.ref a0] w3_ 0 0
        refine mp_callV hF (As := []) (rest := []) (wr := []) (bX10_lays_62 E a0 a1 a2 a3 a4 a5 a6 a7 a8 a9 a10 a11 a12 a13 a14 a15 a16 a17 a18 a19 a20 a21 a22 a23 a24 a25 f0 f1 f2 f3 f4 f5 f6 f7 y0 y1 y2 y3 y4 y5 y6 y7 y8 y9 y10 y11 y12 y13 y14 y15 y16 y17 y18 y19 y20 y21 p0 p1 p2 p3 p4 p5 p6 p7 p8 p9 l_y1 u_y1 l_y2 u_y2 l_y3 u_y3 l_y4 u_y4 l_y11 u_y11 l_y12 u_y12 l_y13 u_y13 (by (first | exact q0 | omega))) mp_lkX10_288 7 rfl [7, 8, 0, 1, 2, 3, 4, 5, 6] [] rfl rfl rfl rfl rfl ⟨(Nat.le_of_ble_eq_true rfl), (Nat.le_of_ble_eq_true rfl), (Nat.le_of_ble_eq_true rfl), (Nat.le_of_ble_eq_true rfl)⟩ (Nat.le_of_ble_eq_true rfl) (by first | exact mp_fd_ok mp_k_cX10_isLove_ok (by decide +kernel) | decide +kernel) (fun v_38 w_39 h_40 => ?_)
        refine h_40.elim fun r_41 q_51 => q_51.elim fun g_42 q_52 => q_52.elim fun g_43 q_53 => q_53.elim fun g_44 q_54 => q_54.elim fun g_45 q_55 => q_55.elim fun e_56 q_57 => q_57.elim fun l_46 q_58 => q_58.elim fun u_47 q_59 => q_59.elim fun p_48 q_60 => q_60.elim fun x_49 q_61 => q_61.elim fun x_50 e_62 => ?_
        clear h_40 q_51 q_52 q_53 q_54 q_55 q_57 q_58 q_59 q_60 q_61
        subst e_56
        subst e_62
        let w4_ : va_W := [(mp_ob10 a0 y0 a9 a10 a11 a12 a13 y1 y2 y3 y4 y5 y6 y7 y8 y9 y10 a14 a1 a2 a15 a3 a16 a4 a17 r_41 a5 a6 a7 a8 y12 y13 y14 a18 a19 y15 y16 a20 a21 a22 y17 y18 y19 y20 a23 a24 a25 y21), (mp_arI E a1 0 25 f0), (mp_arI E a2 0 180 f1), (mp_arI E a3 0 90 f2), (mp_arI E a4 0 300 f3), (mp_arI E a5 0 6 g_42), (mp_arI E a6 0 6 g_43), (mp_arI E a7 0 6 g_44), (mp_arI E a8 3 1500 g_45)]
        show mp_W E X 4 31 [(0, .ref a0), (1, .int x0), (2, .int x1), (3, .int x2)] [] w4_ 0 0
        refine mp_run mp_k_cX10_isLove_ok hF mp_tabX10_ok [mp_i (.aload_n 0), mp_h (.getfield 276) [24, 0], mp_i (.iload_n 3), mp_i .iadd, mp_c (.bipush 100) 100, mp_h (.if_icmp .ge 7) [46]] (by decide +kernel) ?_
        refine And.intro rfl (And.intro rfl ?_)
        intro z_63 h_64
        have e_65 : z_63.toInt = r_41.toInt + x2.toInt := mp_add (a := r_41.toInt) (b := x2.toInt) h_64 rfl rfl (by (first | exact mp_o1689 l_46 i_35 e_25 c_30 | omega)) (by (first | exact mp_o1690 u_47 i_36 e_25 c_31 | omega))
        refine And.intro (fun c_66 => ?_) (fun c_66 => ?_)
        · have c_66 : 100 ≤ z_63.toInt := c_66
          show mp_W E X 4 46 [(0, .ref a0), (1, .int x0), (2, .int x1), (3, .int x2)] [] w4_ 0 0
          refine mp_run mp_k_cX10_isLove_ok hF mp_tabX10_ok [mp_c (.iconst 0) 0] (by decide +kernel) ?_
          show mp_W E X 4 47 [(0, .ref a0), (1, .int x0), (2, .int x1), (3, .int x2)] [.int 0] w4_ 0 0
          exact mp_iret hF hQ rfl (by decide) (Nat.le_of_ble_eq_true rfl) (Nat.le_of_ble_eq_true rfl) [0, 1, 2, 3, 4, 5, 6, 7, 8] (w' := w4_) rfl rfl (Or.inl ⟨r_41, g_42, g_43, g_44, g_45, rfl, l_46, u_47, p_48, rfl⟩) (by first | exact mp_fd_ok mp_k_cX10_isLove_ok (by decide +kernel) | decide +kernel)
        · have c_66 : z_63.toInt < 100 := c_66
          show mp_W E X 4 42 [(0, .ref a0), (1, .int x0), (2, .int x1), (3, .int x2)] [] w4_ 0 0
          refine mp_run mp_k_cX10_isLove_ok hF mp_tabX10_ok [mp_c (.iconst 1) 1, mp_h (.goto 4) [47]] (by decide +kernel) ?_
          show mp_W E X 4 47 [(0, .ref a0), (1, .int x0), (2, .int x1), (3, .int x2)] [.int 1] w4_ 0 0
          exact mp_iret hF hQ rfl (by decide) (Nat.le_of_ble_eq_true rfl) (Nat.le_of_ble_eq_true rfl) [0, 1, 2, 3, 4, 5, 6, 7, 8] (w' := w4_) rfl rfl (Or.inr ⟨r_41, g_42, g_43, g_44, g_45, rfl, (by first | (first | exact c_5 | omega) | decide), (by first | (first | exact c_22 | omega) | decide), (by first | (first | exact mp_o921 c_30 e_25 | omega) | decide), (by first | (first | exact mp_o1691 e_25 c_31 | omega) | decide), l_46, u_47, p_48, (by first | (first | exact c_5 | omega) | decide | (have h8 : (0 : Int32).toInt = 0 := rfl; have h9 : (1 : Int32).toInt = 1 := rfl; have h10 : (-1 : Int32).toInt = -1 := rfl; omega)), (by first | (first | exact x_7 | omega) | decide | (have h8 : (0 : Int32).toInt = 0 := rfl; have h9 : (1 : Int32).toInt = 1 := rfl; have h10 : (-1 : Int32).toInt = -1 := rfl; omega)), (by first | (first | exact x_6 | omega) | decide | (have h8 : (0 : Int32).toInt = 0 := rfl; have h9 : (1 : Int32).toInt = 1 := rfl; have h10 : (-1 : Int32).toInt = -1 := rfl; omega)), (by first | (first | exact mp_o921 c_30 e_25 | omega) | decide | (have h8 : (0 : Int32).toInt = 0 := rfl; have h9 : (1 : Int32).toInt = 1 := rfl; have h10 : (-1 : Int32).toInt = -1 := rfl; omega)), (by first | (first | exact mp_o1691 e_25 c_31 | omega) | decide | (have h8 : (0 : Int32).toInt = 0 := rfl; have h9 : (1 : Int32).toInt = 1 := rfl; have h10 : (-1 : Int32).toInt = -1 := rfl; omega)), (by first | (first | exact mp_o1614 c_66 e_65 | omega) | decide | (have h8 : (0 : Int32).toInt = 0 := rfl; have h9 : (1 : Int32).toInt = 1 := rfl; have h10 : (-1 : Int32).toInt = -1 := rfl; omega)), rfl⟩) (by first | exact mp_fd_ok mp_k_cX10_isLove_ok (by decide +kernel) | decide +kernel)
set_option maxHeartbeats 4000000 in
set_option maxRecDepth 100000 in
theorem bX10_worthSaid_122 (E : mp_E) (a0 a1 a2 a3 a4 a5 a6 a7 a8 a9 a10 a11 a12 a13 a14 a15 a16 a17 a18 a19 a20 a21 a22 a23 a24 a25 : Nat) (f0 : Nat → Int32) (f1 : Nat → Int32) (f2 : Nat → Int32) (f3 : Nat → Int32) (y0 : Int32) (y1 : Int32) (y2 : Int32) (y3 : Int32) (y4 : Int32) (y5 : Int32) (y6 : Int64) (y7 : Int32) (y8 : Int32) (y9 : Int32) (y10 : Int32) (y11 : Int32) (y12 : Int32) (y13 : Int32) (y14 : Int32) (y15 : Int32) (y16 : Int32) (y17 : Int32) (y18 : Int32) (y19 : Int32) (y20 : Int32) (y21 : Int32) (x0 : Int32) (x1 : Int32) (x2 : Int32) (p0 : mp_res f0 25 5 0 0 6) (p1 : mp_res f0 25 5 1 0 99) (p2 : mp_res f0 25 5 2 0 6) (p3 : mp_res f0 25 5 3 0 10) (p4 : mp_res f0 25 5 4 0 60) (p5 : mp_res f1 90 3 0 0 5) (p6 : mp_res f1 90 3 1 (-1) 99) (p7 : mp_res f2 300 6 0 0 5) (p8 : mp_res f2 300 6 1 0 5) (p9 : mp_res f2 300 6 3 0 99) (p10 : mp_res f2 300 6 4 0 1) (l_x0 : 0 ≤ x0.toInt) (u_x0 : x0.toInt ≤ 9) (l_x1 : 0 ≤ x1.toInt) (u_x1 : x1.toInt ≤ 99) (l_x2 : 0 ≤ x2.toInt) (u_x2 : x2.toInt ≤ 99) (l_y1 : 0 ≤ y1.toInt) (u_y1 : y1.toInt ≤ 1600) (l_y2 : 0 ≤ y2.toInt) (u_y2 : y2.toInt ≤ 1600) (l_y3 : 0 ≤ y3.toInt) (u_y3 : y3.toInt ≤ 4) (l_y4 : 0 ≤ y4.toInt) (u_y4 : y4.toInt ≤ 1600) (l_y11 : 0 ≤ y11.toInt) (u_y11 : y11.toInt ≤ 99) (l_y12 : 0 ≤ y12.toInt) (u_y12 : y12.toInt ≤ 5) (l_y13 : 0 ≤ y13.toInt) (u_y13 : y13.toInt ≤ 12) (q0 : mp_prm f2 (f0 3).toInt) (q1 : x0.toInt < (f0 3).toInt) : mp_Ct E yX10_worthSaid cX10_worthSaid 7 (some FieldType.int) 13 0 0 311 [.ref a0, .int x0, .int x1, .int x2] [(mp_ob10 a0 y0 a5 a6 a7 a8 a9 y1 y2 y3 y4 y5 y6 y7 y8 y9 y10 a10 a1 a11 a12 a2 a3 a13 a14 y11 a15 a16 a17 a4 y12 y13 y14 a18 a19 y15 y16 a20 a21 a22 y17 y18 y19 y20 a23 a24 a25 y21), (mp_arI E a1 0 25 f0), (mp_arI E a2 0 90 f1), (mp_arI E a3 0 300 f2), (mp_arI E a4 3 1500 f3)] (fun v w' => ∃ r1 : Int32, v = some (.int r1) ∧ w' = [(mp_ob10 a0 y0 a5 a6 a7 a8 a9 y1 y2 y3 y4 y5 y6 y7 y8 y9 y10 a10 a1 a11 a12 a2 a3 a13 a14 y11 a15 a16 a17 a4 y12 y13 y14 a18 a19 y15 y16 a20 a21 a22 y17 y18 y19 y20 a23 a24 a25 y21), (mp_arI E a1 0 25 f0), (mp_arI E a2 0 90 f1), (mp_arI E a3 0 300 f2), (mp_arI E a4 3 1500 f3)]) := by
  refine mp_met false (by decide) (by decide) (Nat.le_of_ble_eq_true rfl) (fun X hF hQ => ?_)
  have hF : mp_F E X (RX10, cX10_worthSaid, 7, (13, 0, 0, 311), (some FieldType.int), false) := hF
  let w1_ : va_W := [(mp_ob10 a0 y0 a5 a6 a7 a8 a9 y1 y2 y3 y4 y5 y6 y7 y8 y9 y10 a10 a1 a11 a12 a2 a3 a13 a14 y11 a15 a16 a17 a4 y12 y13 y14 a18 a19 y15 y16 a20 a21 a22 y17 y18 y19 y20 a23 a24 a25 y21), (mp_arI E a1 0 25 f0), (mp_arI E a2 0 90 f1), (mp_arI E a3 0 300 f2), (mp_arI E a4 3 1500 f3)]
  show mp_W E X 7 0 [(0, .ref a0), (1, .int x0), (2, .int x1), (3, .int x2)] [] w1_ 0 0
  refine mp_run mp_k_cX10_worthSaid_ok hF mp_tabX10_ok [mp_i (.aload_n 0), mp_h (.getfield 44) [20, 0], mp_c (.iconst 3) 3, mp_i (.aload_n 0), mp_i (.iload_n 1), mp_c (.iconst 0) 0] (by decide +kernel) ?_
  refine And.intro rfl (And.intro rfl ?_)
  show mp_W E X 7 8 [(0, .ref a0), (1, .int x0), (2, .int x1), (3, .int x2)] [.int 0, .int x0, .ref a0, .int 3, .ref a2] w1_ 0 0
  refine mp_callV hF (As := [.int x0, .int 0]) (rest := [.int 3, .ref a2]) (wr := [(mp_arI E a1 0 25 f0), (mp_arI E a2 0 90 f1), (mp_arI E a4 3 1500 f3)]) (bX10_of_64 E a0 a3 a5 a6 a7 a8 a9 a10 a1 a11 a12 a2 a13 a14 a15 a16 a17 a4 a18 a19 a20 a21 a22 a23 a24 a25 f2 y0 y1 y2 y3 y4 y5 y6 y7 y8 y9 y10 y11 y12 y13 y14 y15 y16 y17 y18 y19 y20 y21 x0 p7 p8 p9 p10 l_x0 u_x0 l_y1 u_y1 l_y2 u_y2 l_y3 u_y3 l_y4 u_y4 l_y11 u_y11 l_y12 u_y12 l_y13 u_y13) mp_lkX10_267 0 rfl [0, 3] [1, 2, 4] rfl rfl rfl rfl rfl ⟨(Nat.le_of_ble_eq_true rfl), (Nat.le_of_ble_eq_true rfl), (Nat.le_of_ble_eq_true rfl), (Nat.le_of_ble_eq_true rfl)⟩ (Nat.le_of_ble_eq_true rfl) (by first | exact mp_fd_ok mp_k_cX10_worthSaid_ok (by decide +kernel) | decide +kernel) (fun v_1 w_2 h_3 => ?_)
  refine h_3.elim fun r_4 q_8 => q_8.elim fun e_9 q_10 => q_10.elim fun l_5 q_11 => q_11.elim fun u_6 q_12 => q_12.elim fun x_7 e_13 => ?_
  clear h_3 q_8 q_10 q_11 q_12
  subst e_9
  subst e_13
  let w2_ : va_W := [(mp_arI E a1 0 25 f0), (mp_arI E a2 0 90 f1), (mp_arI E a4 3 1500 f3), (mp_ob10 a0 y0 a5 a6 a7 a8 a9 y1 y2 y3 y4 y5 y6 y7 y8 y9 y10 a10 a1 a11 a12 a2 a3 a13 a14 y11 a15 a16 a17 a4 y12 y13 y14 a18 a19 y15 y16 a20 a21 a22 y17 y18 y19 y20 a23 a24 a25 y21), (mp_arI E a3 0 300 f2)]
  show mp_W E X 7 11 [(0, .ref a0), (1, .int x0), (2, .int x1), (3, .int x2)] [.int r_4, .int 3, .ref a2] w2_ 0 0
  refine mp_run mp_k_cX10_worthSaid_ok hF mp_tabX10_ok [mp_i .imul, mp_c (.iconst 1) 1, mp_i .iadd, mp_h .iaload [1], mp_i (.istore 4)] (by decide +kernel) ?_
  intro z_14 h_15
  have e_16 : z_14.toInt = 3 * r_4.toInt := mp_mul (a := 3) (b := r_4.toInt) h_15 (by decide) rfl (by (first | exact mp_o1399 l_5 | omega)) (by (first | exact mp_o1400 u_6 | omega))
  intro z_17 h_18
  have e_19 : z_17.toInt = z_14.toInt + 1 := mp_add (a := z_14.toInt) (b := 1) h_18 rfl (by decide) (by (first | exact mp_o1549 l_5 e_16 | omega)) (by (first | exact mp_o1550 u_6 e_16 | omega))
  refine And.intro rfl (And.intro rfl (And.intro (vp_in_iff.mpr (by (first | exact mp_o1551 l_5 u_6 e_16 e_19 | omega))) ?_))
  intro z_20 h_21
  have e_22 : (-1) ≤ z_20.toInt ∧ z_20.toInt ≤ 99 := mp_res_ld h_21 p6 (by (first | exact mp_o1552 l_5 e_16 e_19 | omega)) (by (first | exact mp_o1553 u_6 e_16 e_19 | omega)) (by (first | exact mp_o1145 e_19 e_16 | omega))
  show mp_W E X 7 17 [(4, .int z_20), (0, .ref a0), (1, .int x0), (2, .int x1), (3, .int x2)] [] w2_ 0 0
  have jp_26 : ∀ (i_23 : Int32), (-196) ≤ i_23.toInt → i_23.toInt ≤ 198 → mp_W E X 7 43 [(5, .int i_23), (4, .int z_20), (0, .ref a0), (1, .int x0), (2, .int x1), (3, .int x2)] [] [(mp_arI E a1 0 25 f0), (mp_arI E a2 0 90 f1), (mp_arI E a4 3 1500 f3), (mp_ob10 a0 y0 a5 a6 a7 a8 a9 y1 y2 y3 y4 y5 y6 y7 y8 y9 y10 a10 a1 a11 a12 a2 a3 a13 a14 y11 a15 a16 a17 a4 y12 y13 y14 a18 a19 y15 y16 a20 a21 a22 y17 y18 y19 y20 a23 a24 a25 y21), (mp_arI E a3 0 300 f2)] 0 0 := by
    intro i_23 l_24 u_25
    have jp_28 : ∀ (i_27 : Int32), mp_W E X 7 70 [(6, .int i_27), (5, .int i_23), (4, .int z_20), (0, .ref a0), (1, .int x0), (2, .int x1), (3, .int x2)] [] [(mp_arI E a1 0 25 f0), (mp_arI E a2 0 90 f1), (mp_arI E a4 3 1500 f3), (mp_ob10 a0 y0 a5 a6 a7 a8 a9 y1 y2 y3 y4 y5 y6 y7 y8 y9 y10 a10 a1 a11 a12 a2 a3 a13 a14 y11 a15 a16 a17 a4 y12 y13 y14 a18 a19 y15 y16 a20 a21 a22 y17 y18 y19 y20 a23 a24 a25 y21), (mp_arI E a3 0 300 f2)] 0 0 := by
      intro i_27
      refine mp_run mp_k_cX10_worthSaid_ok hF mp_tabX10_ok [mp_i (.iload 6), mp_c (.iconst (-1)) (-1), mp_h (.if_icmp .ne 7) [80]] (by decide +kernel) ?_
      refine And.intro (fun c_29 => ?_) (fun c_29 => ?_)
      · have c_29 : i_27.toInt ≠ (-1) := c_29
        show mp_W E X 7 80 [(6, .int i_27), (5, .int i_23), (4, .int z_20), (0, .ref a0), (1, .int x0), (2, .int x1), (3, .int x2)] [] w2_ 0 0
        refine mp_run mp_k_cX10_worthSaid_ok hF mp_tabX10_ok [mp_i (.aload_n 0), mp_i (.iload_n 1), mp_c (.iconst 2) 2] (by decide +kernel) ?_
        show mp_W E X 7 83 [(6, .int i_27), (5, .int i_23), (4, .int z_20), (0, .ref a0), (1, .int x0), (2, .int x1), (3, .int x2)] [.int 2, .int x0, .ref a0] w2_ 0 0
        refine mp_callV hF (As := [.int x0, .int 2]) (rest := []) (wr := [(mp_arI E a1 0 25 f0), (mp_arI E a2 0 90 f1), (mp_arI E a4 3 1500 f3)]) (bX10_of_70 E a0 a3 a5 a6 a7 a8 a9 a10 a1 a11 a12 a2 a13 a14 a15 a16 a17 a4 a18 a19 a20 a21 a22 a23 a24 a25 f2 y0 y1 y2 y3 y4 y5 y6 y7 y8 y9 y10 y11 y12 y13 y14 y15 y16 y17 y18 y19 y20 y21 x0 p7 p8 p9 p10 l_x0 u_x0 l_y1 u_y1 l_y2 u_y2 l_y3 u_y3 l_y4 u_y4 l_y11 u_y11 l_y12 u_y12 l_y13 u_y13) mp_lkX10_267 3 rfl [3, 4] [0, 1, 2] rfl rfl rfl rfl rfl ⟨(Nat.le_of_ble_eq_true rfl), (Nat.le_of_ble_eq_true rfl), (Nat.le_of_ble_eq_true rfl), (Nat.le_of_ble_eq_true rfl)⟩ (Nat.le_of_ble_eq_true rfl) (by first | exact mp_fd_ok mp_k_cX10_worthSaid_ok (by decide +kernel) | decide +kernel) (fun v_30 w_31 h_32 => ?_)
        obtain ⟨r_33, rfl, x_34, rfl⟩ := h_32
        show mp_W E X 7 86 [(6, .int i_27), (5, .int i_23), (4, .int z_20), (0, .ref a0), (1, .int x0), (2, .int x1), (3, .int x2)] [.int r_33] w2_ 0 0
        refine mp_run mp_k_cX10_worthSaid_ok hF mp_tabX10_ok [mp_i (.iload 5), mp_i (.iload 6), mp_i .iadd] (by decide +kernel) ?_
        intro z_35 h_36
        have e_37 := mp_bnd i_27
        show mp_W E X 7 91 [(6, .int i_27), (5, .int i_23), (4, .int z_20), (0, .ref a0), (1, .int x0), (2, .int x1), (3, .int x2)] [.int z_35, .int r_33] w2_ 0 0
        refine mp_callS hF (As := [.int r_33, .int z_35]) (rest := []) (wr := w2_) (bX10_halved_71 E r_33 z_35) mp_lkX10_285 [] [0, 1, 2, 3, 4] rfl rfl rfl rfl rfl ⟨(Nat.le_of_ble_eq_true rfl), (Nat.le_of_ble_eq_true rfl), (Nat.le_of_ble_eq_true rfl), (Nat.le_of_ble_eq_true rfl)⟩ (Nat.le_of_ble_eq_true rfl) (by first | exact mp_fd_ok mp_k_cX10_worthSaid_ok (by decide +kernel) | decide +kernel) (fun v_39 w_40 h_41 => ?_)
        obtain ⟨r_42, rfl, x_43, rfl⟩ := h_41
        show mp_W E X 7 94 [(6, .int i_27), (5, .int i_23), (4, .int z_20), (0, .ref a0), (1, .int x0), (2, .int x1), (3, .int x2)] [.int r_42] w2_ 0 0
        exact mp_iret hF hQ rfl rfl (Nat.le_of_ble_eq_true rfl) (Nat.le_of_ble_eq_true rfl) [3, 0, 1, 4, 2] (w' := w1_) rfl rfl ⟨r_42, rfl, rfl⟩ (by first | exact mp_fd_ok mp_k_cX10_worthSaid_ok (by decide +kernel) | decide +kernel)
      · have c_29 : i_27.toInt = (-1) := (congrArg Int32.toInt c_29)
        show mp_W E X 7 76 [(6, .int i_27), (5, .int i_23), (4, .int z_20), (0, .ref a0), (1, .int x0), (2, .int x1), (3, .int x2)] [] w2_ 0 0
        refine mp_run mp_k_cX10_worthSaid_ok hF mp_tabX10_ok [mp_c (.iconst 0) 0, mp_h (.goto 17) [94]] (by decide +kernel) ?_
        show mp_W E X 7 94 [(6, .int i_27), (5, .int i_23), (4, .int z_20), (0, .ref a0), (1, .int x0), (2, .int x1), (3, .int x2)] [.int 0] w2_ 0 0
        exact mp_iret hF hQ rfl rfl (Nat.le_of_ble_eq_true rfl) (Nat.le_of_ble_eq_true rfl) [3, 0, 1, 4, 2] (w' := w1_) rfl rfl ⟨0, rfl, rfl⟩ (by first | exact mp_fd_ok mp_k_cX10_worthSaid_ok (by decide +kernel) | decide +kernel)
    refine mp_run mp_k_cX10_worthSaid_ok hF mp_tabX10_ok [mp_i (.aload_n 0), mp_i (.iload_n 1), mp_c (.iconst 5) 5] (by decide +kernel) ?_
    show mp_W E X 7 46 [(5, .int i_23), (4, .int z_20), (0, .ref a0), (1, .int x0), (2, .int x1), (3, .int x2)] [.int 5, .int x0, .ref a0] w2_ 0 0
    refine mp_callV hF (As := [.int x0, .int 5]) (rest := []) (wr := [(mp_arI E a1 0 25 f0), (mp_arI E a2 0 90 f1), (mp_arI E a4 3 1500 f3)]) (bX10_of_67 E a0 a3 a5 a6 a7 a8 a9 a10 a1 a11 a12 a2 a13 a14 a15 a16 a17 a4 a18 a19 a20 a21 a22 a23 a24 a25 f2 y0 y1 y2 y3 y4 y5 y6 y7 y8 y9 y10 y11 y12 y13 y14 y15 y16 y17 y18 y19 y20 y21 x0 p7 p8 p9 p10 l_x0 u_x0 l_y1 u_y1 l_y2 u_y2 l_y3 u_y3 l_y4 u_y4 l_y11 u_y11 l_y12 u_y12 l_y13 u_y13) mp_lkX10_267 3 rfl [3, 4] [0, 1, 2] rfl rfl rfl rfl rfl ⟨(Nat.le_of_ble_eq_true rfl), (Nat.le_of_ble_eq_true rfl), (Nat.le_of_ble_eq_true rfl), (Nat.le_of_ble_eq_true rfl)⟩ (Nat.le_of_ble_eq_true rfl) (by first | exact mp_fd_ok mp_k_cX10_worthSaid_ok (by decide +kernel) | decide +kernel) (fun v_44 w_45 h_46 => ?_)
    obtain ⟨r_47, rfl, x_48, rfl⟩ := h_46
    have e_49 := mp_prm_use (f := f2) (n := (f0 3).toInt) (by assumption) x0 (by (first | exact l_x0 | omega)) (by (first | exact q1 | omega))
    show mp_W E X 7 49 [(5, .int i_23), (4, .int z_20), (0, .ref a0), (1, .int x0), (2, .int x1), (3, .int x2)] [.int r_47] w2_ 0 0
    refine mp_run mp_k_cX10_worthSaid_ok hF mp_tabX10_ok [mp_c (.iconst (-1)) (-1), mp_h (.if_icmp .ne 7) [57]] (by decide +kernel) ?_
    refine And.intro (fun c_50 => ?_) (fun c_50 => ?_)
    · have c_50 : r_47.toInt ≠ (-1) := c_50
      show mp_W E X 7 57 [(5, .int i_23), (4, .int z_20), (0, .ref a0), (1, .int x0), (2, .int x1), (3, .int x2)] [] w2_ 0 0
      refine mp_run mp_k_cX10_worthSaid_ok hF mp_tabX10_ok [mp_i (.aload_n 0), mp_i (.aload_n 0), mp_i (.iload_n 1), mp_c (.iconst 5) 5] (by decide +kernel) ?_
      show mp_W E X 7 61 [(5, .int i_23), (4, .int z_20), (0, .ref a0), (1, .int x0), (2, .int x1), (3, .int x2)] [.int 5, .int x0, .ref a0, .ref a0] w2_ 0 0
      refine mp_callV hF (As := [.int x0, .int 5]) (rest := [.ref a0]) (wr := [(mp_arI E a1 0 25 f0), (mp_arI E a2 0 90 f1), (mp_arI E a4 3 1500 f3)]) (bX10_of_67 E a0 a3 a5 a6 a7 a8 a9 a10 a1 a11 a12 a2 a13 a14 a15 a16 a17 a4 a18 a19 a20 a21 a22 a23 a24 a25 f2 y0 y1 y2 y3 y4 y5 y6 y7 y8 y9 y10 y11 y12 y13 y14 y15 y16 y17 y18 y19 y20 y21 x0 p7 p8 p9 p10 l_x0 u_x0 l_y1 u_y1 l_y2 u_y2 l_y3 u_y3 l_y4 u_y4 l_y11 u_y11 l_y12 u_y12 l_y13 u_y13) mp_lkX10_267 3 rfl [3, 4] [0, 1, 2] rfl rfl rfl rfl rfl ⟨(Nat.le_of_ble_eq_true rfl), (Nat.le_of_ble_eq_true rfl), (Nat.le_of_ble_eq_true rfl), (Nat.le_of_ble_eq_true rfl)⟩ (Nat.le_of_ble_eq_true rfl) (by first | exact mp_fd_ok mp_k_cX10_worthSaid_ok (by decide +kernel) | decide +kernel) (fun v_51 w_52 h_53 => ?_)
      obtain ⟨r_54, rfl, x_55, rfl⟩ := h_53
      have e_56 := mp_prm_use (f := f2) (n := (f0 3).toInt) (by assumption) x0 (by (first | exact l_x0 | omega)) (by (first | exact q1 | omega))
      show mp_W E X 7 64 [(5, .int i_23), (4, .int z_20), (0, .ref a0), (1, .int x0), (2, .int x1), (3, .int x2)] [.int r_54, .ref a0] w2_ 0 0
      refine mp_run mp_k_cX10_worthSaid_ok hF mp_tabX10_ok [mp_i (.iload_n 3)] (by decide +kernel) ?_
      show mp_W E X 7 65 [(5, .int i_23), (4, .int z_20), (0, .ref a0), (1, .int x0), (2, .int x1), (3, .int x2)] [.int x2, .int r_54, .ref a0] w2_ 0 0
      refine mp_callV hF (As := [.int r_54, .int x2]) (rest := []) (wr := []) (bX10_halvedOf_68 E 10 a0 a1 a2 a3 a4 a5 a6 a7 a8 a9 a10 a11 a12 a13 a14 a15 a16 a17 a18 a19 a20 a21 a22 a23 a24 a25 f0 f1 f2 f3 y0 y1 y2 y3 y4 y5 y6 y7 y8 y9 y10 y11 y12 y13 y14 y15 y16 y17 y18 y19 y20 y21 r_54 x2 p0 p1 p2 p3 p4 p5 p6 p7 p8 p9 p10 (by (first | exact mp_o1507 c_50 x_55 x_48 e_49 | omega)) (by (first | exact mp_o1508 u_x0 x_55 e_49 | omega)) l_x2 (by (first | exact mp_o1513 u_x2 | omega)) l_y1 u_y1 l_y2 u_y2 l_y3 u_y3 l_y4 u_y4 l_y11 u_y11 l_y12 u_y12 l_y13 u_y13 (by first | assumption | (rw [rfl]; assumption)) (by (first | exact mp_o1509 q1 x_55 e_49 | omega)) (by first | (first | exact mp_o1692 u_x0 x_55 e_49 | omega) | (have h8 : (0 : Int32).toInt = 0 := rfl; omega))) mp_lkX10_282 3 rfl [3, 0, 1, 4, 2] [] rfl rfl rfl rfl rfl ⟨(Nat.le_of_ble_eq_true rfl), (Nat.le_of_ble_eq_true rfl), (Nat.le_of_ble_eq_true rfl), (Nat.le_of_ble_eq_true rfl)⟩ (Nat.le_of_ble_eq_true rfl) (by first | exact mp_fd_ok mp_k_cX10_worthSaid_ok (by decide +kernel) | decide +kernel) (fun v_57 w_58 h_59 => ?_)
      obtain ⟨r_60, rfl, rfl⟩ := h_59
      show mp_W E X 7 68 [(5, .int i_23), (4, .int z_20), (0, .ref a0), (1, .int x0), (2, .int x1), (3, .int x2)] [.int r_60] w1_ 0 0
      refine mp_run mp_k_cX10_worthSaid_ok hF mp_tabX10_ok [mp_i (.istore 6)] (by decide +kernel) ?_
      show mp_W E X 7 70 [(6, .int r_60), (5, .int i_23), (4, .int z_20), (0, .ref a0), (1, .int x0), (2, .int x1), (3, .int x2)] [] w1_ 0 0
      exact mp_sub [0, 1, 2, 3, 4, 5, 6] rfl [1, 2, 4, 0, 3] rfl rfl (jp_28 r_60)
    · have c_50 : r_47.toInt = (-1) := (congrArg Int32.toInt c_50)
      show mp_W E X 7 53 [(5, .int i_23), (4, .int z_20), (0, .ref a0), (1, .int x0), (2, .int x1), (3, .int x2)] [] w2_ 0 0
      refine mp_run mp_k_cX10_worthSaid_ok hF mp_tabX10_ok [mp_c (.iconst 0) 0, mp_h (.goto 14) [68], mp_i (.istore 6)] (by decide +kernel) ?_
      show mp_W E X 7 70 [(6, .int 0), (5, .int i_23), (4, .int z_20), (0, .ref a0), (1, .int x0), (2, .int x1), (3, .int x2)] [] w2_ 0 0
      exact mp_sub [0, 1, 2, 3, 4, 5, 6] rfl [0, 1, 2, 3, 4] rfl rfl (jp_28 0)
  refine mp_run mp_k_cX10_worthSaid_ok hF mp_tabX10_ok [mp_i (.iload_n 3), mp_i (.iload_n 2), mp_i .isub, mp_i (.iload 4), mp_c (.iconst (-1)) (-1), mp_h (.if_icmp .eq 16) [39]] (by decide +kernel) ?_
  intro z_61 h_62
  have e_63 : z_61.toInt = x2.toInt - x1.toInt := mp_subi (a := x2.toInt) (b := x1.toInt) h_62 rfl rfl (by (first | exact mp_o1693 l_x2 u_x1 | omega)) (by (first | exact mp_o1694 l_x1 u_x2 | omega))
  refine And.intro (fun c_64 => ?_) (fun c_64 => ?_)
  · have c_64 : z_20.toInt = (-1) := (congrArg Int32.toInt c_64)
    show mp_W E X 7 39 [(4, .int z_20), (0, .ref a0), (1, .int x0), (2, .int x1), (3, .int x2)] [.int z_61] w2_ 0 0
    refine mp_run mp_k_cX10_worthSaid_ok hF mp_tabX10_ok [mp_c (.iconst 0) 0, mp_i .iadd, mp_i (.istore 5)] (by decide +kernel) ?_
    intro z_65 h_66
    have e_67 : z_65.toInt = z_61.toInt + 0 := mp_add (a := z_61.toInt) (b := 0) h_66 rfl (by decide) (by (first | exact mp_o1695 l_x2 u_x1 e_63 | omega)) (by (first | exact mp_o1696 l_x1 u_x2 e_63 | omega))
    show mp_W E X 7 43 [(5, .int z_65), (4, .int z_20), (0, .ref a0), (1, .int x0), (2, .int x1), (3, .int x2)] [] w2_ 0 0
    exact mp_sub [0, 1, 2, 3, 4, 5] rfl [0, 1, 2, 3, 4] rfl rfl (jp_26 z_65 (by (first | exact mp_o1697 l_x2 u_x1 e_63 e_67 | omega)) (by (first | exact mp_o1698 l_x1 u_x2 e_63 e_67 | omega)))
  · have c_64 : z_20.toInt ≠ (-1) := c_64
    show mp_W E X 7 26 [(4, .int z_20), (0, .ref a0), (1, .int x0), (2, .int x1), (3, .int x2)] [.int z_61] w2_ 0 0
    refine mp_run mp_k_cX10_worthSaid_ok hF mp_tabX10_ok [mp_i (.iload_n 3), mp_i (.iload 4), mp_h (.if_icmp .le 10) [39]] (by decide +kernel) ?_
    refine And.intro (fun c_68 => ?_) (fun c_68 => ?_)
    · have c_68 : x2.toInt ≤ z_20.toInt := c_68
      show mp_W E X 7 39 [(4, .int z_20), (0, .ref a0), (1, .int x0), (2, .int x1), (3, .int x2)] [.int z_61] w2_ 0 0
      refine mp_run mp_k_cX10_worthSaid_ok hF mp_tabX10_ok [mp_c (.iconst 0) 0, mp_i .iadd, mp_i (.istore 5)] (by decide +kernel) ?_
      intro z_69 h_70
      have e_71 : z_69.toInt = z_61.toInt + 0 := mp_add (a := z_61.toInt) (b := 0) h_70 rfl (by decide) (by (first | exact mp_o1695 l_x2 u_x1 e_63 | omega)) (by (first | exact mp_o1696 l_x1 u_x2 e_63 | omega))
      show mp_W E X 7 43 [(5, .int z_69), (4, .int z_20), (0, .ref a0), (1, .int x0), (2, .int x1), (3, .int x2)] [] w2_ 0 0
      exact mp_sub [0, 1, 2, 3, 4, 5] rfl [0, 1, 2, 3, 4] rfl rfl (jp_26 z_69 (by omega) (by omega))
    · have c_68 : z_20.toInt < x2.toInt := c_68
      show mp_W E X 7 32 [(4, .int z_20), (0, .ref a0), (1, .int x0), (2, .int x1), (3, .int x2)] [.int z_61] w2_ 0 0
      refine mp_run mp_k_cX10_worthSaid_ok hF mp_tabX10_ok [mp_i (.iload_n 3), mp_i (.iload 4), mp_i .isub, mp_h (.goto 4) [40], mp_i .iadd, mp_i (.istore 5)] (by decide +kernel) ?_
      intro z_72 h_73
      have e_74 : z_72.toInt = x2.toInt - z_20.toInt := mp_subi (a := x2.toInt) (b := z_20.toInt) h_73 rfl rfl (by (first | exact mp_o1699 c_68 | omega)) (by (first | exact mp_o1700 e_22 u_x2 | omega))
      intro z_75 h_76
      have e_77 : z_75.toInt = z_61.toInt + z_72.toInt := mp_add (a := z_61.toInt) (b := z_72.toInt) h_76 rfl rfl (by (first | exact mp_o1701 l_x2 c_68 e_74 u_x1 e_63 | omega)) (by (first | exact mp_o1702 l_x1 u_x2 e_63 e_74 e_22 | omega))
      show mp_W E X 7 43 [(5, .int z_75), (4, .int z_20), (0, .ref a0), (1, .int x0), (2, .int x1), (3, .int x2)] [] w2_ 0 0
      exact mp_sub [0, 1, 2, 3, 4, 5] rfl [0, 1, 2, 3, 4] rfl rfl (jp_26 z_75 (by (first | exact mp_o1703 l_x2 c_68 e_74 u_x1 e_63 e_77 | omega)) (by (first | exact mp_o1704 l_x1 c_64 e_22 u_x2 e_63 e_74 e_77 | omega)))
set_option maxHeartbeats 4000000 in
set_option maxRecDepth 100000 in
theorem bX10_loves_123 (E : mp_E) (a0 a1 a2 a3 a4 a5 a6 a7 a8 a9 a10 a11 a12 a13 a14 a15 a16 a17 a18 a19 a20 a21 a22 a23 a24 a25 : Nat) (f0 : Nat → Int32) (f1 : Nat → Int32) (f2 : Nat → Int32) (f3 : Nat → Int32) (f4 : Nat → Int32) (f5 : Nat → Int32) (f6 : Nat → Int32) (f7 : Nat → Int32) (f8 : Nat → Int32) (y0 : Int32) (y1 : Int32) (y2 : Int32) (y3 : Int32) (y4 : Int32) (y5 : Int32) (y6 : Int64) (y7 : Int32) (y8 : Int32) (y9 : Int32) (y10 : Int32) (y11 : Int32) (y12 : Int32) (y13 : Int32) (y14 : Int32) (y15 : Int32) (y16 : Int32) (y17 : Int32) (y18 : Int32) (y19 : Int32) (y20 : Int32) (y21 : Int32) (x0 : Int32) (x1 : Int32) (x2 : Int32) (p0 : mp_res f0 25 5 0 0 6) (p1 : mp_res f0 25 5 1 0 99) (p2 : mp_res f0 25 5 2 0 6) (p3 : mp_res f0 25 5 3 0 10) (p4 : mp_res f0 25 5 4 0 60) (p5 : mp_all f1 180 0 20) (p6 : mp_all f2 3000 0 1) (p7 : mp_res f3 90 3 0 0 5) (p8 : mp_res f3 90 3 1 (-1) 99) (p9 : mp_res f4 300 6 0 0 5) (p10 : mp_res f4 300 6 1 0 5) (p11 : mp_res f4 300 6 3 0 99) (p12 : mp_res f4 300 6 4 0 1) (p13 : mp_all f5 6 0 5) (l_x0 : 0 ≤ x0.toInt) (u_x0 : x0.toInt ≤ 9) (l_x2 : 0 ≤ x2.toInt) (u_x2 : x2.toInt ≤ 12) (l_y1 : 0 ≤ y1.toInt) (u_y1 : y1.toInt ≤ 1600) (l_y2 : 0 ≤ y2.toInt) (u_y2 : y2.toInt ≤ 1600) (l_y3 : 0 ≤ y3.toInt) (u_y3 : y3.toInt ≤ 4) (l_y4 : 0 ≤ y4.toInt) (u_y4 : y4.toInt ≤ 1600) (l_y11 : 0 ≤ y11.toInt) (u_y11 : y11.toInt ≤ 99) (l_y12 : 0 ≤ y12.toInt) (u_y12 : y12.toInt ≤ 5) (l_y13 : 0 ≤ y13.toInt) (u_y13 : y13.toInt ≤ 12) (q0 : y11.toInt + x2.toInt ≤ 99) (q1 : mp_prm f4 (f0 3).toInt) (q2 : x0.toInt < (f0 3).toInt) : mp_Ct E yX10_loves cX10_loves 10 none 14 0 0 337 [.ref a0, .int x0, .int x1, .int x2] [(mp_ob10 a0 y0 a10 a11 a12 a13 a14 y1 y2 y3 y4 y5 y6 y7 y8 y9 y10 a15 a1 a2 a3 a4 a5 a16 a17 y11 a6 a18 a19 a7 y12 y13 y14 a20 a21 y15 y16 a8 a9 a22 y17 y18 y19 y20 a23 a24 a25 y21), (mp_arI E a1 0 25 f0), (mp_arI E a2 0 180 f1), (mp_arI E a3 3 3000 f2), (mp_arI E a4 0 90 f3), (mp_arI E a5 0 300 f4), (mp_arI E a6 0 6 f5), (mp_arI E a7 3 1500 f6), (mp_arI E a8 0 6 f7), (mp_arI E a9 0 6 f8)] (fun v w' => ∃ r1 : Int32, ∃ r2 : Int32, ∃ h3 : Nat → Int32, ∃ h4 : Nat → Int32, v = none ∧ r1.toInt ≤ 1000000 ∧ (-1) ≤ r2.toInt ∧ r2.toInt ≤ 240 ∧ w' = [(mp_ob10 a0 y0 a10 a11 a12 a13 a14 y1 y2 y3 y4 y5 y6 y7 y8 y9 y10 a15 a1 a2 a3 a4 a5 a16 a17 y11 a6 a18 a19 a7 y12 y13 y14 a20 a21 r1 r2 a8 a9 a22 y17 y18 y19 y20 a23 a24 a25 y21), (mp_arI E a1 0 25 f0), (mp_arI E a2 0 180 f1), (mp_arI E a3 3 3000 f2), (mp_arI E a4 0 90 f3), (mp_arI E a5 0 300 f4), (mp_arI E a6 0 6 f5), (mp_arI E a7 3 1500 f6), (mp_arI E a8 0 6 h3), (mp_arI E a9 0 6 h4)]) := by
  refine mp_met false (by decide) (by decide) (Nat.le_of_ble_eq_true rfl) (fun X hF hQ => ?_)
  have hF : mp_F E X (RX10, cX10_loves, 10, (14, 0, 0, 337), none, false) := hF
  let w1_ : va_W := [(mp_ob10 a0 y0 a10 a11 a12 a13 a14 y1 y2 y3 y4 y5 y6 y7 y8 y9 y10 a15 a1 a2 a3 a4 a5 a16 a17 y11 a6 a18 a19 a7 y12 y13 y14 a20 a21 y15 y16 a8 a9 a22 y17 y18 y19 y20 a23 a24 a25 y21), (mp_arI E a1 0 25 f0), (mp_arI E a2 0 180 f1), (mp_arI E a3 3 3000 f2), (mp_arI E a4 0 90 f3), (mp_arI E a5 0 300 f4), (mp_arI E a6 0 6 f5), (mp_arI E a7 3 1500 f6), (mp_arI E a8 0 6 f7), (mp_arI E a9 0 6 f8)]
  show mp_W E X 10 0 [(0, .ref a0), (1, .int x0), (2, .int x1), (3, .int x2)] [] w1_ 0 0
  refine mp_run mp_k_cX10_loves_ok hF mp_tabX10_ok [mp_i (.aload_n 0), mp_c (.ldc 142) 1000000, mp_h (.putfield 381) [34, 0]] (by decide +kernel) ?_
  refine And.intro rfl (And.intro rfl (And.intro rfl (And.intro rfl (And.intro (Nat.le_of_ble_eq_true rfl) ?_))))
  let w2_ : va_W := [(mp_ob10 a0 y0 a10 a11 a12 a13 a14 y1 y2 y3 y4 y5 y6 y7 y8 y9 y10 a15 a1 a2 a3 a4 a5 a16 a17 y11 a6 a18 a19 a7 y12 y13 y14 a20 a21 1000000 y16 a8 a9 a22 y17 y18 y19 y20 a23 a24 a25 y21), (mp_arI E a1 0 25 f0), (mp_arI E a2 0 180 f1), (mp_arI E a3 3 3000 f2), (mp_arI E a4 0 90 f3), (mp_arI E a5 0 300 f4), (mp_arI E a6 0 6 f5), (mp_arI E a7 3 1500 f6), (mp_arI E a8 0 6 f7), (mp_arI E a9 0 6 f8)]
  show mp_W E X 10 6 [(0, .ref a0), (1, .int x0), (2, .int x1), (3, .int x2)] [] w2_ 0 0
  refine mp_run mp_k_cX10_loves_ok hF mp_tabX10_ok [mp_i (.aload_n 0), mp_c (.iconst (-1)) (-1), mp_h (.putfield 384) [35, 0]] (by decide +kernel) ?_
  refine And.intro rfl (And.intro rfl (And.intro rfl (And.intro rfl (And.intro (Nat.le_of_ble_eq_true rfl) ?_))))
  let w3_ : va_W := [(mp_ob10 a0 y0 a10 a11 a12 a13 a14 y1 y2 y3 y4 y5 y6 y7 y8 y9 y10 a15 a1 a2 a3 a4 a5 a16 a17 y11 a6 a18 a19 a7 y12 y13 y14 a20 a21 1000000 (-1) a8 a9 a22 y17 y18 y19 y20 a23 a24 a25 y21), (mp_arI E a1 0 25 f0), (mp_arI E a2 0 180 f1), (mp_arI E a3 3 3000 f2), (mp_arI E a4 0 90 f3), (mp_arI E a5 0 300 f4), (mp_arI E a6 0 6 f5), (mp_arI E a7 3 1500 f6), (mp_arI E a8 0 6 f7), (mp_arI E a9 0 6 f8)]
  show mp_W E X 10 11 [(0, .ref a0), (1, .int x0), (2, .int x1), (3, .int x2)] [] w3_ 0 0
  refine mp_run mp_k_cX10_loves_ok hF mp_tabX10_ok [mp_i (.aload_n 0), mp_i (.iload_n 1), mp_i (.aload_n 0), mp_h (.getfield 276) [24, 0], mp_i (.iload_n 3), mp_i .iadd] (by decide +kernel) ?_
  refine And.intro rfl (And.intro rfl ?_)
  intro z_1 h_2
  have e_3 : z_1.toInt = y11.toInt + x2.toInt := mp_add (a := y11.toInt) (b := x2.toInt) h_2 rfl rfl (by (first | exact mp_o116 l_y11 l_x2 | omega)) (by (first | exact mp_o607 q0 | omega))
  show mp_W E X 10 19 [(0, .ref a0), (1, .int x0), (2, .int x1), (3, .int x2)] [.int z_1, .int x0, .ref a0] w3_ 0 0
  refine mp_callV hF (As := [.int x0, .int z_1]) (rest := []) (wr := [(mp_arI E a2 0 180 f1), (mp_arI E a3 3 3000 f2), (mp_arI E a6 0 6 f5), (mp_arI E a8 0 6 f7), (mp_arI E a9 0 6 f8)]) (bX10_worthOf_72 E a0 a1 a4 a5 a7 a10 a11 a12 a13 a14 a15 a2 a3 a16 a17 a6 a18 a19 a20 a21 a8 a9 a22 a23 a24 a25 f0 f3 f4 f6 y0 y1 y2 y3 y4 y5 y6 y7 y8 y9 y10 y11 y12 y13 y14 1000000 (-1) y17 y18 y19 y20 y21 x0 z_1 p0 p1 p2 p3 p4 p7 p8 p9 p10 p11 p12 l_x0 u_x0 (by (first | exact mp_o755 l_x2 l_y11 e_3 | omega)) (by (first | exact mp_o1705 q0 e_3 | omega)) l_y1 u_y1 l_y2 u_y2 l_y3 u_y3 l_y4 u_y4 l_y11 u_y11 l_y12 u_y12 l_y13 u_y13 (by first | assumption | (rw [rfl]; assumption)) (by (first | exact q2 | omega))) mp_lkX10_291 0 rfl [0, 1, 4, 5, 7] [2, 3, 6, 8, 9] rfl rfl rfl rfl rfl ⟨(Nat.le_of_ble_eq_true rfl), (Nat.le_of_ble_eq_true rfl), (Nat.le_of_ble_eq_true rfl), (Nat.le_of_ble_eq_true rfl)⟩ (Nat.le_of_ble_eq_true rfl) (by first | exact mp_fd_ok mp_k_cX10_loves_ok (by decide +kernel) | decide +kernel) (fun v_4 w_5 h_6 => ?_)
  obtain ⟨r_7, rfl, rfl⟩ := h_6
  let w4_ : va_W := [(mp_arI E a2 0 180 f1), (mp_arI E a3 3 3000 f2), (mp_arI E a6 0 6 f5), (mp_arI E a8 0 6 f7), (mp_arI E a9 0 6 f8), (mp_ob10 a0 y0 a10 a11 a12 a13 a14 y1 y2 y3 y4 y5 y6 y7 y8 y9 y10 a15 a1 a2 a3 a4 a5 a16 a17 y11 a6 a18 a19 a7 y12 y13 y14 a20 a21 1000000 (-1) a8 a9 a22 y17 y18 y19 y20 a23 a24 a25 y21), (mp_arI E a1 0 25 f0), (mp_arI E a4 0 90 f3), (mp_arI E a5 0 300 f4), (mp_arI E a7 3 1500 f6)]
  show mp_W E X 10 22 [(0, .ref a0), (1, .int x0), (2, .int x1), (3, .int x2)] [.int r_7] w4_ 0 0
  refine mp_run mp_k_cX10_loves_ok hF mp_tabX10_ok [mp_i (.iload_n 2), mp_h (.if_icmp .lt 17) [40]] (by decide +kernel) ?_
  refine And.intro (fun c_8 => ?_) (fun c_8 => ?_)
  · have c_8 : r_7.toInt < x1.toInt := c_8
    show mp_W E X 10 40 [(0, .ref a0), (1, .int x0), (2, .int x1), (3, .int x2)] [] w4_ 0 0
    refine mp_run mp_k_cX10_loves_ok hF mp_tabX10_ok [mp_i (.aload_n 0), mp_i (.iload_n 1), mp_c (.iconst 0) 0] (by decide +kernel) ?_
    show mp_W E X 10 43 [(0, .ref a0), (1, .int x0), (2, .int x1), (3, .int x2)] [.int 0, .int x0, .ref a0] w4_ 0 0
    refine mp_callV hF (As := [.int x0, .int 0]) (rest := []) (wr := [(mp_arI E a2 0 180 f1), (mp_arI E a3 3 3000 f2), (mp_arI E a6 0 6 f5), (mp_arI E a8 0 6 f7), (mp_arI E a9 0 6 f8), (mp_arI E a1 0 25 f0), (mp_arI E a4 0 90 f3), (mp_arI E a7 3 1500 f6)]) (bX10_of_64 E a0 a5 a10 a11 a12 a13 a14 a15 a1 a2 a3 a4 a16 a17 a6 a18 a19 a7 a20 a21 a8 a9 a22 a23 a24 a25 f4 y0 y1 y2 y3 y4 y5 y6 y7 y8 y9 y10 y11 y12 y13 y14 1000000 (-1) y17 y18 y19 y20 y21 x0 p9 p10 p11 p12 l_x0 u_x0 l_y1 u_y1 l_y2 u_y2 l_y3 u_y3 l_y4 u_y4 l_y11 u_y11 l_y12 u_y12 l_y13 u_y13) mp_lkX10_267 5 rfl [5, 8] [0, 1, 2, 3, 4, 6, 7, 9] rfl rfl rfl rfl rfl ⟨(Nat.le_of_ble_eq_true rfl), (Nat.le_of_ble_eq_true rfl), (Nat.le_of_ble_eq_true rfl), (Nat.le_of_ble_eq_true rfl)⟩ (Nat.le_of_ble_eq_true rfl) (by first | exact mp_fd_ok mp_k_cX10_loves_ok (by decide +kernel) | decide +kernel) (fun v_9 w_10 h_11 => ?_)
    refine h_11.elim fun r_12 q_16 => q_16.elim fun e_17 q_18 => q_18.elim fun l_13 q_19 => q_19.elim fun u_14 q_20 => q_20.elim fun x_15 e_21 => ?_
    clear h_11 q_16 q_18 q_19 q_20
    subst e_17
    subst e_21
    let w5_ : va_W := [(mp_arI E a2 0 180 f1), (mp_arI E a3 3 3000 f2), (mp_arI E a6 0 6 f5), (mp_arI E a8 0 6 f7), (mp_arI E a9 0 6 f8), (mp_arI E a1 0 25 f0), (mp_arI E a4 0 90 f3), (mp_arI E a7 3 1500 f6), (mp_ob10 a0 y0 a10 a11 a12 a13 a14 y1 y2 y3 y4 y5 y6 y7 y8 y9 y10 a15 a1 a2 a3 a4 a5 a16 a17 y11 a6 a18 a19 a7 y12 y13 y14 a20 a21 1000000 (-1) a8 a9 a22 y17 y18 y19 y20 a23 a24 a25 y21), (mp_arI E a5 0 300 f4)]
    show mp_W E X 10 46 [(0, .ref a0), (1, .int x0), (2, .int x1), (3, .int x2)] [.int r_12] w5_ 0 0
    refine mp_run mp_k_cX10_loves_ok hF mp_tabX10_ok [mp_i (.istore 4), mp_i (.aload_n 0), mp_i (.iload_n 1), mp_c (.iconst 1) 1] (by decide +kernel) ?_
    show mp_W E X 10 51 [(4, .int r_12), (0, .ref a0), (1, .int x0), (2, .int x1), (3, .int x2)] [.int 1, .int x0, .ref a0] w5_ 0 0
    refine mp_callV hF (As := [.int x0, .int 1]) (rest := []) (wr := [(mp_arI E a2 0 180 f1), (mp_arI E a3 3 3000 f2), (mp_arI E a6 0 6 f5), (mp_arI E a8 0 6 f7), (mp_arI E a9 0 6 f8), (mp_arI E a1 0 25 f0), (mp_arI E a4 0 90 f3), (mp_arI E a7 3 1500 f6)]) (bX10_of_76 E a0 a5 a10 a11 a12 a13 a14 a15 a1 a2 a3 a4 a16 a17 a6 a18 a19 a7 a20 a21 a8 a9 a22 a23 a24 a25 f4 y0 y1 y2 y3 y4 y5 y6 y7 y8 y9 y10 y11 y12 y13 y14 1000000 (-1) y17 y18 y19 y20 y21 x0 p9 p10 p11 p12 l_x0 u_x0 l_y1 u_y1 l_y2 u_y2 l_y3 u_y3 l_y4 u_y4 l_y11 u_y11 l_y12 u_y12 l_y13 u_y13) mp_lkX10_267 8 rfl [8, 9] [0, 1, 2, 3, 4, 5, 6, 7] rfl rfl rfl rfl rfl ⟨(Nat.le_of_ble_eq_true rfl), (Nat.le_of_ble_eq_true rfl), (Nat.le_of_ble_eq_true rfl), (Nat.le_of_ble_eq_true rfl)⟩ (Nat.le_of_ble_eq_true rfl) (by first | exact mp_fd_ok mp_k_cX10_loves_ok (by decide +kernel) | decide +kernel) (fun v_22 w_23 h_24 => ?_)
    refine h_24.elim fun r_25 q_29 => q_29.elim fun e_30 q_31 => q_31.elim fun l_26 q_32 => q_32.elim fun u_27 q_33 => q_33.elim fun x_28 e_34 => ?_
    clear h_24 q_29 q_31 q_32 q_33
    subst e_30
    subst e_34
    show mp_W E X 10 54 [(4, .int r_12), (0, .ref a0), (1, .int x0), (2, .int x1), (3, .int x2)] [.int r_25] w5_ 0 0
    refine mp_run mp_k_cX10_loves_ok hF mp_tabX10_ok [mp_i (.istore 5), mp_c (.iconst 0) 0, mp_i (.istore 6)] (by decide +kernel) ?_
    show mp_W E X 10 59 [(6, .int 0), (5, .int r_25), (4, .int r_12), (0, .ref a0), (1, .int x0), (2, .int x1), (3, .int x2)] [] w5_ 0 0
    have lp_39 : ∀ (d_40 : Nat) (i_35 : Int32) (g_36 : Nat → Int32), 0 ≤ i_35.toInt → i_35.toInt ≤ 6 → -(i_35.toInt) + 6 ≤ (d_40 : Int) → mp_W E X 10 59 [(6, .int i_35), (5, .int r_25), (4, .int r_12), (0, .ref a0), (1, .int x0), (2, .int x1), (3, .int x2)] [] [(mp_arI E a2 0 180 f1), (mp_arI E a3 3 3000 f2), (mp_arI E a6 0 6 f5), (mp_arI E a8 0 6 g_36), (mp_arI E a9 0 6 f8), (mp_arI E a1 0 25 f0), (mp_arI E a4 0 90 f3), (mp_arI E a7 3 1500 f6), (mp_ob10 a0 y0 a10 a11 a12 a13 a14 y1 y2 y3 y4 y5 y6 y7 y8 y9 y10 a15 a1 a2 a3 a4 a5 a16 a17 y11 a6 a18 a19 a7 y12 y13 y14 a20 a21 1000000 (-1) a8 a9 a22 y17 y18 y19 y20 a23 a24 a25 y21), (mp_arI E a5 0 300 f4)] 0 0 := by
      intro d_40
      induction d_40 using Nat.strongRecOn with
      | ind d_40 ih_41 =>
        intro i_35 g_36 l_37 u_38 hm_42
        refine mp_run mp_k_cX10_loves_ok hF mp_tabX10_ok [mp_i (.iload 6), mp_c (.bipush 6) 6, mp_h (.if_icmp .ge 34) [97]] (by decide +kernel) ?_
        refine And.intro (fun c_43 => ?_) (fun c_43 => ?_)
        · have c_43 : 6 ≤ i_35.toInt := c_43
          let w6_ : va_W := [(mp_arI E a2 0 180 f1), (mp_arI E a3 3 3000 f2), (mp_arI E a6 0 6 f5), (mp_arI E a8 0 6 g_36), (mp_arI E a9 0 6 f8), (mp_arI E a1 0 25 f0), (mp_arI E a4 0 90 f3), (mp_arI E a7 3 1500 f6), (mp_ob10 a0 y0 a10 a11 a12 a13 a14 y1 y2 y3 y4 y5 y6 y7 y8 y9 y10 a15 a1 a2 a3 a4 a5 a16 a17 y11 a6 a18 a19 a7 y12 y13 y14 a20 a21 1000000 (-1) a8 a9 a22 y17 y18 y19 y20 a23 a24 a25 y21), (mp_arI E a5 0 300 f4)]
          show mp_W E X 10 97 [(6, .int i_35), (5, .int r_25), (4, .int r_12), (0, .ref a0), (1, .int x0), (2, .int x1), (3, .int x2)] [] w6_ 0 0
          refine mp_run mp_k_cX10_loves_ok hF mp_tabX10_ok [mp_c (.iconst 0) 0, mp_i (.istore 6)] (by decide +kernel) ?_
          show mp_W E X 10 100 [(6, .int 0), (5, .int r_25), (4, .int r_12), (0, .ref a0), (1, .int x0), (2, .int x1), (3, .int x2)] [] w6_ 0 0
          have lp_54 : ∀ (d_55 : Nat) (i_44 : Int32) (i_45 : Int32) (i_46 : Int32) (g_47 : Nat → Int32) (g_48 : Nat → Int32), 0 ≤ i_44.toInt → i_44.toInt ≤ 20 → i_45.toInt ≤ 1000000 → (-1) ≤ i_46.toInt → i_46.toInt ≤ 240 → x2.toInt - i_44.toInt + 1 ≤ (d_55 : Int) → mp_W E X 10 100 [(6, .int i_44), (5, .int r_25), (4, .int r_12), (0, .ref a0), (1, .int x0), (2, .int x1), (3, .int x2)] [] [(mp_arI E a2 0 180 f1), (mp_arI E a3 3 3000 f2), (mp_arI E a6 0 6 f5), (mp_arI E a8 0 6 g_47), (mp_arI E a9 0 6 g_48), (mp_arI E a1 0 25 f0), (mp_arI E a4 0 90 f3), (mp_arI E a7 3 1500 f6), (mp_ob10 a0 y0 a10 a11 a12 a13 a14 y1 y2 y3 y4 y5 y6 y7 y8 y9 y10 a15 a1 a2 a3 a4 a5 a16 a17 y11 a6 a18 a19 a7 y12 y13 y14 a20 a21 i_45 i_46 a8 a9 a22 y17 y18 y19 y20 a23 a24 a25 y21), (mp_arI E a5 0 300 f4)] 0 0 := by
            intro d_55
            induction d_55 using Nat.strongRecOn with
            | ind d_55 ih_56 =>
              intro i_44 i_45 i_46 g_47 g_48 l_49 u_50 u_51 l_52 u_53 hm_57
              refine mp_run mp_k_cX10_loves_ok hF mp_tabX10_ok [mp_i (.iload 6), mp_i (.iload_n 3), mp_h (.if_icmp .gt 280) [383]] (by decide +kernel) ?_
              refine And.intro (fun c_58 => ?_) (fun c_58 => ?_)
              · have c_58 : x2.toInt < i_44.toInt := c_58
                let w7_ : va_W := [(mp_arI E a2 0 180 f1), (mp_arI E a3 3 3000 f2), (mp_arI E a6 0 6 f5), (mp_arI E a8 0 6 g_47), (mp_arI E a9 0 6 g_48), (mp_arI E a1 0 25 f0), (mp_arI E a4 0 90 f3), (mp_arI E a7 3 1500 f6), (mp_ob10 a0 y0 a10 a11 a12 a13 a14 y1 y2 y3 y4 y5 y6 y7 y8 y9 y10 a15 a1 a2 a3 a4 a5 a16 a17 y11 a6 a18 a19 a7 y12 y13 y14 a20 a21 i_45 i_46 a8 a9 a22 y17 y18 y19 y20 a23 a24 a25 y21), (mp_arI E a5 0 300 f4)]
                show mp_W E X 10 383 [(6, .int i_44), (5, .int r_25), (4, .int r_12), (0, .ref a0), (1, .int x0), (2, .int x1), (3, .int x2)] [] w7_ 0 0
                exact mp_vret hF hQ rfl (Nat.le_of_ble_eq_true rfl) (Nat.le_of_ble_eq_true rfl) [8, 5, 0, 1, 6, 9, 2, 7, 3, 4] (w' := [(mp_ob10 a0 y0 a10 a11 a12 a13 a14 y1 y2 y3 y4 y5 y6 y7 y8 y9 y10 a15 a1 a2 a3 a4 a5 a16 a17 y11 a6 a18 a19 a7 y12 y13 y14 a20 a21 i_45 i_46 a8 a9 a22 y17 y18 y19 y20 a23 a24 a25 y21), (mp_arI E a1 0 25 f0), (mp_arI E a2 0 180 f1), (mp_arI E a3 3 3000 f2), (mp_arI E a4 0 90 f3), (mp_arI E a5 0 300 f4), (mp_arI E a6 0 6 f5), (mp_arI E a7 3 1500 f6), (mp_arI E a8 0 6 g_47), (mp_arI E a9 0 6 g_48)]) rfl rfl ⟨i_45, i_46, g_47, g_48, rfl, u_51, l_52, u_53, rfl⟩ (by first | exact mp_fd_ok mp_k_cX10_loves_ok (by decide +kernel) | decide +kernel)
              · have c_58 : i_44.toInt ≤ x2.toInt := c_58
                let w8_ : va_W := [(mp_arI E a2 0 180 f1), (mp_arI E a3 3 3000 f2), (mp_arI E a6 0 6 f5), (mp_arI E a8 0 6 g_47), (mp_arI E a9 0 6 g_48), (mp_arI E a1 0 25 f0), (mp_arI E a4 0 90 f3), (mp_arI E a7 3 1500 f6), (mp_ob10 a0 y0 a10 a11 a12 a13 a14 y1 y2 y3 y4 y5 y6 y7 y8 y9 y10 a15 a1 a2 a3 a4 a5 a16 a17 y11 a6 a18 a19 a7 y12 y13 y14 a20 a21 i_45 i_46 a8 a9 a22 y17 y18 y19 y20 a23 a24 a25 y21), (mp_arI E a5 0 300 f4)]
                show mp_W E X 10 106 [(6, .int i_44), (5, .int r_25), (4, .int r_12), (0, .ref a0), (1, .int x0), (2, .int x1), (3, .int x2)] [] w8_ 0 0
                refine mp_run mp_k_cX10_loves_ok hF mp_tabX10_ok [mp_i (.aload_n 0), mp_h (.getfield 276) [24, 8], mp_i (.iload 6), mp_i .iadd, mp_i (.istore 7)] (by decide +kernel) ?_
                refine And.intro rfl (And.intro rfl ?_)
                intro z_59 h_60
                have e_61 : z_59.toInt = y11.toInt + i_44.toInt := mp_add (a := y11.toInt) (b := i_44.toInt) h_60 rfl rfl (by (first | exact mp_o116 l_y11 l_49 | omega)) (by (first | exact mp_o611 q0 c_58 | omega))
                show mp_W E X 10 115 [(7, .int z_59), (6, .int i_44), (5, .int r_25), (4, .int r_12), (0, .ref a0), (1, .int x0), (2, .int x1), (3, .int x2)] [] w8_ 0 0
                have jp_64 : ∀ (g_62 : Nat → Int32) (g_63 : Nat → Int32), mp_W E X 10 294 [(7, .int z_59), (6, .int i_44), (5, .int r_25), (4, .int r_12), (0, .ref a0), (1, .int x0), (2, .int x1), (3, .int x2)] [] [(mp_arI E a2 0 180 f1), (mp_arI E a3 3 3000 f2), (mp_arI E a6 0 6 f5), (mp_arI E a8 0 6 g_62), (mp_arI E a9 0 6 g_63), (mp_arI E a1 0 25 f0), (mp_arI E a4 0 90 f3), (mp_arI E a7 3 1500 f6), (mp_ob10 a0 y0 a10 a11 a12 a13 a14 y1 y2 y3 y4 y5 y6 y7 y8 y9 y10 a15 a1 a2 a3 a4 a5 a16 a17 y11 a6 a18 a19 a7 y12 y13 y14 a20 a21 i_45 i_46 a8 a9 a22 y17 y18 y19 y20 a23 a24 a25 y21), (mp_arI E a5 0 300 f4)] 0 0 := by
                  intro g_62 g_63
                  have jp_70 : ∀ (i_65 : Int32) (i_66 : Int32), i_65.toInt ≤ 1000000 → (-1) ≤ i_66.toInt → i_66.toInt ≤ 240 → mp_W E X 10 377 [(7, .int z_59), (6, .int i_44), (5, .int r_25), (4, .int r_12), (0, .ref a0), (1, .int x0), (2, .int x1), (3, .int x2)] [] [(mp_arI E a2 0 180 f1), (mp_arI E a3 3 3000 f2), (mp_arI E a6 0 6 f5), (mp_arI E a8 0 6 g_62), (mp_arI E a9 0 6 g_63), (mp_arI E a1 0 25 f0), (mp_arI E a4 0 90 f3), (mp_arI E a7 3 1500 f6), (mp_ob10 a0 y0 a10 a11 a12 a13 a14 y1 y2 y3 y4 y5 y6 y7 y8 y9 y10 a15 a1 a2 a3 a4 a5 a16 a17 y11 a6 a18 a19 a7 y12 y13 y14 a20 a21 i_65 i_66 a8 a9 a22 y17 y18 y19 y20 a23 a24 a25 y21), (mp_arI E a5 0 300 f4)] 0 0 := by
                    intro i_65 i_66 u_67 l_68 u_69
                    refine mp_run mp_k_cX10_loves_ok hF mp_tabX10_ok [mp_c (.iinc 6 1) 1, mp_h (.goto (-280)) [100]] (by decide +kernel) ?_
                    intro z_71 h_72
                    have e_73 : z_71.toInt = i_44.toInt + 1 := mp_add (a := i_44.toInt) (b := 1) h_72 rfl (by decide) (by (first | exact mp_o2 l_49 | omega)) (by (first | exact mp_o612 u_50 | omega))
                    let w9_ : va_W := [(mp_arI E a2 0 180 f1), (mp_arI E a3 3 3000 f2), (mp_arI E a6 0 6 f5), (mp_arI E a8 0 6 g_62), (mp_arI E a9 0 6 g_63), (mp_arI E a1 0 25 f0), (mp_arI E a4 0 90 f3), (mp_arI E a7 3 1500 f6), (mp_ob10 a0 y0 a10 a11 a12 a13 a14 y1 y2 y3 y4 y5 y6 y7 y8 y9 y10 a15 a1 a2 a3 a4 a5 a16 a17 y11 a6 a18 a19 a7 y12 y13 y14 a20 a21 i_65 i_66 a8 a9 a22 y17 y18 y19 y20 a23 a24 a25 y21), (mp_arI E a5 0 300 f4)]
                    show mp_W E X 10 100 [(6, .int z_71), (7, .int z_59), (5, .int r_25), (4, .int r_12), (0, .ref a0), (1, .int x0), (2, .int x1), (3, .int x2)] [] w9_ 0 0
                    exact mp_sub [0, 2, 3, 4, 5, 6, 7] rfl [0, 1, 2, 3, 4, 5, 6, 7, 8, 9] rfl rfl (ih_56 (d_55 - 1) (by (first | exact mp_o586 hm_57 c_58 | omega)) z_71 i_65 i_66 g_62 g_63 (by (first | exact mp_o51 l_49 e_73 | omega)) (by (first | exact mp_o613 u_x2 c_58 e_73 | omega)) u_67 l_68 u_69 (by (first | exact mp_o588 hm_57 e_73 | omega)))
                  refine mp_run mp_k_cX10_loves_ok hF mp_tabX10_ok [mp_i (.aload_n 0), mp_i (.iload 4), mp_i (.iload 7)] (by decide +kernel) ?_
                  let w10_ : va_W := [(mp_arI E a2 0 180 f1), (mp_arI E a3 3 3000 f2), (mp_arI E a6 0 6 f5), (mp_arI E a8 0 6 g_62), (mp_arI E a9 0 6 g_63), (mp_arI E a1 0 25 f0), (mp_arI E a4 0 90 f3), (mp_arI E a7 3 1500 f6), (mp_ob10 a0 y0 a10 a11 a12 a13 a14 y1 y2 y3 y4 y5 y6 y7 y8 y9 y10 a15 a1 a2 a3 a4 a5 a16 a17 y11 a6 a18 a19 a7 y12 y13 y14 a20 a21 i_45 i_46 a8 a9 a22 y17 y18 y19 y20 a23 a24 a25 y21), (mp_arI E a5 0 300 f4)]
                  show mp_W E X 10 299 [(7, .int z_59), (6, .int i_44), (5, .int r_25), (4, .int r_12), (0, .ref a0), (1, .int x0), (2, .int x1), (3, .int x2)] [.int z_59, .int r_12, .ref a0] w10_ 0 0
                  refine mp_callV hF (As := [.int r_12, .int z_59]) (rest := []) (wr := [(mp_arI E a2 0 180 f1), (mp_arI E a3 3 3000 f2), (mp_arI E a6 0 6 f5), (mp_arI E a8 0 6 g_62), (mp_arI E a9 0 6 g_63), (mp_arI E a1 0 25 f0), (mp_arI E a7 3 1500 f6), (mp_arI E a5 0 300 f4)]) (bX10_isDead_91 E a0 a4 a10 a11 a12 a13 a14 a15 a1 a2 a3 a5 a16 a17 a6 a18 a19 a7 a20 a21 a8 a9 a22 a23 a24 a25 f3 y0 y1 y2 y3 y4 y5 y6 y7 y8 y9 y10 y11 y12 y13 y14 i_45 i_46 y17 y18 y19 y20 y21 r_12 z_59 p7 p8 l_13 u_14 l_y1 u_y1 l_y2 u_y2 l_y3 u_y3 l_y4 u_y4 l_y11 u_y11 l_y12 u_y12 l_y13 u_y13) mp_lkX10_315 8 rfl [8, 6] [0, 1, 2, 3, 4, 5, 7, 9] rfl rfl rfl rfl rfl ⟨(Nat.le_of_ble_eq_true rfl), (Nat.le_of_ble_eq_true rfl), (Nat.le_of_ble_eq_true rfl), (Nat.le_of_ble_eq_true rfl)⟩ (Nat.le_of_ble_eq_true rfl) (by first | exact mp_fd_ok mp_k_cX10_loves_ok (by decide +kernel) | decide +kernel) (fun v_74 w_75 h_76 => ?_)
                  rcases h_76 with ⟨rfl, x_77, rfl⟩ | ⟨rfl, x_78, rfl⟩
                  · skip
                    rw [x_15] at x_77
                    let w11_ : va_W := [(mp_arI E a2 0 180 f1), (mp_arI E a3 3 3000 f2), (mp_arI E a6 0 6 f5), (mp_arI E a8 0 6 g_62), (mp_arI E a9 0 6 g_63), (mp_arI E a1 0 25 f0), (mp_arI E a7 3 1500 f6), (mp_arI E a5 0 300 f4), (mp_ob10 a0 y0 a10 a11 a12 a13 a14 y1 y2 y3 y4 y5 y6 y7 y8 y9 y10 a15 a1 a2 a3 a4 a5 a16 a17 y11 a6 a18 a19 a7 y12 y13 y14 a20 a21 i_45 i_46 a8 a9 a22 y17 y18 y19 y20 a23 a24 a25 y21), (mp_arI E a4 0 90 f3)]
                    show mp_W E X 10 302 [(7, .int z_59), (6, .int i_44), (5, .int r_25), (4, .int r_12), (0, .ref a0), (1, .int x0), (2, .int x1), (3, .int x2)] [.int 0] w11_ 0 0
                    refine mp_run mp_k_cX10_loves_ok hF mp_tabX10_ok [mp_h (.ifCond .ne 75) [377]] (by decide +kernel) ?_
                    refine And.intro (fun c_79 => absurd c_79 (by decide)) (fun _ => ?_)
                    show mp_W E X 10 305 [(7, .int z_59), (6, .int i_44), (5, .int r_25), (4, .int r_12), (0, .ref a0), (1, .int x0), (2, .int x1), (3, .int x2)] [] w11_ 0 0
                    refine mp_run mp_k_cX10_loves_ok hF mp_tabX10_ok [mp_i (.aload_n 0), mp_i (.iload 5), mp_i (.iload 7)] (by decide +kernel) ?_
                    show mp_W E X 10 310 [(7, .int z_59), (6, .int i_44), (5, .int r_25), (4, .int r_12), (0, .ref a0), (1, .int x0), (2, .int x1), (3, .int x2)] [.int z_59, .int r_25, .ref a0] w11_ 0 0
                    refine mp_callV hF (As := [.int r_25, .int z_59]) (rest := []) (wr := [(mp_arI E a2 0 180 f1), (mp_arI E a3 3 3000 f2), (mp_arI E a6 0 6 f5), (mp_arI E a8 0 6 g_62), (mp_arI E a9 0 6 g_63), (mp_arI E a1 0 25 f0), (mp_arI E a7 3 1500 f6), (mp_arI E a5 0 300 f4)]) (bX10_isDead_91 E a0 a4 a10 a11 a12 a13 a14 a15 a1 a2 a3 a5 a16 a17 a6 a18 a19 a7 a20 a21 a8 a9 a22 a23 a24 a25 f3 y0 y1 y2 y3 y4 y5 y6 y7 y8 y9 y10 y11 y12 y13 y14 i_45 i_46 y17 y18 y19 y20 y21 r_25 z_59 p7 p8 l_26 u_27 l_y1 u_y1 l_y2 u_y2 l_y3 u_y3 l_y4 u_y4 l_y11 u_y11 l_y12 u_y12 l_y13 u_y13) mp_lkX10_315 8 rfl [8, 9] [0, 1, 2, 3, 4, 5, 6, 7] rfl rfl rfl rfl rfl ⟨(Nat.le_of_ble_eq_true rfl), (Nat.le_of_ble_eq_true rfl), (Nat.le_of_ble_eq_true rfl), (Nat.le_of_ble_eq_true rfl)⟩ (Nat.le_of_ble_eq_true rfl) (by first | exact mp_fd_ok mp_k_cX10_loves_ok (by decide +kernel) | decide +kernel) (fun v_80 w_81 h_82 => ?_)
                    rcases h_82 with ⟨rfl, x_83, rfl⟩ | ⟨rfl, x_84, rfl⟩
                    · skip
                      rw [x_28] at x_83
                      show mp_W E X 10 313 [(7, .int z_59), (6, .int i_44), (5, .int r_25), (4, .int r_12), (0, .ref a0), (1, .int x0), (2, .int x1), (3, .int x2)] [.int 0] w11_ 0 0
                      refine mp_run mp_k_cX10_loves_ok hF mp_tabX10_ok [mp_h (.ifCond .ne 64) [377]] (by decide +kernel) ?_
                      refine And.intro (fun c_85 => absurd c_85 (by decide)) (fun _ => ?_)
                      show mp_W E X 10 316 [(7, .int z_59), (6, .int i_44), (5, .int r_25), (4, .int r_12), (0, .ref a0), (1, .int x0), (2, .int x1), (3, .int x2)] [] w11_ 0 0
                      refine mp_run mp_k_cX10_loves_ok hF mp_tabX10_ok [mp_i (.aload_n 0), mp_i (.iload_n 1), mp_i (.iload 7), mp_i (.aload_n 0), mp_h (.getfield 276) [24, 8], mp_i (.iload_n 3), mp_i .iadd] (by decide +kernel) ?_
                      refine And.intro rfl (And.intro rfl ?_)
                      intro z_86 h_87
                      have e_88 : z_86.toInt = y11.toInt + x2.toInt := mp_add (a := y11.toInt) (b := x2.toInt) h_87 rfl rfl (by (first | exact mp_o116 l_y11 l_x2 | omega)) (by (first | exact mp_o607 q0 | omega))
                      show mp_W E X 10 326 [(7, .int z_59), (6, .int i_44), (5, .int r_25), (4, .int r_12), (0, .ref a0), (1, .int x0), (2, .int x1), (3, .int x2)] [.int z_86, .int z_59, .int x0, .ref a0] w11_ 0 0
                      refine mp_callV hF (As := [.int x0, .int z_59, .int z_86]) (rest := []) (wr := [(mp_arI E a2 0 180 f1), (mp_arI E a3 3 3000 f2), (mp_arI E a6 0 6 f5), (mp_arI E a8 0 6 g_62), (mp_arI E a9 0 6 g_63)]) (bX10_worthSaid_122 E a0 a1 a4 a5 a7 a10 a11 a12 a13 a14 a15 a2 a3 a16 a17 a6 a18 a19 a20 a21 a8 a9 a22 a23 a24 a25 f0 f3 f4 f6 y0 y1 y2 y3 y4 y5 y6 y7 y8 y9 y10 y11 y12 y13 y14 i_45 i_46 y17 y18 y19 y20 y21 x0 z_59 z_86 p0 p1 p2 p3 p4 p7 p8 p9 p10 p11 p12 l_x0 u_x0 (by (first | exact mp_o1706 l_y11 l_49 e_61 | omega)) (by (first | exact mp_o1707 q0 c_58 e_61 | omega)) (by (first | exact mp_o755 l_x2 l_y11 e_88 | omega)) (by (first | exact mp_o1708 q0 e_88 | omega)) l_y1 u_y1 l_y2 u_y2 l_y3 u_y3 l_y4 u_y4 l_y11 u_y11 l_y12 u_y12 l_y13 u_y13 (by first | assumption | (rw [rfl]; assumption)) (by (first | exact q2 | omega))) mp_lkX10_387 8 rfl [8, 5, 9, 7, 6] [0, 1, 2, 3, 4] rfl rfl rfl rfl rfl ⟨(Nat.le_of_ble_eq_true rfl), (Nat.le_of_ble_eq_true rfl), (Nat.le_of_ble_eq_true rfl), (Nat.le_of_ble_eq_true rfl)⟩ (Nat.le_of_ble_eq_true rfl) (by first | exact mp_fd_ok mp_k_cX10_loves_ok (by decide +kernel) | decide +kernel) (fun v_89 w_90 h_91 => ?_)
                      obtain ⟨r_92, rfl, rfl⟩ := h_91
                      let w12_ : va_W := [(mp_arI E a2 0 180 f1), (mp_arI E a3 3 3000 f2), (mp_arI E a6 0 6 f5), (mp_arI E a8 0 6 g_62), (mp_arI E a9 0 6 g_63), (mp_ob10 a0 y0 a10 a11 a12 a13 a14 y1 y2 y3 y4 y5 y6 y7 y8 y9 y10 a15 a1 a2 a3 a4 a5 a16 a17 y11 a6 a18 a19 a7 y12 y13 y14 a20 a21 i_45 i_46 a8 a9 a22 y17 y18 y19 y20 a23 a24 a25 y21), (mp_arI E a1 0 25 f0), (mp_arI E a4 0 90 f3), (mp_arI E a5 0 300 f4), (mp_arI E a7 3 1500 f6)]
                      show mp_W E X 10 329 [(7, .int z_59), (6, .int i_44), (5, .int r_25), (4, .int r_12), (0, .ref a0), (1, .int x0), (2, .int x1), (3, .int x2)] [.int r_92] w12_ 0 0
                      refine mp_run mp_k_cX10_loves_ok hF mp_tabX10_ok [mp_i (.iload_n 2), mp_h (.if_icmp .lt 47) [377]] (by decide +kernel) ?_
                      refine And.intro (fun c_93 => ?_) (fun c_93 => ?_)
                      · have c_93 : r_92.toInt < x1.toInt := c_93
                        show mp_W E X 10 377 [(7, .int z_59), (6, .int i_44), (5, .int r_25), (4, .int r_12), (0, .ref a0), (1, .int x0), (2, .int x1), (3, .int x2)] [] w12_ 0 0
                        exact mp_sub [0, 1, 2, 3, 4, 5, 6, 7] rfl [0, 1, 2, 3, 4, 6, 7, 9, 5, 8] rfl rfl (jp_70 i_45 i_46 u_51 l_52 u_53)
                      · have c_93 : x1.toInt ≤ r_92.toInt := c_93
                        show mp_W E X 10 333 [(7, .int z_59), (6, .int i_44), (5, .int r_25), (4, .int r_12), (0, .ref a0), (1, .int x0), (2, .int x1), (3, .int x2)] [] w12_ 0 0
                        refine mp_run mp_k_cX10_loves_ok hF mp_tabX10_ok [mp_i (.aload_n 0), mp_h (.getfield 74) [36, 5], mp_i (.aload_n 0), mp_h (.getfield 56) [25, 5], mp_i (.iload 5), mp_h .iaload [2], mp_h .iaload [3], mp_i (.aload_n 0), mp_h (.getfield 381) [34, 5], mp_h (.if_icmp .lt 6) [355]] (by decide +kernel) ?_
                        refine And.intro rfl (And.intro rfl ?_)
                        refine And.intro rfl (And.intro rfl ?_)
                        refine And.intro rfl (And.intro rfl (And.intro (vp_in_iff.mpr (by (first | exact mp_o230 l_26 u_27 | omega))) ?_))
                        intro z_94 h_95
                        have e_96 : 0 ≤ z_94.toInt ∧ z_94.toInt ≤ 5 := mp_all_ld h_95 p13 (by (first | exact l_26 | omega)) (by (first | exact mp_o475 u_27 | omega))
                        refine And.intro rfl (And.intro rfl (And.intro (vp_in_iff.mpr (by (first | exact mp_o422 e_96 | omega))) ?_))
                        intro z_97 h_98
                        refine And.intro rfl (And.intro rfl ?_)
                        refine And.intro (fun c_99 => ?_) (fun c_99 => ?_)
                        · have c_99 : z_97.toInt < i_45.toInt := c_99
                          show mp_W E X 10 355 [(7, .int z_59), (6, .int i_44), (5, .int r_25), (4, .int r_12), (0, .ref a0), (1, .int x0), (2, .int x1), (3, .int x2)] [] w12_ 0 0
                          refine mp_run mp_k_cX10_loves_ok hF mp_tabX10_ok [mp_i (.aload_n 0), mp_i (.aload_n 0), mp_h (.getfield 74) [36, 5], mp_i (.aload_n 0), mp_h (.getfield 56) [25, 5], mp_i (.iload 5), mp_h .iaload [2], mp_h .iaload [3], mp_h (.putfield 381) [34, 5]] (by decide +kernel) ?_
                          refine And.intro rfl (And.intro rfl ?_)
                          refine And.intro rfl (And.intro rfl ?_)
                          refine And.intro rfl (And.intro rfl (And.intro (vp_in_iff.mpr (by (first | exact mp_o230 l_26 u_27 | omega))) ?_))
                          intro z_100 h_101
                          have k_102 : z_94 = z_100 := h_95.trans h_101.symm
                          subst k_102
                          refine And.intro rfl (And.intro rfl (And.intro (vp_in_iff.mpr (by (first | exact mp_o422 e_96 | omega))) ?_))
                          intro z_103 h_104
                          have k_105 : z_97 = z_103 := h_98.trans h_104.symm
                          subst k_105
                          refine And.intro rfl (And.intro rfl (And.intro rfl (And.intro rfl (And.intro (Nat.le_of_ble_eq_true rfl) ?_))))
                          let w13_ : va_W := [(mp_arI E a2 0 180 f1), (mp_arI E a3 3 3000 f2), (mp_arI E a6 0 6 f5), (mp_arI E a8 0 6 g_62), (mp_arI E a9 0 6 g_63), (mp_ob10 a0 y0 a10 a11 a12 a13 a14 y1 y2 y3 y4 y5 y6 y7 y8 y9 y10 a15 a1 a2 a3 a4 a5 a16 a17 y11 a6 a18 a19 a7 y12 y13 y14 a20 a21 z_97 i_46 a8 a9 a22 y17 y18 y19 y20 a23 a24 a25 y21), (mp_arI E a1 0 25 f0), (mp_arI E a4 0 90 f3), (mp_arI E a5 0 300 f4), (mp_arI E a7 3 1500 f6)]
                          show mp_W E X 10 371 [(7, .int z_59), (6, .int i_44), (5, .int r_25), (4, .int r_12), (0, .ref a0), (1, .int x0), (2, .int x1), (3, .int x2)] [] w13_ 0 0
                          refine mp_run mp_k_cX10_loves_ok hF mp_tabX10_ok [mp_i (.aload_n 0), mp_i (.iload 7), mp_h (.putfield 384) [35, 5]] (by decide +kernel) ?_
                          refine And.intro rfl (And.intro rfl (And.intro rfl (And.intro rfl (And.intro (Nat.le_of_ble_eq_true rfl) ?_))))
                          let w14_ : va_W := [(mp_arI E a2 0 180 f1), (mp_arI E a3 3 3000 f2), (mp_arI E a6 0 6 f5), (mp_arI E a8 0 6 g_62), (mp_arI E a9 0 6 g_63), (mp_ob10 a0 y0 a10 a11 a12 a13 a14 y1 y2 y3 y4 y5 y6 y7 y8 y9 y10 a15 a1 a2 a3 a4 a5 a16 a17 y11 a6 a18 a19 a7 y12 y13 y14 a20 a21 z_97 z_59 a8 a9 a22 y17 y18 y19 y20 a23 a24 a25 y21), (mp_arI E a1 0 25 f0), (mp_arI E a4 0 90 f3), (mp_arI E a5 0 300 f4), (mp_arI E a7 3 1500 f6)]
                          show mp_W E X 10 377 [(7, .int z_59), (6, .int i_44), (5, .int r_25), (4, .int r_12), (0, .ref a0), (1, .int x0), (2, .int x1), (3, .int x2)] [] w14_ 0 0
                          exact mp_sub [0, 1, 2, 3, 4, 5, 6, 7] rfl [0, 1, 2, 3, 4, 6, 7, 9, 5, 8] rfl rfl (jp_70 z_97 z_59 (by (first | exact mp_o1709 u_51 c_99 | omega)) (by (first | exact mp_o614 l_y11 l_49 e_61 | omega)) (by (first | exact mp_o615 q0 c_58 e_61 | omega)))
                        · have c_99 : i_45.toInt ≤ z_97.toInt := c_99
                          show mp_W E X 10 352 [(7, .int z_59), (6, .int i_44), (5, .int r_25), (4, .int r_12), (0, .ref a0), (1, .int x0), (2, .int x1), (3, .int x2)] [] w12_ 0 0
                          refine mp_run mp_k_cX10_loves_ok hF mp_tabX10_ok [mp_h (.goto 25) [377]] (by decide +kernel) ?_
                          show mp_W E X 10 377 [(7, .int z_59), (6, .int i_44), (5, .int r_25), (4, .int r_12), (0, .ref a0), (1, .int x0), (2, .int x1), (3, .int x2)] [] w12_ 0 0
                          exact mp_sub [0, 1, 2, 3, 4, 5, 6, 7] rfl [0, 1, 2, 3, 4, 6, 7, 9, 5, 8] rfl rfl (jp_70 i_45 i_46 u_51 l_52 u_53)
                    · skip
                      rw [x_28] at x_84
                      show mp_W E X 10 313 [(7, .int z_59), (6, .int i_44), (5, .int r_25), (4, .int r_12), (0, .ref a0), (1, .int x0), (2, .int x1), (3, .int x2)] [.int 1] w11_ 0 0
                      refine mp_run mp_k_cX10_loves_ok hF mp_tabX10_ok [mp_h (.ifCond .ne 64) [377]] (by decide +kernel) ?_
                      refine And.intro (fun _ => ?_) (fun c_106 => absurd c_106 (by decide))
                      show mp_W E X 10 377 [(7, .int z_59), (6, .int i_44), (5, .int r_25), (4, .int r_12), (0, .ref a0), (1, .int x0), (2, .int x1), (3, .int x2)] [] w11_ 0 0
                      exact mp_sub [0, 1, 2, 3, 4, 5, 6, 7] rfl [0, 1, 2, 3, 4, 5, 9, 6, 8, 7] rfl rfl (jp_70 i_45 i_46 u_51 l_52 u_53)
                  · skip
                    rw [x_15] at x_78
                    let w15_ : va_W := [(mp_arI E a2 0 180 f1), (mp_arI E a3 3 3000 f2), (mp_arI E a6 0 6 f5), (mp_arI E a8 0 6 g_62), (mp_arI E a9 0 6 g_63), (mp_arI E a1 0 25 f0), (mp_arI E a7 3 1500 f6), (mp_arI E a5 0 300 f4), (mp_ob10 a0 y0 a10 a11 a12 a13 a14 y1 y2 y3 y4 y5 y6 y7 y8 y9 y10 a15 a1 a2 a3 a4 a5 a16 a17 y11 a6 a18 a19 a7 y12 y13 y14 a20 a21 i_45 i_46 a8 a9 a22 y17 y18 y19 y20 a23 a24 a25 y21), (mp_arI E a4 0 90 f3)]
                    show mp_W E X 10 302 [(7, .int z_59), (6, .int i_44), (5, .int r_25), (4, .int r_12), (0, .ref a0), (1, .int x0), (2, .int x1), (3, .int x2)] [.int 1] w15_ 0 0
                    refine mp_run mp_k_cX10_loves_ok hF mp_tabX10_ok [mp_h (.ifCond .ne 75) [377]] (by decide +kernel) ?_
                    refine And.intro (fun _ => ?_) (fun c_107 => absurd c_107 (by decide))
                    show mp_W E X 10 377 [(7, .int z_59), (6, .int i_44), (5, .int r_25), (4, .int r_12), (0, .ref a0), (1, .int x0), (2, .int x1), (3, .int x2)] [] w15_ 0 0
                    exact mp_sub [0, 1, 2, 3, 4, 5, 6, 7] rfl [0, 1, 2, 3, 4, 5, 9, 6, 8, 7] rfl rfl (jp_70 i_45 i_46 u_51 l_52 u_53)
                refine mp_run mp_k_cX10_loves_ok hF mp_tabX10_ok [mp_i (.iload 6), mp_h (.ifCond .le 177) [294]] (by decide +kernel) ?_
                refine And.intro (fun c_108 => ?_) (fun c_108 => ?_)
                · have c_108 : i_44.toInt ≤ 0 := c_108
                  show mp_W E X 10 294 [(7, .int z_59), (6, .int i_44), (5, .int r_25), (4, .int r_12), (0, .ref a0), (1, .int x0), (2, .int x1), (3, .int x2)] [] w8_ 0 0
                  exact mp_sub [0, 1, 2, 3, 4, 5, 6, 7] rfl [0, 1, 2, 3, 4, 5, 6, 7, 8, 9] rfl rfl (jp_64 g_47 g_48)
                · have c_108 : 0 < i_44.toInt := c_108
                  show mp_W E X 10 120 [(7, .int z_59), (6, .int i_44), (5, .int r_25), (4, .int r_12), (0, .ref a0), (1, .int x0), (2, .int x1), (3, .int x2)] [] w8_ 0 0
                  refine mp_run mp_k_cX10_loves_ok hF mp_tabX10_ok [mp_c (.iconst 0) 0, mp_i (.istore 8)] (by decide +kernel) ?_
                  show mp_W E X 10 123 [(8, .int 0), (7, .int z_59), (6, .int i_44), (5, .int r_25), (4, .int r_12), (0, .ref a0), (1, .int x0), (2, .int x1), (3, .int x2)] [] w8_ 0 0
                  have lp_113 : ∀ (d_114 : Nat) (i_109 : Int32) (g_110 : Nat → Int32), 0 ≤ i_109.toInt → i_109.toInt ≤ 6 → (f0 0).toInt - i_109.toInt ≤ (d_114 : Int) → mp_W E X 10 123 [(8, .int i_109), (7, .int z_59), (6, .int i_44), (5, .int r_25), (4, .int r_12), (0, .ref a0), (1, .int x0), (2, .int x1), (3, .int x2)] [] [(mp_arI E a2 0 180 f1), (mp_arI E a3 3 3000 f2), (mp_arI E a6 0 6 f5), (mp_arI E a8 0 6 g_47), (mp_arI E a9 0 6 g_110), (mp_arI E a1 0 25 f0), (mp_arI E a4 0 90 f3), (mp_arI E a7 3 1500 f6), (mp_ob10 a0 y0 a10 a11 a12 a13 a14 y1 y2 y3 y4 y5 y6 y7 y8 y9 y10 a15 a1 a2 a3 a4 a5 a16 a17 y11 a6 a18 a19 a7 y12 y13 y14 a20 a21 i_45 i_46 a8 a9 a22 y17 y18 y19 y20 a23 a24 a25 y21), (mp_arI E a5 0 300 f4)] 0 0 := by
                    intro d_114
                    induction d_114 using Nat.strongRecOn with
                    | ind d_114 ih_115 =>
                      intro i_109 g_110 l_111 u_112 hm_116
                      refine mp_run mp_k_cX10_loves_ok hF mp_tabX10_ok [mp_i (.iload 8), mp_i (.aload_n 0), mp_h (.getfield 34) [17, 8], mp_c (.iconst 0) 0, mp_h .iaload [5], mp_h (.if_icmp .ge 129) [260]] (by decide +kernel) ?_
                      refine And.intro rfl (And.intro rfl ?_)
                      refine And.intro rfl (And.intro rfl (And.intro (vp_in_iff.mpr (by decide)) ?_))
                      intro z_117 h_118
                      have e_119 : 0 ≤ z_117.toInt ∧ z_117.toInt ≤ 6 := mp_res_ld h_118 p0 (by decide) (by decide) (by decide)
                      have e_120 : z_117.toInt = (f0 0).toInt := congrArg Int32.toInt (mp_at h_118 (by decide) rfl)
                      refine And.intro (fun c_121 => ?_) (fun c_121 => ?_)
                      · have c_121 : z_117.toInt ≤ i_109.toInt := c_121
                        let w16_ : va_W := [(mp_arI E a2 0 180 f1), (mp_arI E a3 3 3000 f2), (mp_arI E a6 0 6 f5), (mp_arI E a8 0 6 g_47), (mp_arI E a9 0 6 g_110), (mp_arI E a1 0 25 f0), (mp_arI E a4 0 90 f3), (mp_arI E a7 3 1500 f6), (mp_ob10 a0 y0 a10 a11 a12 a13 a14 y1 y2 y3 y4 y5 y6 y7 y8 y9 y10 a15 a1 a2 a3 a4 a5 a16 a17 y11 a6 a18 a19 a7 y12 y13 y14 a20 a21 i_45 i_46 a8 a9 a22 y17 y18 y19 y20 a23 a24 a25 y21), (mp_arI E a5 0 300 f4)]
                        show mp_W E X 10 260 [(8, .int i_109), (7, .int z_59), (6, .int i_44), (5, .int r_25), (4, .int r_12), (0, .ref a0), (1, .int x0), (2, .int x1), (3, .int x2)] [] w16_ 0 0
                        refine mp_run mp_k_cX10_loves_ok hF mp_tabX10_ok [mp_c (.iconst 0) 0, mp_i (.istore 8)] (by decide +kernel) ?_
                        show mp_W E X 10 263 [(8, .int 0), (7, .int z_59), (6, .int i_44), (5, .int r_25), (4, .int r_12), (0, .ref a0), (1, .int x0), (2, .int x1), (3, .int x2)] [] w16_ 0 0
                        have lp_126 : ∀ (d_127 : Nat) (i_122 : Int32) (g_123 : Nat → Int32), 0 ≤ i_122.toInt → i_122.toInt ≤ 6 → z_117.toInt - i_122.toInt ≤ (d_127 : Int) → mp_W E X 10 263 [(8, .int i_122), (7, .int z_59), (6, .int i_44), (5, .int r_25), (4, .int r_12), (0, .ref a0), (1, .int x0), (2, .int x1), (3, .int x2)] [] [(mp_arI E a2 0 180 f1), (mp_arI E a3 3 3000 f2), (mp_arI E a6 0 6 f5), (mp_arI E a8 0 6 g_123), (mp_arI E a9 0 6 g_110), (mp_arI E a1 0 25 f0), (mp_arI E a4 0 90 f3), (mp_arI E a7 3 1500 f6), (mp_ob10 a0 y0 a10 a11 a12 a13 a14 y1 y2 y3 y4 y5 y6 y7 y8 y9 y10 a15 a1 a2 a3 a4 a5 a16 a17 y11 a6 a18 a19 a7 y12 y13 y14 a20 a21 i_45 i_46 a8 a9 a22 y17 y18 y19 y20 a23 a24 a25 y21), (mp_arI E a5 0 300 f4)] 0 0 := by
                          intro d_127
                          induction d_127 using Nat.strongRecOn with
                          | ind d_127 ih_128 =>
                            intro i_122 g_123 l_124 u_125 hm_129
                            refine mp_run mp_k_cX10_loves_ok hF mp_tabX10_ok [mp_i (.iload 8), mp_i (.aload_n 0), mp_h (.getfield 34) [17, 8], mp_c (.iconst 0) 0, mp_h .iaload [5], mp_h (.if_icmp .ge 23) [294]] (by decide +kernel) ?_
                            refine And.intro rfl (And.intro rfl ?_)
                            refine And.intro rfl (And.intro rfl (And.intro (vp_in_iff.mpr (by decide)) ?_))
                            intro z_130 h_131
                            have k_132 : z_117 = z_130 := h_118.trans h_131.symm
                            subst k_132
                            refine And.intro (fun c_133 => ?_) (fun c_133 => ?_)
                            · have c_133 : z_117.toInt ≤ i_122.toInt := c_133
                              let w17_ : va_W := [(mp_arI E a2 0 180 f1), (mp_arI E a3 3 3000 f2), (mp_arI E a6 0 6 f5), (mp_arI E a8 0 6 g_123), (mp_arI E a9 0 6 g_110), (mp_arI E a1 0 25 f0), (mp_arI E a4 0 90 f3), (mp_arI E a7 3 1500 f6), (mp_ob10 a0 y0 a10 a11 a12 a13 a14 y1 y2 y3 y4 y5 y6 y7 y8 y9 y10 a15 a1 a2 a3 a4 a5 a16 a17 y11 a6 a18 a19 a7 y12 y13 y14 a20 a21 i_45 i_46 a8 a9 a22 y17 y18 y19 y20 a23 a24 a25 y21), (mp_arI E a5 0 300 f4)]
                              show mp_W E X 10 294 [(8, .int i_122), (7, .int z_59), (6, .int i_44), (5, .int r_25), (4, .int r_12), (0, .ref a0), (1, .int x0), (2, .int x1), (3, .int x2)] [] w17_ 0 0
                              exact mp_sub [1, 2, 3, 4, 5, 6, 7, 8] rfl [0, 1, 2, 3, 4, 5, 6, 7, 8, 9] rfl rfl (jp_64 g_123 g_110)
                            · have c_133 : i_122.toInt < z_117.toInt := c_133
                              let w18_ : va_W := [(mp_arI E a2 0 180 f1), (mp_arI E a3 3 3000 f2), (mp_arI E a6 0 6 f5), (mp_arI E a8 0 6 g_123), (mp_arI E a9 0 6 g_110), (mp_arI E a1 0 25 f0), (mp_arI E a4 0 90 f3), (mp_arI E a7 3 1500 f6), (mp_ob10 a0 y0 a10 a11 a12 a13 a14 y1 y2 y3 y4 y5 y6 y7 y8 y9 y10 a15 a1 a2 a3 a4 a5 a16 a17 y11 a6 a18 a19 a7 y12 y13 y14 a20 a21 i_45 i_46 a8 a9 a22 y17 y18 y19 y20 a23 a24 a25 y21), (mp_arI E a5 0 300 f4)]
                              show mp_W E X 10 274 [(8, .int i_122), (7, .int z_59), (6, .int i_44), (5, .int r_25), (4, .int r_12), (0, .ref a0), (1, .int x0), (2, .int x1), (3, .int x2)] [] w18_ 0 0
                              refine mp_run mp_k_cX10_loves_ok hF mp_tabX10_ok [mp_i (.aload_n 0), mp_h (.getfield 74) [36, 8], mp_i (.iload 8), mp_i (.aload_n 0), mp_h (.getfield 77) [37, 8], mp_i (.iload 8), mp_h .iaload [4], mp_h .iastore [3]] (by decide +kernel) ?_
                              refine And.intro rfl (And.intro rfl ?_)
                              refine And.intro rfl (And.intro rfl ?_)
                              refine And.intro rfl (And.intro rfl (And.intro (vp_in_iff.mpr (by (first | exact mp_o1484 l_124 c_133 e_119 | omega))) ?_))
                              intro z_134 h_135
                              refine And.intro rfl (And.intro rfl (And.intro (vp_in_iff.mpr (by (first | exact mp_o1484 l_124 c_133 e_119 | omega))) ?_))
                              intro g_136 h_137
                              let w19_ : va_W := [(mp_arI E a2 0 180 f1), (mp_arI E a3 3 3000 f2), (mp_arI E a6 0 6 f5), (mp_arI E a8 0 6 g_136), (mp_arI E a9 0 6 g_110), (mp_arI E a1 0 25 f0), (mp_arI E a4 0 90 f3), (mp_arI E a7 3 1500 f6), (mp_ob10 a0 y0 a10 a11 a12 a13 a14 y1 y2 y3 y4 y5 y6 y7 y8 y9 y10 a15 a1 a2 a3 a4 a5 a16 a17 y11 a6 a18 a19 a7 y12 y13 y14 a20 a21 i_45 i_46 a8 a9 a22 y17 y18 y19 y20 a23 a24 a25 y21), (mp_arI E a5 0 300 f4)]
                              show mp_W E X 10 288 [(8, .int i_122), (7, .int z_59), (6, .int i_44), (5, .int r_25), (4, .int r_12), (0, .ref a0), (1, .int x0), (2, .int x1), (3, .int x2)] [] w19_ 0 0
                              refine mp_run mp_k_cX10_loves_ok hF mp_tabX10_ok [mp_c (.iinc 8 1) 1, mp_h (.goto (-28)) [263]] (by decide +kernel) ?_
                              intro z_138 h_139
                              have e_140 : z_138.toInt = i_122.toInt + 1 := mp_add (a := i_122.toInt) (b := 1) h_139 rfl (by decide) (by (first | exact mp_o2 l_124 | omega)) (by (first | exact mp_o351 u_125 | omega))
                              show mp_W E X 10 263 [(8, .int z_138), (7, .int z_59), (6, .int i_44), (5, .int r_25), (4, .int r_12), (0, .ref a0), (1, .int x0), (2, .int x1), (3, .int x2)] [] w19_ 0 0
                              exact mp_sub [0, 1, 2, 3, 4, 5, 6, 7, 8] rfl [0, 1, 2, 3, 4, 5, 6, 7, 8, 9] rfl rfl (ih_128 (d_127 - 1) (by (first | exact mp_o72 hm_129 c_133 | omega)) z_138 g_136 (by (first | exact mp_o51 l_124 e_140 | omega)) (by (first | exact mp_o1485 e_140 c_133 e_119 | omega)) (by (first | exact mp_o77 hm_129 e_140 | omega)))
                        exact mp_sub [0, 1, 2, 3, 4, 5, 6, 7, 8] rfl [0, 1, 2, 3, 4, 5, 6, 7, 8, 9] rfl rfl (lp_126 _ 0 g_47 (by decide) (by decide) (Int.self_le_toNat _))
                      · have c_121 : i_109.toInt < z_117.toInt := c_121
                        let w20_ : va_W := [(mp_arI E a2 0 180 f1), (mp_arI E a3 3 3000 f2), (mp_arI E a6 0 6 f5), (mp_arI E a8 0 6 g_47), (mp_arI E a9 0 6 g_110), (mp_arI E a1 0 25 f0), (mp_arI E a4 0 90 f3), (mp_arI E a7 3 1500 f6), (mp_ob10 a0 y0 a10 a11 a12 a13 a14 y1 y2 y3 y4 y5 y6 y7 y8 y9 y10 a15 a1 a2 a3 a4 a5 a16 a17 y11 a6 a18 a19 a7 y12 y13 y14 a20 a21 i_45 i_46 a8 a9 a22 y17 y18 y19 y20 a23 a24 a25 y21), (mp_arI E a5 0 300 f4)]
                        show mp_W E X 10 134 [(8, .int i_109), (7, .int z_59), (6, .int i_44), (5, .int r_25), (4, .int r_12), (0, .ref a0), (1, .int x0), (2, .int x1), (3, .int x2)] [] w20_ 0 0
                        refine mp_run mp_k_cX10_loves_ok hF mp_tabX10_ok [mp_i (.aload_n 0), mp_h (.getfield 77) [37, 8], mp_i (.iload 8), mp_i (.aload_n 0), mp_h (.getfield 74) [36, 8], mp_i (.iload 8), mp_h .iaload [3], mp_h .iastore [4]] (by decide +kernel) ?_
                        refine And.intro rfl (And.intro rfl ?_)
                        refine And.intro rfl (And.intro rfl ?_)
                        refine And.intro rfl (And.intro rfl (And.intro (vp_in_iff.mpr (by (first | exact mp_o1484 l_111 c_121 e_119 | omega))) ?_))
                        intro z_141 h_142
                        refine And.intro rfl (And.intro rfl (And.intro (vp_in_iff.mpr (by (first | exact mp_o1484 l_111 c_121 e_119 | omega))) ?_))
                        intro g_143 h_144
                        let w21_ : va_W := [(mp_arI E a2 0 180 f1), (mp_arI E a3 3 3000 f2), (mp_arI E a6 0 6 f5), (mp_arI E a8 0 6 g_47), (mp_arI E a9 0 6 g_143), (mp_arI E a1 0 25 f0), (mp_arI E a4 0 90 f3), (mp_arI E a7 3 1500 f6), (mp_ob10 a0 y0 a10 a11 a12 a13 a14 y1 y2 y3 y4 y5 y6 y7 y8 y9 y10 a15 a1 a2 a3 a4 a5 a16 a17 y11 a6 a18 a19 a7 y12 y13 y14 a20 a21 i_45 i_46 a8 a9 a22 y17 y18 y19 y20 a23 a24 a25 y21), (mp_arI E a5 0 300 f4)]
                        show mp_W E X 10 148 [(8, .int i_109), (7, .int z_59), (6, .int i_44), (5, .int r_25), (4, .int r_12), (0, .ref a0), (1, .int x0), (2, .int x1), (3, .int x2)] [] w21_ 0 0
                        refine mp_run mp_k_cX10_loves_ok hF mp_tabX10_ok [mp_c (.iconst 0) 0, mp_i (.istore 9)] (by decide +kernel) ?_
                        show mp_W E X 10 151 [(9, .int 0), (8, .int i_109), (7, .int z_59), (6, .int i_44), (5, .int r_25), (4, .int r_12), (0, .ref a0), (1, .int x0), (2, .int x1), (3, .int x2)] [] w21_ 0 0
                        have lp_149 : ∀ (d_150 : Nat) (i_145 : Int32) (g_146 : Nat → Int32), 0 ≤ i_145.toInt → i_145.toInt ≤ 6 → z_117.toInt - i_145.toInt ≤ (d_150 : Int) → mp_W E X 10 151 [(9, .int i_145), (8, .int i_109), (7, .int z_59), (6, .int i_44), (5, .int r_25), (4, .int r_12), (0, .ref a0), (1, .int x0), (2, .int x1), (3, .int x2)] [] [(mp_arI E a2 0 180 f1), (mp_arI E a3 3 3000 f2), (mp_arI E a6 0 6 f5), (mp_arI E a8 0 6 g_47), (mp_arI E a9 0 6 g_146), (mp_arI E a1 0 25 f0), (mp_arI E a4 0 90 f3), (mp_arI E a7 3 1500 f6), (mp_ob10 a0 y0 a10 a11 a12 a13 a14 y1 y2 y3 y4 y5 y6 y7 y8 y9 y10 a15 a1 a2 a3 a4 a5 a16 a17 y11 a6 a18 a19 a7 y12 y13 y14 a20 a21 i_45 i_46 a8 a9 a22 y17 y18 y19 y20 a23 a24 a25 y21), (mp_arI E a5 0 300 f4)] 0 0 := by
                          intro d_150
                          induction d_150 using Nat.strongRecOn with
                          | ind d_150 ih_151 =>
                            intro i_145 g_146 l_147 u_148 hm_152
                            refine mp_run mp_k_cX10_loves_ok hF mp_tabX10_ok [mp_i (.iload 9), mp_i (.aload_n 0), mp_h (.getfield 34) [17, 8], mp_c (.iconst 0) 0, mp_h .iaload [5], mp_h (.if_icmp .ge 95) [254]] (by decide +kernel) ?_
                            refine And.intro rfl (And.intro rfl ?_)
                            refine And.intro rfl (And.intro rfl (And.intro (vp_in_iff.mpr (by decide)) ?_))
                            intro z_153 h_154
                            have k_155 : z_117 = z_153 := h_118.trans h_154.symm
                            subst k_155
                            refine And.intro (fun c_156 => ?_) (fun c_156 => ?_)
                            · have c_156 : z_117.toInt ≤ i_145.toInt := c_156
                              let w22_ : va_W := [(mp_arI E a2 0 180 f1), (mp_arI E a3 3 3000 f2), (mp_arI E a6 0 6 f5), (mp_arI E a8 0 6 g_47), (mp_arI E a9 0 6 g_146), (mp_arI E a1 0 25 f0), (mp_arI E a4 0 90 f3), (mp_arI E a7 3 1500 f6), (mp_ob10 a0 y0 a10 a11 a12 a13 a14 y1 y2 y3 y4 y5 y6 y7 y8 y9 y10 a15 a1 a2 a3 a4 a5 a16 a17 y11 a6 a18 a19 a7 y12 y13 y14 a20 a21 i_45 i_46 a8 a9 a22 y17 y18 y19 y20 a23 a24 a25 y21), (mp_arI E a5 0 300 f4)]
                              show mp_W E X 10 254 [(9, .int i_145), (8, .int i_109), (7, .int z_59), (6, .int i_44), (5, .int r_25), (4, .int r_12), (0, .ref a0), (1, .int x0), (2, .int x1), (3, .int x2)] [] w22_ 0 0
                              refine mp_run mp_k_cX10_loves_ok hF mp_tabX10_ok [mp_c (.iinc 8 1) 1, mp_h (.goto (-134)) [123]] (by decide +kernel) ?_
                              intro z_157 h_158
                              have e_159 : z_157.toInt = i_109.toInt + 1 := mp_add (a := i_109.toInt) (b := 1) h_158 rfl (by decide) (by (first | exact mp_o2 l_111 | omega)) (by (first | exact mp_o351 u_112 | omega))
                              show mp_W E X 10 123 [(8, .int z_157), (9, .int i_145), (7, .int z_59), (6, .int i_44), (5, .int r_25), (4, .int r_12), (0, .ref a0), (1, .int x0), (2, .int x1), (3, .int x2)] [] w22_ 0 0
                              exact mp_sub [0, 2, 3, 4, 5, 6, 7, 8, 9] rfl [0, 1, 2, 3, 4, 5, 6, 7, 8, 9] rfl rfl (ih_115 (d_114 - 1) (by (first | exact mp_o1454 hm_116 e_120 c_121 | omega)) z_157 g_146 (by (first | exact mp_o51 l_111 e_159 | omega)) (by (first | exact mp_o1485 e_159 c_121 e_119 | omega)) (by (first | exact mp_o77 hm_116 e_159 | omega)))
                            · have c_156 : i_145.toInt < z_117.toInt := c_156
                              let w23_ : va_W := [(mp_arI E a2 0 180 f1), (mp_arI E a3 3 3000 f2), (mp_arI E a6 0 6 f5), (mp_arI E a8 0 6 g_47), (mp_arI E a9 0 6 g_146), (mp_arI E a1 0 25 f0), (mp_arI E a4 0 90 f3), (mp_arI E a7 3 1500 f6), (mp_ob10 a0 y0 a10 a11 a12 a13 a14 y1 y2 y3 y4 y5 y6 y7 y8 y9 y10 a15 a1 a2 a3 a4 a5 a16 a17 y11 a6 a18 a19 a7 y12 y13 y14 a20 a21 i_45 i_46 a8 a9 a22 y17 y18 y19 y20 a23 a24 a25 y21), (mp_arI E a5 0 300 f4)]
                              show mp_W E X 10 162 [(9, .int i_145), (8, .int i_109), (7, .int z_59), (6, .int i_44), (5, .int r_25), (4, .int r_12), (0, .ref a0), (1, .int x0), (2, .int x1), (3, .int x2)] [] w23_ 0 0
                              refine mp_run mp_k_cX10_loves_ok hF mp_tabX10_ok [mp_i (.aload_n 0), mp_h (.getfield 74) [36, 8], mp_i (.iload 9), mp_h .iaload [3], mp_c (.ldc 142) 1000000, mp_h (.if_icmp .ge 77) [248]] (by decide +kernel) ?_
                              refine And.intro rfl (And.intro rfl ?_)
                              refine And.intro rfl (And.intro rfl (And.intro (vp_in_iff.mpr (by (first | exact mp_o1484 l_147 c_156 e_119 | omega))) ?_))
                              intro z_160 h_161
                              refine And.intro (fun c_162 => ?_) (fun c_162 => ?_)
                              · have c_162 : 1000000 ≤ z_160.toInt := c_162
                                show mp_W E X 10 248 [(9, .int i_145), (8, .int i_109), (7, .int z_59), (6, .int i_44), (5, .int r_25), (4, .int r_12), (0, .ref a0), (1, .int x0), (2, .int x1), (3, .int x2)] [] w23_ 0 0
                                refine mp_run mp_k_cX10_loves_ok hF mp_tabX10_ok [mp_c (.iinc 9 1) 1, mp_h (.goto (-100)) [151]] (by decide +kernel) ?_
                                intro z_163 h_164
                                have e_165 : z_163.toInt = i_145.toInt + 1 := mp_add (a := i_145.toInt) (b := 1) h_164 rfl (by decide) (by (first | exact mp_o2 l_147 | omega)) (by (first | exact mp_o351 u_148 | omega))
                                show mp_W E X 10 151 [(9, .int z_163), (8, .int i_109), (7, .int z_59), (6, .int i_44), (5, .int r_25), (4, .int r_12), (0, .ref a0), (1, .int x0), (2, .int x1), (3, .int x2)] [] w23_ 0 0
                                exact mp_sub [0, 1, 2, 3, 4, 5, 6, 7, 8, 9] rfl [0, 1, 2, 3, 4, 5, 6, 7, 8, 9] rfl rfl (ih_151 (d_150 - 1) (by (first | exact mp_o72 hm_152 c_156 | omega)) z_163 g_146 (by (first | exact mp_o51 l_147 e_165 | omega)) (by (first | exact mp_o1485 e_165 c_156 e_119 | omega)) (by (first | exact mp_o77 hm_152 e_165 | omega)))
                              · have c_162 : z_160.toInt < 1000000 := c_162
                                show mp_W E X 10 174 [(9, .int i_145), (8, .int i_109), (7, .int z_59), (6, .int i_44), (5, .int r_25), (4, .int r_12), (0, .ref a0), (1, .int x0), (2, .int x1), (3, .int x2)] [] w23_ 0 0
                                refine mp_run mp_k_cX10_loves_ok hF mp_tabX10_ok [mp_i (.aload_n 0), mp_i (.iload 4), mp_i (.iload 9), mp_i (.iload 8), mp_i (.iload 7)] (by decide +kernel) ?_
                                show mp_W E X 10 183 [(9, .int i_145), (8, .int i_109), (7, .int z_59), (6, .int i_44), (5, .int r_25), (4, .int r_12), (0, .ref a0), (1, .int x0), (2, .int x1), (3, .int x2)] [.int z_59, .int i_109, .int i_145, .int r_12, .ref a0] w23_ 0 0
                                refine mp_callV hF (As := [.int r_12, .int i_145, .int i_109, .int z_59]) (rest := []) (wr := [(mp_arI E a6 0 6 f5), (mp_arI E a8 0 6 g_47), (mp_arI E a9 0 6 g_146), (mp_arI E a1 0 25 f0), (mp_arI E a7 3 1500 f6), (mp_arI E a5 0 300 f4)]) (bX10_isSea_92 E a0 a2 a3 a4 a10 a11 a12 a13 a14 a15 a1 a5 a16 a17 a6 a18 a19 a7 a20 a21 a8 a9 a22 a23 a24 a25 f1 f2 f3 y0 y1 y2 y3 y4 y5 y6 y7 y8 y9 y10 y11 y12 y13 y14 i_45 i_46 y17 y18 y19 y20 y21 r_12 i_145 i_109 z_59 p5 p6 p7 p8 l_13 u_14 l_147 (by (first | exact mp_o1538 c_156 e_119 | omega)) l_111 (by (first | exact mp_o1538 c_121 e_119 | omega)) (by (first | exact mp_o1710 c_108 l_y11 e_61 | omega)) (by (first | exact mp_o1707 q0 c_58 e_61 | omega)) l_y1 u_y1 l_y2 u_y2 l_y3 u_y3 l_y4 u_y4 l_y11 u_y11 l_y12 u_y12 l_y13 u_y13) mp_lkX10_318 8 rfl [8, 0, 1, 6] [2, 3, 4, 5, 7, 9] rfl rfl rfl rfl rfl ⟨(Nat.le_of_ble_eq_true rfl), (Nat.le_of_ble_eq_true rfl), (Nat.le_of_ble_eq_true rfl), (Nat.le_of_ble_eq_true rfl)⟩ (Nat.le_of_ble_eq_true rfl) (by first | exact mp_fd_ok mp_k_cX10_loves_ok (by decide +kernel) | decide +kernel) (fun v_166 w_167 h_168 => ?_)
                                rcases h_168 with ⟨rfl, x_169, rfl⟩ | ⟨rfl, c_170, x_171, rfl⟩
                                · skip
                                  let w24_ : va_W := [(mp_arI E a6 0 6 f5), (mp_arI E a8 0 6 g_47), (mp_arI E a9 0 6 g_146), (mp_arI E a1 0 25 f0), (mp_arI E a7 3 1500 f6), (mp_arI E a5 0 300 f4), (mp_ob10 a0 y0 a10 a11 a12 a13 a14 y1 y2 y3 y4 y5 y6 y7 y8 y9 y10 a15 a1 a2 a3 a4 a5 a16 a17 y11 a6 a18 a19 a7 y12 y13 y14 a20 a21 i_45 i_46 a8 a9 a22 y17 y18 y19 y20 a23 a24 a25 y21), (mp_arI E a2 0 180 f1), (mp_arI E a3 3 3000 f2), (mp_arI E a4 0 90 f3)]
                                  show mp_W E X 10 186 [(9, .int i_145), (8, .int i_109), (7, .int z_59), (6, .int i_44), (5, .int r_25), (4, .int r_12), (0, .ref a0), (1, .int x0), (2, .int x1), (3, .int x2)] [.int 0] w24_ 0 0
                                  refine mp_run mp_k_cX10_loves_ok hF mp_tabX10_ok [mp_h (.ifCond .eq 62) [248]] (by decide +kernel) ?_
                                  refine And.intro (fun _ => ?_) (fun c_172 => absurd c_172 (by decide))
                                  show mp_W E X 10 248 [(9, .int i_145), (8, .int i_109), (7, .int z_59), (6, .int i_44), (5, .int r_25), (4, .int r_12), (0, .ref a0), (1, .int x0), (2, .int x1), (3, .int x2)] [] w24_ 0 0
                                  refine mp_run mp_k_cX10_loves_ok hF mp_tabX10_ok [mp_c (.iinc 9 1) 1, mp_h (.goto (-100)) [151]] (by decide +kernel) ?_
                                  intro z_173 h_174
                                  have e_175 : z_173.toInt = i_145.toInt + 1 := mp_add (a := i_145.toInt) (b := 1) h_174 rfl (by decide) (by (first | exact mp_o2 l_147 | omega)) (by (first | exact mp_o351 u_148 | omega))
                                  show mp_W E X 10 151 [(9, .int z_173), (8, .int i_109), (7, .int z_59), (6, .int i_44), (5, .int r_25), (4, .int r_12), (0, .ref a0), (1, .int x0), (2, .int x1), (3, .int x2)] [] w24_ 0 0
                                  exact mp_sub [0, 1, 2, 3, 4, 5, 6, 7, 8, 9] rfl [7, 8, 0, 1, 2, 3, 9, 4, 6, 5] rfl rfl (ih_151 (d_150 - 1) (by omega) z_173 g_146 (by omega) (by omega) (by omega))
                                · skip
                                  have c_170 : i_145.toInt ≠ i_109.toInt := c_170
                                  let w25_ : va_W := [(mp_arI E a6 0 6 f5), (mp_arI E a8 0 6 g_47), (mp_arI E a9 0 6 g_146), (mp_arI E a1 0 25 f0), (mp_arI E a7 3 1500 f6), (mp_arI E a5 0 300 f4), (mp_ob10 a0 y0 a10 a11 a12 a13 a14 y1 y2 y3 y4 y5 y6 y7 y8 y9 y10 a15 a1 a2 a3 a4 a5 a16 a17 y11 a6 a18 a19 a7 y12 y13 y14 a20 a21 i_45 i_46 a8 a9 a22 y17 y18 y19 y20 a23 a24 a25 y21), (mp_arI E a2 0 180 f1), (mp_arI E a3 3 3000 f2), (mp_arI E a4 0 90 f3)]
                                  show mp_W E X 10 186 [(9, .int i_145), (8, .int i_109), (7, .int z_59), (6, .int i_44), (5, .int r_25), (4, .int r_12), (0, .ref a0), (1, .int x0), (2, .int x1), (3, .int x2)] [.int 1] w25_ 0 0
                                  refine mp_run mp_k_cX10_loves_ok hF mp_tabX10_ok [mp_h (.ifCond .eq 62) [248]] (by decide +kernel) ?_
                                  refine And.intro (fun c_176 => absurd c_176 (by decide)) (fun _ => ?_)
                                  show mp_W E X 10 189 [(9, .int i_145), (8, .int i_109), (7, .int z_59), (6, .int i_44), (5, .int r_25), (4, .int r_12), (0, .ref a0), (1, .int x0), (2, .int x1), (3, .int x2)] [] w25_ 0 0
                                  refine mp_run mp_k_cX10_loves_ok hF mp_tabX10_ok [mp_i (.aload_n 0), mp_h (.getfield 74) [36, 6], mp_i (.iload 9), mp_h .iaload [1], mp_i (.aload_n 0), mp_h (.getfield 37) [18, 6], mp_c (.bipush 6) 6, mp_i (.iload 9), mp_i .imul, mp_i (.iload 8), mp_i .iadd, mp_h .iaload [7], mp_i .iadd, mp_i (.aload_n 0), mp_h (.getfield 77) [37, 6], mp_i (.iload 8), mp_h .iaload [2], mp_h (.if_icmp .ge 31) [248]] (by decide +kernel) ?_
                                  refine And.intro rfl (And.intro rfl ?_)
                                  refine And.intro rfl (And.intro rfl (And.intro (vp_in_iff.mpr (by (first | exact mp_o1484 l_147 c_156 e_119 | omega))) ?_))
                                  intro z_177 h_178
                                  have k_179 : z_160 = z_177 := h_161.trans h_178.symm
                                  subst k_179
                                  refine And.intro rfl (And.intro rfl ?_)
                                  intro z_180 h_181
                                  have e_182 : z_180.toInt = 6 * i_145.toInt := mp_mul (a := 6) (b := i_145.toInt) h_181 (by decide) rfl (by (first | exact mp_o1152 l_147 | omega)) (by (first | exact mp_o1711 u_148 | omega))
                                  intro z_183 h_184
                                  have e_185 : z_183.toInt = z_180.toInt + i_109.toInt := mp_add (a := z_180.toInt) (b := i_109.toInt) h_184 rfl rfl (by (first | exact mp_o1412 l_111 l_147 e_182 | omega)) (by (first | exact mp_o1712 u_112 u_148 e_182 | omega))
                                  refine And.intro rfl (And.intro rfl (And.intro (vp_in_iff.mpr (by (first | exact mp_o1713 l_111 u_112 l_147 u_148 e_182 e_185 | omega))) ?_))
                                  intro z_186 h_187
                                  have e_188 : 0 ≤ z_186.toInt ∧ z_186.toInt ≤ 20 := mp_all_ld h_187 p5 (by (first | exact mp_o1714 l_111 l_147 e_182 e_185 | omega)) (by (first | exact mp_o1715 u_112 u_148 e_182 e_185 | omega))
                                  intro z_189 h_190
                                  have e_191 := mp_bnd z_160
                                  have e_192 : z_189.toInt = z_160.toInt + z_186.toInt := mp_add (a := z_160.toInt) (b := z_186.toInt) h_190 rfl rfl (by (first | exact mp_o1716 e_191 e_188 | omega)) (by (first | exact mp_o1717 e_188 c_162 | omega))
                                  refine And.intro rfl (And.intro rfl ?_)
                                  refine And.intro rfl (And.intro rfl (And.intro (vp_in_iff.mpr (by (first | exact mp_o1484 l_111 c_121 e_119 | omega))) ?_))
                                  intro z_193 h_194
                                  refine And.intro (fun c_195 => ?_) (fun c_195 => ?_)
                                  · have c_195 : z_193.toInt ≤ z_189.toInt := c_195
                                    show mp_W E X 10 248 [(9, .int i_145), (8, .int i_109), (7, .int z_59), (6, .int i_44), (5, .int r_25), (4, .int r_12), (0, .ref a0), (1, .int x0), (2, .int x1), (3, .int x2)] [] w25_ 0 0
                                    refine mp_run mp_k_cX10_loves_ok hF mp_tabX10_ok [mp_c (.iinc 9 1) 1, mp_h (.goto (-100)) [151]] (by decide +kernel) ?_
                                    intro z_196 h_197
                                    have e_198 : z_196.toInt = i_145.toInt + 1 := mp_add (a := i_145.toInt) (b := 1) h_197 rfl (by decide) (by (first | exact mp_o2 l_147 | omega)) (by (first | exact mp_o351 u_148 | omega))
                                    show mp_W E X 10 151 [(9, .int z_196), (8, .int i_109), (7, .int z_59), (6, .int i_44), (5, .int r_25), (4, .int r_12), (0, .ref a0), (1, .int x0), (2, .int x1), (3, .int x2)] [] w25_ 0 0
                                    exact mp_sub [0, 1, 2, 3, 4, 5, 6, 7, 8, 9] rfl [7, 8, 0, 1, 2, 3, 9, 4, 6, 5] rfl rfl (ih_151 (d_150 - 1) (by (first | exact mp_o72 hm_152 c_156 | omega)) z_196 g_146 (by (first | exact mp_o51 l_147 e_198 | omega)) (by (first | exact mp_o1485 e_198 c_156 e_119 | omega)) (by (first | exact mp_o77 hm_152 e_198 | omega)))
                                  · have c_195 : z_189.toInt < z_193.toInt := c_195
                                    show mp_W E X 10 220 [(9, .int i_145), (8, .int i_109), (7, .int z_59), (6, .int i_44), (5, .int r_25), (4, .int r_12), (0, .ref a0), (1, .int x0), (2, .int x1), (3, .int x2)] [] w25_ 0 0
                                    refine mp_run mp_k_cX10_loves_ok hF mp_tabX10_ok [mp_i (.aload_n 0), mp_h (.getfield 77) [37, 6], mp_i (.iload 8), mp_i (.aload_n 0), mp_h (.getfield 74) [36, 6], mp_i (.iload 9), mp_h .iaload [1], mp_i (.aload_n 0), mp_h (.getfield 37) [18, 6], mp_c (.bipush 6) 6, mp_i (.iload 9), mp_i .imul, mp_i (.iload 8), mp_i .iadd, mp_h .iaload [7], mp_i .iadd, mp_h .iastore [2]] (by decide +kernel) ?_
                                    refine And.intro rfl (And.intro rfl ?_)
                                    refine And.intro rfl (And.intro rfl ?_)
                                    refine And.intro rfl (And.intro rfl (And.intro (vp_in_iff.mpr (by (first | exact mp_o1484 l_147 c_156 e_119 | omega))) ?_))
                                    intro z_199 h_200
                                    have k_201 : z_160 = z_199 := h_161.trans h_200.symm
                                    subst k_201
                                    refine And.intro rfl (And.intro rfl ?_)
                                    intro z_202 h_203
                                    have e_204 : z_202.toInt = 6 * i_145.toInt := mp_mul (a := 6) (b := i_145.toInt) h_203 (by decide) rfl (by (first | exact mp_o1152 l_147 | omega)) (by (first | exact mp_o1711 u_148 | omega))
                                    intro z_205 h_206
                                    have e_207 : z_205.toInt = z_202.toInt + i_109.toInt := mp_add (a := z_202.toInt) (b := i_109.toInt) h_206 rfl rfl (by (first | exact mp_o1412 l_111 l_147 e_204 | omega)) (by (first | exact mp_o1712 u_112 u_148 e_204 | omega))
                                    refine And.intro rfl (And.intro rfl (And.intro (vp_in_iff.mpr (by (first | exact mp_o1713 l_111 u_112 l_147 u_148 e_204 e_207 | omega))) ?_))
                                    intro z_208 h_209
                                    have e_210 : 0 ≤ z_208.toInt ∧ z_208.toInt ≤ 20 := mp_all_ld h_209 p5 (by (first | exact mp_o1714 l_111 l_147 e_204 e_207 | omega)) (by (first | exact mp_o1715 u_112 u_148 e_204 e_207 | omega))
                                    intro z_211 h_212
                                    have e_213 := mp_bnd z_160
                                    have e_214 := mp_bnd z_160
                                    have e_215 := mp_bnd z_186
                                    have e_216 := mp_bnd z_193
                                    have e_217 : z_211.toInt = z_160.toInt + z_208.toInt := mp_add (a := z_160.toInt) (b := z_208.toInt) h_212 rfl rfl (by (first | exact mp_o1716 e_191 e_210 | omega)) (by (first | exact mp_o1717 e_210 c_162 | omega))
                                    refine And.intro rfl (And.intro rfl (And.intro (vp_in_iff.mpr (by (first | exact mp_o1484 l_111 c_121 e_119 | omega))) ?_))
                                    intro g_218 h_219
                                    let w26_ : va_W := [(mp_arI E a6 0 6 f5), (mp_arI E a8 0 6 g_47), (mp_arI E a9 0 6 g_218), (mp_arI E a1 0 25 f0), (mp_arI E a7 3 1500 f6), (mp_arI E a5 0 300 f4), (mp_ob10 a0 y0 a10 a11 a12 a13 a14 y1 y2 y3 y4 y5 y6 y7 y8 y9 y10 a15 a1 a2 a3 a4 a5 a16 a17 y11 a6 a18 a19 a7 y12 y13 y14 a20 a21 i_45 i_46 a8 a9 a22 y17 y18 y19 y20 a23 a24 a25 y21), (mp_arI E a2 0 180 f1), (mp_arI E a3 3 3000 f2), (mp_arI E a4 0 90 f3)]
                                    show mp_W E X 10 248 [(9, .int i_145), (8, .int i_109), (7, .int z_59), (6, .int i_44), (5, .int r_25), (4, .int r_12), (0, .ref a0), (1, .int x0), (2, .int x1), (3, .int x2)] [] w26_ 0 0
                                    refine mp_run mp_k_cX10_loves_ok hF mp_tabX10_ok [mp_c (.iinc 9 1) 1, mp_h (.goto (-100)) [151]] (by decide +kernel) ?_
                                    intro z_220 h_221
                                    have e_222 : z_220.toInt = i_145.toInt + 1 := mp_add (a := i_145.toInt) (b := 1) h_221 rfl (by decide) (by (first | exact mp_o2 l_147 | omega)) (by (first | exact mp_o351 u_148 | omega))
                                    show mp_W E X 10 151 [(9, .int z_220), (8, .int i_109), (7, .int z_59), (6, .int i_44), (5, .int r_25), (4, .int r_12), (0, .ref a0), (1, .int x0), (2, .int x1), (3, .int x2)] [] w26_ 0 0
                                    exact mp_sub [0, 1, 2, 3, 4, 5, 6, 7, 8, 9] rfl [7, 8, 0, 1, 2, 3, 9, 4, 6, 5] rfl rfl (ih_151 (d_150 - 1) (by (first | exact mp_o72 hm_152 c_156 | omega)) z_220 g_218 (by (first | exact mp_o51 l_147 e_222 | omega)) (by (first | exact mp_o1485 e_222 c_156 e_119 | omega)) (by (first | exact mp_o77 hm_152 e_222 | omega)))
                        exact mp_sub [0, 1, 2, 3, 4, 5, 6, 7, 8, 9] rfl [0, 1, 2, 3, 4, 5, 6, 7, 8, 9] rfl rfl (lp_149 _ 0 g_143 (by decide) (by decide) (Int.self_le_toNat _))
                  exact mp_sub [0, 1, 2, 3, 4, 5, 6, 7, 8] rfl [0, 1, 2, 3, 4, 5, 6, 7, 8, 9] rfl rfl (lp_113 _ 0 g_48 (by decide) (by decide) (Int.self_le_toNat _))
          exact mp_sub [0, 1, 2, 3, 4, 5, 6] rfl [0, 1, 2, 3, 4, 5, 6, 7, 8, 9] rfl rfl (lp_54 _ 0 1000000 (-1) g_36 f8 (by decide) (by decide) (by decide) (by decide) (by decide) (Int.self_le_toNat _))
        · have c_43 : i_35.toInt < 6 := c_43
          let w27_ : va_W := [(mp_arI E a2 0 180 f1), (mp_arI E a3 3 3000 f2), (mp_arI E a6 0 6 f5), (mp_arI E a8 0 6 g_36), (mp_arI E a9 0 6 f8), (mp_arI E a1 0 25 f0), (mp_arI E a4 0 90 f3), (mp_arI E a7 3 1500 f6), (mp_ob10 a0 y0 a10 a11 a12 a13 a14 y1 y2 y3 y4 y5 y6 y7 y8 y9 y10 a15 a1 a2 a3 a4 a5 a16 a17 y11 a6 a18 a19 a7 y12 y13 y14 a20 a21 1000000 (-1) a8 a9 a22 y17 y18 y19 y20 a23 a24 a25 y21), (mp_arI E a5 0 300 f4)]
          show mp_W E X 10 66 [(6, .int i_35), (5, .int r_25), (4, .int r_12), (0, .ref a0), (1, .int x0), (2, .int x1), (3, .int x2)] [] w27_ 0 0
          refine mp_run mp_k_cX10_loves_ok hF mp_tabX10_ok [mp_i (.aload_n 0), mp_h (.getfield 74) [36, 8], mp_i (.iload 6), mp_i (.iload 6), mp_i (.aload_n 0), mp_h (.getfield 56) [25, 8], mp_i (.iload 4), mp_h .iaload [2], mp_h (.if_icmp .ne 7) [88]] (by decide +kernel) ?_
          refine And.intro rfl (And.intro rfl ?_)
          refine And.intro rfl (And.intro rfl ?_)
          refine And.intro rfl (And.intro rfl (And.intro (vp_in_iff.mpr (by (first | exact mp_o230 l_13 u_14 | omega))) ?_))
          intro z_223 h_224
          have e_225 : 0 ≤ z_223.toInt ∧ z_223.toInt ≤ 5 := mp_all_ld h_224 p13 (by (first | exact l_13 | omega)) (by (first | exact mp_o475 u_14 | omega))
          refine And.intro (fun c_226 => ?_) (fun c_226 => ?_)
          · have c_226 : i_35.toInt ≠ z_223.toInt := c_226
            show mp_W E X 10 88 [(6, .int i_35), (5, .int r_25), (4, .int r_12), (0, .ref a0), (1, .int x0), (2, .int x1), (3, .int x2)] [.int i_35, .ref a8] w27_ 0 0
            refine mp_run mp_k_cX10_loves_ok hF mp_tabX10_ok [mp_c (.ldc 142) 1000000, mp_h .iastore [3]] (by decide +kernel) ?_
            refine And.intro rfl (And.intro rfl (And.intro (vp_in_iff.mpr (by (first | exact mp_o1718 l_37 c_43 | omega))) ?_))
            intro g_227 h_228
            let w28_ : va_W := [(mp_arI E a2 0 180 f1), (mp_arI E a3 3 3000 f2), (mp_arI E a6 0 6 f5), (mp_arI E a8 0 6 g_227), (mp_arI E a9 0 6 f8), (mp_arI E a1 0 25 f0), (mp_arI E a4 0 90 f3), (mp_arI E a7 3 1500 f6), (mp_ob10 a0 y0 a10 a11 a12 a13 a14 y1 y2 y3 y4 y5 y6 y7 y8 y9 y10 a15 a1 a2 a3 a4 a5 a16 a17 y11 a6 a18 a19 a7 y12 y13 y14 a20 a21 1000000 (-1) a8 a9 a22 y17 y18 y19 y20 a23 a24 a25 y21), (mp_arI E a5 0 300 f4)]
            show mp_W E X 10 91 [(6, .int i_35), (5, .int r_25), (4, .int r_12), (0, .ref a0), (1, .int x0), (2, .int x1), (3, .int x2)] [] w28_ 0 0
            refine mp_run mp_k_cX10_loves_ok hF mp_tabX10_ok [mp_c (.iinc 6 1) 1, mp_h (.goto (-35)) [59]] (by decide +kernel) ?_
            intro z_229 h_230
            have e_231 : z_229.toInt = i_35.toInt + 1 := mp_add (a := i_35.toInt) (b := 1) h_230 rfl (by decide) (by (first | exact mp_o2 l_37 | omega)) (by (first | exact mp_o1719 c_43 | omega))
            show mp_W E X 10 59 [(6, .int z_229), (5, .int r_25), (4, .int r_12), (0, .ref a0), (1, .int x0), (2, .int x1), (3, .int x2)] [] w28_ 0 0
            exact mp_sub [0, 1, 2, 3, 4, 5, 6] rfl [0, 1, 2, 3, 4, 5, 6, 7, 8, 9] rfl rfl (ih_41 (d_40 - 1) (by (first | exact mp_o1720 hm_42 c_43 | omega)) z_229 g_227 (by (first | exact mp_o51 l_37 e_231 | omega)) (by (first | exact mp_o1721 c_43 e_231 | omega)) (by (first | exact mp_o1722 hm_42 e_231 | omega)))
          · have c_226 : i_35.toInt = z_223.toInt := (congrArg Int32.toInt c_226)
            show mp_W E X 10 84 [(6, .int i_35), (5, .int r_25), (4, .int r_12), (0, .ref a0), (1, .int x0), (2, .int x1), (3, .int x2)] [.int i_35, .ref a8] w27_ 0 0
            refine mp_run mp_k_cX10_loves_ok hF mp_tabX10_ok [mp_c (.iconst 0) 0, mp_h (.goto 5) [90], mp_h .iastore [3]] (by decide +kernel) ?_
            refine And.intro rfl (And.intro rfl (And.intro (vp_in_iff.mpr (by (first | exact mp_o1723 c_226 e_225 | omega))) ?_))
            intro g_232 h_233
            let w29_ : va_W := [(mp_arI E a2 0 180 f1), (mp_arI E a3 3 3000 f2), (mp_arI E a6 0 6 f5), (mp_arI E a8 0 6 g_232), (mp_arI E a9 0 6 f8), (mp_arI E a1 0 25 f0), (mp_arI E a4 0 90 f3), (mp_arI E a7 3 1500 f6), (mp_ob10 a0 y0 a10 a11 a12 a13 a14 y1 y2 y3 y4 y5 y6 y7 y8 y9 y10 a15 a1 a2 a3 a4 a5 a16 a17 y11 a6 a18 a19 a7 y12 y13 y14 a20 a21 1000000 (-1) a8 a9 a22 y17 y18 y19 y20 a23 a24 a25 y21), (mp_arI E a5 0 300 f4)]
            show mp_W E X 10 91 [(6, .int i_35), (5, .int r_25), (4, .int r_12), (0, .ref a0), (1, .int x0), (2, .int x1), (3, .int x2)] [] w29_ 0 0
            refine mp_run mp_k_cX10_loves_ok hF mp_tabX10_ok [mp_c (.iinc 6 1) 1, mp_h (.goto (-35)) [59]] (by decide +kernel) ?_
            intro z_234 h_235
            have e_236 : z_234.toInt = i_35.toInt + 1 := mp_add (a := i_35.toInt) (b := 1) h_235 rfl (by decide) (by (first | exact mp_o1724 c_226 e_225 | omega)) (by (first | exact mp_o1725 c_226 e_225 | omega))
            show mp_W E X 10 59 [(6, .int z_234), (5, .int r_25), (4, .int r_12), (0, .ref a0), (1, .int x0), (2, .int x1), (3, .int x2)] [] w29_ 0 0
            exact mp_sub [0, 1, 2, 3, 4, 5, 6] rfl [0, 1, 2, 3, 4, 5, 6, 7, 8, 9] rfl rfl (ih_41 (d_40 - 1) (by (first | exact mp_o1726 hm_42 c_226 e_225 | omega)) z_234 g_232 (by (first | exact mp_o1727 e_236 c_226 e_225 | omega)) (by (first | exact mp_o1728 e_236 c_226 e_225 | omega)) (by (first | exact mp_o1722 hm_42 e_236 | omega)))
    exact mp_sub [0, 1, 2, 3, 4, 5, 6] rfl [0, 1, 2, 3, 4, 5, 6, 7, 8, 9] rfl rfl (lp_39 _ 0 f7 (by decide) (by decide) (Int.self_le_toNat _))
  · have c_8 : x1.toInt ≤ r_7.toInt := c_8
    show mp_W E X 10 26 [(0, .ref a0), (1, .int x0), (2, .int x1), (3, .int x2)] [] w4_ 0 0
    refine mp_run mp_k_cX10_loves_ok hF mp_tabX10_ok [mp_i (.aload_n 0), mp_c (.iconst 0) 0, mp_h (.putfield 381) [34, 5]] (by decide +kernel) ?_
    refine And.intro rfl (And.intro rfl (And.intro rfl (And.intro rfl (And.intro (Nat.le_of_ble_eq_true rfl) ?_))))
    let w30_ : va_W := [(mp_arI E a2 0 180 f1), (mp_arI E a3 3 3000 f2), (mp_arI E a6 0 6 f5), (mp_arI E a8 0 6 f7), (mp_arI E a9 0 6 f8), (mp_ob10 a0 y0 a10 a11 a12 a13 a14 y1 y2 y3 y4 y5 y6 y7 y8 y9 y10 a15 a1 a2 a3 a4 a5 a16 a17 y11 a6 a18 a19 a7 y12 y13 y14 a20 a21 0 (-1) a8 a9 a22 y17 y18 y19 y20 a23 a24 a25 y21), (mp_arI E a1 0 25 f0), (mp_arI E a4 0 90 f3), (mp_arI E a5 0 300 f4), (mp_arI E a7 3 1500 f6)]
    show mp_W E X 10 31 [(0, .ref a0), (1, .int x0), (2, .int x1), (3, .int x2)] [] w30_ 0 0
    refine mp_run mp_k_cX10_loves_ok hF mp_tabX10_ok [mp_i (.aload_n 0), mp_i (.aload_n 0), mp_h (.getfield 276) [24, 5], mp_h (.putfield 384) [35, 5]] (by decide +kernel) ?_
    refine And.intro rfl (And.intro rfl ?_)
    refine And.intro rfl (And.intro rfl (And.intro rfl (And.intro rfl (And.intro (Nat.le_of_ble_eq_true rfl) ?_))))
    let w31_ : va_W := [(mp_arI E a2 0 180 f1), (mp_arI E a3 3 3000 f2), (mp_arI E a6 0 6 f5), (mp_arI E a8 0 6 f7), (mp_arI E a9 0 6 f8), (mp_ob10 a0 y0 a10 a11 a12 a13 a14 y1 y2 y3 y4 y5 y6 y7 y8 y9 y10 a15 a1 a2 a3 a4 a5 a16 a17 y11 a6 a18 a19 a7 y12 y13 y14 a20 a21 0 y11 a8 a9 a22 y17 y18 y19 y20 a23 a24 a25 y21), (mp_arI E a1 0 25 f0), (mp_arI E a4 0 90 f3), (mp_arI E a5 0 300 f4), (mp_arI E a7 3 1500 f6)]
    show mp_W E X 10 39 [(0, .ref a0), (1, .int x0), (2, .int x1), (3, .int x2)] [] w31_ 0 0
    exact mp_vret hF hQ rfl (Nat.le_of_ble_eq_true rfl) (Nat.le_of_ble_eq_true rfl) [5, 6, 0, 1, 7, 8, 2, 9, 3, 4] (w' := [(mp_ob10 a0 y0 a10 a11 a12 a13 a14 y1 y2 y3 y4 y5 y6 y7 y8 y9 y10 a15 a1 a2 a3 a4 a5 a16 a17 y11 a6 a18 a19 a7 y12 y13 y14 a20 a21 0 y11 a8 a9 a22 y17 y18 y19 y20 a23 a24 a25 y21), (mp_arI E a1 0 25 f0), (mp_arI E a2 0 180 f1), (mp_arI E a3 3 3000 f2), (mp_arI E a4 0 90 f3), (mp_arI E a5 0 300 f4), (mp_arI E a6 0 6 f5), (mp_arI E a7 3 1500 f6), (mp_arI E a8 0 6 f7), (mp_arI E a9 0 6 f8)]) rfl rfl ⟨0, y11, f7, f8, rfl, (by decide), (by (first | exact mp_o44 l_y11 | omega)), (by (first | exact mp_o616 u_y11 | omega)), rfl⟩ (by first | exact mp_fd_ok mp_k_cX10_loves_ok (by decide +kernel) | decide +kernel)
