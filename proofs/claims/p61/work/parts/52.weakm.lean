set_option maxHeartbeats 4000000 in
set_option maxRecDepth 100000 in
theorem bX10_love_124 (E : mp_E) (a0 a1 a2 a3 a4 a5 a6 a7 a8 a9 a10 a11 a12 a13 a14 a15 a16 a17 a18 a19 a20 a21 a22 a23 a24 a25 : Nat) (f0 : Nat → Int32) (f1 : Nat → Int32) (f2 : Nat → Int32) (f3 : Nat → Int32) (f4 : Nat → Int32) (f5 : Nat → Int32) (f6 : Nat → Int32) (f7 : Nat → Int32) (f8 : Nat → Int32) (f9 : Nat → Int32) (f10 : Nat → Int32) (f11 : Nat → Int32) (y0 : Int32) (y1 : Int32) (y2 : Int32) (y3 : Int32) (y4 : Int32) (y5 : Int32) (y6 : Int64) (y7 : Int32) (y8 : Int32) (y9 : Int32) (y10 : Int32) (y11 : Int32) (y12 : Int32) (y13 : Int32) (y14 : Int32) (y15 : Int32) (y16 : Int32) (y17 : Int32) (y18 : Int32) (y19 : Int32) (y20 : Int32) (y21 : Int32) (x0 : Int32) (x1 : Int32) (x2 : Int32) (p0 : mp_res f0 25 5 0 0 6) (p1 : mp_res f0 25 5 1 0 99) (p2 : mp_res f0 25 5 2 0 6) (p3 : mp_res f0 25 5 3 0 10) (p4 : mp_res f0 25 5 4 0 60) (p5 : mp_all f1 180 0 20) (p6 : mp_all f2 3000 0 1) (p7 : mp_res f3 90 3 0 0 5) (p8 : mp_res f3 90 3 1 (-1) 99) (p9 : mp_res f4 300 6 0 0 5) (p10 : mp_res f4 300 6 1 0 5) (p11 : mp_res f4 300 6 3 0 99) (p12 : mp_res f4 300 6 4 0 1) (p13 : mp_actm f5) (p14 : mp_all f6 6 0 5) (l_y1 : 0 ≤ y1.toInt) (u_y1 : y1.toInt ≤ 1600) (l_y2 : 0 ≤ y2.toInt) (u_y2 : y2.toInt ≤ 1600) (l_y3 : 0 ≤ y3.toInt) (u_y3 : y3.toInt ≤ 4) (l_y4 : 0 ≤ y4.toInt) (u_y4 : y4.toInt ≤ 1600) (l_y11 : 0 ≤ y11.toInt) (u_y11 : y11.toInt ≤ 99) (l_y12 : 0 ≤ y12.toInt) (u_y12 : y12.toInt ≤ 5) (l_y13 : 0 ≤ y13.toInt) (u_y13 : y13.toInt ≤ 12) (q0 : mp_prm f4 (f0 3).toInt) (q1 : (f0 1).toInt + mp_k200 f5 (f0 4).toInt ≤ 99) : mp_Ct E yX10_love cX10_love 4 (some FieldType.int) 15 0 0 366 [.ref a0, .int x0, .int x1, .int x2] [(mp_ob10 a0 y0 a13 a14 a15 a16 a17 y1 y2 y3 y4 y5 y6 y7 y8 y9 y10 a18 a1 a2 a3 a4 a5 a6 a19 y11 a7 a8 a9 a10 y12 y13 y14 a20 a21 y15 y16 a11 a12 a22 y17 y18 y19 y20 a23 a24 a25 y21), (mp_arI E a1 0 25 f0), (mp_arI E a2 0 180 f1), (mp_arI E a3 3 3000 f2), (mp_arI E a4 0 90 f3), (mp_arI E a5 0 300 f4), (mp_arI E a6 0 300 f5), (mp_arI E a7 0 6 f6), (mp_arI E a8 0 6 f7), (mp_arI E a9 0 6 f8), (mp_arI E a10 3 1500 f9), (mp_arI E a11 0 6 f10), (mp_arI E a12 0 6 f11)] (fun v w' => ∃ r1 : Int32, ∃ r2 : Int32, ∃ r3 : Int32, ∃ h4 : Nat → Int32, ∃ h5 : Nat → Int32, ∃ h6 : Nat → Int32, ∃ h7 : Nat → Int32, ∃ h8 : Nat → Int32, ∃ h9 : Nat → Int32, ∃ r10 : Int32, v = some (.int r10) ∧ 0 ≤ r1.toInt ∧ r1.toInt ≤ 99 ∧ r10.toInt ≤ 999999 ∧ mp_all h4 6 0 5 ∧ w' = [(mp_ob10 a0 0 a13 a14 a15 a16 a17 y1 y2 y3 y4 y5 y6 y7 y8 y9 y10 a18 a1 a2 a3 a4 a5 a6 a19 r1 a7 a8 a9 a10 y12 y13 y14 a20 a21 r2 r3 a11 a12 a22 y17 y18 y19 y20 a23 a24 a25 y21), (mp_arI E a1 0 25 f0), (mp_arI E a2 0 180 f1), (mp_arI E a3 3 3000 f2), (mp_arI E a4 0 90 f3), (mp_arI E a5 0 300 f4), (mp_arI E a6 0 300 f5), (mp_arI E a7 0 6 h4), (mp_arI E a8 0 6 h5), (mp_arI E a9 0 6 h6), (mp_arI E a10 3 1500 h7), (mp_arI E a11 0 6 h8), (mp_arI E a12 0 6 h9)]) := by
  refine mp_met false (by decide) (by decide) (Nat.le_of_ble_eq_true rfl) (fun X hF hQ => ?_)
  have hF : mp_F E X (RX10, cX10_love, 4, (15, 0, 0, 366), (some FieldType.int), false) := hF
  let w1_ : va_W := [(mp_ob10 a0 y0 a13 a14 a15 a16 a17 y1 y2 y3 y4 y5 y6 y7 y8 y9 y10 a18 a1 a2 a3 a4 a5 a6 a19 y11 a7 a8 a9 a10 y12 y13 y14 a20 a21 y15 y16 a11 a12 a22 y17 y18 y19 y20 a23 a24 a25 y21), (mp_arI E a1 0 25 f0), (mp_arI E a2 0 180 f1), (mp_arI E a3 3 3000 f2), (mp_arI E a4 0 90 f3), (mp_arI E a5 0 300 f4), (mp_arI E a6 0 300 f5), (mp_arI E a7 0 6 f6), (mp_arI E a8 0 6 f7), (mp_arI E a9 0 6 f8), (mp_arI E a10 3 1500 f9), (mp_arI E a11 0 6 f10), (mp_arI E a12 0 6 f11)]
  show mp_W E X 4 0 [(0, .ref a0), (1, .int x0), (2, .int x1), (3, .int x2)] [] w1_ 0 0
  refine mp_run mp_k_cX10_love_ok hF mp_tabX10_ok [mp_i (.aload_n 0), mp_c (.iconst 0) 0, mp_h (.putfield 92) [0, 0]] (by decide +kernel) ?_
  refine And.intro rfl (And.intro rfl (And.intro rfl (And.intro rfl (And.intro (Nat.le_of_ble_eq_true rfl) ?_))))
  let w2_ : va_W := [(mp_ob10 a0 0 a13 a14 a15 a16 a17 y1 y2 y3 y4 y5 y6 y7 y8 y9 y10 a18 a1 a2 a3 a4 a5 a6 a19 y11 a7 a8 a9 a10 y12 y13 y14 a20 a21 y15 y16 a11 a12 a22 y17 y18 y19 y20 a23 a24 a25 y21), (mp_arI E a1 0 25 f0), (mp_arI E a2 0 180 f1), (mp_arI E a3 3 3000 f2), (mp_arI E a4 0 90 f3), (mp_arI E a5 0 300 f4), (mp_arI E a6 0 300 f5), (mp_arI E a7 0 6 f6), (mp_arI E a8 0 6 f7), (mp_arI E a9 0 6 f8), (mp_arI E a10 3 1500 f9), (mp_arI E a11 0 6 f10), (mp_arI E a12 0 6 f11)]
  show mp_W E X 4 5 [(0, .ref a0), (1, .int x0), (2, .int x1), (3, .int x2)] [] w2_ 0 0
  refine mp_run mp_k_cX10_love_ok hF mp_tabX10_ok [mp_i (.aload_n 0), mp_i (.iload_n 1), mp_i (.iload_n 2), mp_i (.iload_n 3)] (by decide +kernel) ?_
  show mp_W E X 4 9 [(0, .ref a0), (1, .int x0), (2, .int x1), (3, .int x2)] [.int x2, .int x1, .int x0, .ref a0] w2_ 0 0
  refine mp_callV hF (As := [.int x0, .int x1, .int x2]) (rest := []) (wr := [(mp_arI E a3 3 3000 f2), (mp_arI E a5 0 300 f4), (mp_arI E a11 0 6 f10), (mp_arI E a12 0 6 f11)]) (bX10_isLove_121 E a0 a1 a2 a4 a6 a7 a8 a9 a10 a13 a14 a15 a16 a17 a18 a3 a5 a19 a20 a21 a11 a12 a22 a23 a24 a25 f0 f1 f3 f5 f6 f7 f8 f9 0 y1 y2 y3 y4 y5 y6 y7 y8 y9 y10 y11 y12 y13 y14 y15 y16 y17 y18 y19 y20 y21 x0 x1 x2 p0 p1 p2 p3 p4 p5 p7 p8 p13 p14 l_y1 u_y1 l_y2 u_y2 l_y3 u_y3 l_y4 u_y4 l_y11 u_y11 l_y12 u_y12 l_y13 u_y13 (by (first | exact q1 | omega))) mp_lkX10_390 0 rfl [0, 1, 2, 4, 6, 7, 8, 9, 10] [3, 5, 11, 12] rfl rfl rfl rfl rfl ⟨(Nat.le_of_ble_eq_true rfl), (Nat.le_of_ble_eq_true rfl), (Nat.le_of_ble_eq_true rfl), (Nat.le_of_ble_eq_true rfl)⟩ (Nat.le_of_ble_eq_true rfl) (by first | exact mp_fd_ok mp_k_cX10_love_ok (by decide +kernel) | decide +kernel) (fun v_1 w_2 h_3 => ?_)
  refine h_3.elim (fun q_30 => ?_) (fun q_31 => ?_)
  · skip
    refine q_30.elim fun r_4 q_32 => q_32.elim fun g_5 q_33 => q_33.elim fun g_6 q_34 => q_34.elim fun g_7 q_35 => q_35.elim fun g_8 q_36 => q_36.elim fun e_37 q_38 => q_38.elim fun l_9 q_39 => q_39.elim fun u_10 q_40 => q_40.elim fun p_11 e_41 => ?_
    clear h_3 q_30 q_32 q_33 q_34 q_35 q_36 q_38 q_39 q_40
    subst e_37
    subst e_41
    let w3_ : va_W := [(mp_arI E a3 3 3000 f2), (mp_arI E a5 0 300 f4), (mp_arI E a11 0 6 f10), (mp_arI E a12 0 6 f11), (mp_ob10 a0 0 a13 a14 a15 a16 a17 y1 y2 y3 y4 y5 y6 y7 y8 y9 y10 a18 a1 a2 a3 a4 a5 a6 a19 r_4 a7 a8 a9 a10 y12 y13 y14 a20 a21 y15 y16 a11 a12 a22 y17 y18 y19 y20 a23 a24 a25 y21), (mp_arI E a1 0 25 f0), (mp_arI E a2 0 180 f1), (mp_arI E a4 0 90 f3), (mp_arI E a6 0 300 f5), (mp_arI E a7 0 6 g_5), (mp_arI E a8 0 6 g_6), (mp_arI E a9 0 6 g_7), (mp_arI E a10 3 1500 g_8)]
    show mp_W E X 4 12 [(0, .ref a0), (1, .int x0), (2, .int x1), (3, .int x2)] [.int 0] w3_ 0 0
    refine mp_run mp_k_cX10_love_ok hF mp_tabX10_ok [mp_h (.ifCond .ne 6) [18]] (by decide +kernel) ?_
    refine And.intro (fun c_42 => absurd c_42 (by decide)) (fun _ => ?_)
    show mp_W E X 4 15 [(0, .ref a0), (1, .int x0), (2, .int x1), (3, .int x2)] [] w3_ 0 0
    refine mp_run mp_k_cX10_love_ok hF mp_tabX10_ok [mp_c (.bipush (-2)) (-2)] (by decide +kernel) ?_
    show mp_W E X 4 17 [(0, .ref a0), (1, .int x0), (2, .int x1), (3, .int x2)] [.int (-2)] w3_ 0 0
    exact mp_iret hF hQ rfl rfl (Nat.le_of_ble_eq_true rfl) (Nat.le_of_ble_eq_true rfl) [4, 5, 6, 0, 7, 1, 8, 9, 10, 11, 12, 2, 3] (w' := [(mp_ob10 a0 0 a13 a14 a15 a16 a17 y1 y2 y3 y4 y5 y6 y7 y8 y9 y10 a18 a1 a2 a3 a4 a5 a6 a19 r_4 a7 a8 a9 a10 y12 y13 y14 a20 a21 y15 y16 a11 a12 a22 y17 y18 y19 y20 a23 a24 a25 y21), (mp_arI E a1 0 25 f0), (mp_arI E a2 0 180 f1), (mp_arI E a3 3 3000 f2), (mp_arI E a4 0 90 f3), (mp_arI E a5 0 300 f4), (mp_arI E a6 0 300 f5), (mp_arI E a7 0 6 g_5), (mp_arI E a8 0 6 g_6), (mp_arI E a9 0 6 g_7), (mp_arI E a10 3 1500 g_8), (mp_arI E a11 0 6 f10), (mp_arI E a12 0 6 f11)]) rfl rfl ⟨r_4, y15, y16, g_5, g_6, g_7, g_8, f10, f11, (-2), rfl, l_9, u_10, (by decide), p_11, rfl⟩ (by first | exact mp_fd_ok mp_k_cX10_love_ok (by decide +kernel) | decide +kernel)
  · skip
    refine q_31.elim fun r_12 q_43 => q_43.elim fun g_13 q_44 => q_44.elim fun g_14 q_45 => q_45.elim fun g_15 q_46 => q_46.elim fun g_16 q_47 => q_47.elim fun e_48 q_49 => q_49.elim fun c_17 q_50 => q_50.elim fun c_18 q_51 => q_51.elim fun c_19 q_52 => q_52.elim fun c_20 q_53 => q_53.elim fun l_21 q_54 => q_54.elim fun u_22 q_55 => q_55.elim fun p_23 q_56 => q_56.elim fun x_24 q_57 => q_57.elim fun x_25 q_58 => q_58.elim fun x_26 q_59 => q_59.elim fun x_27 q_60 => q_60.elim fun x_28 q_61 => q_61.elim fun x_29 e_62 => ?_
    clear h_3 q_31 q_43 q_44 q_45 q_46 q_47 q_49 q_50 q_51 q_52 q_53 q_54 q_55 q_56 q_57 q_58 q_59 q_60 q_61
    subst e_48
    subst e_62
    have c_17 : 0 ≤ x0.toInt := c_17
    have c_18 : 1 ≤ x1.toInt := c_18
    have c_19 : 0 ≤ x2.toInt := c_19
    have c_20 : x2.toInt ≤ 12 := c_20
    let w4_ : va_W := [(mp_arI E a3 3 3000 f2), (mp_arI E a5 0 300 f4), (mp_arI E a11 0 6 f10), (mp_arI E a12 0 6 f11), (mp_ob10 a0 0 a13 a14 a15 a16 a17 y1 y2 y3 y4 y5 y6 y7 y8 y9 y10 a18 a1 a2 a3 a4 a5 a6 a19 r_12 a7 a8 a9 a10 y12 y13 y14 a20 a21 y15 y16 a11 a12 a22 y17 y18 y19 y20 a23 a24 a25 y21), (mp_arI E a1 0 25 f0), (mp_arI E a2 0 180 f1), (mp_arI E a4 0 90 f3), (mp_arI E a6 0 300 f5), (mp_arI E a7 0 6 g_13), (mp_arI E a8 0 6 g_14), (mp_arI E a9 0 6 g_15), (mp_arI E a10 3 1500 g_16)]
    show mp_W E X 4 12 [(0, .ref a0), (1, .int x0), (2, .int x1), (3, .int x2)] [.int 1] w4_ 0 0
    refine mp_run mp_k_cX10_love_ok hF mp_tabX10_ok [mp_h (.ifCond .ne 6) [18]] (by decide +kernel) ?_
    refine And.intro (fun _ => ?_) (fun c_63 => absurd c_63 (by decide))
    show mp_W E X 4 18 [(0, .ref a0), (1, .int x0), (2, .int x1), (3, .int x2)] [] w4_ 0 0
    refine mp_run mp_k_cX10_love_ok hF mp_tabX10_ok [mp_i (.aload_n 0), mp_i (.iload_n 1), mp_i (.iload_n 2), mp_i (.iload_n 3)] (by decide +kernel) ?_
    show mp_W E X 4 22 [(0, .ref a0), (1, .int x0), (2, .int x1), (3, .int x2)] [.int x2, .int x1, .int x0, .ref a0] w4_ 0 0
    refine mp_callV hF (As := [.int x0, .int x1, .int x2]) (rest := []) (wr := [(mp_arI E a6 0 300 f5), (mp_arI E a8 0 6 g_14), (mp_arI E a9 0 6 g_15)]) (bX10_loves_123 E a0 a1 a2 a3 a4 a5 a7 a10 a11 a12 a13 a14 a15 a16 a17 a18 a6 a19 a8 a9 a20 a21 a22 a23 a24 a25 f0 f1 f2 f3 f4 g_13 g_16 f10 f11 0 y1 y2 y3 y4 y5 y6 y7 y8 y9 y10 r_12 y12 y13 y14 y15 y16 y17 y18 y19 y20 y21 x0 x1 x2 p0 p1 p2 p3 p4 p5 p6 p7 p8 p9 p10 p11 p12 p_23 (by (first | exact c_17 | omega)) (by (first | exact x_25 | omega)) (by (first | exact c_19 | omega)) (by (first | exact c_20 | omega)) l_y1 u_y1 l_y2 u_y2 l_y3 u_y3 l_y4 u_y4 l_21 u_22 l_y12 u_y12 l_y13 u_y13 (by (first | exact x_29 | omega)) (by first | assumption | (rw [rfl]; assumption)) (by (first | exact x_26 | omega))) mp_lkX10_393 4 rfl [4, 5, 6, 0, 7, 1, 9, 12, 2, 3] [8, 10, 11] rfl rfl rfl rfl rfl ⟨(Nat.le_of_ble_eq_true rfl), (Nat.le_of_ble_eq_true rfl), (Nat.le_of_ble_eq_true rfl), (Nat.le_of_ble_eq_true rfl)⟩ (Nat.le_of_ble_eq_true rfl) (by first | exact mp_fd_ok mp_k_cX10_love_ok (by decide +kernel) | decide +kernel) (fun v_64 w_65 h_66 => ?_)
    refine h_66.elim fun r_67 q_74 => q_74.elim fun r_68 q_75 => q_75.elim fun g_69 q_76 => q_76.elim fun g_70 q_77 => q_77.elim fun e_78 q_79 => q_79.elim fun u_71 q_80 => q_80.elim fun l_72 q_81 => q_81.elim fun u_73 e_82 => ?_
    clear h_66 q_74 q_75 q_76 q_77 q_79 q_80 q_81
    subst e_78
    subst e_82
    let w5_ : va_W := [(mp_arI E a6 0 300 f5), (mp_arI E a8 0 6 g_14), (mp_arI E a9 0 6 g_15), (mp_ob10 a0 0 a13 a14 a15 a16 a17 y1 y2 y3 y4 y5 y6 y7 y8 y9 y10 a18 a1 a2 a3 a4 a5 a6 a19 r_12 a7 a8 a9 a10 y12 y13 y14 a20 a21 r_67 r_68 a11 a12 a22 y17 y18 y19 y20 a23 a24 a25 y21), (mp_arI E a1 0 25 f0), (mp_arI E a2 0 180 f1), (mp_arI E a3 3 3000 f2), (mp_arI E a4 0 90 f3), (mp_arI E a5 0 300 f4), (mp_arI E a7 0 6 g_13), (mp_arI E a10 3 1500 g_16), (mp_arI E a11 0 6 g_69), (mp_arI E a12 0 6 g_70)]
    show mp_W E X 4 25 [(0, .ref a0), (1, .int x0), (2, .int x1), (3, .int x2)] [] w5_ 0 0
    refine mp_run mp_k_cX10_love_ok hF mp_tabX10_ok [mp_i (.aload_n 0), mp_h (.getfield 381) [34, 3], mp_c (.ldc 142) 1000000, mp_h (.if_icmp .lt 7) [38]] (by decide +kernel) ?_
    refine And.intro rfl (And.intro rfl ?_)
    refine And.intro (fun c_83 => ?_) (fun c_83 => ?_)
    · have c_83 : r_67.toInt < 1000000 := c_83
      show mp_W E X 4 38 [(0, .ref a0), (1, .int x0), (2, .int x1), (3, .int x2)] [] w5_ 0 0
      refine mp_run mp_k_cX10_love_ok hF mp_tabX10_ok [mp_i (.aload_n 0), mp_h (.getfield 381) [34, 3]] (by decide +kernel) ?_
      refine And.intro rfl (And.intro rfl ?_)
      show mp_W E X 4 42 [(0, .ref a0), (1, .int x0), (2, .int x1), (3, .int x2)] [.int r_67] w5_ 0 0
      exact mp_iret hF hQ rfl rfl (Nat.le_of_ble_eq_true rfl) (Nat.le_of_ble_eq_true rfl) [3, 4, 5, 6, 7, 8, 0, 9, 1, 2, 10, 11, 12] (w' := [(mp_ob10 a0 0 a13 a14 a15 a16 a17 y1 y2 y3 y4 y5 y6 y7 y8 y9 y10 a18 a1 a2 a3 a4 a5 a6 a19 r_12 a7 a8 a9 a10 y12 y13 y14 a20 a21 r_67 r_68 a11 a12 a22 y17 y18 y19 y20 a23 a24 a25 y21), (mp_arI E a1 0 25 f0), (mp_arI E a2 0 180 f1), (mp_arI E a3 3 3000 f2), (mp_arI E a4 0 90 f3), (mp_arI E a5 0 300 f4), (mp_arI E a6 0 300 f5), (mp_arI E a7 0 6 g_13), (mp_arI E a8 0 6 g_14), (mp_arI E a9 0 6 g_15), (mp_arI E a10 3 1500 g_16), (mp_arI E a11 0 6 g_69), (mp_arI E a12 0 6 g_70)]) rfl rfl ⟨r_12, r_67, r_68, g_13, g_14, g_15, g_16, g_69, g_70, r_67, rfl, l_21, u_22, (by (first | exact mp_o1729 c_83 | omega)), p_23, rfl⟩ (by first | exact mp_fd_ok mp_k_cX10_love_ok (by decide +kernel) | decide +kernel)
    · have c_83 : 1000000 ≤ r_67.toInt := c_83
      show mp_W E X 4 34 [(0, .ref a0), (1, .int x0), (2, .int x1), (3, .int x2)] [] w5_ 0 0
      refine mp_run mp_k_cX10_love_ok hF mp_tabX10_ok [mp_c (.iconst (-1)) (-1), mp_h (.goto 7) [42]] (by decide +kernel) ?_
      show mp_W E X 4 42 [(0, .ref a0), (1, .int x0), (2, .int x1), (3, .int x2)] [.int (-1)] w5_ 0 0
      exact mp_iret hF hQ rfl rfl (Nat.le_of_ble_eq_true rfl) (Nat.le_of_ble_eq_true rfl) [3, 4, 5, 6, 7, 8, 0, 9, 1, 2, 10, 11, 12] (w' := [(mp_ob10 a0 0 a13 a14 a15 a16 a17 y1 y2 y3 y4 y5 y6 y7 y8 y9 y10 a18 a1 a2 a3 a4 a5 a6 a19 r_12 a7 a8 a9 a10 y12 y13 y14 a20 a21 r_67 r_68 a11 a12 a22 y17 y18 y19 y20 a23 a24 a25 y21), (mp_arI E a1 0 25 f0), (mp_arI E a2 0 180 f1), (mp_arI E a3 3 3000 f2), (mp_arI E a4 0 90 f3), (mp_arI E a5 0 300 f4), (mp_arI E a6 0 300 f5), (mp_arI E a7 0 6 g_13), (mp_arI E a8 0 6 g_14), (mp_arI E a9 0 6 g_15), (mp_arI E a10 3 1500 g_16), (mp_arI E a11 0 6 g_69), (mp_arI E a12 0 6 g_70)]) rfl rfl ⟨r_12, r_67, r_68, g_13, g_14, g_15, g_16, g_69, g_70, (-1), rfl, l_21, u_22, (by decide), p_23, rfl⟩ (by first | exact mp_fd_ok mp_k_cX10_love_ok (by decide +kernel) | decide +kernel)
set_option maxHeartbeats 4000000 in
set_option maxRecDepth 100000 in
theorem bX10_when_125 (E : mp_E) (a0 a1 a2 a3 a4 a5 a6 a7 a8 a9 a10 a11 a12 a13 a14 a15 a16 a17 a18 a19 a20 a21 a22 a23 a24 a25 : Nat) (f0 : Nat → Int32) (f1 : Nat → Int32) (f2 : Nat → Int32) (f3 : Nat → Int32) (f4 : Nat → Int32) (f5 : Nat → Int32) (f6 : Nat → Int32) (f7 : Nat → Int32) (f8 : Nat → Int32) (f9 : Nat → Int32) (f10 : Nat → Int32) (f11 : Nat → Int32) (y0 : Int32) (y1 : Int32) (y2 : Int32) (y3 : Int32) (y4 : Int32) (y5 : Int32) (y6 : Int64) (y7 : Int32) (y8 : Int32) (y9 : Int32) (y10 : Int32) (y11 : Int32) (y12 : Int32) (y13 : Int32) (y14 : Int32) (y15 : Int32) (y16 : Int32) (y17 : Int32) (y18 : Int32) (y19 : Int32) (y20 : Int32) (y21 : Int32) (x0 : Int32) (x1 : Int32) (x2 : Int32) (p0 : mp_res f0 25 5 0 0 6) (p1 : mp_res f0 25 5 1 0 99) (p2 : mp_res f0 25 5 2 0 6) (p3 : mp_res f0 25 5 3 0 10) (p4 : mp_res f0 25 5 4 0 60) (p5 : mp_all f1 180 0 20) (p6 : mp_all f2 3000 0 1) (p7 : mp_res f3 90 3 0 0 5) (p8 : mp_res f3 90 3 1 (-1) 99) (p9 : mp_res f4 300 6 0 0 5) (p10 : mp_res f4 300 6 1 0 5) (p11 : mp_res f4 300 6 3 0 99) (p12 : mp_res f4 300 6 4 0 1) (p13 : mp_actm f5) (p14 : mp_all f6 6 0 5) (l_y1 : 0 ≤ y1.toInt) (u_y1 : y1.toInt ≤ 1600) (l_y2 : 0 ≤ y2.toInt) (u_y2 : y2.toInt ≤ 1600) (l_y3 : 0 ≤ y3.toInt) (u_y3 : y3.toInt ≤ 4) (l_y4 : 0 ≤ y4.toInt) (u_y4 : y4.toInt ≤ 1600) (l_y11 : 0 ≤ y11.toInt) (u_y11 : y11.toInt ≤ 99) (l_y12 : 0 ≤ y12.toInt) (u_y12 : y12.toInt ≤ 5) (l_y13 : 0 ≤ y13.toInt) (u_y13 : y13.toInt ≤ 12) (q0 : mp_prm f4 (f0 3).toInt) (q1 : (f0 1).toInt + mp_k200 f5 (f0 4).toInt ≤ 99) : mp_Ct E yX10_when cX10_when 4 (some FieldType.int) 15 0 0 366 [.ref a0, .int x0, .int x1, .int x2] [(mp_ob10 a0 y0 a13 a14 a15 a16 a17 y1 y2 y3 y4 y5 y6 y7 y8 y9 y10 a18 a1 a2 a3 a4 a5 a6 a19 y11 a7 a8 a9 a10 y12 y13 y14 a20 a21 y15 y16 a11 a12 a22 y17 y18 y19 y20 a23 a24 a25 y21), (mp_arI E a1 0 25 f0), (mp_arI E a2 0 180 f1), (mp_arI E a3 3 3000 f2), (mp_arI E a4 0 90 f3), (mp_arI E a5 0 300 f4), (mp_arI E a6 0 300 f5), (mp_arI E a7 0 6 f6), (mp_arI E a8 0 6 f7), (mp_arI E a9 0 6 f8), (mp_arI E a10 3 1500 f9), (mp_arI E a11 0 6 f10), (mp_arI E a12 0 6 f11)] (fun v w' => ∃ r1 : Int32, ∃ r2 : Int32, ∃ r3 : Int32, ∃ h4 : Nat → Int32, ∃ h5 : Nat → Int32, ∃ h6 : Nat → Int32, ∃ h7 : Nat → Int32, ∃ h8 : Nat → Int32, ∃ h9 : Nat → Int32, ∃ r10 : Int32, v = some (.int r10) ∧ 0 ≤ r1.toInt ∧ r1.toInt ≤ 99 ∧ (-2) ≤ r10.toInt ∧ r10.toInt ≤ 240 ∧ mp_all h4 6 0 5 ∧ w' = [(mp_ob10 a0 0 a13 a14 a15 a16 a17 y1 y2 y3 y4 y5 y6 y7 y8 y9 y10 a18 a1 a2 a3 a4 a5 a6 a19 r1 a7 a8 a9 a10 y12 y13 y14 a20 a21 r2 r3 a11 a12 a22 y17 y18 y19 y20 a23 a24 a25 y21), (mp_arI E a1 0 25 f0), (mp_arI E a2 0 180 f1), (mp_arI E a3 3 3000 f2), (mp_arI E a4 0 90 f3), (mp_arI E a5 0 300 f4), (mp_arI E a6 0 300 f5), (mp_arI E a7 0 6 h4), (mp_arI E a8 0 6 h5), (mp_arI E a9 0 6 h6), (mp_arI E a10 3 1500 h7), (mp_arI E a11 0 6 h8), (mp_arI E a12 0 6 h9)]) := by
  refine mp_met false (by decide) (by decide) (Nat.le_of_ble_eq_true rfl) (fun X hF hQ => ?_)
  have hF : mp_F E X (RX10, cX10_when, 4, (15, 0, 0, 366), (some FieldType.int), false) := hF
  let w1_ : va_W := [(mp_ob10 a0 y0 a13 a14 a15 a16 a17 y1 y2 y3 y4 y5 y6 y7 y8 y9 y10 a18 a1 a2 a3 a4 a5 a6 a19 y11 a7 a8 a9 a10 y12 y13 y14 a20 a21 y15 y16 a11 a12 a22 y17 y18 y19 y20 a23 a24 a25 y21), (mp_arI E a1 0 25 f0), (mp_arI E a2 0 180 f1), (mp_arI E a3 3 3000 f2), (mp_arI E a4 0 90 f3), (mp_arI E a5 0 300 f4), (mp_arI E a6 0 300 f5), (mp_arI E a7 0 6 f6), (mp_arI E a8 0 6 f7), (mp_arI E a9 0 6 f8), (mp_arI E a10 3 1500 f9), (mp_arI E a11 0 6 f10), (mp_arI E a12 0 6 f11)]
  show mp_W E X 4 0 [(0, .ref a0), (1, .int x0), (2, .int x1), (3, .int x2)] [] w1_ 0 0
  refine mp_run mp_k_cX10_when_ok hF mp_tabX10_ok [mp_i (.aload_n 0), mp_c (.iconst 0) 0, mp_h (.putfield 92) [0, 0]] (by decide +kernel) ?_
  refine And.intro rfl (And.intro rfl (And.intro rfl (And.intro rfl (And.intro (Nat.le_of_ble_eq_true rfl) ?_))))
  let w2_ : va_W := [(mp_ob10 a0 0 a13 a14 a15 a16 a17 y1 y2 y3 y4 y5 y6 y7 y8 y9 y10 a18 a1 a2 a3 a4 a5 a6 a19 y11 a7 a8 a9 a10 y12 y13 y14 a20 a21 y15 y16 a11 a12 a22 y17 y18 y19 y20 a23 a24 a25 y21), (mp_arI E a1 0 25 f0), (mp_arI E a2 0 180 f1), (mp_arI E a3 3 3000 f2), (mp_arI E a4 0 90 f3), (mp_arI E a5 0 300 f4), (mp_arI E a6 0 300 f5), (mp_arI E a7 0 6 f6), (mp_arI E a8 0 6 f7), (mp_arI E a9 0 6 f8), (mp_arI E a10 3 1500 f9), (mp_arI E a11 0 6 f10), (mp_arI E a12 0 6 f11)]
  show mp_W E X 4 5 [(0, .ref a0), (1, .int x0), (2, .int x1), (3, .int x2)] [] w2_ 0 0
  refine mp_run mp_k_cX10_when_ok hF mp_tabX10_ok [mp_i (.aload_n 0), mp_i (.iload_n 1), mp_i (.iload_n 2), mp_i (.iload_n 3)] (by decide +kernel) ?_
  show mp_W E X 4 9 [(0, .ref a0), (1, .int x0), (2, .int x1), (3, .int x2)] [.int x2, .int x1, .int x0, .ref a0] w2_ 0 0
  refine mp_callV hF (As := [.int x0, .int x1, .int x2]) (rest := []) (wr := [(mp_arI E a3 3 3000 f2), (mp_arI E a5 0 300 f4), (mp_arI E a11 0 6 f10), (mp_arI E a12 0 6 f11)]) (bX10_isLove_121 E a0 a1 a2 a4 a6 a7 a8 a9 a10 a13 a14 a15 a16 a17 a18 a3 a5 a19 a20 a21 a11 a12 a22 a23 a24 a25 f0 f1 f3 f5 f6 f7 f8 f9 0 y1 y2 y3 y4 y5 y6 y7 y8 y9 y10 y11 y12 y13 y14 y15 y16 y17 y18 y19 y20 y21 x0 x1 x2 p0 p1 p2 p3 p4 p5 p7 p8 p13 p14 l_y1 u_y1 l_y2 u_y2 l_y3 u_y3 l_y4 u_y4 l_y11 u_y11 l_y12 u_y12 l_y13 u_y13 (by (first | exact q1 | omega))) mp_lkX10_390 0 rfl [0, 1, 2, 4, 6, 7, 8, 9, 10] [3, 5, 11, 12] rfl rfl rfl rfl rfl ⟨(Nat.le_of_ble_eq_true rfl), (Nat.le_of_ble_eq_true rfl), (Nat.le_of_ble_eq_true rfl), (Nat.le_of_ble_eq_true rfl)⟩ (Nat.le_of_ble_eq_true rfl) (by first | exact mp_fd_ok mp_k_cX10_when_ok (by decide +kernel) | decide +kernel) (fun v_1 w_2 h_3 => ?_)
  refine h_3.elim (fun q_30 => ?_) (fun q_31 => ?_)
  · skip
    refine q_30.elim fun r_4 q_32 => q_32.elim fun g_5 q_33 => q_33.elim fun g_6 q_34 => q_34.elim fun g_7 q_35 => q_35.elim fun g_8 q_36 => q_36.elim fun e_37 q_38 => q_38.elim fun l_9 q_39 => q_39.elim fun u_10 q_40 => q_40.elim fun p_11 e_41 => ?_
    clear h_3 q_30 q_32 q_33 q_34 q_35 q_36 q_38 q_39 q_40
    subst e_37
    subst e_41
    let w3_ : va_W := [(mp_arI E a3 3 3000 f2), (mp_arI E a5 0 300 f4), (mp_arI E a11 0 6 f10), (mp_arI E a12 0 6 f11), (mp_ob10 a0 0 a13 a14 a15 a16 a17 y1 y2 y3 y4 y5 y6 y7 y8 y9 y10 a18 a1 a2 a3 a4 a5 a6 a19 r_4 a7 a8 a9 a10 y12 y13 y14 a20 a21 y15 y16 a11 a12 a22 y17 y18 y19 y20 a23 a24 a25 y21), (mp_arI E a1 0 25 f0), (mp_arI E a2 0 180 f1), (mp_arI E a4 0 90 f3), (mp_arI E a6 0 300 f5), (mp_arI E a7 0 6 g_5), (mp_arI E a8 0 6 g_6), (mp_arI E a9 0 6 g_7), (mp_arI E a10 3 1500 g_8)]
    show mp_W E X 4 12 [(0, .ref a0), (1, .int x0), (2, .int x1), (3, .int x2)] [.int 0] w3_ 0 0
    refine mp_run mp_k_cX10_when_ok hF mp_tabX10_ok [mp_h (.ifCond .ne 6) [18]] (by decide +kernel) ?_
    refine And.intro (fun c_42 => absurd c_42 (by decide)) (fun _ => ?_)
    show mp_W E X 4 15 [(0, .ref a0), (1, .int x0), (2, .int x1), (3, .int x2)] [] w3_ 0 0
    refine mp_run mp_k_cX10_when_ok hF mp_tabX10_ok [mp_c (.bipush (-2)) (-2)] (by decide +kernel) ?_
    show mp_W E X 4 17 [(0, .ref a0), (1, .int x0), (2, .int x1), (3, .int x2)] [.int (-2)] w3_ 0 0
    exact mp_iret hF hQ rfl rfl (Nat.le_of_ble_eq_true rfl) (Nat.le_of_ble_eq_true rfl) [4, 5, 6, 0, 7, 1, 8, 9, 10, 11, 12, 2, 3] (w' := [(mp_ob10 a0 0 a13 a14 a15 a16 a17 y1 y2 y3 y4 y5 y6 y7 y8 y9 y10 a18 a1 a2 a3 a4 a5 a6 a19 r_4 a7 a8 a9 a10 y12 y13 y14 a20 a21 y15 y16 a11 a12 a22 y17 y18 y19 y20 a23 a24 a25 y21), (mp_arI E a1 0 25 f0), (mp_arI E a2 0 180 f1), (mp_arI E a3 3 3000 f2), (mp_arI E a4 0 90 f3), (mp_arI E a5 0 300 f4), (mp_arI E a6 0 300 f5), (mp_arI E a7 0 6 g_5), (mp_arI E a8 0 6 g_6), (mp_arI E a9 0 6 g_7), (mp_arI E a10 3 1500 g_8), (mp_arI E a11 0 6 f10), (mp_arI E a12 0 6 f11)]) rfl rfl ⟨r_4, y15, y16, g_5, g_6, g_7, g_8, f10, f11, (-2), rfl, l_9, u_10, (by decide), (by decide), p_11, rfl⟩ (by first | exact mp_fd_ok mp_k_cX10_when_ok (by decide +kernel) | decide +kernel)
  · skip
    refine q_31.elim fun r_12 q_43 => q_43.elim fun g_13 q_44 => q_44.elim fun g_14 q_45 => q_45.elim fun g_15 q_46 => q_46.elim fun g_16 q_47 => q_47.elim fun e_48 q_49 => q_49.elim fun c_17 q_50 => q_50.elim fun c_18 q_51 => q_51.elim fun c_19 q_52 => q_52.elim fun c_20 q_53 => q_53.elim fun l_21 q_54 => q_54.elim fun u_22 q_55 => q_55.elim fun p_23 q_56 => q_56.elim fun x_24 q_57 => q_57.elim fun x_25 q_58 => q_58.elim fun x_26 q_59 => q_59.elim fun x_27 q_60 => q_60.elim fun x_28 q_61 => q_61.elim fun x_29 e_62 => ?_
    clear h_3 q_31 q_43 q_44 q_45 q_46 q_47 q_49 q_50 q_51 q_52 q_53 q_54 q_55 q_56 q_57 q_58 q_59 q_60 q_61
    subst e_48
    subst e_62
    have c_17 : 0 ≤ x0.toInt := c_17
    have c_18 : 1 ≤ x1.toInt := c_18
    have c_19 : 0 ≤ x2.toInt := c_19
    have c_20 : x2.toInt ≤ 12 := c_20
    let w4_ : va_W := [(mp_arI E a3 3 3000 f2), (mp_arI E a5 0 300 f4), (mp_arI E a11 0 6 f10), (mp_arI E a12 0 6 f11), (mp_ob10 a0 0 a13 a14 a15 a16 a17 y1 y2 y3 y4 y5 y6 y7 y8 y9 y10 a18 a1 a2 a3 a4 a5 a6 a19 r_12 a7 a8 a9 a10 y12 y13 y14 a20 a21 y15 y16 a11 a12 a22 y17 y18 y19 y20 a23 a24 a25 y21), (mp_arI E a1 0 25 f0), (mp_arI E a2 0 180 f1), (mp_arI E a4 0 90 f3), (mp_arI E a6 0 300 f5), (mp_arI E a7 0 6 g_13), (mp_arI E a8 0 6 g_14), (mp_arI E a9 0 6 g_15), (mp_arI E a10 3 1500 g_16)]
    show mp_W E X 4 12 [(0, .ref a0), (1, .int x0), (2, .int x1), (3, .int x2)] [.int 1] w4_ 0 0
    refine mp_run mp_k_cX10_when_ok hF mp_tabX10_ok [mp_h (.ifCond .ne 6) [18]] (by decide +kernel) ?_
    refine And.intro (fun _ => ?_) (fun c_63 => absurd c_63 (by decide))
    show mp_W E X 4 18 [(0, .ref a0), (1, .int x0), (2, .int x1), (3, .int x2)] [] w4_ 0 0
    refine mp_run mp_k_cX10_when_ok hF mp_tabX10_ok [mp_i (.aload_n 0), mp_i (.iload_n 1), mp_i (.iload_n 2), mp_i (.iload_n 3)] (by decide +kernel) ?_
    show mp_W E X 4 22 [(0, .ref a0), (1, .int x0), (2, .int x1), (3, .int x2)] [.int x2, .int x1, .int x0, .ref a0] w4_ 0 0
    refine mp_callV hF (As := [.int x0, .int x1, .int x2]) (rest := []) (wr := [(mp_arI E a6 0 300 f5), (mp_arI E a8 0 6 g_14), (mp_arI E a9 0 6 g_15)]) (bX10_loves_123 E a0 a1 a2 a3 a4 a5 a7 a10 a11 a12 a13 a14 a15 a16 a17 a18 a6 a19 a8 a9 a20 a21 a22 a23 a24 a25 f0 f1 f2 f3 f4 g_13 g_16 f10 f11 0 y1 y2 y3 y4 y5 y6 y7 y8 y9 y10 r_12 y12 y13 y14 y15 y16 y17 y18 y19 y20 y21 x0 x1 x2 p0 p1 p2 p3 p4 p5 p6 p7 p8 p9 p10 p11 p12 p_23 (by (first | exact c_17 | omega)) (by (first | exact x_25 | omega)) (by (first | exact c_19 | omega)) (by (first | exact c_20 | omega)) l_y1 u_y1 l_y2 u_y2 l_y3 u_y3 l_y4 u_y4 l_21 u_22 l_y12 u_y12 l_y13 u_y13 (by (first | exact x_29 | omega)) (by first | assumption | (rw [rfl]; assumption)) (by (first | exact x_26 | omega))) mp_lkX10_393 4 rfl [4, 5, 6, 0, 7, 1, 9, 12, 2, 3] [8, 10, 11] rfl rfl rfl rfl rfl ⟨(Nat.le_of_ble_eq_true rfl), (Nat.le_of_ble_eq_true rfl), (Nat.le_of_ble_eq_true rfl), (Nat.le_of_ble_eq_true rfl)⟩ (Nat.le_of_ble_eq_true rfl) (by first | exact mp_fd_ok mp_k_cX10_when_ok (by decide +kernel) | decide +kernel) (fun v_64 w_65 h_66 => ?_)
    refine h_66.elim fun r_67 q_74 => q_74.elim fun r_68 q_75 => q_75.elim fun g_69 q_76 => q_76.elim fun g_70 q_77 => q_77.elim fun e_78 q_79 => q_79.elim fun u_71 q_80 => q_80.elim fun l_72 q_81 => q_81.elim fun u_73 e_82 => ?_
    clear h_66 q_74 q_75 q_76 q_77 q_79 q_80 q_81
    subst e_78
    subst e_82
    let w5_ : va_W := [(mp_arI E a6 0 300 f5), (mp_arI E a8 0 6 g_14), (mp_arI E a9 0 6 g_15), (mp_ob10 a0 0 a13 a14 a15 a16 a17 y1 y2 y3 y4 y5 y6 y7 y8 y9 y10 a18 a1 a2 a3 a4 a5 a6 a19 r_12 a7 a8 a9 a10 y12 y13 y14 a20 a21 r_67 r_68 a11 a12 a22 y17 y18 y19 y20 a23 a24 a25 y21), (mp_arI E a1 0 25 f0), (mp_arI E a2 0 180 f1), (mp_arI E a3 3 3000 f2), (mp_arI E a4 0 90 f3), (mp_arI E a5 0 300 f4), (mp_arI E a7 0 6 g_13), (mp_arI E a10 3 1500 g_16), (mp_arI E a11 0 6 g_69), (mp_arI E a12 0 6 g_70)]
    show mp_W E X 4 25 [(0, .ref a0), (1, .int x0), (2, .int x1), (3, .int x2)] [] w5_ 0 0
    refine mp_run mp_k_cX10_when_ok hF mp_tabX10_ok [mp_i (.aload_n 0), mp_h (.getfield 384) [35, 3]] (by decide +kernel) ?_
    refine And.intro rfl (And.intro rfl ?_)
    show mp_W E X 4 29 [(0, .ref a0), (1, .int x0), (2, .int x1), (3, .int x2)] [.int r_68] w5_ 0 0
    exact mp_iret hF hQ rfl rfl (Nat.le_of_ble_eq_true rfl) (Nat.le_of_ble_eq_true rfl) [3, 4, 5, 6, 7, 8, 0, 9, 1, 2, 10, 11, 12] (w' := [(mp_ob10 a0 0 a13 a14 a15 a16 a17 y1 y2 y3 y4 y5 y6 y7 y8 y9 y10 a18 a1 a2 a3 a4 a5 a6 a19 r_12 a7 a8 a9 a10 y12 y13 y14 a20 a21 r_67 r_68 a11 a12 a22 y17 y18 y19 y20 a23 a24 a25 y21), (mp_arI E a1 0 25 f0), (mp_arI E a2 0 180 f1), (mp_arI E a3 3 3000 f2), (mp_arI E a4 0 90 f3), (mp_arI E a5 0 300 f4), (mp_arI E a6 0 300 f5), (mp_arI E a7 0 6 g_13), (mp_arI E a8 0 6 g_14), (mp_arI E a9 0 6 g_15), (mp_arI E a10 3 1500 g_16), (mp_arI E a11 0 6 g_69), (mp_arI E a12 0 6 g_70)]) rfl rfl ⟨r_12, r_67, r_68, g_13, g_14, g_15, g_16, g_69, g_70, r_68, rfl, l_21, u_22, (by (first | exact mp_o446 l_72 | omega)), u_73, p_23, rfl⟩ (by first | exact mp_fd_ok mp_k_cX10_when_ok (by decide +kernel) | decide +kernel)
set_option maxHeartbeats 4000000 in
set_option maxRecDepth 100000 in
theorem bX10_isUnder_126 (E : mp_E) (a0 a1 a2 a3 a4 a5 a6 a7 a8 a9 a10 a11 a12 a13 a14 a15 a16 a17 a18 a19 a20 a21 a22 a23 a24 a25 : Nat) (f0 : Nat → Int32) (f1 : Nat → Int32) (y0 : Int32) (y1 : Int32) (y2 : Int32) (y3 : Int32) (y4 : Int32) (y5 : Int32) (y6 : Int64) (y7 : Int32) (y8 : Int32) (y9 : Int32) (y10 : Int32) (y11 : Int32) (y12 : Int32) (y13 : Int32) (y14 : Int32) (y15 : Int32) (y16 : Int32) (y17 : Int32) (y18 : Int32) (y19 : Int32) (y20 : Int32) (y21 : Int32) (x0 : Int32) (p0 : mp_res f0 25 5 0 0 6) (p1 : mp_res f0 25 5 1 0 99) (p2 : mp_res f0 25 5 2 0 6) (p3 : mp_res f0 25 5 3 0 10) (p4 : mp_res f0 25 5 4 0 60) (p5 : mp_res f1 300 6 0 0 5) (p6 : mp_res f1 300 6 1 0 5) (p7 : mp_res f1 300 6 3 0 99) (p8 : mp_res f1 300 6 4 0 1) (l_y1 : 0 ≤ y1.toInt) (u_y1 : y1.toInt ≤ 1600) (l_y2 : 0 ≤ y2.toInt) (u_y2 : y2.toInt ≤ 1600) (l_y3 : 0 ≤ y3.toInt) (u_y3 : y3.toInt ≤ 4) (l_y4 : 0 ≤ y4.toInt) (u_y4 : y4.toInt ≤ 1600) (l_y11 : 0 ≤ y11.toInt) (u_y11 : y11.toInt ≤ 99) (l_y12 : 0 ≤ y12.toInt) (u_y12 : y12.toInt ≤ 5) (l_y13 : 0 ≤ y13.toInt) (u_y13 : y13.toInt ≤ 12) : mp_Ct E yX10_isUnder cX10_isUnder 3 (some FieldType.boolean) 1 0 0 22 [.ref a0, .int x0] [(mp_ob10 a0 y0 a3 a4 a5 a6 a7 y1 y2 y3 y4 y5 y6 y7 y8 y9 y10 a8 a1 a9 a10 a11 a2 a12 a13 y11 a14 a15 a16 a17 y12 y13 y14 a18 a19 y15 y16 a20 a21 a22 y17 y18 y19 y20 a23 a24 a25 y21), (mp_arI E a1 0 25 f0), (mp_arI E a2 0 300 f1)] (fun v w' => (v = some (.int 0) ∧ w' = [(mp_ob10 a0 y0 a3 a4 a5 a6 a7 y1 y2 y3 y4 y5 y6 y7 y8 y9 y10 a8 a1 a9 a10 a11 a2 a12 a13 y11 a14 a15 a16 a17 y12 y13 y14 a18 a19 y15 y16 a20 a21 a22 y17 y18 y19 y20 a23 a24 a25 y21), (mp_arI E a1 0 25 f0), (mp_arI E a2 0 300 f1)]) ∨ (v = some (.int 1) ∧ w' = [(mp_ob10 a0 y0 a3 a4 a5 a6 a7 y1 y2 y3 y4 y5 y6 y7 y8 y9 y10 a8 a1 a9 a10 a11 a2 a12 a13 y11 a14 a15 a16 a17 y12 y13 y14 a18 a19 y15 y16 a20 a21 a22 y17 y18 y19 y20 a23 a24 a25 y21), (mp_arI E a1 0 25 f0), (mp_arI E a2 0 300 f1)])) := by
  refine mp_met false (by decide) (by decide) (Nat.le_of_ble_eq_true rfl) (fun X hF hQ => ?_)
  have hF : mp_F E X (RX10, cX10_isUnder, 3, (1, 0, 0, 22), (some FieldType.boolean), false) := hF
  let w1_ : va_W := [(mp_ob10 a0 y0 a3 a4 a5 a6 a7 y1 y2 y3 y4 y5 y6 y7 y8 y9 y10 a8 a1 a9 a10 a11 a2 a12 a13 y11 a14 a15 a16 a17 y12 y13 y14 a18 a19 y15 y16 a20 a21 a22 y17 y18 y19 y20 a23 a24 a25 y21), (mp_arI E a1 0 25 f0), (mp_arI E a2 0 300 f1)]
  show mp_W E X 3 0 [(0, .ref a0), (1, .int x0)] [] w1_ 0 0
  refine mp_run mp_k_cX10_isUnder_ok hF mp_tabX10_ok [mp_c (.iconst 0) 0, mp_i (.istore_n 2)] (by decide +kernel) ?_
  show mp_W E X 3 2 [(2, .int 0), (0, .ref a0), (1, .int x0)] [] w1_ 0 0
  have lp_4 : ∀ (d_5 : Nat) (i_1 : Int32), 0 ≤ i_1.toInt → i_1.toInt ≤ 10 → (f0 3).toInt - i_1.toInt ≤ (d_5 : Int) → mp_W E X 3 2 [(2, .int i_1), (0, .ref a0), (1, .int x0)] [] [(mp_ob10 a0 y0 a3 a4 a5 a6 a7 y1 y2 y3 y4 y5 y6 y7 y8 y9 y10 a8 a1 a9 a10 a11 a2 a12 a13 y11 a14 a15 a16 a17 y12 y13 y14 a18 a19 y15 y16 a20 a21 a22 y17 y18 y19 y20 a23 a24 a25 y21), (mp_arI E a1 0 25 f0), (mp_arI E a2 0 300 f1)] 0 0 := by
    intro d_5
    induction d_5 using Nat.strongRecOn with
    | ind d_5 ih_6 =>
      intro i_1 l_2 u_3 hm_7
      refine mp_run mp_k_cX10_isUnder_ok hF mp_tabX10_ok [mp_i (.iload_n 2), mp_i (.aload_n 0), mp_h (.getfield 34) [17, 0], mp_c (.iconst 3) 3, mp_h .iaload [1], mp_h (.if_icmp .ge 21) [30]] (by decide +kernel) ?_
      refine And.intro rfl (And.intro rfl ?_)
      refine And.intro rfl (And.intro rfl (And.intro (vp_in_iff.mpr (by decide)) ?_))
      intro z_8 h_9
      have e_10 : 0 ≤ z_8.toInt ∧ z_8.toInt ≤ 10 := mp_res_ld h_9 p3 (by decide) (by decide) (by decide)
      have e_11 : z_8.toInt = (f0 3).toInt := congrArg Int32.toInt (mp_at h_9 (by decide) rfl)
      refine And.intro (fun c_12 => ?_) (fun c_12 => ?_)
      · have c_12 : z_8.toInt ≤ i_1.toInt := c_12
        show mp_W E X 3 30 [(2, .int i_1), (0, .ref a0), (1, .int x0)] [] w1_ 0 0
        refine mp_run mp_k_cX10_isUnder_ok hF mp_tabX10_ok [mp_c (.iconst 0) 0] (by decide +kernel) ?_
        show mp_W E X 3 31 [(2, .int i_1), (0, .ref a0), (1, .int x0)] [.int 0] w1_ 0 0
        exact mp_iret hF hQ rfl (by decide) (Nat.le_of_ble_eq_true rfl) (Nat.le_of_ble_eq_true rfl) [0, 1, 2] (w' := w1_) rfl rfl (Or.inl ⟨rfl, rfl⟩) (by first | exact mp_fd_ok mp_k_cX10_isUnder_ok (by decide +kernel) | decide +kernel)
      · have c_12 : i_1.toInt < z_8.toInt := c_12
        show mp_W E X 3 12 [(2, .int i_1), (0, .ref a0), (1, .int x0)] [] w1_ 0 0
        refine mp_run mp_k_cX10_isUnder_ok hF mp_tabX10_ok [mp_i (.aload_n 0), mp_i (.iload_n 2), mp_c (.iconst 5) 5] (by decide +kernel) ?_
        show mp_W E X 3 15 [(2, .int i_1), (0, .ref a0), (1, .int x0)] [.int 5, .int i_1, .ref a0] w1_ 0 0
        refine mp_callV hF (As := [.int i_1, .int 5]) (rest := []) (wr := [(mp_arI E a1 0 25 f0)]) (bX10_of_67 E a0 a2 a3 a4 a5 a6 a7 a8 a1 a9 a10 a11 a12 a13 a14 a15 a16 a17 a18 a19 a20 a21 a22 a23 a24 a25 f1 y0 y1 y2 y3 y4 y5 y6 y7 y8 y9 y10 y11 y12 y13 y14 y15 y16 y17 y18 y19 y20 y21 i_1 p5 p6 p7 p8 l_2 (by (first | exact mp_o1533 c_12 e_10 | omega)) l_y1 u_y1 l_y2 u_y2 l_y3 u_y3 l_y4 u_y4 l_y11 u_y11 l_y12 u_y12 l_y13 u_y13) mp_lkX10_267 0 rfl [0, 2] [1] rfl rfl rfl rfl rfl ⟨(Nat.le_of_ble_eq_true rfl), (Nat.le_of_ble_eq_true rfl), (Nat.le_of_ble_eq_true rfl), (Nat.le_of_ble_eq_true rfl)⟩ (Nat.le_of_ble_eq_true rfl) (by first | exact mp_fd_ok mp_k_cX10_isUnder_ok (by decide +kernel) | decide +kernel) (fun v_13 w_14 h_15 => ?_)
        obtain ⟨r_16, rfl, x_17, rfl⟩ := h_15
        let w2_ : va_W := [(mp_arI E a1 0 25 f0), (mp_ob10 a0 y0 a3 a4 a5 a6 a7 y1 y2 y3 y4 y5 y6 y7 y8 y9 y10 a8 a1 a9 a10 a11 a2 a12 a13 y11 a14 a15 a16 a17 y12 y13 y14 a18 a19 y15 y16 a20 a21 a22 y17 y18 y19 y20 a23 a24 a25 y21), (mp_arI E a2 0 300 f1)]
        show mp_W E X 3 18 [(2, .int i_1), (0, .ref a0), (1, .int x0)] [.int r_16] w2_ 0 0
        refine mp_run mp_k_cX10_isUnder_ok hF mp_tabX10_ok [mp_i (.iload_n 1), mp_h (.if_icmp .ne 5) [24]] (by decide +kernel) ?_
        refine And.intro (fun c_18 => ?_) (fun c_18 => ?_)
        · have c_18 : r_16.toInt ≠ x0.toInt := c_18
          show mp_W E X 3 24 [(2, .int i_1), (0, .ref a0), (1, .int x0)] [] w2_ 0 0
          refine mp_run mp_k_cX10_isUnder_ok hF mp_tabX10_ok [mp_c (.iinc 2 1) 1, mp_h (.goto (-25)) [2]] (by decide +kernel) ?_
          intro z_19 h_20
          have e_21 : z_19.toInt = i_1.toInt + 1 := mp_add (a := i_1.toInt) (b := 1) h_20 rfl (by decide) (by (first | exact mp_o2 l_2 | omega)) (by (first | exact mp_o420 u_3 | omega))
          show mp_W E X 3 2 [(2, .int z_19), (0, .ref a0), (1, .int x0)] [] w2_ 0 0
          exact mp_sub [0, 1, 2] rfl [1, 0, 2] rfl rfl (ih_6 (d_5 - 1) (by (first | exact mp_o1454 hm_7 e_11 c_12 | omega)) z_19 (by (first | exact mp_o51 l_2 e_21 | omega)) (by (first | exact mp_o1534 e_21 c_12 e_10 | omega)) (by (first | exact mp_o77 hm_7 e_21 | omega)))
        · have c_18 : r_16.toInt = x0.toInt := (congrArg Int32.toInt c_18)
          show mp_W E X 3 22 [(2, .int i_1), (0, .ref a0), (1, .int x0)] [] w2_ 0 0
          refine mp_run mp_k_cX10_isUnder_ok hF mp_tabX10_ok [mp_c (.iconst 1) 1] (by decide +kernel) ?_
          show mp_W E X 3 23 [(2, .int i_1), (0, .ref a0), (1, .int x0)] [.int 1] w2_ 0 0
          exact mp_iret hF hQ rfl (by decide) (Nat.le_of_ble_eq_true rfl) (Nat.le_of_ble_eq_true rfl) [1, 0, 2] (w' := w1_) rfl rfl (Or.inr ⟨rfl, rfl⟩) (by first | exact mp_fd_ok mp_k_cX10_isUnder_ok (by decide +kernel) | decide +kernel)
  exact mp_sub [0, 1, 2] rfl [0, 1, 2] rfl rfl (lp_4 _ 0 (by decide) (by decide) (Int.self_le_toNat _))
set_option maxHeartbeats 4000000 in
set_option maxRecDepth 100000 in
theorem bX10_joinOf_127 (E : mp_E) (a0 a1 a2 a3 a4 a5 a6 a7 a8 a9 a10 a11 a12 a13 a14 a15 a16 a17 a18 a19 a20 a21 a22 a23 a24 a25 : Nat) (f0 : Nat → Int32) (f1 : Nat → Int32) (f2 : Nat → Int32) (f3 : Nat → Int32) (y0 : Int32) (y1 : Int32) (y2 : Int32) (y3 : Int32) (y4 : Int32) (y5 : Int32) (y6 : Int64) (y7 : Int32) (y8 : Int32) (y9 : Int32) (y10 : Int32) (y11 : Int32) (y12 : Int32) (y13 : Int32) (y14 : Int32) (y15 : Int32) (y16 : Int32) (y17 : Int32) (y18 : Int32) (y19 : Int32) (y20 : Int32) (y21 : Int32) (x0 : Int32) (x1 : Int32) (p0 : mp_res f0 25 5 0 0 6) (p1 : mp_res f0 25 5 1 0 99) (p2 : mp_res f0 25 5 2 0 6) (p3 : mp_res f0 25 5 3 0 10) (p4 : mp_res f0 25 5 4 0 60) (p5 : mp_res f1 90 3 0 0 5) (p6 : mp_res f1 90 3 1 (-1) 99) (p7 : mp_res f2 300 6 0 0 5) (p8 : mp_res f2 300 6 1 0 5) (p9 : mp_res f2 300 6 3 0 99) (p10 : mp_res f2 300 6 4 0 1) (l_x0 : 0 ≤ x0.toInt) (u_x0 : x0.toInt ≤ 9) (l_x1 : 0 ≤ x1.toInt) (u_x1 : x1.toInt ≤ 9) (l_y1 : 0 ≤ y1.toInt) (u_y1 : y1.toInt ≤ 1600) (l_y2 : 0 ≤ y2.toInt) (u_y2 : y2.toInt ≤ 1600) (l_y3 : 0 ≤ y3.toInt) (u_y3 : y3.toInt ≤ 4) (l_y4 : 0 ≤ y4.toInt) (u_y4 : y4.toInt ≤ 1600) (l_y11 : 0 ≤ y11.toInt) (u_y11 : y11.toInt ≤ 99) (l_y12 : 0 ≤ y12.toInt) (u_y12 : y12.toInt ≤ 5) (l_y13 : 0 ≤ y13.toInt) (u_y13 : y13.toInt ≤ 12) (q0 : mp_prm f2 (f0 3).toInt) (q1 : x0.toInt < (f0 3).toInt) (q2 : x1.toInt < (f0 3).toInt) : mp_Ct E yX10_joinOf cX10_joinOf 4 (some FieldType.int) 14 0 0 334 [.ref a0, .int x0, .int x1] [(mp_ob10 a0 y0 a5 a6 a7 a8 a9 y1 y2 y3 y4 y5 y6 y7 y8 y9 y10 a10 a1 a11 a12 a2 a3 a13 a14 y11 a15 a16 a17 a4 y12 y13 y14 a18 a19 y15 y16 a20 a21 a22 y17 y18 y19 y20 a23 a24 a25 y21), (mp_arI E a1 0 25 f0), (mp_arI E a2 0 90 f1), (mp_arI E a3 0 300 f2), (mp_arI E a4 3 1500 f3)] (fun v w' => ∃ r1 : Int32, v = some (.int r1) ∧ w' = [(mp_ob10 a0 y0 a5 a6 a7 a8 a9 y1 y2 y3 y4 y5 y6 y7 y8 y9 y10 a10 a1 a11 a12 a2 a3 a13 a14 y11 a15 a16 a17 a4 y12 y13 y14 a18 a19 y15 y16 a20 a21 a22 y17 y18 y19 y20 a23 a24 a25 y21), (mp_arI E a1 0 25 f0), (mp_arI E a2 0 90 f1), (mp_arI E a3 0 300 f2), (mp_arI E a4 3 1500 f3)]) := by
  refine mp_met false (by decide) (by decide) (Nat.le_of_ble_eq_true rfl) (fun X hF hQ => ?_)
  have hF : mp_F E X (RX10, cX10_joinOf, 4, (14, 0, 0, 334), (some FieldType.int), false) := hF
  let w1_ : va_W := [(mp_ob10 a0 y0 a5 a6 a7 a8 a9 y1 y2 y3 y4 y5 y6 y7 y8 y9 y10 a10 a1 a11 a12 a2 a3 a13 a14 y11 a15 a16 a17 a4 y12 y13 y14 a18 a19 y15 y16 a20 a21 a22 y17 y18 y19 y20 a23 a24 a25 y21), (mp_arI E a1 0 25 f0), (mp_arI E a2 0 90 f1), (mp_arI E a3 0 300 f2), (mp_arI E a4 3 1500 f3)]
  show mp_W E X 4 0 [(0, .ref a0), (1, .int x0), (2, .int x1)] [] w1_ 0 0
  refine mp_run mp_k_cX10_joinOf_ok hF mp_tabX10_ok [mp_i (.aload_n 0), mp_i (.iload_n 1), mp_c (.iconst 0) 0] (by decide +kernel) ?_
  show mp_W E X 4 3 [(0, .ref a0), (1, .int x0), (2, .int x1)] [.int 0, .int x0, .ref a0] w1_ 0 0
  refine mp_callV hF (As := [.int x0, .int 0]) (rest := []) (wr := [(mp_arI E a1 0 25 f0), (mp_arI E a2 0 90 f1), (mp_arI E a4 3 1500 f3)]) (bX10_of_64 E a0 a3 a5 a6 a7 a8 a9 a10 a1 a11 a12 a2 a13 a14 a15 a16 a17 a4 a18 a19 a20 a21 a22 a23 a24 a25 f2 y0 y1 y2 y3 y4 y5 y6 y7 y8 y9 y10 y11 y12 y13 y14 y15 y16 y17 y18 y19 y20 y21 x0 p7 p8 p9 p10 l_x0 u_x0 l_y1 u_y1 l_y2 u_y2 l_y3 u_y3 l_y4 u_y4 l_y11 u_y11 l_y12 u_y12 l_y13 u_y13) mp_lkX10_267 0 rfl [0, 3] [1, 2, 4] rfl rfl rfl rfl rfl ⟨(Nat.le_of_ble_eq_true rfl), (Nat.le_of_ble_eq_true rfl), (Nat.le_of_ble_eq_true rfl), (Nat.le_of_ble_eq_true rfl)⟩ (Nat.le_of_ble_eq_true rfl) (by first | exact mp_fd_ok mp_k_cX10_joinOf_ok (by decide +kernel) | decide +kernel) (fun v_1 w_2 h_3 => ?_)
  refine h_3.elim fun r_4 q_8 => q_8.elim fun e_9 q_10 => q_10.elim fun l_5 q_11 => q_11.elim fun u_6 q_12 => q_12.elim fun x_7 e_13 => ?_
  clear h_3 q_8 q_10 q_11 q_12
  subst e_9
  subst e_13
  let w2_ : va_W := [(mp_arI E a1 0 25 f0), (mp_arI E a2 0 90 f1), (mp_arI E a4 3 1500 f3), (mp_ob10 a0 y0 a5 a6 a7 a8 a9 y1 y2 y3 y4 y5 y6 y7 y8 y9 y10 a10 a1 a11 a12 a2 a3 a13 a14 y11 a15 a16 a17 a4 y12 y13 y14 a18 a19 y15 y16 a20 a21 a22 y17 y18 y19 y20 a23 a24 a25 y21), (mp_arI E a3 0 300 f2)]
  show mp_W E X 4 6 [(0, .ref a0), (1, .int x0), (2, .int x1)] [.int r_4] w2_ 0 0
  refine mp_run mp_k_cX10_joinOf_ok hF mp_tabX10_ok [mp_i (.aload_n 0), mp_i (.iload_n 2), mp_c (.iconst 0) 0] (by decide +kernel) ?_
  show mp_W E X 4 9 [(0, .ref a0), (1, .int x0), (2, .int x1)] [.int 0, .int x1, .ref a0, .int r_4] w2_ 0 0
  refine mp_callV hF (As := [.int x1, .int 0]) (rest := [.int r_4]) (wr := [(mp_arI E a1 0 25 f0), (mp_arI E a2 0 90 f1), (mp_arI E a4 3 1500 f3)]) (bX10_of_64 E a0 a3 a5 a6 a7 a8 a9 a10 a1 a11 a12 a2 a13 a14 a15 a16 a17 a4 a18 a19 a20 a21 a22 a23 a24 a25 f2 y0 y1 y2 y3 y4 y5 y6 y7 y8 y9 y10 y11 y12 y13 y14 y15 y16 y17 y18 y19 y20 y21 x1 p7 p8 p9 p10 l_x1 u_x1 l_y1 u_y1 l_y2 u_y2 l_y3 u_y3 l_y4 u_y4 l_y11 u_y11 l_y12 u_y12 l_y13 u_y13) mp_lkX10_267 3 rfl [3, 4] [0, 1, 2] rfl rfl rfl rfl rfl ⟨(Nat.le_of_ble_eq_true rfl), (Nat.le_of_ble_eq_true rfl), (Nat.le_of_ble_eq_true rfl), (Nat.le_of_ble_eq_true rfl)⟩ (Nat.le_of_ble_eq_true rfl) (by first | exact mp_fd_ok mp_k_cX10_joinOf_ok (by decide +kernel) | decide +kernel) (fun v_14 w_15 h_16 => ?_)
  refine h_16.elim fun r_17 q_21 => q_21.elim fun e_22 q_23 => q_23.elim fun l_18 q_24 => q_24.elim fun u_19 q_25 => q_25.elim fun x_20 e_26 => ?_
  clear h_16 q_21 q_23 q_24 q_25
  subst e_22
  subst e_26
  show mp_W E X 4 12 [(0, .ref a0), (1, .int x0), (2, .int x1)] [.int r_17, .int r_4] w2_ 0 0
  refine mp_run mp_k_cX10_joinOf_ok hF mp_tabX10_ok [mp_h (.if_icmp .ne 54) [66]] (by decide +kernel) ?_
  refine And.intro (fun c_27 => ?_) (fun c_27 => ?_)
  · have c_27 : r_4.toInt ≠ r_17.toInt := c_27
    show mp_W E X 4 66 [(0, .ref a0), (1, .int x0), (2, .int x1)] [] w2_ 0 0
    refine mp_run mp_k_cX10_joinOf_ok hF mp_tabX10_ok [mp_c (.ldc_w 399) (-1000000)] (by decide +kernel) ?_
    show mp_W E X 4 69 [(0, .ref a0), (1, .int x0), (2, .int x1)] [.int (-1000000)] w2_ 0 0
    exact mp_iret hF hQ rfl rfl (Nat.le_of_ble_eq_true rfl) (Nat.le_of_ble_eq_true rfl) [3, 0, 1, 4, 2] (w' := w1_) rfl rfl ⟨(-1000000), rfl, rfl⟩ (by first | exact mp_fd_ok mp_k_cX10_joinOf_ok (by decide +kernel) | decide +kernel)
  · have c_27 : r_4.toInt = r_17.toInt := (congrArg Int32.toInt c_27)
    show mp_W E X 4 15 [(0, .ref a0), (1, .int x0), (2, .int x1)] [] w2_ 0 0
    refine mp_run mp_k_cX10_joinOf_ok hF mp_tabX10_ok [mp_i (.aload_n 0), mp_i (.iload_n 1), mp_c (.iconst 1) 1] (by decide +kernel) ?_
    show mp_W E X 4 18 [(0, .ref a0), (1, .int x0), (2, .int x1)] [.int 1, .int x0, .ref a0] w2_ 0 0
    refine mp_callV hF (As := [.int x0, .int 1]) (rest := []) (wr := [(mp_arI E a1 0 25 f0), (mp_arI E a2 0 90 f1), (mp_arI E a4 3 1500 f3)]) (bX10_of_76 E a0 a3 a5 a6 a7 a8 a9 a10 a1 a11 a12 a2 a13 a14 a15 a16 a17 a4 a18 a19 a20 a21 a22 a23 a24 a25 f2 y0 y1 y2 y3 y4 y5 y6 y7 y8 y9 y10 y11 y12 y13 y14 y15 y16 y17 y18 y19 y20 y21 x0 p7 p8 p9 p10 l_x0 u_x0 l_y1 u_y1 l_y2 u_y2 l_y3 u_y3 l_y4 u_y4 l_y11 u_y11 l_y12 u_y12 l_y13 u_y13) mp_lkX10_267 3 rfl [3, 4] [0, 1, 2] rfl rfl rfl rfl rfl ⟨(Nat.le_of_ble_eq_true rfl), (Nat.le_of_ble_eq_true rfl), (Nat.le_of_ble_eq_true rfl), (Nat.le_of_ble_eq_true rfl)⟩ (Nat.le_of_ble_eq_true rfl) (by first | exact mp_fd_ok mp_k_cX10_joinOf_ok (by decide +kernel) | decide +kernel) (fun v_28 w_29 h_30 => ?_)
    refine h_30.elim fun r_31 q_35 => q_35.elim fun e_36 q_37 => q_37.elim fun l_32 q_38 => q_38.elim fun u_33 q_39 => q_39.elim fun x_34 e_40 => ?_
    clear h_30 q_35 q_37 q_38 q_39
    subst e_36
    subst e_40
    show mp_W E X 4 21 [(0, .ref a0), (1, .int x0), (2, .int x1)] [.int r_31] w2_ 0 0
    refine mp_run mp_k_cX10_joinOf_ok hF mp_tabX10_ok [mp_i (.aload_n 0), mp_i (.iload_n 2), mp_c (.iconst 1) 1] (by decide +kernel) ?_
    show mp_W E X 4 24 [(0, .ref a0), (1, .int x0), (2, .int x1)] [.int 1, .int x1, .ref a0, .int r_31] w2_ 0 0
    refine mp_callV hF (As := [.int x1, .int 1]) (rest := [.int r_31]) (wr := [(mp_arI E a1 0 25 f0), (mp_arI E a2 0 90 f1), (mp_arI E a4 3 1500 f3)]) (bX10_of_76 E a0 a3 a5 a6 a7 a8 a9 a10 a1 a11 a12 a2 a13 a14 a15 a16 a17 a4 a18 a19 a20 a21 a22 a23 a24 a25 f2 y0 y1 y2 y3 y4 y5 y6 y7 y8 y9 y10 y11 y12 y13 y14 y15 y16 y17 y18 y19 y20 y21 x1 p7 p8 p9 p10 l_x1 u_x1 l_y1 u_y1 l_y2 u_y2 l_y3 u_y3 l_y4 u_y4 l_y11 u_y11 l_y12 u_y12 l_y13 u_y13) mp_lkX10_267 3 rfl [3, 4] [0, 1, 2] rfl rfl rfl rfl rfl ⟨(Nat.le_of_ble_eq_true rfl), (Nat.le_of_ble_eq_true rfl), (Nat.le_of_ble_eq_true rfl), (Nat.le_of_ble_eq_true rfl)⟩ (Nat.le_of_ble_eq_true rfl) (by first | exact mp_fd_ok mp_k_cX10_joinOf_ok (by decide +kernel) | decide +kernel) (fun v_41 w_42 h_43 => ?_)
    refine h_43.elim fun r_44 q_48 => q_48.elim fun e_49 q_50 => q_50.elim fun l_45 q_51 => q_51.elim fun u_46 q_52 => q_52.elim fun x_47 e_53 => ?_
    clear h_43 q_48 q_50 q_51 q_52
    subst e_49
    subst e_53
    show mp_W E X 4 27 [(0, .ref a0), (1, .int x0), (2, .int x1)] [.int r_44, .int r_31] w2_ 0 0
    refine mp_run mp_k_cX10_joinOf_ok hF mp_tabX10_ok [mp_h (.if_icmp .ne 39) [66]] (by decide +kernel) ?_
    refine And.intro (fun c_54 => ?_) (fun c_54 => ?_)
    · have c_54 : r_31.toInt ≠ r_44.toInt := c_54
      show mp_W E X 4 66 [(0, .ref a0), (1, .int x0), (2, .int x1)] [] w2_ 0 0
      refine mp_run mp_k_cX10_joinOf_ok hF mp_tabX10_ok [mp_c (.ldc_w 399) (-1000000)] (by decide +kernel) ?_
      show mp_W E X 4 69 [(0, .ref a0), (1, .int x0), (2, .int x1)] [.int (-1000000)] w2_ 0 0
      exact mp_iret hF hQ rfl rfl (Nat.le_of_ble_eq_true rfl) (Nat.le_of_ble_eq_true rfl) [3, 0, 1, 4, 2] (w' := w1_) rfl rfl ⟨(-1000000), rfl, rfl⟩ (by first | exact mp_fd_ok mp_k_cX10_joinOf_ok (by decide +kernel) | decide +kernel)
    · have c_54 : r_31.toInt = r_44.toInt := (congrArg Int32.toInt c_54)
      show mp_W E X 4 30 [(0, .ref a0), (1, .int x0), (2, .int x1)] [] w2_ 0 0
      refine mp_run mp_k_cX10_joinOf_ok hF mp_tabX10_ok [mp_i (.aload_n 0), mp_i (.iload_n 1), mp_c (.iconst 5) 5] (by decide +kernel) ?_
      show mp_W E X 4 33 [(0, .ref a0), (1, .int x0), (2, .int x1)] [.int 5, .int x0, .ref a0] w2_ 0 0
      refine mp_callV hF (As := [.int x0, .int 5]) (rest := []) (wr := [(mp_arI E a1 0 25 f0), (mp_arI E a2 0 90 f1), (mp_arI E a4 3 1500 f3)]) (bX10_of_67 E a0 a3 a5 a6 a7 a8 a9 a10 a1 a11 a12 a2 a13 a14 a15 a16 a17 a4 a18 a19 a20 a21 a22 a23 a24 a25 f2 y0 y1 y2 y3 y4 y5 y6 y7 y8 y9 y10 y11 y12 y13 y14 y15 y16 y17 y18 y19 y20 y21 x0 p7 p8 p9 p10 l_x0 u_x0 l_y1 u_y1 l_y2 u_y2 l_y3 u_y3 l_y4 u_y4 l_y11 u_y11 l_y12 u_y12 l_y13 u_y13) mp_lkX10_267 3 rfl [3, 4] [0, 1, 2] rfl rfl rfl rfl rfl ⟨(Nat.le_of_ble_eq_true rfl), (Nat.le_of_ble_eq_true rfl), (Nat.le_of_ble_eq_true rfl), (Nat.le_of_ble_eq_true rfl)⟩ (Nat.le_of_ble_eq_true rfl) (by first | exact mp_fd_ok mp_k_cX10_joinOf_ok (by decide +kernel) | decide +kernel) (fun v_55 w_56 h_57 => ?_)
      obtain ⟨r_58, rfl, x_59, rfl⟩ := h_57
      show mp_W E X 4 36 [(0, .ref a0), (1, .int x0), (2, .int x1)] [.int r_58] w2_ 0 0
      refine mp_run mp_k_cX10_joinOf_ok hF mp_tabX10_ok [mp_c (.iconst (-1)) (-1), mp_h (.if_icmp .ne 29) [66]] (by decide +kernel) ?_
      refine And.intro (fun c_60 => ?_) (fun c_60 => ?_)
      · have c_60 : r_58.toInt ≠ (-1) := c_60
        show mp_W E X 4 66 [(0, .ref a0), (1, .int x0), (2, .int x1)] [] w2_ 0 0
        refine mp_run mp_k_cX10_joinOf_ok hF mp_tabX10_ok [mp_c (.ldc_w 399) (-1000000)] (by decide +kernel) ?_
        show mp_W E X 4 69 [(0, .ref a0), (1, .int x0), (2, .int x1)] [.int (-1000000)] w2_ 0 0
        exact mp_iret hF hQ rfl rfl (Nat.le_of_ble_eq_true rfl) (Nat.le_of_ble_eq_true rfl) [3, 0, 1, 4, 2] (w' := w1_) rfl rfl ⟨(-1000000), rfl, rfl⟩ (by first | exact mp_fd_ok mp_k_cX10_joinOf_ok (by decide +kernel) | decide +kernel)
      · have c_60 : r_58.toInt = (-1) := (congrArg Int32.toInt c_60)
        show mp_W E X 4 40 [(0, .ref a0), (1, .int x0), (2, .int x1)] [] w2_ 0 0
        refine mp_run mp_k_cX10_joinOf_ok hF mp_tabX10_ok [mp_i (.aload_n 0), mp_i (.iload_n 2), mp_c (.iconst 5) 5] (by decide +kernel) ?_
        show mp_W E X 4 43 [(0, .ref a0), (1, .int x0), (2, .int x1)] [.int 5, .int x1, .ref a0] w2_ 0 0
        refine mp_callV hF (As := [.int x1, .int 5]) (rest := []) (wr := [(mp_arI E a1 0 25 f0), (mp_arI E a2 0 90 f1), (mp_arI E a4 3 1500 f3)]) (bX10_of_67 E a0 a3 a5 a6 a7 a8 a9 a10 a1 a11 a12 a2 a13 a14 a15 a16 a17 a4 a18 a19 a20 a21 a22 a23 a24 a25 f2 y0 y1 y2 y3 y4 y5 y6 y7 y8 y9 y10 y11 y12 y13 y14 y15 y16 y17 y18 y19 y20 y21 x1 p7 p8 p9 p10 l_x1 u_x1 l_y1 u_y1 l_y2 u_y2 l_y3 u_y3 l_y4 u_y4 l_y11 u_y11 l_y12 u_y12 l_y13 u_y13) mp_lkX10_267 3 rfl [3, 4] [0, 1, 2] rfl rfl rfl rfl rfl ⟨(Nat.le_of_ble_eq_true rfl), (Nat.le_of_ble_eq_true rfl), (Nat.le_of_ble_eq_true rfl), (Nat.le_of_ble_eq_true rfl)⟩ (Nat.le_of_ble_eq_true rfl) (by first | exact mp_fd_ok mp_k_cX10_joinOf_ok (by decide +kernel) | decide +kernel) (fun v_61 w_62 h_63 => ?_)
        obtain ⟨r_64, rfl, x_65, rfl⟩ := h_63
        show mp_W E X 4 46 [(0, .ref a0), (1, .int x0), (2, .int x1)] [.int r_64] w2_ 0 0
        refine mp_run mp_k_cX10_joinOf_ok hF mp_tabX10_ok [mp_c (.iconst (-1)) (-1), mp_h (.if_icmp .ne 19) [66]] (by decide +kernel) ?_
        refine And.intro (fun c_66 => ?_) (fun c_66 => ?_)
        · have c_66 : r_64.toInt ≠ (-1) := c_66
          show mp_W E X 4 66 [(0, .ref a0), (1, .int x0), (2, .int x1)] [] w2_ 0 0
          refine mp_run mp_k_cX10_joinOf_ok hF mp_tabX10_ok [mp_c (.ldc_w 399) (-1000000)] (by decide +kernel) ?_
          show mp_W E X 4 69 [(0, .ref a0), (1, .int x0), (2, .int x1)] [.int (-1000000)] w2_ 0 0
          exact mp_iret hF hQ rfl rfl (Nat.le_of_ble_eq_true rfl) (Nat.le_of_ble_eq_true rfl) [3, 0, 1, 4, 2] (w' := w1_) rfl rfl ⟨(-1000000), rfl, rfl⟩ (by first | exact mp_fd_ok mp_k_cX10_joinOf_ok (by decide +kernel) | decide +kernel)
        · have c_66 : r_64.toInt = (-1) := (congrArg Int32.toInt c_66)
          show mp_W E X 4 50 [(0, .ref a0), (1, .int x0), (2, .int x1)] [] w2_ 0 0
          refine mp_run mp_k_cX10_joinOf_ok hF mp_tabX10_ok [mp_i (.aload_n 0), mp_i (.iload_n 1)] (by decide +kernel) ?_
          show mp_W E X 4 52 [(0, .ref a0), (1, .int x0), (2, .int x1)] [.int x0, .ref a0] w2_ 0 0
          refine mp_callV hF (As := [.int x0]) (rest := []) (wr := [(mp_arI E a2 0 90 f1), (mp_arI E a4 3 1500 f3)]) (bX10_isUnder_126 E a0 a1 a3 a5 a6 a7 a8 a9 a10 a11 a12 a2 a13 a14 a15 a16 a17 a4 a18 a19 a20 a21 a22 a23 a24 a25 f0 f2 y0 y1 y2 y3 y4 y5 y6 y7 y8 y9 y10 y11 y12 y13 y14 y15 y16 y17 y18 y19 y20 y21 x0 p0 p1 p2 p3 p4 p7 p8 p9 p10 l_y1 u_y1 l_y2 u_y2 l_y3 u_y3 l_y4 u_y4 l_y11 u_y11 l_y12 u_y12 l_y13 u_y13) mp_lkX10_396 3 rfl [3, 0, 4] [1, 2] rfl rfl rfl rfl rfl ⟨(Nat.le_of_ble_eq_true rfl), (Nat.le_of_ble_eq_true rfl), (Nat.le_of_ble_eq_true rfl), (Nat.le_of_ble_eq_true rfl)⟩ (Nat.le_of_ble_eq_true rfl) (by first | exact mp_fd_ok mp_k_cX10_joinOf_ok (by decide +kernel) | decide +kernel) (fun v_67 w_68 h_69 => ?_)
          rcases h_69 with ⟨rfl, rfl⟩ | ⟨rfl, rfl⟩
          · skip
            let w3_ : va_W := [(mp_arI E a2 0 90 f1), (mp_arI E a4 3 1500 f3), (mp_ob10 a0 y0 a5 a6 a7 a8 a9 y1 y2 y3 y4 y5 y6 y7 y8 y9 y10 a10 a1 a11 a12 a2 a3 a13 a14 y11 a15 a16 a17 a4 y12 y13 y14 a18 a19 y15 y16 a20 a21 a22 y17 y18 y19 y20 a23 a24 a25 y21), (mp_arI E a1 0 25 f0), (mp_arI E a3 0 300 f2)]
            show mp_W E X 4 55 [(0, .ref a0), (1, .int x0), (2, .int x1)] [.int 0] w3_ 0 0
            refine mp_run mp_k_cX10_joinOf_ok hF mp_tabX10_ok [mp_h (.ifCond .ne 11) [66]] (by decide +kernel) ?_
            refine And.intro (fun c_70 => absurd c_70 (by decide)) (fun _ => ?_)
            show mp_W E X 4 58 [(0, .ref a0), (1, .int x0), (2, .int x1)] [] w3_ 0 0
            refine mp_run mp_k_cX10_joinOf_ok hF mp_tabX10_ok [mp_i (.aload_n 0), mp_i (.iload_n 2)] (by decide +kernel) ?_
            show mp_W E X 4 60 [(0, .ref a0), (1, .int x0), (2, .int x1)] [.int x1, .ref a0] w3_ 0 0
            refine mp_callV hF (As := [.int x1]) (rest := []) (wr := [(mp_arI E a2 0 90 f1), (mp_arI E a4 3 1500 f3)]) (bX10_isUnder_126 E a0 a1 a3 a5 a6 a7 a8 a9 a10 a11 a12 a2 a13 a14 a15 a16 a17 a4 a18 a19 a20 a21 a22 a23 a24 a25 f0 f2 y0 y1 y2 y3 y4 y5 y6 y7 y8 y9 y10 y11 y12 y13 y14 y15 y16 y17 y18 y19 y20 y21 x1 p0 p1 p2 p3 p4 p7 p8 p9 p10 l_y1 u_y1 l_y2 u_y2 l_y3 u_y3 l_y4 u_y4 l_y11 u_y11 l_y12 u_y12 l_y13 u_y13) mp_lkX10_396 2 rfl [2, 3, 4] [0, 1] rfl rfl rfl rfl rfl ⟨(Nat.le_of_ble_eq_true rfl), (Nat.le_of_ble_eq_true rfl), (Nat.le_of_ble_eq_true rfl), (Nat.le_of_ble_eq_true rfl)⟩ (Nat.le_of_ble_eq_true rfl) (by first | exact mp_fd_ok mp_k_cX10_joinOf_ok (by decide +kernel) | decide +kernel) (fun v_71 w_72 h_73 => ?_)
            rcases h_73 with ⟨rfl, rfl⟩ | ⟨rfl, rfl⟩
            · skip
              show mp_W E X 4 63 [(0, .ref a0), (1, .int x0), (2, .int x1)] [.int 0] w3_ 0 0
              refine mp_run mp_k_cX10_joinOf_ok hF mp_tabX10_ok [mp_h (.ifCond .eq 7) [70]] (by decide +kernel) ?_
              refine And.intro (fun _ => ?_) (fun c_74 => absurd c_74 (by decide))
              show mp_W E X 4 70 [(0, .ref a0), (1, .int x0), (2, .int x1)] [] w3_ 0 0
              refine mp_run mp_k_cX10_joinOf_ok hF mp_tabX10_ok [mp_i (.aload_n 0), mp_i (.iload_n 1), mp_i (.aload_n 0), mp_h (.getfield 276) [24, 2]] (by decide +kernel) ?_
              refine And.intro rfl (And.intro rfl ?_)
              show mp_W E X 4 76 [(0, .ref a0), (1, .int x0), (2, .int x1)] [.int y11, .int x0, .ref a0] w3_ 0 0
              refine mp_callV hF (As := [.int x0, .int y11]) (rest := []) (wr := []) (bX10_halvedOf_68 E 10 a0 a1 a2 a3 a4 a5 a6 a7 a8 a9 a10 a11 a12 a13 a14 a15 a16 a17 a18 a19 a20 a21 a22 a23 a24 a25 f0 f1 f2 f3 y0 y1 y2 y3 y4 y5 y6 y7 y8 y9 y10 y11 y12 y13 y14 y15 y16 y17 y18 y19 y20 y21 x0 y11 p0 p1 p2 p3 p4 p5 p6 p7 p8 p9 p10 l_x0 u_x0 l_y11 (by (first | exact mp_o1513 u_y11 | omega)) l_y1 u_y1 l_y2 u_y2 l_y3 u_y3 l_y4 u_y4 l_y11 u_y11 l_y12 u_y12 l_y13 u_y13 (by first | assumption | (rw [rfl]; assumption)) (by (first | exact q1 | omega)) (by first | (first | exact mp_o208 u_x0 | omega) | (have h8 : (0 : Int32).toInt = 0 := rfl; omega))) mp_lkX10_282 2 rfl [2, 3, 0, 4, 1] [] rfl rfl rfl rfl rfl ⟨(Nat.le_of_ble_eq_true rfl), (Nat.le_of_ble_eq_true rfl), (Nat.le_of_ble_eq_true rfl), (Nat.le_of_ble_eq_true rfl)⟩ (Nat.le_of_ble_eq_true rfl) (by first | exact mp_fd_ok mp_k_cX10_joinOf_ok (by decide +kernel) | decide +kernel) (fun v_75 w_76 h_77 => ?_)
              obtain ⟨r_78, rfl, rfl⟩ := h_77
              show mp_W E X 4 79 [(0, .ref a0), (1, .int x0), (2, .int x1)] [.int r_78] w1_ 0 0
              refine mp_run mp_k_cX10_joinOf_ok hF mp_tabX10_ok [mp_i (.istore_n 3), mp_i (.iload_n 3), mp_i (.aload_n 0), mp_i (.iload_n 2), mp_i (.aload_n 0), mp_h (.getfield 276) [24, 0]] (by decide +kernel) ?_
              refine And.intro rfl (And.intro rfl ?_)
              show mp_W E X 4 87 [(3, .int r_78), (0, .ref a0), (1, .int x0), (2, .int x1)] [.int y11, .int x1, .ref a0, .int r_78] w1_ 0 0
              refine mp_callV hF (As := [.int x1, .int y11]) (rest := [.int r_78]) (wr := []) (bX10_halvedOf_68 E 10 a0 a1 a2 a3 a4 a5 a6 a7 a8 a9 a10 a11 a12 a13 a14 a15 a16 a17 a18 a19 a20 a21 a22 a23 a24 a25 f0 f1 f2 f3 y0 y1 y2 y3 y4 y5 y6 y7 y8 y9 y10 y11 y12 y13 y14 y15 y16 y17 y18 y19 y20 y21 x1 y11 p0 p1 p2 p3 p4 p5 p6 p7 p8 p9 p10 l_x1 u_x1 l_y11 (by (first | exact mp_o1513 u_y11 | omega)) l_y1 u_y1 l_y2 u_y2 l_y3 u_y3 l_y4 u_y4 l_y11 u_y11 l_y12 u_y12 l_y13 u_y13 (by first | assumption | (rw [rfl]; assumption)) (by (first | exact q2 | omega)) (by first | (first | exact mp_o208 u_x1 | omega) | (have h8 : (0 : Int32).toInt = 0 := rfl; omega))) mp_lkX10_282 0 rfl [0, 1, 2, 3, 4] [] rfl rfl rfl rfl rfl ⟨(Nat.le_of_ble_eq_true rfl), (Nat.le_of_ble_eq_true rfl), (Nat.le_of_ble_eq_true rfl), (Nat.le_of_ble_eq_true rfl)⟩ (Nat.le_of_ble_eq_true rfl) (by first | exact mp_fd_ok mp_k_cX10_joinOf_ok (by decide +kernel) | decide +kernel) (fun v_79 w_80 h_81 => ?_)
              obtain ⟨r_82, rfl, rfl⟩ := h_81
              show mp_W E X 4 90 [(3, .int r_78), (0, .ref a0), (1, .int x0), (2, .int x1)] [.int r_82, .int r_78] w1_ 0 0
              refine mp_run mp_k_cX10_joinOf_ok hF mp_tabX10_ok [mp_h (.if_icmp .ne 15) [105]] (by decide +kernel) ?_
              refine And.intro (fun c_83 => ?_) (fun c_83 => ?_)
              · have c_83 : r_78.toInt ≠ r_82.toInt := c_83
                show mp_W E X 4 105 [(3, .int r_78), (0, .ref a0), (1, .int x0), (2, .int x1)] [] w1_ 0 0
                refine mp_run mp_k_cX10_joinOf_ok hF mp_tabX10_ok [mp_c (.ldc_w 399) (-1000000)] (by decide +kernel) ?_
                show mp_W E X 4 108 [(3, .int r_78), (0, .ref a0), (1, .int x0), (2, .int x1)] [.int (-1000000)] w1_ 0 0
                exact mp_iret hF hQ rfl rfl (Nat.le_of_ble_eq_true rfl) (Nat.le_of_ble_eq_true rfl) [0, 1, 2, 3, 4] (w' := w1_) rfl rfl ⟨(-1000000), rfl, rfl⟩ (by first | exact mp_fd_ok mp_k_cX10_joinOf_ok (by decide +kernel) | decide +kernel)
              · have c_83 : r_78.toInt = r_82.toInt := (congrArg Int32.toInt c_83)
                show mp_W E X 4 93 [(3, .int r_78), (0, .ref a0), (1, .int x0), (2, .int x1)] [] w1_ 0 0
                refine mp_run mp_k_cX10_joinOf_ok hF mp_tabX10_ok [mp_i (.iload_n 3), mp_i .i2l, mp_cl (.lconst 1) 1, mp_cl (.ldc2_w 400) 20] (by decide +kernel) ?_
                intro z_84 h_85
                have e_86 : z_84.toInt = r_78.toInt := mp_i2l h_85
                show mp_W E X 4 99 [(3, .int r_78), (0, .ref a0), (1, .int x0), (2, .int x1)] [.long 20, .long 1, .long z_84] w1_ 0 0
                refine mp_callS hF (As := [.long z_84, .long 1, .long 20]) (rest := []) (wr := w1_) (bX10_in_0 E z_84 1 20) mp_lkX10_97 [] [0, 1, 2, 3, 4] rfl rfl rfl rfl rfl ⟨(Nat.le_of_ble_eq_true rfl), (Nat.le_of_ble_eq_true rfl), (Nat.le_of_ble_eq_true rfl), (Nat.le_of_ble_eq_true rfl)⟩ (Nat.le_of_ble_eq_true rfl) (by first | exact mp_fd_ok mp_k_cX10_joinOf_ok (by decide +kernel) | decide +kernel) (fun v_87 w_88 h_89 => ?_)
                rcases h_89 with ⟨rfl, x_90, rfl⟩ | ⟨rfl, c_91, c_92, rfl⟩
                · skip
                  have i_93 : (1 : Int64).toInt = 1 := by decide
                  have i_94 : (20 : Int64).toInt = 20 := by decide
                  show mp_W E X 4 102 [(3, .int r_78), (0, .ref a0), (1, .int x0), (2, .int x1)] [.int 0] w1_ 0 0
                  refine mp_run mp_k_cX10_joinOf_ok hF mp_tabX10_ok [mp_h (.ifCond .ne 7) [109]] (by decide +kernel) ?_
                  refine And.intro (fun c_95 => absurd c_95 (by decide)) (fun _ => ?_)
                  show mp_W E X 4 105 [(3, .int r_78), (0, .ref a0), (1, .int x0), (2, .int x1)] [] w1_ 0 0
                  refine mp_run mp_k_cX10_joinOf_ok hF mp_tabX10_ok [mp_c (.ldc_w 399) (-1000000)] (by decide +kernel) ?_
                  show mp_W E X 4 108 [(3, .int r_78), (0, .ref a0), (1, .int x0), (2, .int x1)] [.int (-1000000)] w1_ 0 0
                  exact mp_iret hF hQ rfl rfl (Nat.le_of_ble_eq_true rfl) (Nat.le_of_ble_eq_true rfl) [0, 1, 2, 3, 4] (w' := w1_) rfl rfl ⟨(-1000000), rfl, rfl⟩ (by first | exact mp_fd_ok mp_k_cX10_joinOf_ok (by decide +kernel) | decide +kernel)
                · skip
                  have c_91 : 1 ≤ z_84.toInt := c_91
                  have c_92 : z_84.toInt ≤ 20 := c_92
                  have i_96 : (1 : Int64).toInt = 1 := by decide
                  have i_97 : (20 : Int64).toInt = 20 := by decide
                  show mp_W E X 4 102 [(3, .int r_78), (0, .ref a0), (1, .int x0), (2, .int x1)] [.int 1] w1_ 0 0
                  refine mp_run mp_k_cX10_joinOf_ok hF mp_tabX10_ok [mp_h (.ifCond .ne 7) [109]] (by decide +kernel) ?_
                  refine And.intro (fun _ => ?_) (fun c_98 => absurd c_98 (by decide))
                  show mp_W E X 4 109 [(3, .int r_78), (0, .ref a0), (1, .int x0), (2, .int x1)] [] w1_ 0 0
                  refine mp_run mp_k_cX10_joinOf_ok hF mp_tabX10_ok [mp_i (.aload_n 0), mp_i (.iload_n 1), mp_c (.iconst 2) 2] (by decide +kernel) ?_
                  show mp_W E X 4 112 [(3, .int r_78), (0, .ref a0), (1, .int x0), (2, .int x1)] [.int 2, .int x0, .ref a0] w1_ 0 0
                  refine mp_callV hF (As := [.int x0, .int 2]) (rest := []) (wr := [(mp_arI E a1 0 25 f0), (mp_arI E a2 0 90 f1), (mp_arI E a4 3 1500 f3)]) (bX10_of_70 E a0 a3 a5 a6 a7 a8 a9 a10 a1 a11 a12 a2 a13 a14 a15 a16 a17 a4 a18 a19 a20 a21 a22 a23 a24 a25 f2 y0 y1 y2 y3 y4 y5 y6 y7 y8 y9 y10 y11 y12 y13 y14 y15 y16 y17 y18 y19 y20 y21 x0 p7 p8 p9 p10 l_x0 u_x0 l_y1 u_y1 l_y2 u_y2 l_y3 u_y3 l_y4 u_y4 l_y11 u_y11 l_y12 u_y12 l_y13 u_y13) mp_lkX10_267 0 rfl [0, 3] [1, 2, 4] rfl rfl rfl rfl rfl ⟨(Nat.le_of_ble_eq_true rfl), (Nat.le_of_ble_eq_true rfl), (Nat.le_of_ble_eq_true rfl), (Nat.le_of_ble_eq_true rfl)⟩ (Nat.le_of_ble_eq_true rfl) (by first | exact mp_fd_ok mp_k_cX10_joinOf_ok (by decide +kernel) | decide +kernel) (fun v_99 w_100 h_101 => ?_)
                  obtain ⟨r_102, rfl, x_103, rfl⟩ := h_101
                  show mp_W E X 4 115 [(3, .int r_78), (0, .ref a0), (1, .int x0), (2, .int x1)] [.int r_102] w2_ 0 0
                  refine mp_run mp_k_cX10_joinOf_ok hF mp_tabX10_ok [mp_i (.aload_n 0), mp_i (.iload_n 2), mp_c (.iconst 2) 2] (by decide +kernel) ?_
                  show mp_W E X 4 118 [(3, .int r_78), (0, .ref a0), (1, .int x0), (2, .int x1)] [.int 2, .int x1, .ref a0, .int r_102] w2_ 0 0
                  refine mp_callV hF (As := [.int x1, .int 2]) (rest := [.int r_102]) (wr := [(mp_arI E a1 0 25 f0), (mp_arI E a2 0 90 f1), (mp_arI E a4 3 1500 f3)]) (bX10_of_70 E a0 a3 a5 a6 a7 a8 a9 a10 a1 a11 a12 a2 a13 a14 a15 a16 a17 a4 a18 a19 a20 a21 a22 a23 a24 a25 f2 y0 y1 y2 y3 y4 y5 y6 y7 y8 y9 y10 y11 y12 y13 y14 y15 y16 y17 y18 y19 y20 y21 x1 p7 p8 p9 p10 l_x1 u_x1 l_y1 u_y1 l_y2 u_y2 l_y3 u_y3 l_y4 u_y4 l_y11 u_y11 l_y12 u_y12 l_y13 u_y13) mp_lkX10_267 3 rfl [3, 4] [0, 1, 2] rfl rfl rfl rfl rfl ⟨(Nat.le_of_ble_eq_true rfl), (Nat.le_of_ble_eq_true rfl), (Nat.le_of_ble_eq_true rfl), (Nat.le_of_ble_eq_true rfl)⟩ (Nat.le_of_ble_eq_true rfl) (by first | exact mp_fd_ok mp_k_cX10_joinOf_ok (by decide +kernel) | decide +kernel) (fun v_104 w_105 h_106 => ?_)
                  obtain ⟨r_107, rfl, x_108, rfl⟩ := h_106
                  show mp_W E X 4 121 [(3, .int r_78), (0, .ref a0), (1, .int x0), (2, .int x1)] [.int r_107, .int r_102] w2_ 0 0
                  refine mp_run mp_k_cX10_joinOf_ok hF mp_tabX10_ok [mp_i .iadd, mp_i (.iload_n 3), mp_c (.iconst 1) 1, mp_i .isub] (by decide +kernel) ?_
                  intro z_109 h_110
                  intro z_112 h_113
                  have e_114 : z_112.toInt = r_78.toInt - 1 := mp_subi (a := r_78.toInt) (b := 1) h_113 rfl (by decide) (by (first | exact mp_o1730 c_91 e_86 | omega)) (by (first | exact mp_o1731 e_86 c_92 | omega))
                  show mp_W E X 4 125 [(3, .int r_78), (0, .ref a0), (1, .int x0), (2, .int x1)] [.int z_112, .int z_109] w2_ 0 0
                  refine mp_callS hF (As := [.int z_109, .int z_112]) (rest := []) (wr := w2_) (bX10_halved_71 E z_109 z_112) mp_lkX10_285 [] [0, 1, 2, 3, 4] rfl rfl rfl rfl rfl ⟨(Nat.le_of_ble_eq_true rfl), (Nat.le_of_ble_eq_true rfl), (Nat.le_of_ble_eq_true rfl), (Nat.le_of_ble_eq_true rfl)⟩ (Nat.le_of_ble_eq_true rfl) (by first | exact mp_fd_ok mp_k_cX10_joinOf_ok (by decide +kernel) | decide +kernel) (fun v_115 w_116 h_117 => ?_)
                  obtain ⟨r_118, rfl, x_119, rfl⟩ := h_117
                  show mp_W E X 4 128 [(3, .int r_78), (0, .ref a0), (1, .int x0), (2, .int x1)] [.int r_118] w2_ 0 0
                  refine mp_run mp_k_cX10_joinOf_ok hF mp_tabX10_ok [mp_i (.aload_n 0), mp_i (.iload_n 1), mp_i (.aload_n 0), mp_h (.getfield 276) [24, 3]] (by decide +kernel) ?_
                  refine And.intro rfl (And.intro rfl ?_)
                  show mp_W E X 4 134 [(3, .int r_78), (0, .ref a0), (1, .int x0), (2, .int x1)] [.int y11, .int x0, .ref a0, .int r_118] w2_ 0 0
                  refine mp_callV hF (As := [.int x0, .int y11]) (rest := [.int r_118]) (wr := []) (bX10_worthOf_72 E a0 a1 a2 a3 a4 a5 a6 a7 a8 a9 a10 a11 a12 a13 a14 a15 a16 a17 a18 a19 a20 a21 a22 a23 a24 a25 f0 f1 f2 f3 y0 y1 y2 y3 y4 y5 y6 y7 y8 y9 y10 y11 y12 y13 y14 y15 y16 y17 y18 y19 y20 y21 x0 y11 p0 p1 p2 p3 p4 p5 p6 p7 p8 p9 p10 l_x0 u_x0 l_y11 (by (first | exact mp_o1513 u_y11 | omega)) l_y1 u_y1 l_y2 u_y2 l_y3 u_y3 l_y4 u_y4 l_y11 u_y11 l_y12 u_y12 l_y13 u_y13 (by first | assumption | (rw [rfl]; assumption)) (by (first | exact q1 | omega))) mp_lkX10_291 3 rfl [3, 0, 1, 4, 2] [] rfl rfl rfl rfl rfl ⟨(Nat.le_of_ble_eq_true rfl), (Nat.le_of_ble_eq_true rfl), (Nat.le_of_ble_eq_true rfl), (Nat.le_of_ble_eq_true rfl)⟩ (Nat.le_of_ble_eq_true rfl) (by first | exact mp_fd_ok mp_k_cX10_joinOf_ok (by decide +kernel) | decide +kernel) (fun v_120 w_121 h_122 => ?_)
                  obtain ⟨r_123, rfl, rfl⟩ := h_122
                  show mp_W E X 4 137 [(3, .int r_78), (0, .ref a0), (1, .int x0), (2, .int x1)] [.int r_123, .int r_118] w1_ 0 0
                  refine mp_run mp_k_cX10_joinOf_ok hF mp_tabX10_ok [mp_i .isub, mp_i (.aload_n 0), mp_i (.iload_n 2), mp_i (.aload_n 0), mp_h (.getfield 276) [24, 0]] (by decide +kernel) ?_
                  intro z_124 h_125
                  refine And.intro rfl (And.intro rfl ?_)
                  show mp_W E X 4 144 [(3, .int r_78), (0, .ref a0), (1, .int x0), (2, .int x1)] [.int y11, .int x1, .ref a0, .int z_124] w1_ 0 0
                  refine mp_callV hF (As := [.int x1, .int y11]) (rest := [.int z_124]) (wr := []) (bX10_worthOf_72 E a0 a1 a2 a3 a4 a5 a6 a7 a8 a9 a10 a11 a12 a13 a14 a15 a16 a17 a18 a19 a20 a21 a22 a23 a24 a25 f0 f1 f2 f3 y0 y1 y2 y3 y4 y5 y6 y7 y8 y9 y10 y11 y12 y13 y14 y15 y16 y17 y18 y19 y20 y21 x1 y11 p0 p1 p2 p3 p4 p5 p6 p7 p8 p9 p10 l_x1 u_x1 l_y11 (by (first | exact mp_o1513 u_y11 | omega)) l_y1 u_y1 l_y2 u_y2 l_y3 u_y3 l_y4 u_y4 l_y11 u_y11 l_y12 u_y12 l_y13 u_y13 (by first | assumption | (rw [rfl]; assumption)) (by (first | exact q2 | omega))) mp_lkX10_291 0 rfl [0, 1, 2, 3, 4] [] rfl rfl rfl rfl rfl ⟨(Nat.le_of_ble_eq_true rfl), (Nat.le_of_ble_eq_true rfl), (Nat.le_of_ble_eq_true rfl), (Nat.le_of_ble_eq_true rfl)⟩ (Nat.le_of_ble_eq_true rfl) (by first | exact mp_fd_ok mp_k_cX10_joinOf_ok (by decide +kernel) | decide +kernel) (fun v_127 w_128 h_129 => ?_)
                  obtain ⟨r_130, rfl, rfl⟩ := h_129
                  show mp_W E X 4 147 [(3, .int r_78), (0, .ref a0), (1, .int x0), (2, .int x1)] [.int r_130, .int z_124] w1_ 0 0
                  refine mp_run mp_k_cX10_joinOf_ok hF mp_tabX10_ok [mp_i .isub] (by decide +kernel) ?_
                  intro z_131 h_132
                  show mp_W E X 4 148 [(3, .int r_78), (0, .ref a0), (1, .int x0), (2, .int x1)] [.int z_131] w1_ 0 0
                  exact mp_iret hF hQ rfl rfl (Nat.le_of_ble_eq_true rfl) (Nat.le_of_ble_eq_true rfl) [0, 1, 2, 3, 4] (w' := w1_) rfl rfl ⟨z_131, rfl, rfl⟩ (by first | exact mp_fd_ok mp_k_cX10_joinOf_ok (by decide +kernel) | decide +kernel)
            · skip
              show mp_W E X 4 63 [(0, .ref a0), (1, .int x0), (2, .int x1)] [.int 1] w3_ 0 0
              refine mp_run mp_k_cX10_joinOf_ok hF mp_tabX10_ok [mp_h (.ifCond .eq 7) [70]] (by decide +kernel) ?_
              refine And.intro (fun c_134 => absurd c_134 (by decide)) (fun _ => ?_)
              show mp_W E X 4 66 [(0, .ref a0), (1, .int x0), (2, .int x1)] [] w3_ 0 0
              refine mp_run mp_k_cX10_joinOf_ok hF mp_tabX10_ok [mp_c (.ldc_w 399) (-1000000)] (by decide +kernel) ?_
              show mp_W E X 4 69 [(0, .ref a0), (1, .int x0), (2, .int x1)] [.int (-1000000)] w3_ 0 0
              exact mp_iret hF hQ rfl rfl (Nat.le_of_ble_eq_true rfl) (Nat.le_of_ble_eq_true rfl) [2, 3, 0, 4, 1] (w' := w1_) rfl rfl ⟨(-1000000), rfl, rfl⟩ (by first | exact mp_fd_ok mp_k_cX10_joinOf_ok (by decide +kernel) | decide +kernel)
          · skip
            let w4_ : va_W := [(mp_arI E a2 0 90 f1), (mp_arI E a4 3 1500 f3), (mp_ob10 a0 y0 a5 a6 a7 a8 a9 y1 y2 y3 y4 y5 y6 y7 y8 y9 y10 a10 a1 a11 a12 a2 a3 a13 a14 y11 a15 a16 a17 a4 y12 y13 y14 a18 a19 y15 y16 a20 a21 a22 y17 y18 y19 y20 a23 a24 a25 y21), (mp_arI E a1 0 25 f0), (mp_arI E a3 0 300 f2)]
            show mp_W E X 4 55 [(0, .ref a0), (1, .int x0), (2, .int x1)] [.int 1] w4_ 0 0
            refine mp_run mp_k_cX10_joinOf_ok hF mp_tabX10_ok [mp_h (.ifCond .ne 11) [66]] (by decide +kernel) ?_
            refine And.intro (fun _ => ?_) (fun c_135 => absurd c_135 (by decide))
            show mp_W E X 4 66 [(0, .ref a0), (1, .int x0), (2, .int x1)] [] w4_ 0 0
            refine mp_run mp_k_cX10_joinOf_ok hF mp_tabX10_ok [mp_c (.ldc_w 399) (-1000000)] (by decide +kernel) ?_
            show mp_W E X 4 69 [(0, .ref a0), (1, .int x0), (2, .int x1)] [.int (-1000000)] w4_ 0 0
            exact mp_iret hF hQ rfl rfl (Nat.le_of_ble_eq_true rfl) (Nat.le_of_ble_eq_true rfl) [2, 3, 0, 4, 1] (w' := w1_) rfl rfl ⟨(-1000000), rfl, rfl⟩ (by first | exact mp_fd_ok mp_k_cX10_joinOf_ok (by decide +kernel) | decide +kernel)
set_option maxHeartbeats 4000000 in
set_option maxRecDepth 100000 in
theorem bX10_joins_128 (E : mp_E) (a0 a1 a2 a3 a4 a5 a6 a7 a8 a9 a10 a11 a12 a13 a14 a15 a16 a17 a18 a19 a20 a21 a22 a23 a24 a25 : Nat) (f0 : Nat → Int32) (f1 : Nat → Int32) (f2 : Nat → Int32) (f3 : Nat → Int32) (f4 : Nat → Int32) (f5 : Nat → Int32) (f6 : Nat → Int32) (f7 : Nat → Int32) (f8 : Nat → Int32) (y0 : Int32) (y1 : Int32) (y2 : Int32) (y3 : Int32) (y4 : Int32) (y5 : Int32) (y6 : Int64) (y7 : Int32) (y8 : Int32) (y9 : Int32) (y10 : Int32) (y11 : Int32) (y12 : Int32) (y13 : Int32) (y14 : Int32) (y15 : Int32) (y16 : Int32) (y17 : Int32) (y18 : Int32) (y19 : Int32) (y20 : Int32) (y21 : Int32) (x0 : Int32) (x1 : Int32) (p0 : mp_res f0 25 5 0 0 6) (p1 : mp_res f0 25 5 1 0 99) (p2 : mp_res f0 25 5 2 0 6) (p3 : mp_res f0 25 5 3 0 10) (p4 : mp_res f0 25 5 4 0 60) (p5 : mp_all f1 180 0 20) (p6 : mp_res f2 90 3 0 0 5) (p7 : mp_res f2 90 3 1 (-1) 99) (p8 : mp_res f3 300 6 0 0 5) (p9 : mp_res f3 300 6 1 0 5) (p10 : mp_res f3 300 6 3 0 99) (p11 : mp_res f3 300 6 4 0 1) (p12 : mp_actm f4) (p13 : mp_all f5 6 0 5) (l_y1 : 0 ≤ y1.toInt) (u_y1 : y1.toInt ≤ 1600) (l_y2 : 0 ≤ y2.toInt) (u_y2 : y2.toInt ≤ 1600) (l_y3 : 0 ≤ y3.toInt) (u_y3 : y3.toInt ≤ 4) (l_y4 : 0 ≤ y4.toInt) (u_y4 : y4.toInt ≤ 1600) (l_y11 : 0 ≤ y11.toInt) (u_y11 : y11.toInt ≤ 99) (l_y12 : 0 ≤ y12.toInt) (u_y12 : y12.toInt ≤ 5) (l_y13 : 0 ≤ y13.toInt) (u_y13 : y13.toInt ≤ 12) (q0 : mp_prm f3 (f0 3).toInt) (q1 : (f0 1).toInt + mp_k200 f4 (f0 4).toInt ≤ 99) : mp_Ct E yX10_joins cX10_joins 4 (some FieldType.int) 15 0 0 357 [.ref a0, .int x0, .int x1] [(mp_ob10 a0 y0 a10 a11 a12 a13 a14 y1 y2 y3 y4 y5 y6 y7 y8 y9 y10 a15 a1 a2 a16 a3 a4 a5 a17 y11 a6 a7 a8 a9 y12 y13 y14 a18 a19 y15 y16 a20 a21 a22 y17 y18 y19 y20 a23 a24 a25 y21), (mp_arI E a1 0 25 f0), (mp_arI E a2 0 180 f1), (mp_arI E a3 0 90 f2), (mp_arI E a4 0 300 f3), (mp_arI E a5 0 300 f4), (mp_arI E a6 0 6 f5), (mp_arI E a7 0 6 f6), (mp_arI E a8 0 6 f7), (mp_arI E a9 3 1500 f8)] (fun v w' => ∃ r1 : Int32, ∃ h2 : Nat → Int32, ∃ h3 : Nat → Int32, ∃ h4 : Nat → Int32, ∃ h5 : Nat → Int32, ∃ r6 : Int32, v = some (.int r6) ∧ 0 ≤ r1.toInt ∧ r1.toInt ≤ 99 ∧ mp_all h2 6 0 5 ∧ w' = [(mp_ob10 a0 0 a10 a11 a12 a13 a14 y1 y2 y3 y4 y5 y6 y7 y8 y9 y10 a15 a1 a2 a16 a3 a4 a5 a17 r1 a6 a7 a8 a9 y12 y13 y14 a18 a19 y15 y16 a20 a21 a22 y17 y18 y19 y20 a23 a24 a25 y21), (mp_arI E a1 0 25 f0), (mp_arI E a2 0 180 f1), (mp_arI E a3 0 90 f2), (mp_arI E a4 0 300 f3), (mp_arI E a5 0 300 f4), (mp_arI E a6 0 6 h2), (mp_arI E a7 0 6 h3), (mp_arI E a8 0 6 h4), (mp_arI E a9 3 1500 h5)]) := by
  refine mp_met false (by decide) (by decide) (Nat.le_of_ble_eq_true rfl) (fun X hF hQ => ?_)
  have hF : mp_F E X (RX10, cX10_joins, 4, (15, 0, 0, 357), (some FieldType.int), false) := hF
  let w1_ : va_W := [(mp_ob10 a0 y0 a10 a11 a12 a13 a14 y1 y2 y3 y4 y5 y6 y7 y8 y9 y10 a15 a1 a2 a16 a3 a4 a5 a17 y11 a6 a7 a8 a9 y12 y13 y14 a18 a19 y15 y16 a20 a21 a22 y17 y18 y19 y20 a23 a24 a25 y21), (mp_arI E a1 0 25 f0), (mp_arI E a2 0 180 f1), (mp_arI E a3 0 90 f2), (mp_arI E a4 0 300 f3), (mp_arI E a5 0 300 f4), (mp_arI E a6 0 6 f5), (mp_arI E a7 0 6 f6), (mp_arI E a8 0 6 f7), (mp_arI E a9 3 1500 f8)]
  show mp_W E X 4 0 [(0, .ref a0), (1, .int x0), (2, .int x1)] [] w1_ 0 0
  refine mp_run mp_k_cX10_joins_ok hF mp_tabX10_ok [mp_i (.aload_n 0), mp_c (.iconst 0) 0, mp_h (.putfield 92) [0, 0]] (by decide +kernel) ?_
  refine And.intro rfl (And.intro rfl (And.intro rfl (And.intro rfl (And.intro (Nat.le_of_ble_eq_true rfl) ?_))))
  let w2_ : va_W := [(mp_ob10 a0 0 a10 a11 a12 a13 a14 y1 y2 y3 y4 y5 y6 y7 y8 y9 y10 a15 a1 a2 a16 a3 a4 a5 a17 y11 a6 a7 a8 a9 y12 y13 y14 a18 a19 y15 y16 a20 a21 a22 y17 y18 y19 y20 a23 a24 a25 y21), (mp_arI E a1 0 25 f0), (mp_arI E a2 0 180 f1), (mp_arI E a3 0 90 f2), (mp_arI E a4 0 300 f3), (mp_arI E a5 0 300 f4), (mp_arI E a6 0 6 f5), (mp_arI E a7 0 6 f6), (mp_arI E a8 0 6 f7), (mp_arI E a9 3 1500 f8)]
  show mp_W E X 4 5 [(0, .ref a0), (1, .int x0), (2, .int x1)] [] w2_ 0 0
  refine mp_run mp_k_cX10_joins_ok hF mp_tabX10_ok [mp_i (.aload_n 0), mp_i (.iload_n 1)] (by decide +kernel) ?_
  show mp_W E X 4 7 [(0, .ref a0), (1, .int x0), (2, .int x1)] [.int x0, .ref a0] w2_ 0 0
  refine mp_callV hF (As := [.int x0]) (rest := []) (wr := [(mp_arI E a2 0 180 f1), (mp_arI E a3 0 90 f2), (mp_arI E a4 0 300 f3), (mp_arI E a5 0 300 f4), (mp_arI E a6 0 6 f5), (mp_arI E a7 0 6 f6), (mp_arI E a8 0 6 f7), (mp_arI E a9 3 1500 f8)]) (bX10_isPromise_55 E a0 a1 a10 a11 a12 a13 a14 a15 a2 a16 a3 a4 a5 a17 a6 a7 a8 a9 a18 a19 a20 a21 a22 a23 a24 a25 f0 0 y1 y2 y3 y4 y5 y6 y7 y8 y9 y10 y11 y12 y13 y14 y15 y16 y17 y18 y19 y20 y21 x0 p0 p1 p2 p3 p4 l_y1 u_y1 l_y2 u_y2 l_y3 u_y3 l_y4 u_y4 l_y11 u_y11 l_y12 u_y12 l_y13 u_y13) mp_lkX10_262 0 rfl [0, 1] [2, 3, 4, 5, 6, 7, 8, 9] rfl rfl rfl rfl rfl ⟨(Nat.le_of_ble_eq_true rfl), (Nat.le_of_ble_eq_true rfl), (Nat.le_of_ble_eq_true rfl), (Nat.le_of_ble_eq_true rfl)⟩ (Nat.le_of_ble_eq_true rfl) (by first | exact mp_fd_ok mp_k_cX10_joins_ok (by decide +kernel) | decide +kernel) (fun v_1 w_2 h_3 => ?_)
  refine h_3.elim (fun q_9 => ?_) (fun q_10 => ?_)
  · skip
    refine q_9.elim fun e_11 q_12 => q_12.elim fun x_4 e_13 => ?_
    clear h_3 q_9 q_12
    subst e_11
    subst e_13
    let w3_ : va_W := [(mp_arI E a2 0 180 f1), (mp_arI E a3 0 90 f2), (mp_arI E a4 0 300 f3), (mp_arI E a5 0 300 f4), (mp_arI E a6 0 6 f5), (mp_arI E a7 0 6 f6), (mp_arI E a8 0 6 f7), (mp_arI E a9 3 1500 f8), (mp_ob10 a0 0 a10 a11 a12 a13 a14 y1 y2 y3 y4 y5 y6 y7 y8 y9 y10 a15 a1 a2 a16 a3 a4 a5 a17 y11 a6 a7 a8 a9 y12 y13 y14 a18 a19 y15 y16 a20 a21 a22 y17 y18 y19 y20 a23 a24 a25 y21), (mp_arI E a1 0 25 f0)]
    show mp_W E X 4 10 [(0, .ref a0), (1, .int x0), (2, .int x1)] [.int 0] w3_ 0 0
    refine mp_run mp_k_cX10_joins_ok hF mp_tabX10_ok [mp_h (.ifCond .eq 16) [26]] (by decide +kernel) ?_
    refine And.intro (fun _ => ?_) (fun c_14 => absurd c_14 (by decide))
    show mp_W E X 4 26 [(0, .ref a0), (1, .int x0), (2, .int x1)] [] w3_ 0 0
    refine mp_run mp_k_cX10_joins_ok hF mp_tabX10_ok [mp_c (.bipush (-2)) (-2)] (by decide +kernel) ?_
    show mp_W E X 4 28 [(0, .ref a0), (1, .int x0), (2, .int x1)] [.int (-2)] w3_ 0 0
    exact mp_iret hF hQ rfl rfl (Nat.le_of_ble_eq_true rfl) (Nat.le_of_ble_eq_true rfl) [8, 9, 0, 1, 2, 3, 4, 5, 6, 7] (w' := w2_) rfl rfl ⟨y11, f5, f6, f7, f8, (-2), rfl, l_y11, u_y11, p13, rfl⟩ (by first | exact mp_fd_ok mp_k_cX10_joins_ok (by decide +kernel) | decide +kernel)
  · skip
    refine q_10.elim fun e_15 q_16 => q_16.elim fun c_5 q_17 => q_17.elim fun x_6 q_18 => q_18.elim fun x_7 q_19 => q_19.elim fun x_8 e_20 => ?_
    clear h_3 q_10 q_16 q_17 q_18 q_19
    subst e_15
    subst e_20
    have c_5 : 0 ≤ x0.toInt := c_5
    let w4_ : va_W := [(mp_arI E a2 0 180 f1), (mp_arI E a3 0 90 f2), (mp_arI E a4 0 300 f3), (mp_arI E a5 0 300 f4), (mp_arI E a6 0 6 f5), (mp_arI E a7 0 6 f6), (mp_arI E a8 0 6 f7), (mp_arI E a9 3 1500 f8), (mp_ob10 a0 0 a10 a11 a12 a13 a14 y1 y2 y3 y4 y5 y6 y7 y8 y9 y10 a15 a1 a2 a16 a3 a4 a5 a17 y11 a6 a7 a8 a9 y12 y13 y14 a18 a19 y15 y16 a20 a21 a22 y17 y18 y19 y20 a23 a24 a25 y21), (mp_arI E a1 0 25 f0)]
    show mp_W E X 4 10 [(0, .ref a0), (1, .int x0), (2, .int x1)] [.int 1] w4_ 0 0
    refine mp_run mp_k_cX10_joins_ok hF mp_tabX10_ok [mp_h (.ifCond .eq 16) [26]] (by decide +kernel) ?_
    refine And.intro (fun c_21 => absurd c_21 (by decide)) (fun _ => ?_)
    show mp_W E X 4 13 [(0, .ref a0), (1, .int x0), (2, .int x1)] [] w4_ 0 0
    refine mp_run mp_k_cX10_joins_ok hF mp_tabX10_ok [mp_i (.aload_n 0), mp_i (.iload_n 2)] (by decide +kernel) ?_
    show mp_W E X 4 15 [(0, .ref a0), (1, .int x0), (2, .int x1)] [.int x1, .ref a0] w4_ 0 0
    refine mp_callV hF (As := [.int x1]) (rest := []) (wr := [(mp_arI E a2 0 180 f1), (mp_arI E a3 0 90 f2), (mp_arI E a4 0 300 f3), (mp_arI E a5 0 300 f4), (mp_arI E a6 0 6 f5), (mp_arI E a7 0 6 f6), (mp_arI E a8 0 6 f7), (mp_arI E a9 3 1500 f8)]) (bX10_isPromise_55 E a0 a1 a10 a11 a12 a13 a14 a15 a2 a16 a3 a4 a5 a17 a6 a7 a8 a9 a18 a19 a20 a21 a22 a23 a24 a25 f0 0 y1 y2 y3 y4 y5 y6 y7 y8 y9 y10 y11 y12 y13 y14 y15 y16 y17 y18 y19 y20 y21 x1 p0 p1 p2 p3 p4 l_y1 u_y1 l_y2 u_y2 l_y3 u_y3 l_y4 u_y4 l_y11 u_y11 l_y12 u_y12 l_y13 u_y13) mp_lkX10_262 8 rfl [8, 9] [0, 1, 2, 3, 4, 5, 6, 7] rfl rfl rfl rfl rfl ⟨(Nat.le_of_ble_eq_true rfl), (Nat.le_of_ble_eq_true rfl), (Nat.le_of_ble_eq_true rfl), (Nat.le_of_ble_eq_true rfl)⟩ (Nat.le_of_ble_eq_true rfl) (by first | exact mp_fd_ok mp_k_cX10_joins_ok (by decide +kernel) | decide +kernel) (fun v_22 w_23 h_24 => ?_)
    refine h_24.elim (fun q_30 => ?_) (fun q_31 => ?_)
    · skip
      refine q_30.elim fun e_32 q_33 => q_33.elim fun x_25 e_34 => ?_
      clear h_24 q_30 q_33
      subst e_32
      subst e_34
      show mp_W E X 4 18 [(0, .ref a0), (1, .int x0), (2, .int x1)] [.int 0] w4_ 0 0
      refine mp_run mp_k_cX10_joins_ok hF mp_tabX10_ok [mp_h (.ifCond .eq 8) [26]] (by decide +kernel) ?_
      refine And.intro (fun _ => ?_) (fun c_35 => absurd c_35 (by decide))
      show mp_W E X 4 26 [(0, .ref a0), (1, .int x0), (2, .int x1)] [] w4_ 0 0
      refine mp_run mp_k_cX10_joins_ok hF mp_tabX10_ok [mp_c (.bipush (-2)) (-2)] (by decide +kernel) ?_
      show mp_W E X 4 28 [(0, .ref a0), (1, .int x0), (2, .int x1)] [.int (-2)] w4_ 0 0
      exact mp_iret hF hQ rfl rfl (Nat.le_of_ble_eq_true rfl) (Nat.le_of_ble_eq_true rfl) [8, 9, 0, 1, 2, 3, 4, 5, 6, 7] (w' := w2_) rfl rfl ⟨y11, f5, f6, f7, f8, (-2), rfl, l_y11, u_y11, p13, rfl⟩ (by first | exact mp_fd_ok mp_k_cX10_joins_ok (by decide +kernel) | decide +kernel)
    · skip
      refine q_31.elim fun e_36 q_37 => q_37.elim fun c_26 q_38 => q_38.elim fun x_27 q_39 => q_39.elim fun x_28 q_40 => q_40.elim fun x_29 e_41 => ?_
      clear h_24 q_31 q_37 q_38 q_39 q_40
      subst e_36
      subst e_41
      have c_26 : 0 ≤ x1.toInt := c_26
      show mp_W E X 4 18 [(0, .ref a0), (1, .int x0), (2, .int x1)] [.int 1] w4_ 0 0
      refine mp_run mp_k_cX10_joins_ok hF mp_tabX10_ok [mp_h (.ifCond .eq 8) [26]] (by decide +kernel) ?_
      refine And.intro (fun c_42 => absurd c_42 (by decide)) (fun _ => ?_)
      show mp_W E X 4 21 [(0, .ref a0), (1, .int x0), (2, .int x1)] [] w4_ 0 0
      refine mp_run mp_k_cX10_joins_ok hF mp_tabX10_ok [mp_i (.iload_n 1), mp_i (.iload_n 2), mp_h (.if_icmp .ne 6) [29]] (by decide +kernel) ?_
      refine And.intro (fun c_43 => ?_) (fun c_43 => ?_)
      · have c_43 : x0.toInt ≠ x1.toInt := c_43
        show mp_W E X 4 29 [(0, .ref a0), (1, .int x0), (2, .int x1)] [] w4_ 0 0
        refine mp_run mp_k_cX10_joins_ok hF mp_tabX10_ok [mp_i (.aload_n 0)] (by decide +kernel) ?_
        show mp_W E X 4 30 [(0, .ref a0), (1, .int x0), (2, .int x1)] [.ref a0] w4_ 0 0
        refine mp_callV hF (As := []) (rest := []) (wr := [(mp_arI E a4 0 300 f3)]) (bX10_lays_62 E a0 a1 a2 a3 a5 a6 a7 a8 a9 a10 a11 a12 a13 a14 a15 a16 a4 a17 a18 a19 a20 a21 a22 a23 a24 a25 f0 f1 f2 f4 f5 f6 f7 f8 0 y1 y2 y3 y4 y5 y6 y7 y8 y9 y10 y11 y12 y13 y14 y15 y16 y17 y18 y19 y20 y21 p0 p1 p2 p3 p4 p5 p6 p7 p12 p13 l_y1 u_y1 l_y2 u_y2 l_y3 u_y3 l_y4 u_y4 l_y11 u_y11 l_y12 u_y12 l_y13 u_y13 (by (first | exact q1 | omega))) mp_lkX10_288 8 rfl [8, 9, 0, 1, 3, 4, 5, 6, 7] [2] rfl rfl rfl rfl rfl ⟨(Nat.le_of_ble_eq_true rfl), (Nat.le_of_ble_eq_true rfl), (Nat.le_of_ble_eq_true rfl), (Nat.le_of_ble_eq_true rfl)⟩ (Nat.le_of_ble_eq_true rfl) (by first | exact mp_fd_ok mp_k_cX10_joins_ok (by decide +kernel) | decide +kernel) (fun v_44 w_45 h_46 => ?_)
        refine h_46.elim fun r_47 q_57 => q_57.elim fun g_48 q_58 => q_58.elim fun g_49 q_59 => q_59.elim fun g_50 q_60 => q_60.elim fun g_51 q_61 => q_61.elim fun e_62 q_63 => q_63.elim fun l_52 q_64 => q_64.elim fun u_53 q_65 => q_65.elim fun p_54 q_66 => q_66.elim fun x_55 q_67 => q_67.elim fun x_56 e_68 => ?_
        clear h_46 q_57 q_58 q_59 q_60 q_61 q_63 q_64 q_65 q_66 q_67
        subst e_62
        subst e_68
        let w5_ : va_W := [(mp_arI E a4 0 300 f3), (mp_ob10 a0 0 a10 a11 a12 a13 a14 y1 y2 y3 y4 y5 y6 y7 y8 y9 y10 a15 a1 a2 a16 a3 a4 a5 a17 r_47 a6 a7 a8 a9 y12 y13 y14 a18 a19 y15 y16 a20 a21 a22 y17 y18 y19 y20 a23 a24 a25 y21), (mp_arI E a1 0 25 f0), (mp_arI E a2 0 180 f1), (mp_arI E a3 0 90 f2), (mp_arI E a5 0 300 f4), (mp_arI E a6 0 6 g_48), (mp_arI E a7 0 6 g_49), (mp_arI E a8 0 6 g_50), (mp_arI E a9 3 1500 g_51)]
        show mp_W E X 4 33 [(0, .ref a0), (1, .int x0), (2, .int x1)] [] w5_ 0 0
        refine mp_run mp_k_cX10_joins_ok hF mp_tabX10_ok [mp_i (.aload_n 0), mp_i (.iload_n 1), mp_i (.iload_n 2)] (by decide +kernel) ?_
        show mp_W E X 4 36 [(0, .ref a0), (1, .int x0), (2, .int x1)] [.int x1, .int x0, .ref a0] w5_ 0 0
        refine mp_callV hF (As := [.int x0, .int x1]) (rest := []) (wr := [(mp_arI E a2 0 180 f1), (mp_arI E a5 0 300 f4), (mp_arI E a6 0 6 g_48), (mp_arI E a7 0 6 g_49), (mp_arI E a8 0 6 g_50)]) (bX10_joinOf_127 E a0 a1 a3 a4 a9 a10 a11 a12 a13 a14 a15 a2 a16 a5 a17 a6 a7 a8 a18 a19 a20 a21 a22 a23 a24 a25 f0 f2 f3 g_51 0 y1 y2 y3 y4 y5 y6 y7 y8 y9 y10 r_47 y12 y13 y14 y15 y16 y17 y18 y19 y20 y21 x0 x1 p0 p1 p2 p3 p4 p6 p7 p8 p9 p10 p11 (by (first | exact c_5 | omega)) (by (first | exact x_7 | omega)) (by (first | exact c_26 | omega)) (by (first | exact x_28 | omega)) l_y1 u_y1 l_y2 u_y2 l_y3 u_y3 l_y4 u_y4 l_52 u_53 l_y12 u_y12 l_y13 u_y13 (by first | assumption | (rw [rfl]; assumption)) (by (first | exact x_6 | omega)) (by (first | exact x_27 | omega))) mp_lkX10_402 1 rfl [1, 2, 4, 0, 9] [3, 5, 6, 7, 8] rfl rfl rfl rfl rfl ⟨(Nat.le_of_ble_eq_true rfl), (Nat.le_of_ble_eq_true rfl), (Nat.le_of_ble_eq_true rfl), (Nat.le_of_ble_eq_true rfl)⟩ (Nat.le_of_ble_eq_true rfl) (by first | exact mp_fd_ok mp_k_cX10_joins_ok (by decide +kernel) | decide +kernel) (fun v_69 w_70 h_71 => ?_)
        obtain ⟨r_72, rfl, rfl⟩ := h_71
        let w6_ : va_W := [(mp_arI E a2 0 180 f1), (mp_arI E a5 0 300 f4), (mp_arI E a6 0 6 g_48), (mp_arI E a7 0 6 g_49), (mp_arI E a8 0 6 g_50), (mp_ob10 a0 0 a10 a11 a12 a13 a14 y1 y2 y3 y4 y5 y6 y7 y8 y9 y10 a15 a1 a2 a16 a3 a4 a5 a17 r_47 a6 a7 a8 a9 y12 y13 y14 a18 a19 y15 y16 a20 a21 a22 y17 y18 y19 y20 a23 a24 a25 y21), (mp_arI E a1 0 25 f0), (mp_arI E a3 0 90 f2), (mp_arI E a4 0 300 f3), (mp_arI E a9 3 1500 g_51)]
        show mp_W E X 4 39 [(0, .ref a0), (1, .int x0), (2, .int x1)] [.int r_72] w6_ 0 0
        refine mp_run mp_k_cX10_joins_ok hF mp_tabX10_ok [mp_i (.istore_n 3), mp_i (.iload_n 3), mp_c (.ldc_w 399) (-1000000), mp_h (.if_icmp .ne 8) [52]] (by decide +kernel) ?_
        refine And.intro (fun c_73 => ?_) (fun c_73 => ?_)
        · have c_73 : r_72.toInt ≠ (-1000000) := c_73
          show mp_W E X 4 52 [(3, .int r_72), (0, .ref a0), (1, .int x0), (2, .int x1)] [] w6_ 0 0
          refine mp_run mp_k_cX10_joins_ok hF mp_tabX10_ok [mp_i (.iload_n 3)] (by decide +kernel) ?_
          show mp_W E X 4 53 [(3, .int r_72), (0, .ref a0), (1, .int x0), (2, .int x1)] [.int r_72] w6_ 0 0
          exact mp_iret hF hQ rfl rfl (Nat.le_of_ble_eq_true rfl) (Nat.le_of_ble_eq_true rfl) [5, 6, 0, 7, 8, 1, 2, 3, 4, 9] (w' := [(mp_ob10 a0 0 a10 a11 a12 a13 a14 y1 y2 y3 y4 y5 y6 y7 y8 y9 y10 a15 a1 a2 a16 a3 a4 a5 a17 r_47 a6 a7 a8 a9 y12 y13 y14 a18 a19 y15 y16 a20 a21 a22 y17 y18 y19 y20 a23 a24 a25 y21), (mp_arI E a1 0 25 f0), (mp_arI E a2 0 180 f1), (mp_arI E a3 0 90 f2), (mp_arI E a4 0 300 f3), (mp_arI E a5 0 300 f4), (mp_arI E a6 0 6 g_48), (mp_arI E a7 0 6 g_49), (mp_arI E a8 0 6 g_50), (mp_arI E a9 3 1500 g_51)]) rfl rfl ⟨r_47, g_48, g_49, g_50, g_51, r_72, rfl, l_52, u_53, p_54, rfl⟩ (by first | exact mp_fd_ok mp_k_cX10_joins_ok (by decide +kernel) | decide +kernel)
        · have c_73 : r_72.toInt = (-1000000) := (congrArg Int32.toInt c_73)
          show mp_W E X 4 47 [(3, .int r_72), (0, .ref a0), (1, .int x0), (2, .int x1)] [] w6_ 0 0
          refine mp_run mp_k_cX10_joins_ok hF mp_tabX10_ok [mp_c (.bipush (-5)) (-5), mp_h (.goto 4) [53]] (by decide +kernel) ?_
          show mp_W E X 4 53 [(3, .int r_72), (0, .ref a0), (1, .int x0), (2, .int x1)] [.int (-5)] w6_ 0 0
          exact mp_iret hF hQ rfl rfl (Nat.le_of_ble_eq_true rfl) (Nat.le_of_ble_eq_true rfl) [5, 6, 0, 7, 8, 1, 2, 3, 4, 9] (w' := [(mp_ob10 a0 0 a10 a11 a12 a13 a14 y1 y2 y3 y4 y5 y6 y7 y8 y9 y10 a15 a1 a2 a16 a3 a4 a5 a17 r_47 a6 a7 a8 a9 y12 y13 y14 a18 a19 y15 y16 a20 a21 a22 y17 y18 y19 y20 a23 a24 a25 y21), (mp_arI E a1 0 25 f0), (mp_arI E a2 0 180 f1), (mp_arI E a3 0 90 f2), (mp_arI E a4 0 300 f3), (mp_arI E a5 0 300 f4), (mp_arI E a6 0 6 g_48), (mp_arI E a7 0 6 g_49), (mp_arI E a8 0 6 g_50), (mp_arI E a9 3 1500 g_51)]) rfl rfl ⟨r_47, g_48, g_49, g_50, g_51, (-5), rfl, l_52, u_53, p_54, rfl⟩ (by first | exact mp_fd_ok mp_k_cX10_joins_ok (by decide +kernel) | decide +kernel)
      · have c_43 : x0.toInt = x1.toInt := (congrArg Int32.toInt c_43)
        show mp_W E X 4 26 [(0, .ref a0), (1, .int x0), (2, .int x1)] [] w4_ 0 0
        refine mp_run mp_k_cX10_joins_ok hF mp_tabX10_ok [mp_c (.bipush (-2)) (-2)] (by decide +kernel) ?_
        show mp_W E X 4 28 [(0, .ref a0), (1, .int x0), (2, .int x1)] [.int (-2)] w4_ 0 0
        exact mp_iret hF hQ rfl rfl (Nat.le_of_ble_eq_true rfl) (Nat.le_of_ble_eq_true rfl) [8, 9, 0, 1, 2, 3, 4, 5, 6, 7] (w' := w2_) rfl rfl ⟨y11, f5, f6, f7, f8, (-2), rfl, l_y11, u_y11, p13, rfl⟩ (by first | exact mp_fd_ok mp_k_cX10_joins_ok (by decide +kernel) | decide +kernel)
set_option maxHeartbeats 4000000 in
set_option maxRecDepth 100000 in
theorem bX10_joined_129 (E : mp_E) (a0 a1 a2 a3 a4 a5 a6 a7 a8 a9 a10 a11 a12 a13 a14 a15 a16 a17 a18 a19 a20 a21 a22 a23 a24 a25 : Nat) (f0 : Nat → Int32) (f1 : Nat → Int32) (f2 : Nat → Int32) (f3 : Nat → Int32) (f4 : Nat → Int32) (f5 : Nat → Int32) (f6 : Nat → Int32) (f7 : Nat → Int32) (f8 : Nat → Int32) (f9 : Nat → Int32) (y0 : Int32) (y1 : Int32) (y2 : Int32) (y3 : Int32) (y4 : Int32) (y5 : Int32) (y6 : Int64) (y7 : Int32) (y8 : Int32) (y9 : Int32) (y10 : Int32) (y11 : Int32) (y12 : Int32) (y13 : Int32) (y14 : Int32) (y15 : Int32) (y16 : Int32) (y17 : Int32) (y18 : Int32) (y19 : Int32) (y20 : Int32) (y21 : Int32) (p0 : mp_res f1 25 5 0 0 6) (p1 : mp_res f1 25 5 1 0 99) (p2 : mp_res f1 25 5 2 0 6) (p3 : mp_res f1 25 5 3 0 10) (p4 : mp_res f1 25 5 4 0 60) (p5 : mp_all f2 180 0 20) (p6 : mp_res f3 90 3 0 0 5) (p7 : mp_res f3 90 3 1 (-1) 99) (p8 : mp_res f4 300 6 0 0 5) (p9 : mp_res f4 300 6 1 0 5) (p10 : mp_res f4 300 6 3 0 99) (p11 : mp_res f4 300 6 4 0 1) (p12 : mp_actm f5) (p13 : mp_all f6 6 0 5) (l_y1 : 0 ≤ y1.toInt) (u_y1 : y1.toInt ≤ 1600) (l_y2 : 0 ≤ y2.toInt) (u_y2 : y2.toInt ≤ 1600) (l_y3 : 0 ≤ y3.toInt) (u_y3 : y3.toInt ≤ 4) (l_y4 : 0 ≤ y4.toInt) (u_y4 : y4.toInt ≤ 1600) (l_y11 : 0 ≤ y11.toInt) (u_y11 : y11.toInt ≤ 99) (l_y12 : 0 ≤ y12.toInt) (u_y12 : y12.toInt ≤ 5) (l_y13 : 0 ≤ y13.toInt) (u_y13 : y13.toInt ≤ 12) (q0 : mp_prm f4 (f1 3).toInt) (q1 : (f1 1).toInt + mp_k200 f5 (f1 4).toInt ≤ 99) : mp_Ct E yX10_joined cX10_joined 6 (some FieldType.int) 15 0 0 357 [.ref a0] [(mp_ob10 a0 y0 a11 a12 a13 a14 a15 y1 y2 y3 y4 y5 y6 y7 y8 y9 y10 a1 a2 a3 a16 a4 a5 a6 a17 y11 a7 a8 a9 a10 y12 y13 y14 a18 a19 y15 y16 a20 a21 a22 y17 y18 y19 y20 a23 a24 a25 y21), (mp_arI E a1 0 5 f0), (mp_arI E a2 0 25 f1), (mp_arI E a3 0 180 f2), (mp_arI E a4 0 90 f3), (mp_arI E a5 0 300 f4), (mp_arI E a6 0 300 f5), (mp_arI E a7 0 6 f6), (mp_arI E a8 0 6 f7), (mp_arI E a9 0 6 f8), (mp_arI E a10 3 1500 f9)] (fun v w' => ∃ r1 : Int32, ∃ h2 : Nat → Int32, ∃ h3 : Nat → Int32, ∃ h4 : Nat → Int32, ∃ h5 : Nat → Int32, ∃ r6 : Int32, v = some (.int r6) ∧ 0 ≤ r1.toInt ∧ r1.toInt ≤ 99 ∧ (-2) ≤ r6.toInt ∧ r6.toInt ≤ 100 ∧ mp_all h2 6 0 5 ∧ w' = [(mp_ob10 a0 0 a11 a12 a13 a14 a15 y1 y2 y3 y4 y5 y6 y7 y8 y9 y10 a1 a2 a3 a16 a4 a5 a6 a17 r1 a7 a8 a9 a10 y12 y13 y14 a18 a19 y15 y16 a20 a21 a22 y17 y18 y19 y20 a23 a24 a25 y21), (mp_arI E a1 0 5 f0), (mp_arI E a2 0 25 f1), (mp_arI E a3 0 180 f2), (mp_arI E a4 0 90 f3), (mp_arI E a5 0 300 f4), (mp_arI E a6 0 300 f5), (mp_arI E a7 0 6 h2), (mp_arI E a8 0 6 h3), (mp_arI E a9 0 6 h4), (mp_arI E a10 3 1500 h5)]) := by
  refine mp_met false (by decide) (by decide) (Nat.le_of_ble_eq_true rfl) (fun X hF hQ => ?_)
  have hF : mp_F E X (RX10, cX10_joined, 6, (15, 0, 0, 357), (some FieldType.int), false) := hF
  let w1_ : va_W := [(mp_ob10 a0 y0 a11 a12 a13 a14 a15 y1 y2 y3 y4 y5 y6 y7 y8 y9 y10 a1 a2 a3 a16 a4 a5 a6 a17 y11 a7 a8 a9 a10 y12 y13 y14 a18 a19 y15 y16 a20 a21 a22 y17 y18 y19 y20 a23 a24 a25 y21), (mp_arI E a1 0 5 f0), (mp_arI E a2 0 25 f1), (mp_arI E a3 0 180 f2), (mp_arI E a4 0 90 f3), (mp_arI E a5 0 300 f4), (mp_arI E a6 0 300 f5), (mp_arI E a7 0 6 f6), (mp_arI E a8 0 6 f7), (mp_arI E a9 0 6 f8), (mp_arI E a10 3 1500 f9)]
  show mp_W E X 6 0 [(0, .ref a0)] [] w1_ 0 0
  refine mp_run mp_k_cX10_joined_ok hF mp_tabX10_ok [mp_i (.aload_n 0), mp_c (.iconst 0) 0, mp_h (.putfield 92) [0, 0]] (by decide +kernel) ?_
  refine And.intro rfl (And.intro rfl (And.intro rfl (And.intro rfl (And.intro (Nat.le_of_ble_eq_true rfl) ?_))))
  let w2_ : va_W := [(mp_ob10 a0 0 a11 a12 a13 a14 a15 y1 y2 y3 y4 y5 y6 y7 y8 y9 y10 a1 a2 a3 a16 a4 a5 a6 a17 y11 a7 a8 a9 a10 y12 y13 y14 a18 a19 y15 y16 a20 a21 a22 y17 y18 y19 y20 a23 a24 a25 y21), (mp_arI E a1 0 5 f0), (mp_arI E a2 0 25 f1), (mp_arI E a3 0 180 f2), (mp_arI E a4 0 90 f3), (mp_arI E a5 0 300 f4), (mp_arI E a6 0 300 f5), (mp_arI E a7 0 6 f6), (mp_arI E a8 0 6 f7), (mp_arI E a9 0 6 f8), (mp_arI E a10 3 1500 f9)]
  show mp_W E X 6 5 [(0, .ref a0)] [] w2_ 0 0
  refine mp_run mp_k_cX10_joined_ok hF mp_tabX10_ok [mp_i (.aload_n 0)] (by decide +kernel) ?_
  show mp_W E X 6 6 [(0, .ref a0)] [.ref a0] w2_ 0 0
  refine mp_callV hF (As := []) (rest := []) (wr := [(mp_arI E a2 0 25 f1), (mp_arI E a3 0 180 f2), (mp_arI E a4 0 90 f3), (mp_arI E a5 0 300 f4), (mp_arI E a6 0 300 f5), (mp_arI E a7 0 6 f6), (mp_arI E a8 0 6 f7), (mp_arI E a9 0 6 f8), (mp_arI E a10 3 1500 f9)]) (bX10_areIsles_81 E a0 a1 a11 a12 a13 a14 a15 a2 a3 a16 a4 a5 a6 a17 a7 a8 a9 a10 a18 a19 a20 a21 a22 a23 a24 a25 f0 0 y1 y2 y3 y4 y5 y6 y7 y8 y9 y10 y11 y12 y13 y14 y15 y16 y17 y18 y19 y20 y21 l_y1 u_y1 l_y2 u_y2 l_y3 u_y3 l_y4 u_y4 l_y11 u_y11 l_y12 u_y12 l_y13 u_y13) mp_lkX10_306 0 rfl [0, 1] [2, 3, 4, 5, 6, 7, 8, 9, 10] rfl rfl rfl rfl rfl ⟨(Nat.le_of_ble_eq_true rfl), (Nat.le_of_ble_eq_true rfl), (Nat.le_of_ble_eq_true rfl), (Nat.le_of_ble_eq_true rfl)⟩ (Nat.le_of_ble_eq_true rfl) (by first | exact mp_fd_ok mp_k_cX10_joined_ok (by decide +kernel) | decide +kernel) (fun v_1 w_2 h_3 => ?_)
  rcases h_3 with ⟨rfl, x_4, rfl⟩ | ⟨rfl, x_5, rfl⟩
  · skip
    let w3_ : va_W := [(mp_arI E a2 0 25 f1), (mp_arI E a3 0 180 f2), (mp_arI E a4 0 90 f3), (mp_arI E a5 0 300 f4), (mp_arI E a6 0 300 f5), (mp_arI E a7 0 6 f6), (mp_arI E a8 0 6 f7), (mp_arI E a9 0 6 f8), (mp_arI E a10 3 1500 f9), (mp_ob10 a0 0 a11 a12 a13 a14 a15 y1 y2 y3 y4 y5 y6 y7 y8 y9 y10 a1 a2 a3 a16 a4 a5 a6 a17 y11 a7 a8 a9 a10 y12 y13 y14 a18 a19 y15 y16 a20 a21 a22 y17 y18 y19 y20 a23 a24 a25 y21), (mp_arI E a1 0 5 f0)]
    show mp_W E X 6 9 [(0, .ref a0)] [.int 0] w3_ 0 0
    refine mp_run mp_k_cX10_joined_ok hF mp_tabX10_ok [mp_h (.ifCond .ne 6) [15]] (by decide +kernel) ?_
    refine And.intro (fun c_6 => absurd c_6 (by decide)) (fun _ => ?_)
    show mp_W E X 6 12 [(0, .ref a0)] [] w3_ 0 0
    refine mp_run mp_k_cX10_joined_ok hF mp_tabX10_ok [mp_c (.bipush (-2)) (-2)] (by decide +kernel) ?_
    show mp_W E X 6 14 [(0, .ref a0)] [.int (-2)] w3_ 0 0
    exact mp_iret hF hQ rfl rfl (Nat.le_of_ble_eq_true rfl) (Nat.le_of_ble_eq_true rfl) [9, 10, 0, 1, 2, 3, 4, 5, 6, 7, 8] (w' := w2_) rfl rfl ⟨y11, f6, f7, f8, f9, (-2), rfl, l_y11, u_y11, (by decide), (by decide), p13, rfl⟩ (by first | exact mp_fd_ok mp_k_cX10_joined_ok (by decide +kernel) | decide +kernel)
  · skip
    let w4_ : va_W := [(mp_arI E a2 0 25 f1), (mp_arI E a3 0 180 f2), (mp_arI E a4 0 90 f3), (mp_arI E a5 0 300 f4), (mp_arI E a6 0 300 f5), (mp_arI E a7 0 6 f6), (mp_arI E a8 0 6 f7), (mp_arI E a9 0 6 f8), (mp_arI E a10 3 1500 f9), (mp_ob10 a0 0 a11 a12 a13 a14 a15 y1 y2 y3 y4 y5 y6 y7 y8 y9 y10 a1 a2 a3 a16 a4 a5 a6 a17 y11 a7 a8 a9 a10 y12 y13 y14 a18 a19 y15 y16 a20 a21 a22 y17 y18 y19 y20 a23 a24 a25 y21), (mp_arI E a1 0 5 f0)]
    show mp_W E X 6 9 [(0, .ref a0)] [.int 1] w4_ 0 0
    refine mp_run mp_k_cX10_joined_ok hF mp_tabX10_ok [mp_h (.ifCond .ne 6) [15]] (by decide +kernel) ?_
    refine And.intro (fun _ => ?_) (fun c_7 => absurd c_7 (by decide))
    show mp_W E X 6 15 [(0, .ref a0)] [] w4_ 0 0
    refine mp_run mp_k_cX10_joined_ok hF mp_tabX10_ok [mp_i (.aload_n 0)] (by decide +kernel) ?_
    show mp_W E X 6 16 [(0, .ref a0)] [.ref a0] w4_ 0 0
    refine mp_callV hF (As := []) (rest := []) (wr := [(mp_arI E a5 0 300 f4), (mp_arI E a1 0 5 f0)]) (bX10_lays_62 E a0 a2 a3 a4 a6 a7 a8 a9 a10 a11 a12 a13 a14 a15 a1 a16 a5 a17 a18 a19 a20 a21 a22 a23 a24 a25 f1 f2 f3 f5 f6 f7 f8 f9 0 y1 y2 y3 y4 y5 y6 y7 y8 y9 y10 y11 y12 y13 y14 y15 y16 y17 y18 y19 y20 y21 p0 p1 p2 p3 p4 p5 p6 p7 p12 p13 l_y1 u_y1 l_y2 u_y2 l_y3 u_y3 l_y4 u_y4 l_y11 u_y11 l_y12 u_y12 l_y13 u_y13 (by (first | exact q1 | omega))) mp_lkX10_288 9 rfl [9, 0, 1, 2, 4, 5, 6, 7, 8] [3, 10] rfl rfl rfl rfl rfl ⟨(Nat.le_of_ble_eq_true rfl), (Nat.le_of_ble_eq_true rfl), (Nat.le_of_ble_eq_true rfl), (Nat.le_of_ble_eq_true rfl)⟩ (Nat.le_of_ble_eq_true rfl) (by first | exact mp_fd_ok mp_k_cX10_joined_ok (by decide +kernel) | decide +kernel) (fun v_8 w_9 h_10 => ?_)
    refine h_10.elim fun r_11 q_21 => q_21.elim fun g_12 q_22 => q_22.elim fun g_13 q_23 => q_23.elim fun g_14 q_24 => q_24.elim fun g_15 q_25 => q_25.elim fun e_26 q_27 => q_27.elim fun l_16 q_28 => q_28.elim fun u_17 q_29 => q_29.elim fun p_18 q_30 => q_30.elim fun x_19 q_31 => q_31.elim fun x_20 e_32 => ?_
    clear h_10 q_21 q_22 q_23 q_24 q_25 q_27 q_28 q_29 q_30 q_31
    subst e_26
    subst e_32
    let w5_ : va_W := [(mp_arI E a5 0 300 f4), (mp_arI E a1 0 5 f0), (mp_ob10 a0 0 a11 a12 a13 a14 a15 y1 y2 y3 y4 y5 y6 y7 y8 y9 y10 a1 a2 a3 a16 a4 a5 a6 a17 r_11 a7 a8 a9 a10 y12 y13 y14 a18 a19 y15 y16 a20 a21 a22 y17 y18 y19 y20 a23 a24 a25 y21), (mp_arI E a2 0 25 f1), (mp_arI E a3 0 180 f2), (mp_arI E a4 0 90 f3), (mp_arI E a6 0 300 f5), (mp_arI E a7 0 6 g_12), (mp_arI E a8 0 6 g_13), (mp_arI E a9 0 6 g_14), (mp_arI E a10 3 1500 g_15)]
    show mp_W E X 6 19 [(0, .ref a0)] [] w5_ 0 0
    refine mp_run mp_k_cX10_joined_ok hF mp_tabX10_ok [mp_c (.iconst (-1)) (-1), mp_i (.istore_n 1), mp_c (.ldc_w 399) (-1000000), mp_i (.istore_n 2), mp_c (.iconst 0) 0, mp_i (.istore_n 3)] (by decide +kernel) ?_
    show mp_W E X 6 27 [(3, .int 0), (2, .int (-1000000)), (1, .int (-1)), (0, .ref a0)] [] w5_ 0 0
    have lp_41 : ∀ (d_42 : Nat) (i_33 : Int32) (i_34 : Int32) (i_35 : Int32), 0 ≤ i_33.toInt → i_33.toInt ≤ 10 → (-1000000) ≤ i_34.toInt → (-1) ≤ i_35.toInt → i_35.toInt ≤ 100 → (f1 3).toInt - i_33.toInt ≤ (d_42 : Int) → mp_W E X 6 27 [(3, .int i_33), (2, .int i_34), (1, .int i_35), (0, .ref a0)] [] [(mp_arI E a5 0 300 f4), (mp_arI E a1 0 5 f0), (mp_ob10 a0 0 a11 a12 a13 a14 a15 y1 y2 y3 y4 y5 y6 y7 y8 y9 y10 a1 a2 a3 a16 a4 a5 a6 a17 r_11 a7 a8 a9 a10 y12 y13 y14 a18 a19 y15 y16 a20 a21 a22 y17 y18 y19 y20 a23 a24 a25 y21), (mp_arI E a2 0 25 f1), (mp_arI E a3 0 180 f2), (mp_arI E a4 0 90 f3), (mp_arI E a6 0 300 f5), (mp_arI E a7 0 6 g_12), (mp_arI E a8 0 6 g_13), (mp_arI E a9 0 6 g_14), (mp_arI E a10 3 1500 g_15)] 0 0 := by
      intro d_42
      induction d_42 using Nat.strongRecOn with
      | ind d_42 ih_43 =>
        intro i_33 i_34 i_35 l_36 u_37 l_38 l_39 u_40 hm_44
        refine mp_run mp_k_cX10_joined_ok hF mp_tabX10_ok [mp_i (.iload_n 3), mp_i (.aload_n 0), mp_h (.getfield 34) [17, 2], mp_c (.iconst 3) 3, mp_h .iaload [3], mp_h (.if_icmp .ge 60) [94]] (by decide +kernel) ?_
        refine And.intro rfl (And.intro rfl ?_)
        refine And.intro rfl (And.intro rfl (And.intro (vp_in_iff.mpr (by decide)) ?_))
        intro z_45 h_46
        have e_47 : 0 ≤ z_45.toInt ∧ z_45.toInt ≤ 10 := mp_res_ld h_46 p3 (by decide) (by decide) (by decide)
        have e_48 : z_45.toInt = (f1 3).toInt := congrArg Int32.toInt (mp_at h_46 (by decide) rfl)
        refine And.intro (fun c_49 => ?_) (fun c_49 => ?_)
        · have c_49 : z_45.toInt ≤ i_33.toInt := c_49
          show mp_W E X 6 94 [(3, .int i_33), (2, .int i_34), (1, .int i_35), (0, .ref a0)] [] w5_ 0 0
          refine mp_run mp_k_cX10_joined_ok hF mp_tabX10_ok [mp_i (.iload_n 1)] (by decide +kernel) ?_
          show mp_W E X 6 95 [(3, .int i_33), (2, .int i_34), (1, .int i_35), (0, .ref a0)] [.int i_35] w5_ 0 0
          exact mp_iret hF hQ rfl rfl (Nat.le_of_ble_eq_true rfl) (Nat.le_of_ble_eq_true rfl) [2, 1, 3, 4, 5, 0, 6, 7, 8, 9, 10] (w' := [(mp_ob10 a0 0 a11 a12 a13 a14 a15 y1 y2 y3 y4 y5 y6 y7 y8 y9 y10 a1 a2 a3 a16 a4 a5 a6 a17 r_11 a7 a8 a9 a10 y12 y13 y14 a18 a19 y15 y16 a20 a21 a22 y17 y18 y19 y20 a23 a24 a25 y21), (mp_arI E a1 0 5 f0), (mp_arI E a2 0 25 f1), (mp_arI E a3 0 180 f2), (mp_arI E a4 0 90 f3), (mp_arI E a5 0 300 f4), (mp_arI E a6 0 300 f5), (mp_arI E a7 0 6 g_12), (mp_arI E a8 0 6 g_13), (mp_arI E a9 0 6 g_14), (mp_arI E a10 3 1500 g_15)]) rfl rfl ⟨r_11, g_12, g_13, g_14, g_15, i_35, rfl, l_16, u_17, (by (first | exact mp_o446 l_39 | omega)), u_40, p_18, rfl⟩ (by first | exact mp_fd_ok mp_k_cX10_joined_ok (by decide +kernel) | decide +kernel)
        · have c_49 : i_33.toInt < z_45.toInt := c_49
          show mp_W E X 6 37 [(3, .int i_33), (2, .int i_34), (1, .int i_35), (0, .ref a0)] [] w5_ 0 0
          refine mp_run mp_k_cX10_joined_ok hF mp_tabX10_ok [mp_i (.iload_n 3), mp_c (.iconst 1) 1, mp_i .iadd, mp_i (.istore 4)] (by decide +kernel) ?_
          intro z_50 h_51
          have e_52 : z_50.toInt = i_33.toInt + 1 := mp_add (a := i_33.toInt) (b := 1) h_51 rfl (by decide) (by (first | exact mp_o2 l_36 | omega)) (by (first | exact mp_o420 u_37 | omega))
          show mp_W E X 6 42 [(4, .int z_50), (3, .int i_33), (2, .int i_34), (1, .int i_35), (0, .ref a0)] [] w5_ 0 0
          have lp_61 : ∀ (d_62 : Nat) (i_53 : Int32) (i_54 : Int32) (i_55 : Int32), 1 ≤ i_53.toInt → i_53.toInt ≤ 10 → (-1000000) ≤ i_54.toInt → (-1) ≤ i_55.toInt → i_55.toInt ≤ 100 → z_45.toInt - i_53.toInt ≤ (d_62 : Int) → mp_W E X 6 42 [(4, .int i_53), (3, .int i_33), (2, .int i_54), (1, .int i_55), (0, .ref a0)] [] [(mp_arI E a5 0 300 f4), (mp_arI E a1 0 5 f0), (mp_ob10 a0 0 a11 a12 a13 a14 a15 y1 y2 y3 y4 y5 y6 y7 y8 y9 y10 a1 a2 a3 a16 a4 a5 a6 a17 r_11 a7 a8 a9 a10 y12 y13 y14 a18 a19 y15 y16 a20 a21 a22 y17 y18 y19 y20 a23 a24 a25 y21), (mp_arI E a2 0 25 f1), (mp_arI E a3 0 180 f2), (mp_arI E a4 0 90 f3), (mp_arI E a6 0 300 f5), (mp_arI E a7 0 6 g_12), (mp_arI E a8 0 6 g_13), (mp_arI E a9 0 6 g_14), (mp_arI E a10 3 1500 g_15)] 0 0 := by
            intro d_62
            induction d_62 using Nat.strongRecOn with
            | ind d_62 ih_63 =>
              intro i_53 i_54 i_55 l_56 u_57 l_58 l_59 u_60 hm_64
              refine mp_run mp_k_cX10_joined_ok hF mp_tabX10_ok [mp_i (.iload 4), mp_i (.aload_n 0), mp_h (.getfield 34) [17, 2], mp_c (.iconst 3) 3, mp_h .iaload [3], mp_h (.if_icmp .ge 38) [88]] (by decide +kernel) ?_
              refine And.intro rfl (And.intro rfl ?_)
              refine And.intro rfl (And.intro rfl (And.intro (vp_in_iff.mpr (by decide)) ?_))
              intro z_65 h_66
              have k_67 : z_45 = z_65 := h_46.trans h_66.symm
              subst k_67
              refine And.intro (fun c_68 => ?_) (fun c_68 => ?_)
              · have c_68 : z_45.toInt ≤ i_53.toInt := c_68
                show mp_W E X 6 88 [(4, .int i_53), (3, .int i_33), (2, .int i_54), (1, .int i_55), (0, .ref a0)] [] w5_ 0 0
                refine mp_run mp_k_cX10_joined_ok hF mp_tabX10_ok [mp_c (.iinc 3 1) 1, mp_h (.goto (-64)) [27]] (by decide +kernel) ?_
                intro z_69 h_70
                have e_71 : z_69.toInt = i_33.toInt + 1 := mp_add (a := i_33.toInt) (b := 1) h_70 rfl (by decide) (by (first | exact mp_o2 l_36 | omega)) (by (first | exact mp_o420 u_37 | omega))
                show mp_W E X 6 27 [(3, .int z_69), (4, .int i_53), (2, .int i_54), (1, .int i_55), (0, .ref a0)] [] w5_ 0 0
                exact mp_sub [0, 2, 3, 4] rfl [0, 1, 2, 3, 4, 5, 6, 7, 8, 9, 10] rfl rfl (ih_43 (d_42 - 1) (by (first | exact mp_o1454 hm_44 e_48 c_49 | omega)) z_69 i_54 i_55 (by (first | exact mp_o51 l_36 e_71 | omega)) (by (first | exact mp_o1534 e_71 c_49 e_47 | omega)) l_58 l_59 u_60 (by (first | exact mp_o77 hm_44 e_71 | omega)))
              · have c_68 : i_53.toInt < z_45.toInt := c_68
                show mp_W E X 6 53 [(4, .int i_53), (3, .int i_33), (2, .int i_54), (1, .int i_55), (0, .ref a0)] [] w5_ 0 0
                refine mp_run mp_k_cX10_joined_ok hF mp_tabX10_ok [mp_i (.aload_n 0), mp_i (.iload_n 3), mp_i (.iload 4)] (by decide +kernel) ?_
                show mp_W E X 6 57 [(4, .int i_53), (3, .int i_33), (2, .int i_54), (1, .int i_55), (0, .ref a0)] [.int i_53, .int i_33, .ref a0] w5_ 0 0
                refine mp_callV hF (As := [.int i_33, .int i_53]) (rest := []) (wr := [(mp_arI E a1 0 5 f0), (mp_arI E a3 0 180 f2), (mp_arI E a6 0 300 f5), (mp_arI E a7 0 6 g_12), (mp_arI E a8 0 6 g_13), (mp_arI E a9 0 6 g_14)]) (bX10_joinOf_127 E a0 a2 a4 a5 a10 a11 a12 a13 a14 a15 a1 a3 a16 a6 a17 a7 a8 a9 a18 a19 a20 a21 a22 a23 a24 a25 f1 f3 f4 g_15 0 y1 y2 y3 y4 y5 y6 y7 y8 y9 y10 r_11 y12 y13 y14 y15 y16 y17 y18 y19 y20 y21 i_33 i_53 p0 p1 p2 p3 p4 p6 p7 p8 p9 p10 p11 l_36 (by (first | exact mp_o1533 c_49 e_47 | omega)) (by (first | exact mp_o254 l_56 | omega)) (by (first | exact mp_o1533 c_68 e_47 | omega)) l_y1 u_y1 l_y2 u_y2 l_y3 u_y3 l_y4 u_y4 l_16 u_17 l_y12 u_y12 l_y13 u_y13 (by first | assumption | (rw [rfl]; assumption)) (by (first | exact mp_o1535 e_48 c_49 | omega)) (by (first | exact mp_o1535 e_48 c_68 | omega))) mp_lkX10_402 2 rfl [2, 3, 5, 0, 10] [1, 4, 6, 7, 8, 9] rfl rfl rfl rfl rfl ⟨(Nat.le_of_ble_eq_true rfl), (Nat.le_of_ble_eq_true rfl), (Nat.le_of_ble_eq_true rfl), (Nat.le_of_ble_eq_true rfl)⟩ (Nat.le_of_ble_eq_true rfl) (by first | exact mp_fd_ok mp_k_cX10_joined_ok (by decide +kernel) | decide +kernel) (fun v_72 w_73 h_74 => ?_)
                obtain ⟨r_75, rfl, rfl⟩ := h_74
                let w6_ : va_W := [(mp_arI E a1 0 5 f0), (mp_arI E a3 0 180 f2), (mp_arI E a6 0 300 f5), (mp_arI E a7 0 6 g_12), (mp_arI E a8 0 6 g_13), (mp_arI E a9 0 6 g_14), (mp_ob10 a0 0 a11 a12 a13 a14 a15 y1 y2 y3 y4 y5 y6 y7 y8 y9 y10 a1 a2 a3 a16 a4 a5 a6 a17 r_11 a7 a8 a9 a10 y12 y13 y14 a18 a19 y15 y16 a20 a21 a22 y17 y18 y19 y20 a23 a24 a25 y21), (mp_arI E a2 0 25 f1), (mp_arI E a4 0 90 f3), (mp_arI E a5 0 300 f4), (mp_arI E a10 3 1500 g_15)]
                show mp_W E X 6 60 [(4, .int i_53), (3, .int i_33), (2, .int i_54), (1, .int i_55), (0, .ref a0)] [.int r_75] w6_ 0 0
                refine mp_run mp_k_cX10_joined_ok hF mp_tabX10_ok [mp_i (.istore 5), mp_i (.iload 5), mp_i (.iload_n 2), mp_h (.if_icmp .gt 6) [71]] (by decide +kernel) ?_
                refine And.intro (fun c_76 => ?_) (fun c_76 => ?_)
                · have c_76 : i_54.toInt < r_75.toInt := c_76
                  show mp_W E X 6 71 [(5, .int r_75), (4, .int i_53), (3, .int i_33), (2, .int i_54), (1, .int i_55), (0, .ref a0)] [] w6_ 0 0
                  refine mp_run mp_k_cX10_joined_ok hF mp_tabX10_ok [mp_c (.bipush 10) 10, mp_i (.iload_n 3), mp_i .imul, mp_i (.iload 4), mp_i .iadd, mp_i (.istore_n 1), mp_i (.iload 5), mp_i (.istore_n 2), mp_c (.iinc 4 1) 1, mp_h (.goto (-43)) [42]] (by decide +kernel) ?_
                  intro z_77 h_78
                  have e_79 : z_77.toInt = 10 * i_33.toInt := mp_mul (a := 10) (b := i_33.toInt) h_78 (by decide) rfl (by (first | exact mp_o486 l_36 | omega)) (by (first | exact mp_o620 u_37 | omega))
                  intro z_80 h_81
                  have e_82 : z_80.toInt = z_77.toInt + i_53.toInt := mp_add (a := z_77.toInt) (b := i_53.toInt) h_81 rfl rfl (by (first | exact mp_o621 l_56 l_36 e_79 | omega)) (by (first | exact mp_o622 u_57 u_37 e_79 | omega))
                  intro z_83 h_84
                  have e_85 : z_83.toInt = i_53.toInt + 1 := mp_add (a := i_53.toInt) (b := 1) h_84 rfl (by decide) (by (first | exact mp_o457 l_56 | omega)) (by (first | exact mp_o420 u_57 | omega))
                  show mp_W E X 6 42 [(4, .int z_83), (2, .int r_75), (1, .int z_80), (5, .int r_75), (3, .int i_33), (0, .ref a0)] [] w6_ 0 0
                  exact mp_sub [0, 4, 1, 2, 5] rfl [9, 0, 6, 7, 1, 8, 2, 3, 4, 5, 10] rfl rfl (ih_63 (d_62 - 1) (by (first | exact mp_o72 hm_64 c_68 | omega)) z_83 r_75 z_80 (by (first | exact mp_o458 l_56 e_85 | omega)) (by (first | exact mp_o1534 e_85 c_68 e_47 | omega)) (by (first | exact mp_o1732 l_58 c_76 | omega)) (by (first | exact mp_o624 l_36 l_56 e_79 e_82 | omega)) (by (first | exact mp_o1733 e_47 c_49 c_68 e_79 e_82 | omega)) (by (first | exact mp_o77 hm_64 e_85 | omega)))
                · have c_76 : r_75.toInt ≤ i_54.toInt := c_76
                  show mp_W E X 6 68 [(5, .int r_75), (4, .int i_53), (3, .int i_33), (2, .int i_54), (1, .int i_55), (0, .ref a0)] [] w6_ 0 0
                  refine mp_run mp_k_cX10_joined_ok hF mp_tabX10_ok [mp_h (.goto 14) [82], mp_c (.iinc 4 1) 1, mp_h (.goto (-43)) [42]] (by decide +kernel) ?_
                  intro z_86 h_87
                  have e_88 : z_86.toInt = i_53.toInt + 1 := mp_add (a := i_53.toInt) (b := 1) h_87 rfl (by decide) (by (first | exact mp_o457 l_56 | omega)) (by (first | exact mp_o420 u_57 | omega))
                  show mp_W E X 6 42 [(4, .int z_86), (5, .int r_75), (3, .int i_33), (2, .int i_54), (1, .int i_55), (0, .ref a0)] [] w6_ 0 0
                  exact mp_sub [0, 2, 3, 4, 5] rfl [9, 0, 6, 7, 1, 8, 2, 3, 4, 5, 10] rfl rfl (ih_63 (d_62 - 1) (by (first | exact mp_o72 hm_64 c_68 | omega)) z_86 i_54 i_55 (by (first | exact mp_o458 l_56 e_88 | omega)) (by (first | exact mp_o1534 e_88 c_68 e_47 | omega)) l_58 l_59 u_60 (by (first | exact mp_o77 hm_64 e_88 | omega)))
          exact mp_sub [0, 1, 2, 3, 4] rfl [0, 1, 2, 3, 4, 5, 6, 7, 8, 9, 10] rfl rfl (lp_61 _ z_50 i_34 i_35 (by (first | exact mp_o182 l_36 e_52 | omega)) (by (first | exact mp_o1534 e_52 c_49 e_47 | omega)) l_38 l_39 u_40 (Int.self_le_toNat _))
    exact mp_sub [0, 1, 2, 3] rfl [0, 1, 2, 3, 4, 5, 6, 7, 8, 9, 10] rfl rfl (lp_41 _ 0 (-1000000) (-1) (by decide) (by decide) (by decide) (by decide) (by decide) (Int.self_le_toNat _))
set_option maxHeartbeats 4000000 in
set_option maxRecDepth 100000 in
theorem bX10_struckOf_130 (E : mp_E) (a0 a1 a2 a3 a4 a5 a6 a7 a8 a9 a10 a11 a12 a13 a14 a15 a16 a17 a18 a19 a20 a21 a22 a23 a24 a25 : Nat) (f0 : Nat → Int32) (f1 : Nat → Int32) (f2 : Nat → Int32) (f3 : Nat → Int32) (y0 : Int32) (y1 : Int32) (y2 : Int32) (y3 : Int32) (y4 : Int32) (y5 : Int32) (y6 : Int64) (y7 : Int32) (y8 : Int32) (y9 : Int32) (y10 : Int32) (y11 : Int32) (y12 : Int32) (y13 : Int32) (y14 : Int32) (y15 : Int32) (y16 : Int32) (y17 : Int32) (y18 : Int32) (y19 : Int32) (y20 : Int32) (y21 : Int32) (x0 : Int32) (x1 : Int32) (x2 : Int32) (x3 : Int32) (p0 : mp_res f0 25 5 0 0 6) (p1 : mp_res f0 25 5 1 0 99) (p2 : mp_res f0 25 5 2 0 6) (p3 : mp_res f0 25 5 3 0 10) (p4 : mp_res f0 25 5 4 0 60) (p5 : mp_res f1 90 3 0 0 5) (p6 : mp_res f1 90 3 1 (-1) 99) (p7 : mp_res f2 300 6 0 0 5) (p8 : mp_res f2 300 6 1 0 5) (p9 : mp_res f2 300 6 3 0 99) (p10 : mp_res f2 300 6 4 0 1) (l_x3 : 0 ≤ x3.toInt) (u_x3 : x3.toInt ≤ 99) (l_y1 : 0 ≤ y1.toInt) (u_y1 : y1.toInt ≤ 1600) (l_y2 : 0 ≤ y2.toInt) (u_y2 : y2.toInt ≤ 1600) (l_y3 : 0 ≤ y3.toInt) (u_y3 : y3.toInt ≤ 4) (l_y4 : 0 ≤ y4.toInt) (u_y4 : y4.toInt ≤ 1600) (l_y11 : 0 ≤ y11.toInt) (u_y11 : y11.toInt ≤ 99) (l_y12 : 0 ≤ y12.toInt) (u_y12 : y12.toInt ≤ 5) (l_y13 : 0 ≤ y13.toInt) (u_y13 : y13.toInt ≤ 12) (q0 : mp_prm f2 (f0 3).toInt) : mp_Ct E yX10_struckOf cX10_struckOf 9 (some FieldType.int) 15 0 0 359 [.ref a0, .int x0, .int x1, .int x2, .int x3] [(mp_ob10 a0 y0 a5 a6 a7 a8 a9 y1 y2 y3 y4 y5 y6 y7 y8 y9 y10 a10 a1 a11 a12 a2 a3 a13 a14 y11 a15 a16 a17 a4 y12 y13 y14 a18 a19 y15 y16 a20 a21 a22 y17 y18 y19 y20 a23 a24 a25 y21), (mp_arI E a1 0 25 f0), (mp_arI E a2 0 90 f1), (mp_arI E a3 0 300 f2), (mp_arI E a4 3 1500 f3)] (fun v w' => ∃ r1 : Int32, v = some (.int r1) ∧ w' = [(mp_ob10 a0 y0 a5 a6 a7 a8 a9 y1 y2 y3 y4 y5 y6 y7 y8 y9 y10 a10 a1 a11 a12 a2 a3 a13 a14 y11 a15 a16 a17 a4 y12 y13 y14 a18 a19 y15 y16 a20 a21 a22 y17 y18 y19 y20 a23 a24 a25 y21), (mp_arI E a1 0 25 f0), (mp_arI E a2 0 90 f1), (mp_arI E a3 0 300 f2), (mp_arI E a4 3 1500 f3)]) := by
  refine mp_met false (by decide) (by decide) (Nat.le_of_ble_eq_true rfl) (fun X hF hQ => ?_)
  have hF : mp_F E X (RX10, cX10_struckOf, 9, (15, 0, 0, 359), (some FieldType.int), false) := hF
  let w1_ : va_W := [(mp_ob10 a0 y0 a5 a6 a7 a8 a9 y1 y2 y3 y4 y5 y6 y7 y8 y9 y10 a10 a1 a11 a12 a2 a3 a13 a14 y11 a15 a16 a17 a4 y12 y13 y14 a18 a19 y15 y16 a20 a21 a22 y17 y18 y19 y20 a23 a24 a25 y21), (mp_arI E a1 0 25 f0), (mp_arI E a2 0 90 f1), (mp_arI E a3 0 300 f2), (mp_arI E a4 3 1500 f3)]
  show mp_W E X 9 0 [(0, .ref a0), (1, .int x0), (2, .int x1), (3, .int x2), (4, .int x3)] [] w1_ 0 0
  refine mp_run mp_k_cX10_struckOf_ok hF mp_tabX10_ok [mp_i (.aload_n 0), mp_i (.iload_n 1), mp_i (.iload_n 2), mp_i (.iload 4)] (by decide +kernel) ?_
  show mp_W E X 9 5 [(0, .ref a0), (1, .int x0), (2, .int x1), (3, .int x2), (4, .int x3)] [.int x3, .int x1, .int x0, .ref a0] w1_ 0 0
  refine mp_callV hF (As := [.int x0, .int x1, .int x3]) (rest := []) (wr := []) (bX10_owedOf_77 E a0 a1 a2 a3 a4 a5 a6 a7 a8 a9 a10 a11 a12 a13 a14 a15 a16 a17 a18 a19 a20 a21 a22 a23 a24 a25 f0 f1 f2 f3 y0 y1 y2 y3 y4 y5 y6 y7 y8 y9 y10 y11 y12 y13 y14 y15 y16 y17 y18 y19 y20 y21 x0 x1 x3 p0 p1 p2 p3 p4 p5 p6 p7 p8 p9 p10 l_x3 (by (first | exact mp_o1513 u_x3 | omega)) l_y1 u_y1 l_y2 u_y2 l_y3 u_y3 l_y4 u_y4 l_y11 u_y11 l_y12 u_y12 l_y13 u_y13 (by first | assumption | (rw [rfl]; assumption))) mp_lkX10_298 0 rfl [0, 1, 2, 3, 4] [] rfl rfl rfl rfl rfl ⟨(Nat.le_of_ble_eq_true rfl), (Nat.le_of_ble_eq_true rfl), (Nat.le_of_ble_eq_true rfl), (Nat.le_of_ble_eq_true rfl)⟩ (Nat.le_of_ble_eq_true rfl) (by first | exact mp_fd_ok mp_k_cX10_struckOf_ok (by decide +kernel) | decide +kernel) (fun v_1 w_2 h_3 => ?_)
  obtain ⟨r_4, rfl, rfl⟩ := h_3
  show mp_W E X 9 8 [(0, .ref a0), (1, .int x0), (2, .int x1), (3, .int x2), (4, .int x3)] [.int r_4] w1_ 0 0
  refine mp_run mp_k_cX10_struckOf_ok hF mp_tabX10_ok [mp_i (.istore 5), mp_i (.aload_n 0), mp_i (.iload_n 2), mp_i (.iload_n 3), mp_i (.iload 4)] (by decide +kernel) ?_
  show mp_W E X 9 15 [(5, .int r_4), (0, .ref a0), (1, .int x0), (2, .int x1), (3, .int x2), (4, .int x3)] [.int x3, .int x2, .int x1, .ref a0] w1_ 0 0
  refine mp_callV hF (As := [.int x1, .int x2, .int x3]) (rest := []) (wr := []) (bX10_owedOf_77 E a0 a1 a2 a3 a4 a5 a6 a7 a8 a9 a10 a11 a12 a13 a14 a15 a16 a17 a18 a19 a20 a21 a22 a23 a24 a25 f0 f1 f2 f3 y0 y1 y2 y3 y4 y5 y6 y7 y8 y9 y10 y11 y12 y13 y14 y15 y16 y17 y18 y19 y20 y21 x1 x2 x3 p0 p1 p2 p3 p4 p5 p6 p7 p8 p9 p10 l_x3 (by (first | exact mp_o1513 u_x3 | omega)) l_y1 u_y1 l_y2 u_y2 l_y3 u_y3 l_y4 u_y4 l_y11 u_y11 l_y12 u_y12 l_y13 u_y13 (by first | assumption | (rw [rfl]; assumption))) mp_lkX10_298 0 rfl [0, 1, 2, 3, 4] [] rfl rfl rfl rfl rfl ⟨(Nat.le_of_ble_eq_true rfl), (Nat.le_of_ble_eq_true rfl), (Nat.le_of_ble_eq_true rfl), (Nat.le_of_ble_eq_true rfl)⟩ (Nat.le_of_ble_eq_true rfl) (by first | exact mp_fd_ok mp_k_cX10_struckOf_ok (by decide +kernel) | decide +kernel) (fun v_5 w_6 h_7 => ?_)
  obtain ⟨r_8, rfl, rfl⟩ := h_7
  show mp_W E X 9 18 [(5, .int r_4), (0, .ref a0), (1, .int x0), (2, .int x1), (3, .int x2), (4, .int x3)] [.int r_8] w1_ 0 0
  refine mp_run mp_k_cX10_struckOf_ok hF mp_tabX10_ok [mp_i (.istore 6), mp_i (.aload_n 0), mp_i (.iload_n 3), mp_i (.iload_n 1), mp_i (.iload 4)] (by decide +kernel) ?_
  show mp_W E X 9 25 [(6, .int r_8), (5, .int r_4), (0, .ref a0), (1, .int x0), (2, .int x1), (3, .int x2), (4, .int x3)] [.int x3, .int x0, .int x2, .ref a0] w1_ 0 0
  refine mp_callV hF (As := [.int x2, .int x0, .int x3]) (rest := []) (wr := []) (bX10_owedOf_77 E a0 a1 a2 a3 a4 a5 a6 a7 a8 a9 a10 a11 a12 a13 a14 a15 a16 a17 a18 a19 a20 a21 a22 a23 a24 a25 f0 f1 f2 f3 y0 y1 y2 y3 y4 y5 y6 y7 y8 y9 y10 y11 y12 y13 y14 y15 y16 y17 y18 y19 y20 y21 x2 x0 x3 p0 p1 p2 p3 p4 p5 p6 p7 p8 p9 p10 l_x3 (by (first | exact mp_o1513 u_x3 | omega)) l_y1 u_y1 l_y2 u_y2 l_y3 u_y3 l_y4 u_y4 l_y11 u_y11 l_y12 u_y12 l_y13 u_y13 (by first | assumption | (rw [rfl]; assumption))) mp_lkX10_298 0 rfl [0, 1, 2, 3, 4] [] rfl rfl rfl rfl rfl ⟨(Nat.le_of_ble_eq_true rfl), (Nat.le_of_ble_eq_true rfl), (Nat.le_of_ble_eq_true rfl), (Nat.le_of_ble_eq_true rfl)⟩ (Nat.le_of_ble_eq_true rfl) (by first | exact mp_fd_ok mp_k_cX10_struckOf_ok (by decide +kernel) | decide +kernel) (fun v_9 w_10 h_11 => ?_)
  obtain ⟨r_12, rfl, rfl⟩ := h_11
  show mp_W E X 9 28 [(6, .int r_8), (5, .int r_4), (0, .ref a0), (1, .int x0), (2, .int x1), (3, .int x2), (4, .int x3)] [.int r_12] w1_ 0 0
  refine mp_run mp_k_cX10_struckOf_ok hF mp_tabX10_ok [mp_i (.istore 7), mp_i (.iload 5), mp_i (.iload 6), mp_h (.if_icmp .ge 8) [42]] (by decide +kernel) ?_
  refine And.intro (fun c_13 => ?_) (fun c_13 => ?_)
  · have c_13 : r_8.toInt ≤ r_4.toInt := c_13
    show mp_W E X 9 42 [(7, .int r_12), (6, .int r_8), (5, .int r_4), (0, .ref a0), (1, .int x0), (2, .int x1), (3, .int x2), (4, .int x3)] [] w1_ 0 0
    refine mp_run mp_k_cX10_struckOf_ok hF mp_tabX10_ok [mp_i (.iload 6), mp_i (.istore 8), mp_i (.iload 8), mp_i (.iload 7), mp_h (.if_icmp .ge 8) [58]] (by decide +kernel) ?_
    refine And.intro (fun c_14 => ?_) (fun c_14 => ?_)
    · have c_14 : r_12.toInt ≤ r_8.toInt := c_14
      show mp_W E X 9 58 [(8, .int r_8), (7, .int r_12), (6, .int r_8), (5, .int r_4), (0, .ref a0), (1, .int x0), (2, .int x1), (3, .int x2), (4, .int x3)] [] w1_ 0 0
      refine mp_run mp_k_cX10_struckOf_ok hF mp_tabX10_ok [mp_i (.iload 7)] (by decide +kernel) ?_
      show mp_W E X 9 60 [(8, .int r_8), (7, .int r_12), (6, .int r_8), (5, .int r_4), (0, .ref a0), (1, .int x0), (2, .int x1), (3, .int x2), (4, .int x3)] [.int r_12] w1_ 0 0
      exact mp_iret hF hQ rfl rfl (Nat.le_of_ble_eq_true rfl) (Nat.le_of_ble_eq_true rfl) [0, 1, 2, 3, 4] (w' := w1_) rfl rfl ⟨r_12, rfl, rfl⟩ (by first | exact mp_fd_ok mp_k_cX10_struckOf_ok (by decide +kernel) | decide +kernel)
    · have c_14 : r_8.toInt < r_12.toInt := c_14
      show mp_W E X 9 53 [(8, .int r_8), (7, .int r_12), (6, .int r_8), (5, .int r_4), (0, .ref a0), (1, .int x0), (2, .int x1), (3, .int x2), (4, .int x3)] [] w1_ 0 0
      refine mp_run mp_k_cX10_struckOf_ok hF mp_tabX10_ok [mp_i (.iload 8), mp_h (.goto 5) [60]] (by decide +kernel) ?_
      show mp_W E X 9 60 [(8, .int r_8), (7, .int r_12), (6, .int r_8), (5, .int r_4), (0, .ref a0), (1, .int x0), (2, .int x1), (3, .int x2), (4, .int x3)] [.int r_8] w1_ 0 0
      exact mp_iret hF hQ rfl rfl (Nat.le_of_ble_eq_true rfl) (Nat.le_of_ble_eq_true rfl) [0, 1, 2, 3, 4] (w' := w1_) rfl rfl ⟨r_8, rfl, rfl⟩ (by first | exact mp_fd_ok mp_k_cX10_struckOf_ok (by decide +kernel) | decide +kernel)
  · have c_13 : r_4.toInt < r_8.toInt := c_13
    show mp_W E X 9 37 [(7, .int r_12), (6, .int r_8), (5, .int r_4), (0, .ref a0), (1, .int x0), (2, .int x1), (3, .int x2), (4, .int x3)] [] w1_ 0 0
    refine mp_run mp_k_cX10_struckOf_ok hF mp_tabX10_ok [mp_i (.iload 5), mp_h (.goto 5) [44], mp_i (.istore 8), mp_i (.iload 8), mp_i (.iload 7), mp_h (.if_icmp .ge 8) [58]] (by decide +kernel) ?_
    refine And.intro (fun c_15 => ?_) (fun c_15 => ?_)
    · have c_15 : r_12.toInt ≤ r_4.toInt := c_15
      show mp_W E X 9 58 [(8, .int r_4), (7, .int r_12), (6, .int r_8), (5, .int r_4), (0, .ref a0), (1, .int x0), (2, .int x1), (3, .int x2), (4, .int x3)] [] w1_ 0 0
      refine mp_run mp_k_cX10_struckOf_ok hF mp_tabX10_ok [mp_i (.iload 7)] (by decide +kernel) ?_
      show mp_W E X 9 60 [(8, .int r_4), (7, .int r_12), (6, .int r_8), (5, .int r_4), (0, .ref a0), (1, .int x0), (2, .int x1), (3, .int x2), (4, .int x3)] [.int r_12] w1_ 0 0
      exact mp_iret hF hQ rfl rfl (Nat.le_of_ble_eq_true rfl) (Nat.le_of_ble_eq_true rfl) [0, 1, 2, 3, 4] (w' := w1_) rfl rfl ⟨r_12, rfl, rfl⟩ (by first | exact mp_fd_ok mp_k_cX10_struckOf_ok (by decide +kernel) | decide +kernel)
    · have c_15 : r_4.toInt < r_12.toInt := c_15
      show mp_W E X 9 53 [(8, .int r_4), (7, .int r_12), (6, .int r_8), (5, .int r_4), (0, .ref a0), (1, .int x0), (2, .int x1), (3, .int x2), (4, .int x3)] [] w1_ 0 0
      refine mp_run mp_k_cX10_struckOf_ok hF mp_tabX10_ok [mp_i (.iload 8), mp_h (.goto 5) [60]] (by decide +kernel) ?_
      show mp_W E X 9 60 [(8, .int r_4), (7, .int r_12), (6, .int r_8), (5, .int r_4), (0, .ref a0), (1, .int x0), (2, .int x1), (3, .int x2), (4, .int x3)] [.int r_4] w1_ 0 0
      exact mp_iret hF hQ rfl rfl (Nat.le_of_ble_eq_true rfl) (Nat.le_of_ble_eq_true rfl) [0, 1, 2, 3, 4] (w' := w1_) rfl rfl ⟨r_4, rfl, rfl⟩ (by first | exact mp_fd_ok mp_k_cX10_struckOf_ok (by decide +kernel) | decide +kernel)
set_option maxHeartbeats 4000000 in
set_option maxRecDepth 100000 in
theorem bX10_ringOf_131 (E : mp_E) (a0 a1 a2 a3 a4 a5 a6 a7 a8 a9 a10 a11 a12 a13 a14 a15 a16 a17 a18 a19 a20 a21 a22 a23 a24 a25 : Nat) (f0 : Nat → Int32) (f1 : Nat → Int32) (f2 : Nat → Int32) (f3 : Nat → Int32) (f4 : Nat → Int32) (y0 : Int32) (y1 : Int32) (y2 : Int32) (y3 : Int32) (y4 : Int32) (y5 : Int32) (y6 : Int64) (y7 : Int32) (y8 : Int32) (y9 : Int32) (y10 : Int32) (y11 : Int32) (y12 : Int32) (y13 : Int32) (y14 : Int32) (y15 : Int32) (y16 : Int32) (y17 : Int32) (y18 : Int32) (y19 : Int32) (y20 : Int32) (y21 : Int32) (x0 : Int32) (p0 : mp_res f0 25 5 0 0 6) (p1 : mp_res f0 25 5 1 0 99) (p2 : mp_res f0 25 5 2 0 6) (p3 : mp_res f0 25 5 3 0 10) (p4 : mp_res f0 25 5 4 0 60) (p5 : mp_res f1 90 3 0 0 5) (p6 : mp_res f1 90 3 1 (-1) 99) (p7 : mp_res f2 300 6 0 0 5) (p8 : mp_res f2 300 6 1 0 5) (p9 : mp_res f2 300 6 3 0 99) (p10 : mp_res f2 300 6 4 0 1) (l_x0 : 0 ≤ x0.toInt) (u_x0 : x0.toInt ≤ 99) (l_y1 : 0 ≤ y1.toInt) (u_y1 : y1.toInt ≤ 1600) (l_y2 : 0 ≤ y2.toInt) (u_y2 : y2.toInt ≤ 1600) (l_y3 : 0 ≤ y3.toInt) (u_y3 : y3.toInt ≤ 4) (l_y4 : 0 ≤ y4.toInt) (u_y4 : y4.toInt ≤ 1600) (l_y11 : 0 ≤ y11.toInt) (u_y11 : y11.toInt ≤ 99) (l_y12 : 0 ≤ y12.toInt) (u_y12 : y12.toInt ≤ 5) (l_y13 : 0 ≤ y13.toInt) (u_y13 : y13.toInt ≤ 12) (q0 : mp_prm f2 (f0 3).toInt) : mp_Ct E yX10_ringOf cX10_ringOf 6 (some FieldType.int) 16 0 0 387 [.ref a0, .int x0] [(mp_ob10 a0 y0 a6 a7 a8 a9 a10 y1 y2 y3 y4 y5 y6 y7 y8 y9 y10 a11 a1 a12 a13 a2 a3 a14 a15 y11 a16 a17 a18 a4 y12 y13 y14 a19 a20 y15 y16 a21 a22 a5 y17 y18 y19 y20 a23 a24 a25 y21), (mp_arI E a1 0 25 f0), (mp_arI E a2 0 90 f1), (mp_arI E a3 0 300 f2), (mp_arI E a4 3 1500 f3), (mp_arI E a5 0 3 f4)] (fun v w' => ∃ h1 : Nat → Int32, ∃ r2 : Int32, v = some (.int r2) ∧ w' = [(mp_ob10 a0 y0 a6 a7 a8 a9 a10 y1 y2 y3 y4 y5 y6 y7 y8 y9 y10 a11 a1 a12 a13 a2 a3 a14 a15 y11 a16 a17 a18 a4 y12 y13 y14 a19 a20 y15 y16 a21 a22 a5 y17 y18 y19 y20 a23 a24 a25 y21), (mp_arI E a1 0 25 f0), (mp_arI E a2 0 90 f1), (mp_arI E a3 0 300 f2), (mp_arI E a4 3 1500 f3), (mp_arI E a5 0 3 h1)]) := by
  refine mp_met false (by decide) (by decide) (Nat.le_of_ble_eq_true rfl) (fun X hF hQ => ?_)
  have hF : mp_F E X (RX10, cX10_ringOf, 6, (16, 0, 0, 387), (some FieldType.int), false) := hF
  let w1_ : va_W := [(mp_ob10 a0 y0 a6 a7 a8 a9 a10 y1 y2 y3 y4 y5 y6 y7 y8 y9 y10 a11 a1 a12 a13 a2 a3 a14 a15 y11 a16 a17 a18 a4 y12 y13 y14 a19 a20 y15 y16 a21 a22 a5 y17 y18 y19 y20 a23 a24 a25 y21), (mp_arI E a1 0 25 f0), (mp_arI E a2 0 90 f1), (mp_arI E a3 0 300 f2), (mp_arI E a4 3 1500 f3), (mp_arI E a5 0 3 f4)]
  show mp_W E X 6 0 [(0, .ref a0), (1, .int x0)] [] w1_ 0 0
  refine mp_run mp_k_cX10_ringOf_ok hF mp_tabX10_ok [mp_c (.iconst 0) 0, mp_i (.istore_n 2), mp_c (.iconst 0) 0, mp_i (.istore_n 3)] (by decide +kernel) ?_
  show mp_W E X 6 4 [(3, .int 0), (2, .int 0), (0, .ref a0), (1, .int x0)] [] w1_ 0 0
  have lp_6 : ∀ (d_7 : Nat) (i_1 : Int32) (i_2 : Int32) (g_3 : Nat → Int32), 0 ≤ i_1.toInt → i_1.toInt ≤ 6 → (f0 2).toInt - i_1.toInt ≤ (d_7 : Int) → mp_W E X 6 4 [(3, .int i_1), (2, .int i_2), (0, .ref a0), (1, .int x0)] [] [(mp_ob10 a0 y0 a6 a7 a8 a9 a10 y1 y2 y3 y4 y5 y6 y7 y8 y9 y10 a11 a1 a12 a13 a2 a3 a14 a15 y11 a16 a17 a18 a4 y12 y13 y14 a19 a20 y15 y16 a21 a22 a5 y17 y18 y19 y20 a23 a24 a25 y21), (mp_arI E a1 0 25 f0), (mp_arI E a2 0 90 f1), (mp_arI E a3 0 300 f2), (mp_arI E a4 3 1500 f3), (mp_arI E a5 0 3 g_3)] 0 0 := by
    intro d_7
    induction d_7 using Nat.strongRecOn with
    | ind d_7 ih_8 =>
      intro i_1 i_2 g_3 l_4 u_5 hm_9
      refine mp_run mp_k_cX10_ringOf_ok hF mp_tabX10_ok [mp_i (.iload_n 3), mp_i (.aload_n 0), mp_h (.getfield 34) [17, 0], mp_c (.iconst 2) 2, mp_h .iaload [1], mp_h (.if_icmp .ge 119) [130]] (by decide +kernel) ?_
      refine And.intro rfl (And.intro rfl ?_)
      refine And.intro rfl (And.intro rfl (And.intro (vp_in_iff.mpr (by decide)) ?_))
      intro z_10 h_11
      have e_12 : 0 ≤ z_10.toInt ∧ z_10.toInt ≤ 6 := mp_res_ld h_11 p2 (by decide) (by decide) (by decide)
      have e_13 : z_10.toInt = (f0 2).toInt := congrArg Int32.toInt (mp_at h_11 (by decide) rfl)
      refine And.intro (fun c_14 => ?_) (fun c_14 => ?_)
      · have c_14 : z_10.toInt ≤ i_1.toInt := c_14
        let w2_ : va_W := [(mp_ob10 a0 y0 a6 a7 a8 a9 a10 y1 y2 y3 y4 y5 y6 y7 y8 y9 y10 a11 a1 a12 a13 a2 a3 a14 a15 y11 a16 a17 a18 a4 y12 y13 y14 a19 a20 y15 y16 a21 a22 a5 y17 y18 y19 y20 a23 a24 a25 y21), (mp_arI E a1 0 25 f0), (mp_arI E a2 0 90 f1), (mp_arI E a3 0 300 f2), (mp_arI E a4 3 1500 f3), (mp_arI E a5 0 3 g_3)]
        show mp_W E X 6 130 [(3, .int i_1), (2, .int i_2), (0, .ref a0), (1, .int x0)] [] w2_ 0 0
        refine mp_run mp_k_cX10_ringOf_ok hF mp_tabX10_ok [mp_i (.iload_n 2)] (by decide +kernel) ?_
        show mp_W E X 6 131 [(3, .int i_1), (2, .int i_2), (0, .ref a0), (1, .int x0)] [.int i_2] w2_ 0 0
        exact mp_iret hF hQ rfl rfl (Nat.le_of_ble_eq_true rfl) (Nat.le_of_ble_eq_true rfl) [0, 1, 2, 3, 4, 5] (w' := w2_) rfl rfl ⟨g_3, i_2, rfl, rfl⟩ (by first | exact mp_fd_ok mp_k_cX10_ringOf_ok (by decide +kernel) | decide +kernel)
      · have c_14 : i_1.toInt < z_10.toInt := c_14
        let w3_ : va_W := [(mp_ob10 a0 y0 a6 a7 a8 a9 a10 y1 y2 y3 y4 y5 y6 y7 y8 y9 y10 a11 a1 a12 a13 a2 a3 a14 a15 y11 a16 a17 a18 a4 y12 y13 y14 a19 a20 y15 y16 a21 a22 a5 y17 y18 y19 y20 a23 a24 a25 y21), (mp_arI E a1 0 25 f0), (mp_arI E a2 0 90 f1), (mp_arI E a3 0 300 f2), (mp_arI E a4 3 1500 f3), (mp_arI E a5 0 3 g_3)]
        show mp_W E X 6 14 [(3, .int i_1), (2, .int i_2), (0, .ref a0), (1, .int x0)] [] w3_ 0 0
        refine mp_run mp_k_cX10_ringOf_ok hF mp_tabX10_ok [mp_c (.iconst 0) 0, mp_i (.istore 4)] (by decide +kernel) ?_
        show mp_W E X 6 17 [(4, .int 0), (3, .int i_1), (2, .int i_2), (0, .ref a0), (1, .int x0)] [] w3_ 0 0
        have lp_20 : ∀ (d_21 : Nat) (i_15 : Int32) (i_16 : Int32) (g_17 : Nat → Int32), 0 ≤ i_15.toInt → i_15.toInt ≤ 6 → z_10.toInt - i_15.toInt ≤ (d_21 : Int) → mp_W E X 6 17 [(4, .int i_15), (3, .int i_1), (2, .int i_16), (0, .ref a0), (1, .int x0)] [] [(mp_ob10 a0 y0 a6 a7 a8 a9 a10 y1 y2 y3 y4 y5 y6 y7 y8 y9 y10 a11 a1 a12 a13 a2 a3 a14 a15 y11 a16 a17 a18 a4 y12 y13 y14 a19 a20 y15 y16 a21 a22 a5 y17 y18 y19 y20 a23 a24 a25 y21), (mp_arI E a1 0 25 f0), (mp_arI E a2 0 90 f1), (mp_arI E a3 0 300 f2), (mp_arI E a4 3 1500 f3), (mp_arI E a5 0 3 g_17)] 0 0 := by
          intro d_21
          induction d_21 using Nat.strongRecOn with
          | ind d_21 ih_22 =>
            intro i_15 i_16 g_17 l_18 u_19 hm_23
            refine mp_run mp_k_cX10_ringOf_ok hF mp_tabX10_ok [mp_i (.iload 4), mp_i (.aload_n 0), mp_h (.getfield 34) [17, 0], mp_c (.iconst 2) 2, mp_h .iaload [1], mp_h (.if_icmp .ge 99) [124]] (by decide +kernel) ?_
            refine And.intro rfl (And.intro rfl ?_)
            refine And.intro rfl (And.intro rfl (And.intro (vp_in_iff.mpr (by decide)) ?_))
            intro z_24 h_25
            have k_26 : z_10 = z_24 := h_11.trans h_25.symm
            subst k_26
            refine And.intro (fun c_27 => ?_) (fun c_27 => ?_)
            · have c_27 : z_10.toInt ≤ i_15.toInt := c_27
              let w4_ : va_W := [(mp_ob10 a0 y0 a6 a7 a8 a9 a10 y1 y2 y3 y4 y5 y6 y7 y8 y9 y10 a11 a1 a12 a13 a2 a3 a14 a15 y11 a16 a17 a18 a4 y12 y13 y14 a19 a20 y15 y16 a21 a22 a5 y17 y18 y19 y20 a23 a24 a25 y21), (mp_arI E a1 0 25 f0), (mp_arI E a2 0 90 f1), (mp_arI E a3 0 300 f2), (mp_arI E a4 3 1500 f3), (mp_arI E a5 0 3 g_17)]
              show mp_W E X 6 124 [(4, .int i_15), (3, .int i_1), (2, .int i_16), (0, .ref a0), (1, .int x0)] [] w4_ 0 0
              refine mp_run mp_k_cX10_ringOf_ok hF mp_tabX10_ok [mp_c (.iinc 3 1) 1, mp_h (.goto (-123)) [4]] (by decide +kernel) ?_
              intro z_28 h_29
              have e_30 : z_28.toInt = i_1.toInt + 1 := mp_add (a := i_1.toInt) (b := 1) h_29 rfl (by decide) (by (first | exact mp_o2 l_4 | omega)) (by (first | exact mp_o351 u_5 | omega))
              show mp_W E X 6 4 [(3, .int z_28), (4, .int i_15), (2, .int i_16), (0, .ref a0), (1, .int x0)] [] w4_ 0 0
              exact mp_sub [0, 2, 3, 4] rfl [0, 1, 2, 3, 4, 5] rfl rfl (ih_8 (d_7 - 1) (by (first | exact mp_o1454 hm_9 e_13 c_14 | omega)) z_28 i_16 g_17 (by (first | exact mp_o51 l_4 e_30 | omega)) (by (first | exact mp_o1485 e_30 c_14 e_12 | omega)) (by (first | exact mp_o77 hm_9 e_30 | omega)))
            · have c_27 : i_15.toInt < z_10.toInt := c_27
              let w5_ : va_W := [(mp_ob10 a0 y0 a6 a7 a8 a9 a10 y1 y2 y3 y4 y5 y6 y7 y8 y9 y10 a11 a1 a12 a13 a2 a3 a14 a15 y11 a16 a17 a18 a4 y12 y13 y14 a19 a20 y15 y16 a21 a22 a5 y17 y18 y19 y20 a23 a24 a25 y21), (mp_arI E a1 0 25 f0), (mp_arI E a2 0 90 f1), (mp_arI E a3 0 300 f2), (mp_arI E a4 3 1500 f3), (mp_arI E a5 0 3 g_17)]
              show mp_W E X 6 28 [(4, .int i_15), (3, .int i_1), (2, .int i_16), (0, .ref a0), (1, .int x0)] [] w5_ 0 0
              refine mp_run mp_k_cX10_ringOf_ok hF mp_tabX10_ok [mp_c (.iconst 0) 0, mp_i (.istore 5)] (by decide +kernel) ?_
              show mp_W E X 6 31 [(5, .int 0), (4, .int i_15), (3, .int i_1), (2, .int i_16), (0, .ref a0), (1, .int x0)] [] w5_ 0 0
              have lp_36 : ∀ (d_37 : Nat) (i_31 : Int32) (i_32 : Int32) (g_33 : Nat → Int32), 0 ≤ i_31.toInt → i_31.toInt ≤ 6 → z_10.toInt - i_31.toInt ≤ (d_37 : Int) → mp_W E X 6 31 [(5, .int i_31), (4, .int i_15), (3, .int i_1), (2, .int i_32), (0, .ref a0), (1, .int x0)] [] [(mp_ob10 a0 y0 a6 a7 a8 a9 a10 y1 y2 y3 y4 y5 y6 y7 y8 y9 y10 a11 a1 a12 a13 a2 a3 a14 a15 y11 a16 a17 a18 a4 y12 y13 y14 a19 a20 y15 y16 a21 a22 a5 y17 y18 y19 y20 a23 a24 a25 y21), (mp_arI E a1 0 25 f0), (mp_arI E a2 0 90 f1), (mp_arI E a3 0 300 f2), (mp_arI E a4 3 1500 f3), (mp_arI E a5 0 3 g_33)] 0 0 := by
                intro d_37
                induction d_37 using Nat.strongRecOn with
                | ind d_37 ih_38 =>
                  intro i_31 i_32 g_33 l_34 u_35 hm_39
                  refine mp_run mp_k_cX10_ringOf_ok hF mp_tabX10_ok [mp_i (.iload 5), mp_i (.aload_n 0), mp_h (.getfield 34) [17, 0], mp_c (.iconst 2) 2, mp_h .iaload [1], mp_h (.if_icmp .ge 79) [118]] (by decide +kernel) ?_
                  refine And.intro rfl (And.intro rfl ?_)
                  refine And.intro rfl (And.intro rfl (And.intro (vp_in_iff.mpr (by decide)) ?_))
                  intro z_40 h_41
                  have k_42 : z_10 = z_40 := h_11.trans h_41.symm
                  subst k_42
                  refine And.intro (fun c_43 => ?_) (fun c_43 => ?_)
                  · have c_43 : z_10.toInt ≤ i_31.toInt := c_43
                    let w6_ : va_W := [(mp_ob10 a0 y0 a6 a7 a8 a9 a10 y1 y2 y3 y4 y5 y6 y7 y8 y9 y10 a11 a1 a12 a13 a2 a3 a14 a15 y11 a16 a17 a18 a4 y12 y13 y14 a19 a20 y15 y16 a21 a22 a5 y17 y18 y19 y20 a23 a24 a25 y21), (mp_arI E a1 0 25 f0), (mp_arI E a2 0 90 f1), (mp_arI E a3 0 300 f2), (mp_arI E a4 3 1500 f3), (mp_arI E a5 0 3 g_33)]
                    show mp_W E X 6 118 [(5, .int i_31), (4, .int i_15), (3, .int i_1), (2, .int i_32), (0, .ref a0), (1, .int x0)] [] w6_ 0 0
                    refine mp_run mp_k_cX10_ringOf_ok hF mp_tabX10_ok [mp_c (.iinc 4 1) 1, mp_h (.goto (-104)) [17]] (by decide +kernel) ?_
                    intro z_44 h_45
                    have e_46 : z_44.toInt = i_15.toInt + 1 := mp_add (a := i_15.toInt) (b := 1) h_45 rfl (by decide) (by (first | exact mp_o2 l_18 | omega)) (by (first | exact mp_o351 u_19 | omega))
                    show mp_W E X 6 17 [(4, .int z_44), (5, .int i_31), (3, .int i_1), (2, .int i_32), (0, .ref a0), (1, .int x0)] [] w6_ 0 0
                    exact mp_sub [0, 2, 3, 4, 5] rfl [0, 1, 2, 3, 4, 5] rfl rfl (ih_22 (d_21 - 1) (by (first | exact mp_o72 hm_23 c_27 | omega)) z_44 i_32 g_33 (by (first | exact mp_o51 l_18 e_46 | omega)) (by (first | exact mp_o1485 e_46 c_27 e_12 | omega)) (by (first | exact mp_o77 hm_23 e_46 | omega)))
                  · have c_43 : i_31.toInt < z_10.toInt := c_43
                    let w7_ : va_W := [(mp_ob10 a0 y0 a6 a7 a8 a9 a10 y1 y2 y3 y4 y5 y6 y7 y8 y9 y10 a11 a1 a12 a13 a2 a3 a14 a15 y11 a16 a17 a18 a4 y12 y13 y14 a19 a20 y15 y16 a21 a22 a5 y17 y18 y19 y20 a23 a24 a25 y21), (mp_arI E a1 0 25 f0), (mp_arI E a2 0 90 f1), (mp_arI E a3 0 300 f2), (mp_arI E a4 3 1500 f3), (mp_arI E a5 0 3 g_33)]
                    show mp_W E X 6 42 [(5, .int i_31), (4, .int i_15), (3, .int i_1), (2, .int i_32), (0, .ref a0), (1, .int x0)] [] w7_ 0 0
                    refine mp_run mp_k_cX10_ringOf_ok hF mp_tabX10_ok [mp_i (.iload_n 3), mp_i (.iload 4), mp_h (.if_icmp .eq 67) [112]] (by decide +kernel) ?_
                    refine And.intro (fun c_47 => ?_) (fun c_47 => ?_)
                    · have c_47 : i_1.toInt = i_15.toInt := (congrArg Int32.toInt c_47)
                      show mp_W E X 6 112 [(5, .int i_31), (4, .int i_15), (3, .int i_1), (2, .int i_32), (0, .ref a0), (1, .int x0)] [] w7_ 0 0
                      refine mp_run mp_k_cX10_ringOf_ok hF mp_tabX10_ok [mp_c (.iinc 5 1) 1, mp_h (.goto (-84)) [31]] (by decide +kernel) ?_
                      intro z_48 h_49
                      have e_50 : z_48.toInt = i_31.toInt + 1 := mp_add (a := i_31.toInt) (b := 1) h_49 rfl (by decide) (by (first | exact mp_o2 l_34 | omega)) (by (first | exact mp_o351 u_35 | omega))
                      show mp_W E X 6 31 [(5, .int z_48), (4, .int i_15), (3, .int i_1), (2, .int i_32), (0, .ref a0), (1, .int x0)] [] w7_ 0 0
                      exact mp_sub [0, 1, 2, 3, 4, 5] rfl [0, 1, 2, 3, 4, 5] rfl rfl (ih_38 (d_37 - 1) (by (first | exact mp_o72 hm_39 c_43 | omega)) z_48 i_32 g_33 (by (first | exact mp_o51 l_34 e_50 | omega)) (by (first | exact mp_o1485 e_50 c_43 e_12 | omega)) (by (first | exact mp_o77 hm_39 e_50 | omega)))
                    · have c_47 : i_1.toInt ≠ i_15.toInt := c_47
                      show mp_W E X 6 48 [(5, .int i_31), (4, .int i_15), (3, .int i_1), (2, .int i_32), (0, .ref a0), (1, .int x0)] [] w7_ 0 0
                      refine mp_run mp_k_cX10_ringOf_ok hF mp_tabX10_ok [mp_i (.iload 4), mp_i (.iload 5), mp_h (.if_icmp .eq 60) [112]] (by decide +kernel) ?_
                      refine And.intro (fun c_51 => ?_) (fun c_51 => ?_)
                      · have c_51 : i_15.toInt = i_31.toInt := (congrArg Int32.toInt c_51)
                        show mp_W E X 6 112 [(5, .int i_31), (4, .int i_15), (3, .int i_1), (2, .int i_32), (0, .ref a0), (1, .int x0)] [] w7_ 0 0
                        refine mp_run mp_k_cX10_ringOf_ok hF mp_tabX10_ok [mp_c (.iinc 5 1) 1, mp_h (.goto (-84)) [31]] (by decide +kernel) ?_
                        intro z_52 h_53
                        have e_54 : z_52.toInt = i_31.toInt + 1 := mp_add (a := i_31.toInt) (b := 1) h_53 rfl (by decide) (by (first | exact mp_o2 l_34 | omega)) (by (first | exact mp_o351 u_35 | omega))
                        show mp_W E X 6 31 [(5, .int z_52), (4, .int i_15), (3, .int i_1), (2, .int i_32), (0, .ref a0), (1, .int x0)] [] w7_ 0 0
                        exact mp_sub [0, 1, 2, 3, 4, 5] rfl [0, 1, 2, 3, 4, 5] rfl rfl (ih_38 (d_37 - 1) (by omega) z_52 i_32 g_33 (by omega) (by (first | exact mp_o1485 e_54 c_43 e_12 | omega)) (by omega))
                      · have c_51 : i_15.toInt ≠ i_31.toInt := c_51
                        show mp_W E X 6 55 [(5, .int i_31), (4, .int i_15), (3, .int i_1), (2, .int i_32), (0, .ref a0), (1, .int x0)] [] w7_ 0 0
                        refine mp_run mp_k_cX10_ringOf_ok hF mp_tabX10_ok [mp_i (.iload_n 3), mp_i (.iload 5), mp_h (.if_icmp .eq 54) [112]] (by decide +kernel) ?_
                        refine And.intro (fun c_55 => ?_) (fun c_55 => ?_)
                        · have c_55 : i_1.toInt = i_31.toInt := (congrArg Int32.toInt c_55)
                          show mp_W E X 6 112 [(5, .int i_31), (4, .int i_15), (3, .int i_1), (2, .int i_32), (0, .ref a0), (1, .int x0)] [] w7_ 0 0
                          refine mp_run mp_k_cX10_ringOf_ok hF mp_tabX10_ok [mp_c (.iinc 5 1) 1, mp_h (.goto (-84)) [31]] (by decide +kernel) ?_
                          intro z_56 h_57
                          have e_58 : z_56.toInt = i_31.toInt + 1 := mp_add (a := i_31.toInt) (b := 1) h_57 rfl (by decide) (by (first | exact mp_o2 l_34 | omega)) (by (first | exact mp_o351 u_35 | omega))
                          show mp_W E X 6 31 [(5, .int z_56), (4, .int i_15), (3, .int i_1), (2, .int i_32), (0, .ref a0), (1, .int x0)] [] w7_ 0 0
                          exact mp_sub [0, 1, 2, 3, 4, 5] rfl [0, 1, 2, 3, 4, 5] rfl rfl (ih_38 (d_37 - 1) (by omega) z_56 i_32 g_33 (by omega) (by omega) (by omega))
                        · have c_55 : i_1.toInt ≠ i_31.toInt := c_55
                          show mp_W E X 6 61 [(5, .int i_31), (4, .int i_15), (3, .int i_1), (2, .int i_32), (0, .ref a0), (1, .int x0)] [] w7_ 0 0
                          refine mp_run mp_k_cX10_ringOf_ok hF mp_tabX10_ok [mp_i (.aload_n 0), mp_i (.iload_n 3), mp_i (.iload 4), mp_i (.iload 5), mp_i (.iload_n 1)] (by decide +kernel) ?_
                          show mp_W E X 6 68 [(5, .int i_31), (4, .int i_15), (3, .int i_1), (2, .int i_32), (0, .ref a0), (1, .int x0)] [.int x0, .int i_31, .int i_15, .int i_1, .ref a0] w7_ 0 0
                          refine mp_callV hF (As := [.int i_1, .int i_15, .int i_31, .int x0]) (rest := []) (wr := [(mp_arI E a5 0 3 g_33)]) (bX10_struckOf_130 E a0 a1 a2 a3 a4 a6 a7 a8 a9 a10 a11 a12 a13 a14 a15 a16 a17 a18 a19 a20 a21 a22 a5 a23 a24 a25 f0 f1 f2 f3 y0 y1 y2 y3 y4 y5 y6 y7 y8 y9 y10 y11 y12 y13 y14 y15 y16 y17 y18 y19 y20 y21 i_1 i_15 i_31 x0 p0 p1 p2 p3 p4 p5 p6 p7 p8 p9 p10 l_x0 u_x0 l_y1 u_y1 l_y2 u_y2 l_y3 u_y3 l_y4 u_y4 l_y11 u_y11 l_y12 u_y12 l_y13 u_y13 (by first | assumption | (rw [rfl]; assumption))) mp_lkX10_405 0 rfl [0, 1, 2, 3, 4] [5] rfl rfl rfl rfl rfl ⟨(Nat.le_of_ble_eq_true rfl), (Nat.le_of_ble_eq_true rfl), (Nat.le_of_ble_eq_true rfl), (Nat.le_of_ble_eq_true rfl)⟩ (Nat.le_of_ble_eq_true rfl) (by first | exact mp_fd_ok mp_k_cX10_ringOf_ok (by decide +kernel) | decide +kernel) (fun v_59 w_60 h_61 => ?_)
                          obtain ⟨r_62, rfl, rfl⟩ := h_61
                          let w8_ : va_W := [(mp_arI E a5 0 3 g_33), (mp_ob10 a0 y0 a6 a7 a8 a9 a10 y1 y2 y3 y4 y5 y6 y7 y8 y9 y10 a11 a1 a12 a13 a2 a3 a14 a15 y11 a16 a17 a18 a4 y12 y13 y14 a19 a20 y15 y16 a21 a22 a5 y17 y18 y19 y20 a23 a24 a25 y21), (mp_arI E a1 0 25 f0), (mp_arI E a2 0 90 f1), (mp_arI E a3 0 300 f2), (mp_arI E a4 3 1500 f3)]
                          show mp_W E X 6 71 [(5, .int i_31), (4, .int i_15), (3, .int i_1), (2, .int i_32), (0, .ref a0), (1, .int x0)] [.int r_62] w8_ 0 0
                          refine mp_run mp_k_cX10_ringOf_ok hF mp_tabX10_ok [mp_i (.iload_n 2), mp_h (.if_icmp .gt 6) [78]] (by decide +kernel) ?_
                          refine And.intro (fun c_63 => ?_) (fun c_63 => ?_)
                          · have c_63 : i_32.toInt < r_62.toInt := c_63
                            show mp_W E X 6 78 [(5, .int i_31), (4, .int i_15), (3, .int i_1), (2, .int i_32), (0, .ref a0), (1, .int x0)] [] w8_ 0 0
                            refine mp_run mp_k_cX10_ringOf_ok hF mp_tabX10_ok [mp_i (.aload_n 0), mp_i (.iload_n 3), mp_i (.iload 4), mp_i (.iload 5), mp_i (.iload_n 1)] (by decide +kernel) ?_
                            show mp_W E X 6 85 [(5, .int i_31), (4, .int i_15), (3, .int i_1), (2, .int i_32), (0, .ref a0), (1, .int x0)] [.int x0, .int i_31, .int i_15, .int i_1, .ref a0] w8_ 0 0
                            refine mp_callV hF (As := [.int i_1, .int i_15, .int i_31, .int x0]) (rest := []) (wr := [(mp_arI E a5 0 3 g_33)]) (bX10_struckOf_130 E a0 a1 a2 a3 a4 a6 a7 a8 a9 a10 a11 a12 a13 a14 a15 a16 a17 a18 a19 a20 a21 a22 a5 a23 a24 a25 f0 f1 f2 f3 y0 y1 y2 y3 y4 y5 y6 y7 y8 y9 y10 y11 y12 y13 y14 y15 y16 y17 y18 y19 y20 y21 i_1 i_15 i_31 x0 p0 p1 p2 p3 p4 p5 p6 p7 p8 p9 p10 l_x0 u_x0 l_y1 u_y1 l_y2 u_y2 l_y3 u_y3 l_y4 u_y4 l_y11 u_y11 l_y12 u_y12 l_y13 u_y13 (by first | assumption | (rw [rfl]; assumption))) mp_lkX10_405 1 rfl [1, 2, 3, 4, 5] [0] rfl rfl rfl rfl rfl ⟨(Nat.le_of_ble_eq_true rfl), (Nat.le_of_ble_eq_true rfl), (Nat.le_of_ble_eq_true rfl), (Nat.le_of_ble_eq_true rfl)⟩ (Nat.le_of_ble_eq_true rfl) (by first | exact mp_fd_ok mp_k_cX10_ringOf_ok (by decide +kernel) | decide +kernel) (fun v_64 w_65 h_66 => ?_)
                            obtain ⟨r_67, rfl, rfl⟩ := h_66
                            show mp_W E X 6 88 [(5, .int i_31), (4, .int i_15), (3, .int i_1), (2, .int i_32), (0, .ref a0), (1, .int x0)] [.int r_67] w8_ 0 0
                            refine mp_run mp_k_cX10_ringOf_ok hF mp_tabX10_ok [mp_i (.istore_n 2), mp_i (.aload_n 0), mp_h (.getfield 80) [38, 1], mp_c (.iconst 0) 0, mp_i (.iload_n 3), mp_h .iastore [0]] (by decide +kernel) ?_
                            refine And.intro rfl (And.intro rfl ?_)
                            refine And.intro rfl (And.intro rfl (And.intro (vp_in_iff.mpr (by decide)) ?_))
                            intro g_68 h_69
                            let w9_ : va_W := [(mp_arI E a5 0 3 g_68), (mp_ob10 a0 y0 a6 a7 a8 a9 a10 y1 y2 y3 y4 y5 y6 y7 y8 y9 y10 a11 a1 a12 a13 a2 a3 a14 a15 y11 a16 a17 a18 a4 y12 y13 y14 a19 a20 y15 y16 a21 a22 a5 y17 y18 y19 y20 a23 a24 a25 y21), (mp_arI E a1 0 25 f0), (mp_arI E a2 0 90 f1), (mp_arI E a3 0 300 f2), (mp_arI E a4 3 1500 f3)]
                            show mp_W E X 6 96 [(2, .int r_67), (5, .int i_31), (4, .int i_15), (3, .int i_1), (0, .ref a0), (1, .int x0)] [] w9_ 0 0
                            refine mp_run mp_k_cX10_ringOf_ok hF mp_tabX10_ok [mp_i (.aload_n 0), mp_h (.getfield 80) [38, 1], mp_c (.iconst 1) 1, mp_i (.iload 4), mp_h .iastore [0]] (by decide +kernel) ?_
                            refine And.intro rfl (And.intro rfl ?_)
                            refine And.intro rfl (And.intro rfl (And.intro (vp_in_iff.mpr (by decide)) ?_))
                            intro g_70 h_71
                            let w10_ : va_W := [(mp_arI E a5 0 3 g_70), (mp_ob10 a0 y0 a6 a7 a8 a9 a10 y1 y2 y3 y4 y5 y6 y7 y8 y9 y10 a11 a1 a12 a13 a2 a3 a14 a15 y11 a16 a17 a18 a4 y12 y13 y14 a19 a20 y15 y16 a21 a22 a5 y17 y18 y19 y20 a23 a24 a25 y21), (mp_arI E a1 0 25 f0), (mp_arI E a2 0 90 f1), (mp_arI E a3 0 300 f2), (mp_arI E a4 3 1500 f3)]
                            show mp_W E X 6 104 [(2, .int r_67), (5, .int i_31), (4, .int i_15), (3, .int i_1), (0, .ref a0), (1, .int x0)] [] w10_ 0 0
                            refine mp_run mp_k_cX10_ringOf_ok hF mp_tabX10_ok [mp_i (.aload_n 0), mp_h (.getfield 80) [38, 1], mp_c (.iconst 2) 2, mp_i (.iload 5), mp_h .iastore [0]] (by decide +kernel) ?_
                            refine And.intro rfl (And.intro rfl ?_)
                            refine And.intro rfl (And.intro rfl (And.intro (vp_in_iff.mpr (by decide)) ?_))
                            intro g_72 h_73
                            let w11_ : va_W := [(mp_arI E a5 0 3 g_72), (mp_ob10 a0 y0 a6 a7 a8 a9 a10 y1 y2 y3 y4 y5 y6 y7 y8 y9 y10 a11 a1 a12 a13 a2 a3 a14 a15 y11 a16 a17 a18 a4 y12 y13 y14 a19 a20 y15 y16 a21 a22 a5 y17 y18 y19 y20 a23 a24 a25 y21), (mp_arI E a1 0 25 f0), (mp_arI E a2 0 90 f1), (mp_arI E a3 0 300 f2), (mp_arI E a4 3 1500 f3)]
                            show mp_W E X 6 112 [(2, .int r_67), (5, .int i_31), (4, .int i_15), (3, .int i_1), (0, .ref a0), (1, .int x0)] [] w11_ 0 0
                            refine mp_run mp_k_cX10_ringOf_ok hF mp_tabX10_ok [mp_c (.iinc 5 1) 1, mp_h (.goto (-84)) [31]] (by decide +kernel) ?_
                            intro z_74 h_75
                            have e_76 : z_74.toInt = i_31.toInt + 1 := mp_add (a := i_31.toInt) (b := 1) h_75 rfl (by decide) (by (first | exact mp_o2 l_34 | omega)) (by (first | exact mp_o351 u_35 | omega))
                            show mp_W E X 6 31 [(5, .int z_74), (2, .int r_67), (4, .int i_15), (3, .int i_1), (0, .ref a0), (1, .int x0)] [] w11_ 0 0
                            exact mp_sub [0, 2, 3, 1, 4, 5] rfl [1, 2, 3, 4, 5, 0] rfl rfl (ih_38 (d_37 - 1) (by (first | exact mp_o72 hm_39 c_43 | omega)) z_74 r_67 g_72 (by (first | exact mp_o51 l_34 e_76 | omega)) (by (first | exact mp_o1485 e_76 c_43 e_12 | omega)) (by (first | exact mp_o77 hm_39 e_76 | omega)))
                          · have c_63 : r_62.toInt ≤ i_32.toInt := c_63
                            show mp_W E X 6 75 [(5, .int i_31), (4, .int i_15), (3, .int i_1), (2, .int i_32), (0, .ref a0), (1, .int x0)] [] w8_ 0 0
                            refine mp_run mp_k_cX10_ringOf_ok hF mp_tabX10_ok [mp_h (.goto 37) [112], mp_c (.iinc 5 1) 1, mp_h (.goto (-84)) [31]] (by decide +kernel) ?_
                            intro z_77 h_78
                            have e_79 : z_77.toInt = i_31.toInt + 1 := mp_add (a := i_31.toInt) (b := 1) h_78 rfl (by decide) (by (first | exact mp_o2 l_34 | omega)) (by (first | exact mp_o351 u_35 | omega))
                            show mp_W E X 6 31 [(5, .int z_77), (4, .int i_15), (3, .int i_1), (2, .int i_32), (0, .ref a0), (1, .int x0)] [] w8_ 0 0
                            exact mp_sub [0, 1, 2, 3, 4, 5] rfl [1, 2, 3, 4, 5, 0] rfl rfl (ih_38 (d_37 - 1) (by omega) z_77 i_32 g_33 (by omega) (by omega) (by omega))
              exact mp_sub [0, 1, 2, 3, 4, 5] rfl [0, 1, 2, 3, 4, 5] rfl rfl (lp_36 _ 0 i_16 g_17 (by decide) (by decide) (Int.self_le_toNat _))
        exact mp_sub [0, 1, 2, 3, 4] rfl [0, 1, 2, 3, 4, 5] rfl rfl (lp_20 _ 0 i_2 g_3 (by decide) (by decide) (Int.self_le_toNat _))
  exact mp_sub [0, 1, 2, 3] rfl [0, 1, 2, 3, 4, 5] rfl rfl (lp_6 _ 0 0 f4 (by decide) (by decide) (Int.self_le_toNat _))
