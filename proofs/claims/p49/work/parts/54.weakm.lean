set_option maxHeartbeats 4000000 in
set_option maxRecDepth 100000 in
theorem bX10_weighed_139 (E : mp_E) (a0 a1 a2 a3 a4 a5 a6 a7 a8 a9 a10 a11 a12 a13 a14 a15 a16 a17 a18 a19 a20 a21 a22 a23 a24 a25 : Nat) (f0 : Nat → Int32) (f1 : Nat → Int32) (f2 : Nat → Int64) (f3 : Nat → Int32) (f4 : Nat → Int32) (y0 : Int32) (y1 : Int32) (y2 : Int32) (y3 : Int32) (y4 : Int32) (y5 : Int32) (y6 : Int64) (y7 : Int32) (y8 : Int32) (y9 : Int32) (y10 : Int32) (y11 : Int32) (y12 : Int32) (y13 : Int32) (y14 : Int32) (y15 : Int32) (y16 : Int32) (y17 : Int32) (y18 : Int32) (y19 : Int32) (y20 : Int32) (y21 : Int32) (x0 : Int32) (x1 : Int32) (p0 : mp_all f1 4 0 60) (p1 : mp_res f3 25 5 0 0 6) (p2 : mp_res f3 25 5 1 0 99) (p3 : mp_res f3 25 5 2 0 6) (p4 : mp_res f3 25 5 3 0 10) (p5 : mp_res f3 25 5 4 0 60) (p6 : mp_res f4 300 6 0 0 5) (p7 : mp_res f4 300 6 1 0 5) (p8 : mp_res f4 300 6 3 0 99) (p9 : mp_res f4 300 6 4 0 1) (l_y1 : 0 ≤ y1.toInt) (u_y1 : y1.toInt ≤ 1600) (l_y2 : 0 ≤ y2.toInt) (u_y2 : y2.toInt ≤ 1600) (l_y3 : 0 ≤ y3.toInt) (u_y3 : y3.toInt ≤ 4) (l_y4 : 0 ≤ y4.toInt) (u_y4 : y4.toInt ≤ 1600) (l_y11 : 0 ≤ y11.toInt) (u_y11 : y11.toInt ≤ 99) (l_y12 : 0 ≤ y12.toInt) (u_y12 : y12.toInt ≤ 5) (l_y13 : 0 ≤ y13.toInt) (u_y13 : y13.toInt ≤ 12) : mp_Ct E yX10_weighed cX10_weighed 4 (some FieldType.int) 4 0 0 93 [.ref a0, .int x0, .int x1] [(mp_ob10 a0 y0 a1 a2 a3 a6 a7 y1 y2 y3 y4 y5 y6 y7 y8 y9 y10 a8 a4 a9 a10 a11 a5 a12 a13 y11 a14 a15 a16 a17 y12 y13 y14 a18 a19 y15 y16 a20 a21 a22 y17 y18 y19 y20 a23 a24 a25 y21), (mp_arI E a1 0 4 f0), (mp_arI E a2 0 4 f1), (mp_arL E a3 240 f2), (mp_arI E a4 0 25 f3), (mp_arI E a5 0 300 f4)] (fun v w' => ∃ r1 : Int32, ∃ r2 : Int32, ∃ r3 : Int32, ∃ r4 : Int32, ∃ r5 : Int32, v = some (.int r5) ∧ w' = [(mp_ob10 a0 0 a1 a2 a3 a6 a7 y1 y2 y3 y4 y5 y6 y7 y8 y9 y10 a8 a4 a9 a10 a11 a5 a12 a13 y11 a14 a15 a16 a17 y12 y13 y14 a18 a19 y15 y16 a20 a21 a22 r1 r2 r3 r4 a23 a24 a25 y21), (mp_arI E a1 0 4 f0), (mp_arI E a2 0 4 f1), (mp_arL E a3 240 f2), (mp_arI E a4 0 25 f3), (mp_arI E a5 0 300 f4)]) := by
  refine mp_met false (by decide) (by decide) (Nat.le_of_ble_eq_true rfl) (fun X hF hQ => ?_)
  have hF : mp_F E X (RX10, cX10_weighed, 4, (4, 0, 0, 93), (some FieldType.int), false) := hF
  let w1_ : va_W := [(mp_ob10 a0 y0 a1 a2 a3 a6 a7 y1 y2 y3 y4 y5 y6 y7 y8 y9 y10 a8 a4 a9 a10 a11 a5 a12 a13 y11 a14 a15 a16 a17 y12 y13 y14 a18 a19 y15 y16 a20 a21 a22 y17 y18 y19 y20 a23 a24 a25 y21), (mp_arI E a1 0 4 f0), (mp_arI E a2 0 4 f1), (mp_arL E a3 240 f2), (mp_arI E a4 0 25 f3), (mp_arI E a5 0 300 f4)]
  show mp_W E X 4 0 [(0, .ref a0), (1, .int x0), (2, .int x1)] [] w1_ 0 0
  refine mp_run mp_k_cX10_weighed_ok hF mp_tabX10_ok [mp_i (.aload_n 0), mp_c (.iconst 0) 0, mp_h (.putfield 92) [0, 0]] (by decide +kernel) ?_
  refine And.intro rfl (And.intro rfl (And.intro rfl (And.intro rfl (And.intro (Nat.le_of_ble_eq_true rfl) ?_))))
  let w2_ : va_W := [(mp_ob10 a0 0 a1 a2 a3 a6 a7 y1 y2 y3 y4 y5 y6 y7 y8 y9 y10 a8 a4 a9 a10 a11 a5 a12 a13 y11 a14 a15 a16 a17 y12 y13 y14 a18 a19 y15 y16 a20 a21 a22 y17 y18 y19 y20 a23 a24 a25 y21), (mp_arI E a1 0 4 f0), (mp_arI E a2 0 4 f1), (mp_arL E a3 240 f2), (mp_arI E a4 0 25 f3), (mp_arI E a5 0 300 f4)]
  show mp_W E X 4 5 [(0, .ref a0), (1, .int x0), (2, .int x1)] [] w2_ 0 0
  refine mp_run mp_k_cX10_weighed_ok hF mp_tabX10_ok [mp_i (.aload_n 0), mp_i (.iload_n 1), mp_i (.iload_n 2)] (by decide +kernel) ?_
  show mp_W E X 4 8 [(0, .ref a0), (1, .int x0), (2, .int x1)] [.int x1, .int x0, .ref a0] w2_ 0 0
  refine mp_callV hF (As := [.int x0, .int x1]) (rest := []) (wr := []) (bX10_whyNot_135 E a0 a1 a2 a3 a4 a5 a6 a7 a8 a9 a10 a11 a12 a13 a14 a15 a16 a17 a18 a19 a20 a21 a22 a23 a24 a25 f0 f1 f2 f3 f4 0 y1 y2 y3 y4 y5 y6 y7 y8 y9 y10 y11 y12 y13 y14 y15 y16 y17 y18 y19 y20 y21 x0 x1 p0 p1 p2 p3 p4 p5 p6 p7 p8 p9 l_y1 u_y1 l_y2 u_y2 l_y3 u_y3 l_y4 u_y4 l_y11 u_y11 l_y12 u_y12 l_y13 u_y13) mp_lkX10_432 0 rfl [0, 1, 2, 3, 4, 5] [] rfl rfl rfl rfl rfl ⟨(Nat.le_of_ble_eq_true rfl), (Nat.le_of_ble_eq_true rfl), (Nat.le_of_ble_eq_true rfl), (Nat.le_of_ble_eq_true rfl)⟩ (Nat.le_of_ble_eq_true rfl) (by first | exact mp_fd_ok mp_k_cX10_weighed_ok (by decide +kernel) | decide +kernel) (fun v_1 w_2 h_3 => ?_)
  refine h_3.elim (fun q_21 => ?_) (fun q_22 => q_22.elim (fun q_23 => ?_) (fun q_24 => ?_))
  · skip
    refine q_21.elim fun e_25 q_26 => q_26.elim fun x_4 e_27 => ?_
    clear h_3 q_21 q_26
    subst e_25
    subst e_27
    show mp_W E X 4 11 [(0, .ref a0), (1, .int x0), (2, .int x1)] [.int (-2)] w2_ 0 0
    refine mp_run mp_k_cX10_weighed_ok hF mp_tabX10_ok [mp_i (.istore_n 3), mp_i (.iload_n 3), mp_h (.ifCond .eq 5) [18]] (by decide +kernel) ?_
    refine And.intro (fun c_28 => absurd c_28 (by decide)) (fun _ => ?_)
    show mp_W E X 4 16 [(3, .int (-2)), (0, .ref a0), (1, .int x0), (2, .int x1)] [] w2_ 0 0
    refine mp_run mp_k_cX10_weighed_ok hF mp_tabX10_ok [mp_i (.iload_n 3)] (by decide +kernel) ?_
    show mp_W E X 4 17 [(3, .int (-2)), (0, .ref a0), (1, .int x0), (2, .int x1)] [.int (-2)] w2_ 0 0
    exact mp_iret hF hQ rfl rfl (Nat.le_of_ble_eq_true rfl) (Nat.le_of_ble_eq_true rfl) [0, 1, 2, 3, 4, 5] (w' := w2_) rfl rfl ⟨y17, y18, y19, y20, (-2), rfl, rfl⟩ (by first | exact mp_fd_ok mp_k_cX10_weighed_ok (by decide +kernel) | decide +kernel)
  · skip
    refine q_23.elim fun e_29 q_30 => q_30.elim fun c_5 q_31 => q_31.elim fun c_6 q_32 => q_32.elim fun c_7 q_33 => q_33.elim fun x_8 q_34 => q_34.elim fun x_9 q_35 => q_35.elim fun x_10 q_36 => q_36.elim fun x_11 q_37 => q_37.elim fun x_12 q_38 => q_38.elim fun x_13 q_39 => q_39.elim fun x_14 q_40 => q_40.elim fun x_15 q_41 => q_41.elim fun x_16 e_42 => ?_
    clear h_3 q_22 q_23 q_30 q_31 q_32 q_33 q_34 q_35 q_36 q_37 q_38 q_39 q_40 q_41
    subst e_29
    subst e_42
    have c_5 : 0 ≤ x0.toInt := c_5
    have c_6 : x0.toInt ≤ 3 := c_6
    have c_7 : 0 ≤ x1.toInt := c_7
    show mp_W E X 4 11 [(0, .ref a0), (1, .int x0), (2, .int x1)] [.int 0] w2_ 0 0
    refine mp_run mp_k_cX10_weighed_ok hF mp_tabX10_ok [mp_i (.istore_n 3), mp_i (.iload_n 3), mp_h (.ifCond .eq 5) [18]] (by decide +kernel) ?_
    refine And.intro (fun _ => ?_) (fun c_43 => absurd c_43 (by decide))
    show mp_W E X 4 18 [(3, .int 0), (0, .ref a0), (1, .int x0), (2, .int x1)] [] w2_ 0 0
    refine mp_run mp_k_cX10_weighed_ok hF mp_tabX10_ok [mp_i (.aload_n 0), mp_i (.iload_n 1), mp_i (.iload_n 2)] (by decide +kernel) ?_
    show mp_W E X 4 21 [(3, .int 0), (0, .ref a0), (1, .int x0), (2, .int x1)] [.int x1, .int x0, .ref a0] w2_ 0 0
    refine mp_callV hF (As := [.int x0, .int x1]) (rest := []) (wr := [(mp_arI E a1 0 4 f0), (mp_arI E a4 0 25 f3)]) (bX10_laysWays_138 E a0 a2 a3 a5 a1 a6 a7 a8 a4 a9 a10 a11 a12 a13 a14 a15 a16 a17 a18 a19 a20 a21 a22 a23 a24 a25 f1 f2 f4 0 y1 y2 y3 y4 y5 y6 y7 y8 y9 y10 y11 y12 y13 y14 y15 y16 y17 y18 y19 y20 y21 x0 x1 p0 p6 p7 p8 p9 (by (first | exact c_5 | omega)) (by (first | exact c_6 | omega)) (by (first | exact c_7 | omega)) (by (first | exact x_11 | omega)) l_y1 u_y1 l_y2 u_y2 l_y3 u_y3 l_y4 u_y4 l_y11 u_y11 l_y12 u_y12 l_y13 u_y13 (by first | assumption | omega) (by assumption)) mp_lkX10_435 0 rfl [0, 2, 3, 5] [1, 4] rfl rfl rfl rfl rfl ⟨(Nat.le_of_ble_eq_true rfl), (Nat.le_of_ble_eq_true rfl), (Nat.le_of_ble_eq_true rfl), (Nat.le_of_ble_eq_true rfl)⟩ (Nat.le_of_ble_eq_true rfl) (by first | exact mp_fd_ok mp_k_cX10_weighed_ok (by decide +kernel) | decide +kernel) (fun v_44 w_45 h_46 => ?_)
    refine h_46.elim fun r_47 q_53 => q_53.elim fun r_48 q_54 => q_54.elim fun r_49 q_55 => q_55.elim fun r_50 q_56 => q_56.elim fun e_57 q_58 => q_58.elim fun l_51 q_59 => q_59.elim fun u_52 e_60 => ?_
    clear h_46 q_53 q_54 q_55 q_56 q_58 q_59
    subst e_57
    subst e_60
    let w3_ : va_W := [(mp_arI E a1 0 4 f0), (mp_arI E a4 0 25 f3), (mp_ob10 a0 0 a1 a2 a3 a6 a7 y1 y2 y3 y4 y5 y6 y7 y8 y9 y10 a8 a4 a9 a10 a11 a5 a12 a13 y11 a14 a15 a16 a17 y12 y13 y14 a18 a19 y15 y16 a20 a21 a22 r_47 r_48 r_49 r_50 a23 a24 a25 y21), (mp_arI E a2 0 4 f1), (mp_arL E a3 240 f2), (mp_arI E a5 0 300 f4)]
    show mp_W E X 4 24 [(3, .int 0), (0, .ref a0), (1, .int x0), (2, .int x1)] [] w3_ 0 0
    refine mp_run mp_k_cX10_weighed_ok hF mp_tabX10_ok [mp_i (.aload_n 0), mp_h (.getfield 417) [39, 2]] (by decide +kernel) ?_
    refine And.intro rfl (And.intro rfl ?_)
    show mp_W E X 4 28 [(3, .int 0), (0, .ref a0), (1, .int x0), (2, .int x1)] [.int r_47] w3_ 0 0
    exact mp_iret hF hQ rfl rfl (Nat.le_of_ble_eq_true rfl) (Nat.le_of_ble_eq_true rfl) [2, 0, 3, 4, 1, 5] (w' := [(mp_ob10 a0 0 a1 a2 a3 a6 a7 y1 y2 y3 y4 y5 y6 y7 y8 y9 y10 a8 a4 a9 a10 a11 a5 a12 a13 y11 a14 a15 a16 a17 y12 y13 y14 a18 a19 y15 y16 a20 a21 a22 r_47 r_48 r_49 r_50 a23 a24 a25 y21), (mp_arI E a1 0 4 f0), (mp_arI E a2 0 4 f1), (mp_arL E a3 240 f2), (mp_arI E a4 0 25 f3), (mp_arI E a5 0 300 f4)]) rfl rfl ⟨r_47, r_48, r_49, r_50, r_47, rfl, rfl⟩ (by first | exact mp_fd_ok mp_k_cX10_weighed_ok (by decide +kernel) | decide +kernel)
  · skip
    refine q_24.elim fun e_61 q_62 => q_62.elim fun c_17 q_63 => q_63.elim fun c_18 q_64 => q_64.elim fun c_19 q_65 => q_65.elim fun x_20 e_66 => ?_
    clear h_3 q_22 q_24 q_62 q_63 q_64 q_65
    subst e_61
    subst e_66
    have c_17 : 0 ≤ x0.toInt := c_17
    have c_18 : x0.toInt ≤ 3 := c_18
    have c_19 : 0 ≤ x1.toInt := c_19
    show mp_W E X 4 11 [(0, .ref a0), (1, .int x0), (2, .int x1)] [.int (-6)] w2_ 0 0
    refine mp_run mp_k_cX10_weighed_ok hF mp_tabX10_ok [mp_i (.istore_n 3), mp_i (.iload_n 3), mp_h (.ifCond .eq 5) [18]] (by decide +kernel) ?_
    refine And.intro (fun c_67 => absurd c_67 (by decide)) (fun _ => ?_)
    show mp_W E X 4 16 [(3, .int (-6)), (0, .ref a0), (1, .int x0), (2, .int x1)] [] w2_ 0 0
    refine mp_run mp_k_cX10_weighed_ok hF mp_tabX10_ok [mp_i (.iload_n 3)] (by decide +kernel) ?_
    show mp_W E X 4 17 [(3, .int (-6)), (0, .ref a0), (1, .int x0), (2, .int x1)] [.int (-6)] w2_ 0 0
    exact mp_iret hF hQ rfl rfl (Nat.le_of_ble_eq_true rfl) (Nat.le_of_ble_eq_true rfl) [0, 1, 2, 3, 4, 5] (w' := w2_) rfl rfl ⟨y17, y18, y19, y20, (-6), rfl, rfl⟩ (by first | exact mp_fd_ok mp_k_cX10_weighed_ok (by decide +kernel) | decide +kernel)
set_option maxHeartbeats 4000000 in
set_option maxRecDepth 100000 in
theorem bX10_must_140 (E : mp_E) (a0 a1 a2 a3 a4 a5 a6 a7 a8 a9 a10 a11 a12 a13 a14 a15 a16 a17 a18 a19 a20 a21 a22 a23 a24 a25 : Nat) (f0 : Nat → Int32) (f1 : Nat → Int32) (f2 : Nat → Int64) (f3 : Nat → Int32) (f4 : Nat → Int32) (y0 : Int32) (y1 : Int32) (y2 : Int32) (y3 : Int32) (y4 : Int32) (y5 : Int32) (y6 : Int64) (y7 : Int32) (y8 : Int32) (y9 : Int32) (y10 : Int32) (y11 : Int32) (y12 : Int32) (y13 : Int32) (y14 : Int32) (y15 : Int32) (y16 : Int32) (y17 : Int32) (y18 : Int32) (y19 : Int32) (y20 : Int32) (y21 : Int32) (x0 : Int32) (x1 : Int32) (x2 : Int32) (p0 : mp_all f1 4 0 60) (p1 : mp_res f3 25 5 0 0 6) (p2 : mp_res f3 25 5 1 0 99) (p3 : mp_res f3 25 5 2 0 6) (p4 : mp_res f3 25 5 3 0 10) (p5 : mp_res f3 25 5 4 0 60) (p6 : mp_res f4 300 6 0 0 5) (p7 : mp_res f4 300 6 1 0 5) (p8 : mp_res f4 300 6 3 0 99) (p9 : mp_res f4 300 6 4 0 1) (l_y1 : 0 ≤ y1.toInt) (u_y1 : y1.toInt ≤ 1600) (l_y2 : 0 ≤ y2.toInt) (u_y2 : y2.toInt ≤ 1600) (l_y3 : 0 ≤ y3.toInt) (u_y3 : y3.toInt ≤ 4) (l_y4 : 0 ≤ y4.toInt) (u_y4 : y4.toInt ≤ 1600) (l_y11 : 0 ≤ y11.toInt) (u_y11 : y11.toInt ≤ 99) (l_y12 : 0 ≤ y12.toInt) (u_y12 : y12.toInt ≤ 5) (l_y13 : 0 ≤ y13.toInt) (u_y13 : y13.toInt ≤ 12) : mp_Ct E yX10_must cX10_must 5 (some FieldType.int) 4 0 0 93 [.ref a0, .int x0, .int x1, .int x2] [(mp_ob10 a0 y0 a1 a2 a3 a6 a7 y1 y2 y3 y4 y5 y6 y7 y8 y9 y10 a8 a4 a9 a10 a11 a5 a12 a13 y11 a14 a15 a16 a17 y12 y13 y14 a18 a19 y15 y16 a20 a21 a22 y17 y18 y19 y20 a23 a24 a25 y21), (mp_arI E a1 0 4 f0), (mp_arI E a2 0 4 f1), (mp_arL E a3 240 f2), (mp_arI E a4 0 25 f3), (mp_arI E a5 0 300 f4)] (fun v w' => ∃ r1 : Int32, ∃ r2 : Int32, ∃ r3 : Int32, ∃ r4 : Int32, ∃ r5 : Int32, v = some (.int r5) ∧ w' = [(mp_ob10 a0 0 a1 a2 a3 a6 a7 y1 y2 y3 y4 y5 y6 y7 y8 y9 y10 a8 a4 a9 a10 a11 a5 a12 a13 y11 a14 a15 a16 a17 y12 y13 y14 a18 a19 y15 y16 a20 a21 a22 r1 r2 r3 r4 a23 a24 a25 y21), (mp_arI E a1 0 4 f0), (mp_arI E a2 0 4 f1), (mp_arL E a3 240 f2), (mp_arI E a4 0 25 f3), (mp_arI E a5 0 300 f4)]) := by
  refine mp_met false (by decide) (by decide) (Nat.le_of_ble_eq_true rfl) (fun X hF hQ => ?_)
  have hF : mp_F E X (RX10, cX10_must, 5, (4, 0, 0, 93), (some FieldType.int), false) := hF
  let w1_ : va_W := [(mp_ob10 a0 y0 a1 a2 a3 a6 a7 y1 y2 y3 y4 y5 y6 y7 y8 y9 y10 a8 a4 a9 a10 a11 a5 a12 a13 y11 a14 a15 a16 a17 y12 y13 y14 a18 a19 y15 y16 a20 a21 a22 y17 y18 y19 y20 a23 a24 a25 y21), (mp_arI E a1 0 4 f0), (mp_arI E a2 0 4 f1), (mp_arL E a3 240 f2), (mp_arI E a4 0 25 f3), (mp_arI E a5 0 300 f4)]
  show mp_W E X 5 0 [(0, .ref a0), (1, .int x0), (2, .int x1), (3, .int x2)] [] w1_ 0 0
  refine mp_run mp_k_cX10_must_ok hF mp_tabX10_ok [mp_i (.aload_n 0), mp_c (.iconst 0) 0, mp_h (.putfield 92) [0, 0]] (by decide +kernel) ?_
  refine And.intro rfl (And.intro rfl (And.intro rfl (And.intro rfl (And.intro (Nat.le_of_ble_eq_true rfl) ?_))))
  let w2_ : va_W := [(mp_ob10 a0 0 a1 a2 a3 a6 a7 y1 y2 y3 y4 y5 y6 y7 y8 y9 y10 a8 a4 a9 a10 a11 a5 a12 a13 y11 a14 a15 a16 a17 y12 y13 y14 a18 a19 y15 y16 a20 a21 a22 y17 y18 y19 y20 a23 a24 a25 y21), (mp_arI E a1 0 4 f0), (mp_arI E a2 0 4 f1), (mp_arL E a3 240 f2), (mp_arI E a4 0 25 f3), (mp_arI E a5 0 300 f4)]
  show mp_W E X 5 5 [(0, .ref a0), (1, .int x0), (2, .int x1), (3, .int x2)] [] w2_ 0 0
  refine mp_run mp_k_cX10_must_ok hF mp_tabX10_ok [mp_i (.iload_n 3), mp_i .i2l, mp_cl (.lconst 0) 0, mp_cl (.lconst 1) 1] (by decide +kernel) ?_
  intro z_1 h_2
  have e_3 : z_1.toInt = x2.toInt := mp_i2l h_2
  show mp_W E X 5 9 [(0, .ref a0), (1, .int x0), (2, .int x1), (3, .int x2)] [.long 1, .long 0, .long z_1] w2_ 0 0
  refine mp_callS hF (As := [.long z_1, .long 0, .long 1]) (rest := []) (wr := w2_) (bX10_in_0 E z_1 0 1) mp_lkX10_97 [] [0, 1, 2, 3, 4, 5] rfl rfl rfl rfl rfl ⟨(Nat.le_of_ble_eq_true rfl), (Nat.le_of_ble_eq_true rfl), (Nat.le_of_ble_eq_true rfl), (Nat.le_of_ble_eq_true rfl)⟩ (Nat.le_of_ble_eq_true rfl) (by first | exact mp_fd_ok mp_k_cX10_must_ok (by decide +kernel) | decide +kernel) (fun v_4 w_5 h_6 => ?_)
  rcases h_6 with ⟨rfl, x_7, rfl⟩ | ⟨rfl, c_8, c_9, rfl⟩
  · skip
    have i_10 : (0 : Int64).toInt = 0 := by decide
    have i_11 : (1 : Int64).toInt = 1 := by decide
    show mp_W E X 5 12 [(0, .ref a0), (1, .int x0), (2, .int x1), (3, .int x2)] [.int 0] w2_ 0 0
    refine mp_run mp_k_cX10_must_ok hF mp_tabX10_ok [mp_h (.ifCond .eq 12) [24]] (by decide +kernel) ?_
    refine And.intro (fun _ => ?_) (fun c_12 => absurd c_12 (by decide))
    show mp_W E X 5 24 [(0, .ref a0), (1, .int x0), (2, .int x1), (3, .int x2)] [] w2_ 0 0
    refine mp_run mp_k_cX10_must_ok hF mp_tabX10_ok [mp_c (.bipush (-2)) (-2), mp_i (.istore 4), mp_i (.iload 4), mp_h (.ifCond .eq 6) [36]] (by decide +kernel) ?_
    refine And.intro (fun c_13 => absurd c_13 (by decide)) (fun _ => ?_)
    show mp_W E X 5 33 [(4, .int (-2)), (0, .ref a0), (1, .int x0), (2, .int x1), (3, .int x2)] [] w2_ 0 0
    refine mp_run mp_k_cX10_must_ok hF mp_tabX10_ok [mp_i (.iload 4)] (by decide +kernel) ?_
    show mp_W E X 5 35 [(4, .int (-2)), (0, .ref a0), (1, .int x0), (2, .int x1), (3, .int x2)] [.int (-2)] w2_ 0 0
    exact mp_iret hF hQ rfl rfl (Nat.le_of_ble_eq_true rfl) (Nat.le_of_ble_eq_true rfl) [0, 1, 2, 3, 4, 5] (w' := w2_) rfl rfl ⟨y17, y18, y19, y20, (-2), rfl, rfl⟩ (by first | exact mp_fd_ok mp_k_cX10_must_ok (by decide +kernel) | decide +kernel)
  · skip
    have c_8 : 0 ≤ z_1.toInt := c_8
    have c_9 : z_1.toInt ≤ 1 := c_9
    have i_14 : (0 : Int64).toInt = 0 := by decide
    have i_15 : (1 : Int64).toInt = 1 := by decide
    show mp_W E X 5 12 [(0, .ref a0), (1, .int x0), (2, .int x1), (3, .int x2)] [.int 1] w2_ 0 0
    refine mp_run mp_k_cX10_must_ok hF mp_tabX10_ok [mp_h (.ifCond .eq 12) [24]] (by decide +kernel) ?_
    refine And.intro (fun c_16 => absurd c_16 (by decide)) (fun _ => ?_)
    show mp_W E X 5 15 [(0, .ref a0), (1, .int x0), (2, .int x1), (3, .int x2)] [] w2_ 0 0
    refine mp_run mp_k_cX10_must_ok hF mp_tabX10_ok [mp_i (.aload_n 0), mp_i (.iload_n 1), mp_i (.iload_n 2)] (by decide +kernel) ?_
    show mp_W E X 5 18 [(0, .ref a0), (1, .int x0), (2, .int x1), (3, .int x2)] [.int x1, .int x0, .ref a0] w2_ 0 0
    refine mp_callV hF (As := [.int x0, .int x1]) (rest := []) (wr := []) (bX10_whyNot_135 E a0 a1 a2 a3 a4 a5 a6 a7 a8 a9 a10 a11 a12 a13 a14 a15 a16 a17 a18 a19 a20 a21 a22 a23 a24 a25 f0 f1 f2 f3 f4 0 y1 y2 y3 y4 y5 y6 y7 y8 y9 y10 y11 y12 y13 y14 y15 y16 y17 y18 y19 y20 y21 x0 x1 p0 p1 p2 p3 p4 p5 p6 p7 p8 p9 l_y1 u_y1 l_y2 u_y2 l_y3 u_y3 l_y4 u_y4 l_y11 u_y11 l_y12 u_y12 l_y13 u_y13) mp_lkX10_432 0 rfl [0, 1, 2, 3, 4, 5] [] rfl rfl rfl rfl rfl ⟨(Nat.le_of_ble_eq_true rfl), (Nat.le_of_ble_eq_true rfl), (Nat.le_of_ble_eq_true rfl), (Nat.le_of_ble_eq_true rfl)⟩ (Nat.le_of_ble_eq_true rfl) (by first | exact mp_fd_ok mp_k_cX10_must_ok (by decide +kernel) | decide +kernel) (fun v_17 w_18 h_19 => ?_)
    refine h_19.elim (fun q_37 => ?_) (fun q_38 => q_38.elim (fun q_39 => ?_) (fun q_40 => ?_))
    · skip
      refine q_37.elim fun e_41 q_42 => q_42.elim fun x_20 e_43 => ?_
      clear h_19 q_37 q_42
      subst e_41
      subst e_43
      show mp_W E X 5 21 [(0, .ref a0), (1, .int x0), (2, .int x1), (3, .int x2)] [.int (-2)] w2_ 0 0
      refine mp_run mp_k_cX10_must_ok hF mp_tabX10_ok [mp_h (.goto 5) [26], mp_i (.istore 4), mp_i (.iload 4), mp_h (.ifCond .eq 6) [36]] (by decide +kernel) ?_
      refine And.intro (fun c_44 => absurd c_44 (by decide)) (fun _ => ?_)
      show mp_W E X 5 33 [(4, .int (-2)), (0, .ref a0), (1, .int x0), (2, .int x1), (3, .int x2)] [] w2_ 0 0
      refine mp_run mp_k_cX10_must_ok hF mp_tabX10_ok [mp_i (.iload 4)] (by decide +kernel) ?_
      show mp_W E X 5 35 [(4, .int (-2)), (0, .ref a0), (1, .int x0), (2, .int x1), (3, .int x2)] [.int (-2)] w2_ 0 0
      exact mp_iret hF hQ rfl rfl (Nat.le_of_ble_eq_true rfl) (Nat.le_of_ble_eq_true rfl) [0, 1, 2, 3, 4, 5] (w' := w2_) rfl rfl ⟨y17, y18, y19, y20, (-2), rfl, rfl⟩ (by first | exact mp_fd_ok mp_k_cX10_must_ok (by decide +kernel) | decide +kernel)
    · skip
      refine q_39.elim fun e_45 q_46 => q_46.elim fun c_21 q_47 => q_47.elim fun c_22 q_48 => q_48.elim fun c_23 q_49 => q_49.elim fun x_24 q_50 => q_50.elim fun x_25 q_51 => q_51.elim fun x_26 q_52 => q_52.elim fun x_27 q_53 => q_53.elim fun x_28 q_54 => q_54.elim fun x_29 q_55 => q_55.elim fun x_30 q_56 => q_56.elim fun x_31 q_57 => q_57.elim fun x_32 e_58 => ?_
      clear h_19 q_38 q_39 q_46 q_47 q_48 q_49 q_50 q_51 q_52 q_53 q_54 q_55 q_56 q_57
      subst e_45
      subst e_58
      have c_21 : 0 ≤ x0.toInt := c_21
      have c_22 : x0.toInt ≤ 3 := c_22
      have c_23 : 0 ≤ x1.toInt := c_23
      show mp_W E X 5 21 [(0, .ref a0), (1, .int x0), (2, .int x1), (3, .int x2)] [.int 0] w2_ 0 0
      refine mp_run mp_k_cX10_must_ok hF mp_tabX10_ok [mp_h (.goto 5) [26], mp_i (.istore 4), mp_i (.iload 4), mp_h (.ifCond .eq 6) [36]] (by decide +kernel) ?_
      refine And.intro (fun _ => ?_) (fun c_59 => absurd c_59 (by decide))
      show mp_W E X 5 36 [(4, .int 0), (0, .ref a0), (1, .int x0), (2, .int x1), (3, .int x2)] [] w2_ 0 0
      refine mp_run mp_k_cX10_must_ok hF mp_tabX10_ok [mp_i (.aload_n 0), mp_i (.iload_n 1), mp_i (.iload_n 2)] (by decide +kernel) ?_
      show mp_W E X 5 39 [(4, .int 0), (0, .ref a0), (1, .int x0), (2, .int x1), (3, .int x2)] [.int x1, .int x0, .ref a0] w2_ 0 0
      refine mp_callV hF (As := [.int x0, .int x1]) (rest := []) (wr := [(mp_arI E a1 0 4 f0), (mp_arI E a4 0 25 f3)]) (bX10_laysWays_138 E a0 a2 a3 a5 a1 a6 a7 a8 a4 a9 a10 a11 a12 a13 a14 a15 a16 a17 a18 a19 a20 a21 a22 a23 a24 a25 f1 f2 f4 0 y1 y2 y3 y4 y5 y6 y7 y8 y9 y10 y11 y12 y13 y14 y15 y16 y17 y18 y19 y20 y21 x0 x1 p0 p6 p7 p8 p9 (by (first | exact c_21 | omega)) (by (first | exact c_22 | omega)) (by (first | exact c_23 | omega)) (by (first | exact x_27 | omega)) l_y1 u_y1 l_y2 u_y2 l_y3 u_y3 l_y4 u_y4 l_y11 u_y11 l_y12 u_y12 l_y13 u_y13 (by first | assumption | omega) (by assumption)) mp_lkX10_435 0 rfl [0, 2, 3, 5] [1, 4] rfl rfl rfl rfl rfl ⟨(Nat.le_of_ble_eq_true rfl), (Nat.le_of_ble_eq_true rfl), (Nat.le_of_ble_eq_true rfl), (Nat.le_of_ble_eq_true rfl)⟩ (Nat.le_of_ble_eq_true rfl) (by first | exact mp_fd_ok mp_k_cX10_must_ok (by decide +kernel) | decide +kernel) (fun v_60 w_61 h_62 => ?_)
      refine h_62.elim fun r_63 q_69 => q_69.elim fun r_64 q_70 => q_70.elim fun r_65 q_71 => q_71.elim fun r_66 q_72 => q_72.elim fun e_73 q_74 => q_74.elim fun l_67 q_75 => q_75.elim fun u_68 e_76 => ?_
      clear h_62 q_69 q_70 q_71 q_72 q_74 q_75
      subst e_73
      subst e_76
      let w3_ : va_W := [(mp_arI E a1 0 4 f0), (mp_arI E a4 0 25 f3), (mp_ob10 a0 0 a1 a2 a3 a6 a7 y1 y2 y3 y4 y5 y6 y7 y8 y9 y10 a8 a4 a9 a10 a11 a5 a12 a13 y11 a14 a15 a16 a17 y12 y13 y14 a18 a19 y15 y16 a20 a21 a22 r_63 r_64 r_65 r_66 a23 a24 a25 y21), (mp_arI E a2 0 4 f1), (mp_arL E a3 240 f2), (mp_arI E a5 0 300 f4)]
      show mp_W E X 5 42 [(4, .int 0), (0, .ref a0), (1, .int x0), (2, .int x1), (3, .int x2)] [] w3_ 0 0
      refine mp_run mp_k_cX10_must_ok hF mp_tabX10_ok [mp_i (.aload_n 0), mp_h (.getfield 417) [39, 2], mp_h (.ifCond .ne 7) [53]] (by decide +kernel) ?_
      refine And.intro rfl (And.intro rfl ?_)
      refine And.intro (fun c_77 => ?_) (fun c_77 => ?_)
      · have c_77 : r_63.toInt ≠ 0 := c_77
        show mp_W E X 5 53 [(4, .int 0), (0, .ref a0), (1, .int x0), (2, .int x1), (3, .int x2)] [] w3_ 0 0
        refine mp_run mp_k_cX10_must_ok hF mp_tabX10_ok [mp_i (.iload_n 3), mp_h (.ifCond .ne 10) [64]] (by decide +kernel) ?_
        refine And.intro (fun c_78 => ?_) (fun c_78 => ?_)
        · have c_78 : x2.toInt ≠ 0 := c_78
          show mp_W E X 5 64 [(4, .int 0), (0, .ref a0), (1, .int x0), (2, .int x1), (3, .int x2)] [] w3_ 0 0
          refine mp_run mp_k_cX10_must_ok hF mp_tabX10_ok [mp_i (.aload_n 0), mp_h (.getfield 423) [41, 2]] (by decide +kernel) ?_
          refine And.intro rfl (And.intro rfl ?_)
          show mp_W E X 5 68 [(4, .int 0), (0, .ref a0), (1, .int x0), (2, .int x1), (3, .int x2)] [.int r_65] w3_ 0 0
          exact mp_iret hF hQ rfl rfl (Nat.le_of_ble_eq_true rfl) (Nat.le_of_ble_eq_true rfl) [2, 0, 3, 4, 1, 5] (w' := [(mp_ob10 a0 0 a1 a2 a3 a6 a7 y1 y2 y3 y4 y5 y6 y7 y8 y9 y10 a8 a4 a9 a10 a11 a5 a12 a13 y11 a14 a15 a16 a17 y12 y13 y14 a18 a19 y15 y16 a20 a21 a22 r_63 r_64 r_65 r_66 a23 a24 a25 y21), (mp_arI E a1 0 4 f0), (mp_arI E a2 0 4 f1), (mp_arL E a3 240 f2), (mp_arI E a4 0 25 f3), (mp_arI E a5 0 300 f4)]) rfl rfl ⟨r_63, r_64, r_65, r_66, r_65, rfl, rfl⟩ (by first | exact mp_fd_ok mp_k_cX10_must_ok (by decide +kernel) | decide +kernel)
        · have c_78 : x2.toInt = 0 := (congrArg Int32.toInt c_78)
          show mp_W E X 5 57 [(4, .int 0), (0, .ref a0), (1, .int x0), (2, .int x1), (3, .int x2)] [] w3_ 0 0
          refine mp_run mp_k_cX10_must_ok hF mp_tabX10_ok [mp_i (.aload_n 0), mp_h (.getfield 420) [40, 2], mp_h (.goto 7) [68]] (by decide +kernel) ?_
          refine And.intro rfl (And.intro rfl ?_)
          show mp_W E X 5 68 [(4, .int 0), (0, .ref a0), (1, .int x0), (2, .int x1), (3, .int x2)] [.int r_64] w3_ 0 0
          exact mp_iret hF hQ rfl rfl (Nat.le_of_ble_eq_true rfl) (Nat.le_of_ble_eq_true rfl) [2, 0, 3, 4, 1, 5] (w' := [(mp_ob10 a0 0 a1 a2 a3 a6 a7 y1 y2 y3 y4 y5 y6 y7 y8 y9 y10 a8 a4 a9 a10 a11 a5 a12 a13 y11 a14 a15 a16 a17 y12 y13 y14 a18 a19 y15 y16 a20 a21 a22 r_63 r_64 r_65 r_66 a23 a24 a25 y21), (mp_arI E a1 0 4 f0), (mp_arI E a2 0 4 f1), (mp_arL E a3 240 f2), (mp_arI E a4 0 25 f3), (mp_arI E a5 0 300 f4)]) rfl rfl ⟨r_63, r_64, r_65, r_66, r_64, rfl, rfl⟩ (by first | exact mp_fd_ok mp_k_cX10_must_ok (by decide +kernel) | decide +kernel)
      · have c_77 : r_63.toInt = 0 := (congrArg Int32.toInt c_77)
        show mp_W E X 5 49 [(4, .int 0), (0, .ref a0), (1, .int x0), (2, .int x1), (3, .int x2)] [] w3_ 0 0
        refine mp_run mp_k_cX10_must_ok hF mp_tabX10_ok [mp_c (.iconst 0) 0, mp_h (.goto 18) [68]] (by decide +kernel) ?_
        show mp_W E X 5 68 [(4, .int 0), (0, .ref a0), (1, .int x0), (2, .int x1), (3, .int x2)] [.int 0] w3_ 0 0
        exact mp_iret hF hQ rfl rfl (Nat.le_of_ble_eq_true rfl) (Nat.le_of_ble_eq_true rfl) [2, 0, 3, 4, 1, 5] (w' := [(mp_ob10 a0 0 a1 a2 a3 a6 a7 y1 y2 y3 y4 y5 y6 y7 y8 y9 y10 a8 a4 a9 a10 a11 a5 a12 a13 y11 a14 a15 a16 a17 y12 y13 y14 a18 a19 y15 y16 a20 a21 a22 r_63 r_64 r_65 r_66 a23 a24 a25 y21), (mp_arI E a1 0 4 f0), (mp_arI E a2 0 4 f1), (mp_arL E a3 240 f2), (mp_arI E a4 0 25 f3), (mp_arI E a5 0 300 f4)]) rfl rfl ⟨r_63, r_64, r_65, r_66, 0, rfl, rfl⟩ (by first | exact mp_fd_ok mp_k_cX10_must_ok (by decide +kernel) | decide +kernel)
    · skip
      refine q_40.elim fun e_79 q_80 => q_80.elim fun c_33 q_81 => q_81.elim fun c_34 q_82 => q_82.elim fun c_35 q_83 => q_83.elim fun x_36 e_84 => ?_
      clear h_19 q_38 q_40 q_80 q_81 q_82 q_83
      subst e_79
      subst e_84
      have c_33 : 0 ≤ x0.toInt := c_33
      have c_34 : x0.toInt ≤ 3 := c_34
      have c_35 : 0 ≤ x1.toInt := c_35
      show mp_W E X 5 21 [(0, .ref a0), (1, .int x0), (2, .int x1), (3, .int x2)] [.int (-6)] w2_ 0 0
      refine mp_run mp_k_cX10_must_ok hF mp_tabX10_ok [mp_h (.goto 5) [26], mp_i (.istore 4), mp_i (.iload 4), mp_h (.ifCond .eq 6) [36]] (by decide +kernel) ?_
      refine And.intro (fun c_85 => absurd c_85 (by decide)) (fun _ => ?_)
      show mp_W E X 5 33 [(4, .int (-6)), (0, .ref a0), (1, .int x0), (2, .int x1), (3, .int x2)] [] w2_ 0 0
      refine mp_run mp_k_cX10_must_ok hF mp_tabX10_ok [mp_i (.iload 4)] (by decide +kernel) ?_
      show mp_W E X 5 35 [(4, .int (-6)), (0, .ref a0), (1, .int x0), (2, .int x1), (3, .int x2)] [.int (-6)] w2_ 0 0
      exact mp_iret hF hQ rfl rfl (Nat.le_of_ble_eq_true rfl) (Nat.le_of_ble_eq_true rfl) [0, 1, 2, 3, 4, 5] (w' := w2_) rfl rfl ⟨y17, y18, y19, y20, (-6), rfl, rfl⟩ (by first | exact mp_fd_ok mp_k_cX10_must_ok (by decide +kernel) | decide +kernel)
set_option maxHeartbeats 4000000 in
set_option maxRecDepth 100000 in
theorem bX10_times_141 (E : mp_E) (a0 a1 a2 a3 a4 a5 a6 a7 a8 a9 a10 a11 a12 a13 a14 a15 a16 a17 a18 a19 a20 a21 a22 a23 a24 a25 : Nat) (f0 : Nat → Int32) (f1 : Nat → Int32) (f2 : Nat → Int64) (f3 : Nat → Int32) (f4 : Nat → Int32) (y0 : Int32) (y1 : Int32) (y2 : Int32) (y3 : Int32) (y4 : Int32) (y5 : Int32) (y6 : Int64) (y7 : Int32) (y8 : Int32) (y9 : Int32) (y10 : Int32) (y11 : Int32) (y12 : Int32) (y13 : Int32) (y14 : Int32) (y15 : Int32) (y16 : Int32) (y17 : Int32) (y18 : Int32) (y19 : Int32) (y20 : Int32) (y21 : Int32) (x0 : Int32) (x1 : Int32) (p0 : mp_all f1 4 0 60) (p1 : mp_res f3 25 5 0 0 6) (p2 : mp_res f3 25 5 1 0 99) (p3 : mp_res f3 25 5 2 0 6) (p4 : mp_res f3 25 5 3 0 10) (p5 : mp_res f3 25 5 4 0 60) (p6 : mp_res f4 300 6 0 0 5) (p7 : mp_res f4 300 6 1 0 5) (p8 : mp_res f4 300 6 3 0 99) (p9 : mp_res f4 300 6 4 0 1) (l_y1 : 0 ≤ y1.toInt) (u_y1 : y1.toInt ≤ 1600) (l_y2 : 0 ≤ y2.toInt) (u_y2 : y2.toInt ≤ 1600) (l_y3 : 0 ≤ y3.toInt) (u_y3 : y3.toInt ≤ 4) (l_y4 : 0 ≤ y4.toInt) (u_y4 : y4.toInt ≤ 1600) (l_y11 : 0 ≤ y11.toInt) (u_y11 : y11.toInt ≤ 99) (l_y12 : 0 ≤ y12.toInt) (u_y12 : y12.toInt ≤ 5) (l_y13 : 0 ≤ y13.toInt) (u_y13 : y13.toInt ≤ 12) : mp_Ct E yX10_times cX10_times 4 (some FieldType.int) 4 0 0 93 [.ref a0, .int x0, .int x1] [(mp_ob10 a0 y0 a1 a2 a3 a6 a7 y1 y2 y3 y4 y5 y6 y7 y8 y9 y10 a8 a4 a9 a10 a11 a5 a12 a13 y11 a14 a15 a16 a17 y12 y13 y14 a18 a19 y15 y16 a20 a21 a22 y17 y18 y19 y20 a23 a24 a25 y21), (mp_arI E a1 0 4 f0), (mp_arI E a2 0 4 f1), (mp_arL E a3 240 f2), (mp_arI E a4 0 25 f3), (mp_arI E a5 0 300 f4)] (fun v w' => ∃ r1 : Int32, ∃ r2 : Int32, ∃ r3 : Int32, ∃ r4 : Int32, ∃ r5 : Int32, v = some (.int r5) ∧ w' = [(mp_ob10 a0 0 a1 a2 a3 a6 a7 y1 y2 y3 y4 y5 y6 y7 y8 y9 y10 a8 a4 a9 a10 a11 a5 a12 a13 y11 a14 a15 a16 a17 y12 y13 y14 a18 a19 y15 y16 a20 a21 a22 r1 r2 r3 r4 a23 a24 a25 y21), (mp_arI E a1 0 4 f0), (mp_arI E a2 0 4 f1), (mp_arL E a3 240 f2), (mp_arI E a4 0 25 f3), (mp_arI E a5 0 300 f4)]) := by
  refine mp_met false (by decide) (by decide) (Nat.le_of_ble_eq_true rfl) (fun X hF hQ => ?_)
  have hF : mp_F E X (RX10, cX10_times, 4, (4, 0, 0, 93), (some FieldType.int), false) := hF
  let w1_ : va_W := [(mp_ob10 a0 y0 a1 a2 a3 a6 a7 y1 y2 y3 y4 y5 y6 y7 y8 y9 y10 a8 a4 a9 a10 a11 a5 a12 a13 y11 a14 a15 a16 a17 y12 y13 y14 a18 a19 y15 y16 a20 a21 a22 y17 y18 y19 y20 a23 a24 a25 y21), (mp_arI E a1 0 4 f0), (mp_arI E a2 0 4 f1), (mp_arL E a3 240 f2), (mp_arI E a4 0 25 f3), (mp_arI E a5 0 300 f4)]
  show mp_W E X 4 0 [(0, .ref a0), (1, .int x0), (2, .int x1)] [] w1_ 0 0
  refine mp_run mp_k_cX10_times_ok hF mp_tabX10_ok [mp_i (.aload_n 0), mp_c (.iconst 0) 0, mp_h (.putfield 92) [0, 0]] (by decide +kernel) ?_
  refine And.intro rfl (And.intro rfl (And.intro rfl (And.intro rfl (And.intro (Nat.le_of_ble_eq_true rfl) ?_))))
  let w2_ : va_W := [(mp_ob10 a0 0 a1 a2 a3 a6 a7 y1 y2 y3 y4 y5 y6 y7 y8 y9 y10 a8 a4 a9 a10 a11 a5 a12 a13 y11 a14 a15 a16 a17 y12 y13 y14 a18 a19 y15 y16 a20 a21 a22 y17 y18 y19 y20 a23 a24 a25 y21), (mp_arI E a1 0 4 f0), (mp_arI E a2 0 4 f1), (mp_arL E a3 240 f2), (mp_arI E a4 0 25 f3), (mp_arI E a5 0 300 f4)]
  show mp_W E X 4 5 [(0, .ref a0), (1, .int x0), (2, .int x1)] [] w2_ 0 0
  refine mp_run mp_k_cX10_times_ok hF mp_tabX10_ok [mp_i (.aload_n 0), mp_i (.iload_n 1), mp_i (.iload_n 2)] (by decide +kernel) ?_
  show mp_W E X 4 8 [(0, .ref a0), (1, .int x0), (2, .int x1)] [.int x1, .int x0, .ref a0] w2_ 0 0
  refine mp_callV hF (As := [.int x0, .int x1]) (rest := []) (wr := []) (bX10_whyNot_135 E a0 a1 a2 a3 a4 a5 a6 a7 a8 a9 a10 a11 a12 a13 a14 a15 a16 a17 a18 a19 a20 a21 a22 a23 a24 a25 f0 f1 f2 f3 f4 0 y1 y2 y3 y4 y5 y6 y7 y8 y9 y10 y11 y12 y13 y14 y15 y16 y17 y18 y19 y20 y21 x0 x1 p0 p1 p2 p3 p4 p5 p6 p7 p8 p9 l_y1 u_y1 l_y2 u_y2 l_y3 u_y3 l_y4 u_y4 l_y11 u_y11 l_y12 u_y12 l_y13 u_y13) mp_lkX10_432 0 rfl [0, 1, 2, 3, 4, 5] [] rfl rfl rfl rfl rfl ⟨(Nat.le_of_ble_eq_true rfl), (Nat.le_of_ble_eq_true rfl), (Nat.le_of_ble_eq_true rfl), (Nat.le_of_ble_eq_true rfl)⟩ (Nat.le_of_ble_eq_true rfl) (by first | exact mp_fd_ok mp_k_cX10_times_ok (by decide +kernel) | decide +kernel) (fun v_1 w_2 h_3 => ?_)
  refine h_3.elim (fun q_21 => ?_) (fun q_22 => q_22.elim (fun q_23 => ?_) (fun q_24 => ?_))
  · skip
    refine q_21.elim fun e_25 q_26 => q_26.elim fun x_4 e_27 => ?_
    clear h_3 q_21 q_26
    subst e_25
    subst e_27
    show mp_W E X 4 11 [(0, .ref a0), (1, .int x0), (2, .int x1)] [.int (-2)] w2_ 0 0
    refine mp_run mp_k_cX10_times_ok hF mp_tabX10_ok [mp_i (.istore_n 3), mp_i (.iload_n 3), mp_h (.ifCond .eq 5) [18]] (by decide +kernel) ?_
    refine And.intro (fun c_28 => absurd c_28 (by decide)) (fun _ => ?_)
    show mp_W E X 4 16 [(3, .int (-2)), (0, .ref a0), (1, .int x0), (2, .int x1)] [] w2_ 0 0
    refine mp_run mp_k_cX10_times_ok hF mp_tabX10_ok [mp_i (.iload_n 3)] (by decide +kernel) ?_
    show mp_W E X 4 17 [(3, .int (-2)), (0, .ref a0), (1, .int x0), (2, .int x1)] [.int (-2)] w2_ 0 0
    exact mp_iret hF hQ rfl rfl (Nat.le_of_ble_eq_true rfl) (Nat.le_of_ble_eq_true rfl) [0, 1, 2, 3, 4, 5] (w' := w2_) rfl rfl ⟨y17, y18, y19, y20, (-2), rfl, rfl⟩ (by first | exact mp_fd_ok mp_k_cX10_times_ok (by decide +kernel) | decide +kernel)
  · skip
    refine q_23.elim fun e_29 q_30 => q_30.elim fun c_5 q_31 => q_31.elim fun c_6 q_32 => q_32.elim fun c_7 q_33 => q_33.elim fun x_8 q_34 => q_34.elim fun x_9 q_35 => q_35.elim fun x_10 q_36 => q_36.elim fun x_11 q_37 => q_37.elim fun x_12 q_38 => q_38.elim fun x_13 q_39 => q_39.elim fun x_14 q_40 => q_40.elim fun x_15 q_41 => q_41.elim fun x_16 e_42 => ?_
    clear h_3 q_22 q_23 q_30 q_31 q_32 q_33 q_34 q_35 q_36 q_37 q_38 q_39 q_40 q_41
    subst e_29
    subst e_42
    have c_5 : 0 ≤ x0.toInt := c_5
    have c_6 : x0.toInt ≤ 3 := c_6
    have c_7 : 0 ≤ x1.toInt := c_7
    show mp_W E X 4 11 [(0, .ref a0), (1, .int x0), (2, .int x1)] [.int 0] w2_ 0 0
    refine mp_run mp_k_cX10_times_ok hF mp_tabX10_ok [mp_i (.istore_n 3), mp_i (.iload_n 3), mp_h (.ifCond .eq 5) [18]] (by decide +kernel) ?_
    refine And.intro (fun _ => ?_) (fun c_43 => absurd c_43 (by decide))
    show mp_W E X 4 18 [(3, .int 0), (0, .ref a0), (1, .int x0), (2, .int x1)] [] w2_ 0 0
    refine mp_run mp_k_cX10_times_ok hF mp_tabX10_ok [mp_i (.aload_n 0), mp_i (.iload_n 1), mp_i (.iload_n 2)] (by decide +kernel) ?_
    show mp_W E X 4 21 [(3, .int 0), (0, .ref a0), (1, .int x0), (2, .int x1)] [.int x1, .int x0, .ref a0] w2_ 0 0
    refine mp_callV hF (As := [.int x0, .int x1]) (rest := []) (wr := [(mp_arI E a1 0 4 f0), (mp_arI E a4 0 25 f3)]) (bX10_laysWays_138 E a0 a2 a3 a5 a1 a6 a7 a8 a4 a9 a10 a11 a12 a13 a14 a15 a16 a17 a18 a19 a20 a21 a22 a23 a24 a25 f1 f2 f4 0 y1 y2 y3 y4 y5 y6 y7 y8 y9 y10 y11 y12 y13 y14 y15 y16 y17 y18 y19 y20 y21 x0 x1 p0 p6 p7 p8 p9 (by (first | exact c_5 | omega)) (by (first | exact c_6 | omega)) (by (first | exact c_7 | omega)) (by (first | exact x_11 | omega)) l_y1 u_y1 l_y2 u_y2 l_y3 u_y3 l_y4 u_y4 l_y11 u_y11 l_y12 u_y12 l_y13 u_y13 (by first | assumption | omega) (by assumption)) mp_lkX10_435 0 rfl [0, 2, 3, 5] [1, 4] rfl rfl rfl rfl rfl ⟨(Nat.le_of_ble_eq_true rfl), (Nat.le_of_ble_eq_true rfl), (Nat.le_of_ble_eq_true rfl), (Nat.le_of_ble_eq_true rfl)⟩ (Nat.le_of_ble_eq_true rfl) (by first | exact mp_fd_ok mp_k_cX10_times_ok (by decide +kernel) | decide +kernel) (fun v_44 w_45 h_46 => ?_)
    refine h_46.elim fun r_47 q_53 => q_53.elim fun r_48 q_54 => q_54.elim fun r_49 q_55 => q_55.elim fun r_50 q_56 => q_56.elim fun e_57 q_58 => q_58.elim fun l_51 q_59 => q_59.elim fun u_52 e_60 => ?_
    clear h_46 q_53 q_54 q_55 q_56 q_58 q_59
    subst e_57
    subst e_60
    let w3_ : va_W := [(mp_arI E a1 0 4 f0), (mp_arI E a4 0 25 f3), (mp_ob10 a0 0 a1 a2 a3 a6 a7 y1 y2 y3 y4 y5 y6 y7 y8 y9 y10 a8 a4 a9 a10 a11 a5 a12 a13 y11 a14 a15 a16 a17 y12 y13 y14 a18 a19 y15 y16 a20 a21 a22 r_47 r_48 r_49 r_50 a23 a24 a25 y21), (mp_arI E a2 0 4 f1), (mp_arL E a3 240 f2), (mp_arI E a5 0 300 f4)]
    show mp_W E X 4 24 [(3, .int 0), (0, .ref a0), (1, .int x0), (2, .int x1)] [] w3_ 0 0
    refine mp_run mp_k_cX10_times_ok hF mp_tabX10_ok [mp_i (.aload_n 0), mp_h (.getfield 417) [39, 2], mp_h (.ifCond .ne 7) [35]] (by decide +kernel) ?_
    refine And.intro rfl (And.intro rfl ?_)
    refine And.intro (fun c_61 => ?_) (fun c_61 => ?_)
    · have c_61 : r_47.toInt ≠ 0 := c_61
      show mp_W E X 4 35 [(3, .int 0), (0, .ref a0), (1, .int x0), (2, .int x1)] [] w3_ 0 0
      refine mp_run mp_k_cX10_times_ok hF mp_tabX10_ok [mp_i (.aload_n 0), mp_h (.getfield 426) [42, 2]] (by decide +kernel) ?_
      refine And.intro rfl (And.intro rfl ?_)
      show mp_W E X 4 39 [(3, .int 0), (0, .ref a0), (1, .int x0), (2, .int x1)] [.int r_50] w3_ 0 0
      exact mp_iret hF hQ rfl rfl (Nat.le_of_ble_eq_true rfl) (Nat.le_of_ble_eq_true rfl) [2, 0, 3, 4, 1, 5] (w' := [(mp_ob10 a0 0 a1 a2 a3 a6 a7 y1 y2 y3 y4 y5 y6 y7 y8 y9 y10 a8 a4 a9 a10 a11 a5 a12 a13 y11 a14 a15 a16 a17 y12 y13 y14 a18 a19 y15 y16 a20 a21 a22 r_47 r_48 r_49 r_50 a23 a24 a25 y21), (mp_arI E a1 0 4 f0), (mp_arI E a2 0 4 f1), (mp_arL E a3 240 f2), (mp_arI E a4 0 25 f3), (mp_arI E a5 0 300 f4)]) rfl rfl ⟨r_47, r_48, r_49, r_50, r_50, rfl, rfl⟩ (by first | exact mp_fd_ok mp_k_cX10_times_ok (by decide +kernel) | decide +kernel)
    · have c_61 : r_47.toInt = 0 := (congrArg Int32.toInt c_61)
      show mp_W E X 4 31 [(3, .int 0), (0, .ref a0), (1, .int x0), (2, .int x1)] [] w3_ 0 0
      refine mp_run mp_k_cX10_times_ok hF mp_tabX10_ok [mp_c (.iconst (-1)) (-1), mp_h (.goto 7) [39]] (by decide +kernel) ?_
      show mp_W E X 4 39 [(3, .int 0), (0, .ref a0), (1, .int x0), (2, .int x1)] [.int (-1)] w3_ 0 0
      exact mp_iret hF hQ rfl rfl (Nat.le_of_ble_eq_true rfl) (Nat.le_of_ble_eq_true rfl) [2, 0, 3, 4, 1, 5] (w' := [(mp_ob10 a0 0 a1 a2 a3 a6 a7 y1 y2 y3 y4 y5 y6 y7 y8 y9 y10 a8 a4 a9 a10 a11 a5 a12 a13 y11 a14 a15 a16 a17 y12 y13 y14 a18 a19 y15 y16 a20 a21 a22 r_47 r_48 r_49 r_50 a23 a24 a25 y21), (mp_arI E a1 0 4 f0), (mp_arI E a2 0 4 f1), (mp_arL E a3 240 f2), (mp_arI E a4 0 25 f3), (mp_arI E a5 0 300 f4)]) rfl rfl ⟨r_47, r_48, r_49, r_50, (-1), rfl, rfl⟩ (by first | exact mp_fd_ok mp_k_cX10_times_ok (by decide +kernel) | decide +kernel)
  · skip
    refine q_24.elim fun e_62 q_63 => q_63.elim fun c_17 q_64 => q_64.elim fun c_18 q_65 => q_65.elim fun c_19 q_66 => q_66.elim fun x_20 e_67 => ?_
    clear h_3 q_22 q_24 q_63 q_64 q_65 q_66
    subst e_62
    subst e_67
    have c_17 : 0 ≤ x0.toInt := c_17
    have c_18 : x0.toInt ≤ 3 := c_18
    have c_19 : 0 ≤ x1.toInt := c_19
    show mp_W E X 4 11 [(0, .ref a0), (1, .int x0), (2, .int x1)] [.int (-6)] w2_ 0 0
    refine mp_run mp_k_cX10_times_ok hF mp_tabX10_ok [mp_i (.istore_n 3), mp_i (.iload_n 3), mp_h (.ifCond .eq 5) [18]] (by decide +kernel) ?_
    refine And.intro (fun c_68 => absurd c_68 (by decide)) (fun _ => ?_)
    show mp_W E X 4 16 [(3, .int (-6)), (0, .ref a0), (1, .int x0), (2, .int x1)] [] w2_ 0 0
    refine mp_run mp_k_cX10_times_ok hF mp_tabX10_ok [mp_i (.iload_n 3)] (by decide +kernel) ?_
    show mp_W E X 4 17 [(3, .int (-6)), (0, .ref a0), (1, .int x0), (2, .int x1)] [.int (-6)] w2_ 0 0
    exact mp_iret hF hQ rfl rfl (Nat.le_of_ble_eq_true rfl) (Nat.le_of_ble_eq_true rfl) [0, 1, 2, 3, 4, 5] (w' := w2_) rfl rfl ⟨y17, y18, y19, y20, (-6), rfl, rfl⟩ (by first | exact mp_fd_ok mp_k_cX10_times_ok (by decide +kernel) | decide +kernel)
set_option maxHeartbeats 4000000 in
set_option maxRecDepth 100000 in
theorem bX10_worstOf_142 (E : mp_E) (a0 a1 a2 a3 a4 a5 a6 a7 a8 a9 a10 a11 a12 a13 a14 a15 a16 a17 a18 a19 a20 a21 a22 a23 a24 a25 : Nat) (f0 : Nat → Int32) (f1 : Nat → Int64) (f2 : Nat → Int32) (f3 : Nat → Int32) (f4 : Nat → Int32) (y0 : Int32) (y1 : Int32) (y2 : Int32) (y3 : Int32) (y4 : Int32) (y5 : Int32) (y6 : Int64) (y7 : Int32) (y8 : Int32) (y9 : Int32) (y10 : Int32) (y11 : Int32) (y12 : Int32) (y13 : Int32) (y14 : Int32) (y15 : Int32) (y16 : Int32) (y17 : Int32) (y18 : Int32) (y19 : Int32) (y20 : Int32) (y21 : Int32) (x0 : Int32) (x1 : Int32) (x2 : Int32) (p0 : mp_all f0 4 0 60) (p1 : mp_res f2 300 6 0 0 5) (p2 : mp_res f2 300 6 1 0 5) (p3 : mp_res f2 300 6 3 0 99) (p4 : mp_res f2 300 6 4 0 1) (l_x0 : 0 ≤ x0.toInt) (u_x0 : x0.toInt ≤ 3) (l_x1 : 0 ≤ x1.toInt) (u_x1 : x1.toInt ≤ 9) (l_x2 : 0 ≤ x2.toInt) (u_x2 : x2.toInt ≤ 10) (l_y1 : 0 ≤ y1.toInt) (u_y1 : y1.toInt ≤ 1600) (l_y2 : 0 ≤ y2.toInt) (u_y2 : y2.toInt ≤ 1600) (l_y3 : 0 ≤ y3.toInt) (u_y3 : y3.toInt ≤ 4) (l_y4 : 0 ≤ y4.toInt) (u_y4 : y4.toInt ≤ 1600) (l_y11 : 0 ≤ y11.toInt) (u_y11 : y11.toInt ≤ 99) (l_y12 : 0 ≤ y12.toInt) (u_y12 : y12.toInt ≤ 5) (l_y13 : 0 ≤ y13.toInt) (u_y13 : y13.toInt ≤ 12) (q0 : (f0 x0.toInt.toNat).toInt % 2 = 0) (q1 : mp_wn f1 x0.toInt (f0 x0.toInt.toNat).toInt (f2 (6 * x1.toInt.toNat + 3)).toInt) : mp_Ct E yX10_worstOf cX10_worstOf 9 (some FieldType.int) 3 0 0 70 [.ref a0, .int x0, .int x1, .int x2] [(mp_ob10 a0 y0 a6 a1 a2 a7 a8 y1 y2 y3 y4 y5 y6 y7 y8 y9 y10 a9 a10 a11 a12 a13 a3 a14 a15 y11 a16 a17 a18 a19 y12 y13 y14 a20 a21 y15 y16 a22 a23 a24 y17 y18 y19 y20 a4 a5 a25 y21), (mp_arI E a1 0 4 f0), (mp_arL E a2 240 f1), (mp_arI E a3 0 300 f2), (mp_arI E a4 0 12 f3), (mp_arI E a5 0 12 f4)] (fun v w' => ∃ h1 : Nat → Int32, ∃ h2 : Nat → Int32, ∃ r3 : Int32, v = some (.int r3) ∧ 0 ≤ r3.toInt ∧ w' = [(mp_ob10 a0 y0 a6 a1 a2 a7 a8 y1 y2 y3 y4 y5 y6 y7 y8 y9 y10 a9 a10 a11 a12 a13 a3 a14 a15 y11 a16 a17 a18 a19 y12 y13 y14 a20 a21 y15 y16 a22 a23 a24 y17 y18 y19 y20 a4 a5 a25 y21), (mp_arI E a1 0 4 f0), (mp_arL E a2 240 f1), (mp_arI E a3 0 300 f2), (mp_arI E a4 0 12 h1), (mp_arI E a5 0 12 h2)]) := by
  refine mp_met false (by decide) (by decide) (Nat.le_of_ble_eq_true rfl) (fun X hF hQ => ?_)
  have hF : mp_F E X (RX10, cX10_worstOf, 9, (3, 0, 0, 70), (some FieldType.int), false) := hF
  let w1_ : va_W := [(mp_ob10 a0 y0 a6 a1 a2 a7 a8 y1 y2 y3 y4 y5 y6 y7 y8 y9 y10 a9 a10 a11 a12 a13 a3 a14 a15 y11 a16 a17 a18 a19 y12 y13 y14 a20 a21 y15 y16 a22 a23 a24 y17 y18 y19 y20 a4 a5 a25 y21), (mp_arI E a1 0 4 f0), (mp_arL E a2 240 f1), (mp_arI E a3 0 300 f2), (mp_arI E a4 0 12 f3), (mp_arI E a5 0 12 f4)]
  show mp_W E X 9 0 [(0, .ref a0), (1, .int x0), (2, .int x1), (3, .int x2)] [] w1_ 0 0
  refine mp_run mp_k_cX10_worstOf_ok hF mp_tabX10_ok [mp_c (.iconst 0) 0, mp_i (.istore 4), mp_c (.iconst 0) 0, mp_i (.istore 5), mp_c (.iconst 0) 0, mp_i (.istore 6)] (by decide +kernel) ?_
  show mp_W E X 9 9 [(6, .int 0), (5, .int 0), (4, .int 0), (0, .ref a0), (1, .int x0), (2, .int x1), (3, .int x2)] [] w1_ 0 0
  have lp_11 : ∀ (d_12 : Nat) (i_1 : Int32) (i_2 : Int32) (g_3 : Nat → Int32) (g_4 : Nat → Int32) (i_5 : Int32), 0 ≤ i_1.toInt → i_1.toInt ≤ 1024 → 0 ≤ i_5.toInt → (mp_dw g_4 (f2 (6 * x1.toInt.toNat + 2)) i_2.toInt) → (0 ≤ i_2.toInt) → -(i_1.toInt) + 1024 ≤ (d_12 : Int) → mp_W E X 9 9 [(6, .int i_1), (5, .int i_5), (4, .int i_2), (0, .ref a0), (1, .int x0), (2, .int x1), (3, .int x2)] [] [(mp_ob10 a0 y0 a6 a1 a2 a7 a8 y1 y2 y3 y4 y5 y6 y7 y8 y9 y10 a9 a10 a11 a12 a13 a3 a14 a15 y11 a16 a17 a18 a19 y12 y13 y14 a20 a21 y15 y16 a22 a23 a24 y17 y18 y19 y20 a4 a5 a25 y21), (mp_arI E a1 0 4 f0), (mp_arL E a2 240 f1), (mp_arI E a3 0 300 f2), (mp_arI E a4 0 12 g_3), (mp_arI E a5 0 12 g_4)] 0 0 := by
    intro d_12
    induction d_12 using Nat.strongRecOn with
    | ind d_12 ih_13 =>
      intro i_1 i_2 g_3 g_4 i_5 l_6 u_7 l_8 x_9 x_10 hm_14
      have e_15 := mp_dw_le x_9
      refine mp_run mp_k_cX10_worstOf_ok hF mp_tabX10_ok [mp_i (.iload 6), mp_c (.sipush 1024) 1024, mp_h (.if_icmp .ge 125) [139]] (by decide +kernel) ?_
      refine And.intro (fun c_16 => ?_) (fun c_16 => ?_)
      · have c_16 : 1024 ≤ i_1.toInt := c_16
        let w2_ : va_W := [(mp_ob10 a0 y0 a6 a1 a2 a7 a8 y1 y2 y3 y4 y5 y6 y7 y8 y9 y10 a9 a10 a11 a12 a13 a3 a14 a15 y11 a16 a17 a18 a19 y12 y13 y14 a20 a21 y15 y16 a22 a23 a24 y17 y18 y19 y20 a4 a5 a25 y21), (mp_arI E a1 0 4 f0), (mp_arL E a2 240 f1), (mp_arI E a3 0 300 f2), (mp_arI E a4 0 12 g_3), (mp_arI E a5 0 12 g_4)]
        show mp_W E X 9 139 [(6, .int i_1), (5, .int i_5), (4, .int i_2), (0, .ref a0), (1, .int x0), (2, .int x1), (3, .int x2)] [] w2_ 0 0
        refine mp_run mp_k_cX10_worstOf_ok hF mp_tabX10_ok [mp_i (.iload 5)] (by decide +kernel) ?_
        show mp_W E X 9 141 [(6, .int i_1), (5, .int i_5), (4, .int i_2), (0, .ref a0), (1, .int x0), (2, .int x1), (3, .int x2)] [.int i_5] w2_ 0 0
        exact mp_iret hF hQ rfl rfl (Nat.le_of_ble_eq_true rfl) (Nat.le_of_ble_eq_true rfl) [0, 1, 2, 3, 4, 5] (w' := w2_) rfl rfl ⟨g_3, g_4, i_5, rfl, l_8, rfl⟩ (by first | exact mp_fd_ok mp_k_cX10_worstOf_ok (by decide +kernel) | decide +kernel)
      · have c_16 : i_1.toInt < 1024 := c_16
        let w3_ : va_W := [(mp_ob10 a0 y0 a6 a1 a2 a7 a8 y1 y2 y3 y4 y5 y6 y7 y8 y9 y10 a9 a10 a11 a12 a13 a3 a14 a15 y11 a16 a17 a18 a19 y12 y13 y14 a20 a21 y15 y16 a22 a23 a24 y17 y18 y19 y20 a4 a5 a25 y21), (mp_arI E a1 0 4 f0), (mp_arL E a2 240 f1), (mp_arI E a3 0 300 f2), (mp_arI E a4 0 12 g_3), (mp_arI E a5 0 12 g_4)]
        show mp_W E X 9 17 [(6, .int i_1), (5, .int i_5), (4, .int i_2), (0, .ref a0), (1, .int x0), (2, .int x1), (3, .int x2)] [] w3_ 0 0
        refine mp_run mp_k_cX10_worstOf_ok hF mp_tabX10_ok [mp_i (.aload_n 0), mp_i (.iload_n 1), mp_i (.iload_n 2), mp_i (.iload 6)] (by decide +kernel) ?_
        show mp_W E X 9 22 [(6, .int i_1), (5, .int i_5), (4, .int i_2), (0, .ref a0), (1, .int x0), (2, .int x1), (3, .int x2)] [.int i_1, .int x1, .int x0, .ref a0] w3_ 0 0
        refine mp_callV hF (As := [.int x0, .int x1, .int i_1]) (rest := []) (wr := [(mp_arI E a4 0 12 g_3), (mp_arI E a5 0 12 g_4)]) (bX10_isWay_137 E a0 a1 a2 a3 a6 a7 a8 a9 a10 a11 a12 a13 a14 a15 a16 a17 a18 a19 a20 a21 a22 a23 a24 a4 a5 a25 f0 f1 f2 y0 y1 y2 y3 y4 y5 y6 y7 y8 y9 y10 y11 y12 y13 y14 y15 y16 y17 y18 y19 y20 y21 x0 x1 i_1 p0 p1 p2 p3 p4 l_x0 u_x0 l_x1 u_x1 l_y1 u_y1 l_y2 u_y2 l_y3 u_y3 l_y4 u_y4 l_y11 u_y11 l_y12 u_y12 l_y13 u_y13 (by first | assumption | omega) (by assumption)) mp_lkX10_429 0 rfl [0, 1, 2, 3] [4, 5] rfl rfl rfl rfl rfl ⟨(Nat.le_of_ble_eq_true rfl), (Nat.le_of_ble_eq_true rfl), (Nat.le_of_ble_eq_true rfl), (Nat.le_of_ble_eq_true rfl)⟩ (Nat.le_of_ble_eq_true rfl) (by first | exact mp_fd_ok mp_k_cX10_worstOf_ok (by decide +kernel) | decide +kernel) (fun v_17 w_18 h_19 => ?_)
        rcases h_19 with ⟨rfl, rfl⟩ | ⟨rfl, rfl⟩
        · skip
          let w4_ : va_W := [(mp_arI E a4 0 12 g_3), (mp_arI E a5 0 12 g_4), (mp_ob10 a0 y0 a6 a1 a2 a7 a8 y1 y2 y3 y4 y5 y6 y7 y8 y9 y10 a9 a10 a11 a12 a13 a3 a14 a15 y11 a16 a17 a18 a19 y12 y13 y14 a20 a21 y15 y16 a22 a23 a24 y17 y18 y19 y20 a4 a5 a25 y21), (mp_arI E a1 0 4 f0), (mp_arL E a2 240 f1), (mp_arI E a3 0 300 f2)]
          show mp_W E X 9 25 [(6, .int i_1), (5, .int i_5), (4, .int i_2), (0, .ref a0), (1, .int x0), (2, .int x1), (3, .int x2)] [.int 1] w4_ 0 0
          refine mp_run mp_k_cX10_worstOf_ok hF mp_tabX10_ok [mp_h (.ifCond .ne 6) [31]] (by decide +kernel) ?_
          refine And.intro (fun _ => ?_) (fun c_20 => absurd c_20 (by decide))
          show mp_W E X 9 31 [(6, .int i_1), (5, .int i_5), (4, .int i_2), (0, .ref a0), (1, .int x0), (2, .int x1), (3, .int x2)] [] w4_ 0 0
          refine mp_run mp_k_cX10_worstOf_ok hF mp_tabX10_ok [mp_i (.aload_n 0), mp_i (.iload_n 2), mp_i (.iload 6), mp_i (.iload_n 3)] (by decide +kernel) ?_
          show mp_W E X 9 36 [(6, .int i_1), (5, .int i_5), (4, .int i_2), (0, .ref a0), (1, .int x0), (2, .int x1), (3, .int x2)] [.int x2, .int i_1, .int x1, .ref a0] w4_ 0 0
          refine mp_callV hF (As := [.int x1, .int i_1, .int x2]) (rest := []) (wr := [(mp_arI E a4 0 12 g_3), (mp_arI E a5 0 12 g_4), (mp_arI E a1 0 4 f0), (mp_arL E a2 240 f1)]) (bX10_worthBy_136 E a0 a3 a6 a1 a2 a7 a8 a9 a10 a11 a12 a13 a14 a15 a16 a17 a18 a19 a20 a21 a22 a23 a24 a4 a5 a25 f2 y0 y1 y2 y3 y4 y5 y6 y7 y8 y9 y10 y11 y12 y13 y14 y15 y16 y17 y18 y19 y20 y21 x1 i_1 x2 p1 p2 p3 p4 l_x1 u_x1 l_x2 u_x2 l_y1 u_y1 l_y2 u_y2 l_y3 u_y3 l_y4 u_y4 l_y11 u_y11 l_y12 u_y12 l_y13 u_y13) mp_lkX10_414 2 rfl [2, 5] [0, 1, 3, 4] rfl rfl rfl rfl rfl ⟨(Nat.le_of_ble_eq_true rfl), (Nat.le_of_ble_eq_true rfl), (Nat.le_of_ble_eq_true rfl), (Nat.le_of_ble_eq_true rfl)⟩ (Nat.le_of_ble_eq_true rfl) (by first | exact mp_fd_ok mp_k_cX10_worstOf_ok (by decide +kernel) | decide +kernel) (fun v_21 w_22 h_23 => ?_)
          obtain ⟨r_24, rfl, x_25, rfl⟩ := h_23
          let w5_ : va_W := [(mp_arI E a4 0 12 g_3), (mp_arI E a5 0 12 g_4), (mp_arI E a1 0 4 f0), (mp_arL E a2 240 f1), (mp_ob10 a0 y0 a6 a1 a2 a7 a8 y1 y2 y3 y4 y5 y6 y7 y8 y9 y10 a9 a10 a11 a12 a13 a3 a14 a15 y11 a16 a17 a18 a19 y12 y13 y14 a20 a21 y15 y16 a22 a23 a24 y17 y18 y19 y20 a4 a5 a25 y21), (mp_arI E a3 0 300 f2)]
          show mp_W E X 9 39 [(6, .int i_1), (5, .int i_5), (4, .int i_2), (0, .ref a0), (1, .int x0), (2, .int x1), (3, .int x2)] [.int r_24] w5_ 0 0
          refine mp_run mp_k_cX10_worstOf_ok hF mp_tabX10_ok [mp_i (.istore 7), mp_c (.iconst 0) 0, mp_i (.istore 8)] (by decide +kernel) ?_
          show mp_W E X 9 44 [(8, .int 0), (7, .int r_24), (6, .int i_1), (5, .int i_5), (4, .int i_2), (0, .ref a0), (1, .int x0), (2, .int x1), (3, .int x2)] [] w5_ 0 0
          have lp_31 : ∀ (d_32 : Nat) (i_26 : Int32), 0 ≤ i_26.toInt → i_26.toInt ≤ 12 → (∀ a : Nat, (a : Int) < i_26.toInt → g_4 a ≠ r_24) → (0 ≤ i_26.toInt ∧ i_26.toInt ≤ i_2.toInt) → i_2.toInt - i_26.toInt ≤ (d_32 : Int) → mp_W E X 9 44 [(8, .int i_26), (7, .int r_24), (6, .int i_1), (5, .int i_5), (4, .int i_2), (0, .ref a0), (1, .int x0), (2, .int x1), (3, .int x2)] [] [(mp_arI E a4 0 12 g_3), (mp_arI E a5 0 12 g_4), (mp_arI E a1 0 4 f0), (mp_arL E a2 240 f1), (mp_ob10 a0 y0 a6 a1 a2 a7 a8 y1 y2 y3 y4 y5 y6 y7 y8 y9 y10 a9 a10 a11 a12 a13 a3 a14 a15 y11 a16 a17 a18 a19 y12 y13 y14 a20 a21 y15 y16 a22 a23 a24 y17 y18 y19 y20 a4 a5 a25 y21), (mp_arI E a3 0 300 f2)] 0 0 := by
            intro d_32
            induction d_32 using Nat.strongRecOn with
            | ind d_32 ih_33 =>
              intro i_26 l_27 u_28 x_29 x_30 hm_34
              refine mp_run mp_k_cX10_worstOf_ok hF mp_tabX10_ok [mp_i (.iload 8), mp_i (.iload 4), mp_h (.if_icmp .ge 21) [69]] (by decide +kernel) ?_
              refine And.intro (fun c_35 => ?_) (fun c_35 => ?_)
              · have c_35 : i_2.toInt ≤ i_26.toInt := c_35
                show mp_W E X 9 69 [(8, .int i_26), (7, .int r_24), (6, .int i_1), (5, .int i_5), (4, .int i_2), (0, .ref a0), (1, .int x0), (2, .int x1), (3, .int x2)] [] w5_ 0 0
                refine mp_run mp_k_cX10_worstOf_ok hF mp_tabX10_ok [mp_i (.iload 8), mp_i (.iload 4), mp_h (.if_icmp .ne 23) [96]] (by decide +kernel) ?_
                refine And.intro (fun c_36 => ?_) (fun c_36 => ?_)
                · have c_36 : i_26.toInt ≠ i_2.toInt := c_36
                  show mp_W E X 9 96 [(8, .int i_26), (7, .int r_24), (6, .int i_1), (5, .int i_5), (4, .int i_2), (0, .ref a0), (1, .int x0), (2, .int x1), (3, .int x2)] [] w5_ 0 0
                  refine mp_run mp_k_cX10_worstOf_ok hF mp_tabX10_ok [mp_i (.aload_n 0), mp_h (.getfield 83) [43, 4], mp_i (.iload 8), mp_i .dup2, mp_h .iaload [0], mp_c (.iconst 1) 1, mp_i .iadd, mp_h .iastore [0]] (by decide +kernel) ?_
                  refine And.intro rfl (And.intro rfl ?_)
                  refine And.intro rfl (And.intro rfl (And.intro (vp_in_iff.mpr (by omega)) ?_))
                  intro z_37 h_38
                  intro z_39 h_40
                  have e_41 := mp_bnd z_37
                  refine And.intro rfl (And.intro rfl (And.intro (vp_in_iff.mpr (by omega)) ?_))
                  intro g_43 h_44
                  let w6_ : va_W := [(mp_arI E a4 0 12 g_43), (mp_arI E a5 0 12 g_4), (mp_arI E a1 0 4 f0), (mp_arL E a2 240 f1), (mp_ob10 a0 y0 a6 a1 a2 a7 a8 y1 y2 y3 y4 y5 y6 y7 y8 y9 y10 a9 a10 a11 a12 a13 a3 a14 a15 y11 a16 a17 a18 a19 y12 y13 y14 a20 a21 y15 y16 a22 a23 a24 y17 y18 y19 y20 a4 a5 a25 y21), (mp_arI E a3 0 300 f2)]
                  show mp_W E X 9 107 [(8, .int i_26), (7, .int r_24), (6, .int i_1), (5, .int i_5), (4, .int i_2), (0, .ref a0), (1, .int x0), (2, .int x1), (3, .int x2)] [] w6_ 0 0
                  refine mp_run mp_k_cX10_worstOf_ok hF mp_tabX10_ok [mp_i (.aload_n 0), mp_h (.getfield 83) [43, 4], mp_i (.iload 8), mp_h .iaload [0], mp_i (.iload 5), mp_h (.if_icmp .le 13) [129]] (by decide +kernel) ?_
                  refine And.intro rfl (And.intro rfl ?_)
                  refine And.intro rfl (And.intro rfl (And.intro (vp_in_iff.mpr (by omega)) ?_))
                  intro z_45 h_46
                  refine And.intro (fun c_47 => ?_) (fun c_47 => ?_)
                  · have c_47 : z_45.toInt ≤ i_5.toInt := c_47
                    show mp_W E X 9 129 [(8, .int i_26), (7, .int r_24), (6, .int i_1), (5, .int i_5), (4, .int i_2), (0, .ref a0), (1, .int x0), (2, .int x1), (3, .int x2)] [] w6_ 0 0
                    refine mp_run mp_k_cX10_worstOf_ok hF mp_tabX10_ok [mp_i (.iload 5), mp_i (.istore 5), mp_c (.iinc 6 1) 1, mp_h (.goto (-127)) [9]] (by decide +kernel) ?_
                    intro z_48 h_49
                    have e_50 : z_48.toInt = i_1.toInt + 1 := mp_add (a := i_1.toInt) (b := 1) h_49 rfl (by decide) (by omega) (by omega)
                    show mp_W E X 9 9 [(6, .int z_48), (5, .int i_5), (8, .int i_26), (7, .int r_24), (4, .int i_2), (0, .ref a0), (1, .int x0), (2, .int x1), (3, .int x2)] [] w6_ 0 0
                    exact mp_sub [0, 1, 4, 5, 6, 7, 8] rfl [4, 2, 3, 5, 0, 1] rfl rfl (ih_13 (d_12 - 1) (by omega) z_48 i_2 g_43 g_4 i_5 (by omega) (by omega) l_8 (by first | exact x_9 | exact mp_dw_add x_9 x (by omega) (by omega) x_25 (by rw [show i_26.toInt = i_2.toInt from by omega] at x_29; exact x_29) (by omega)) (by first | (first | exact x_10 | omega) | decide) (by omega))
                  · have c_47 : i_5.toInt < z_45.toInt := c_47
                    show mp_W E X 9 119 [(8, .int i_26), (7, .int r_24), (6, .int i_1), (5, .int i_5), (4, .int i_2), (0, .ref a0), (1, .int x0), (2, .int x1), (3, .int x2)] [] w6_ 0 0
                    refine mp_run mp_k_cX10_worstOf_ok hF mp_tabX10_ok [mp_i (.aload_n 0), mp_h (.getfield 83) [43, 4], mp_i (.iload 8), mp_h .iaload [0], mp_h (.goto 5) [131], mp_i (.istore 5), mp_c (.iinc 6 1) 1, mp_h (.goto (-127)) [9]] (by decide +kernel) ?_
                    refine And.intro rfl (And.intro rfl ?_)
                    refine And.intro rfl (And.intro rfl (And.intro (vp_in_iff.mpr (by omega)) ?_))
                    intro z_51 h_52
                    have k_53 : z_45 = z_51 := h_46.trans h_52.symm
                    subst k_53
                    intro z_54 h_55
                    have e_56 : z_54.toInt = i_1.toInt + 1 := mp_add (a := i_1.toInt) (b := 1) h_55 rfl (by decide) (by omega) (by omega)
                    show mp_W E X 9 9 [(6, .int z_54), (5, .int z_45), (8, .int i_26), (7, .int r_24), (4, .int i_2), (0, .ref a0), (1, .int x0), (2, .int x1), (3, .int x2)] [] w6_ 0 0
                    exact mp_sub [0, 1, 4, 5, 6, 7, 8] rfl [4, 2, 3, 5, 0, 1] rfl rfl (ih_13 (d_12 - 1) (by omega) z_54 i_2 g_43 g_4 z_45 (by omega) (by omega) (by omega) (by first | exact x_9 | exact mp_dw_add x_9 x (by omega) (by omega) x_25 (by rw [show i_26.toInt = i_2.toInt from by omega] at x_29; exact x_29) (by omega)) (by first | (first | exact x_10 | omega) | decide) (by omega))
                · have c_36 : i_26.toInt = i_2.toInt := (congrArg Int32.toInt c_36)
                  show mp_W E X 9 76 [(8, .int i_26), (7, .int r_24), (6, .int i_1), (5, .int i_5), (4, .int i_2), (0, .ref a0), (1, .int x0), (2, .int x1), (3, .int x2)] [] w5_ 0 0
                  have e_57 := mp_dw_new x_9 (by (first | exact x_10 | omega)) x_25 (by rw [show i_26.toInt = i_2.toInt from by (first | exact c_36 | omega)] at x_29; exact x_29) (by omega)
                  refine mp_run mp_k_cX10_worstOf_ok hF mp_tabX10_ok [mp_i (.aload_n 0), mp_h (.getfield 86) [44, 4], mp_i (.iload 8), mp_i (.iload 7), mp_h .iastore [1]] (by decide +kernel) ?_
                  refine And.intro rfl (And.intro rfl ?_)
                  refine And.intro rfl (And.intro rfl (And.intro (vp_in_iff.mpr (by omega)) ?_))
                  intro g_58 h_59
                  let w7_ : va_W := [(mp_arI E a4 0 12 g_3), (mp_arI E a5 0 12 g_58), (mp_arI E a1 0 4 f0), (mp_arL E a2 240 f1), (mp_ob10 a0 y0 a6 a1 a2 a7 a8 y1 y2 y3 y4 y5 y6 y7 y8 y9 y10 a9 a10 a11 a12 a13 a3 a14 a15 y11 a16 a17 a18 a19 y12 y13 y14 a20 a21 y15 y16 a22 a23 a24 y17 y18 y19 y20 a4 a5 a25 y21), (mp_arI E a3 0 300 f2)]
                  show mp_W E X 9 85 [(8, .int i_26), (7, .int r_24), (6, .int i_1), (5, .int i_5), (4, .int i_2), (0, .ref a0), (1, .int x0), (2, .int x1), (3, .int x2)] [] w7_ 0 0
                  refine mp_run mp_k_cX10_worstOf_ok hF mp_tabX10_ok [mp_i (.aload_n 0), mp_h (.getfield 83) [43, 4], mp_i (.iload 8), mp_c (.iconst 0) 0, mp_h .iastore [0]] (by decide +kernel) ?_
                  refine And.intro rfl (And.intro rfl ?_)
                  refine And.intro rfl (And.intro rfl (And.intro (vp_in_iff.mpr (by omega)) ?_))
                  intro g_60 h_61
                  let w8_ : va_W := [(mp_arI E a4 0 12 g_60), (mp_arI E a5 0 12 g_58), (mp_arI E a1 0 4 f0), (mp_arL E a2 240 f1), (mp_ob10 a0 y0 a6 a1 a2 a7 a8 y1 y2 y3 y4 y5 y6 y7 y8 y9 y10 a9 a10 a11 a12 a13 a3 a14 a15 y11 a16 a17 a18 a19 y12 y13 y14 a20 a21 y15 y16 a22 a23 a24 y17 y18 y19 y20 a4 a5 a25 y21), (mp_arI E a3 0 300 f2)]
                  show mp_W E X 9 93 [(8, .int i_26), (7, .int r_24), (6, .int i_1), (5, .int i_5), (4, .int i_2), (0, .ref a0), (1, .int x0), (2, .int x1), (3, .int x2)] [] w8_ 0 0
                  refine mp_run mp_k_cX10_worstOf_ok hF mp_tabX10_ok [mp_c (.iinc 4 1) 1, mp_i (.aload_n 0), mp_h (.getfield 83) [43, 4], mp_i (.iload 8), mp_i .dup2, mp_h .iaload [0], mp_c (.iconst 1) 1, mp_i .iadd, mp_h .iastore [0]] (by decide +kernel) ?_
                  intro z_62 h_63
                  have e_64 : z_62.toInt = i_2.toInt + 1 := mp_add (a := i_2.toInt) (b := 1) h_63 rfl (by decide) (by omega) (by omega)
                  refine And.intro rfl (And.intro rfl ?_)
                  refine And.intro rfl (And.intro rfl (And.intro (vp_in_iff.mpr (by omega)) ?_))
                  intro z_65 h_66
                  intro z_67 h_68
                  have e_69 := mp_bnd z_65
                  refine And.intro rfl (And.intro rfl (And.intro (vp_in_iff.mpr (by omega)) ?_))
                  intro g_71 h_72
                  let w9_ : va_W := [(mp_arI E a4 0 12 g_71), (mp_arI E a5 0 12 g_58), (mp_arI E a1 0 4 f0), (mp_arL E a2 240 f1), (mp_ob10 a0 y0 a6 a1 a2 a7 a8 y1 y2 y3 y4 y5 y6 y7 y8 y9 y10 a9 a10 a11 a12 a13 a3 a14 a15 y11 a16 a17 a18 a19 y12 y13 y14 a20 a21 y15 y16 a22 a23 a24 y17 y18 y19 y20 a4 a5 a25 y21), (mp_arI E a3 0 300 f2)]
                  show mp_W E X 9 107 [(4, .int z_62), (8, .int i_26), (7, .int r_24), (6, .int i_1), (5, .int i_5), (0, .ref a0), (1, .int x0), (2, .int x1), (3, .int x2)] [] w9_ 0 0
                  refine mp_run mp_k_cX10_worstOf_ok hF mp_tabX10_ok [mp_i (.aload_n 0), mp_h (.getfield 83) [43, 4], mp_i (.iload 8), mp_h .iaload [0], mp_i (.iload 5), mp_h (.if_icmp .le 13) [129]] (by decide +kernel) ?_
                  refine And.intro rfl (And.intro rfl ?_)
                  refine And.intro rfl (And.intro rfl (And.intro (vp_in_iff.mpr (by omega)) ?_))
                  intro z_73 h_74
                  refine And.intro (fun c_75 => ?_) (fun c_75 => ?_)
                  · have c_75 : z_73.toInt ≤ i_5.toInt := c_75
                    show mp_W E X 9 129 [(4, .int z_62), (8, .int i_26), (7, .int r_24), (6, .int i_1), (5, .int i_5), (0, .ref a0), (1, .int x0), (2, .int x1), (3, .int x2)] [] w9_ 0 0
                    refine mp_run mp_k_cX10_worstOf_ok hF mp_tabX10_ok [mp_i (.iload 5), mp_i (.istore 5), mp_c (.iinc 6 1) 1, mp_h (.goto (-127)) [9]] (by decide +kernel) ?_
                    intro z_76 h_77
                    have e_78 : z_76.toInt = i_1.toInt + 1 := mp_add (a := i_1.toInt) (b := 1) h_77 rfl (by decide) (by omega) (by omega)
                    show mp_W E X 9 9 [(6, .int z_76), (5, .int i_5), (4, .int z_62), (8, .int i_26), (7, .int r_24), (0, .ref a0), (1, .int x0), (2, .int x1), (3, .int x2)] [] w9_ 0 0
                    exact mp_sub [0, 1, 2, 5, 6, 7, 8] rfl [4, 2, 3, 5, 0, 1] rfl rfl (ih_13 (d_12 - 1) (by omega) z_76 z_62 g_71 g_58 i_5 (by omega) (by omega) l_8 (by first | exact x_9 | exact mp_dw_add x_9 h_59 (by (first | exact c_36 | omega)) (by (first | exact x_10 | omega)) x_25 (by rw [show i_26.toInt = i_2.toInt from by (first | exact c_36 | omega)] at x_29; exact x_29) (by (first | exact e_64 | omega))) (by first | omega | decide) (by omega))
                  · have c_75 : i_5.toInt < z_73.toInt := c_75
                    show mp_W E X 9 119 [(4, .int z_62), (8, .int i_26), (7, .int r_24), (6, .int i_1), (5, .int i_5), (0, .ref a0), (1, .int x0), (2, .int x1), (3, .int x2)] [] w9_ 0 0
                    refine mp_run mp_k_cX10_worstOf_ok hF mp_tabX10_ok [mp_i (.aload_n 0), mp_h (.getfield 83) [43, 4], mp_i (.iload 8), mp_h .iaload [0], mp_h (.goto 5) [131], mp_i (.istore 5), mp_c (.iinc 6 1) 1, mp_h (.goto (-127)) [9]] (by decide +kernel) ?_
                    refine And.intro rfl (And.intro rfl ?_)
                    refine And.intro rfl (And.intro rfl (And.intro (vp_in_iff.mpr (by omega)) ?_))
                    intro z_79 h_80
                    have k_81 : z_73 = z_79 := h_74.trans h_80.symm
                    subst k_81
                    intro z_82 h_83
                    have e_84 : z_82.toInt = i_1.toInt + 1 := mp_add (a := i_1.toInt) (b := 1) h_83 rfl (by decide) (by omega) (by omega)
                    show mp_W E X 9 9 [(6, .int z_82), (5, .int z_73), (4, .int z_62), (8, .int i_26), (7, .int r_24), (0, .ref a0), (1, .int x0), (2, .int x1), (3, .int x2)] [] w9_ 0 0
                    exact mp_sub [0, 1, 2, 5, 6, 7, 8] rfl [4, 2, 3, 5, 0, 1] rfl rfl (ih_13 (d_12 - 1) (by omega) z_82 z_62 g_71 g_58 z_73 (by omega) (by omega) (by omega) (by first | exact x_9 | exact mp_dw_add x_9 h_59 (by (first | exact c_36 | omega)) (by (first | exact x_10 | omega)) x_25 (by rw [show i_26.toInt = i_2.toInt from by (first | exact c_36 | omega)] at x_29; exact x_29) (by (first | exact e_64 | omega))) (by first | omega | decide) (by omega))
              · have c_35 : i_26.toInt < i_2.toInt := c_35
                show mp_W E X 9 51 [(8, .int i_26), (7, .int r_24), (6, .int i_1), (5, .int i_5), (4, .int i_2), (0, .ref a0), (1, .int x0), (2, .int x1), (3, .int x2)] [] w5_ 0 0
                refine mp_run mp_k_cX10_worstOf_ok hF mp_tabX10_ok [mp_i (.aload_n 0), mp_h (.getfield 86) [44, 4], mp_i (.iload 8), mp_h .iaload [1], mp_i (.iload 7), mp_h (.if_icmp .eq 9) [69]] (by decide +kernel) ?_
                refine And.intro rfl (And.intro rfl ?_)
                refine And.intro rfl (And.intro rfl (And.intro (vp_in_iff.mpr (by omega)) ?_))
                intro z_85 h_86
                refine And.intro (fun c_87 => ?_) (fun c_87 => ?_)
                · have c_87 : z_85.toInt = r_24.toInt := (congrArg Int32.toInt c_87)
                  show mp_W E X 9 69 [(8, .int i_26), (7, .int r_24), (6, .int i_1), (5, .int i_5), (4, .int i_2), (0, .ref a0), (1, .int x0), (2, .int x1), (3, .int x2)] [] w5_ 0 0
                  refine mp_run mp_k_cX10_worstOf_ok hF mp_tabX10_ok [mp_i (.iload 8), mp_i (.iload 4), mp_h (.if_icmp .ne 23) [96]] (by decide +kernel) ?_
                  refine And.intro (fun c_88 => ?_) (fun c_88 => ?_)
                  · have c_88 : i_26.toInt ≠ i_2.toInt := c_88
                    show mp_W E X 9 96 [(8, .int i_26), (7, .int r_24), (6, .int i_1), (5, .int i_5), (4, .int i_2), (0, .ref a0), (1, .int x0), (2, .int x1), (3, .int x2)] [] w5_ 0 0
                    refine mp_run mp_k_cX10_worstOf_ok hF mp_tabX10_ok [mp_i (.aload_n 0), mp_h (.getfield 83) [43, 4], mp_i (.iload 8), mp_i .dup2, mp_h .iaload [0], mp_c (.iconst 1) 1, mp_i .iadd, mp_h .iastore [0]] (by decide +kernel) ?_
                    refine And.intro rfl (And.intro rfl ?_)
                    refine And.intro rfl (And.intro rfl (And.intro (vp_in_iff.mpr (by omega)) ?_))
                    intro z_89 h_90
                    intro z_91 h_92
                    have e_93 := mp_bnd z_89
                    refine And.intro rfl (And.intro rfl (And.intro (vp_in_iff.mpr (by omega)) ?_))
                    intro g_95 h_96
                    let w10_ : va_W := [(mp_arI E a4 0 12 g_95), (mp_arI E a5 0 12 g_4), (mp_arI E a1 0 4 f0), (mp_arL E a2 240 f1), (mp_ob10 a0 y0 a6 a1 a2 a7 a8 y1 y2 y3 y4 y5 y6 y7 y8 y9 y10 a9 a10 a11 a12 a13 a3 a14 a15 y11 a16 a17 a18 a19 y12 y13 y14 a20 a21 y15 y16 a22 a23 a24 y17 y18 y19 y20 a4 a5 a25 y21), (mp_arI E a3 0 300 f2)]
                    show mp_W E X 9 107 [(8, .int i_26), (7, .int r_24), (6, .int i_1), (5, .int i_5), (4, .int i_2), (0, .ref a0), (1, .int x0), (2, .int x1), (3, .int x2)] [] w10_ 0 0
                    refine mp_run mp_k_cX10_worstOf_ok hF mp_tabX10_ok [mp_i (.aload_n 0), mp_h (.getfield 83) [43, 4], mp_i (.iload 8), mp_h .iaload [0], mp_i (.iload 5), mp_h (.if_icmp .le 13) [129]] (by decide +kernel) ?_
                    refine And.intro rfl (And.intro rfl ?_)
                    refine And.intro rfl (And.intro rfl (And.intro (vp_in_iff.mpr (by omega)) ?_))
                    intro z_97 h_98
                    refine And.intro (fun c_99 => ?_) (fun c_99 => ?_)
                    · have c_99 : z_97.toInt ≤ i_5.toInt := c_99
                      show mp_W E X 9 129 [(8, .int i_26), (7, .int r_24), (6, .int i_1), (5, .int i_5), (4, .int i_2), (0, .ref a0), (1, .int x0), (2, .int x1), (3, .int x2)] [] w10_ 0 0
                      refine mp_run mp_k_cX10_worstOf_ok hF mp_tabX10_ok [mp_i (.iload 5), mp_i (.istore 5), mp_c (.iinc 6 1) 1, mp_h (.goto (-127)) [9]] (by decide +kernel) ?_
                      intro z_100 h_101
                      have e_102 : z_100.toInt = i_1.toInt + 1 := mp_add (a := i_1.toInt) (b := 1) h_101 rfl (by decide) (by omega) (by omega)
                      show mp_W E X 9 9 [(6, .int z_100), (5, .int i_5), (8, .int i_26), (7, .int r_24), (4, .int i_2), (0, .ref a0), (1, .int x0), (2, .int x1), (3, .int x2)] [] w10_ 0 0
                      exact mp_sub [0, 1, 4, 5, 6, 7, 8] rfl [4, 2, 3, 5, 0, 1] rfl rfl (ih_13 (d_12 - 1) (by omega) z_100 i_2 g_95 g_4 i_5 (by omega) (by omega) l_8 (by first | exact x_9 | exact mp_dw_add x_9 x (by omega) (by omega) x_25 (by rw [show i_26.toInt = i_2.toInt from by omega] at x_29; exact x_29) (by omega)) (by first | (first | exact x_10 | omega) | decide) (by omega))
                    · have c_99 : i_5.toInt < z_97.toInt := c_99
                      show mp_W E X 9 119 [(8, .int i_26), (7, .int r_24), (6, .int i_1), (5, .int i_5), (4, .int i_2), (0, .ref a0), (1, .int x0), (2, .int x1), (3, .int x2)] [] w10_ 0 0
                      refine mp_run mp_k_cX10_worstOf_ok hF mp_tabX10_ok [mp_i (.aload_n 0), mp_h (.getfield 83) [43, 4], mp_i (.iload 8), mp_h .iaload [0], mp_h (.goto 5) [131], mp_i (.istore 5), mp_c (.iinc 6 1) 1, mp_h (.goto (-127)) [9]] (by decide +kernel) ?_
                      refine And.intro rfl (And.intro rfl ?_)
                      refine And.intro rfl (And.intro rfl (And.intro (vp_in_iff.mpr (by omega)) ?_))
                      intro z_103 h_104
                      have k_105 : z_97 = z_103 := h_98.trans h_104.symm
                      subst k_105
                      intro z_106 h_107
                      have e_108 : z_106.toInt = i_1.toInt + 1 := mp_add (a := i_1.toInt) (b := 1) h_107 rfl (by decide) (by omega) (by omega)
                      show mp_W E X 9 9 [(6, .int z_106), (5, .int z_97), (8, .int i_26), (7, .int r_24), (4, .int i_2), (0, .ref a0), (1, .int x0), (2, .int x1), (3, .int x2)] [] w10_ 0 0
                      exact mp_sub [0, 1, 4, 5, 6, 7, 8] rfl [4, 2, 3, 5, 0, 1] rfl rfl (ih_13 (d_12 - 1) (by omega) z_106 i_2 g_95 g_4 z_97 (by omega) (by omega) (by omega) (by first | exact x_9 | exact mp_dw_add x_9 x (by omega) (by omega) x_25 (by rw [show i_26.toInt = i_2.toInt from by omega] at x_29; exact x_29) (by omega)) (by first | (first | exact x_10 | omega) | decide) (by omega))
                  · have c_88 : i_26.toInt = i_2.toInt := (congrArg Int32.toInt c_88)
                    show mp_W E X 9 76 [(8, .int i_26), (7, .int r_24), (6, .int i_1), (5, .int i_5), (4, .int i_2), (0, .ref a0), (1, .int x0), (2, .int x1), (3, .int x2)] [] w5_ 0 0
                    have e_109 := mp_dw_new x_9 (by (first | exact x_10 | omega)) x_25 (by rw [show i_26.toInt = i_2.toInt from by (first | exact c_88 | omega)] at x_29; exact x_29) (by omega)
                    refine mp_run mp_k_cX10_worstOf_ok hF mp_tabX10_ok [mp_i (.aload_n 0), mp_h (.getfield 86) [44, 4], mp_i (.iload 8), mp_i (.iload 7), mp_h .iastore [1]] (by decide +kernel) ?_
                    refine And.intro rfl (And.intro rfl ?_)
                    refine And.intro rfl (And.intro rfl (And.intro (vp_in_iff.mpr (by omega)) ?_))
                    intro g_110 h_111
                    let w11_ : va_W := [(mp_arI E a4 0 12 g_3), (mp_arI E a5 0 12 g_110), (mp_arI E a1 0 4 f0), (mp_arL E a2 240 f1), (mp_ob10 a0 y0 a6 a1 a2 a7 a8 y1 y2 y3 y4 y5 y6 y7 y8 y9 y10 a9 a10 a11 a12 a13 a3 a14 a15 y11 a16 a17 a18 a19 y12 y13 y14 a20 a21 y15 y16 a22 a23 a24 y17 y18 y19 y20 a4 a5 a25 y21), (mp_arI E a3 0 300 f2)]
                    show mp_W E X 9 85 [(8, .int i_26), (7, .int r_24), (6, .int i_1), (5, .int i_5), (4, .int i_2), (0, .ref a0), (1, .int x0), (2, .int x1), (3, .int x2)] [] w11_ 0 0
                    refine mp_run mp_k_cX10_worstOf_ok hF mp_tabX10_ok [mp_i (.aload_n 0), mp_h (.getfield 83) [43, 4], mp_i (.iload 8), mp_c (.iconst 0) 0, mp_h .iastore [0]] (by decide +kernel) ?_
                    refine And.intro rfl (And.intro rfl ?_)
                    refine And.intro rfl (And.intro rfl (And.intro (vp_in_iff.mpr (by omega)) ?_))
                    intro g_112 h_113
                    let w12_ : va_W := [(mp_arI E a4 0 12 g_112), (mp_arI E a5 0 12 g_110), (mp_arI E a1 0 4 f0), (mp_arL E a2 240 f1), (mp_ob10 a0 y0 a6 a1 a2 a7 a8 y1 y2 y3 y4 y5 y6 y7 y8 y9 y10 a9 a10 a11 a12 a13 a3 a14 a15 y11 a16 a17 a18 a19 y12 y13 y14 a20 a21 y15 y16 a22 a23 a24 y17 y18 y19 y20 a4 a5 a25 y21), (mp_arI E a3 0 300 f2)]
                    show mp_W E X 9 93 [(8, .int i_26), (7, .int r_24), (6, .int i_1), (5, .int i_5), (4, .int i_2), (0, .ref a0), (1, .int x0), (2, .int x1), (3, .int x2)] [] w12_ 0 0
                    refine mp_run mp_k_cX10_worstOf_ok hF mp_tabX10_ok [mp_c (.iinc 4 1) 1, mp_i (.aload_n 0), mp_h (.getfield 83) [43, 4], mp_i (.iload 8), mp_i .dup2, mp_h .iaload [0], mp_c (.iconst 1) 1, mp_i .iadd, mp_h .iastore [0]] (by decide +kernel) ?_
                    intro z_114 h_115
                    have e_116 : z_114.toInt = i_2.toInt + 1 := mp_add (a := i_2.toInt) (b := 1) h_115 rfl (by decide) (by omega) (by omega)
                    refine And.intro rfl (And.intro rfl ?_)
                    refine And.intro rfl (And.intro rfl (And.intro (vp_in_iff.mpr (by omega)) ?_))
                    intro z_117 h_118
                    intro z_119 h_120
                    have e_121 := mp_bnd z_117
                    refine And.intro rfl (And.intro rfl (And.intro (vp_in_iff.mpr (by omega)) ?_))
                    intro g_123 h_124
                    let w13_ : va_W := [(mp_arI E a4 0 12 g_123), (mp_arI E a5 0 12 g_110), (mp_arI E a1 0 4 f0), (mp_arL E a2 240 f1), (mp_ob10 a0 y0 a6 a1 a2 a7 a8 y1 y2 y3 y4 y5 y6 y7 y8 y9 y10 a9 a10 a11 a12 a13 a3 a14 a15 y11 a16 a17 a18 a19 y12 y13 y14 a20 a21 y15 y16 a22 a23 a24 y17 y18 y19 y20 a4 a5 a25 y21), (mp_arI E a3 0 300 f2)]
                    show mp_W E X 9 107 [(4, .int z_114), (8, .int i_26), (7, .int r_24), (6, .int i_1), (5, .int i_5), (0, .ref a0), (1, .int x0), (2, .int x1), (3, .int x2)] [] w13_ 0 0
                    refine mp_run mp_k_cX10_worstOf_ok hF mp_tabX10_ok [mp_i (.aload_n 0), mp_h (.getfield 83) [43, 4], mp_i (.iload 8), mp_h .iaload [0], mp_i (.iload 5), mp_h (.if_icmp .le 13) [129]] (by decide +kernel) ?_
                    refine And.intro rfl (And.intro rfl ?_)
                    refine And.intro rfl (And.intro rfl (And.intro (vp_in_iff.mpr (by omega)) ?_))
                    intro z_125 h_126
                    refine And.intro (fun c_127 => ?_) (fun c_127 => ?_)
                    · have c_127 : z_125.toInt ≤ i_5.toInt := c_127
                      show mp_W E X 9 129 [(4, .int z_114), (8, .int i_26), (7, .int r_24), (6, .int i_1), (5, .int i_5), (0, .ref a0), (1, .int x0), (2, .int x1), (3, .int x2)] [] w13_ 0 0
                      refine mp_run mp_k_cX10_worstOf_ok hF mp_tabX10_ok [mp_i (.iload 5), mp_i (.istore 5), mp_c (.iinc 6 1) 1, mp_h (.goto (-127)) [9]] (by decide +kernel) ?_
                      intro z_128 h_129
                      have e_130 : z_128.toInt = i_1.toInt + 1 := mp_add (a := i_1.toInt) (b := 1) h_129 rfl (by decide) (by omega) (by omega)
                      show mp_W E X 9 9 [(6, .int z_128), (5, .int i_5), (4, .int z_114), (8, .int i_26), (7, .int r_24), (0, .ref a0), (1, .int x0), (2, .int x1), (3, .int x2)] [] w13_ 0 0
                      exact mp_sub [0, 1, 2, 5, 6, 7, 8] rfl [4, 2, 3, 5, 0, 1] rfl rfl (ih_13 (d_12 - 1) (by omega) z_128 z_114 g_123 g_110 i_5 (by omega) (by omega) l_8 (by first | exact x_9 | exact mp_dw_add x_9 h_111 (by (first | exact c_88 | omega)) (by (first | exact x_10 | omega)) x_25 (by rw [show i_26.toInt = i_2.toInt from by (first | exact c_88 | omega)] at x_29; exact x_29) (by (first | exact e_116 | omega))) (by first | omega | decide) (by omega))
                    · have c_127 : i_5.toInt < z_125.toInt := c_127
                      show mp_W E X 9 119 [(4, .int z_114), (8, .int i_26), (7, .int r_24), (6, .int i_1), (5, .int i_5), (0, .ref a0), (1, .int x0), (2, .int x1), (3, .int x2)] [] w13_ 0 0
                      refine mp_run mp_k_cX10_worstOf_ok hF mp_tabX10_ok [mp_i (.aload_n 0), mp_h (.getfield 83) [43, 4], mp_i (.iload 8), mp_h .iaload [0], mp_h (.goto 5) [131], mp_i (.istore 5), mp_c (.iinc 6 1) 1, mp_h (.goto (-127)) [9]] (by decide +kernel) ?_
                      refine And.intro rfl (And.intro rfl ?_)
                      refine And.intro rfl (And.intro rfl (And.intro (vp_in_iff.mpr (by omega)) ?_))
                      intro z_131 h_132
                      have k_133 : z_125 = z_131 := h_126.trans h_132.symm
                      subst k_133
                      intro z_134 h_135
                      have e_136 : z_134.toInt = i_1.toInt + 1 := mp_add (a := i_1.toInt) (b := 1) h_135 rfl (by decide) (by omega) (by omega)
                      show mp_W E X 9 9 [(6, .int z_134), (5, .int z_125), (4, .int z_114), (8, .int i_26), (7, .int r_24), (0, .ref a0), (1, .int x0), (2, .int x1), (3, .int x2)] [] w13_ 0 0
                      exact mp_sub [0, 1, 2, 5, 6, 7, 8] rfl [4, 2, 3, 5, 0, 1] rfl rfl (ih_13 (d_12 - 1) (by omega) z_134 z_114 g_123 g_110 z_125 (by omega) (by omega) (by omega) (by first | exact x_9 | exact mp_dw_add x_9 h_111 (by (first | exact c_88 | omega)) (by (first | exact x_10 | omega)) x_25 (by rw [show i_26.toInt = i_2.toInt from by (first | exact c_88 | omega)] at x_29; exact x_29) (by (first | exact e_116 | omega))) (by first | omega | decide) (by omega))
                · have c_87 : z_85.toInt ≠ r_24.toInt := c_87
                  show mp_W E X 9 63 [(8, .int i_26), (7, .int r_24), (6, .int i_1), (5, .int i_5), (4, .int i_2), (0, .ref a0), (1, .int x0), (2, .int x1), (3, .int x2)] [] w5_ 0 0
                  refine mp_run mp_k_cX10_worstOf_ok hF mp_tabX10_ok [mp_c (.iinc 8 1) 1, mp_h (.goto (-22)) [44]] (by decide +kernel) ?_
                  intro z_137 h_138
                  have e_139 : z_137.toInt = i_26.toInt + 1 := mp_add (a := i_26.toInt) (b := 1) h_138 rfl (by decide) (by omega) (by omega)
                  show mp_W E X 9 44 [(8, .int z_137), (7, .int r_24), (6, .int i_1), (5, .int i_5), (4, .int i_2), (0, .ref a0), (1, .int x0), (2, .int x1), (3, .int x2)] [] w5_ 0 0
                  exact mp_sub [0, 1, 2, 3, 4, 5, 6, 7, 8] rfl [0, 1, 2, 3, 4, 5] rfl rfl (ih_33 (d_32 - 1) (by omega) z_137 (by omega) (by omega) (mp_ne_s x_29 h_86 (by (first | exact c_87 | omega)) (by (first | exact l_27 | omega)) (by (first | exact e_139 | omega))) (by omega) (by omega))
          exact mp_sub [0, 1, 2, 3, 4, 5, 6, 7, 8] rfl [0, 1, 2, 3, 4, 5] rfl rfl (lp_31 _ 0 (by decide) (by decide) (fun a ha => absurd ha (by have h8 : ((0 : Int32).toInt) = 0 := rfl; omega)) (by first | fail | exact ⟨by decide, by first | fail | (show (0 : Int) ≤ _; (first | exact x_10 | omega))⟩) (Int.self_le_toNat _))
        · skip
          let w14_ : va_W := [(mp_arI E a4 0 12 g_3), (mp_arI E a5 0 12 g_4), (mp_ob10 a0 y0 a6 a1 a2 a7 a8 y1 y2 y3 y4 y5 y6 y7 y8 y9 y10 a9 a10 a11 a12 a13 a3 a14 a15 y11 a16 a17 a18 a19 y12 y13 y14 a20 a21 y15 y16 a22 a23 a24 y17 y18 y19 y20 a4 a5 a25 y21), (mp_arI E a1 0 4 f0), (mp_arL E a2 240 f1), (mp_arI E a3 0 300 f2)]
          show mp_W E X 9 25 [(6, .int i_1), (5, .int i_5), (4, .int i_2), (0, .ref a0), (1, .int x0), (2, .int x1), (3, .int x2)] [.int 0] w14_ 0 0
          refine mp_run mp_k_cX10_worstOf_ok hF mp_tabX10_ok [mp_h (.ifCond .ne 6) [31]] (by decide +kernel) ?_
          refine And.intro (fun c_140 => absurd c_140 (by decide)) (fun _ => ?_)
          show mp_W E X 9 28 [(6, .int i_1), (5, .int i_5), (4, .int i_2), (0, .ref a0), (1, .int x0), (2, .int x1), (3, .int x2)] [] w14_ 0 0
          refine mp_run mp_k_cX10_worstOf_ok hF mp_tabX10_ok [mp_h (.goto 105) [133], mp_c (.iinc 6 1) 1, mp_h (.goto (-127)) [9]] (by decide +kernel) ?_
          intro z_141 h_142
          have e_143 : z_141.toInt = i_1.toInt + 1 := mp_add (a := i_1.toInt) (b := 1) h_142 rfl (by decide) (by (first | exact mp_o1005 l_6 u_7 c_16 | omega)) (by (first | exact mp_o1006 l_6 u_7 c_16 | omega))
          show mp_W E X 9 9 [(6, .int z_141), (5, .int i_5), (4, .int i_2), (0, .ref a0), (1, .int x0), (2, .int x1), (3, .int x2)] [] w14_ 0 0
          exact mp_sub [0, 1, 2, 3, 4, 5, 6] rfl [2, 3, 4, 5, 0, 1] rfl rfl (ih_13 (d_12 - 1) (by (first | exact mp_o1007 l_6 u_7 hm_14 c_16 e_143 | omega)) z_141 i_2 g_3 g_4 i_5 (by (first | exact mp_o1008 l_6 u_7 c_16 e_143 | omega)) (by (first | exact mp_o1009 l_6 u_7 c_16 e_143 | omega)) l_8 (by first | exact x_9 | exact mp_dw_add x_9 x (by omega) (by omega) x (by rw [show 0 = i_2.toInt from by omega] at x_29; exact x_29) (by omega)) (by first | (first | exact x_10 | omega) | decide) (by (first | exact mp_o1010 l_6 u_7 hm_14 c_16 e_143 | omega)))
  exact mp_sub [0, 1, 2, 3, 4, 5, 6] rfl [0, 1, 2, 3, 4, 5] rfl rfl (lp_11 _ 0 0 f3 f4 0 (by decide) (by decide) (by decide) (mp_dw_0 (by decide)) (by decide) (Int.self_le_toNat _))
set_option maxHeartbeats 4000000 in
set_option maxRecDepth 100000 in
theorem bX10_weigh_143 (E : mp_E) (a0 a1 a2 a3 a4 a5 a6 a7 a8 a9 a10 a11 a12 a13 a14 a15 a16 a17 a18 a19 a20 a21 a22 a23 a24 a25 : Nat) (f0 : Nat → Int32) (f1 : Nat → Int32) (f2 : Nat → Int64) (f3 : Nat → Int32) (f4 : Nat → Int32) (f5 : Nat → Int32) (f6 : Nat → Int32) (y0 : Int32) (y1 : Int32) (y2 : Int32) (y3 : Int32) (y4 : Int32) (y5 : Int32) (y6 : Int64) (y7 : Int32) (y8 : Int32) (y9 : Int32) (y10 : Int32) (y11 : Int32) (y12 : Int32) (y13 : Int32) (y14 : Int32) (y15 : Int32) (y16 : Int32) (y17 : Int32) (y18 : Int32) (y19 : Int32) (y20 : Int32) (y21 : Int32) (x0 : Int32) (x1 : Int32) (p0 : mp_all f1 4 0 60) (p1 : mp_res f3 25 5 0 0 6) (p2 : mp_res f3 25 5 1 0 99) (p3 : mp_res f3 25 5 2 0 6) (p4 : mp_res f3 25 5 3 0 10) (p5 : mp_res f3 25 5 4 0 60) (p6 : mp_res f4 300 6 0 0 5) (p7 : mp_res f4 300 6 1 0 5) (p8 : mp_res f4 300 6 3 0 99) (p9 : mp_res f4 300 6 4 0 1) (l_y1 : 0 ≤ y1.toInt) (u_y1 : y1.toInt ≤ 1600) (l_y2 : 0 ≤ y2.toInt) (u_y2 : y2.toInt ≤ 1600) (l_y3 : 0 ≤ y3.toInt) (u_y3 : y3.toInt ≤ 4) (l_y4 : 0 ≤ y4.toInt) (u_y4 : y4.toInt ≤ 1600) (l_y11 : 0 ≤ y11.toInt) (u_y11 : y11.toInt ≤ 99) (l_y12 : 0 ≤ y12.toInt) (u_y12 : y12.toInt ≤ 5) (l_y13 : 0 ≤ y13.toInt) (u_y13 : y13.toInt ≤ 12) : mp_Ct E yX10_weigh cX10_weigh 8 (some FieldType.int) 4 0 0 98 [.ref a0, .int x0, .int x1] [(mp_ob10 a0 y0 a1 a2 a3 a8 a9 y1 y2 y3 y4 y5 y6 y7 y8 y9 y10 a10 a4 a11 a12 a13 a5 a14 a15 y11 a16 a17 a18 a19 y12 y13 y14 a20 a21 y15 y16 a22 a23 a24 y17 y18 y19 y20 a6 a7 a25 y21), (mp_arI E a1 0 4 f0), (mp_arI E a2 0 4 f1), (mp_arL E a3 240 f2), (mp_arI E a4 0 25 f3), (mp_arI E a5 0 300 f4), (mp_arI E a6 0 12 f5), (mp_arI E a7 0 12 f6)] (fun v w' => ∃ r1 : Int32, ∃ r2 : Int32, ∃ r3 : Int32, ∃ r4 : Int32, ∃ h5 : Nat → Int32, ∃ h6 : Nat → Int32, ∃ r7 : Int32, v = some (.int r7) ∧ (-6) ≤ r7.toInt ∧ r7.toInt ≤ 240 ∧ w' = [(mp_ob10 a0 0 a1 a2 a3 a8 a9 y1 y2 y3 y4 y5 y6 y7 y8 y9 y10 a10 a4 a11 a12 a13 a5 a14 a15 y11 a16 a17 a18 a19 y12 y13 y14 a20 a21 y15 y16 a22 a23 a24 r1 r2 r3 r4 a6 a7 a25 y21), (mp_arI E a1 0 4 f0), (mp_arI E a2 0 4 f1), (mp_arL E a3 240 f2), (mp_arI E a4 0 25 f3), (mp_arI E a5 0 300 f4), (mp_arI E a6 0 12 h5), (mp_arI E a7 0 12 h6)]) := by
  refine mp_met false (by decide) (by decide) (Nat.le_of_ble_eq_true rfl) (fun X hF hQ => ?_)
  have hF : mp_F E X (RX10, cX10_weigh, 8, (4, 0, 0, 98), (some FieldType.int), false) := hF
  let w1_ : va_W := [(mp_ob10 a0 y0 a1 a2 a3 a8 a9 y1 y2 y3 y4 y5 y6 y7 y8 y9 y10 a10 a4 a11 a12 a13 a5 a14 a15 y11 a16 a17 a18 a19 y12 y13 y14 a20 a21 y15 y16 a22 a23 a24 y17 y18 y19 y20 a6 a7 a25 y21), (mp_arI E a1 0 4 f0), (mp_arI E a2 0 4 f1), (mp_arL E a3 240 f2), (mp_arI E a4 0 25 f3), (mp_arI E a5 0 300 f4), (mp_arI E a6 0 12 f5), (mp_arI E a7 0 12 f6)]
  show mp_W E X 8 0 [(0, .ref a0), (1, .int x0), (2, .int x1)] [] w1_ 0 0
  refine mp_run mp_k_cX10_weigh_ok hF mp_tabX10_ok [mp_i (.aload_n 0), mp_c (.iconst 0) 0, mp_h (.putfield 92) [0, 0]] (by decide +kernel) ?_
  refine And.intro rfl (And.intro rfl (And.intro rfl (And.intro rfl (And.intro (Nat.le_of_ble_eq_true rfl) ?_))))
  let w2_ : va_W := [(mp_ob10 a0 0 a1 a2 a3 a8 a9 y1 y2 y3 y4 y5 y6 y7 y8 y9 y10 a10 a4 a11 a12 a13 a5 a14 a15 y11 a16 a17 a18 a19 y12 y13 y14 a20 a21 y15 y16 a22 a23 a24 y17 y18 y19 y20 a6 a7 a25 y21), (mp_arI E a1 0 4 f0), (mp_arI E a2 0 4 f1), (mp_arL E a3 240 f2), (mp_arI E a4 0 25 f3), (mp_arI E a5 0 300 f4), (mp_arI E a6 0 12 f5), (mp_arI E a7 0 12 f6)]
  show mp_W E X 8 5 [(0, .ref a0), (1, .int x0), (2, .int x1)] [] w2_ 0 0
  refine mp_run mp_k_cX10_weigh_ok hF mp_tabX10_ok [mp_i (.aload_n 0), mp_i (.iload_n 1), mp_i (.iload_n 2)] (by decide +kernel) ?_
  show mp_W E X 8 8 [(0, .ref a0), (1, .int x0), (2, .int x1)] [.int x1, .int x0, .ref a0] w2_ 0 0
  refine mp_callV hF (As := [.int x0, .int x1]) (rest := []) (wr := [(mp_arI E a6 0 12 f5), (mp_arI E a7 0 12 f6)]) (bX10_whyNot_135 E a0 a1 a2 a3 a4 a5 a8 a9 a10 a11 a12 a13 a14 a15 a16 a17 a18 a19 a20 a21 a22 a23 a24 a6 a7 a25 f0 f1 f2 f3 f4 0 y1 y2 y3 y4 y5 y6 y7 y8 y9 y10 y11 y12 y13 y14 y15 y16 y17 y18 y19 y20 y21 x0 x1 p0 p1 p2 p3 p4 p5 p6 p7 p8 p9 l_y1 u_y1 l_y2 u_y2 l_y3 u_y3 l_y4 u_y4 l_y11 u_y11 l_y12 u_y12 l_y13 u_y13) mp_lkX10_432 0 rfl [0, 1, 2, 3, 4, 5] [6, 7] rfl rfl rfl rfl rfl ⟨(Nat.le_of_ble_eq_true rfl), (Nat.le_of_ble_eq_true rfl), (Nat.le_of_ble_eq_true rfl), (Nat.le_of_ble_eq_true rfl)⟩ (Nat.le_of_ble_eq_true rfl) (by first | exact mp_fd_ok mp_k_cX10_weigh_ok (by decide +kernel) | decide +kernel) (fun v_1 w_2 h_3 => ?_)
  refine h_3.elim (fun q_21 => ?_) (fun q_22 => q_22.elim (fun q_23 => ?_) (fun q_24 => ?_))
  · skip
    refine q_21.elim fun e_25 q_26 => q_26.elim fun x_4 e_27 => ?_
    clear h_3 q_21 q_26
    subst e_25
    subst e_27
    let w3_ : va_W := [(mp_arI E a6 0 12 f5), (mp_arI E a7 0 12 f6), (mp_ob10 a0 0 a1 a2 a3 a8 a9 y1 y2 y3 y4 y5 y6 y7 y8 y9 y10 a10 a4 a11 a12 a13 a5 a14 a15 y11 a16 a17 a18 a19 y12 y13 y14 a20 a21 y15 y16 a22 a23 a24 y17 y18 y19 y20 a6 a7 a25 y21), (mp_arI E a1 0 4 f0), (mp_arI E a2 0 4 f1), (mp_arL E a3 240 f2), (mp_arI E a4 0 25 f3), (mp_arI E a5 0 300 f4)]
    show mp_W E X 8 11 [(0, .ref a0), (1, .int x0), (2, .int x1)] [.int (-2)] w3_ 0 0
    refine mp_run mp_k_cX10_weigh_ok hF mp_tabX10_ok [mp_i (.istore_n 3), mp_i (.iload_n 3), mp_h (.ifCond .eq 5) [18]] (by decide +kernel) ?_
    refine And.intro (fun c_28 => absurd c_28 (by decide)) (fun _ => ?_)
    show mp_W E X 8 16 [(3, .int (-2)), (0, .ref a0), (1, .int x0), (2, .int x1)] [] w3_ 0 0
    refine mp_run mp_k_cX10_weigh_ok hF mp_tabX10_ok [mp_i (.iload_n 3)] (by decide +kernel) ?_
    show mp_W E X 8 17 [(3, .int (-2)), (0, .ref a0), (1, .int x0), (2, .int x1)] [.int (-2)] w3_ 0 0
    exact mp_iret hF hQ rfl rfl (Nat.le_of_ble_eq_true rfl) (Nat.le_of_ble_eq_true rfl) [2, 3, 4, 5, 6, 7, 0, 1] (w' := w2_) rfl rfl ⟨y17, y18, y19, y20, f5, f6, (-2), rfl, (by decide), (by decide), rfl⟩ (by first | exact mp_fd_ok mp_k_cX10_weigh_ok (by decide +kernel) | decide +kernel)
  · skip
    refine q_23.elim fun e_29 q_30 => q_30.elim fun c_5 q_31 => q_31.elim fun c_6 q_32 => q_32.elim fun c_7 q_33 => q_33.elim fun x_8 q_34 => q_34.elim fun x_9 q_35 => q_35.elim fun x_10 q_36 => q_36.elim fun x_11 q_37 => q_37.elim fun x_12 q_38 => q_38.elim fun x_13 q_39 => q_39.elim fun x_14 q_40 => q_40.elim fun x_15 q_41 => q_41.elim fun x_16 e_42 => ?_
    clear h_3 q_22 q_23 q_30 q_31 q_32 q_33 q_34 q_35 q_36 q_37 q_38 q_39 q_40 q_41
    subst e_29
    subst e_42
    have c_5 : 0 ≤ x0.toInt := c_5
    have c_6 : x0.toInt ≤ 3 := c_6
    have c_7 : 0 ≤ x1.toInt := c_7
    let w4_ : va_W := [(mp_arI E a6 0 12 f5), (mp_arI E a7 0 12 f6), (mp_ob10 a0 0 a1 a2 a3 a8 a9 y1 y2 y3 y4 y5 y6 y7 y8 y9 y10 a10 a4 a11 a12 a13 a5 a14 a15 y11 a16 a17 a18 a19 y12 y13 y14 a20 a21 y15 y16 a22 a23 a24 y17 y18 y19 y20 a6 a7 a25 y21), (mp_arI E a1 0 4 f0), (mp_arI E a2 0 4 f1), (mp_arL E a3 240 f2), (mp_arI E a4 0 25 f3), (mp_arI E a5 0 300 f4)]
    show mp_W E X 8 11 [(0, .ref a0), (1, .int x0), (2, .int x1)] [.int 0] w4_ 0 0
    refine mp_run mp_k_cX10_weigh_ok hF mp_tabX10_ok [mp_i (.istore_n 3), mp_i (.iload_n 3), mp_h (.ifCond .eq 5) [18]] (by decide +kernel) ?_
    refine And.intro (fun _ => ?_) (fun c_43 => absurd c_43 (by decide))
    show mp_W E X 8 18 [(3, .int 0), (0, .ref a0), (1, .int x0), (2, .int x1)] [] w4_ 0 0
    refine mp_run mp_k_cX10_weigh_ok hF mp_tabX10_ok [mp_i (.aload_n 0), mp_i (.iload_n 1), mp_i (.iload_n 2)] (by decide +kernel) ?_
    show mp_W E X 8 21 [(3, .int 0), (0, .ref a0), (1, .int x0), (2, .int x1)] [.int x1, .int x0, .ref a0] w4_ 0 0
    refine mp_callV hF (As := [.int x0, .int x1]) (rest := []) (wr := [(mp_arI E a6 0 12 f5), (mp_arI E a7 0 12 f6), (mp_arI E a1 0 4 f0), (mp_arI E a4 0 25 f3)]) (bX10_laysWays_138 E a0 a2 a3 a5 a1 a8 a9 a10 a4 a11 a12 a13 a14 a15 a16 a17 a18 a19 a20 a21 a22 a23 a24 a6 a7 a25 f1 f2 f4 0 y1 y2 y3 y4 y5 y6 y7 y8 y9 y10 y11 y12 y13 y14 y15 y16 y17 y18 y19 y20 y21 x0 x1 p0 p6 p7 p8 p9 (by (first | exact c_5 | omega)) (by (first | exact c_6 | omega)) (by (first | exact c_7 | omega)) (by (first | exact x_11 | omega)) l_y1 u_y1 l_y2 u_y2 l_y3 u_y3 l_y4 u_y4 l_y11 u_y11 l_y12 u_y12 l_y13 u_y13 (by first | assumption | omega) (by assumption)) mp_lkX10_435 2 rfl [2, 4, 5, 7] [0, 1, 3, 6] rfl rfl rfl rfl rfl ⟨(Nat.le_of_ble_eq_true rfl), (Nat.le_of_ble_eq_true rfl), (Nat.le_of_ble_eq_true rfl), (Nat.le_of_ble_eq_true rfl)⟩ (Nat.le_of_ble_eq_true rfl) (by first | exact mp_fd_ok mp_k_cX10_weigh_ok (by decide +kernel) | decide +kernel) (fun v_44 w_45 h_46 => ?_)
    refine h_46.elim fun r_47 q_53 => q_53.elim fun r_48 q_54 => q_54.elim fun r_49 q_55 => q_55.elim fun r_50 q_56 => q_56.elim fun e_57 q_58 => q_58.elim fun l_51 q_59 => q_59.elim fun u_52 e_60 => ?_
    clear h_46 q_53 q_54 q_55 q_56 q_58 q_59
    subst e_57
    subst e_60
    let w5_ : va_W := [(mp_arI E a6 0 12 f5), (mp_arI E a7 0 12 f6), (mp_arI E a1 0 4 f0), (mp_arI E a4 0 25 f3), (mp_ob10 a0 0 a1 a2 a3 a8 a9 y1 y2 y3 y4 y5 y6 y7 y8 y9 y10 a10 a4 a11 a12 a13 a5 a14 a15 y11 a16 a17 a18 a19 y12 y13 y14 a20 a21 y15 y16 a22 a23 a24 r_47 r_48 r_49 r_50 a6 a7 a25 y21), (mp_arI E a2 0 4 f1), (mp_arL E a3 240 f2), (mp_arI E a5 0 300 f4)]
    show mp_W E X 8 24 [(3, .int 0), (0, .ref a0), (1, .int x0), (2, .int x1)] [] w5_ 0 0
    refine mp_run mp_k_cX10_weigh_ok hF mp_tabX10_ok [mp_c (.iconst (-1)) (-1), mp_i (.istore 4), mp_i (.aload_n 0), mp_h (.getfield 417) [39, 4], mp_i (.istore 5), mp_c (.iconst 1) 1, mp_i (.istore 6)] (by decide +kernel) ?_
    refine And.intro rfl (And.intro rfl ?_)
    show mp_W E X 8 36 [(6, .int 1), (5, .int r_47), (4, .int (-1)), (3, .int 0), (0, .ref a0), (1, .int x0), (2, .int x1)] [] w5_ 0 0
    have lp_70 : ∀ (d_71 : Nat) (i_61 : Int32) (i_62 : Int32) (i_63 : Int32) (g_64 : Nat → Int32) (g_65 : Nat → Int32), 1 ≤ i_61.toInt → i_61.toInt ≤ 12 → (-1) ≤ i_63.toInt → i_63.toInt ≤ 240 → -(i_61.toInt) + 11 ≤ (d_71 : Int) → mp_W E X 8 36 [(6, .int i_61), (5, .int i_62), (4, .int i_63), (3, .int 0), (0, .ref a0), (1, .int x0), (2, .int x1)] [] [(mp_arI E a6 0 12 g_64), (mp_arI E a7 0 12 g_65), (mp_arI E a1 0 4 f0), (mp_arI E a4 0 25 f3), (mp_ob10 a0 0 a1 a2 a3 a8 a9 y1 y2 y3 y4 y5 y6 y7 y8 y9 y10 a10 a4 a11 a12 a13 a5 a14 a15 y11 a16 a17 a18 a19 y12 y13 y14 a20 a21 y15 y16 a22 a23 a24 r_47 r_48 r_49 r_50 a6 a7 a25 y21), (mp_arI E a2 0 4 f1), (mp_arL E a3 240 f2), (mp_arI E a5 0 300 f4)] 0 0 := by
      intro d_71
      induction d_71 using Nat.strongRecOn with
      | ind d_71 ih_72 =>
        intro i_61 i_62 i_63 g_64 g_65 l_66 u_67 l_68 u_69 hm_73
        refine mp_run mp_k_cX10_weigh_ok hF mp_tabX10_ok [mp_i (.iload 6), mp_c (.bipush 10) 10, mp_h (.if_icmp .gt 44) [84]] (by decide +kernel) ?_
        refine And.intro (fun c_74 => ?_) (fun c_74 => ?_)
        · have c_74 : 10 < i_61.toInt := c_74
          let w6_ : va_W := [(mp_arI E a6 0 12 g_64), (mp_arI E a7 0 12 g_65), (mp_arI E a1 0 4 f0), (mp_arI E a4 0 25 f3), (mp_ob10 a0 0 a1 a2 a3 a8 a9 y1 y2 y3 y4 y5 y6 y7 y8 y9 y10 a10 a4 a11 a12 a13 a5 a14 a15 y11 a16 a17 a18 a19 y12 y13 y14 a20 a21 y15 y16 a22 a23 a24 r_47 r_48 r_49 r_50 a6 a7 a25 y21), (mp_arI E a2 0 4 f1), (mp_arL E a3 240 f2), (mp_arI E a5 0 300 f4)]
          show mp_W E X 8 84 [(6, .int i_61), (5, .int i_62), (4, .int i_63), (3, .int 0), (0, .ref a0), (1, .int x0), (2, .int x1)] [] w6_ 0 0
          refine mp_run mp_k_cX10_weigh_ok hF mp_tabX10_ok [mp_i (.iload 4)] (by decide +kernel) ?_
          show mp_W E X 8 86 [(6, .int i_61), (5, .int i_62), (4, .int i_63), (3, .int 0), (0, .ref a0), (1, .int x0), (2, .int x1)] [.int i_63] w6_ 0 0
          exact mp_iret hF hQ rfl rfl (Nat.le_of_ble_eq_true rfl) (Nat.le_of_ble_eq_true rfl) [4, 2, 5, 6, 3, 7, 0, 1] (w' := [(mp_ob10 a0 0 a1 a2 a3 a8 a9 y1 y2 y3 y4 y5 y6 y7 y8 y9 y10 a10 a4 a11 a12 a13 a5 a14 a15 y11 a16 a17 a18 a19 y12 y13 y14 a20 a21 y15 y16 a22 a23 a24 r_47 r_48 r_49 r_50 a6 a7 a25 y21), (mp_arI E a1 0 4 f0), (mp_arI E a2 0 4 f1), (mp_arL E a3 240 f2), (mp_arI E a4 0 25 f3), (mp_arI E a5 0 300 f4), (mp_arI E a6 0 12 g_64), (mp_arI E a7 0 12 g_65)]) rfl rfl ⟨r_47, r_48, r_49, r_50, g_64, g_65, i_63, rfl, (by (first | exact mp_o1050 l_68 u_69 | omega)), u_69, rfl⟩ (by first | exact mp_fd_ok mp_k_cX10_weigh_ok (by decide +kernel) | decide +kernel)
        · have c_74 : i_61.toInt ≤ 10 := c_74
          let w7_ : va_W := [(mp_arI E a6 0 12 g_64), (mp_arI E a7 0 12 g_65), (mp_arI E a1 0 4 f0), (mp_arI E a4 0 25 f3), (mp_ob10 a0 0 a1 a2 a3 a8 a9 y1 y2 y3 y4 y5 y6 y7 y8 y9 y10 a10 a4 a11 a12 a13 a5 a14 a15 y11 a16 a17 a18 a19 y12 y13 y14 a20 a21 y15 y16 a22 a23 a24 r_47 r_48 r_49 r_50 a6 a7 a25 y21), (mp_arI E a2 0 4 f1), (mp_arL E a3 240 f2), (mp_arI E a5 0 300 f4)]
          show mp_W E X 8 43 [(6, .int i_61), (5, .int i_62), (4, .int i_63), (3, .int 0), (0, .ref a0), (1, .int x0), (2, .int x1)] [] w7_ 0 0
          refine mp_run mp_k_cX10_weigh_ok hF mp_tabX10_ok [mp_i (.aload_n 0), mp_i (.iload_n 1), mp_i (.iload_n 2), mp_i (.iload 6)] (by decide +kernel) ?_
          show mp_W E X 8 48 [(6, .int i_61), (5, .int i_62), (4, .int i_63), (3, .int 0), (0, .ref a0), (1, .int x0), (2, .int x1)] [.int i_61, .int x1, .int x0, .ref a0] w7_ 0 0
          refine mp_callV hF (As := [.int x0, .int x1, .int i_61]) (rest := []) (wr := [(mp_arI E a1 0 4 f0), (mp_arI E a4 0 25 f3)]) (bX10_worstOf_142 E a0 a2 a3 a5 a6 a7 a1 a8 a9 a10 a4 a11 a12 a13 a14 a15 a16 a17 a18 a19 a20 a21 a22 a23 a24 a25 f1 f2 f4 g_64 g_65 0 y1 y2 y3 y4 y5 y6 y7 y8 y9 y10 y11 y12 y13 y14 y15 y16 r_47 r_48 r_49 r_50 y21 x0 x1 i_61 p0 p6 p7 p8 p9 (by (first | exact c_5 | omega)) (by (first | exact c_6 | omega)) (by (first | exact c_7 | omega)) (by (first | exact x_11 | omega)) (by (first | exact mp_o1039 l_66 u_67 c_74 | omega)) (by (first | exact c_74 | omega)) l_y1 u_y1 l_y2 u_y2 l_y3 u_y3 l_y4 u_y4 l_y11 u_y11 l_y12 u_y12 l_y13 u_y13 (by first | assumption | omega) (by assumption)) mp_lkX10_438 4 rfl [4, 5, 6, 7, 0, 1] [2, 3] rfl rfl rfl rfl rfl ⟨(Nat.le_of_ble_eq_true rfl), (Nat.le_of_ble_eq_true rfl), (Nat.le_of_ble_eq_true rfl), (Nat.le_of_ble_eq_true rfl)⟩ (Nat.le_of_ble_eq_true rfl) (by first | exact mp_fd_ok mp_k_cX10_weigh_ok (by decide +kernel) | decide +kernel) (fun v_75 w_76 h_77 => ?_)
          refine h_77.elim fun g_78 q_82 => q_82.elim fun g_79 q_83 => q_83.elim fun r_80 q_84 => q_84.elim fun e_85 q_86 => q_86.elim fun l_81 e_87 => ?_
          clear h_77 q_82 q_83 q_84 q_86
          subst e_85
          subst e_87
          let w8_ : va_W := [(mp_arI E a1 0 4 f0), (mp_arI E a4 0 25 f3), (mp_ob10 a0 0 a1 a2 a3 a8 a9 y1 y2 y3 y4 y5 y6 y7 y8 y9 y10 a10 a4 a11 a12 a13 a5 a14 a15 y11 a16 a17 a18 a19 y12 y13 y14 a20 a21 y15 y16 a22 a23 a24 r_47 r_48 r_49 r_50 a6 a7 a25 y21), (mp_arI E a2 0 4 f1), (mp_arL E a3 240 f2), (mp_arI E a5 0 300 f4), (mp_arI E a6 0 12 g_78), (mp_arI E a7 0 12 g_79)]
          show mp_W E X 8 51 [(6, .int i_61), (5, .int i_62), (4, .int i_63), (3, .int 0), (0, .ref a0), (1, .int x0), (2, .int x1)] [.int r_80] w8_ 0 0
          refine mp_run mp_k_cX10_weigh_ok hF mp_tabX10_ok [mp_i (.istore 7), mp_i (.iload 7), mp_i (.iload 5), mp_h (.if_icmp .lt 6) [63]] (by decide +kernel) ?_
          refine And.intro (fun c_88 => ?_) (fun c_88 => ?_)
          · have c_88 : r_80.toInt < i_62.toInt := c_88
            show mp_W E X 8 63 [(7, .int r_80), (6, .int i_61), (5, .int i_62), (4, .int i_63), (3, .int 0), (0, .ref a0), (1, .int x0), (2, .int x1)] [] w8_ 0 0
            refine mp_run mp_k_cX10_weigh_ok hF mp_tabX10_ok [mp_i (.aload_n 0), mp_i (.iload_n 2), mp_c (.iconst 3) 3] (by decide +kernel) ?_
            show mp_W E X 8 66 [(7, .int r_80), (6, .int i_61), (5, .int i_62), (4, .int i_63), (3, .int 0), (0, .ref a0), (1, .int x0), (2, .int x1)] [.int 3, .int x1, .ref a0] w8_ 0 0
            refine mp_callV hF (As := [.int x1, .int 3]) (rest := []) (wr := [(mp_arI E a1 0 4 f0), (mp_arI E a4 0 25 f3), (mp_arI E a2 0 4 f1), (mp_arL E a3 240 f2), (mp_arI E a6 0 12 g_78), (mp_arI E a7 0 12 g_79)]) (bX10_of_63 E a0 a5 a1 a2 a3 a8 a9 a10 a4 a11 a12 a13 a14 a15 a16 a17 a18 a19 a20 a21 a22 a23 a24 a6 a7 a25 f4 0 y1 y2 y3 y4 y5 y6 y7 y8 y9 y10 y11 y12 y13 y14 y15 y16 r_47 r_48 r_49 r_50 y21 x1 p6 p7 p8 p9 (by (first | exact c_7 | omega)) (by (first | exact x_11 | omega)) l_y1 u_y1 l_y2 u_y2 l_y3 u_y3 l_y4 u_y4 l_y11 u_y11 l_y12 u_y12 l_y13 u_y13) mp_lkX10_267 2 rfl [2, 5] [0, 1, 3, 4, 6, 7] rfl rfl rfl rfl rfl ⟨(Nat.le_of_ble_eq_true rfl), (Nat.le_of_ble_eq_true rfl), (Nat.le_of_ble_eq_true rfl), (Nat.le_of_ble_eq_true rfl)⟩ (Nat.le_of_ble_eq_true rfl) (by first | exact mp_fd_ok mp_k_cX10_weigh_ok (by decide +kernel) | decide +kernel) (fun v_89 w_90 h_91 => ?_)
            refine h_91.elim fun r_92 q_96 => q_96.elim fun e_97 q_98 => q_98.elim fun l_93 q_99 => q_99.elim fun u_94 q_100 => q_100.elim fun x_95 e_101 => ?_
            clear h_91 q_96 q_98 q_99 q_100
            subst e_97
            subst e_101
            let w9_ : va_W := [(mp_arI E a1 0 4 f0), (mp_arI E a4 0 25 f3), (mp_arI E a2 0 4 f1), (mp_arL E a3 240 f2), (mp_arI E a6 0 12 g_78), (mp_arI E a7 0 12 g_79), (mp_ob10 a0 0 a1 a2 a3 a8 a9 y1 y2 y3 y4 y5 y6 y7 y8 y9 y10 a10 a4 a11 a12 a13 a5 a14 a15 y11 a16 a17 a18 a19 y12 y13 y14 a20 a21 y15 y16 a22 a23 a24 r_47 r_48 r_49 r_50 a6 a7 a25 y21), (mp_arI E a5 0 300 f4)]
            show mp_W E X 8 69 [(7, .int r_80), (6, .int i_61), (5, .int i_62), (4, .int i_63), (3, .int 0), (0, .ref a0), (1, .int x0), (2, .int x1)] [.int r_92] w9_ 0 0
            refine mp_run mp_k_cX10_weigh_ok hF mp_tabX10_ok [mp_i (.iload 6), mp_i .iadd, mp_i (.istore 4), mp_i (.iload 7), mp_i (.istore 5), mp_c (.iinc 6 1) 1, mp_h (.goto (-45)) [36]] (by decide +kernel) ?_
            intro z_102 h_103
            have e_104 : z_102.toInt = r_92.toInt + i_61.toInt := mp_add (a := r_92.toInt) (b := i_61.toInt) h_103 rfl rfl (by (first | exact mp_o2537 l_66 u_67 c_74 l_93 u_94 x_95 | omega)) (by (first | exact mp_o2538 l_66 u_67 c_74 l_93 u_94 x_95 | omega))
            intro z_105 h_106
            have e_107 : z_105.toInt = i_61.toInt + 1 := mp_add (a := i_61.toInt) (b := 1) h_106 rfl (by decide) (by (first | exact mp_o2539 l_66 u_67 c_74 x_95 e_104 | omega)) (by (first | exact mp_o2540 l_66 u_67 c_74 x_95 e_104 | omega))
            show mp_W E X 8 36 [(6, .int z_105), (5, .int r_80), (4, .int z_102), (7, .int r_80), (3, .int 0), (0, .ref a0), (1, .int x0), (2, .int x1)] [] w9_ 0 0
            exact mp_sub [0, 1, 2, 4, 5, 6, 7] rfl [4, 5, 0, 1, 6, 2, 3, 7] rfl rfl (ih_72 (d_71 - 1) (by (first | exact mp_o2541 l_66 u_67 hm_73 c_74 x_95 e_104 e_107 | omega)) z_105 r_80 z_102 g_78 g_79 (by (first | exact mp_o2542 l_66 u_67 c_74 x_95 e_104 e_107 | omega)) (by (first | exact mp_o2543 l_66 u_67 c_74 x_95 e_104 e_107 | omega)) (by (first | exact mp_o2544 l_66 u_67 c_74 l_93 u_94 x_95 e_104 e_107 | omega)) (by (first | exact mp_o2545 l_66 u_67 c_74 l_93 u_94 x_95 e_104 e_107 | omega)) (by (first | exact mp_o2546 l_66 u_67 hm_73 c_74 x_95 e_104 e_107 | omega)))
          · have c_88 : i_62.toInt ≤ r_80.toInt := c_88
            show mp_W E X 8 60 [(7, .int r_80), (6, .int i_61), (5, .int i_62), (4, .int i_63), (3, .int 0), (0, .ref a0), (1, .int x0), (2, .int x1)] [] w8_ 0 0
            refine mp_run mp_k_cX10_weigh_ok hF mp_tabX10_ok [mp_h (.goto 18) [78], mp_c (.iinc 6 1) 1, mp_h (.goto (-45)) [36]] (by decide +kernel) ?_
            intro z_108 h_109
            have e_110 : z_108.toInt = i_61.toInt + 1 := mp_add (a := i_61.toInt) (b := 1) h_109 rfl (by decide) (by (first | exact mp_o1040 l_66 u_67 c_74 | omega)) (by (first | exact mp_o1041 l_66 u_67 c_74 | omega))
            show mp_W E X 8 36 [(6, .int z_108), (7, .int r_80), (5, .int i_62), (4, .int i_63), (3, .int 0), (0, .ref a0), (1, .int x0), (2, .int x1)] [] w8_ 0 0
            exact mp_sub [0, 2, 3, 4, 5, 6, 7] rfl [6, 7, 0, 1, 2, 3, 4, 5] rfl rfl (ih_72 (d_71 - 1) (by (first | exact mp_o1042 l_66 u_67 hm_73 c_74 e_110 | omega)) z_108 i_62 i_63 g_78 g_79 (by (first | exact mp_o1043 l_66 u_67 c_74 e_110 | omega)) (by (first | exact mp_o1044 l_66 u_67 c_74 e_110 | omega)) l_68 u_69 (by (first | exact mp_o1045 l_66 u_67 hm_73 c_74 e_110 | omega)))
    exact mp_sub [0, 1, 2, 3, 4, 5, 6] rfl [0, 1, 2, 3, 4, 5, 6, 7] rfl rfl (lp_70 _ 1 r_47 (-1) f5 f6 (by decide) (by decide) (by decide) (by decide) (Int.self_le_toNat _))
  · skip
    refine q_24.elim fun e_111 q_112 => q_112.elim fun c_17 q_113 => q_113.elim fun c_18 q_114 => q_114.elim fun c_19 q_115 => q_115.elim fun x_20 e_116 => ?_
    clear h_3 q_22 q_24 q_112 q_113 q_114 q_115
    subst e_111
    subst e_116
    have c_17 : 0 ≤ x0.toInt := c_17
    have c_18 : x0.toInt ≤ 3 := c_18
    have c_19 : 0 ≤ x1.toInt := c_19
    let w10_ : va_W := [(mp_arI E a6 0 12 f5), (mp_arI E a7 0 12 f6), (mp_ob10 a0 0 a1 a2 a3 a8 a9 y1 y2 y3 y4 y5 y6 y7 y8 y9 y10 a10 a4 a11 a12 a13 a5 a14 a15 y11 a16 a17 a18 a19 y12 y13 y14 a20 a21 y15 y16 a22 a23 a24 y17 y18 y19 y20 a6 a7 a25 y21), (mp_arI E a1 0 4 f0), (mp_arI E a2 0 4 f1), (mp_arL E a3 240 f2), (mp_arI E a4 0 25 f3), (mp_arI E a5 0 300 f4)]
    show mp_W E X 8 11 [(0, .ref a0), (1, .int x0), (2, .int x1)] [.int (-6)] w10_ 0 0
    refine mp_run mp_k_cX10_weigh_ok hF mp_tabX10_ok [mp_i (.istore_n 3), mp_i (.iload_n 3), mp_h (.ifCond .eq 5) [18]] (by decide +kernel) ?_
    refine And.intro (fun c_117 => absurd c_117 (by decide)) (fun _ => ?_)
    show mp_W E X 8 16 [(3, .int (-6)), (0, .ref a0), (1, .int x0), (2, .int x1)] [] w10_ 0 0
    refine mp_run mp_k_cX10_weigh_ok hF mp_tabX10_ok [mp_i (.iload_n 3)] (by decide +kernel) ?_
    show mp_W E X 8 17 [(3, .int (-6)), (0, .ref a0), (1, .int x0), (2, .int x1)] [.int (-6)] w10_ 0 0
    exact mp_iret hF hQ rfl rfl (Nat.le_of_ble_eq_true rfl) (Nat.le_of_ble_eq_true rfl) [2, 3, 4, 5, 6, 7, 0, 1] (w' := w2_) rfl rfl ⟨y17, y18, y19, y20, f5, f6, (-6), rfl, (by decide), (by decide), rfl⟩ (by first | exact mp_fd_ok mp_k_cX10_weigh_ok (by decide +kernel) | decide +kernel)
set_option maxHeartbeats 4000000 in
set_option maxRecDepth 100000 in
theorem bX10_said_144 (E : mp_E) (a0 a1 a2 a3 a4 a5 a6 a7 a8 a9 a10 a11 a12 a13 a14 a15 a16 a17 a18 a19 a20 a21 a22 a23 a24 a25 : Nat) (f0 : Nat → Int32) (f1 : Nat → Int32) (f2 : Nat → Int64) (f3 : Nat → Int32) (f4 : Nat → Int32) (y0 : Int32) (y1 : Int32) (y2 : Int32) (y3 : Int32) (y4 : Int32) (y5 : Int32) (y6 : Int64) (y7 : Int32) (y8 : Int32) (y9 : Int32) (y10 : Int32) (y11 : Int32) (y12 : Int32) (y13 : Int32) (y14 : Int32) (y15 : Int32) (y16 : Int32) (y17 : Int32) (y18 : Int32) (y19 : Int32) (y20 : Int32) (y21 : Int32) (x0 : Int32) (x1 : Int32) (p0 : mp_all f1 4 0 60) (p1 : mp_res f3 25 5 0 0 6) (p2 : mp_res f3 25 5 1 0 99) (p3 : mp_res f3 25 5 2 0 6) (p4 : mp_res f3 25 5 3 0 10) (p5 : mp_res f3 25 5 4 0 60) (p6 : mp_res f4 300 6 0 0 5) (p7 : mp_res f4 300 6 1 0 5) (p8 : mp_res f4 300 6 3 0 99) (p9 : mp_res f4 300 6 4 0 1) (l_y1 : 0 ≤ y1.toInt) (u_y1 : y1.toInt ≤ 1600) (l_y2 : 0 ≤ y2.toInt) (u_y2 : y2.toInt ≤ 1600) (l_y3 : 0 ≤ y3.toInt) (u_y3 : y3.toInt ≤ 4) (l_y4 : 0 ≤ y4.toInt) (u_y4 : y4.toInt ≤ 1600) (l_y11 : 0 ≤ y11.toInt) (u_y11 : y11.toInt ≤ 99) (l_y12 : 0 ≤ y12.toInt) (u_y12 : y12.toInt ≤ 5) (l_y13 : 0 ≤ y13.toInt) (u_y13 : y13.toInt ≤ 12) (q0 : ∀ j : Nat, (j : Int) < (f3 3).toInt → 1 ≤ (f4 (6 * j + 2)).toInt ∧ (f4 (6 * j + 2)).toInt ≤ 1000000) : mp_Ct E yX10_said cX10_said 9 (some FieldType.int) 3 0 0 69 [.ref a0, .int x0, .int x1] [(mp_ob10 a0 y0 a1 a2 a3 a6 a7 y1 y2 y3 y4 y5 y6 y7 y8 y9 y10 a8 a4 a9 a10 a11 a5 a12 a13 y11 a14 a15 a16 a17 y12 y13 y14 a18 a19 y15 y16 a20 a21 a22 y17 y18 y19 y20 a23 a24 a25 y21), (mp_arI E a1 0 4 f0), (mp_arI E a2 0 4 f1), (mp_arL E a3 240 f2), (mp_arI E a4 0 25 f3), (mp_arI E a5 0 300 f4)] (fun v w' => (v = some (.int (-2)) ∧ ((x0.toInt < 0 ∨ 3 < x0.toInt ∨ x1.toInt < 0 ∨ (f3 3).toInt ≤ x1.toInt ∨ (0 ≤ x1.toInt ∧ x1.toInt < (f3 3).toInt ∧ (f4 (6 * x1.toInt.toNat + 5)).toInt ≠ -1)) ∨ (((0 ≤ x0.toInt ∧ x0.toInt ≤ 3) ∧ (0 ≤ x1.toInt ∧ x1.toInt < (f3 3).toInt) ∧ (f4 (6 * x1.toInt.toNat + 5)).toInt = -1) ∧ (f0 x0.toInt.toNat).toInt ≠ -1 ∧ ((f1 x0.toInt.toNat).toInt % 2 ≠ 0 ∨ ¬ mp_vd f2 x0.toInt ((f1 x0.toInt.toNat).toInt / 2).toNat (f4 (6 * x1.toInt.toNat + 3)).toInt))) ∧ w' = [(mp_ob10 a0 0 a1 a2 a3 a6 a7 y1 y2 y3 y4 y5 y6 y7 y8 y9 y10 a8 a4 a9 a10 a11 a5 a12 a13 y11 a14 a15 a16 a17 y12 y13 y14 a18 a19 y15 y16 a20 a21 a22 y17 y18 y19 y20 a23 a24 a25 y21), (mp_arI E a1 0 4 f0), (mp_arI E a2 0 4 f1), (mp_arL E a3 240 f2), (mp_arI E a4 0 25 f3), (mp_arI E a5 0 300 f4)]) ∨ (∃ r1 : Int32, v = some (.int r1) ∧ 0 ≤ x0.toInt ∧ x0.toInt ≤ 3 ∧ 0 ≤ x1.toInt ∧ ((0 ≤ x0.toInt ∧ x0.toInt ≤ 3) ∧ (0 ≤ x1.toInt ∧ x1.toInt < (f3 3).toInt) ∧ (f4 (6 * x1.toInt.toNat + 5)).toInt = -1 ∧ (f0 x0.toInt.toNat).toInt ≠ -1 ∧ (f1 x0.toInt.toNat).toInt % 2 = 0) ∧ (mp_vd f2 x0.toInt ((f1 x0.toInt.toNat).toInt / 2).toNat (f4 (6 * x1.toInt.toNat + 3)).toInt) ∧ (r1 = mp_bf (fun m => mp_FM f2 x0.toInt (f4 (6 * x1.toInt.toNat + 2)).toInt (f4 (6 * x1.toInt.toNat + 4)).toInt (m : Int) ((f1 x0.toInt.toNat).toInt / 2).toNat) 31) ∧ w' = [(mp_ob10 a0 0 a1 a2 a3 a6 a7 y1 y2 y3 y4 y5 y6 y7 y8 y9 y10 a8 a4 a9 a10 a11 a5 a12 a13 y11 a14 a15 a16 a17 y12 y13 y14 a18 a19 y15 y16 a20 a21 a22 y17 y18 y19 y20 a23 a24 a25 y21), (mp_arI E a1 0 4 f0), (mp_arI E a2 0 4 f1), (mp_arL E a3 240 f2), (mp_arI E a4 0 25 f3), (mp_arI E a5 0 300 f4)]) ∨ (v = some (.int (-6)) ∧ 0 ≤ x0.toInt ∧ x0.toInt ≤ 3 ∧ 0 ≤ x1.toInt ∧ ((0 ≤ x0.toInt ∧ x0.toInt ≤ 3) ∧ (0 ≤ x1.toInt ∧ x1.toInt < (f3 3).toInt) ∧ (f4 (6 * x1.toInt.toNat + 5)).toInt = -1 ∧ (f0 x0.toInt.toNat).toInt = -1) ∧ w' = [(mp_ob10 a0 0 a1 a2 a3 a6 a7 y1 y2 y3 y4 y5 y6 y7 y8 y9 y10 a8 a4 a9 a10 a11 a5 a12 a13 y11 a14 a15 a16 a17 y12 y13 y14 a18 a19 y15 y16 a20 a21 a22 y17 y18 y19 y20 a23 a24 a25 y21), (mp_arI E a1 0 4 f0), (mp_arI E a2 0 4 f1), (mp_arL E a3 240 f2), (mp_arI E a4 0 25 f3), (mp_arI E a5 0 300 f4)])) := by
  refine mp_met false (by decide) (by decide) (Nat.le_of_ble_eq_true rfl) (fun X hF hQ => ?_)
  have hF : mp_F E X (RX10, cX10_said, 9, (3, 0, 0, 69), (some FieldType.int), false) := hF
  let w1_ : va_W := [(mp_ob10 a0 y0 a1 a2 a3 a6 a7 y1 y2 y3 y4 y5 y6 y7 y8 y9 y10 a8 a4 a9 a10 a11 a5 a12 a13 y11 a14 a15 a16 a17 y12 y13 y14 a18 a19 y15 y16 a20 a21 a22 y17 y18 y19 y20 a23 a24 a25 y21), (mp_arI E a1 0 4 f0), (mp_arI E a2 0 4 f1), (mp_arL E a3 240 f2), (mp_arI E a4 0 25 f3), (mp_arI E a5 0 300 f4)]
  show mp_W E X 9 0 [(0, .ref a0), (1, .int x0), (2, .int x1)] [] w1_ 0 0
  refine mp_run mp_k_cX10_said_ok hF mp_tabX10_ok [mp_i (.aload_n 0), mp_c (.iconst 0) 0, mp_h (.putfield 92) [0, 0]] (by decide +kernel) ?_
  refine And.intro rfl (And.intro rfl (And.intro rfl (And.intro rfl (And.intro (Nat.le_of_ble_eq_true rfl) ?_))))
  let w2_ : va_W := [(mp_ob10 a0 0 a1 a2 a3 a6 a7 y1 y2 y3 y4 y5 y6 y7 y8 y9 y10 a8 a4 a9 a10 a11 a5 a12 a13 y11 a14 a15 a16 a17 y12 y13 y14 a18 a19 y15 y16 a20 a21 a22 y17 y18 y19 y20 a23 a24 a25 y21), (mp_arI E a1 0 4 f0), (mp_arI E a2 0 4 f1), (mp_arL E a3 240 f2), (mp_arI E a4 0 25 f3), (mp_arI E a5 0 300 f4)]
  show mp_W E X 9 5 [(0, .ref a0), (1, .int x0), (2, .int x1)] [] w2_ 0 0
  refine mp_run mp_k_cX10_said_ok hF mp_tabX10_ok [mp_i (.aload_n 0), mp_i (.iload_n 1), mp_i (.iload_n 2)] (by decide +kernel) ?_
  show mp_W E X 9 8 [(0, .ref a0), (1, .int x0), (2, .int x1)] [.int x1, .int x0, .ref a0] w2_ 0 0
  refine mp_callV hF (As := [.int x0, .int x1]) (rest := []) (wr := []) (bX10_whyNot_135 E a0 a1 a2 a3 a4 a5 a6 a7 a8 a9 a10 a11 a12 a13 a14 a15 a16 a17 a18 a19 a20 a21 a22 a23 a24 a25 f0 f1 f2 f3 f4 0 y1 y2 y3 y4 y5 y6 y7 y8 y9 y10 y11 y12 y13 y14 y15 y16 y17 y18 y19 y20 y21 x0 x1 p0 p1 p2 p3 p4 p5 p6 p7 p8 p9 l_y1 u_y1 l_y2 u_y2 l_y3 u_y3 l_y4 u_y4 l_y11 u_y11 l_y12 u_y12 l_y13 u_y13) mp_lkX10_432 0 rfl [0, 1, 2, 3, 4, 5] [] rfl rfl rfl rfl rfl ⟨(Nat.le_of_ble_eq_true rfl), (Nat.le_of_ble_eq_true rfl), (Nat.le_of_ble_eq_true rfl), (Nat.le_of_ble_eq_true rfl)⟩ (Nat.le_of_ble_eq_true rfl) (by first | exact mp_fd_ok mp_k_cX10_said_ok (by decide +kernel) | decide +kernel) (fun v_1 w_2 h_3 => ?_)
  refine h_3.elim (fun q_21 => ?_) (fun q_22 => q_22.elim (fun q_23 => ?_) (fun q_24 => ?_))
  · skip
    refine q_21.elim fun e_25 q_26 => q_26.elim fun x_4 e_27 => ?_
    clear h_3 q_21 q_26
    subst e_25
    subst e_27
    show mp_W E X 9 11 [(0, .ref a0), (1, .int x0), (2, .int x1)] [.int (-2)] w2_ 0 0
    refine mp_run mp_k_cX10_said_ok hF mp_tabX10_ok [mp_i (.istore_n 3), mp_i (.iload_n 3), mp_h (.ifCond .eq 5) [18]] (by decide +kernel) ?_
    refine And.intro (fun c_28 => absurd c_28 (by decide)) (fun _ => ?_)
    show mp_W E X 9 16 [(3, .int (-2)), (0, .ref a0), (1, .int x0), (2, .int x1)] [] w2_ 0 0
    refine mp_run mp_k_cX10_said_ok hF mp_tabX10_ok [mp_i (.iload_n 3)] (by decide +kernel) ?_
    show mp_W E X 9 17 [(3, .int (-2)), (0, .ref a0), (1, .int x0), (2, .int x1)] [.int (-2)] w2_ 0 0
    exact mp_iret hF hQ rfl rfl (Nat.le_of_ble_eq_true rfl) (Nat.le_of_ble_eq_true rfl) [0, 1, 2, 3, 4, 5] (w' := w2_) rfl rfl (Or.inl ⟨rfl, x_4, rfl⟩) (by first | exact mp_fd_ok mp_k_cX10_said_ok (by decide +kernel) | decide +kernel)
  · skip
    refine q_23.elim fun e_29 q_30 => q_30.elim fun c_5 q_31 => q_31.elim fun c_6 q_32 => q_32.elim fun c_7 q_33 => q_33.elim fun x_8 q_34 => q_34.elim fun x_9 q_35 => q_35.elim fun x_10 q_36 => q_36.elim fun x_11 q_37 => q_37.elim fun x_12 q_38 => q_38.elim fun x_13 q_39 => q_39.elim fun x_14 q_40 => q_40.elim fun x_15 q_41 => q_41.elim fun x_16 e_42 => ?_
    clear h_3 q_22 q_23 q_30 q_31 q_32 q_33 q_34 q_35 q_36 q_37 q_38 q_39 q_40 q_41
    subst e_29
    subst e_42
    have c_5 : 0 ≤ x0.toInt := c_5
    have c_6 : x0.toInt ≤ 3 := c_6
    have c_7 : 0 ≤ x1.toInt := c_7
    show mp_W E X 9 11 [(0, .ref a0), (1, .int x0), (2, .int x1)] [.int 0] w2_ 0 0
    refine mp_run mp_k_cX10_said_ok hF mp_tabX10_ok [mp_i (.istore_n 3), mp_i (.iload_n 3), mp_h (.ifCond .eq 5) [18]] (by decide +kernel) ?_
    refine And.intro (fun _ => ?_) (fun c_43 => absurd c_43 (by decide))
    show mp_W E X 9 18 [(3, .int 0), (0, .ref a0), (1, .int x0), (2, .int x1)] [] w2_ 0 0
    refine mp_run mp_k_cX10_said_ok hF mp_tabX10_ok [mp_c (.iconst 0) 0, mp_i (.istore 4), mp_c (.iconst 0) 0, mp_i (.istore 5)] (by decide +kernel) ?_
    show mp_W E X 9 24 [(5, .int 0), (4, .int 0), (3, .int 0), (0, .ref a0), (1, .int x0), (2, .int x1)] [] w2_ 0 0
    have lp_50 : ∀ (d_51 : Nat) (i_44 : Int32) (i_45 : Int32), 0 ≤ i_44.toInt → i_44.toInt ≤ 36 → (i_45 = mp_bf (fun m => mp_FM f2 x0.toInt (f4 (6 * x1.toInt.toNat + 2)).toInt (f4 (6 * x1.toInt.toNat + 4)).toInt (m : Int) ((f1 x0.toInt.toNat).toInt / 2).toNat) i_44.toInt.toNat) → (0 ≤ i_44.toInt ∧ i_44.toInt ≤ 31) → -(i_44.toInt) + 31 ≤ (d_51 : Int) → mp_W E X 9 24 [(5, .int i_44), (4, .int i_45), (3, .int 0), (0, .ref a0), (1, .int x0), (2, .int x1)] [] [(mp_ob10 a0 0 a1 a2 a3 a6 a7 y1 y2 y3 y4 y5 y6 y7 y8 y9 y10 a8 a4 a9 a10 a11 a5 a12 a13 y11 a14 a15 a16 a17 y12 y13 y14 a18 a19 y15 y16 a20 a21 a22 y17 y18 y19 y20 a23 a24 a25 y21), (mp_arI E a1 0 4 f0), (mp_arI E a2 0 4 f1), (mp_arL E a3 240 f2), (mp_arI E a4 0 25 f3), (mp_arI E a5 0 300 f4)] 0 0 := by
      intro d_51
      induction d_51 using Nat.strongRecOn with
      | ind d_51 ih_52 =>
        intro i_44 i_45 l_46 u_47 x_48 x_49 hm_53
        refine mp_run mp_k_cX10_said_ok hF mp_tabX10_ok [mp_i (.iload 5), mp_c (.bipush 30) 30, mp_h (.if_icmp .gt 124) [152]] (by decide +kernel) ?_
        refine And.intro (fun c_54 => ?_) (fun c_54 => ?_)
        · have c_54 : 30 < i_44.toInt := c_54
          show mp_W E X 9 152 [(5, .int i_44), (4, .int i_45), (3, .int 0), (0, .ref a0), (1, .int x0), (2, .int x1)] [] w2_ 0 0
          refine mp_run mp_k_cX10_said_ok hF mp_tabX10_ok [mp_i (.iload 4)] (by decide +kernel) ?_
          show mp_W E X 9 154 [(5, .int i_44), (4, .int i_45), (3, .int 0), (0, .ref a0), (1, .int x0), (2, .int x1)] [.int i_45] w2_ 0 0
          exact mp_iret hF hQ rfl rfl (Nat.le_of_ble_eq_true rfl) (Nat.le_of_ble_eq_true rfl) [0, 1, 2, 3, 4, 5] (w' := w2_) rfl rfl (Or.inr (Or.inl ⟨i_45, rfl, (by first | omega | decide), (by first | omega | decide), (by first | omega | decide), x_14, x_15, (by have k9 := x_48; rw [show i_44.toInt.toNat = 31 from by omega] at k9; exact k9), rfl⟩)) (by first | exact mp_fd_ok mp_k_cX10_said_ok (by decide +kernel) | decide +kernel)
        · have c_54 : i_44.toInt ≤ 30 := c_54
          show mp_W E X 9 31 [(5, .int i_44), (4, .int i_45), (3, .int 0), (0, .ref a0), (1, .int x0), (2, .int x1)] [] w2_ 0 0
          refine mp_run mp_k_cX10_said_ok hF mp_tabX10_ok [mp_c (.iconst 1) 1, mp_i (.istore 6), mp_c (.iconst 0) 0, mp_i (.istore 7)] (by decide +kernel) ?_
          show mp_W E X 9 37 [(7, .int 0), (6, .int 1), (5, .int i_44), (4, .int i_45), (3, .int 0), (0, .ref a0), (1, .int x0), (2, .int x1)] [] w2_ 0 0
          have lp_64 : ∀ (d_65 : Nat) (i_55 : Int32) (i_56 : Int32), 0 ≤ i_55.toInt → i_55.toInt ≤ 78 → 0 ≤ i_56.toInt → i_56.toInt ≤ 1 → (i_55.toInt % 2 = 0) → (0 ≤ i_55.toInt ∧ i_55.toInt ≤ (f1 x0.toInt.toNat).toInt) → ((i_56.toInt = 1 ∧ mp_FM f2 x0.toInt (f4 (6 * x1.toInt.toNat + 2)).toInt (f4 (6 * x1.toInt.toNat + 4)).toInt i_44.toInt (i_55.toInt / 2).toNat = true) ∨ (i_56.toInt = 0 ∧ mp_FM f2 x0.toInt (f4 (6 * x1.toInt.toNat + 2)).toInt (f4 (6 * x1.toInt.toNat + 4)).toInt i_44.toInt (i_55.toInt / 2).toNat = false)) → (f1 x0.toInt.toNat).toInt - i_55.toInt ≤ (d_65 : Int) → mp_W E X 9 37 [(7, .int i_55), (6, .int i_56), (5, .int i_44), (4, .int i_45), (3, .int 0), (0, .ref a0), (1, .int x0), (2, .int x1)] [] [(mp_ob10 a0 0 a1 a2 a3 a6 a7 y1 y2 y3 y4 y5 y6 y7 y8 y9 y10 a8 a4 a9 a10 a11 a5 a12 a13 y11 a14 a15 a16 a17 y12 y13 y14 a18 a19 y15 y16 a20 a21 a22 y17 y18 y19 y20 a23 a24 a25 y21), (mp_arI E a1 0 4 f0), (mp_arI E a2 0 4 f1), (mp_arL E a3 240 f2), (mp_arI E a4 0 25 f3), (mp_arI E a5 0 300 f4)] 0 0 := by
            intro d_65
            induction d_65 using Nat.strongRecOn with
            | ind d_65 ih_66 =>
              intro i_55 i_56 l_57 u_58 l_59 u_60 x_61 x_62 x_63 hm_67
              refine mp_run mp_k_cX10_said_ok hF mp_tabX10_ok [mp_i (.iload 7), mp_i (.aload_n 0), mp_h (.getfield 13) [2, 0], mp_i (.iload_n 1), mp_h .iaload [2], mp_h (.if_icmp .ge 83) [128]] (by decide +kernel) ?_
              refine And.intro rfl (And.intro rfl ?_)
              refine And.intro rfl (And.intro rfl (And.intro (vp_in_iff.mpr (by omega)) ?_))
              intro z_68 h_69
              have e_70 : 0 ≤ z_68.toInt ∧ z_68.toInt ≤ 60 := mp_all_ld h_69 p0 (by omega) (by omega)
              have e_71 : z_68.toInt = (f1 x0.toInt.toNat).toInt := congrArg Int32.toInt h_69
              have e_72 : z_68.toInt = (f1 x0.toInt.toNat).toInt := congrArg Int32.toInt h_69
              refine And.intro (fun c_73 => ?_) (fun c_73 => ?_)
              · have c_73 : z_68.toInt ≤ i_55.toInt := c_73
                show mp_W E X 9 128 [(7, .int i_55), (6, .int i_56), (5, .int i_44), (4, .int i_45), (3, .int 0), (0, .ref a0), (1, .int x0), (2, .int x1)] [] w2_ 0 0
                refine mp_run mp_k_cX10_said_ok hF mp_tabX10_ok [mp_i (.iload 4), mp_i (.iload 6), mp_h (.ifCond .eq 10) [142]] (by decide +kernel) ?_
                refine And.intro (fun c_74 => ?_) (fun c_74 => ?_)
                · have c_74 : i_56.toInt = 0 := (congrArg Int32.toInt c_74)
                  show mp_W E X 9 142 [(7, .int i_55), (6, .int i_56), (5, .int i_44), (4, .int i_45), (3, .int 0), (0, .ref a0), (1, .int x0), (2, .int x1)] [.int i_45] w2_ 0 0
                  refine mp_run mp_k_cX10_said_ok hF mp_tabX10_ok [mp_c (.iconst 0) 0, mp_i .ior, mp_i (.istore 4), mp_c (.iinc 5 1) 1, mp_h (.goto (-125)) [24]] (by decide +kernel) ?_
                  intro z_75 h_76
                  intro z_78 h_79
                  have e_80 : z_78.toInt = i_44.toInt + 1 := mp_add (a := i_44.toInt) (b := 1) h_79 rfl (by decide) (by omega) (by omega)
                  show mp_W E X 9 24 [(5, .int z_78), (4, .int z_75), (7, .int i_55), (6, .int i_56), (3, .int 0), (0, .ref a0), (1, .int x0), (2, .int x1)] [] w2_ 0 0
                  exact mp_sub [0, 1, 4, 5, 6, 7] rfl [0, 1, 2, 3, 4, 5] rfl rfl (ih_52 (d_51 - 1) (by omega) z_78 z_75 (by omega) (by omega) ((mp_or0 h_76).trans (mp_bf_f x_48 (show _ = false from (by have k9 := x_63; rw [show (i_55.toInt / 2).toNat = ((f1 x0.toInt.toNat).toInt / 2).toNat from by omega] at k9; rcases k9 with ⟨k8, k7⟩ | ⟨k8, k7⟩ <;> first | (rw [mp_FM_n (by omega)]; exact k7) | (exfalso; omega))) ⟨by omega, by omega⟩)) (by omega) (by omega))
                · have c_74 : i_56.toInt ≠ 0 := c_74
                  show mp_W E X 9 135 [(7, .int i_55), (6, .int i_56), (5, .int i_44), (4, .int i_45), (3, .int 0), (0, .ref a0), (1, .int x0), (2, .int x1)] [.int i_45] w2_ 0 0
                  refine mp_run mp_k_cX10_said_ok hF mp_tabX10_ok [mp_c (.iconst 1) 1, mp_i (.iload 5), mp_i .ishl, mp_h (.goto 4) [143], mp_i .ior, mp_i (.istore 4), mp_c (.iinc 5 1) 1, mp_h (.goto (-125)) [24]] (by decide +kernel) ?_
                  intro z_81 h_82
                  intro z_84 h_85
                  intro z_87 h_88
                  have e_89 : z_87.toInt = i_44.toInt + 1 := mp_add (a := i_44.toInt) (b := 1) h_88 rfl (by decide) (by omega) (by omega)
                  show mp_W E X 9 24 [(5, .int z_87), (4, .int z_84), (7, .int i_55), (6, .int i_56), (3, .int 0), (0, .ref a0), (1, .int x0), (2, .int x1)] [] w2_ 0 0
                  exact mp_sub [0, 1, 4, 5, 6, 7] rfl [0, 1, 2, 3, 4, 5] rfl rfl (ih_52 (d_51 - 1) (by omega) z_87 z_84 (by omega) (by omega) (mp_bf_t x_48 h_85 h_82 (show _ = true from (by have k9 := x_63; rw [show (i_55.toInt / 2).toNat = ((f1 x0.toInt.toNat).toInt / 2).toNat from by omega] at k9; rcases k9 with ⟨k8, k7⟩ | ⟨k8, k7⟩ <;> first | (rw [mp_FM_n (by omega)]; exact k7) | (exfalso; omega))) ⟨by omega, by omega⟩) (by omega) (by omega))
              · have c_73 : i_55.toInt < z_68.toInt := c_73
                show mp_W E X 9 48 [(7, .int i_55), (6, .int i_56), (5, .int i_44), (4, .int i_45), (3, .int 0), (0, .ref a0), (1, .int x0), (2, .int x1)] [] w2_ 0 0
                refine mp_run mp_k_cX10_said_ok hF mp_tabX10_ok [mp_i (.aload_n 0), mp_h (.getfield 16) [3, 0], mp_c (.bipush 60) 60, mp_i (.iload_n 1), mp_i .imul, mp_i (.iload 7), mp_i .iadd, mp_h .laload [3], mp_i .l2i, mp_i (.istore 8), mp_i (.iload 6), mp_h (.ifCond .eq 54) [119]] (by decide +kernel) ?_
                refine And.intro rfl (And.intro rfl ?_)
                intro z_90 h_91
                have e_92 : z_90.toInt = 60 * x0.toInt := mp_mul (a := 60) (b := x0.toInt) h_91 (by decide) rfl (by omega) (by omega)
                intro z_93 h_94
                have e_95 : z_93.toInt = z_90.toInt + i_55.toInt := mp_add (a := z_90.toInt) (b := i_55.toInt) h_94 rfl rfl (by omega) (by omega)
                refine And.intro rfl (And.intro rfl (And.intro (vp_in_iff.mpr (by omega)) ?_))
                intro z_96 h_97
                have e_98 := mp_res_at p8 (6 * x1.toInt.toNat + 3) (by omega) (by omega)
                have e_99 := mp_res_at p9 (6 * x1.toInt.toNat + 4) (by omega) (by omega)
                have pt_100 : z_96.toInt = mp_pt f2 x0.toInt (i_55.toInt / 2).toNat := mp_pt_at h_97 (by simp only [Int32.toNatClampNeg]; omega)
                have e_101 := x_15 (i_55.toInt / 2).toNat (by omega)
                intro z_102 h_103
                have e_104 : z_102.toInt = z_96.toInt := mp_l_32 h_103 ⟨by omega, by omega⟩
                refine And.intro (fun c_105 => ?_) (fun c_105 => ?_)
                · have c_105 : i_56.toInt = 0 := (congrArg Int32.toInt c_105)
                  show mp_W E X 9 119 [(8, .int z_102), (7, .int i_55), (6, .int i_56), (5, .int i_44), (4, .int i_45), (3, .int 0), (0, .ref a0), (1, .int x0), (2, .int x1)] [] w2_ 0 0
                  refine mp_run mp_k_cX10_said_ok hF mp_tabX10_ok [mp_c (.iconst 0) 0, mp_i (.istore 6), mp_c (.iinc 7 2) 2, mp_h (.goto (-88)) [37]] (by decide +kernel) ?_
                  intro z_106 h_107
                  have e_108 : z_106.toInt = i_55.toInt + 2 := mp_add (a := i_55.toInt) (b := 2) h_107 rfl (by decide) (by omega) (by omega)
                  show mp_W E X 9 37 [(7, .int z_106), (6, .int 0), (8, .int z_102), (5, .int i_44), (4, .int i_45), (3, .int 0), (0, .ref a0), (1, .int x0), (2, .int x1)] [] w2_ 0 0
                  exact mp_sub [0, 1, 3, 4, 5, 6, 7, 8] rfl [0, 1, 2, 3, 4, 5] rfl rfl (ih_66 (d_65 - 1) (by omega) z_106 0 (by omega) (by omega) (by decide) (by decide) (by omega) (by omega) (Or.inr ⟨rfl, (by rcases x_63 with k8 | k8; exact mp_FM_f1 pt_100 (by omega) (by omega); exact mp_FM_f0 k8.2 (by omega))⟩) (by omega))
                · have c_105 : i_56.toInt ≠ 0 := c_105
                  show mp_W E X 9 68 [(8, .int z_102), (7, .int i_55), (6, .int i_56), (5, .int i_44), (4, .int i_45), (3, .int 0), (0, .ref a0), (1, .int x0), (2, .int x1)] [] w2_ 0 0
                  refine mp_run mp_k_cX10_said_ok hF mp_tabX10_ok [mp_i (.iload 8), mp_i (.iload 5), mp_h (.if_icmp .lt 47) [119]] (by decide +kernel) ?_
                  refine And.intro (fun c_109 => ?_) (fun c_109 => ?_)
                  · have c_109 : z_102.toInt < i_44.toInt := c_109
                    show mp_W E X 9 119 [(8, .int z_102), (7, .int i_55), (6, .int i_56), (5, .int i_44), (4, .int i_45), (3, .int 0), (0, .ref a0), (1, .int x0), (2, .int x1)] [] w2_ 0 0
                    refine mp_run mp_k_cX10_said_ok hF mp_tabX10_ok [mp_c (.iconst 0) 0, mp_i (.istore 6), mp_c (.iinc 7 2) 2, mp_h (.goto (-88)) [37]] (by decide +kernel) ?_
                    intro z_110 h_111
                    have e_112 : z_110.toInt = i_55.toInt + 2 := mp_add (a := i_55.toInt) (b := 2) h_111 rfl (by decide) (by omega) (by omega)
                    show mp_W E X 9 37 [(7, .int z_110), (6, .int 0), (8, .int z_102), (5, .int i_44), (4, .int i_45), (3, .int 0), (0, .ref a0), (1, .int x0), (2, .int x1)] [] w2_ 0 0
                    exact mp_sub [0, 1, 3, 4, 5, 6, 7, 8] rfl [0, 1, 2, 3, 4, 5] rfl rfl (ih_66 (d_65 - 1) (by omega) z_110 0 (by omega) (by omega) (by decide) (by decide) (by omega) (by omega) (Or.inr ⟨rfl, (by rcases x_63 with k8 | k8; exact mp_FM_f1 pt_100 (by omega) (by omega); exact mp_FM_f0 k8.2 (by omega))⟩) (by omega))
                  · have c_109 : i_44.toInt ≤ z_102.toInt := c_109
                    show mp_W E X 9 75 [(8, .int z_102), (7, .int i_55), (6, .int i_56), (5, .int i_44), (4, .int i_45), (3, .int 0), (0, .ref a0), (1, .int x0), (2, .int x1)] [] w2_ 0 0
                    refine mp_run mp_k_cX10_said_ok hF mp_tabX10_ok [mp_i (.aload_n 0), mp_i (.iload_n 2), mp_c (.iconst 2) 2] (by decide +kernel) ?_
                    show mp_W E X 9 78 [(8, .int z_102), (7, .int i_55), (6, .int i_56), (5, .int i_44), (4, .int i_45), (3, .int 0), (0, .ref a0), (1, .int x0), (2, .int x1)] [.int 2, .int x1, .ref a0] w2_ 0 0
                    refine mp_callV hF (As := [.int x1, .int 2]) (rest := []) (wr := [(mp_arI E a1 0 4 f0), (mp_arI E a2 0 4 f1), (mp_arL E a3 240 f2), (mp_arI E a4 0 25 f3)]) (bX10_of_70 E a0 a5 a1 a2 a3 a6 a7 a8 a4 a9 a10 a11 a12 a13 a14 a15 a16 a17 a18 a19 a20 a21 a22 a23 a24 a25 f4 0 y1 y2 y3 y4 y5 y6 y7 y8 y9 y10 y11 y12 y13 y14 y15 y16 y17 y18 y19 y20 y21 x1 p6 p7 p8 p9 (by omega) (by omega) l_y1 u_y1 l_y2 u_y2 l_y3 u_y3 l_y4 u_y4 l_y11 u_y11 l_y12 u_y12 l_y13 u_y13) mp_lkX10_267 0 rfl [0, 5] [1, 2, 3, 4] rfl rfl rfl rfl rfl ⟨(Nat.le_of_ble_eq_true rfl), (Nat.le_of_ble_eq_true rfl), (Nat.le_of_ble_eq_true rfl), (Nat.le_of_ble_eq_true rfl)⟩ (Nat.le_of_ble_eq_true rfl) (by first | exact mp_fd_ok mp_k_cX10_said_ok (by decide +kernel) | decide +kernel) (fun v_113 w_114 h_115 => ?_)
                    obtain ⟨r_116, rfl, x_117, rfl⟩ := h_115
                    let w3_ : va_W := [(mp_arI E a1 0 4 f0), (mp_arI E a2 0 4 f1), (mp_arL E a3 240 f2), (mp_arI E a4 0 25 f3), (mp_ob10 a0 0 a1 a2 a3 a6 a7 y1 y2 y3 y4 y5 y6 y7 y8 y9 y10 a8 a4 a9 a10 a11 a5 a12 a13 y11 a14 a15 a16 a17 y12 y13 y14 a18 a19 y15 y16 a20 a21 a22 y17 y18 y19 y20 a23 a24 a25 y21), (mp_arI E a5 0 300 f4)]
                    show mp_W E X 9 81 [(8, .int z_102), (7, .int i_55), (6, .int i_56), (5, .int i_44), (4, .int i_45), (3, .int 0), (0, .ref a0), (1, .int x0), (2, .int x1)] [.int r_116] w3_ 0 0
                    refine mp_run mp_k_cX10_said_ok hF mp_tabX10_ok [mp_i (.iload 8), mp_i (.iload 5), mp_i .isub, mp_i (.aload_n 0), mp_i (.iload_n 2), mp_c (.iconst 4) 4] (by decide +kernel) ?_
                    intro z_118 h_119
                    have e_120 : z_118.toInt = z_102.toInt - i_44.toInt := mp_subi (a := z_102.toInt) (b := i_44.toInt) h_119 rfl rfl (by omega) (by omega)
                    show mp_W E X 9 89 [(8, .int z_102), (7, .int i_55), (6, .int i_56), (5, .int i_44), (4, .int i_45), (3, .int 0), (0, .ref a0), (1, .int x0), (2, .int x1)] [.int 4, .int x1, .ref a0, .int z_118, .int r_116] w3_ 0 0
                    refine mp_callV hF (As := [.int x1, .int 4]) (rest := [.int z_118, .int r_116]) (wr := [(mp_arI E a1 0 4 f0), (mp_arI E a2 0 4 f1), (mp_arL E a3 240 f2), (mp_arI E a4 0 25 f3)]) (bX10_of_65 E a0 a5 a1 a2 a3 a6 a7 a8 a4 a9 a10 a11 a12 a13 a14 a15 a16 a17 a18 a19 a20 a21 a22 a23 a24 a25 f4 0 y1 y2 y3 y4 y5 y6 y7 y8 y9 y10 y11 y12 y13 y14 y15 y16 y17 y18 y19 y20 y21 x1 p6 p7 p8 p9 (by omega) (by omega) l_y1 u_y1 l_y2 u_y2 l_y3 u_y3 l_y4 u_y4 l_y11 u_y11 l_y12 u_y12 l_y13 u_y13) mp_lkX10_267 4 rfl [4, 5] [0, 1, 2, 3] rfl rfl rfl rfl rfl ⟨(Nat.le_of_ble_eq_true rfl), (Nat.le_of_ble_eq_true rfl), (Nat.le_of_ble_eq_true rfl), (Nat.le_of_ble_eq_true rfl)⟩ (Nat.le_of_ble_eq_true rfl) (by first | exact mp_fd_ok mp_k_cX10_said_ok (by decide +kernel) | decide +kernel) (fun v_121 w_122 h_123 => ?_)
                    refine h_123.elim fun r_124 q_128 => q_128.elim fun e_129 q_130 => q_130.elim fun l_125 q_131 => q_131.elim fun u_126 q_132 => q_132.elim fun x_127 e_133 => ?_
                    clear h_123 q_128 q_130 q_131 q_132
                    subst e_129
                    subst e_133
                    show mp_W E X 9 92 [(8, .int z_102), (7, .int i_55), (6, .int i_56), (5, .int i_44), (4, .int i_45), (3, .int 0), (0, .ref a0), (1, .int x0), (2, .int x1)] [.int r_124, .int z_118, .int r_116] w3_ 0 0
                    refine mp_run mp_k_cX10_said_ok hF mp_tabX10_ok [mp_i .iadd] (by decide +kernel) ?_
                    intro z_134 h_135
                    have e_136 : z_134.toInt = z_118.toInt + r_124.toInt := mp_add (a := z_118.toInt) (b := r_124.toInt) h_135 rfl rfl (by omega) (by omega)
                    show mp_W E X 9 93 [(8, .int z_102), (7, .int i_55), (6, .int i_56), (5, .int i_44), (4, .int i_45), (3, .int 0), (0, .ref a0), (1, .int x0), (2, .int x1)] [.int z_134, .int r_116] w3_ 0 0
                    refine mp_callS hF (As := [.int r_116, .int z_134]) (rest := []) (wr := w3_) (bX10_halved_71 E r_116 z_134) mp_lkX10_285 [] [0, 1, 2, 3, 4, 5] rfl rfl rfl rfl rfl ⟨(Nat.le_of_ble_eq_true rfl), (Nat.le_of_ble_eq_true rfl), (Nat.le_of_ble_eq_true rfl), (Nat.le_of_ble_eq_true rfl)⟩ (Nat.le_of_ble_eq_true rfl) (by first | exact mp_fd_ok mp_k_cX10_said_ok (by decide +kernel) | decide +kernel) (fun v_137 w_138 h_139 => ?_)
                    obtain ⟨r_140, rfl, x_141, rfl⟩ := h_139
                    show mp_W E X 9 96 [(8, .int z_102), (7, .int i_55), (6, .int i_56), (5, .int i_44), (4, .int i_45), (3, .int 0), (0, .ref a0), (1, .int x0), (2, .int x1)] [.int r_140] w3_ 0 0
                    refine mp_run mp_k_cX10_said_ok hF mp_tabX10_ok [mp_i .i2l, mp_i (.aload_n 0), mp_h (.getfield 16) [3, 4], mp_c (.bipush 60) 60, mp_i (.iload_n 1), mp_i .imul, mp_i (.iload 7), mp_i .iadd, mp_c (.iconst 1) 1, mp_i .iadd, mp_h .laload [2], mp_i .lcmp, mp_h (.ifCond .ne 7) [119]] (by decide +kernel) ?_
                    intro z_142 h_143
                    have e_144 : z_142.toInt = r_140.toInt := mp_i2l h_143
                    refine And.intro rfl (And.intro rfl ?_)
                    intro z_145 h_146
                    have e_147 : z_145.toInt = 60 * x0.toInt := mp_mul (a := 60) (b := x0.toInt) h_146 (by decide) rfl (by omega) (by omega)
                    intro z_148 h_149
                    have e_150 : z_148.toInt = z_145.toInt + i_55.toInt := mp_add (a := z_145.toInt) (b := i_55.toInt) h_149 rfl rfl (by omega) (by omega)
                    intro z_151 h_152
                    have e_153 : z_151.toInt = z_148.toInt + 1 := mp_add (a := z_148.toInt) (b := 1) h_152 rfl (by decide) (by omega) (by omega)
                    refine And.intro rfl (And.intro rfl (And.intro (vp_in_iff.mpr (by omega)) ?_))
                    intro z_154 h_155
                    have pw_156 : z_154.toInt = mp_pw f2 x0.toInt (i_55.toInt / 2).toNat := mp_pw_at h_155 (by simp only [Int32.toNatClampNeg]; omega)
                    intro z_157 h_158
                    refine And.intro (fun c_159 => ?_) (fun c_159 => ?_)
                    · have c_159 : z_142.toInt ≠ z_154.toInt := mp_lc_ne h_158 c_159
                      show mp_W E X 9 119 [(8, .int z_102), (7, .int i_55), (6, .int i_56), (5, .int i_44), (4, .int i_45), (3, .int 0), (0, .ref a0), (1, .int x0), (2, .int x1)] [] w3_ 0 0
                      refine mp_run mp_k_cX10_said_ok hF mp_tabX10_ok [mp_c (.iconst 0) 0, mp_i (.istore 6), mp_c (.iinc 7 2) 2, mp_h (.goto (-88)) [37]] (by decide +kernel) ?_
                      intro z_160 h_161
                      have e_162 : z_160.toInt = i_55.toInt + 2 := mp_add (a := i_55.toInt) (b := 2) h_161 rfl (by decide) (by omega) (by omega)
                      show mp_W E X 9 37 [(7, .int z_160), (6, .int 0), (8, .int z_102), (5, .int i_44), (4, .int i_45), (3, .int 0), (0, .ref a0), (1, .int x0), (2, .int x1)] [] w3_ 0 0
                      exact mp_sub [0, 1, 3, 4, 5, 6, 7, 8] rfl [4, 0, 1, 2, 3, 5] rfl rfl (ih_66 (d_65 - 1) (by omega) z_160 0 (by omega) (by omega) (by decide) (by decide) (by omega) (by omega) (Or.inr ⟨rfl, mp_FM_f pt_100 pw_156 (Or.inr (by have k9 := (mp_hv_ce (W := (f4 (6 * x1.toInt.toNat + 2)).toInt) (k := (z_96.toInt - i_44.toInt + (f4 (6 * x1.toInt.toNat + 4)).toInt).toNat) x_141 (by omega) (by have k9 := q0 x1.toInt.toNat (by omega); omega) (by omega) (by omega)); omega)) (by omega)⟩) (by omega))
                    · have c_159 : z_142.toInt = z_154.toInt := mp_lc_eq h_158 c_159
                      show mp_W E X 9 115 [(8, .int z_102), (7, .int i_55), (6, .int i_56), (5, .int i_44), (4, .int i_45), (3, .int 0), (0, .ref a0), (1, .int x0), (2, .int x1)] [] w3_ 0 0
                      refine mp_run mp_k_cX10_said_ok hF mp_tabX10_ok [mp_c (.iconst 1) 1, mp_h (.goto 4) [120], mp_i (.istore 6), mp_c (.iinc 7 2) 2, mp_h (.goto (-88)) [37]] (by decide +kernel) ?_
                      intro z_163 h_164
                      have e_165 : z_163.toInt = i_55.toInt + 2 := mp_add (a := i_55.toInt) (b := 2) h_164 rfl (by decide) (by omega) (by omega)
                      show mp_W E X 9 37 [(7, .int z_163), (6, .int 1), (8, .int z_102), (5, .int i_44), (4, .int i_45), (3, .int 0), (0, .ref a0), (1, .int x0), (2, .int x1)] [] w3_ 0 0
                      exact mp_sub [0, 1, 3, 4, 5, 6, 7, 8] rfl [4, 0, 1, 2, 3, 5] rfl rfl (ih_66 (d_65 - 1) (by omega) z_163 1 (by omega) (by omega) (by decide) (by decide) (by omega) (by omega) (Or.inl ⟨rfl, mp_FM_t (by rcases x_63 with k8 | k8; (first | exact k8.2 | (exfalso; omega)); (first | exact k8.2 | (exfalso; omega))) pt_100 pw_156 (by omega) (by have k9 := (mp_hv_ce (W := (f4 (6 * x1.toInt.toNat + 2)).toInt) (k := (z_96.toInt - i_44.toInt + (f4 (6 * x1.toInt.toNat + 4)).toInt).toNat) x_141 (by omega) (by have k9 := q0 x1.toInt.toNat (by omega); omega) (by omega) (by omega)); omega) (by omega)⟩) (by omega))
          exact mp_sub [0, 1, 2, 3, 4, 5, 6, 7] rfl [0, 1, 2, 3, 4, 5] rfl rfl (lp_64 _ 0 1 (by decide) (by decide) (by decide) (by decide) (by decide) (by have i0 : (0 : Int32).toInt = 0 := rfl; have i1 : (1 : Int32).toInt = 1 := rfl; omega) (Or.inl ⟨rfl, rfl⟩) (Int.self_le_toNat _))
    exact mp_sub [0, 1, 2, 3, 4, 5] rfl [0, 1, 2, 3, 4, 5] rfl rfl (lp_50 _ 0 0 (by decide) (by decide) rfl (by have i0 : (0 : Int32).toInt = 0 := rfl; have i1 : (1 : Int32).toInt = 1 := rfl; omega) (Int.self_le_toNat _))
  · skip
    refine q_24.elim fun e_166 q_167 => q_167.elim fun c_17 q_168 => q_168.elim fun c_18 q_169 => q_169.elim fun c_19 q_170 => q_170.elim fun x_20 e_171 => ?_
    clear h_3 q_22 q_24 q_167 q_168 q_169 q_170
    subst e_166
    subst e_171
    have c_17 : 0 ≤ x0.toInt := c_17
    have c_18 : x0.toInt ≤ 3 := c_18
    have c_19 : 0 ≤ x1.toInt := c_19
    show mp_W E X 9 11 [(0, .ref a0), (1, .int x0), (2, .int x1)] [.int (-6)] w2_ 0 0
    refine mp_run mp_k_cX10_said_ok hF mp_tabX10_ok [mp_i (.istore_n 3), mp_i (.iload_n 3), mp_h (.ifCond .eq 5) [18]] (by decide +kernel) ?_
    refine And.intro (fun c_172 => absurd c_172 (by decide)) (fun _ => ?_)
    show mp_W E X 9 16 [(3, .int (-6)), (0, .ref a0), (1, .int x0), (2, .int x1)] [] w2_ 0 0
    refine mp_run mp_k_cX10_said_ok hF mp_tabX10_ok [mp_i (.iload_n 3)] (by decide +kernel) ?_
    show mp_W E X 9 17 [(3, .int (-6)), (0, .ref a0), (1, .int x0), (2, .int x1)] [.int (-6)] w2_ 0 0
    exact mp_iret hF hQ rfl rfl (Nat.le_of_ble_eq_true rfl) (Nat.le_of_ble_eq_true rfl) [0, 1, 2, 3, 4, 5] (w' := w2_) rfl rfl (Or.inr (Or.inr ⟨rfl, (by first | omega | decide), (by first | omega | decide), (by first | omega | decide), x_20, rfl⟩)) (by first | exact mp_fd_ok mp_k_cX10_said_ok (by decide +kernel) | decide +kernel)
set_option maxHeartbeats 4000000 in
set_option maxRecDepth 100000 in
theorem bX10_span_145 (E : mp_E) (a0 a1 a2 a3 a4 a5 a6 a7 a8 a9 a10 a11 a12 a13 a14 a15 a16 a17 a18 a19 a20 a21 a22 a23 a24 a25 : Nat) (f0 : Nat → Int32) (f1 : Nat → Int32) (f2 : Nat → Int64) (f3 : Nat → Int32) (f4 : Nat → Int32) (y0 : Int32) (y1 : Int32) (y2 : Int32) (y3 : Int32) (y4 : Int32) (y5 : Int32) (y6 : Int64) (y7 : Int32) (y8 : Int32) (y9 : Int32) (y10 : Int32) (y11 : Int32) (y12 : Int32) (y13 : Int32) (y14 : Int32) (y15 : Int32) (y16 : Int32) (y17 : Int32) (y18 : Int32) (y19 : Int32) (y20 : Int32) (y21 : Int32) (x0 : Int32) (x1 : Int32) (x2 : Int32) (p0 : mp_all f1 4 0 60) (p1 : mp_res f3 25 5 0 0 6) (p2 : mp_res f3 25 5 1 0 99) (p3 : mp_res f3 25 5 2 0 6) (p4 : mp_res f3 25 5 3 0 10) (p5 : mp_res f3 25 5 4 0 60) (p6 : mp_res f4 300 6 0 0 5) (p7 : mp_res f4 300 6 1 0 5) (p8 : mp_res f4 300 6 3 0 99) (p9 : mp_res f4 300 6 4 0 1) (l_y1 : 0 ≤ y1.toInt) (u_y1 : y1.toInt ≤ 1600) (l_y2 : 0 ≤ y2.toInt) (u_y2 : y2.toInt ≤ 1600) (l_y3 : 0 ≤ y3.toInt) (u_y3 : y3.toInt ≤ 4) (l_y4 : 0 ≤ y4.toInt) (u_y4 : y4.toInt ≤ 1600) (l_y11 : 0 ≤ y11.toInt) (u_y11 : y11.toInt ≤ 99) (l_y12 : 0 ≤ y12.toInt) (u_y12 : y12.toInt ≤ 5) (l_y13 : 0 ≤ y13.toInt) (u_y13 : y13.toInt ≤ 12) (q0 : ∀ j : Nat, (j : Int) < (f3 3).toInt → 1 ≤ (f4 (6 * j + 2)).toInt ∧ (f4 (6 * j + 2)).toInt ≤ 1000000) : mp_Ct E yX10_span cX10_span 15 (some FieldType.int) 3 0 0 69 [.ref a0, .int x0, .int x1, .int x2] [(mp_ob10 a0 y0 a1 a2 a3 a6 a7 y1 y2 y3 y4 y5 y6 y7 y8 y9 y10 a8 a4 a9 a10 a11 a5 a12 a13 y11 a14 a15 a16 a17 y12 y13 y14 a18 a19 y15 y16 a20 a21 a22 y17 y18 y19 y20 a23 a24 a25 y21), (mp_arI E a1 0 4 f0), (mp_arI E a2 0 4 f1), (mp_arL E a3 240 f2), (mp_arI E a4 0 25 f3), (mp_arI E a5 0 300 f4)] (fun v w' => (v = some (.int (-2)) ∧ ((x2.toInt ≠ 0 ∧ x2.toInt ≠ 1) ∨ (x0.toInt < 0 ∨ 3 < x0.toInt ∨ x1.toInt < 0 ∨ (f3 3).toInt ≤ x1.toInt ∨ (0 ≤ x1.toInt ∧ x1.toInt < (f3 3).toInt ∧ (f4 (6 * x1.toInt.toNat + 5)).toInt ≠ -1)) ∨ (((0 ≤ x0.toInt ∧ x0.toInt ≤ 3) ∧ (0 ≤ x1.toInt ∧ x1.toInt < (f3 3).toInt) ∧ (f4 (6 * x1.toInt.toNat + 5)).toInt = -1) ∧ (f0 x0.toInt.toNat).toInt ≠ -1 ∧ ((f1 x0.toInt.toNat).toInt % 2 ≠ 0 ∨ ¬ mp_vd f2 x0.toInt ((f1 x0.toInt.toNat).toInt / 2).toNat (f4 (6 * x1.toInt.toNat + 3)).toInt))) ∧ w' = [(mp_ob10 a0 0 a1 a2 a3 a6 a7 y1 y2 y3 y4 y5 y6 y7 y8 y9 y10 a8 a4 a9 a10 a11 a5 a12 a13 y11 a14 a15 a16 a17 y12 y13 y14 a18 a19 y15 y16 a20 a21 a22 y17 y18 y19 y20 a23 a24 a25 y21), (mp_arI E a1 0 4 f0), (mp_arI E a2 0 4 f1), (mp_arL E a3 240 f2), (mp_arI E a4 0 25 f3), (mp_arI E a5 0 300 f4)]) ∨ (∃ r1 : Int32, v = some (.int r1) ∧ 0 ≤ x2.toInt ∧ x2.toInt ≤ 1 ∧ 0 ≤ x0.toInt ∧ x0.toInt ≤ 3 ∧ 0 ≤ x1.toInt ∧ ((x2.toInt = 0 ∨ x2.toInt = 1)) ∧ ((0 ≤ x0.toInt ∧ x0.toInt ≤ 3) ∧ (0 ≤ x1.toInt ∧ x1.toInt < (f3 3).toInt) ∧ (f4 (6 * x1.toInt.toNat + 5)).toInt = -1 ∧ (f0 x0.toInt.toNat).toInt ≠ -1 ∧ (f1 x0.toInt.toNat).toInt % 2 = 0) ∧ (mp_vd f2 x0.toInt ((f1 x0.toInt.toNat).toInt / 2).toNat (f4 (6 * x1.toInt.toNat + 3)).toInt) ∧ (r1.toInt = mp_spA f2 x0.toInt (f4 (6 * x1.toInt.toNat + 3)).toInt (f4 (6 * x1.toInt.toNat + 4)).toInt ((f1 x0.toInt.toNat).toInt / 2).toNat x2.toInt) ∧ w' = [(mp_ob10 a0 0 a1 a2 a3 a6 a7 y1 y2 y3 y4 y5 y6 y7 y8 y9 y10 a8 a4 a9 a10 a11 a5 a12 a13 y11 a14 a15 a16 a17 y12 y13 y14 a18 a19 y15 y16 a20 a21 a22 y17 y18 y19 y20 a23 a24 a25 y21), (mp_arI E a1 0 4 f0), (mp_arI E a2 0 4 f1), (mp_arL E a3 240 f2), (mp_arI E a4 0 25 f3), (mp_arI E a5 0 300 f4)]) ∨ (v = some (.int (-6)) ∧ 0 ≤ x2.toInt ∧ x2.toInt ≤ 1 ∧ 0 ≤ x0.toInt ∧ x0.toInt ≤ 3 ∧ 0 ≤ x1.toInt ∧ ((x2.toInt = 0 ∨ x2.toInt = 1)) ∧ ((0 ≤ x0.toInt ∧ x0.toInt ≤ 3) ∧ (0 ≤ x1.toInt ∧ x1.toInt < (f3 3).toInt) ∧ (f4 (6 * x1.toInt.toNat + 5)).toInt = -1 ∧ (f0 x0.toInt.toNat).toInt = -1) ∧ w' = [(mp_ob10 a0 0 a1 a2 a3 a6 a7 y1 y2 y3 y4 y5 y6 y7 y8 y9 y10 a8 a4 a9 a10 a11 a5 a12 a13 y11 a14 a15 a16 a17 y12 y13 y14 a18 a19 y15 y16 a20 a21 a22 y17 y18 y19 y20 a23 a24 a25 y21), (mp_arI E a1 0 4 f0), (mp_arI E a2 0 4 f1), (mp_arL E a3 240 f2), (mp_arI E a4 0 25 f3), (mp_arI E a5 0 300 f4)])) := by
  refine mp_met false (by decide) (by decide) (Nat.le_of_ble_eq_true rfl) (fun X hF hQ => ?_)
  have hF : mp_F E X (RX10, cX10_span, 15, (3, 0, 0, 69), (some FieldType.int), false) := hF
  let w1_ : va_W := [(mp_ob10 a0 y0 a1 a2 a3 a6 a7 y1 y2 y3 y4 y5 y6 y7 y8 y9 y10 a8 a4 a9 a10 a11 a5 a12 a13 y11 a14 a15 a16 a17 y12 y13 y14 a18 a19 y15 y16 a20 a21 a22 y17 y18 y19 y20 a23 a24 a25 y21), (mp_arI E a1 0 4 f0), (mp_arI E a2 0 4 f1), (mp_arL E a3 240 f2), (mp_arI E a4 0 25 f3), (mp_arI E a5 0 300 f4)]
  show mp_W E X 15 0 [(0, .ref a0), (1, .int x0), (2, .int x1), (3, .int x2)] [] w1_ 0 0
  refine mp_run mp_k_cX10_span_ok hF mp_tabX10_ok [mp_i (.aload_n 0), mp_c (.iconst 0) 0, mp_h (.putfield 92) [0, 0]] (by decide +kernel) ?_
  refine And.intro rfl (And.intro rfl (And.intro rfl (And.intro rfl (And.intro (Nat.le_of_ble_eq_true rfl) ?_))))
  let w2_ : va_W := [(mp_ob10 a0 0 a1 a2 a3 a6 a7 y1 y2 y3 y4 y5 y6 y7 y8 y9 y10 a8 a4 a9 a10 a11 a5 a12 a13 y11 a14 a15 a16 a17 y12 y13 y14 a18 a19 y15 y16 a20 a21 a22 y17 y18 y19 y20 a23 a24 a25 y21), (mp_arI E a1 0 4 f0), (mp_arI E a2 0 4 f1), (mp_arL E a3 240 f2), (mp_arI E a4 0 25 f3), (mp_arI E a5 0 300 f4)]
  show mp_W E X 15 5 [(0, .ref a0), (1, .int x0), (2, .int x1), (3, .int x2)] [] w2_ 0 0
  refine mp_run mp_k_cX10_span_ok hF mp_tabX10_ok [mp_i (.iload_n 3), mp_i .i2l, mp_cl (.lconst 0) 0, mp_cl (.lconst 1) 1] (by decide +kernel) ?_
  intro z_1 h_2
  have e_3 : z_1.toInt = x2.toInt := mp_i2l h_2
  show mp_W E X 15 9 [(0, .ref a0), (1, .int x0), (2, .int x1), (3, .int x2)] [.long 1, .long 0, .long z_1] w2_ 0 0
  refine mp_callS hF (As := [.long z_1, .long 0, .long 1]) (rest := []) (wr := w2_) (bX10_in_0 E z_1 0 1) mp_lkX10_97 [] [0, 1, 2, 3, 4, 5] rfl rfl rfl rfl rfl ⟨(Nat.le_of_ble_eq_true rfl), (Nat.le_of_ble_eq_true rfl), (Nat.le_of_ble_eq_true rfl), (Nat.le_of_ble_eq_true rfl)⟩ (Nat.le_of_ble_eq_true rfl) (by first | exact mp_fd_ok mp_k_cX10_span_ok (by decide +kernel) | decide +kernel) (fun v_4 w_5 h_6 => ?_)
  rcases h_6 with ⟨rfl, x_7, rfl⟩ | ⟨rfl, c_8, c_9, rfl⟩
  · skip
    have i_10 : (0 : Int64).toInt = 0 := by decide
    have i_11 : (1 : Int64).toInt = 1 := by decide
    show mp_W E X 15 12 [(0, .ref a0), (1, .int x0), (2, .int x1), (3, .int x2)] [.int 0] w2_ 0 0
    refine mp_run mp_k_cX10_span_ok hF mp_tabX10_ok [mp_h (.ifCond .eq 12) [24]] (by decide +kernel) ?_
    refine And.intro (fun _ => ?_) (fun c_12 => absurd c_12 (by decide))
    show mp_W E X 15 24 [(0, .ref a0), (1, .int x0), (2, .int x1), (3, .int x2)] [] w2_ 0 0
    refine mp_run mp_k_cX10_span_ok hF mp_tabX10_ok [mp_c (.bipush (-2)) (-2), mp_i (.istore 4), mp_i (.iload 4), mp_h (.ifCond .eq 6) [36]] (by decide +kernel) ?_
    refine And.intro (fun c_13 => absurd c_13 (by decide)) (fun _ => ?_)
    show mp_W E X 15 33 [(4, .int (-2)), (0, .ref a0), (1, .int x0), (2, .int x1), (3, .int x2)] [] w2_ 0 0
    refine mp_run mp_k_cX10_span_ok hF mp_tabX10_ok [mp_i (.iload 4)] (by decide +kernel) ?_
    show mp_W E X 15 35 [(4, .int (-2)), (0, .ref a0), (1, .int x0), (2, .int x1), (3, .int x2)] [.int (-2)] w2_ 0 0
    exact mp_iret hF hQ rfl rfl (Nat.le_of_ble_eq_true rfl) (Nat.le_of_ble_eq_true rfl) [0, 1, 2, 3, 4, 5] (w' := w2_) rfl rfl (Or.inl ⟨rfl, (Or.inl (by have z0 : (0 : Int64).toInt = 0 := rfl; have z1 : (1 : Int64).toInt = 1 := rfl; (first | exact mp_o2547 e_3 x_7 i_10 i_11 h_1 | omega))), rfl⟩) (by first | exact mp_fd_ok mp_k_cX10_span_ok (by decide +kernel) | decide +kernel)
  · skip
    have c_8 : 0 ≤ z_1.toInt := c_8
    have c_9 : z_1.toInt ≤ 1 := c_9
    have i_14 : (0 : Int64).toInt = 0 := by decide
    have i_15 : (1 : Int64).toInt = 1 := by decide
    show mp_W E X 15 12 [(0, .ref a0), (1, .int x0), (2, .int x1), (3, .int x2)] [.int 1] w2_ 0 0
    refine mp_run mp_k_cX10_span_ok hF mp_tabX10_ok [mp_h (.ifCond .eq 12) [24]] (by decide +kernel) ?_
    refine And.intro (fun c_16 => absurd c_16 (by decide)) (fun _ => ?_)
    show mp_W E X 15 15 [(0, .ref a0), (1, .int x0), (2, .int x1), (3, .int x2)] [] w2_ 0 0
    refine mp_run mp_k_cX10_span_ok hF mp_tabX10_ok [mp_i (.aload_n 0), mp_i (.iload_n 1), mp_i (.iload_n 2)] (by decide +kernel) ?_
    show mp_W E X 15 18 [(0, .ref a0), (1, .int x0), (2, .int x1), (3, .int x2)] [.int x1, .int x0, .ref a0] w2_ 0 0
    refine mp_callV hF (As := [.int x0, .int x1]) (rest := []) (wr := []) (bX10_whyNot_135 E a0 a1 a2 a3 a4 a5 a6 a7 a8 a9 a10 a11 a12 a13 a14 a15 a16 a17 a18 a19 a20 a21 a22 a23 a24 a25 f0 f1 f2 f3 f4 0 y1 y2 y3 y4 y5 y6 y7 y8 y9 y10 y11 y12 y13 y14 y15 y16 y17 y18 y19 y20 y21 x0 x1 p0 p1 p2 p3 p4 p5 p6 p7 p8 p9 l_y1 u_y1 l_y2 u_y2 l_y3 u_y3 l_y4 u_y4 l_y11 u_y11 l_y12 u_y12 l_y13 u_y13) mp_lkX10_432 0 rfl [0, 1, 2, 3, 4, 5] [] rfl rfl rfl rfl rfl ⟨(Nat.le_of_ble_eq_true rfl), (Nat.le_of_ble_eq_true rfl), (Nat.le_of_ble_eq_true rfl), (Nat.le_of_ble_eq_true rfl)⟩ (Nat.le_of_ble_eq_true rfl) (by first | exact mp_fd_ok mp_k_cX10_span_ok (by decide +kernel) | decide +kernel) (fun v_17 w_18 h_19 => ?_)
    refine h_19.elim (fun q_37 => ?_) (fun q_38 => q_38.elim (fun q_39 => ?_) (fun q_40 => ?_))
    · skip
      refine q_37.elim fun e_41 q_42 => q_42.elim fun x_20 e_43 => ?_
      clear h_19 q_37 q_42
      subst e_41
      subst e_43
      show mp_W E X 15 21 [(0, .ref a0), (1, .int x0), (2, .int x1), (3, .int x2)] [.int (-2)] w2_ 0 0
      refine mp_run mp_k_cX10_span_ok hF mp_tabX10_ok [mp_h (.goto 5) [26], mp_i (.istore 4), mp_i (.iload 4), mp_h (.ifCond .eq 6) [36]] (by decide +kernel) ?_
      refine And.intro (fun c_44 => absurd c_44 (by decide)) (fun _ => ?_)
      show mp_W E X 15 33 [(4, .int (-2)), (0, .ref a0), (1, .int x0), (2, .int x1), (3, .int x2)] [] w2_ 0 0
      refine mp_run mp_k_cX10_span_ok hF mp_tabX10_ok [mp_i (.iload 4)] (by decide +kernel) ?_
      show mp_W E X 15 35 [(4, .int (-2)), (0, .ref a0), (1, .int x0), (2, .int x1), (3, .int x2)] [.int (-2)] w2_ 0 0
      exact mp_iret hF hQ rfl rfl (Nat.le_of_ble_eq_true rfl) (Nat.le_of_ble_eq_true rfl) [0, 1, 2, 3, 4, 5] (w' := w2_) rfl rfl (Or.inl ⟨rfl, (Or.inr x_20), rfl⟩) (by first | exact mp_fd_ok mp_k_cX10_span_ok (by decide +kernel) | decide +kernel)
    · skip
      refine q_39.elim fun e_45 q_46 => q_46.elim fun c_21 q_47 => q_47.elim fun c_22 q_48 => q_48.elim fun c_23 q_49 => q_49.elim fun x_24 q_50 => q_50.elim fun x_25 q_51 => q_51.elim fun x_26 q_52 => q_52.elim fun x_27 q_53 => q_53.elim fun x_28 q_54 => q_54.elim fun x_29 q_55 => q_55.elim fun x_30 q_56 => q_56.elim fun x_31 q_57 => q_57.elim fun x_32 e_58 => ?_
      clear h_19 q_38 q_39 q_46 q_47 q_48 q_49 q_50 q_51 q_52 q_53 q_54 q_55 q_56 q_57
      subst e_45
      subst e_58
      have c_21 : 0 ≤ x0.toInt := c_21
      have c_22 : x0.toInt ≤ 3 := c_22
      have c_23 : 0 ≤ x1.toInt := c_23
      show mp_W E X 15 21 [(0, .ref a0), (1, .int x0), (2, .int x1), (3, .int x2)] [.int 0] w2_ 0 0
      refine mp_run mp_k_cX10_span_ok hF mp_tabX10_ok [mp_h (.goto 5) [26], mp_i (.istore 4), mp_i (.iload 4), mp_h (.ifCond .eq 6) [36]] (by decide +kernel) ?_
      refine And.intro (fun _ => ?_) (fun c_59 => absurd c_59 (by decide))
      show mp_W E X 15 36 [(4, .int 0), (0, .ref a0), (1, .int x0), (2, .int x1), (3, .int x2)] [] w2_ 0 0
      refine mp_run mp_k_cX10_span_ok hF mp_tabX10_ok [mp_cl (.lconst 1) 1, mp_i (.lstore 5), mp_cl (.ldc2_w 412) 1000000, mp_i (.lstore 7), mp_c (.iconst 0) 0, mp_i (.istore 9)] (by decide +kernel) ?_
      show mp_W E X 15 47 [(9, .int 0), (7, .long 1000000), (5, .long 1), (4, .int 0), (0, .ref a0), (1, .int x0), (2, .int x1), (3, .int x2)] [] w2_ 0 0
      have lp_70 : ∀ (d_71 : Nat) (i_60 : Int32) (i_61 : Int64) (i_62 : Int64), 0 ≤ i_60.toInt → i_60.toInt ≤ 78 → 1 ≤ i_62.toInt → (i_60.toInt % 2 = 0) → (0 ≤ i_60.toInt ∧ i_60.toInt ≤ (f1 x0.toInt.toNat).toInt) → (i_62.toInt = mp_spL f2 x0.toInt (f4 (6 * x1.toInt.toNat + 3)).toInt (f4 (6 * x1.toInt.toNat + 4)).toInt (i_60.toInt / 2).toNat) → (i_61.toInt = mp_spH f2 x0.toInt (f4 (6 * x1.toInt.toNat + 3)).toInt (f4 (6 * x1.toInt.toNat + 4)).toInt (i_60.toInt / 2).toNat) → (f1 x0.toInt.toNat).toInt - i_60.toInt ≤ (d_71 : Int) → mp_W E X 15 47 [(9, .int i_60), (7, .long i_61), (5, .long i_62), (4, .int 0), (0, .ref a0), (1, .int x0), (2, .int x1), (3, .int x2)] [] [(mp_ob10 a0 0 a1 a2 a3 a6 a7 y1 y2 y3 y4 y5 y6 y7 y8 y9 y10 a8 a4 a9 a10 a11 a5 a12 a13 y11 a14 a15 a16 a17 y12 y13 y14 a18 a19 y15 y16 a20 a21 a22 y17 y18 y19 y20 a23 a24 a25 y21), (mp_arI E a1 0 4 f0), (mp_arI E a2 0 4 f1), (mp_arL E a3 240 f2), (mp_arI E a4 0 25 f3), (mp_arI E a5 0 300 f4)] 0 0 := by
        intro d_71
        induction d_71 using Nat.strongRecOn with
        | ind d_71 ih_72 =>
          intro i_60 i_61 i_62 l_63 u_64 l_65 x_66 x_67 x_68 x_69 hm_73
          refine mp_run mp_k_cX10_span_ok hF mp_tabX10_ok [mp_i (.iload 9), mp_i (.aload_n 0), mp_h (.getfield 13) [2, 0], mp_i (.iload_n 1), mp_h .iaload [2], mp_h (.if_icmp .ge 105) [160]] (by decide +kernel) ?_
          refine And.intro rfl (And.intro rfl ?_)
          refine And.intro rfl (And.intro rfl (And.intro (vp_in_iff.mpr (by (first | exact mp_o901 c_21_1 c_22_1 | omega))) ?_))
          intro z_74 h_75
          have e_76 : 0 ≤ z_74.toInt ∧ z_74.toInt ≤ 60 := mp_all_ld h_75 p0 (by (first | exact c_21 | omega)) (by (first | exact mp_o902 c_21_1 c_22_1 | omega))
          have e_77 : z_74.toInt = (f1 x0.toInt.toNat).toInt := congrArg Int32.toInt h_75
          have e_78 : z_74.toInt = (f1 x0.toInt.toNat).toInt := congrArg Int32.toInt h_75
          refine And.intro (fun c_79 => ?_) (fun c_79 => ?_)
          · have c_79 : z_74.toInt ≤ i_60.toInt := c_79
            show mp_W E X 15 160 [(9, .int i_60), (7, .long i_61), (5, .long i_62), (4, .int 0), (0, .ref a0), (1, .int x0), (2, .int x1), (3, .int x2)] [] w2_ 0 0
            refine mp_run mp_k_cX10_span_ok hF mp_tabX10_ok [mp_i (.lload 5), mp_i (.lload 7), mp_i .lcmp, mp_h (.ifCond .le 7) [172]] (by decide +kernel) ?_
            intro z_80 h_81
            refine And.intro (fun c_82 => ?_) (fun c_82 => ?_)
            · have c_82 : i_62.toInt ≤ i_61.toInt := mp_lc_le h_81 c_82
              show mp_W E X 15 172 [(9, .int i_60), (7, .long i_61), (5, .long i_62), (4, .int 0), (0, .ref a0), (1, .int x0), (2, .int x1), (3, .int x2)] [] w2_ 0 0
              refine mp_run mp_k_cX10_span_ok hF mp_tabX10_ok [mp_i (.iload_n 3), mp_h (.ifCond .ne 8) [181]] (by decide +kernel) ?_
              refine And.intro (fun c_83 => ?_) (fun c_83 => ?_)
              · have c_83 : x2.toInt ≠ 0 := c_83
                show mp_W E X 15 181 [(9, .int i_60), (7, .long i_61), (5, .long i_62), (4, .int 0), (0, .ref a0), (1, .int x0), (2, .int x1), (3, .int x2)] [] w2_ 0 0
                refine mp_run mp_k_cX10_span_ok hF mp_tabX10_ok [mp_i (.lload 7), mp_i .l2i] (by decide +kernel) ?_
                intro z_84 h_85
                show mp_W E X 15 184 [(9, .int i_60), (7, .long i_61), (5, .long i_62), (4, .int 0), (0, .ref a0), (1, .int x0), (2, .int x1), (3, .int x2)] [.int z_84] w2_ 0 0
                exact mp_iret hF hQ rfl rfl (Nat.le_of_ble_eq_true rfl) (Nat.le_of_ble_eq_true rfl) [0, 1, 2, 3, 4, 5] (w' := w2_) rfl rfl (Or.inr (Or.inl ⟨z_84, rfl, (by first | (first | exact mp_o2548 e_3 c_8 c_9 | omega) | decide), (by first | (first | exact mp_o2549 e_3 c_8 c_9 | omega) | decide), (by first | (first | exact c_21 | omega) | decide), (by first | (first | exact c_22 | omega) | decide), (by first | (first | exact c_23 | omega) | decide), (by have z0 : (0 : Int64).toInt = 0 := rfl; have z1 : (1 : Int64).toInt = 1 := rfl; (first | exact mp_o2550 e_3 c_8 c_9 | omega)), x_30, x_31, (mp_spA_i (l := i_62.toInt) (h := i_61.toInt) (by have k9 := x_68; rw [show (i_60.toInt / 2).toNat = ((f1 x0.toInt.toNat).toInt / 2).toNat from by (first | exact mp_o2551 x_28 x_32 l_63 u_64 x_66 x_67 e_76 e_77 c_79_1 | omega)] at k9; exact k9) (by have k9 := x_69; rw [show (i_60.toInt / 2).toNat = ((f1 x0.toInt.toNat).toInt / 2).toNat from by (first | exact mp_o2551 x_28 x_32 l_63 u_64 x_66 x_67 e_76 e_77 c_79_1 | omega)] at k9; exact k9) (Or.inr ⟨by (first | exact c_82 | omega), by have k7 := mp_spB x_68 x_69; have k4 := mp_l_32 h_85 ⟨by (first | exact mp_o2552 l_65 x_68 x_69 c_82 | omega), by (first | exact mp_o2553 x_69 k7 | omega)⟩; (first | exact mp_o2554 x_68 x_69 c_82 c_83 k4 | omega)⟩)), rfl⟩)) (by first | exact mp_fd_ok mp_k_cX10_span_ok (by decide +kernel) | decide +kernel)
              · have c_83 : x2.toInt = 0 := (congrArg Int32.toInt c_83)
                show mp_W E X 15 176 [(9, .int i_60), (7, .long i_61), (5, .long i_62), (4, .int 0), (0, .ref a0), (1, .int x0), (2, .int x1), (3, .int x2)] [] w2_ 0 0
                refine mp_run mp_k_cX10_span_ok hF mp_tabX10_ok [mp_i (.lload 5), mp_h (.goto 5) [183], mp_i .l2i] (by decide +kernel) ?_
                intro z_86 h_87
                show mp_W E X 15 184 [(9, .int i_60), (7, .long i_61), (5, .long i_62), (4, .int 0), (0, .ref a0), (1, .int x0), (2, .int x1), (3, .int x2)] [.int z_86] w2_ 0 0
                exact mp_iret hF hQ rfl rfl (Nat.le_of_ble_eq_true rfl) (Nat.le_of_ble_eq_true rfl) [0, 1, 2, 3, 4, 5] (w' := w2_) rfl rfl (Or.inr (Or.inl ⟨z_86, rfl, (by first | (first | exact mp_o1883 c_83 | omega) | decide), (by first | (first | exact mp_o2555 c_83 | omega) | decide), (by first | (first | exact c_21 | omega) | decide), (by first | (first | exact c_22 | omega) | decide), (by first | (first | exact c_23 | omega) | decide), (by have z0 : (0 : Int64).toInt = 0 := rfl; have z1 : (1 : Int64).toInt = 1 := rfl; (first | exact mp_o1111 c_83 | omega)), x_30, x_31, (mp_spA_i (l := i_62.toInt) (h := i_61.toInt) (by have k9 := x_68; rw [show (i_60.toInt / 2).toNat = ((f1 x0.toInt.toNat).toInt / 2).toNat from by (first | exact mp_o2551 x_28 x_32 l_63 u_64 x_66 x_67 e_76 e_77 c_79_1 | omega)] at k9; exact k9) (by have k9 := x_69; rw [show (i_60.toInt / 2).toNat = ((f1 x0.toInt.toNat).toInt / 2).toNat from by (first | exact mp_o2551 x_28 x_32 l_63 u_64 x_66 x_67 e_76 e_77 c_79_1 | omega)] at k9; exact k9) (Or.inr ⟨by (first | exact c_82 | omega), by have k7 := mp_spB x_68 x_69; have k4 := mp_l_32 h_87 ⟨by (first | exact mp_o2556 l_65 x_68 | omega), by (first | exact mp_o2557 x_68 x_69 c_82 k7 | omega)⟩; (first | exact mp_o2558 x_68 x_69 c_82 c_83 k4 | omega)⟩)), rfl⟩)) (by first | exact mp_fd_ok mp_k_cX10_span_ok (by decide +kernel) | decide +kernel)
            · have c_82 : i_61.toInt < i_62.toInt := mp_lc_gt h_81 c_82
              show mp_W E X 15 168 [(9, .int i_60), (7, .long i_61), (5, .long i_62), (4, .int 0), (0, .ref a0), (1, .int x0), (2, .int x1), (3, .int x2)] [] w2_ 0 0
              refine mp_run mp_k_cX10_span_ok hF mp_tabX10_ok [mp_c (.iconst (-1)) (-1), mp_h (.goto 15) [184]] (by decide +kernel) ?_
              show mp_W E X 15 184 [(9, .int i_60), (7, .long i_61), (5, .long i_62), (4, .int 0), (0, .ref a0), (1, .int x0), (2, .int x1), (3, .int x2)] [.int (-1)] w2_ 0 0
              exact mp_iret hF hQ rfl rfl (Nat.le_of_ble_eq_true rfl) (Nat.le_of_ble_eq_true rfl) [0, 1, 2, 3, 4, 5] (w' := w2_) rfl rfl (Or.inr (Or.inl ⟨(-1), rfl, (by first | (first | exact mp_o2548 e_3 c_8 c_9 | omega) | decide), (by first | (first | exact mp_o2549 e_3 c_8 c_9 | omega) | decide), (by first | (first | exact c_21 | omega) | decide), (by first | (first | exact c_22 | omega) | decide), (by first | (first | exact c_23 | omega) | decide), (by have z0 : (0 : Int64).toInt = 0 := rfl; have z1 : (1 : Int64).toInt = 1 := rfl; (first | exact mp_o2550 e_3 c_8 c_9 | omega)), x_30, x_31, (mp_spA_i (l := i_62.toInt) (h := i_61.toInt) (by have k9 := x_68; rw [show (i_60.toInt / 2).toNat = ((f1 x0.toInt.toNat).toInt / 2).toNat from by (first | exact mp_o2551 x_28 x_32 l_63 u_64 x_66 x_67 e_76 e_77 c_79_1 | omega)] at k9; exact k9) (by have k9 := x_69; rw [show (i_60.toInt / 2).toNat = ((f1 x0.toInt.toNat).toInt / 2).toNat from by (first | exact mp_o2551 x_28 x_32 l_63 u_64 x_66 x_67 e_76 e_77 c_79_1 | omega)] at k9; exact k9) (Or.inl ⟨by (first | exact c_82 | omega), by decide⟩)), rfl⟩)) (by first | exact mp_fd_ok mp_k_cX10_span_ok (by decide +kernel) | decide +kernel)
          · have c_79 : i_60.toInt < z_74.toInt := c_79
            show mp_W E X 15 58 [(9, .int i_60), (7, .long i_61), (5, .long i_62), (4, .int 0), (0, .ref a0), (1, .int x0), (2, .int x1), (3, .int x2)] [] w2_ 0 0
            refine mp_run mp_k_cX10_span_ok hF mp_tabX10_ok [mp_i (.aload_n 0), mp_h (.getfield 16) [3, 0], mp_c (.bipush 60) 60, mp_i (.iload_n 1), mp_i .imul, mp_i (.iload 9), mp_i .iadd, mp_h .laload [3], mp_i .l2i, mp_i (.aload_n 0), mp_i (.iload_n 2), mp_c (.iconst 3) 3] (by decide +kernel) ?_
            refine And.intro rfl (And.intro rfl ?_)
            intro z_88 h_89
            have e_90 : z_88.toInt = 60 * x0.toInt := mp_mul (a := 60) (b := x0.toInt) h_89 (by decide) rfl (by (first | exact mp_o1295 c_21_1 c_22_1 | omega)) (by (first | exact mp_o1296 c_21_1 c_22_1 | omega))
            intro z_91 h_92
            have e_93 : z_91.toInt = z_88.toInt + i_60.toInt := mp_add (a := z_88.toInt) (b := i_60.toInt) h_92 rfl rfl (by (first | exact mp_o2525 c_21_1 c_22_1 l_63 u_64 x_66 e_90 | omega)) (by (first | exact mp_o2559 c_21_1 c_22_1 x_28 x_66 e_76 e_77 c_79_1 e_90 | omega))
            refine And.intro rfl (And.intro rfl (And.intro (vp_in_iff.mpr (by (first | exact mp_o2527 c_21_1 c_22_1 x_28 l_63 u_64 x_66 e_76 e_77 c_79_1 e_90 e_93 | omega))) ?_))
            intro z_94 h_95
            have e_96 := mp_res_at p8 (6 * x1.toInt.toNat + 3) (by (first | exact mp_o2528 c_23_1 x_27 | omega)) (by (first | exact mp_o2529 | omega))
            have e_97 := mp_res_at p9 (6 * x1.toInt.toNat + 4) (by (first | exact mp_o2560 c_23_1 x_27 | omega)) (by (first | exact mp_o2561 | omega))
            have pt_98 : z_94.toInt = mp_pt f2 x0.toInt (i_60.toInt / 2).toNat := mp_pt_at h_95 (by simp only [Int32.toNatClampNeg]; (first | exact mp_o2562 c_21_1 c_22_1 l_63 u_64 x_66 e_90 e_93 | omega))
            have e_99 := x_31 (i_60.toInt / 2).toNat (by (first | exact mp_o2563 x_28 x_32 l_63 u_64 x_66 x_67 e_76 e_77 c_79_1 | omega))
            intro z_100 h_101
            have e_102 : z_100.toInt = z_94.toInt := mp_l_32 h_101 ⟨by (first | exact mp_o2564 e_96 pt_98 e_99 | omega), by (first | exact mp_o2565 e_96 pt_98 e_99 | omega)⟩
            show mp_W E X 15 74 [(9, .int i_60), (7, .long i_61), (5, .long i_62), (4, .int 0), (0, .ref a0), (1, .int x0), (2, .int x1), (3, .int x2)] [.int 3, .int x1, .ref a0, .int z_100] w2_ 0 0
            refine mp_callV hF (As := [.int x1, .int 3]) (rest := [.int z_100]) (wr := [(mp_arI E a1 0 4 f0), (mp_arI E a2 0 4 f1), (mp_arL E a3 240 f2), (mp_arI E a4 0 25 f3)]) (bX10_of_63 E a0 a5 a1 a2 a3 a6 a7 a8 a4 a9 a10 a11 a12 a13 a14 a15 a16 a17 a18 a19 a20 a21 a22 a23 a24 a25 f4 0 y1 y2 y3 y4 y5 y6 y7 y8 y9 y10 y11 y12 y13 y14 y15 y16 y17 y18 y19 y20 y21 x1 p6 p7 p8 p9 (by (first | exact c_23 | omega)) (by (first | exact x_27 | omega)) l_y1 u_y1 l_y2 u_y2 l_y3 u_y3 l_y4 u_y4 l_y11 u_y11 l_y12 u_y12 l_y13 u_y13) mp_lkX10_267 0 rfl [0, 5] [1, 2, 3, 4] rfl rfl rfl rfl rfl ⟨(Nat.le_of_ble_eq_true rfl), (Nat.le_of_ble_eq_true rfl), (Nat.le_of_ble_eq_true rfl), (Nat.le_of_ble_eq_true rfl)⟩ (Nat.le_of_ble_eq_true rfl) (by first | exact mp_fd_ok mp_k_cX10_span_ok (by decide +kernel) | decide +kernel) (fun v_103 w_104 h_105 => ?_)
            refine h_105.elim fun r_106 q_110 => q_110.elim fun e_111 q_112 => q_112.elim fun l_107 q_113 => q_113.elim fun u_108 q_114 => q_114.elim fun x_109 e_115 => ?_
            clear h_105 q_110 q_112 q_113 q_114
            subst e_111
            subst e_115
            let w3_ : va_W := [(mp_arI E a1 0 4 f0), (mp_arI E a2 0 4 f1), (mp_arL E a3 240 f2), (mp_arI E a4 0 25 f3), (mp_ob10 a0 0 a1 a2 a3 a6 a7 y1 y2 y3 y4 y5 y6 y7 y8 y9 y10 a8 a4 a9 a10 a11 a5 a12 a13 y11 a14 a15 a16 a17 y12 y13 y14 a18 a19 y15 y16 a20 a21 a22 y17 y18 y19 y20 a23 a24 a25 y21), (mp_arI E a5 0 300 f4)]
            show mp_W E X 15 77 [(9, .int i_60), (7, .long i_61), (5, .long i_62), (4, .int 0), (0, .ref a0), (1, .int x0), (2, .int x1), (3, .int x2)] [.int r_106, .int z_100] w3_ 0 0
            refine mp_run mp_k_cX10_span_ok hF mp_tabX10_ok [mp_i .isub, mp_i (.aload_n 0), mp_i (.iload_n 2), mp_c (.iconst 4) 4] (by decide +kernel) ?_
            intro z_116 h_117
            have e_118 : z_116.toInt = z_100.toInt - r_106.toInt := mp_subi (a := z_100.toInt) (b := r_106.toInt) h_117 rfl rfl (by (first | exact mp_o2566 pt_98 e_99 e_102 x_109 | omega)) (by (first | exact mp_o2567 pt_98 e_99 e_102 x_109 | omega))
            show mp_W E X 15 81 [(9, .int i_60), (7, .long i_61), (5, .long i_62), (4, .int 0), (0, .ref a0), (1, .int x0), (2, .int x1), (3, .int x2)] [.int 4, .int x1, .ref a0, .int z_116] w3_ 0 0
            refine mp_callV hF (As := [.int x1, .int 4]) (rest := [.int z_116]) (wr := [(mp_arI E a1 0 4 f0), (mp_arI E a2 0 4 f1), (mp_arL E a3 240 f2), (mp_arI E a4 0 25 f3)]) (bX10_of_65 E a0 a5 a1 a2 a3 a6 a7 a8 a4 a9 a10 a11 a12 a13 a14 a15 a16 a17 a18 a19 a20 a21 a22 a23 a24 a25 f4 0 y1 y2 y3 y4 y5 y6 y7 y8 y9 y10 y11 y12 y13 y14 y15 y16 y17 y18 y19 y20 y21 x1 p6 p7 p8 p9 (by (first | exact c_23 | omega)) (by (first | exact x_27 | omega)) l_y1 u_y1 l_y2 u_y2 l_y3 u_y3 l_y4 u_y4 l_y11 u_y11 l_y12 u_y12 l_y13 u_y13) mp_lkX10_267 4 rfl [4, 5] [0, 1, 2, 3] rfl rfl rfl rfl rfl ⟨(Nat.le_of_ble_eq_true rfl), (Nat.le_of_ble_eq_true rfl), (Nat.le_of_ble_eq_true rfl), (Nat.le_of_ble_eq_true rfl)⟩ (Nat.le_of_ble_eq_true rfl) (by first | exact mp_fd_ok mp_k_cX10_span_ok (by decide +kernel) | decide +kernel) (fun v_119 w_120 h_121 => ?_)
            refine h_121.elim fun r_122 q_126 => q_126.elim fun e_127 q_128 => q_128.elim fun l_123 q_129 => q_129.elim fun u_124 q_130 => q_130.elim fun x_125 e_131 => ?_
            clear h_121 q_126 q_128 q_129 q_130
            subst e_127
            subst e_131
            show mp_W E X 15 84 [(9, .int i_60), (7, .long i_61), (5, .long i_62), (4, .int 0), (0, .ref a0), (1, .int x0), (2, .int x1), (3, .int x2)] [.int r_122, .int z_116] w3_ 0 0
            refine mp_run mp_k_cX10_span_ok hF mp_tabX10_ok [mp_i .iadd, mp_i (.istore 10), mp_i (.aload_n 0), mp_h (.getfield 16) [3, 4], mp_c (.bipush 60) 60, mp_i (.iload_n 1), mp_i .imul, mp_i (.iload 9), mp_i .iadd, mp_c (.iconst 1) 1, mp_i .iadd, mp_h .laload [2], mp_i (.lstore 11), mp_i (.lload 11), mp_cl (.lconst 1) 1, mp_i .lsub, mp_i (.iload 10), mp_i .lshl, mp_cl (.lconst 1) 1, mp_i .ladd, mp_i (.lstore 13), mp_i (.lload 13), mp_i (.lload 5), mp_i .lcmp, mp_h (.ifCond .le 8) [127]] (by decide +kernel) ?_
            intro z_132 h_133
            have e_134 : z_132.toInt = z_116.toInt + r_122.toInt := mp_add (a := z_116.toInt) (b := r_122.toInt) h_133 rfl rfl (by (first | exact mp_o2568 pt_98 e_99 e_102 x_109 e_118 l_123 u_124 | omega)) (by (first | exact mp_o2569 pt_98 e_99 e_102 x_109 e_118 l_123 u_124 | omega))
            refine And.intro rfl (And.intro rfl ?_)
            intro z_135 h_136
            have e_137 : z_135.toInt = 60 * x0.toInt := mp_mul (a := 60) (b := x0.toInt) h_136 (by decide) rfl (by (first | exact mp_o1295 c_21_1 c_22_1 | omega)) (by (first | exact mp_o1296 c_21_1 c_22_1 | omega))
            intro z_138 h_139
            have e_140 : z_138.toInt = z_135.toInt + i_60.toInt := mp_add (a := z_135.toInt) (b := i_60.toInt) h_139 rfl rfl (by (first | exact mp_o2525 c_21_1 c_22_1 l_63 u_64 x_66 e_137 | omega)) (by (first | exact mp_o2559 c_21_1 c_22_1 x_28 x_66 e_76 e_77 c_79_1 e_137 | omega))
            intro z_141 h_142
            have e_143 : z_141.toInt = z_138.toInt + 1 := mp_add (a := z_138.toInt) (b := 1) h_142 rfl (by decide) (by (first | exact mp_o2570 c_21_1 c_22_1 l_63 u_64 x_66 e_137 e_140 | omega)) (by (first | exact mp_o2571 c_21_1 c_22_1 x_28 x_66 e_76 e_77 c_79_1 e_137 e_140 | omega))
            refine And.intro rfl (And.intro rfl (And.intro (vp_in_iff.mpr (by (first | exact mp_o2572 c_21_1 c_22_1 x_28 l_63 u_64 x_66 e_76 e_77 c_79_1 e_137 e_140 e_143 | omega))) ?_))
            intro z_144 h_145
            have pw_146 : z_144.toInt = mp_pw f2 x0.toInt (i_60.toInt / 2).toNat := mp_pw_at h_145 (by simp only [Int32.toNatClampNeg]; (first | exact mp_o2573 c_21_1 c_22_1 l_63 u_64 x_66 e_137 e_140 e_143 | omega))
            intro z_147 h_148
            intro z_149 h_150
            intro z_151 h_152
            intro z_153 h_154
            refine And.intro (fun c_155 => ?_) (fun c_155 => ?_)
            · have c_155 : z_151.toInt ≤ i_62.toInt := mp_lc_le h_154 c_155
              show mp_W E X 15 127 [(13, .long z_151), (11, .long z_144), (10, .int z_132), (9, .int i_60), (7, .long i_61), (5, .long i_62), (4, .int 0), (0, .ref a0), (1, .int x0), (2, .int x1), (3, .int x2)] [] w3_ 0 0
              refine mp_run mp_k_cX10_span_ok hF mp_tabX10_ok [mp_i (.lload 5), mp_i (.lstore 5), mp_i (.lload 11), mp_i (.iload 10), mp_i .lshl, mp_i (.lload 7), mp_i .lcmp, mp_h (.ifCond .ge 11) [150]] (by decide +kernel) ?_
              intro z_156 h_157
              intro z_158 h_159
              refine And.intro (fun c_160 => ?_) (fun c_160 => ?_)
              · have c_160 : i_61.toInt ≤ z_156.toInt := mp_lc_ge h_159 c_160
                show mp_W E X 15 150 [(5, .long i_62), (13, .long z_151), (11, .long z_144), (10, .int z_132), (9, .int i_60), (7, .long i_61), (4, .int 0), (0, .ref a0), (1, .int x0), (2, .int x1), (3, .int x2)] [] w3_ 0 0
                refine mp_run mp_k_cX10_span_ok hF mp_tabX10_ok [mp_i (.lload 7), mp_i (.lstore 7), mp_c (.iinc 9 2) 2, mp_h (.goto (-110)) [47]] (by decide +kernel) ?_
                intro z_161 h_162
                have e_163 : z_161.toInt = i_60.toInt + 2 := mp_add (a := i_60.toInt) (b := 2) h_162 rfl (by decide) (by (first | exact mp_o2485 l_63 u_64 x_66 | omega)) (by (first | exact mp_o2486 l_63 u_64 x_66 | omega))
                show mp_W E X 15 47 [(9, .int z_161), (7, .long i_61), (5, .long i_62), (13, .long z_151), (11, .long z_144), (10, .int z_132), (4, .int 0), (0, .ref a0), (1, .int x0), (2, .int x1), (3, .int x2)] [] w3_ 0 0
                exact mp_sub [0, 1, 2, 6, 7, 8, 9, 10] rfl [4, 0, 1, 2, 3, 5] rfl rfl (ih_72 (d_71 - 1) (by (first | exact mp_o2574 x_28 x_66 hm_73 e_77 c_79_1 | omega)) z_161 i_61 i_62 (by (first | exact mp_o2575 l_63 u_64 x_66 e_163 | omega)) (by (first | exact mp_o2576 x_28 x_66 e_76 e_77 c_79_1 e_163 | omega)) l_65 (by (first | exact mp_o2490 x_66 e_163 | omega)) (by (first | exact mp_o2577 x_28 l_63 u_64 x_66 e_77 c_79_1 e_163 | omega)) (mp_spL_f x_68 (mp_loA pw_146 h_148 h_150 h_152 ⟨by (first | exact mp_o2578 e_99 pw_146 | omega), by (first | exact mp_o2579 e_99 pw_146 | omega)⟩ ⟨by (first | exact mp_o2580 pt_98 e_99 e_102 x_109 e_118 l_123 u_124 e_134 | omega), by (first | exact mp_o2581 pt_98 e_99 e_102 x_109 e_118 l_123 u_124 e_134 | omega)⟩ (show z_132.toInt.toNat = (mp_pt f2 x0.toInt (i_60.toInt / 2).toNat - (f4 (6 * x1.toInt.toNat + 3)).toInt + (f4 (6 * x1.toInt.toNat + 4)).toInt).toNat from by (first | exact mp_o2582 pt_98 e_102 x_109 e_118 x_125 e_134 | omega))) (by (first | exact c_155 | omega)) (by (first | exact mp_o2495 l_63 u_64 x_66 e_163 | omega))) (mp_spH_f x_69 (mp_hiA pw_146 h_157 ⟨by (first | exact mp_o2578 e_99 pw_146 | omega), by (first | exact mp_o2579 e_99 pw_146 | omega)⟩ ⟨by (first | exact mp_o2580 pt_98 e_99 e_102 x_109 e_118 l_123 u_124 e_134 | omega), by (first | exact mp_o2581 pt_98 e_99 e_102 x_109 e_118 l_123 u_124 e_134 | omega)⟩ (show z_132.toInt.toNat = (mp_pt f2 x0.toInt (i_60.toInt / 2).toNat - (f4 (6 * x1.toInt.toNat + 3)).toInt + (f4 (6 * x1.toInt.toNat + 4)).toInt).toNat from by (first | exact mp_o2582 pt_98 e_102 x_109 e_118 x_125 e_134 | omega))) (by first | (first | exact c_160 | omega) | (have k9 := (mp_hiA pw_146 h_157 ⟨by omega, by omega⟩ ⟨by omega, by omega⟩ (show z_132.toInt.toNat = (mp_pt f2 x0.toInt (i_60.toInt / 2).toNat - (f4 (6 * x1.toInt.toNat + 3)).toInt + (f4 (6 * x1.toInt.toNat + 4)).toInt).toNat from by omega)); have k8 := (mp_hiA pw_146 h_157 ⟨by omega, by omega⟩ ⟨by omega, by omega⟩ (show z_132.toInt.toNat = (mp_pt f2 x0.toInt (i_60.toInt / 2).toNat - (f4 (6 * x1.toInt.toNat + 3)).toInt + (f4 (6 * x1.toInt.toNat + 4)).toInt).toNat from by omega)); omega)) (by (first | exact mp_o2495 l_63 u_64 x_66 e_163 | omega))) (by (first | exact mp_o2583 x_28 x_66 hm_73 e_77 c_79_1 e_163 | omega)))
              · have c_160 : z_156.toInt < i_61.toInt := mp_lc_lt h_159 c_160
                show mp_W E X 15 142 [(5, .long i_62), (13, .long z_151), (11, .long z_144), (10, .int z_132), (9, .int i_60), (7, .long i_61), (4, .int 0), (0, .ref a0), (1, .int x0), (2, .int x1), (3, .int x2)] [] w3_ 0 0
                refine mp_run mp_k_cX10_span_ok hF mp_tabX10_ok [mp_i (.lload 11), mp_i (.iload 10), mp_i .lshl, mp_h (.goto 5) [152], mp_i (.lstore 7), mp_c (.iinc 9 2) 2, mp_h (.goto (-110)) [47]] (by decide +kernel) ?_
                intro z_164 h_165
                intro z_166 h_167
                have e_168 : z_166.toInt = i_60.toInt + 2 := mp_add (a := i_60.toInt) (b := 2) h_167 rfl (by decide) (by (first | exact mp_o2485 l_63 u_64 x_66 | omega)) (by (first | exact mp_o2486 l_63 u_64 x_66 | omega))
                show mp_W E X 15 47 [(9, .int z_166), (7, .long z_164), (5, .long i_62), (13, .long z_151), (11, .long z_144), (10, .int z_132), (4, .int 0), (0, .ref a0), (1, .int x0), (2, .int x1), (3, .int x2)] [] w3_ 0 0
                exact mp_sub [0, 1, 2, 6, 7, 8, 9, 10] rfl [4, 0, 1, 2, 3, 5] rfl rfl (ih_72 (d_71 - 1) (by omega) z_166 z_164 i_62 (by omega) (by omega) l_65 (by omega) (by omega) (mp_spL_f x_68 (mp_loA pw_146 h_148 h_150 h_152 ⟨by omega, by omega⟩ ⟨by omega, by omega⟩ (show z_132.toInt.toNat = (mp_pt f2 x0.toInt (i_60.toInt / 2).toNat - (f4 (6 * x1.toInt.toNat + 3)).toInt + (f4 (6 * x1.toInt.toNat + 4)).toInt).toNat from by omega)) (by (first | exact c_155 | omega)) (by omega)) (mp_spH_t x_69 (mp_hiA pw_146 h_165 ⟨by omega, by omega⟩ ⟨by omega, by omega⟩ (show z_132.toInt.toNat = (mp_pt f2 x0.toInt (i_60.toInt / 2).toNat - (f4 (6 * x1.toInt.toNat + 3)).toInt + (f4 (6 * x1.toInt.toNat + 4)).toInt).toNat from by omega)) (by first | fail | (have k9 := (mp_hiA pw_146 h_157 ⟨by omega, by omega⟩ ⟨by omega, by omega⟩ (show z_132.toInt.toNat = (mp_pt f2 x0.toInt (i_60.toInt / 2).toNat - (f4 (6 * x1.toInt.toNat + 3)).toInt + (f4 (6 * x1.toInt.toNat + 4)).toInt).toNat from by omega)); have k8 := (mp_hiA pw_146 h_165 ⟨by omega, by omega⟩ ⟨by omega, by omega⟩ (show z_132.toInt.toNat = (mp_pt f2 x0.toInt (i_60.toInt / 2).toNat - (f4 (6 * x1.toInt.toNat + 3)).toInt + (f4 (6 * x1.toInt.toNat + 4)).toInt).toNat from by omega)); (first | exact mp_o2584 x_69 c_160 k9 k8 | omega))) (by omega)) (by omega))
            · have c_155 : i_62.toInt < z_151.toInt := mp_lc_gt h_154 c_155
              show mp_W E X 15 122 [(13, .long z_151), (11, .long z_144), (10, .int z_132), (9, .int i_60), (7, .long i_61), (5, .long i_62), (4, .int 0), (0, .ref a0), (1, .int x0), (2, .int x1), (3, .int x2)] [] w3_ 0 0
              refine mp_run mp_k_cX10_span_ok hF mp_tabX10_ok [mp_i (.lload 13), mp_h (.goto 5) [129], mp_i (.lstore 5), mp_i (.lload 11), mp_i (.iload 10), mp_i .lshl, mp_i (.lload 7), mp_i .lcmp, mp_h (.ifCond .ge 11) [150]] (by decide +kernel) ?_
              intro z_169 h_170
              intro z_171 h_172
              refine And.intro (fun c_173 => ?_) (fun c_173 => ?_)
              · have c_173 : i_61.toInt ≤ z_169.toInt := mp_lc_ge h_172 c_173
                show mp_W E X 15 150 [(5, .long z_151), (13, .long z_151), (11, .long z_144), (10, .int z_132), (9, .int i_60), (7, .long i_61), (4, .int 0), (0, .ref a0), (1, .int x0), (2, .int x1), (3, .int x2)] [] w3_ 0 0
                refine mp_run mp_k_cX10_span_ok hF mp_tabX10_ok [mp_i (.lload 7), mp_i (.lstore 7), mp_c (.iinc 9 2) 2, mp_h (.goto (-110)) [47]] (by decide +kernel) ?_
                intro z_174 h_175
                have e_176 : z_174.toInt = i_60.toInt + 2 := mp_add (a := i_60.toInt) (b := 2) h_175 rfl (by decide) (by omega) (by omega)
                show mp_W E X 15 47 [(9, .int z_174), (7, .long i_61), (5, .long z_151), (13, .long z_151), (11, .long z_144), (10, .int z_132), (4, .int 0), (0, .ref a0), (1, .int x0), (2, .int x1), (3, .int x2)] [] w3_ 0 0
                exact mp_sub [0, 1, 2, 6, 7, 8, 9, 10] rfl [4, 0, 1, 2, 3, 5] rfl rfl (ih_72 (d_71 - 1) (by omega) z_174 i_61 z_151 (by omega) (by omega) (by (first | exact mp_o2585 l_65 x_68 c_155 | omega)) (by omega) (by omega) (mp_spL_t x_68 (mp_loA pw_146 h_148 h_150 h_152 ⟨by omega, by omega⟩ ⟨by omega, by omega⟩ (show z_132.toInt.toNat = (mp_pt f2 x0.toInt (i_60.toInt / 2).toNat - (f4 (6 * x1.toInt.toNat + 3)).toInt + (f4 (6 * x1.toInt.toNat + 4)).toInt).toNat from by omega)) (by (first | exact c_155 | omega)) (by omega)) (mp_spH_f x_69 (mp_hiA pw_146 h_170 ⟨by omega, by omega⟩ ⟨by omega, by omega⟩ (show z_132.toInt.toNat = (mp_pt f2 x0.toInt (i_60.toInt / 2).toNat - (f4 (6 * x1.toInt.toNat + 3)).toInt + (f4 (6 * x1.toInt.toNat + 4)).toInt).toNat from by omega)) (by first | (first | exact c_173 | omega) | (have k9 := (mp_hiA pw_146 h_170 ⟨by omega, by omega⟩ ⟨by omega, by omega⟩ (show z_132.toInt.toNat = (mp_pt f2 x0.toInt (i_60.toInt / 2).toNat - (f4 (6 * x1.toInt.toNat + 3)).toInt + (f4 (6 * x1.toInt.toNat + 4)).toInt).toNat from by omega)); have k8 := (mp_hiA pw_146 h_170 ⟨by omega, by omega⟩ ⟨by omega, by omega⟩ (show z_132.toInt.toNat = (mp_pt f2 x0.toInt (i_60.toInt / 2).toNat - (f4 (6 * x1.toInt.toNat + 3)).toInt + (f4 (6 * x1.toInt.toNat + 4)).toInt).toNat from by omega)); omega)) (by omega)) (by omega))
              · have c_173 : z_169.toInt < i_61.toInt := mp_lc_lt h_172 c_173
                show mp_W E X 15 142 [(5, .long z_151), (13, .long z_151), (11, .long z_144), (10, .int z_132), (9, .int i_60), (7, .long i_61), (4, .int 0), (0, .ref a0), (1, .int x0), (2, .int x1), (3, .int x2)] [] w3_ 0 0
                refine mp_run mp_k_cX10_span_ok hF mp_tabX10_ok [mp_i (.lload 11), mp_i (.iload 10), mp_i .lshl, mp_h (.goto 5) [152], mp_i (.lstore 7), mp_c (.iinc 9 2) 2, mp_h (.goto (-110)) [47]] (by decide +kernel) ?_
                intro z_177 h_178
                intro z_179 h_180
                have e_181 : z_179.toInt = i_60.toInt + 2 := mp_add (a := i_60.toInt) (b := 2) h_180 rfl (by decide) (by omega) (by omega)
                show mp_W E X 15 47 [(9, .int z_179), (7, .long z_177), (5, .long z_151), (13, .long z_151), (11, .long z_144), (10, .int z_132), (4, .int 0), (0, .ref a0), (1, .int x0), (2, .int x1), (3, .int x2)] [] w3_ 0 0
                exact mp_sub [0, 1, 2, 6, 7, 8, 9, 10] rfl [4, 0, 1, 2, 3, 5] rfl rfl (ih_72 (d_71 - 1) (by omega) z_179 z_177 z_151 (by omega) (by omega) (by omega) (by omega) (by omega) (mp_spL_t x_68 (mp_loA pw_146 h_148 h_150 h_152 ⟨by omega, by omega⟩ ⟨by omega, by omega⟩ (show z_132.toInt.toNat = (mp_pt f2 x0.toInt (i_60.toInt / 2).toNat - (f4 (6 * x1.toInt.toNat + 3)).toInt + (f4 (6 * x1.toInt.toNat + 4)).toInt).toNat from by omega)) (by (first | exact c_155 | omega)) (by omega)) (mp_spH_t x_69 (mp_hiA pw_146 h_178 ⟨by omega, by omega⟩ ⟨by omega, by omega⟩ (show z_132.toInt.toNat = (mp_pt f2 x0.toInt (i_60.toInt / 2).toNat - (f4 (6 * x1.toInt.toNat + 3)).toInt + (f4 (6 * x1.toInt.toNat + 4)).toInt).toNat from by omega)) (by first | fail | (have k9 := (mp_hiA pw_146 h_170 ⟨by omega, by omega⟩ ⟨by omega, by omega⟩ (show z_132.toInt.toNat = (mp_pt f2 x0.toInt (i_60.toInt / 2).toNat - (f4 (6 * x1.toInt.toNat + 3)).toInt + (f4 (6 * x1.toInt.toNat + 4)).toInt).toNat from by omega)); have k8 := (mp_hiA pw_146 h_178 ⟨by omega, by omega⟩ ⟨by omega, by omega⟩ (show z_132.toInt.toNat = (mp_pt f2 x0.toInt (i_60.toInt / 2).toNat - (f4 (6 * x1.toInt.toNat + 3)).toInt + (f4 (6 * x1.toInt.toNat + 4)).toInt).toNat from by omega)); omega)) (by omega)) (by omega))
      exact mp_sub [0, 1, 2, 3, 4, 5, 6, 7] rfl [0, 1, 2, 3, 4, 5] rfl rfl (lp_70 _ 0 1000000 1 (by decide) (by decide) (by decide) (by decide) (by have i0 : (0 : Int32).toInt = 0 := rfl; have i1 : (1 : Int32).toInt = 1 := rfl; (first | exact mp_o2586 x_28 x_32 i0 | omega)) rfl rfl (Int.self_le_toNat _))
    · skip
      refine q_40.elim fun e_182 q_183 => q_183.elim fun c_33 q_184 => q_184.elim fun c_34 q_185 => q_185.elim fun c_35 q_186 => q_186.elim fun x_36 e_187 => ?_
      clear h_19 q_38 q_40 q_183 q_184 q_185 q_186
      subst e_182
      subst e_187
      have c_33 : 0 ≤ x0.toInt := c_33
      have c_34 : x0.toInt ≤ 3 := c_34
      have c_35 : 0 ≤ x1.toInt := c_35
      show mp_W E X 15 21 [(0, .ref a0), (1, .int x0), (2, .int x1), (3, .int x2)] [.int (-6)] w2_ 0 0
      refine mp_run mp_k_cX10_span_ok hF mp_tabX10_ok [mp_h (.goto 5) [26], mp_i (.istore 4), mp_i (.iload 4), mp_h (.ifCond .eq 6) [36]] (by decide +kernel) ?_
      refine And.intro (fun c_188 => absurd c_188 (by decide)) (fun _ => ?_)
      show mp_W E X 15 33 [(4, .int (-6)), (0, .ref a0), (1, .int x0), (2, .int x1), (3, .int x2)] [] w2_ 0 0
      refine mp_run mp_k_cX10_span_ok hF mp_tabX10_ok [mp_i (.iload 4)] (by decide +kernel) ?_
      show mp_W E X 15 35 [(4, .int (-6)), (0, .ref a0), (1, .int x0), (2, .int x1), (3, .int x2)] [.int (-6)] w2_ 0 0
      exact mp_iret hF hQ rfl rfl (Nat.le_of_ble_eq_true rfl) (Nat.le_of_ble_eq_true rfl) [0, 1, 2, 3, 4, 5] (w' := w2_) rfl rfl (Or.inr (Or.inr ⟨rfl, (by first | (first | exact mp_o2548 e_3 c_8 c_9 | omega) | decide), (by first | (first | exact mp_o2549 e_3 c_8 c_9 | omega) | decide), (by first | (first | exact c_33 | omega) | decide), (by first | (first | exact c_34 | omega) | decide), (by first | (first | exact c_35 | omega) | decide), (by have z0 : (0 : Int64).toInt = 0 := rfl; have z1 : (1 : Int64).toInt = 1 := rfl; (first | exact mp_o2550 e_3 c_8 c_9 | omega)), x_36, rfl⟩)) (by first | exact mp_fd_ok mp_k_cX10_span_ok (by decide +kernel) | decide +kernel)
