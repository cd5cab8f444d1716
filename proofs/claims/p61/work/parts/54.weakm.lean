set_option maxHeartbeats 4000000 in
set_option maxRecDepth 100000 in
theorem bX10_weighed_139 (E : mp_E) (a0 a1 a2 a3 a4 a5 a6 a7 a8 a9 a10 a11 a12 a13 a14 a15 a16 a17 a18 a19 a20 a21 a22 a23 a24 a25 : Nat) (f0 : Nat → Int32) (f1 : Nat → Int32) (f2 : Nat → Int64) (f3 : Nat → Int32) (f4 : Nat → Int32) (y0 : Int32) (y1 : Int32) (y2 : Int32) (y3 : Int32) (y4 : Int32) (y5 : Int32) (y6 : Int64) (y7 : Int32) (y8 : Int32) (y9 : Int32) (y10 : Int32) (y11 : Int32) (y12 : Int32) (y13 : Int32) (y14 : Int32) (y15 : Int32) (y16 : Int32) (y17 : Int32) (y18 : Int32) (y19 : Int32) (y20 : Int32) (y21 : Int32) (x0 : Int32) (x1 : Int32) (p0 : mp_all f1 4 0 60) (p1 : mp_res f3 25 5 0 0 6) (p2 : mp_res f3 25 5 1 0 99) (p3 : mp_res f3 25 5 2 0 6) (p4 : mp_res f3 25 5 3 0 10) (p5 : mp_res f3 25 5 4 0 60) (p6 : mp_res f4 300 6 0 0 5) (p7 : mp_res f4 300 6 1 0 5) (p8 : mp_res f4 300 6 3 0 99) (p9 : mp_res f4 300 6 4 0 1) (l_y1 : 0 ≤ y1.toInt) (u_y1 : y1.toInt ≤ 1600) (l_y2 : 0 ≤ y2.toInt) (u_y2 : y2.toInt ≤ 1600) (l_y3 : 0 ≤ y3.toInt) (u_y3 : y3.toInt ≤ 4) (l_y4 : 0 ≤ y4.toInt) (u_y4 : y4.toInt ≤ 1600) (l_y11 : 0 ≤ y11.toInt) (u_y11 : y11.toInt ≤ 99) (l_y12 : 0 ≤ y12.toInt) (u_y12 : y12.toInt ≤ 5) (l_y13 : 0 ≤ y13.toInt) (u_y13 : y13.toInt ≤ 12) : mp_Ct E yX10_weighed cX10_weighed 4 (some FieldType.int) 4 0 0 93 [.ref a0, .int x0, .int x1] [(mp_ob10 a0 y0 a1 a2 a3 a6 a7 y1 y2 y3 y4 y5 y6 y7 y8 y9 y10 a8 a4 a9 a10 a11 a5 a12 a13 y11 a14 a15 a16 a17 y12 y13 y14 a18 a19 y15 y16 a20 a21 a22 y17 y18 y19 y20 a23 a24 a25 y21), (mp_arI E a1 0 4 f0), (mp_arI E a2 0 4 f1), (mp_arL E a3 240 f2), (mp_arI E a4 0 25 f3), (mp_arI E a5 0 300 f4)] (fun v w' => ∃ r1 : Int32, ∃ r2 : Int32, ∃ r3 : Int32, ∃ r4 : Int32, ∃ r5 : Int32, v = some (.int r5) ∧ w' = [(mp_ob10 a0 0 a1 a2 a3 a6 a7 y1 y2 y3 y4 y5 y6 y7 y8 y9 y10 a8 a4 a9 a10 a11 a5 a12 a13 y11 a14 a15 a16 a17 y12 y13 y14 a18 a19 y15 y16 a20 a21 a22 r1 r2 r3 r4 a23 a24 a25 y21), (mp_arI E a1 0 4 f0), (mp_arI E a2 0 4 f1), (mp_arL E a3 240 f2), (mp_arI E a4 0 25 f3), (mp_arI E a5 0 300 f4)]) := by
  refine mp_met false (by decide) (by decide) (Nat.le_of_ble_eq_true rfl) (fun X hF hQ => ?_)
  have hF : mp_F E X (RX10, cX10_weighed, 4, (4, 0, 0, 93), (some FieldType.int), false) := hF
  let w1_ : va_W := [(mp_ob10 a0 y0 a1 a2 a3 a6 a7 y1 y2 y3 y4 y5 y6 y7 y8 y9 y10 a8 a4 a9 a10 a11 a5 a12 a13 y11 a14 a15 a16 a17 y12 y13 y14 a18 a19 y15 y16 a20 a21 a22 y17 y18 y19 y20 a23 a24 a25 y21), (mp_arI E a1 0 4 f0), (mp_arI E a2 0 4 f1), (mp_arL E a3 240 f2), (mp_arI E a4 0 25 f3), (mp_arI E a5 0 300 f4)]
  show mp_W E X 4 0 [(0, .ref a0), (1, .int x0), (2, .int x1)] [] w1_ 0 0
  refine mp_run mp_k_cX10_weighed_ok hF mp_tabX10_ok [mp_i (.aload_n 0), mp_c (.iconst 0) 0, mp_h (.putfield 92) [0, 0]] (by decide +kernel) ?_
  refine And.intro rfl (And.intro rfl (And.intro rfl (And.intro rfl (And.intro (Nat.le_of_ble_eq_true rfl) ?_))))
  let w2_ : va_W := [(mp_ob10 a0 0 a1 a2 a3 a6 a7 y1 y2 y3 y4 y5 y6 y7 y8 y9 y10 a8 a4 a9 a10 a11 a5 a12 a13 y11 a14 a15 a16 a17 y12 y13 y14 a18 a19 y15 y16 a20 a21 a22 y17 y18 y19 y20 a23 a24 a25 y21), (mp_arI E a1 0 4 f0), (mp_arI E a2 0 4 f1), (mp_arL E a3 240 f2), (mp_arI E a4 0 25 f3), (mp_arI E a5 0 300 f4)]
  show mp_W E X 4 5 [(0, .ref a0), (1, .int x0), (2, .int x1)] [] w2_ 0 0
  refine mp_run mp_k_cX10_weighed_ok hF mp_tabX10_ok [mp_i (.aload_n 0), mp_i (.iload_n 1), mp_i (.iload_n 2)] (by decide +kernel) ?_
  show mp_W E X 4 8 [(0, .ref a0), (1, .int x0), (2, .int x1)] [.int x1, .int x0, .ref a0] w2_ 0 0
  refine mp_callV hF (As := [.int x0, .int x1]) (rest := []) (wr := []) (bX10_whyNot_135 E a0 a1 a2 a3 a4 a5 a6 a7 a8 a9 a10 a11 a12 a13 a14 a15 a16 a17 a18 a19 a20 a21 a22 a23 a24 a25 f0 f1 f2 f3 f4 0 y1 y2 y3 y4 y5 y6 y7 y8 y9 y10 y11 y12 y13 y14 y15 y16 y17 y18 y19 y20 y21 x0 x1 p0 p1 p2 p3 p4 p5 p6 p7 p8 p9 l_y1 u_y1 l_y2 u_y2 l_y3 u_y3 l_y4 u_y4 l_y11 u_y11 l_y12 u_y12 l_y13 u_y13) mp_lkX10_432 0 rfl [0, 1, 2, 3, 4, 5] [] rfl rfl rfl rfl rfl ⟨(Nat.le_of_ble_eq_true rfl), (Nat.le_of_ble_eq_true rfl), (Nat.le_of_ble_eq_true rfl), (Nat.le_of_ble_eq_true rfl)⟩ (Nat.le_of_ble_eq_true rfl) (by first | exact mp_fd_ok mp_k_cX10_weighed_ok (by decide +kernel) | decide +kernel) (fun v_1 w_2 h_3 => ?_)
  refine h_3.elim (fun q_16 => ?_) (fun q_17 => q_17.elim (fun q_18 => ?_) (fun q_19 => ?_))
  · skip
    refine q_16.elim fun e_20 e_21 => ?_
    clear h_3 q_16
    subst e_20
    subst e_21
    show mp_W E X 4 11 [(0, .ref a0), (1, .int x0), (2, .int x1)] [.int (-2)] w2_ 0 0
    refine mp_run mp_k_cX10_weighed_ok hF mp_tabX10_ok [mp_i (.istore_n 3), mp_i (.iload_n 3), mp_h (.ifCond .eq 5) [18]] (by decide +kernel) ?_
    refine And.intro (fun c_22 => absurd c_22 (by decide)) (fun _ => ?_)
    show mp_W E X 4 16 [(3, .int (-2)), (0, .ref a0), (1, .int x0), (2, .int x1)] [] w2_ 0 0
    refine mp_run mp_k_cX10_weighed_ok hF mp_tabX10_ok [mp_i (.iload_n 3)] (by decide +kernel) ?_
    show mp_W E X 4 17 [(3, .int (-2)), (0, .ref a0), (1, .int x0), (2, .int x1)] [.int (-2)] w2_ 0 0
    exact mp_iret hF hQ rfl rfl (Nat.le_of_ble_eq_true rfl) (Nat.le_of_ble_eq_true rfl) [0, 1, 2, 3, 4, 5] (w' := w2_) rfl rfl ⟨y17, y18, y19, y20, (-2), rfl, rfl⟩ (by first | exact mp_fd_ok mp_k_cX10_weighed_ok (by decide +kernel) | decide +kernel)
  · skip
    refine q_18.elim fun e_23 q_24 => q_24.elim fun c_4 q_25 => q_25.elim fun c_5 q_26 => q_26.elim fun c_6 q_27 => q_27.elim fun x_7 q_28 => q_28.elim fun x_8 q_29 => q_29.elim fun x_9 q_30 => q_30.elim fun x_10 q_31 => q_31.elim fun x_11 q_32 => q_32.elim fun x_12 e_33 => ?_
    clear h_3 q_17 q_18 q_24 q_25 q_26 q_27 q_28 q_29 q_30 q_31 q_32
    subst e_23
    subst e_33
    have c_4 : 0 ≤ x0.toInt := c_4
    have c_5 : x0.toInt ≤ 3 := c_5
    have c_6 : 0 ≤ x1.toInt := c_6
    show mp_W E X 4 11 [(0, .ref a0), (1, .int x0), (2, .int x1)] [.int 0] w2_ 0 0
    refine mp_run mp_k_cX10_weighed_ok hF mp_tabX10_ok [mp_i (.istore_n 3), mp_i (.iload_n 3), mp_h (.ifCond .eq 5) [18]] (by decide +kernel) ?_
    refine And.intro (fun _ => ?_) (fun c_34 => absurd c_34 (by decide))
    show mp_W E X 4 18 [(3, .int 0), (0, .ref a0), (1, .int x0), (2, .int x1)] [] w2_ 0 0
    refine mp_run mp_k_cX10_weighed_ok hF mp_tabX10_ok [mp_i (.aload_n 0), mp_i (.iload_n 1), mp_i (.iload_n 2)] (by decide +kernel) ?_
    show mp_W E X 4 21 [(3, .int 0), (0, .ref a0), (1, .int x0), (2, .int x1)] [.int x1, .int x0, .ref a0] w2_ 0 0
    refine mp_callV hF (As := [.int x0, .int x1]) (rest := []) (wr := [(mp_arI E a1 0 4 f0), (mp_arI E a4 0 25 f3)]) (bX10_laysWays_138 E a0 a2 a3 a5 a1 a6 a7 a8 a4 a9 a10 a11 a12 a13 a14 a15 a16 a17 a18 a19 a20 a21 a22 a23 a24 a25 f1 f2 f4 0 y1 y2 y3 y4 y5 y6 y7 y8 y9 y10 y11 y12 y13 y14 y15 y16 y17 y18 y19 y20 y21 x0 x1 p0 p6 p7 p8 p9 (by omega) (by omega) (by omega) (by omega) l_y1 u_y1 l_y2 u_y2 l_y3 u_y3 l_y4 u_y4 l_y11 u_y11 l_y12 u_y12 l_y13 u_y13 (by first | assumption | omega) (by assumption)) mp_lkX10_435 0 rfl [0, 2, 3, 5] [1, 4] rfl rfl rfl rfl rfl ⟨(Nat.le_of_ble_eq_true rfl), (Nat.le_of_ble_eq_true rfl), (Nat.le_of_ble_eq_true rfl), (Nat.le_of_ble_eq_true rfl)⟩ (Nat.le_of_ble_eq_true rfl) (by first | exact mp_fd_ok mp_k_cX10_weighed_ok (by decide +kernel) | decide +kernel) (fun v_35 w_36 h_37 => ?_)
    refine h_37.elim fun r_38 q_44 => q_44.elim fun r_39 q_45 => q_45.elim fun r_40 q_46 => q_46.elim fun r_41 q_47 => q_47.elim fun e_48 q_49 => q_49.elim fun l_42 q_50 => q_50.elim fun u_43 e_51 => ?_
    clear h_37 q_44 q_45 q_46 q_47 q_49 q_50
    subst e_48
    subst e_51
    let w3_ : va_W := [(mp_arI E a1 0 4 f0), (mp_arI E a4 0 25 f3), (mp_ob10 a0 0 a1 a2 a3 a6 a7 y1 y2 y3 y4 y5 y6 y7 y8 y9 y10 a8 a4 a9 a10 a11 a5 a12 a13 y11 a14 a15 a16 a17 y12 y13 y14 a18 a19 y15 y16 a20 a21 a22 r_38 r_39 r_40 r_41 a23 a24 a25 y21), (mp_arI E a2 0 4 f1), (mp_arL E a3 240 f2), (mp_arI E a5 0 300 f4)]
    show mp_W E X 4 24 [(3, .int 0), (0, .ref a0), (1, .int x0), (2, .int x1)] [] w3_ 0 0
    refine mp_run mp_k_cX10_weighed_ok hF mp_tabX10_ok [mp_i (.aload_n 0), mp_h (.getfield 417) [39, 2]] (by decide +kernel) ?_
    refine And.intro rfl (And.intro rfl ?_)
    show mp_W E X 4 28 [(3, .int 0), (0, .ref a0), (1, .int x0), (2, .int x1)] [.int r_38] w3_ 0 0
    exact mp_iret hF hQ rfl rfl (Nat.le_of_ble_eq_true rfl) (Nat.le_of_ble_eq_true rfl) [2, 0, 3, 4, 1, 5] (w' := [(mp_ob10 a0 0 a1 a2 a3 a6 a7 y1 y2 y3 y4 y5 y6 y7 y8 y9 y10 a8 a4 a9 a10 a11 a5 a12 a13 y11 a14 a15 a16 a17 y12 y13 y14 a18 a19 y15 y16 a20 a21 a22 r_38 r_39 r_40 r_41 a23 a24 a25 y21), (mp_arI E a1 0 4 f0), (mp_arI E a2 0 4 f1), (mp_arL E a3 240 f2), (mp_arI E a4 0 25 f3), (mp_arI E a5 0 300 f4)]) rfl rfl ⟨r_38, r_39, r_40, r_41, r_38, rfl, rfl⟩ (by first | exact mp_fd_ok mp_k_cX10_weighed_ok (by decide +kernel) | decide +kernel)
  · skip
    refine q_19.elim fun e_52 q_53 => q_53.elim fun c_13 q_54 => q_54.elim fun c_14 q_55 => q_55.elim fun c_15 e_56 => ?_
    clear h_3 q_17 q_19 q_53 q_54 q_55
    subst e_52
    subst e_56
    have c_13 : 0 ≤ x0.toInt := c_13
    have c_14 : x0.toInt ≤ 3 := c_14
    have c_15 : 0 ≤ x1.toInt := c_15
    show mp_W E X 4 11 [(0, .ref a0), (1, .int x0), (2, .int x1)] [.int (-6)] w2_ 0 0
    refine mp_run mp_k_cX10_weighed_ok hF mp_tabX10_ok [mp_i (.istore_n 3), mp_i (.iload_n 3), mp_h (.ifCond .eq 5) [18]] (by decide +kernel) ?_
    refine And.intro (fun c_57 => absurd c_57 (by decide)) (fun _ => ?_)
    show mp_W E X 4 16 [(3, .int (-6)), (0, .ref a0), (1, .int x0), (2, .int x1)] [] w2_ 0 0
    refine mp_run mp_k_cX10_weighed_ok hF mp_tabX10_ok [mp_i (.iload_n 3)] (by decide +kernel) ?_
    show mp_W E X 4 17 [(3, .int (-6)), (0, .ref a0), (1, .int x0), (2, .int x1)] [.int (-6)] w2_ 0 0
    exact mp_iret hF hQ rfl rfl (Nat.le_of_ble_eq_true rfl) (Nat.le_of_ble_eq_true rfl) [0, 1, 2, 3, 4, 5] (w' := w2_) rfl rfl ⟨y17, y18, y19, y20, (-6), rfl, rfl⟩ (by first | exact mp_fd_ok mp_k_cX10_weighed_ok (by decide +kernel) | decide +kernel)
set_option maxHeartbeats 4000000 in
set_option maxRecDepth 100000 in
theorem bX10_must_140 (E : mp_E) (a0 a1 a2 a3 a4 a5 a6 a7 a8 a9 a10 a11 a12 a13 a14 a15 a16 a17 a18 a19 a20 a21 a22 a23 a24 a25 : Nat) (f0 : Nat → Int32) (f1 : Nat → Int32) (f2 : Nat → Int64) (f3 : Nat → Int32) (f4 : Nat → Int32) (y0 : Int32) (y1 : Int32) (y2 : Int32) (y3 : Int32) (y4 : Int32) (y5 : Int32) (y6 : Int64) (y7 : Int32) (y8 : Int32) (y9 : Int32) (y10 : Int32) (y11 : Int32) (y12 : Int32) (y13 : Int32) (y14 : Int32) (y15 : Int32) (y16 : Int32) (y17 : Int32) (y18 : Int32) (y19 : Int32) (y20 : Int32) (y21 : Int32) (x0 : Int32) (x1 : Int32) (x2 : Int32) (p0 : mp_all f1 4 0 60) (p1 : mp_res f3 25 5 0 0 6) (p2 : mp_res f3 25 5 1 0 99) (p3 : mp_res f3 25 5 2 0 6) (p4 : mp_res f3 25 5 3 0 10) (p5 : mp_res f3 25 5 4 0 60) (p6 : mp_res f4 300 6 0 0 5) (p7 : mp_res f4 300 6 1 0 5) (p8 : mp_res f4 300 6 3 0 99) (p9 : mp_res f4 300 6 4 0 1) (l_y1 : 0 ≤ y1.toInt) (u_y1 : y1.toInt ≤ 1600) (l_y2 : 0 ≤ y2.toInt) (u_y2 : y2.toInt ≤ 1600) (l_y3 : 0 ≤ y3.toInt) (u_y3 : y3.toInt ≤ 4) (l_y4 : 0 ≤ y4.toInt) (u_y4 : y4.toInt ≤ 1600) (l_y11 : 0 ≤ y11.toInt) (u_y11 : y11.toInt ≤ 99) (l_y12 : 0 ≤ y12.toInt) (u_y12 : y12.toInt ≤ 5) (l_y13 : 0 ≤ y13.toInt) (u_y13 : y13.toInt ≤ 12) : mp_Ct E yX10_must cX10_must 5 (some FieldType.int) 4 0 0 93 [.ref a0, .int x0, .int x1, .int x2] [(mp_ob10 a0 y0 a1 a2 a3 a6 a7 y1 y2 y3 y4 y5 y6 y7 y8 y9 y10 a8 a4 a9 a10 a11 a5 a12 a13 y11 a14 a15 a16 a17 y12 y13 y14 a18 a19 y15 y16 a20 a21 a22 y17 y18 y19 y20 a23 a24 a25 y21), (mp_arI E a1 0 4 f0), (mp_arI E a2 0 4 f1), (mp_arL E a3 240 f2), (mp_arI E a4 0 25 f3), (mp_arI E a5 0 300 f4)] (fun v w' => ∃ r1 : Int32, ∃ r2 : Int32, ∃ r3 : Int32, ∃ r4 : Int32, ∃ r5 : Int32, v = some (.int r5) ∧ w' = [(mp_ob10 a0 0 a1 a2 a3 a6 a7 y1 y2 y3 y4 y5 y6 y7 y8 y9 y10 a8 a4 a9 a10 a11 a5 a12 a13 y11 a14 a15 a16 a17 y12 y13 y14 a18 a19 y15 y16 a20 a21 a22 r1 r2 r3 r4 a23 a24 a25 y21), (mp_arI E a1 0 4 f0), (mp_arI E a2 0 4 f1), (mp_arL E a3 240 f2), (mp_arI E a4 0 25 f3), (mp_arI E a5 0 300 f4)]) := by
  refine mp_met false (by decide) (by decide) (Nat.le_of_ble_eq_true rfl) (fun X hF hQ => ?_)
  have hF : mp_F E X (RX10, cX10_must, 5, (4, 0, 0, 93), (some FieldType.int), false) := hF
  let w1_ : va_W := [(mp_ob10 a0 y0 a1 a2 a3 a6 a7 y1 y2 y3 y4 y5 y6 y7 y8 y9 y10 a8 a4 a9 a10 a11 a5 a12 a13 y11 a14 a15 a16 a17 y12 y13 y14 a18 a19 y15 y16 a20 a21 a22 y17 y18 y19 y20 a23 a24 a25 y21), (mp_arI E a1 0 4 f0), (mp_arI E a2 0 4 f1), (mp_arL E a3 240 f2), (mp_arI E a4 0 25 f3), (mp_arI E a5 0 300 f4)]
  show mp_W E X 5 0 [(0, .ref a0), (1, .int x0), (2, .int x1), (3, .int x2)] [] w1_ 0 0
  refine mp_run mp_k_cX10_must_ok hF mp_tabX10_ok [mp_i (.aload_n 0), mp_c (.iconst 0) 0, mp_h (.putfield 92) [0, 0]] (by decide +kernel) ?_
  refine And.intro rfl (And.intro rfl (And.intro rfl (And.intro rfl (And.intro (Nat.le_of_ble_eq_true rfl) ?_))))
  let w2_ : va_W := [(mp_ob10 a0 0 a1 a2 a3 a6 a7 y1 y2 y3 y4 y5 y6 y7 y8 y9 y10 a8 a4 a9 a10 a11 a5 a12 a13 y11 a14 a15 a16 a17 y12 y13 y14 a18 a19 y15 y16 a20 a21 a22 y17 y18 y19 y20 a23 a24 a25 y21), (mp_arI E a1 0 4 f0), (mp_arI E a2 0 4 f1), (mp_arL E a3 240 f2), (mp_arI E a4 0 25 f3), (mp_arI E a5 0 300 f4)]
  show mp_W E X 5 5 [(0, .ref a0), (1, .int x0), (2, .int x1), (3, .int x2)] [] w2_ 0 0
  refine mp_run mp_k_cX10_must_ok hF mp_tabX10_ok [mp_i (.iload_n 3), mp_i .i2l, mp_cl (.lconst 0) 0, mp_cl (.lconst 1) 1] (by decide +kernel) ?_
  intro z_1 h_2
  have e_3 : z_1.toInt = x2.toInt := mp_i2l h_2
  show mp_W E X 5 9 [(0, .ref a0), (1, .int x0), (2, .int x1), (3, .int x2)] [.long 1, .long 0, .long z_1] w2_ 0 0
  refine mp_callS hF (As := [.long z_1, .long 0, .long 1]) (rest := []) (wr := w2_) (bX10_in_0 E z_1 0 1) mp_lkX10_97 [] [0, 1, 2, 3, 4, 5] rfl rfl rfl rfl rfl ⟨(Nat.le_of_ble_eq_true rfl), (Nat.le_of_ble_eq_true rfl), (Nat.le_of_ble_eq_true rfl), (Nat.le_of_ble_eq_true rfl)⟩ (Nat.le_of_ble_eq_true rfl) (by first | exact mp_fd_ok mp_k_cX10_must_ok (by decide +kernel) | decide +kernel) (fun v_4 w_5 h_6 => ?_)
  rcases h_6 with ⟨rfl, x_7, rfl⟩ | ⟨rfl, c_8, c_9, rfl⟩
  · skip
    have i_10 : (0 : Int64).toInt = 0 := by decide
    have i_11 : (1 : Int64).toInt = 1 := by decide
    show mp_W E X 5 12 [(0, .ref a0), (1, .int x0), (2, .int x1), (3, .int x2)] [.int 0] w2_ 0 0
    refine mp_run mp_k_cX10_must_ok hF mp_tabX10_ok [mp_h (.ifCond .eq 12) [24]] (by decide +kernel) ?_
    refine And.intro (fun _ => ?_) (fun c_12 => absurd c_12 (by decide))
    show mp_W E X 5 24 [(0, .ref a0), (1, .int x0), (2, .int x1), (3, .int x2)] [] w2_ 0 0
    refine mp_run mp_k_cX10_must_ok hF mp_tabX10_ok [mp_c (.bipush (-2)) (-2), mp_i (.istore 4), mp_i (.iload 4), mp_h (.ifCond .eq 6) [36]] (by decide +kernel) ?_
    refine And.intro (fun c_13 => absurd c_13 (by decide)) (fun _ => ?_)
    show mp_W E X 5 33 [(4, .int (-2)), (0, .ref a0), (1, .int x0), (2, .int x1), (3, .int x2)] [] w2_ 0 0
    refine mp_run mp_k_cX10_must_ok hF mp_tabX10_ok [mp_i (.iload 4)] (by decide +kernel) ?_
    show mp_W E X 5 35 [(4, .int (-2)), (0, .ref a0), (1, .int x0), (2, .int x1), (3, .int x2)] [.int (-2)] w2_ 0 0
    exact mp_iret hF hQ rfl rfl (Nat.le_of_ble_eq_true rfl) (Nat.le_of_ble_eq_true rfl) [0, 1, 2, 3, 4, 5] (w' := w2_) rfl rfl ⟨y17, y18, y19, y20, (-2), rfl, rfl⟩ (by first | exact mp_fd_ok mp_k_cX10_must_ok (by decide +kernel) | decide +kernel)
  · skip
    have c_8 : 0 ≤ z_1.toInt := c_8
    have c_9 : z_1.toInt ≤ 1 := c_9
    have i_14 : (0 : Int64).toInt = 0 := by decide
    have i_15 : (1 : Int64).toInt = 1 := by decide
    show mp_W E X 5 12 [(0, .ref a0), (1, .int x0), (2, .int x1), (3, .int x2)] [.int 1] w2_ 0 0
    refine mp_run mp_k_cX10_must_ok hF mp_tabX10_ok [mp_h (.ifCond .eq 12) [24]] (by decide +kernel) ?_
    refine And.intro (fun c_16 => absurd c_16 (by decide)) (fun _ => ?_)
    show mp_W E X 5 15 [(0, .ref a0), (1, .int x0), (2, .int x1), (3, .int x2)] [] w2_ 0 0
    refine mp_run mp_k_cX10_must_ok hF mp_tabX10_ok [mp_i (.aload_n 0), mp_i (.iload_n 1), mp_i (.iload_n 2)] (by decide +kernel) ?_
    show mp_W E X 5 18 [(0, .ref a0), (1, .int x0), (2, .int x1), (3, .int x2)] [.int x1, .int x0, .ref a0] w2_ 0 0
    refine mp_callV hF (As := [.int x0, .int x1]) (rest := []) (wr := []) (bX10_whyNot_135 E a0 a1 a2 a3 a4 a5 a6 a7 a8 a9 a10 a11 a12 a13 a14 a15 a16 a17 a18 a19 a20 a21 a22 a23 a24 a25 f0 f1 f2 f3 f4 0 y1 y2 y3 y4 y5 y6 y7 y8 y9 y10 y11 y12 y13 y14 y15 y16 y17 y18 y19 y20 y21 x0 x1 p0 p1 p2 p3 p4 p5 p6 p7 p8 p9 l_y1 u_y1 l_y2 u_y2 l_y3 u_y3 l_y4 u_y4 l_y11 u_y11 l_y12 u_y12 l_y13 u_y13) mp_lkX10_432 0 rfl [0, 1, 2, 3, 4, 5] [] rfl rfl rfl rfl rfl ⟨(Nat.le_of_ble_eq_true rfl), (Nat.le_of_ble_eq_true rfl), (Nat.le_of_ble_eq_true rfl), (Nat.le_of_ble_eq_true rfl)⟩ (Nat.le_of_ble_eq_true rfl) (by first | exact mp_fd_ok mp_k_cX10_must_ok (by decide +kernel) | decide +kernel) (fun v_17 w_18 h_19 => ?_)
    refine h_19.elim (fun q_32 => ?_) (fun q_33 => q_33.elim (fun q_34 => ?_) (fun q_35 => ?_))
    · skip
      refine q_32.elim fun e_36 e_37 => ?_
      clear h_19 q_32
      subst e_36
      subst e_37
      show mp_W E X 5 21 [(0, .ref a0), (1, .int x0), (2, .int x1), (3, .int x2)] [.int (-2)] w2_ 0 0
      refine mp_run mp_k_cX10_must_ok hF mp_tabX10_ok [mp_h (.goto 5) [26], mp_i (.istore 4), mp_i (.iload 4), mp_h (.ifCond .eq 6) [36]] (by decide +kernel) ?_
      refine And.intro (fun c_38 => absurd c_38 (by decide)) (fun _ => ?_)
      show mp_W E X 5 33 [(4, .int (-2)), (0, .ref a0), (1, .int x0), (2, .int x1), (3, .int x2)] [] w2_ 0 0
      refine mp_run mp_k_cX10_must_ok hF mp_tabX10_ok [mp_i (.iload 4)] (by decide +kernel) ?_
      show mp_W E X 5 35 [(4, .int (-2)), (0, .ref a0), (1, .int x0), (2, .int x1), (3, .int x2)] [.int (-2)] w2_ 0 0
      exact mp_iret hF hQ rfl rfl (Nat.le_of_ble_eq_true rfl) (Nat.le_of_ble_eq_true rfl) [0, 1, 2, 3, 4, 5] (w' := w2_) rfl rfl ⟨y17, y18, y19, y20, (-2), rfl, rfl⟩ (by first | exact mp_fd_ok mp_k_cX10_must_ok (by decide +kernel) | decide +kernel)
    · skip
      refine q_34.elim fun e_39 q_40 => q_40.elim fun c_20 q_41 => q_41.elim fun c_21 q_42 => q_42.elim fun c_22 q_43 => q_43.elim fun x_23 q_44 => q_44.elim fun x_24 q_45 => q_45.elim fun x_25 q_46 => q_46.elim fun x_26 q_47 => q_47.elim fun x_27 q_48 => q_48.elim fun x_28 e_49 => ?_
      clear h_19 q_33 q_34 q_40 q_41 q_42 q_43 q_44 q_45 q_46 q_47 q_48
      subst e_39
      subst e_49
      have c_20 : 0 ≤ x0.toInt := c_20
      have c_21 : x0.toInt ≤ 3 := c_21
      have c_22 : 0 ≤ x1.toInt := c_22
      show mp_W E X 5 21 [(0, .ref a0), (1, .int x0), (2, .int x1), (3, .int x2)] [.int 0] w2_ 0 0
      refine mp_run mp_k_cX10_must_ok hF mp_tabX10_ok [mp_h (.goto 5) [26], mp_i (.istore 4), mp_i (.iload 4), mp_h (.ifCond .eq 6) [36]] (by decide +kernel) ?_
      refine And.intro (fun _ => ?_) (fun c_50 => absurd c_50 (by decide))
      show mp_W E X 5 36 [(4, .int 0), (0, .ref a0), (1, .int x0), (2, .int x1), (3, .int x2)] [] w2_ 0 0
      refine mp_run mp_k_cX10_must_ok hF mp_tabX10_ok [mp_i (.aload_n 0), mp_i (.iload_n 1), mp_i (.iload_n 2)] (by decide +kernel) ?_
      show mp_W E X 5 39 [(4, .int 0), (0, .ref a0), (1, .int x0), (2, .int x1), (3, .int x2)] [.int x1, .int x0, .ref a0] w2_ 0 0
      refine mp_callV hF (As := [.int x0, .int x1]) (rest := []) (wr := [(mp_arI E a1 0 4 f0), (mp_arI E a4 0 25 f3)]) (bX10_laysWays_138 E a0 a2 a3 a5 a1 a6 a7 a8 a4 a9 a10 a11 a12 a13 a14 a15 a16 a17 a18 a19 a20 a21 a22 a23 a24 a25 f1 f2 f4 0 y1 y2 y3 y4 y5 y6 y7 y8 y9 y10 y11 y12 y13 y14 y15 y16 y17 y18 y19 y20 y21 x0 x1 p0 p6 p7 p8 p9 (by omega) (by omega) (by omega) (by omega) l_y1 u_y1 l_y2 u_y2 l_y3 u_y3 l_y4 u_y4 l_y11 u_y11 l_y12 u_y12 l_y13 u_y13 (by first | assumption | omega) (by assumption)) mp_lkX10_435 0 rfl [0, 2, 3, 5] [1, 4] rfl rfl rfl rfl rfl ⟨(Nat.le_of_ble_eq_true rfl), (Nat.le_of_ble_eq_true rfl), (Nat.le_of_ble_eq_true rfl), (Nat.le_of_ble_eq_true rfl)⟩ (Nat.le_of_ble_eq_true rfl) (by first | exact mp_fd_ok mp_k_cX10_must_ok (by decide +kernel) | decide +kernel) (fun v_51 w_52 h_53 => ?_)
      refine h_53.elim fun r_54 q_60 => q_60.elim fun r_55 q_61 => q_61.elim fun r_56 q_62 => q_62.elim fun r_57 q_63 => q_63.elim fun e_64 q_65 => q_65.elim fun l_58 q_66 => q_66.elim fun u_59 e_67 => ?_
      clear h_53 q_60 q_61 q_62 q_63 q_65 q_66
      subst e_64
      subst e_67
      let w3_ : va_W := [(mp_arI E a1 0 4 f0), (mp_arI E a4 0 25 f3), (mp_ob10 a0 0 a1 a2 a3 a6 a7 y1 y2 y3 y4 y5 y6 y7 y8 y9 y10 a8 a4 a9 a10 a11 a5 a12 a13 y11 a14 a15 a16 a17 y12 y13 y14 a18 a19 y15 y16 a20 a21 a22 r_54 r_55 r_56 r_57 a23 a24 a25 y21), (mp_arI E a2 0 4 f1), (mp_arL E a3 240 f2), (mp_arI E a5 0 300 f4)]
      show mp_W E X 5 42 [(4, .int 0), (0, .ref a0), (1, .int x0), (2, .int x1), (3, .int x2)] [] w3_ 0 0
      refine mp_run mp_k_cX10_must_ok hF mp_tabX10_ok [mp_i (.aload_n 0), mp_h (.getfield 417) [39, 2], mp_h (.ifCond .ne 7) [53]] (by decide +kernel) ?_
      refine And.intro rfl (And.intro rfl ?_)
      refine And.intro (fun c_68 => ?_) (fun c_68 => ?_)
      · have c_68 : r_54.toInt ≠ 0 := c_68
        show mp_W E X 5 53 [(4, .int 0), (0, .ref a0), (1, .int x0), (2, .int x1), (3, .int x2)] [] w3_ 0 0
        refine mp_run mp_k_cX10_must_ok hF mp_tabX10_ok [mp_i (.iload_n 3), mp_h (.ifCond .ne 10) [64]] (by decide +kernel) ?_
        refine And.intro (fun c_69 => ?_) (fun c_69 => ?_)
        · have c_69 : x2.toInt ≠ 0 := c_69
          show mp_W E X 5 64 [(4, .int 0), (0, .ref a0), (1, .int x0), (2, .int x1), (3, .int x2)] [] w3_ 0 0
          refine mp_run mp_k_cX10_must_ok hF mp_tabX10_ok [mp_i (.aload_n 0), mp_h (.getfield 423) [41, 2]] (by decide +kernel) ?_
          refine And.intro rfl (And.intro rfl ?_)
          show mp_W E X 5 68 [(4, .int 0), (0, .ref a0), (1, .int x0), (2, .int x1), (3, .int x2)] [.int r_56] w3_ 0 0
          exact mp_iret hF hQ rfl rfl (Nat.le_of_ble_eq_true rfl) (Nat.le_of_ble_eq_true rfl) [2, 0, 3, 4, 1, 5] (w' := [(mp_ob10 a0 0 a1 a2 a3 a6 a7 y1 y2 y3 y4 y5 y6 y7 y8 y9 y10 a8 a4 a9 a10 a11 a5 a12 a13 y11 a14 a15 a16 a17 y12 y13 y14 a18 a19 y15 y16 a20 a21 a22 r_54 r_55 r_56 r_57 a23 a24 a25 y21), (mp_arI E a1 0 4 f0), (mp_arI E a2 0 4 f1), (mp_arL E a3 240 f2), (mp_arI E a4 0 25 f3), (mp_arI E a5 0 300 f4)]) rfl rfl ⟨r_54, r_55, r_56, r_57, r_56, rfl, rfl⟩ (by first | exact mp_fd_ok mp_k_cX10_must_ok (by decide +kernel) | decide +kernel)
        · have c_69 : x2.toInt = 0 := (congrArg Int32.toInt c_69)
          show mp_W E X 5 57 [(4, .int 0), (0, .ref a0), (1, .int x0), (2, .int x1), (3, .int x2)] [] w3_ 0 0
          refine mp_run mp_k_cX10_must_ok hF mp_tabX10_ok [mp_i (.aload_n 0), mp_h (.getfield 420) [40, 2], mp_h (.goto 7) [68]] (by decide +kernel) ?_
          refine And.intro rfl (And.intro rfl ?_)
          show mp_W E X 5 68 [(4, .int 0), (0, .ref a0), (1, .int x0), (2, .int x1), (3, .int x2)] [.int r_55] w3_ 0 0
          exact mp_iret hF hQ rfl rfl (Nat.le_of_ble_eq_true rfl) (Nat.le_of_ble_eq_true rfl) [2, 0, 3, 4, 1, 5] (w' := [(mp_ob10 a0 0 a1 a2 a3 a6 a7 y1 y2 y3 y4 y5 y6 y7 y8 y9 y10 a8 a4 a9 a10 a11 a5 a12 a13 y11 a14 a15 a16 a17 y12 y13 y14 a18 a19 y15 y16 a20 a21 a22 r_54 r_55 r_56 r_57 a23 a24 a25 y21), (mp_arI E a1 0 4 f0), (mp_arI E a2 0 4 f1), (mp_arL E a3 240 f2), (mp_arI E a4 0 25 f3), (mp_arI E a5 0 300 f4)]) rfl rfl ⟨r_54, r_55, r_56, r_57, r_55, rfl, rfl⟩ (by first | exact mp_fd_ok mp_k_cX10_must_ok (by decide +kernel) | decide +kernel)
      · have c_68 : r_54.toInt = 0 := (congrArg Int32.toInt c_68)
        show mp_W E X 5 49 [(4, .int 0), (0, .ref a0), (1, .int x0), (2, .int x1), (3, .int x2)] [] w3_ 0 0
        refine mp_run mp_k_cX10_must_ok hF mp_tabX10_ok [mp_c (.iconst 0) 0, mp_h (.goto 18) [68]] (by decide +kernel) ?_
        show mp_W E X 5 68 [(4, .int 0), (0, .ref a0), (1, .int x0), (2, .int x1), (3, .int x2)] [.int 0] w3_ 0 0
        exact mp_iret hF hQ rfl rfl (Nat.le_of_ble_eq_true rfl) (Nat.le_of_ble_eq_true rfl) [2, 0, 3, 4, 1, 5] (w' := [(mp_ob10 a0 0 a1 a2 a3 a6 a7 y1 y2 y3 y4 y5 y6 y7 y8 y9 y10 a8 a4 a9 a10 a11 a5 a12 a13 y11 a14 a15 a16 a17 y12 y13 y14 a18 a19 y15 y16 a20 a21 a22 r_54 r_55 r_56 r_57 a23 a24 a25 y21), (mp_arI E a1 0 4 f0), (mp_arI E a2 0 4 f1), (mp_arL E a3 240 f2), (mp_arI E a4 0 25 f3), (mp_arI E a5 0 300 f4)]) rfl rfl ⟨r_54, r_55, r_56, r_57, 0, rfl, rfl⟩ (by first | exact mp_fd_ok mp_k_cX10_must_ok (by decide +kernel) | decide +kernel)
    · skip
      refine q_35.elim fun e_70 q_71 => q_71.elim fun c_29 q_72 => q_72.elim fun c_30 q_73 => q_73.elim fun c_31 e_74 => ?_
      clear h_19 q_33 q_35 q_71 q_72 q_73
      subst e_70
      subst e_74
      have c_29 : 0 ≤ x0.toInt := c_29
      have c_30 : x0.toInt ≤ 3 := c_30
      have c_31 : 0 ≤ x1.toInt := c_31
      show mp_W E X 5 21 [(0, .ref a0), (1, .int x0), (2, .int x1), (3, .int x2)] [.int (-6)] w2_ 0 0
      refine mp_run mp_k_cX10_must_ok hF mp_tabX10_ok [mp_h (.goto 5) [26], mp_i (.istore 4), mp_i (.iload 4), mp_h (.ifCond .eq 6) [36]] (by decide +kernel) ?_
      refine And.intro (fun c_75 => absurd c_75 (by decide)) (fun _ => ?_)
      show mp_W E X 5 33 [(4, .int (-6)), (0, .ref a0), (1, .int x0), (2, .int x1), (3, .int x2)] [] w2_ 0 0
      refine mp_run mp_k_cX10_must_ok hF mp_tabX10_ok [mp_i (.iload 4)] (by decide +kernel) ?_
      show mp_W E X 5 35 [(4, .int (-6)), (0, .ref a0), (1, .int x0), (2, .int x1), (3, .int x2)] [.int (-6)] w2_ 0 0
      exact mp_iret hF hQ rfl rfl (Nat.le_of_ble_eq_true rfl) (Nat.le_of_ble_eq_true rfl) [0, 1, 2, 3, 4, 5] (w' := w2_) rfl rfl ⟨y17, y18, y19, y20, (-6), rfl, rfl⟩ (by first | exact mp_fd_ok mp_k_cX10_must_ok (by decide +kernel) | decide +kernel)
set_option maxHeartbeats 4000000 in
set_option maxRecDepth 100000 in
theorem bX10_times_141 (E : mp_E) (a0 a1 a2 a3 a4 a5 a6 a7 a8 a9 a10 a11 a12 a13 a14 a15 a16 a17 a18 a19 a20 a21 a22 a23 a24 a25 : Nat) (f0 : Nat → Int32) (f1 : Nat → Int32) (f2 : Nat → Int64) (f3 : Nat → Int32) (f4 : Nat → Int32) (y0 : Int32) (y1 : Int32) (y2 : Int32) (y3 : Int32) (y4 : Int32) (y5 : Int32) (y6 : Int64) (y7 : Int32) (y8 : Int32) (y9 : Int32) (y10 : Int32) (y11 : Int32) (y12 : Int32) (y13 : Int32) (y14 : Int32) (y15 : Int32) (y16 : Int32) (y17 : Int32) (y18 : Int32) (y19 : Int32) (y20 : Int32) (y21 : Int32) (x0 : Int32) (x1 : Int32) (p0 : mp_all f1 4 0 60) (p1 : mp_res f3 25 5 0 0 6) (p2 : mp_res f3 25 5 1 0 99) (p3 : mp_res f3 25 5 2 0 6) (p4 : mp_res f3 25 5 3 0 10) (p5 : mp_res f3 25 5 4 0 60) (p6 : mp_res f4 300 6 0 0 5) (p7 : mp_res f4 300 6 1 0 5) (p8 : mp_res f4 300 6 3 0 99) (p9 : mp_res f4 300 6 4 0 1) (l_y1 : 0 ≤ y1.toInt) (u_y1 : y1.toInt ≤ 1600) (l_y2 : 0 ≤ y2.toInt) (u_y2 : y2.toInt ≤ 1600) (l_y3 : 0 ≤ y3.toInt) (u_y3 : y3.toInt ≤ 4) (l_y4 : 0 ≤ y4.toInt) (u_y4 : y4.toInt ≤ 1600) (l_y11 : 0 ≤ y11.toInt) (u_y11 : y11.toInt ≤ 99) (l_y12 : 0 ≤ y12.toInt) (u_y12 : y12.toInt ≤ 5) (l_y13 : 0 ≤ y13.toInt) (u_y13 : y13.toInt ≤ 12) : mp_Ct E yX10_times cX10_times 4 (some FieldType.int) 4 0 0 93 [.ref a0, .int x0, .int x1] [(mp_ob10 a0 y0 a1 a2 a3 a6 a7 y1 y2 y3 y4 y5 y6 y7 y8 y9 y10 a8 a4 a9 a10 a11 a5 a12 a13 y11 a14 a15 a16 a17 y12 y13 y14 a18 a19 y15 y16 a20 a21 a22 y17 y18 y19 y20 a23 a24 a25 y21), (mp_arI E a1 0 4 f0), (mp_arI E a2 0 4 f1), (mp_arL E a3 240 f2), (mp_arI E a4 0 25 f3), (mp_arI E a5 0 300 f4)] (fun v w' => ∃ r1 : Int32, ∃ r2 : Int32, ∃ r3 : Int32, ∃ r4 : Int32, ∃ r5 : Int32, v = some (.int r5) ∧ w' = [(mp_ob10 a0 0 a1 a2 a3 a6 a7 y1 y2 y3 y4 y5 y6 y7 y8 y9 y10 a8 a4 a9 a10 a11 a5 a12 a13 y11 a14 a15 a16 a17 y12 y13 y14 a18 a19 y15 y16 a20 a21 a22 r1 r2 r3 r4 a23 a24 a25 y21), (mp_arI E a1 0 4 f0), (mp_arI E a2 0 4 f1), (mp_arL E a3 240 f2), (mp_arI E a4 0 25 f3), (mp_arI E a5 0 300 f4)]) := by
  refine mp_met false (by decide) (by decide) (Nat.le_of_ble_eq_true rfl) (fun X hF hQ => ?_)
  have hF : mp_F E X (RX10, cX10_times, 4, (4, 0, 0, 93), (some FieldType.int), false) := hF
  let w1_ : va_W := [(mp_ob10 a0 y0 a1 a2 a3 a6 a7 y1 y2 y3 y4 y5 y6 y7 y8 y9 y10 a8 a4 a9 a10 a11 a5 a12 a13 y11 a14 a15 a16 a17 y12 y13 y14 a18 a19 y15 y16 a20 a21 a22 y17 y18 y19 y20 a23 a24 a25 y21), (mp_arI E a1 0 4 f0), (mp_arI E a2 0 4 f1), (mp_arL E a3 240 f2), (mp_arI E a4 0 25 f3), (mp_arI E a5 0 300 f4)]
  show mp_W E X 4 0 [(0, .ref a0), (1, .int x0), (2, .int x1)] [] w1_ 0 0
  refine mp_run mp_k_cX10_times_ok hF mp_tabX10_ok [mp_i (.aload_n 0), mp_c (.iconst 0) 0, mp_h (.putfield 92) [0, 0]] (by decide +kernel) ?_
  refine And.intro rfl (And.intro rfl (And.intro rfl (And.intro rfl (And.intro (Nat.le_of_ble_eq_true rfl) ?_))))
  let w2_ : va_W := [(mp_ob10 a0 0 a1 a2 a3 a6 a7 y1 y2 y3 y4 y5 y6 y7 y8 y9 y10 a8 a4 a9 a10 a11 a5 a12 a13 y11 a14 a15 a16 a17 y12 y13 y14 a18 a19 y15 y16 a20 a21 a22 y17 y18 y19 y20 a23 a24 a25 y21), (mp_arI E a1 0 4 f0), (mp_arI E a2 0 4 f1), (mp_arL E a3 240 f2), (mp_arI E a4 0 25 f3), (mp_arI E a5 0 300 f4)]
  show mp_W E X 4 5 [(0, .ref a0), (1, .int x0), (2, .int x1)] [] w2_ 0 0
  refine mp_run mp_k_cX10_times_ok hF mp_tabX10_ok [mp_i (.aload_n 0), mp_i (.iload_n 1), mp_i (.iload_n 2)] (by decide +kernel) ?_
  show mp_W E X 4 8 [(0, .ref a0), (1, .int x0), (2, .int x1)] [.int x1, .int x0, .ref a0] w2_ 0 0
  refine mp_callV hF (As := [.int x0, .int x1]) (rest := []) (wr := []) (bX10_whyNot_135 E a0 a1 a2 a3 a4 a5 a6 a7 a8 a9 a10 a11 a12 a13 a14 a15 a16 a17 a18 a19 a20 a21 a22 a23 a24 a25 f0 f1 f2 f3 f4 0 y1 y2 y3 y4 y5 y6 y7 y8 y9 y10 y11 y12 y13 y14 y15 y16 y17 y18 y19 y20 y21 x0 x1 p0 p1 p2 p3 p4 p5 p6 p7 p8 p9 l_y1 u_y1 l_y2 u_y2 l_y3 u_y3 l_y4 u_y4 l_y11 u_y11 l_y12 u_y12 l_y13 u_y13) mp_lkX10_432 0 rfl [0, 1, 2, 3, 4, 5] [] rfl rfl rfl rfl rfl ⟨(Nat.le_of_ble_eq_true rfl), (Nat.le_of_ble_eq_true rfl), (Nat.le_of_ble_eq_true rfl), (Nat.le_of_ble_eq_true rfl)⟩ (Nat.le_of_ble_eq_true rfl) (by first | exact mp_fd_ok mp_k_cX10_times_ok (by decide +kernel) | decide +kernel) (fun v_1 w_2 h_3 => ?_)
  refine h_3.elim (fun q_16 => ?_) (fun q_17 => q_17.elim (fun q_18 => ?_) (fun q_19 => ?_))
  · skip
    refine q_16.elim fun e_20 e_21 => ?_
    clear h_3 q_16
    subst e_20
    subst e_21
    show mp_W E X 4 11 [(0, .ref a0), (1, .int x0), (2, .int x1)] [.int (-2)] w2_ 0 0
    refine mp_run mp_k_cX10_times_ok hF mp_tabX10_ok [mp_i (.istore_n 3), mp_i (.iload_n 3), mp_h (.ifCond .eq 5) [18]] (by decide +kernel) ?_
    refine And.intro (fun c_22 => absurd c_22 (by decide)) (fun _ => ?_)
    show mp_W E X 4 16 [(3, .int (-2)), (0, .ref a0), (1, .int x0), (2, .int x1)] [] w2_ 0 0
    refine mp_run mp_k_cX10_times_ok hF mp_tabX10_ok [mp_i (.iload_n 3)] (by decide +kernel) ?_
    show mp_W E X 4 17 [(3, .int (-2)), (0, .ref a0), (1, .int x0), (2, .int x1)] [.int (-2)] w2_ 0 0
    exact mp_iret hF hQ rfl rfl (Nat.le_of_ble_eq_true rfl) (Nat.le_of_ble_eq_true rfl) [0, 1, 2, 3, 4, 5] (w' := w2_) rfl rfl ⟨y17, y18, y19, y20, (-2), rfl, rfl⟩ (by first | exact mp_fd_ok mp_k_cX10_times_ok (by decide +kernel) | decide +kernel)
  · skip
    refine q_18.elim fun e_23 q_24 => q_24.elim fun c_4 q_25 => q_25.elim fun c_5 q_26 => q_26.elim fun c_6 q_27 => q_27.elim fun x_7 q_28 => q_28.elim fun x_8 q_29 => q_29.elim fun x_9 q_30 => q_30.elim fun x_10 q_31 => q_31.elim fun x_11 q_32 => q_32.elim fun x_12 e_33 => ?_
    clear h_3 q_17 q_18 q_24 q_25 q_26 q_27 q_28 q_29 q_30 q_31 q_32
    subst e_23
    subst e_33
    have c_4 : 0 ≤ x0.toInt := c_4
    have c_5 : x0.toInt ≤ 3 := c_5
    have c_6 : 0 ≤ x1.toInt := c_6
    show mp_W E X 4 11 [(0, .ref a0), (1, .int x0), (2, .int x1)] [.int 0] w2_ 0 0
    refine mp_run mp_k_cX10_times_ok hF mp_tabX10_ok [mp_i (.istore_n 3), mp_i (.iload_n 3), mp_h (.ifCond .eq 5) [18]] (by decide +kernel) ?_
    refine And.intro (fun _ => ?_) (fun c_34 => absurd c_34 (by decide))
    show mp_W E X 4 18 [(3, .int 0), (0, .ref a0), (1, .int x0), (2, .int x1)] [] w2_ 0 0
    refine mp_run mp_k_cX10_times_ok hF mp_tabX10_ok [mp_i (.aload_n 0), mp_i (.iload_n 1), mp_i (.iload_n 2)] (by decide +kernel) ?_
    show mp_W E X 4 21 [(3, .int 0), (0, .ref a0), (1, .int x0), (2, .int x1)] [.int x1, .int x0, .ref a0] w2_ 0 0
    refine mp_callV hF (As := [.int x0, .int x1]) (rest := []) (wr := [(mp_arI E a1 0 4 f0), (mp_arI E a4 0 25 f3)]) (bX10_laysWays_138 E a0 a2 a3 a5 a1 a6 a7 a8 a4 a9 a10 a11 a12 a13 a14 a15 a16 a17 a18 a19 a20 a21 a22 a23 a24 a25 f1 f2 f4 0 y1 y2 y3 y4 y5 y6 y7 y8 y9 y10 y11 y12 y13 y14 y15 y16 y17 y18 y19 y20 y21 x0 x1 p0 p6 p7 p8 p9 (by omega) (by omega) (by omega) (by omega) l_y1 u_y1 l_y2 u_y2 l_y3 u_y3 l_y4 u_y4 l_y11 u_y11 l_y12 u_y12 l_y13 u_y13 (by first | assumption | omega) (by assumption)) mp_lkX10_435 0 rfl [0, 2, 3, 5] [1, 4] rfl rfl rfl rfl rfl ⟨(Nat.le_of_ble_eq_true rfl), (Nat.le_of_ble_eq_true rfl), (Nat.le_of_ble_eq_true rfl), (Nat.le_of_ble_eq_true rfl)⟩ (Nat.le_of_ble_eq_true rfl) (by first | exact mp_fd_ok mp_k_cX10_times_ok (by decide +kernel) | decide +kernel) (fun v_35 w_36 h_37 => ?_)
    refine h_37.elim fun r_38 q_44 => q_44.elim fun r_39 q_45 => q_45.elim fun r_40 q_46 => q_46.elim fun r_41 q_47 => q_47.elim fun e_48 q_49 => q_49.elim fun l_42 q_50 => q_50.elim fun u_43 e_51 => ?_
    clear h_37 q_44 q_45 q_46 q_47 q_49 q_50
    subst e_48
    subst e_51
    let w3_ : va_W := [(mp_arI E a1 0 4 f0), (mp_arI E a4 0 25 f3), (mp_ob10 a0 0 a1 a2 a3 a6 a7 y1 y2 y3 y4 y5 y6 y7 y8 y9 y10 a8 a4 a9 a10 a11 a5 a12 a13 y11 a14 a15 a16 a17 y12 y13 y14 a18 a19 y15 y16 a20 a21 a22 r_38 r_39 r_40 r_41 a23 a24 a25 y21), (mp_arI E a2 0 4 f1), (mp_arL E a3 240 f2), (mp_arI E a5 0 300 f4)]
    show mp_W E X 4 24 [(3, .int 0), (0, .ref a0), (1, .int x0), (2, .int x1)] [] w3_ 0 0
    refine mp_run mp_k_cX10_times_ok hF mp_tabX10_ok [mp_i (.aload_n 0), mp_h (.getfield 417) [39, 2], mp_h (.ifCond .ne 7) [35]] (by decide +kernel) ?_
    refine And.intro rfl (And.intro rfl ?_)
    refine And.intro (fun c_52 => ?_) (fun c_52 => ?_)
    · have c_52 : r_38.toInt ≠ 0 := c_52
      show mp_W E X 4 35 [(3, .int 0), (0, .ref a0), (1, .int x0), (2, .int x1)] [] w3_ 0 0
      refine mp_run mp_k_cX10_times_ok hF mp_tabX10_ok [mp_i (.aload_n 0), mp_h (.getfield 426) [42, 2]] (by decide +kernel) ?_
      refine And.intro rfl (And.intro rfl ?_)
      show mp_W E X 4 39 [(3, .int 0), (0, .ref a0), (1, .int x0), (2, .int x1)] [.int r_41] w3_ 0 0
      exact mp_iret hF hQ rfl rfl (Nat.le_of_ble_eq_true rfl) (Nat.le_of_ble_eq_true rfl) [2, 0, 3, 4, 1, 5] (w' := [(mp_ob10 a0 0 a1 a2 a3 a6 a7 y1 y2 y3 y4 y5 y6 y7 y8 y9 y10 a8 a4 a9 a10 a11 a5 a12 a13 y11 a14 a15 a16 a17 y12 y13 y14 a18 a19 y15 y16 a20 a21 a22 r_38 r_39 r_40 r_41 a23 a24 a25 y21), (mp_arI E a1 0 4 f0), (mp_arI E a2 0 4 f1), (mp_arL E a3 240 f2), (mp_arI E a4 0 25 f3), (mp_arI E a5 0 300 f4)]) rfl rfl ⟨r_38, r_39, r_40, r_41, r_41, rfl, rfl⟩ (by first | exact mp_fd_ok mp_k_cX10_times_ok (by decide +kernel) | decide +kernel)
    · have c_52 : r_38.toInt = 0 := (congrArg Int32.toInt c_52)
      show mp_W E X 4 31 [(3, .int 0), (0, .ref a0), (1, .int x0), (2, .int x1)] [] w3_ 0 0
      refine mp_run mp_k_cX10_times_ok hF mp_tabX10_ok [mp_c (.iconst (-1)) (-1), mp_h (.goto 7) [39]] (by decide +kernel) ?_
      show mp_W E X 4 39 [(3, .int 0), (0, .ref a0), (1, .int x0), (2, .int x1)] [.int (-1)] w3_ 0 0
      exact mp_iret hF hQ rfl rfl (Nat.le_of_ble_eq_true rfl) (Nat.le_of_ble_eq_true rfl) [2, 0, 3, 4, 1, 5] (w' := [(mp_ob10 a0 0 a1 a2 a3 a6 a7 y1 y2 y3 y4 y5 y6 y7 y8 y9 y10 a8 a4 a9 a10 a11 a5 a12 a13 y11 a14 a15 a16 a17 y12 y13 y14 a18 a19 y15 y16 a20 a21 a22 r_38 r_39 r_40 r_41 a23 a24 a25 y21), (mp_arI E a1 0 4 f0), (mp_arI E a2 0 4 f1), (mp_arL E a3 240 f2), (mp_arI E a4 0 25 f3), (mp_arI E a5 0 300 f4)]) rfl rfl ⟨r_38, r_39, r_40, r_41, (-1), rfl, rfl⟩ (by first | exact mp_fd_ok mp_k_cX10_times_ok (by decide +kernel) | decide +kernel)
  · skip
    refine q_19.elim fun e_53 q_54 => q_54.elim fun c_13 q_55 => q_55.elim fun c_14 q_56 => q_56.elim fun c_15 e_57 => ?_
    clear h_3 q_17 q_19 q_54 q_55 q_56
    subst e_53
    subst e_57
    have c_13 : 0 ≤ x0.toInt := c_13
    have c_14 : x0.toInt ≤ 3 := c_14
    have c_15 : 0 ≤ x1.toInt := c_15
    show mp_W E X 4 11 [(0, .ref a0), (1, .int x0), (2, .int x1)] [.int (-6)] w2_ 0 0
    refine mp_run mp_k_cX10_times_ok hF mp_tabX10_ok [mp_i (.istore_n 3), mp_i (.iload_n 3), mp_h (.ifCond .eq 5) [18]] (by decide +kernel) ?_
    refine And.intro (fun c_58 => absurd c_58 (by decide)) (fun _ => ?_)
    show mp_W E X 4 16 [(3, .int (-6)), (0, .ref a0), (1, .int x0), (2, .int x1)] [] w2_ 0 0
    refine mp_run mp_k_cX10_times_ok hF mp_tabX10_ok [mp_i (.iload_n 3)] (by decide +kernel) ?_
    show mp_W E X 4 17 [(3, .int (-6)), (0, .ref a0), (1, .int x0), (2, .int x1)] [.int (-6)] w2_ 0 0
    exact mp_iret hF hQ rfl rfl (Nat.le_of_ble_eq_true rfl) (Nat.le_of_ble_eq_true rfl) [0, 1, 2, 3, 4, 5] (w' := w2_) rfl rfl ⟨y17, y18, y19, y20, (-6), rfl, rfl⟩ (by first | exact mp_fd_ok mp_k_cX10_times_ok (by decide +kernel) | decide +kernel)
set_option maxHeartbeats 4000000 in
set_option maxRecDepth 100000 in
theorem bX10_worstOf_142 (E : mp_E) (a0 a1 a2 a3 a4 a5 a6 a7 a8 a9 a10 a11 a12 a13 a14 a15 a16 a17 a18 a19 a20 a21 a22 a23 a24 a25 : Nat) (f0 : Nat → Int32) (f1 : Nat → Int64) (f2 : Nat → Int32) (f3 : Nat → Int32) (f4 : Nat → Int32) (y0 : Int32) (y1 : Int32) (y2 : Int32) (y3 : Int32) (y4 : Int32) (y5 : Int32) (y6 : Int64) (y7 : Int32) (y8 : Int32) (y9 : Int32) (y10 : Int32) (y11 : Int32) (y12 : Int32) (y13 : Int32) (y14 : Int32) (y15 : Int32) (y16 : Int32) (y17 : Int32) (y18 : Int32) (y19 : Int32) (y20 : Int32) (y21 : Int32) (x0 : Int32) (x1 : Int32) (x2 : Int32) (p0 : mp_all f0 4 0 60) (p1 : mp_res f2 300 6 0 0 5) (p2 : mp_res f2 300 6 1 0 5) (p3 : mp_res f2 300 6 3 0 99) (p4 : mp_res f2 300 6 4 0 1) (l_x0 : 0 ≤ x0.toInt) (u_x0 : x0.toInt ≤ 3) (l_x1 : 0 ≤ x1.toInt) (u_x1 : x1.toInt ≤ 9) (l_x2 : 0 ≤ x2.toInt) (u_x2 : x2.toInt ≤ 10) (l_y1 : 0 ≤ y1.toInt) (u_y1 : y1.toInt ≤ 1600) (l_y2 : 0 ≤ y2.toInt) (u_y2 : y2.toInt ≤ 1600) (l_y3 : 0 ≤ y3.toInt) (u_y3 : y3.toInt ≤ 4) (l_y4 : 0 ≤ y4.toInt) (u_y4 : y4.toInt ≤ 1600) (l_y11 : 0 ≤ y11.toInt) (u_y11 : y11.toInt ≤ 99) (l_y12 : 0 ≤ y12.toInt) (u_y12 : y12.toInt ≤ 5) (l_y13 : 0 ≤ y13.toInt) (u_y13 : y13.toInt ≤ 12) (q0 : (f0 x0.toInt.toNat).toInt % 2 = 0) (q1 : mp_wn f1 x0.toInt (f0 x0.toInt.toNat).toInt (f2 (6 * x1.toInt.toNat + 3)).toInt) : mp_Ct E yX10_worstOf cX10_worstOf 9 (some FieldType.int) 3 0 0 70 [.ref a0, .int x0, .int x1, .int x2] [(mp_ob10 a0 y0 a6 a1 a2 a7 a8 y1 y2 y3 y4 y5 y6 y7 y8 y9 y10 a9 a10 a11 a12 a13 a3 a14 a15 y11 a16 a17 a18 a19 y12 y13 y14 a20 a21 y15 y16 a22 a23 a24 y17 y18 y19 y20 a4 a5 a25 y21), (mp_arI E a1 0 4 f0), (mp_arL E a2 240 f1), (mp_arI E a3 0 300 f2), (mp_arI E a4 0 12 f3), (mp_arI E a5 0 12 f4)] (fun v w' => ∃ h1 : Nat → Int32, ∃ h2 : Nat → Int32, ∃ r3 : Int32, v = some (.int r3) ∧ 0 ≤ r3.toInt ∧ w' = [(mp_ob10 a0 y0 a6 a1 a2 a7 a8 y1 y2 y3 y4 y5 y6 y7 y8 y9 y10 a9 a10 a11 a12 a13 a3 a14 a15 y11 a16 a17 a18 a19 y12 y13 y14 a20 a21 y15 y16 a22 a23 a24 y17 y18 y19 y20 a4 a5 a25 y21), (mp_arI E a1 0 4 f0), (mp_arL E a2 240 f1), (mp_arI E a3 0 300 f2), (mp_arI E a4 0 12 h1), (mp_arI E a5 0 12 h2)]) := by
  refine mp_met false (by decide) (by decide) (Nat.le_of_ble_eq_true rfl) (fun X hF hQ => ?_)
  have hF : mp_F E X (RX10, cX10_worstOf, 9, (3, 0, 0, 70), (some FieldType.int), false) := hF
  let w1_ : va_W := [(mp_ob10 a0 y0 a6 a1 a2 a7 a8 y1 y2 y3 y4 y5 y6 y7 y8 y9 y10 a9 a10 a11 a12 a13 a3 a14 a15 y11 a16 a17 a18 a19 y12 y13 y14 a20 a21 y15 y16 a22 a23 a24 y17 y18 y19 y20 a4 a5 a25 y21), (mp_arI E a1 0 4 f0), (mp_arL E a2 240 f1), (mp_arI E a3 0 300 f2), (mp_arI E a4 0 12 f3), (mp_arI E a5 0 12 f4)]
  show mp_W E X 9 0 [(0, .ref a0), (1, .int x0), (2, .int x1), (3, .int x2)] [] w1_ 0 0
  refine mp_run mp_k_cX10_worstOf_ok hF mp_tabX10_ok [mp_c (.iconst 0) 0, mp_i (.istore 4), mp_c (.iconst 0) 0, mp_i (.istore 5), mp_c (.iconst 0) 0, mp_i (.istore 6)] (by decide +kernel) ?_
  show mp_W E X 9 9 [(6, .int 0), (5, .int 0), (4, .int 0), (0, .ref a0), (1, .int x0), (2, .int x1), (3, .int x2)] [] w1_ 0 0
  have lp_11 : ∀ (d_12 : Nat) (i_1 : Int32) (i_2 : Int32) (g_3 : Nat → Int32) (g_4 : Nat → Int32) (i_5 : Int32), 0 ≤ i_1.toInt → i_1.toInt ≤ 1024 → 0 ≤ i_5.toInt → (mp_dw g_4 (f2 (6 * x1.toInt.toNat + 2)) i_2.toInt) → (0 ≤ i_2.toInt) → -(i_1.toInt) + 1024 ≤ (d_12 : Int) → mp_W E X 9 9 [(6, .int i_1), (5, .int i_5), (4, .int i_2), (0, .ref a0), (1, .int x0), (2, .int x1), (3, .int x2)] [] [(mp_ob10 a0 y0 a6 a1 a2 a7 a8 y1 y2 y3 y4 y5 y6 y7 y8 y9 y10 a9 a10 a11 a12 a13 a3 a14 a15 y11 a16 a17 a18 a19 y12 y13 y14 a20 a21 y15 y16 a22 a23 a24 y17 y18 y19 y20 a4 a5 a25 y21), (mp_arI E a1 0 4 f0), (mp_arL E a2 240 f1), (mp_arI E a3 0 300 f2), (mp_arI E a4 0 12 g_3), (mp_arI E a5 0 12 g_4)] 0 0 := by
    intro d_12
    induction d_12 using Nat.strongRecOn with
    | ind d_12 ih_13 =>
      intro i_1 i_2 g_3 g_4 i_5 l_6 u_7 l_8 x_9 x_10 hm_14
      have e_15 := mp_dw_le x_9
      refine mp_run mp_k_cX10_worstOf_ok hF mp_tabX10_ok [mp_i (.iload 6), mp_c (.sipush 1024) 1024, mp_h (.if_icmp .ge 125) [139]] (by decide +kernel) ?_
      refine And.intro (fun c_16 => ?_) (fun c_16 => ?_)
      · have c_16 : 1024 ≤ i_1.toInt := c_16
        let w2_ : va_W := [(mp_ob10 a0 y0 a6 a1 a2 a7 a8 y1 y2 y3 y4 y5 y6 y7 y8 y9 y10 a9 a10 a11 a12 a13 a3 a14 a15 y11 a16 a17 a18 a19 y12 y13 y14 a20 a21 y15 y16 a22 a23 a24 y17 y18 y19 y20 a4 a5 a25 y21), (mp_arI E a1 0 4 f0), (mp_arL E a2 240 f1), (mp_arI E a3 0 300 f2), (mp_arI E a4 0 12 g_3), (mp_arI E a5 0 12 g_4)]
        show mp_W E X 9 139 [(6, .int i_1), (5, .int i_5), (4, .int i_2), (0, .ref a0), (1, .int x0), (2, .int x1), (3, .int x2)] [] w2_ 0 0
        refine mp_run mp_k_cX10_worstOf_ok hF mp_tabX10_ok [mp_i (.iload 5)] (by decide +kernel) ?_
        show mp_W E X 9 141 [(6, .int i_1), (5, .int i_5), (4, .int i_2), (0, .ref a0), (1, .int x0), (2, .int x1), (3, .int x2)] [.int i_5] w2_ 0 0
        exact mp_iret hF hQ rfl rfl (Nat.le_of_ble_eq_true rfl) (Nat.le_of_ble_eq_true rfl) [0, 1, 2, 3, 4, 5] (w' := w2_) rfl rfl ⟨g_3, g_4, i_5, rfl, l_8, rfl⟩ (by first | exact mp_fd_ok mp_k_cX10_worstOf_ok (by decide +kernel) | decide +kernel)
      · have c_16 : i_1.toInt < 1024 := c_16
        let w3_ : va_W := [(mp_ob10 a0 y0 a6 a1 a2 a7 a8 y1 y2 y3 y4 y5 y6 y7 y8 y9 y10 a9 a10 a11 a12 a13 a3 a14 a15 y11 a16 a17 a18 a19 y12 y13 y14 a20 a21 y15 y16 a22 a23 a24 y17 y18 y19 y20 a4 a5 a25 y21), (mp_arI E a1 0 4 f0), (mp_arL E a2 240 f1), (mp_arI E a3 0 300 f2), (mp_arI E a4 0 12 g_3), (mp_arI E a5 0 12 g_4)]
        show mp_W E X 9 17 [(6, .int i_1), (5, .int i_5), (4, .int i_2), (0, .ref a0), (1, .int x0), (2, .int x1), (3, .int x2)] [] w3_ 0 0
        refine mp_run mp_k_cX10_worstOf_ok hF mp_tabX10_ok [mp_i (.aload_n 0), mp_i (.iload_n 1), mp_i (.iload_n 2), mp_i (.iload 6)] (by decide +kernel) ?_
        show mp_W E X 9 22 [(6, .int i_1), (5, .int i_5), (4, .int i_2), (0, .ref a0), (1, .int x0), (2, .int x1), (3, .int x2)] [.int i_1, .int x1, .int x0, .ref a0] w3_ 0 0
        refine mp_callV hF (As := [.int x0, .int x1, .int i_1]) (rest := []) (wr := [(mp_arI E a4 0 12 g_3), (mp_arI E a5 0 12 g_4)]) (bX10_isWay_137 E a0 a1 a2 a3 a6 a7 a8 a9 a10 a11 a12 a13 a14 a15 a16 a17 a18 a19 a20 a21 a22 a23 a24 a4 a5 a25 f0 f1 f2 y0 y1 y2 y3 y4 y5 y6 y7 y8 y9 y10 y11 y12 y13 y14 y15 y16 y17 y18 y19 y20 y21 x0 x1 i_1 p0 p1 p2 p3 p4 l_x0 u_x0 l_x1 u_x1 l_y1 u_y1 l_y2 u_y2 l_y3 u_y3 l_y4 u_y4 l_y11 u_y11 l_y12 u_y12 l_y13 u_y13 (by first | assumption | omega) (by assumption)) mp_lkX10_429 0 rfl [0, 1, 2, 3] [4, 5] rfl rfl rfl rfl rfl ⟨(Nat.le_of_ble_eq_true rfl), (Nat.le_of_ble_eq_true rfl), (Nat.le_of_ble_eq_true rfl), (Nat.le_of_ble_eq_true rfl)⟩ (Nat.le_of_ble_eq_true rfl) (by first | exact mp_fd_ok mp_k_cX10_worstOf_ok (by decide +kernel) | decide +kernel) (fun v_17 w_18 h_19 => ?_)
        rcases h_19 with ⟨rfl, rfl⟩ | ⟨rfl, rfl⟩
        · skip
          let w4_ : va_W := [(mp_arI E a4 0 12 g_3), (mp_arI E a5 0 12 g_4), (mp_ob10 a0 y0 a6 a1 a2 a7 a8 y1 y2 y3 y4 y5 y6 y7 y8 y9 y10 a9 a10 a11 a12 a13 a3 a14 a15 y11 a16 a17 a18 a19 y12 y13 y14 a20 a21 y15 y16 a22 a23 a24 y17 y18 y19 y20 a4 a5 a25 y21), (mp_arI E a1 0 4 f0), (mp_arL E a2 240 f1), (mp_arI E a3 0 300 f2)]
          show mp_W E X 9 25 [(6, .int i_1), (5, .int i_5), (4, .int i_2), (0, .ref a0), (1, .int x0), (2, .int x1), (3, .int x2)] [.int 1] w4_ 0 0
          refine mp_run mp_k_cX10_worstOf_ok hF mp_tabX10_ok [mp_h (.ifCond .ne 6) [31]] (by decide +kernel) ?_
          refine And.intro (fun _ => ?_) (fun c_20 => absurd c_20 (by decide))
          show mp_W E X 9 31 [(6, .int i_1), (5, .int i_5), (4, .int i_2), (0, .ref a0), (1, .int x0), (2, .int x1), (3, .int x2)] [] w4_ 0 0
          refine mp_run mp_k_cX10_worstOf_ok hF mp_tabX10_ok [mp_i (.aload_n 0), mp_i (.iload_n 2), mp_i (.iload 6), mp_i (.iload_n 3)] (by decide +kernel) ?_
          show mp_W E X 9 36 [(6, .int i_1), (5, .int i_5), (4, .int i_2), (0, .ref a0), (1, .int x0), (2, .int x1), (3, .int x2)] [.int x2, .int i_1, .int x1, .ref a0] w4_ 0 0
          refine mp_callV hF (As := [.int x1, .int i_1, .int x2]) (rest := []) (wr := [(mp_arI E a4 0 12 g_3), (mp_arI E a5 0 12 g_4), (mp_arI E a1 0 4 f0), (mp_arL E a2 240 f1)]) (bX10_worthBy_136 E a0 a3 a6 a1 a2 a7 a8 a9 a10 a11 a12 a13 a14 a15 a16 a17 a18 a19 a20 a21 a22 a23 a24 a4 a5 a25 f2 y0 y1 y2 y3 y4 y5 y6 y7 y8 y9 y10 y11 y12 y13 y14 y15 y16 y17 y18 y19 y20 y21 x1 i_1 x2 p1 p2 p3 p4 l_x1 u_x1 l_x2 u_x2 l_y1 u_y1 l_y2 u_y2 l_y3 u_y3 l_y4 u_y4 l_y11 u_y11 l_y12 u_y12 l_y13 u_y13) mp_lkX10_414 2 rfl [2, 5] [0, 1, 3, 4] rfl rfl rfl rfl rfl ⟨(Nat.le_of_ble_eq_true rfl), (Nat.le_of_ble_eq_true rfl), (Nat.le_of_ble_eq_true rfl), (Nat.le_of_ble_eq_true rfl)⟩ (Nat.le_of_ble_eq_true rfl) (by first | exact mp_fd_ok mp_k_cX10_worstOf_ok (by decide +kernel) | decide +kernel) (fun v_21 w_22 h_23 => ?_)
          obtain ⟨r_24, rfl, x_25, rfl⟩ := h_23
          let w5_ : va_W := [(mp_arI E a4 0 12 g_3), (mp_arI E a5 0 12 g_4), (mp_arI E a1 0 4 f0), (mp_arL E a2 240 f1), (mp_ob10 a0 y0 a6 a1 a2 a7 a8 y1 y2 y3 y4 y5 y6 y7 y8 y9 y10 a9 a10 a11 a12 a13 a3 a14 a15 y11 a16 a17 a18 a19 y12 y13 y14 a20 a21 y15 y16 a22 a23 a24 y17 y18 y19 y20 a4 a5 a25 y21), (mp_arI E a3 0 300 f2)]
          show mp_W E X 9 39 [(6, .int i_1), (5, .int i_5), (4, .int i_2), (0, .ref a0), (1, .int x0), (2, .int x1), (3, .int x2)] [.int r_24] w5_ 0 0
          refine mp_run mp_k_cX10_worstOf_ok hF mp_tabX10_ok [mp_i (.istore 7), mp_c (.iconst 0) 0, mp_i (.istore 8)] (by decide +kernel) ?_
          show mp_W E X 9 44 [(8, .int 0), (7, .int r_24), (6, .int i_1), (5, .int i_5), (4, .int i_2), (0, .ref a0), (1, .int x0), (2, .int x1), (3, .int x2)] [] w5_ 0 0
          have lp_31 : ∀ (d_32 : Nat) (i_26 : Int32), 0 ≤ i_26.toInt → i_26.toInt ≤ 12 → (∀ a : Nat, (a : Int) < i_26.toInt → g_4 a ≠ r_24) → (0 ≤ i_26.toInt ∧ i_26.toInt ≤ i_2.toInt) → i_2.toInt - i_26.toInt ≤ (d_32 : Int) → mp_W E X 9 44 [(8, .int i_26), (7, .int r_24), (6, .int i_1), (5, .int i_5), (4, .int i_2), (0, .ref a0), (1, .int x0), (2, .int x1), (3, .int x2)] [] [(mp_arI E a4 0 12 g_3), (mp_arI E a5 0 12 g_4), (mp_arI E a1 0 4 f0), (mp_arL E a2 240 f1), (mp_ob10 a0 y0 a6 a1 a2 a7 a8 y1 y2 y3 y4 y5 y6 y7 y8 y9 y10 a9 a10 a11 a12 a13 a3 a14 a15 y11 a16 a17 a18 a19 y12 y13 y14 a20 a21 y15 y16 a22 a23 a24 y17 y18 y19 y20 a4 a5 a25 y21), (mp_arI E a3 0 300 f2)] 0 0 := by
            intro d_32
            induction d_32 using Nat.strongRecOn with
            | ind d_32 ih_33 =>
              intro i_26 l_27 u_28 x_29 x_30 hm_34
              refine mp_run mp_k_cX10_worstOf_ok hF mp_tabX10_ok [mp_i (.iload 8), mp_i (.iload 4), mp_h (.if_icmp .ge 21) [69]] (by decide +kernel) ?_
              refine And.intro (fun c_35 => ?_) (fun c_35 => ?_)
              · have c_35 : i_2.toInt ≤ i_26.toInt := c_35
                show mp_W E X 9 69 [(8, .int i_26), (7, .int r_24), (6, .int i_1), (5, .int i_5), (4, .int i_2), (0, .ref a0), (1, .int x0), (2, .int x1), (3, .int x2)] [] w5_ 0 0
                refine mp_run mp_k_cX10_worstOf_ok hF mp_tabX10_ok [mp_i (.iload 8), mp_i (.iload 4), mp_h (.if_icmp .ne 23) [96]] (by decide +kernel) ?_
                refine And.intro (fun c_36 => ?_) (fun c_36 => ?_)
                · have c_36 : i_26.toInt ≠ i_2.toInt := c_36
                  show mp_W E X 9 96 [(8, .int i_26), (7, .int r_24), (6, .int i_1), (5, .int i_5), (4, .int i_2), (0, .ref a0), (1, .int x0), (2, .int x1), (3, .int x2)] [] w5_ 0 0
                  refine mp_run mp_k_cX10_worstOf_ok hF mp_tabX10_ok [mp_i (.aload_n 0), mp_h (.getfield 83) [43, 4], mp_i (.iload 8), mp_i .dup2, mp_h .iaload [0], mp_c (.iconst 1) 1, mp_i .iadd, mp_h .iastore [0]] (by decide +kernel) ?_
                  refine And.intro rfl (And.intro rfl ?_)
                  refine And.intro rfl (And.intro rfl (And.intro (vp_in_iff.mpr (by omega)) ?_))
                  intro z_37 h_38
                  intro z_39 h_40
                  have e_41 := mp_bnd z_37
                  refine And.intro rfl (And.intro rfl (And.intro (vp_in_iff.mpr (by omega)) ?_))
                  intro g_43 h_44
                  let w6_ : va_W := [(mp_arI E a4 0 12 g_43), (mp_arI E a5 0 12 g_4), (mp_arI E a1 0 4 f0), (mp_arL E a2 240 f1), (mp_ob10 a0 y0 a6 a1 a2 a7 a8 y1 y2 y3 y4 y5 y6 y7 y8 y9 y10 a9 a10 a11 a12 a13 a3 a14 a15 y11 a16 a17 a18 a19 y12 y13 y14 a20 a21 y15 y16 a22 a23 a24 y17 y18 y19 y20 a4 a5 a25 y21), (mp_arI E a3 0 300 f2)]
                  show mp_W E X 9 107 [(8, .int i_26), (7, .int r_24), (6, .int i_1), (5, .int i_5), (4, .int i_2), (0, .ref a0), (1, .int x0), (2, .int x1), (3, .int x2)] [] w6_ 0 0
                  refine mp_run mp_k_cX10_worstOf_ok hF mp_tabX10_ok [mp_i (.aload_n 0), mp_h (.getfield 83) [43, 4], mp_i (.iload 8), mp_h .iaload [0], mp_i (.iload 5), mp_h (.if_icmp .le 13) [129]] (by decide +kernel) ?_
                  refine And.intro rfl (And.intro rfl ?_)
                  refine And.intro rfl (And.intro rfl (And.intro (vp_in_iff.mpr (by omega)) ?_))
                  intro z_45 h_46
                  refine And.intro (fun c_47 => ?_) (fun c_47 => ?_)
                  · have c_47 : z_45.toInt ≤ i_5.toInt := c_47
                    show mp_W E X 9 129 [(8, .int i_26), (7, .int r_24), (6, .int i_1), (5, .int i_5), (4, .int i_2), (0, .ref a0), (1, .int x0), (2, .int x1), (3, .int x2)] [] w6_ 0 0
                    refine mp_run mp_k_cX10_worstOf_ok hF mp_tabX10_ok [mp_i (.iload 5), mp_i (.istore 5), mp_c (.iinc 6 1) 1, mp_h (.goto (-127)) [9]] (by decide +kernel) ?_
                    intro z_48 h_49
                    have e_50 : z_48.toInt = i_1.toInt + 1 := mp_add (a := i_1.toInt) (b := 1) h_49 rfl (by decide) (by omega) (by omega)
                    show mp_W E X 9 9 [(6, .int z_48), (5, .int i_5), (8, .int i_26), (7, .int r_24), (4, .int i_2), (0, .ref a0), (1, .int x0), (2, .int x1), (3, .int x2)] [] w6_ 0 0
                    exact mp_sub [0, 1, 4, 5, 6, 7, 8] rfl [4, 2, 3, 5, 0, 1] rfl rfl (ih_13 (d_12 - 1) (by omega) z_48 i_2 g_43 g_4 i_5 (by omega) (by omega) l_8 (by first | exact x_9 | exact mp_dw_add x_9 x (by omega) (by omega) x_25 (by rw [show i_26.toInt = i_2.toInt from by omega] at x_29; exact x_29) (by omega)) (by first | (first | exact x_10 | omega) | decide) (by omega))
                  · have c_47 : i_5.toInt < z_45.toInt := c_47
                    show mp_W E X 9 119 [(8, .int i_26), (7, .int r_24), (6, .int i_1), (5, .int i_5), (4, .int i_2), (0, .ref a0), (1, .int x0), (2, .int x1), (3, .int x2)] [] w6_ 0 0
                    refine mp_run mp_k_cX10_worstOf_ok hF mp_tabX10_ok [mp_i (.aload_n 0), mp_h (.getfield 83) [43, 4], mp_i (.iload 8), mp_h .iaload [0], mp_h (.goto 5) [131], mp_i (.istore 5), mp_c (.iinc 6 1) 1, mp_h (.goto (-127)) [9]] (by decide +kernel) ?_
                    refine And.intro rfl (And.intro rfl ?_)
                    refine And.intro rfl (And.intro rfl (And.intro (vp_in_iff.mpr (by omega)) ?_))
                    intro z_51 h_52
                    have k_53 : z_45 = z_51 := h_46.trans h_52.symm
                    subst k_53
                    intro z_54 h_55
                    have e_56 : z_54.toInt = i_1.toInt + 1 := mp_add (a := i_1.toInt) (b := 1) h_55 rfl (by decide) (by omega) (by omega)
                    show mp_W E X 9 9 [(6, .int z_54), (5, .int z_45), (8, .int i_26), (7, .int r_24), (4, .int i_2), (0, .ref a0), (1, .int x0), (2, .int x1), (3, .int x2)] [] w6_ 0 0
                    exact mp_sub [0, 1, 4, 5, 6, 7, 8] rfl [4, 2, 3, 5, 0, 1] rfl rfl (ih_13 (d_12 - 1) (by omega) z_54 i_2 g_43 g_4 z_45 (by omega) (by omega) (by omega) (by first | exact x_9 | exact mp_dw_add x_9 x (by omega) (by omega) x_25 (by rw [show i_26.toInt = i_2.toInt from by omega] at x_29; exact x_29) (by omega)) (by first | (first | exact x_10 | omega) | decide) (by omega))
                · have c_36 : i_26.toInt = i_2.toInt := (congrArg Int32.toInt c_36)
                  show mp_W E X 9 76 [(8, .int i_26), (7, .int r_24), (6, .int i_1), (5, .int i_5), (4, .int i_2), (0, .ref a0), (1, .int x0), (2, .int x1), (3, .int x2)] [] w5_ 0 0
                  have e_57 := mp_dw_new x_9 (by (first | exact x_10 | omega)) x_25 (by rw [show i_26.toInt = i_2.toInt from by (first | exact c_36 | omega)] at x_29; exact x_29) (by omega)
                  refine mp_run mp_k_cX10_worstOf_ok hF mp_tabX10_ok [mp_i (.aload_n 0), mp_h (.getfield 86) [44, 4], mp_i (.iload 8), mp_i (.iload 7), mp_h .iastore [1]] (by decide +kernel) ?_
                  refine And.intro rfl (And.intro rfl ?_)
                  refine And.intro rfl (And.intro rfl (And.intro (vp_in_iff.mpr (by omega)) ?_))
                  intro g_58 h_59
                  let w7_ : va_W := [(mp_arI E a4 0 12 g_3), (mp_arI E a5 0 12 g_58), (mp_arI E a1 0 4 f0), (mp_arL E a2 240 f1), (mp_ob10 a0 y0 a6 a1 a2 a7 a8 y1 y2 y3 y4 y5 y6 y7 y8 y9 y10 a9 a10 a11 a12 a13 a3 a14 a15 y11 a16 a17 a18 a19 y12 y13 y14 a20 a21 y15 y16 a22 a23 a24 y17 y18 y19 y20 a4 a5 a25 y21), (mp_arI E a3 0 300 f2)]
                  show mp_W E X 9 85 [(8, .int i_26), (7, .int r_24), (6, .int i_1), (5, .int i_5), (4, .int i_2), (0, .ref a0), (1, .int x0), (2, .int x1), (3, .int x2)] [] w7_ 0 0
                  refine mp_run mp_k_cX10_worstOf_ok hF mp_tabX10_ok [mp_i (.aload_n 0), mp_h (.getfield 83) [43, 4], mp_i (.iload 8), mp_c (.iconst 0) 0, mp_h .iastore [0]] (by decide +kernel) ?_
                  refine And.intro rfl (And.intro rfl ?_)
                  refine And.intro rfl (And.intro rfl (And.intro (vp_in_iff.mpr (by omega)) ?_))
                  intro g_60 h_61
                  let w8_ : va_W := [(mp_arI E a4 0 12 g_60), (mp_arI E a5 0 12 g_58), (mp_arI E a1 0 4 f0), (mp_arL E a2 240 f1), (mp_ob10 a0 y0 a6 a1 a2 a7 a8 y1 y2 y3 y4 y5 y6 y7 y8 y9 y10 a9 a10 a11 a12 a13 a3 a14 a15 y11 a16 a17 a18 a19 y12 y13 y14 a20 a21 y15 y16 a22 a23 a24 y17 y18 y19 y20 a4 a5 a25 y21), (mp_arI E a3 0 300 f2)]
                  show mp_W E X 9 93 [(8, .int i_26), (7, .int r_24), (6, .int i_1), (5, .int i_5), (4, .int i_2), (0, .ref a0), (1, .int x0), (2, .int x1), (3, .int x2)] [] w8_ 0 0
                  refine mp_run mp_k_cX10_worstOf_ok hF mp_tabX10_ok [mp_c (.iinc 4 1) 1, mp_i (.aload_n 0), mp_h (.getfield 83) [43, 4], mp_i (.iload 8), mp_i .dup2, mp_h .iaload [0], mp_c (.iconst 1) 1, mp_i .iadd, mp_h .iastore [0]] (by decide +kernel) ?_
                  intro z_62 h_63
                  have e_64 : z_62.toInt = i_2.toInt + 1 := mp_add (a := i_2.toInt) (b := 1) h_63 rfl (by decide) (by omega) (by omega)
                  refine And.intro rfl (And.intro rfl ?_)
                  refine And.intro rfl (And.intro rfl (And.intro (vp_in_iff.mpr (by omega)) ?_))
                  intro z_65 h_66
                  intro z_67 h_68
                  have e_69 := mp_bnd z_65
                  refine And.intro rfl (And.intro rfl (And.intro (vp_in_iff.mpr (by omega)) ?_))
                  intro g_71 h_72
                  let w9_ : va_W := [(mp_arI E a4 0 12 g_71), (mp_arI E a5 0 12 g_58), (mp_arI E a1 0 4 f0), (mp_arL E a2 240 f1), (mp_ob10 a0 y0 a6 a1 a2 a7 a8 y1 y2 y3 y4 y5 y6 y7 y8 y9 y10 a9 a10 a11 a12 a13 a3 a14 a15 y11 a16 a17 a18 a19 y12 y13 y14 a20 a21 y15 y16 a22 a23 a24 y17 y18 y19 y20 a4 a5 a25 y21), (mp_arI E a3 0 300 f2)]
                  show mp_W E X 9 107 [(4, .int z_62), (8, .int i_26), (7, .int r_24), (6, .int i_1), (5, .int i_5), (0, .ref a0), (1, .int x0), (2, .int x1), (3, .int x2)] [] w9_ 0 0
                  refine mp_run mp_k_cX10_worstOf_ok hF mp_tabX10_ok [mp_i (.aload_n 0), mp_h (.getfield 83) [43, 4], mp_i (.iload 8), mp_h .iaload [0], mp_i (.iload 5), mp_h (.if_icmp .le 13) [129]] (by decide +kernel) ?_
                  refine And.intro rfl (And.intro rfl ?_)
                  refine And.intro rfl (And.intro rfl (And.intro (vp_in_iff.mpr (by omega)) ?_))
                  intro z_73 h_74
                  refine And.intro (fun c_75 => ?_) (fun c_75 => ?_)
                  · have c_75 : z_73.toInt ≤ i_5.toInt := c_75
                    show mp_W E X 9 129 [(4, .int z_62), (8, .int i_26), (7, .int r_24), (6, .int i_1), (5, .int i_5), (0, .ref a0), (1, .int x0), (2, .int x1), (3, .int x2)] [] w9_ 0 0
                    refine mp_run mp_k_cX10_worstOf_ok hF mp_tabX10_ok [mp_i (.iload 5), mp_i (.istore 5), mp_c (.iinc 6 1) 1, mp_h (.goto (-127)) [9]] (by decide +kernel) ?_
                    intro z_76 h_77
                    have e_78 : z_76.toInt = i_1.toInt + 1 := mp_add (a := i_1.toInt) (b := 1) h_77 rfl (by decide) (by omega) (by omega)
                    show mp_W E X 9 9 [(6, .int z_76), (5, .int i_5), (4, .int z_62), (8, .int i_26), (7, .int r_24), (0, .ref a0), (1, .int x0), (2, .int x1), (3, .int x2)] [] w9_ 0 0
                    exact mp_sub [0, 1, 2, 5, 6, 7, 8] rfl [4, 2, 3, 5, 0, 1] rfl rfl (ih_13 (d_12 - 1) (by omega) z_76 z_62 g_71 g_58 i_5 (by omega) (by omega) l_8 (by first | exact x_9 | exact mp_dw_add x_9 h_59 (by (first | exact c_36 | omega)) (by (first | exact x_10 | omega)) x_25 (by rw [show i_26.toInt = i_2.toInt from by (first | exact c_36 | omega)] at x_29; exact x_29) (by (first | exact e_64 | omega))) (by first | omega | decide) (by omega))
                  · have c_75 : i_5.toInt < z_73.toInt := c_75
                    show mp_W E X 9 119 [(4, .int z_62), (8, .int i_26), (7, .int r_24), (6, .int i_1), (5, .int i_5), (0, .ref a0), (1, .int x0), (2, .int x1), (3, .int x2)] [] w9_ 0 0
                    refine mp_run mp_k_cX10_worstOf_ok hF mp_tabX10_ok [mp_i (.aload_n 0), mp_h (.getfield 83) [43, 4], mp_i (.iload 8), mp_h .iaload [0], mp_h (.goto 5) [131], mp_i (.istore 5), mp_c (.iinc 6 1) 1, mp_h (.goto (-127)) [9]] (by decide +kernel) ?_
                    refine And.intro rfl (And.intro rfl ?_)
                    refine And.intro rfl (And.intro rfl (And.intro (vp_in_iff.mpr (by omega)) ?_))
                    intro z_79 h_80
                    have k_81 : z_73 = z_79 := h_74.trans h_80.symm
                    subst k_81
                    intro z_82 h_83
                    have e_84 : z_82.toInt = i_1.toInt + 1 := mp_add (a := i_1.toInt) (b := 1) h_83 rfl (by decide) (by omega) (by omega)
                    show mp_W E X 9 9 [(6, .int z_82), (5, .int z_73), (4, .int z_62), (8, .int i_26), (7, .int r_24), (0, .ref a0), (1, .int x0), (2, .int x1), (3, .int x2)] [] w9_ 0 0
                    exact mp_sub [0, 1, 2, 5, 6, 7, 8] rfl [4, 2, 3, 5, 0, 1] rfl rfl (ih_13 (d_12 - 1) (by omega) z_82 z_62 g_71 g_58 z_73 (by omega) (by omega) (by omega) (by first | exact x_9 | exact mp_dw_add x_9 h_59 (by (first | exact c_36 | omega)) (by (first | exact x_10 | omega)) x_25 (by rw [show i_26.toInt = i_2.toInt from by (first | exact c_36 | omega)] at x_29; exact x_29) (by (first | exact e_64 | omega))) (by first | omega | decide) (by omega))
              · have c_35 : i_26.toInt < i_2.toInt := c_35
                show mp_W E X 9 51 [(8, .int i_26), (7, .int r_24), (6, .int i_1), (5, .int i_5), (4, .int i_2), (0, .ref a0), (1, .int x0), (2, .int x1), (3, .int x2)] [] w5_ 0 0
                refine mp_run mp_k_cX10_worstOf_ok hF mp_tabX10_ok [mp_i (.aload_n 0), mp_h (.getfield 86) [44, 4], mp_i (.iload 8), mp_h .iaload [1], mp_i (.iload 7), mp_h (.if_icmp .eq 9) [69]] (by decide +kernel) ?_
                refine And.intro rfl (And.intro rfl ?_)
                refine And.intro rfl (And.intro rfl (And.intro (vp_in_iff.mpr (by omega)) ?_))
                intro z_85 h_86
                refine And.intro (fun c_87 => ?_) (fun c_87 => ?_)
                · have c_87 : z_85.toInt = r_24.toInt := (congrArg Int32.toInt c_87)
                  show mp_W E X 9 69 [(8, .int i_26), (7, .int r_24), (6, .int i_1), (5, .int i_5), (4, .int i_2), (0, .ref a0), (1, .int x0), (2, .int x1), (3, .int x2)] [] w5_ 0 0
                  refine mp_run mp_k_cX10_worstOf_ok hF mp_tabX10_ok [mp_i (.iload 8), mp_i (.iload 4), mp_h (.if_icmp .ne 23) [96]] (by decide +kernel) ?_
                  refine And.intro (fun c_88 => ?_) (fun c_88 => ?_)
                  · have c_88 : i_26.toInt ≠ i_2.toInt := c_88
                    show mp_W E X 9 96 [(8, .int i_26), (7, .int r_24), (6, .int i_1), (5, .int i_5), (4, .int i_2), (0, .ref a0), (1, .int x0), (2, .int x1), (3, .int x2)] [] w5_ 0 0
                    refine mp_run mp_k_cX10_worstOf_ok hF mp_tabX10_ok [mp_i (.aload_n 0), mp_h (.getfield 83) [43, 4], mp_i (.iload 8), mp_i .dup2, mp_h .iaload [0], mp_c (.iconst 1) 1, mp_i .iadd, mp_h .iastore [0]] (by decide +kernel) ?_
                    refine And.intro rfl (And.intro rfl ?_)
                    refine And.intro rfl (And.intro rfl (And.intro (vp_in_iff.mpr (by omega)) ?_))
                    intro z_89 h_90
                    intro z_91 h_92
                    have e_93 := mp_bnd z_89
                    refine And.intro rfl (And.intro rfl (And.intro (vp_in_iff.mpr (by omega)) ?_))
                    intro g_95 h_96
                    let w10_ : va_W := [(mp_arI E a4 0 12 g_95), (mp_arI E a5 0 12 g_4), (mp_arI E a1 0 4 f0), (mp_arL E a2 240 f1), (mp_ob10 a0 y0 a6 a1 a2 a7 a8 y1 y2 y3 y4 y5 y6 y7 y8 y9 y10 a9 a10 a11 a12 a13 a3 a14 a15 y11 a16 a17 a18 a19 y12 y13 y14 a20 a21 y15 y16 a22 a23 a24 y17 y18 y19 y20 a4 a5 a25 y21), (mp_arI E a3 0 300 f2)]
                    show mp_W E X 9 107 [(8, .int i_26), (7, .int r_24), (6, .int i_1), (5, .int i_5), (4, .int i_2), (0, .ref a0), (1, .int x0), (2, .int x1), (3, .int x2)] [] w10_ 0 0
                    refine mp_run mp_k_cX10_worstOf_ok hF mp_tabX10_ok [mp_i (.aload_n 0), mp_h (.getfield 83) [43, 4], mp_i (.iload 8), mp_h .iaload [0], mp_i (.iload 5), mp_h (.if_icmp .le 13) [129]] (by decide +kernel) ?_
                    refine And.intro rfl (And.intro rfl ?_)
                    refine And.intro rfl (And.intro rfl (And.intro (vp_in_iff.mpr (by omega)) ?_))
                    intro z_97 h_98
                    refine And.intro (fun c_99 => ?_) (fun c_99 => ?_)
                    · have c_99 : z_97.toInt ≤ i_5.toInt := c_99
                      show mp_W E X 9 129 [(8, .int i_26), (7, .int r_24), (6, .int i_1), (5, .int i_5), (4, .int i_2), (0, .ref a0), (1, .int x0), (2, .int x1), (3, .int x2)] [] w10_ 0 0
                      refine mp_run mp_k_cX10_worstOf_ok hF mp_tabX10_ok [mp_i (.iload 5), mp_i (.istore 5), mp_c (.iinc 6 1) 1, mp_h (.goto (-127)) [9]] (by decide +kernel) ?_
                      intro z_100 h_101
                      have e_102 : z_100.toInt = i_1.toInt + 1 := mp_add (a := i_1.toInt) (b := 1) h_101 rfl (by decide) (by omega) (by omega)
                      show mp_W E X 9 9 [(6, .int z_100), (5, .int i_5), (8, .int i_26), (7, .int r_24), (4, .int i_2), (0, .ref a0), (1, .int x0), (2, .int x1), (3, .int x2)] [] w10_ 0 0
                      exact mp_sub [0, 1, 4, 5, 6, 7, 8] rfl [4, 2, 3, 5, 0, 1] rfl rfl (ih_13 (d_12 - 1) (by omega) z_100 i_2 g_95 g_4 i_5 (by omega) (by omega) l_8 (by first | exact x_9 | exact mp_dw_add x_9 x (by omega) (by omega) x_25 (by rw [show i_26.toInt = i_2.toInt from by omega] at x_29; exact x_29) (by omega)) (by first | (first | exact x_10 | omega) | decide) (by omega))
                    · have c_99 : i_5.toInt < z_97.toInt := c_99
                      show mp_W E X 9 119 [(8, .int i_26), (7, .int r_24), (6, .int i_1), (5, .int i_5), (4, .int i_2), (0, .ref a0), (1, .int x0), (2, .int x1), (3, .int x2)] [] w10_ 0 0
                      refine mp_run mp_k_cX10_worstOf_ok hF mp_tabX10_ok [mp_i (.aload_n 0), mp_h (.getfield 83) [43, 4], mp_i (.iload 8), mp_h .iaload [0], mp_h (.goto 5) [131], mp_i (.istore 5), mp_c (.iinc 6 1) 1, mp_h (.goto (-127)) [9]] (by decide +kernel) ?_
                      refine And.intro rfl (And.intro rfl ?_)
                      refine And.intro rfl (And.intro rfl (And.intro (vp_in_iff.mpr (by omega)) ?_))
                      intro z_103 h_104
                      have k_105 : z_97 = z_103 := h_98.trans h_104.symm
                      subst k_105
                      intro z_106 h_107
                      have e_108 : z_106.toInt = i_1.toInt + 1 := mp_add (a := i_1.toInt) (b := 1) h_107 rfl (by decide) (by omega) (by omega)
                      show mp_W E X 9 9 [(6, .int z_106), (5, .int z_97), (8, .int i_26), (7, .int r_24), (4, .int i_2), (0, .ref a0), (1, .int x0), (2, .int x1), (3, .int x2)] [] w10_ 0 0
                      exact mp_sub [0, 1, 4, 5, 6, 7, 8] rfl [4, 2, 3, 5, 0, 1] rfl rfl (ih_13 (d_12 - 1) (by omega) z_106 i_2 g_95 g_4 z_97 (by omega) (by omega) (by omega) (by first | exact x_9 | exact mp_dw_add x_9 x (by omega) (by omega) x_25 (by rw [show i_26.toInt = i_2.toInt from by omega] at x_29; exact x_29) (by omega)) (by first | (first | exact x_10 | omega) | decide) (by omega))
                  · have c_88 : i_26.toInt = i_2.toInt := (congrArg Int32.toInt c_88)
                    show mp_W E X 9 76 [(8, .int i_26), (7, .int r_24), (6, .int i_1), (5, .int i_5), (4, .int i_2), (0, .ref a0), (1, .int x0), (2, .int x1), (3, .int x2)] [] w5_ 0 0
                    have e_109 := mp_dw_new x_9 (by (first | exact x_10 | omega)) x_25 (by rw [show i_26.toInt = i_2.toInt from by (first | exact c_88 | omega)] at x_29; exact x_29) (by omega)
                    refine mp_run mp_k_cX10_worstOf_ok hF mp_tabX10_ok [mp_i (.aload_n 0), mp_h (.getfield 86) [44, 4], mp_i (.iload 8), mp_i (.iload 7), mp_h .iastore [1]] (by decide +kernel) ?_
                    refine And.intro rfl (And.intro rfl ?_)
                    refine And.intro rfl (And.intro rfl (And.intro (vp_in_iff.mpr (by omega)) ?_))
                    intro g_110 h_111
                    let w11_ : va_W := [(mp_arI E a4 0 12 g_3), (mp_arI E a5 0 12 g_110), (mp_arI E a1 0 4 f0), (mp_arL E a2 240 f1), (mp_ob10 a0 y0 a6 a1 a2 a7 a8 y1 y2 y3 y4 y5 y6 y7 y8 y9 y10 a9 a10 a11 a12 a13 a3 a14 a15 y11 a16 a17 a18 a19 y12 y13 y14 a20 a21 y15 y16 a22 a23 a24 y17 y18 y19 y20 a4 a5 a25 y21), (mp_arI E a3 0 300 f2)]
                    show mp_W E X 9 85 [(8, .int i_26), (7, .int r_24), (6, .int i_1), (5, .int i_5), (4, .int i_2), (0, .ref a0), (1, .int x0), (2, .int x1), (3, .int x2)] [] w11_ 0 0
                    refine mp_run mp_k_cX10_worstOf_ok hF mp_tabX10_ok [mp_i (.aload_n 0), mp_h (.getfield 83) [43, 4], mp_i (.iload 8), mp_c (.iconst 0) 0, mp_h .iastore [0]] (by decide +kernel) ?_
                    refine And.intro rfl (And.intro rfl ?_)
                    refine And.intro rfl (And.intro rfl (And.intro (vp_in_iff.mpr (by omega)) ?_))
                    intro g_112 h_113
                    let w12_ : va_W := [(mp_arI E a4 0 12 g_112), (mp_arI E a5 0 12 g_110), (mp_arI E a1 0 4 f0), (mp_arL E a2 240 f1), (mp_ob10 a0 y0 a6 a1 a2 a7 a8 y1 y2 y3 y4 y5 y6 y7 y8 y9 y10 a9 a10 a11 a12 a13 a3 a14 a15 y11 a16 a17 a18 a19 y12 y13 y14 a20 a21 y15 y16 a22 a23 a24 y17 y18 y19 y20 a4 a5 a25 y21), (mp_arI E a3 0 300 f2)]
                    show mp_W E X 9 93 [(8, .int i_26), (7, .int r_24), (6, .int i_1), (5, .int i_5), (4, .int i_2), (0, .ref a0), (1, .int x0), (2, .int x1), (3, .int x2)] [] w12_ 0 0
                    refine mp_run mp_k_cX10_worstOf_ok hF mp_tabX10_ok [mp_c (.iinc 4 1) 1, mp_i (.aload_n 0), mp_h (.getfield 83) [43, 4], mp_i (.iload 8), mp_i .dup2, mp_h .iaload [0], mp_c (.iconst 1) 1, mp_i .iadd, mp_h .iastore [0]] (by decide +kernel) ?_
                    intro z_114 h_115
                    have e_116 : z_114.toInt = i_2.toInt + 1 := mp_add (a := i_2.toInt) (b := 1) h_115 rfl (by decide) (by omega) (by omega)
                    refine And.intro rfl (And.intro rfl ?_)
                    refine And.intro rfl (And.intro rfl (And.intro (vp_in_iff.mpr (by omega)) ?_))
                    intro z_117 h_118
                    intro z_119 h_120
                    have e_121 := mp_bnd z_117
                    refine And.intro rfl (And.intro rfl (And.intro (vp_in_iff.mpr (by omega)) ?_))
                    intro g_123 h_124
                    let w13_ : va_W := [(mp_arI E a4 0 12 g_123), (mp_arI E a5 0 12 g_110), (mp_arI E a1 0 4 f0), (mp_arL E a2 240 f1), (mp_ob10 a0 y0 a6 a1 a2 a7 a8 y1 y2 y3 y4 y5 y6 y7 y8 y9 y10 a9 a10 a11 a12 a13 a3 a14 a15 y11 a16 a17 a18 a19 y12 y13 y14 a20 a21 y15 y16 a22 a23 a24 y17 y18 y19 y20 a4 a5 a25 y21), (mp_arI E a3 0 300 f2)]
                    show mp_W E X 9 107 [(4, .int z_114), (8, .int i_26), (7, .int r_24), (6, .int i_1), (5, .int i_5), (0, .ref a0), (1, .int x0), (2, .int x1), (3, .int x2)] [] w13_ 0 0
                    refine mp_run mp_k_cX10_worstOf_ok hF mp_tabX10_ok [mp_i (.aload_n 0), mp_h (.getfield 83) [43, 4], mp_i (.iload 8), mp_h .iaload [0], mp_i (.iload 5), mp_h (.if_icmp .le 13) [129]] (by decide +kernel) ?_
                    refine And.intro rfl (And.intro rfl ?_)
                    refine And.intro rfl (And.intro rfl (And.intro (vp_in_iff.mpr (by omega)) ?_))
                    intro z_125 h_126
                    refine And.intro (fun c_127 => ?_) (fun c_127 => ?_)
                    · have c_127 : z_125.toInt ≤ i_5.toInt := c_127
                      show mp_W E X 9 129 [(4, .int z_114), (8, .int i_26), (7, .int r_24), (6, .int i_1), (5, .int i_5), (0, .ref a0), (1, .int x0), (2, .int x1), (3, .int x2)] [] w13_ 0 0
                      refine mp_run mp_k_cX10_worstOf_ok hF mp_tabX10_ok [mp_i (.iload 5), mp_i (.istore 5), mp_c (.iinc 6 1) 1, mp_h (.goto (-127)) [9]] (by decide +kernel) ?_
                      intro z_128 h_129
                      have e_130 : z_128.toInt = i_1.toInt + 1 := mp_add (a := i_1.toInt) (b := 1) h_129 rfl (by decide) (by omega) (by omega)
                      show mp_W E X 9 9 [(6, .int z_128), (5, .int i_5), (4, .int z_114), (8, .int i_26), (7, .int r_24), (0, .ref a0), (1, .int x0), (2, .int x1), (3, .int x2)] [] w13_ 0 0
                      exact mp_sub [0, 1, 2, 5, 6, 7, 8] rfl [4, 2, 3, 5, 0, 1] rfl rfl (ih_13 (d_12 - 1) (by omega) z_128 z_114 g_123 g_110 i_5 (by omega) (by omega) l_8 (by first | exact x_9 | exact mp_dw_add x_9 h_111 (by (first | exact c_88 | omega)) (by (first | exact x_10 | omega)) x_25 (by rw [show i_26.toInt = i_2.toInt from by (first | exact c_88 | omega)] at x_29; exact x_29) (by (first | exact e_116 | omega))) (by first | omega | decide) (by omega))
                    · have c_127 : i_5.toInt < z_125.toInt := c_127
                      show mp_W E X 9 119 [(4, .int z_114), (8, .int i_26), (7, .int r_24), (6, .int i_1), (5, .int i_5), (0, .ref a0), (1, .int x0), (2, .int x1), (3, .int x2)] [] w13_ 0 0
                      refine mp_run mp_k_cX10_worstOf_ok hF mp_tabX10_ok [mp_i (.aload_n 0), mp_h (.getfield 83) [43, 4], mp_i (.iload 8), mp_h .iaload [0], mp_h (.goto 5) [131], mp_i (.istore 5), mp_c (.iinc 6 1) 1, mp_h (.goto (-127)) [9]] (by decide +kernel) ?_
                      refine And.intro rfl (And.intro rfl ?_)
                      refine And.intro rfl (And.intro rfl (And.intro (vp_in_iff.mpr (by omega)) ?_))
                      intro z_131 h_132
                      have k_133 : z_125 = z_131 := h_126.trans h_132.symm
                      subst k_133
                      intro z_134 h_135
                      have e_136 : z_134.toInt = i_1.toInt + 1 := mp_add (a := i_1.toInt) (b := 1) h_135 rfl (by decide) (by omega) (by omega)
                      show mp_W E X 9 9 [(6, .int z_134), (5, .int z_125), (4, .int z_114), (8, .int i_26), (7, .int r_24), (0, .ref a0), (1, .int x0), (2, .int x1), (3, .int x2)] [] w13_ 0 0
                      exact mp_sub [0, 1, 2, 5, 6, 7, 8] rfl [4, 2, 3, 5, 0, 1] rfl rfl (ih_13 (d_12 - 1) (by omega) z_134 z_114 g_123 g_110 z_125 (by omega) (by omega) (by omega) (by first | exact x_9 | exact mp_dw_add x_9 h_111 (by (first | exact c_88 | omega)) (by (first | exact x_10 | omega)) x_25 (by rw [show i_26.toInt = i_2.toInt from by (first | exact c_88 | omega)] at x_29; exact x_29) (by (first | exact e_116 | omega))) (by first | omega | decide) (by omega))
                · have c_87 : z_85.toInt ≠ r_24.toInt := c_87
                  show mp_W E X 9 63 [(8, .int i_26), (7, .int r_24), (6, .int i_1), (5, .int i_5), (4, .int i_2), (0, .ref a0), (1, .int x0), (2, .int x1), (3, .int x2)] [] w5_ 0 0
                  refine mp_run mp_k_cX10_worstOf_ok hF mp_tabX10_ok [mp_c (.iinc 8 1) 1, mp_h (.goto (-22)) [44]] (by decide +kernel) ?_
                  intro z_137 h_138
                  have e_139 : z_137.toInt = i_26.toInt + 1 := mp_add (a := i_26.toInt) (b := 1) h_138 rfl (by decide) (by omega) (by omega)
                  show mp_W E X 9 44 [(8, .int z_137), (7, .int r_24), (6, .int i_1), (5, .int i_5), (4, .int i_2), (0, .ref a0), (1, .int x0), (2, .int x1), (3, .int x2)] [] w5_ 0 0
                  exact mp_sub [0, 1, 2, 3, 4, 5, 6, 7, 8] rfl [0, 1, 2, 3, 4, 5] rfl rfl (ih_33 (d_32 - 1) (by omega) z_137 (by omega) (by omega) (mp_ne_s x_29 h_86 (by (first | exact c_87 | omega)) (by (first | exact l_27 | omega)) (by (first | exact e_139 | omega))) (by omega) (by omega))
          exact mp_sub [0, 1, 2, 3, 4, 5, 6, 7, 8] rfl [0, 1, 2, 3, 4, 5] rfl rfl (lp_31 _ 0 (by decide) (by decide) (fun a ha => absurd ha (by have h8 : ((0 : Int32).toInt) = 0 := rfl; omega)) (by first | fail | exact ⟨by decide, by first | fail | (show (0 : Int) ≤ _; (first | exact x_10 | omega))⟩) (Int.self_le_toNat _))
        · skip
          let w14_ : va_W := [(mp_arI E a4 0 12 g_3), (mp_arI E a5 0 12 g_4), (mp_ob10 a0 y0 a6 a1 a2 a7 a8 y1 y2 y3 y4 y5 y6 y7 y8 y9 y10 a9 a10 a11 a12 a13 a3 a14 a15 y11 a16 a17 a18 a19 y12 y13 y14 a20 a21 y15 y16 a22 a23 a24 y17 y18 y19 y20 a4 a5 a25 y21), (mp_arI E a1 0 4 f0), (mp_arL E a2 240 f1), (mp_arI E a3 0 300 f2)]
          show mp_W E X 9 25 [(6, .int i_1), (5, .int i_5), (4, .int i_2), (0, .ref a0), (1, .int x0), (2, .int x1), (3, .int x2)] [.int 0] w14_ 0 0
          refine mp_run mp_k_cX10_worstOf_ok hF mp_tabX10_ok [mp_h (.ifCond .ne 6) [31]] (by decide +kernel) ?_
          refine And.intro (fun c_140 => absurd c_140 (by decide)) (fun _ => ?_)
          show mp_W E X 9 28 [(6, .int i_1), (5, .int i_5), (4, .int i_2), (0, .ref a0), (1, .int x0), (2, .int x1), (3, .int x2)] [] w14_ 0 0
          refine mp_run mp_k_cX10_worstOf_ok hF mp_tabX10_ok [mp_h (.goto 105) [133], mp_c (.iinc 6 1) 1, mp_h (.goto (-127)) [9]] (by decide +kernel) ?_
          intro z_141 h_142
          have e_143 : z_141.toInt = i_1.toInt + 1 := mp_add (a := i_1.toInt) (b := 1) h_142 rfl (by decide) (by (first | exact mp_o2 l_6 | omega)) (by (first | exact mp_o722 c_16 | omega))
          show mp_W E X 9 9 [(6, .int z_141), (5, .int i_5), (4, .int i_2), (0, .ref a0), (1, .int x0), (2, .int x1), (3, .int x2)] [] w14_ 0 0
          exact mp_sub [0, 1, 2, 3, 4, 5, 6] rfl [2, 3, 4, 5, 0, 1] rfl rfl (ih_13 (d_12 - 1) (by (first | exact mp_o723 hm_14 c_16 | omega)) z_141 i_2 g_3 g_4 i_5 (by (first | exact mp_o51 l_6 e_143 | omega)) (by (first | exact mp_o724 c_16 e_143 | omega)) l_8 (by first | exact x_9 | exact mp_dw_add x_9 x (by omega) (by omega) x (by rw [show 0 = i_2.toInt from by omega] at x_29; exact x_29) (by omega)) (by first | (first | exact x_10 | omega) | decide) (by (first | exact mp_o725 hm_14 e_143 | omega)))
  exact mp_sub [0, 1, 2, 3, 4, 5, 6] rfl [0, 1, 2, 3, 4, 5] rfl rfl (lp_11 _ 0 0 f3 f4 0 (by decide) (by decide) (by decide) (mp_dw_0 (by decide)) (by decide) (Int.self_le_toNat _))
set_option maxHeartbeats 4000000 in
set_option maxRecDepth 100000 in
theorem bX10_weigh_143 (E : mp_E) (a0 a1 a2 a3 a4 a5 a6 a7 a8 a9 a10 a11 a12 a13 a14 a15 a16 a17 a18 a19 a20 a21 a22 a23 a24 a25 : Nat) (f0 : Nat → Int32) (f1 : Nat → Int32) (f2 : Nat → Int64) (f3 : Nat → Int32) (f4 : Nat → Int32) (f5 : Nat → Int32) (f6 : Nat → Int32) (y0 : Int32) (y1 : Int32) (y2 : Int32) (y3 : Int32) (y4 : Int32) (y5 : Int32) (y6 : Int64) (y7 : Int32) (y8 : Int32) (y9 : Int32) (y10 : Int32) (y11 : Int32) (y12 : Int32) (y13 : Int32) (y14 : Int32) (y15 : Int32) (y16 : Int32) (y17 : Int32) (y18 : Int32) (y19 : Int32) (y20 : Int32) (y21 : Int32) (x0 : Int32) (x1 : Int32) (p0 : mp_all f1 4 0 60) (p1 : mp_res f3 25 5 0 0 6) (p2 : mp_res f3 25 5 1 0 99) (p3 : mp_res f3 25 5 2 0 6) (p4 : mp_res f3 25 5 3 0 10) (p5 : mp_res f3 25 5 4 0 60) (p6 : mp_res f4 300 6 0 0 5) (p7 : mp_res f4 300 6 1 0 5) (p8 : mp_res f4 300 6 3 0 99) (p9 : mp_res f4 300 6 4 0 1) (l_y1 : 0 ≤ y1.toInt) (u_y1 : y1.toInt ≤ 1600) (l_y2 : 0 ≤ y2.toInt) (u_y2 : y2.toInt ≤ 1600) (l_y3 : 0 ≤ y3.toInt) (u_y3 : y3.toInt ≤ 4) (l_y4 : 0 ≤ y4.toInt) (u_y4 : y4.toInt ≤ 1600) (l_y11 : 0 ≤ y11.toInt) (u_y11 : y11.toInt ≤ 99) (l_y12 : 0 ≤ y12.toInt) (u_y12 : y12.toInt ≤ 5) (l_y13 : 0 ≤ y13.toInt) (u_y13 : y13.toInt ≤ 12) : mp_Ct E yX10_weigh cX10_weigh 8 (some FieldType.int) 4 0 0 98 [.ref a0, .int x0, .int x1] [(mp_ob10 a0 y0 a1 a2 a3 a8 a9 y1 y2 y3 y4 y5 y6 y7 y8 y9 y10 a10 a4 a11 a12 a13 a5 a14 a15 y11 a16 a17 a18 a19 y12 y13 y14 a20 a21 y15 y16 a22 a23 a24 y17 y18 y19 y20 a6 a7 a25 y21), (mp_arI E a1 0 4 f0), (mp_arI E a2 0 4 f1), (mp_arL E a3 240 f2), (mp_arI E a4 0 25 f3), (mp_arI E a5 0 300 f4), (mp_arI E a6 0 12 f5), (mp_arI E a7 0 12 f6)] (fun v w' => ∃ r1 : Int32, ∃ r2 : Int32, ∃ r3 : Int32, ∃ r4 : Int32, ∃ h5 : Nat → Int32, ∃ h6 : Nat → Int32, ∃ r7 : Int32, v = some (.int r7) ∧ (-6) ≤ r7.toInt ∧ r7.toInt ≤ 240 ∧ w' = [(mp_ob10 a0 0 a1 a2 a3 a8 a9 y1 y2 y3 y4 y5 y6 y7 y8 y9 y10 a10 a4 a11 a12 a13 a5 a14 a15 y11 a16 a17 a18 a19 y12 y13 y14 a20 a21 y15 y16 a22 a23 a24 r1 r2 r3 r4 a6 a7 a25 y21), (mp_arI E a1 0 4 f0), (mp_arI E a2 0 4 f1), (mp_arL E a3 240 f2), (mp_arI E a4 0 25 f3), (mp_arI E a5 0 300 f4), (mp_arI E a6 0 12 h5), (mp_arI E a7 0 12 h6)]) := by
  refine mp_met false (by decide) (by decide) (Nat.le_of_ble_eq_true rfl) (fun X hF hQ => ?_)
  have hF : mp_F E X (RX10, cX10_weigh, 8, (4, 0, 0, 98), (some FieldType.int), false) := hF
  let w1_ : va_W := [(mp_ob10 a0 y0 a1 a2 a3 a8 a9 y1 y2 y3 y4 y5 y6 y7 y8 y9 y10 a10 a4 a11 a12 a13 a5 a14 a15 y11 a16 a17 a18 a19 y12 y13 y14 a20 a21 y15 y16 a22 a23 a24 y17 y18 y19 y20 a6 a7 a25 y21), (mp_arI E a1 0 4 f0), (mp_arI E a2 0 4 f1), (mp_arL E a3 240 f2), (mp_arI E a4 0 25 f3), (mp_arI E a5 0 300 f4), (mp_arI E a6 0 12 f5), (mp_arI E a7 0 12 f6)]
  show mp_W E X 8 0 [(0, .ref a0), (1, .int x0), (2, .int x1)] [] w1_ 0 0
  refine mp_run mp_k_cX10_weigh_ok hF mp_tabX10_ok [mp_i (.aload_n 0), mp_c (.iconst 0) 0, mp_h (.putfield 92) [0, 0]] (by decide +kernel) ?_
  refine And.intro rfl (And.intro rfl (And.intro rfl (And.intro rfl (And.intro (Nat.le_of_ble_eq_true rfl) ?_))))
  let w2_ : va_W := [(mp_ob10 a0 0 a1 a2 a3 a8 a9 y1 y2 y3 y4 y5 y6 y7 y8 y9 y10 a10 a4 a11 a12 a13 a5 a14 a15 y11 a16 a17 a18 a19 y12 y13 y14 a20 a21 y15 y16 a22 a23 a24 y17 y18 y19 y20 a6 a7 a25 y21), (mp_arI E a1 0 4 f0), (mp_arI E a2 0 4 f1), (mp_arL E a3 240 f2), (mp_arI E a4 0 25 f3), (mp_arI E a5 0 300 f4), (mp_arI E a6 0 12 f5), (mp_arI E a7 0 12 f6)]
  show mp_W E X 8 5 [(0, .ref a0), (1, .int x0), (2, .int x1)] [] w2_ 0 0
  refine mp_run mp_k_cX10_weigh_ok hF mp_tabX10_ok [mp_i (.aload_n 0), mp_i (.iload_n 1), mp_i (.iload_n 2)] (by decide +kernel) ?_
  show mp_W E X 8 8 [(0, .ref a0), (1, .int x0), (2, .int x1)] [.int x1, .int x0, .ref a0] w2_ 0 0
  refine mp_callV hF (As := [.int x0, .int x1]) (rest := []) (wr := [(mp_arI E a6 0 12 f5), (mp_arI E a7 0 12 f6)]) (bX10_whyNot_135 E a0 a1 a2 a3 a4 a5 a8 a9 a10 a11 a12 a13 a14 a15 a16 a17 a18 a19 a20 a21 a22 a23 a24 a6 a7 a25 f0 f1 f2 f3 f4 0 y1 y2 y3 y4 y5 y6 y7 y8 y9 y10 y11 y12 y13 y14 y15 y16 y17 y18 y19 y20 y21 x0 x1 p0 p1 p2 p3 p4 p5 p6 p7 p8 p9 l_y1 u_y1 l_y2 u_y2 l_y3 u_y3 l_y4 u_y4 l_y11 u_y11 l_y12 u_y12 l_y13 u_y13) mp_lkX10_432 0 rfl [0, 1, 2, 3, 4, 5] [6, 7] rfl rfl rfl rfl rfl ⟨(Nat.le_of_ble_eq_true rfl), (Nat.le_of_ble_eq_true rfl), (Nat.le_of_ble_eq_true rfl), (Nat.le_of_ble_eq_true rfl)⟩ (Nat.le_of_ble_eq_true rfl) (by first | exact mp_fd_ok mp_k_cX10_weigh_ok (by decide +kernel) | decide +kernel) (fun v_1 w_2 h_3 => ?_)
  refine h_3.elim (fun q_16 => ?_) (fun q_17 => q_17.elim (fun q_18 => ?_) (fun q_19 => ?_))
  · skip
    refine q_16.elim fun e_20 e_21 => ?_
    clear h_3 q_16
    subst e_20
    subst e_21
    let w3_ : va_W := [(mp_arI E a6 0 12 f5), (mp_arI E a7 0 12 f6), (mp_ob10 a0 0 a1 a2 a3 a8 a9 y1 y2 y3 y4 y5 y6 y7 y8 y9 y10 a10 a4 a11 a12 a13 a5 a14 a15 y11 a16 a17 a18 a19 y12 y13 y14 a20 a21 y15 y16 a22 a23 a24 y17 y18 y19 y20 a6 a7 a25 y21), (mp_arI E a1 0 4 f0), (mp_arI E a2 0 4 f1), (mp_arL E a3 240 f2), (mp_arI E a4 0 25 f3), (mp_arI E a5 0 300 f4)]
    show mp_W E X 8 11 [(0, .ref a0), (1, .int x0), (2, .int x1)] [.int (-2)] w3_ 0 0
    refine mp_run mp_k_cX10_weigh_ok hF mp_tabX10_ok [mp_i (.istore_n 3), mp_i (.iload_n 3), mp_h (.ifCond .eq 5) [18]] (by decide +kernel) ?_
    refine And.intro (fun c_22 => absurd c_22 (by decide)) (fun _ => ?_)
    show mp_W E X 8 16 [(3, .int (-2)), (0, .ref a0), (1, .int x0), (2, .int x1)] [] w3_ 0 0
    refine mp_run mp_k_cX10_weigh_ok hF mp_tabX10_ok [mp_i (.iload_n 3)] (by decide +kernel) ?_
    show mp_W E X 8 17 [(3, .int (-2)), (0, .ref a0), (1, .int x0), (2, .int x1)] [.int (-2)] w3_ 0 0
    exact mp_iret hF hQ rfl rfl (Nat.le_of_ble_eq_true rfl) (Nat.le_of_ble_eq_true rfl) [2, 3, 4, 5, 6, 7, 0, 1] (w' := w2_) rfl rfl ⟨y17, y18, y19, y20, f5, f6, (-2), rfl, (by decide), (by decide), rfl⟩ (by first | exact mp_fd_ok mp_k_cX10_weigh_ok (by decide +kernel) | decide +kernel)
  · skip
    refine q_18.elim fun e_23 q_24 => q_24.elim fun c_4 q_25 => q_25.elim fun c_5 q_26 => q_26.elim fun c_6 q_27 => q_27.elim fun x_7 q_28 => q_28.elim fun x_8 q_29 => q_29.elim fun x_9 q_30 => q_30.elim fun x_10 q_31 => q_31.elim fun x_11 q_32 => q_32.elim fun x_12 e_33 => ?_
    clear h_3 q_17 q_18 q_24 q_25 q_26 q_27 q_28 q_29 q_30 q_31 q_32
    subst e_23
    subst e_33
    have c_4 : 0 ≤ x0.toInt := c_4
    have c_5 : x0.toInt ≤ 3 := c_5
    have c_6 : 0 ≤ x1.toInt := c_6
    let w4_ : va_W := [(mp_arI E a6 0 12 f5), (mp_arI E a7 0 12 f6), (mp_ob10 a0 0 a1 a2 a3 a8 a9 y1 y2 y3 y4 y5 y6 y7 y8 y9 y10 a10 a4 a11 a12 a13 a5 a14 a15 y11 a16 a17 a18 a19 y12 y13 y14 a20 a21 y15 y16 a22 a23 a24 y17 y18 y19 y20 a6 a7 a25 y21), (mp_arI E a1 0 4 f0), (mp_arI E a2 0 4 f1), (mp_arL E a3 240 f2), (mp_arI E a4 0 25 f3), (mp_arI E a5 0 300 f4)]
    show mp_W E X 8 11 [(0, .ref a0), (1, .int x0), (2, .int x1)] [.int 0] w4_ 0 0
    refine mp_run mp_k_cX10_weigh_ok hF mp_tabX10_ok [mp_i (.istore_n 3), mp_i (.iload_n 3), mp_h (.ifCond .eq 5) [18]] (by decide +kernel) ?_
    refine And.intro (fun _ => ?_) (fun c_34 => absurd c_34 (by decide))
    show mp_W E X 8 18 [(3, .int 0), (0, .ref a0), (1, .int x0), (2, .int x1)] [] w4_ 0 0
    refine mp_run mp_k_cX10_weigh_ok hF mp_tabX10_ok [mp_i (.aload_n 0), mp_i (.iload_n 1), mp_i (.iload_n 2)] (by decide +kernel) ?_
    show mp_W E X 8 21 [(3, .int 0), (0, .ref a0), (1, .int x0), (2, .int x1)] [.int x1, .int x0, .ref a0] w4_ 0 0
    refine mp_callV hF (As := [.int x0, .int x1]) (rest := []) (wr := [(mp_arI E a6 0 12 f5), (mp_arI E a7 0 12 f6), (mp_arI E a1 0 4 f0), (mp_arI E a4 0 25 f3)]) (bX10_laysWays_138 E a0 a2 a3 a5 a1 a8 a9 a10 a4 a11 a12 a13 a14 a15 a16 a17 a18 a19 a20 a21 a22 a23 a24 a6 a7 a25 f1 f2 f4 0 y1 y2 y3 y4 y5 y6 y7 y8 y9 y10 y11 y12 y13 y14 y15 y16 y17 y18 y19 y20 y21 x0 x1 p0 p6 p7 p8 p9 (by omega) (by omega) (by omega) (by omega) l_y1 u_y1 l_y2 u_y2 l_y3 u_y3 l_y4 u_y4 l_y11 u_y11 l_y12 u_y12 l_y13 u_y13 (by first | assumption | omega) (by assumption)) mp_lkX10_435 2 rfl [2, 4, 5, 7] [0, 1, 3, 6] rfl rfl rfl rfl rfl ⟨(Nat.le_of_ble_eq_true rfl), (Nat.le_of_ble_eq_true rfl), (Nat.le_of_ble_eq_true rfl), (Nat.le_of_ble_eq_true rfl)⟩ (Nat.le_of_ble_eq_true rfl) (by first | exact mp_fd_ok mp_k_cX10_weigh_ok (by decide +kernel) | decide +kernel) (fun v_35 w_36 h_37 => ?_)
    refine h_37.elim fun r_38 q_44 => q_44.elim fun r_39 q_45 => q_45.elim fun r_40 q_46 => q_46.elim fun r_41 q_47 => q_47.elim fun e_48 q_49 => q_49.elim fun l_42 q_50 => q_50.elim fun u_43 e_51 => ?_
    clear h_37 q_44 q_45 q_46 q_47 q_49 q_50
    subst e_48
    subst e_51
    let w5_ : va_W := [(mp_arI E a6 0 12 f5), (mp_arI E a7 0 12 f6), (mp_arI E a1 0 4 f0), (mp_arI E a4 0 25 f3), (mp_ob10 a0 0 a1 a2 a3 a8 a9 y1 y2 y3 y4 y5 y6 y7 y8 y9 y10 a10 a4 a11 a12 a13 a5 a14 a15 y11 a16 a17 a18 a19 y12 y13 y14 a20 a21 y15 y16 a22 a23 a24 r_38 r_39 r_40 r_41 a6 a7 a25 y21), (mp_arI E a2 0 4 f1), (mp_arL E a3 240 f2), (mp_arI E a5 0 300 f4)]
    show mp_W E X 8 24 [(3, .int 0), (0, .ref a0), (1, .int x0), (2, .int x1)] [] w5_ 0 0
    refine mp_run mp_k_cX10_weigh_ok hF mp_tabX10_ok [mp_c (.iconst (-1)) (-1), mp_i (.istore 4), mp_i (.aload_n 0), mp_h (.getfield 417) [39, 4], mp_i (.istore 5), mp_c (.iconst 1) 1, mp_i (.istore 6)] (by decide +kernel) ?_
    refine And.intro rfl (And.intro rfl ?_)
    show mp_W E X 8 36 [(6, .int 1), (5, .int r_38), (4, .int (-1)), (3, .int 0), (0, .ref a0), (1, .int x0), (2, .int x1)] [] w5_ 0 0
    have lp_61 : ∀ (d_62 : Nat) (i_52 : Int32) (i_53 : Int32) (i_54 : Int32) (g_55 : Nat → Int32) (g_56 : Nat → Int32), 1 ≤ i_52.toInt → i_52.toInt ≤ 12 → (-1) ≤ i_54.toInt → i_54.toInt ≤ 240 → -(i_52.toInt) + 11 ≤ (d_62 : Int) → mp_W E X 8 36 [(6, .int i_52), (5, .int i_53), (4, .int i_54), (3, .int 0), (0, .ref a0), (1, .int x0), (2, .int x1)] [] [(mp_arI E a6 0 12 g_55), (mp_arI E a7 0 12 g_56), (mp_arI E a1 0 4 f0), (mp_arI E a4 0 25 f3), (mp_ob10 a0 0 a1 a2 a3 a8 a9 y1 y2 y3 y4 y5 y6 y7 y8 y9 y10 a10 a4 a11 a12 a13 a5 a14 a15 y11 a16 a17 a18 a19 y12 y13 y14 a20 a21 y15 y16 a22 a23 a24 r_38 r_39 r_40 r_41 a6 a7 a25 y21), (mp_arI E a2 0 4 f1), (mp_arL E a3 240 f2), (mp_arI E a5 0 300 f4)] 0 0 := by
      intro d_62
      induction d_62 using Nat.strongRecOn with
      | ind d_62 ih_63 =>
        intro i_52 i_53 i_54 g_55 g_56 l_57 u_58 l_59 u_60 hm_64
        refine mp_run mp_k_cX10_weigh_ok hF mp_tabX10_ok [mp_i (.iload 6), mp_c (.bipush 10) 10, mp_h (.if_icmp .gt 44) [84]] (by decide +kernel) ?_
        refine And.intro (fun c_65 => ?_) (fun c_65 => ?_)
        · have c_65 : 10 < i_52.toInt := c_65
          let w6_ : va_W := [(mp_arI E a6 0 12 g_55), (mp_arI E a7 0 12 g_56), (mp_arI E a1 0 4 f0), (mp_arI E a4 0 25 f3), (mp_ob10 a0 0 a1 a2 a3 a8 a9 y1 y2 y3 y4 y5 y6 y7 y8 y9 y10 a10 a4 a11 a12 a13 a5 a14 a15 y11 a16 a17 a18 a19 y12 y13 y14 a20 a21 y15 y16 a22 a23 a24 r_38 r_39 r_40 r_41 a6 a7 a25 y21), (mp_arI E a2 0 4 f1), (mp_arL E a3 240 f2), (mp_arI E a5 0 300 f4)]
          show mp_W E X 8 84 [(6, .int i_52), (5, .int i_53), (4, .int i_54), (3, .int 0), (0, .ref a0), (1, .int x0), (2, .int x1)] [] w6_ 0 0
          refine mp_run mp_k_cX10_weigh_ok hF mp_tabX10_ok [mp_i (.iload 4)] (by decide +kernel) ?_
          show mp_W E X 8 86 [(6, .int i_52), (5, .int i_53), (4, .int i_54), (3, .int 0), (0, .ref a0), (1, .int x0), (2, .int x1)] [.int i_54] w6_ 0 0
          exact mp_iret hF hQ rfl rfl (Nat.le_of_ble_eq_true rfl) (Nat.le_of_ble_eq_true rfl) [4, 2, 5, 6, 3, 7, 0, 1] (w' := [(mp_ob10 a0 0 a1 a2 a3 a8 a9 y1 y2 y3 y4 y5 y6 y7 y8 y9 y10 a10 a4 a11 a12 a13 a5 a14 a15 y11 a16 a17 a18 a19 y12 y13 y14 a20 a21 y15 y16 a22 a23 a24 r_38 r_39 r_40 r_41 a6 a7 a25 y21), (mp_arI E a1 0 4 f0), (mp_arI E a2 0 4 f1), (mp_arL E a3 240 f2), (mp_arI E a4 0 25 f3), (mp_arI E a5 0 300 f4), (mp_arI E a6 0 12 g_55), (mp_arI E a7 0 12 g_56)]) rfl rfl ⟨r_38, r_39, r_40, r_41, g_55, g_56, i_54, rfl, (by omega), u_60, rfl⟩ (by first | exact mp_fd_ok mp_k_cX10_weigh_ok (by decide +kernel) | decide +kernel)
        · have c_65 : i_52.toInt ≤ 10 := c_65
          let w7_ : va_W := [(mp_arI E a6 0 12 g_55), (mp_arI E a7 0 12 g_56), (mp_arI E a1 0 4 f0), (mp_arI E a4 0 25 f3), (mp_ob10 a0 0 a1 a2 a3 a8 a9 y1 y2 y3 y4 y5 y6 y7 y8 y9 y10 a10 a4 a11 a12 a13 a5 a14 a15 y11 a16 a17 a18 a19 y12 y13 y14 a20 a21 y15 y16 a22 a23 a24 r_38 r_39 r_40 r_41 a6 a7 a25 y21), (mp_arI E a2 0 4 f1), (mp_arL E a3 240 f2), (mp_arI E a5 0 300 f4)]
          show mp_W E X 8 43 [(6, .int i_52), (5, .int i_53), (4, .int i_54), (3, .int 0), (0, .ref a0), (1, .int x0), (2, .int x1)] [] w7_ 0 0
          refine mp_run mp_k_cX10_weigh_ok hF mp_tabX10_ok [mp_i (.aload_n 0), mp_i (.iload_n 1), mp_i (.iload_n 2), mp_i (.iload 6)] (by decide +kernel) ?_
          show mp_W E X 8 48 [(6, .int i_52), (5, .int i_53), (4, .int i_54), (3, .int 0), (0, .ref a0), (1, .int x0), (2, .int x1)] [.int i_52, .int x1, .int x0, .ref a0] w7_ 0 0
          refine mp_callV hF (As := [.int x0, .int x1, .int i_52]) (rest := []) (wr := [(mp_arI E a1 0 4 f0), (mp_arI E a4 0 25 f3)]) (bX10_worstOf_142 E a0 a2 a3 a5 a6 a7 a1 a8 a9 a10 a4 a11 a12 a13 a14 a15 a16 a17 a18 a19 a20 a21 a22 a23 a24 a25 f1 f2 f4 g_55 g_56 0 y1 y2 y3 y4 y5 y6 y7 y8 y9 y10 y11 y12 y13 y14 y15 y16 r_38 r_39 r_40 r_41 y21 x0 x1 i_52 p0 p6 p7 p8 p9 (by omega) (by omega) (by omega) (by omega) (by omega) (by omega) l_y1 u_y1 l_y2 u_y2 l_y3 u_y3 l_y4 u_y4 l_y11 u_y11 l_y12 u_y12 l_y13 u_y13 (by first | assumption | omega) (by assumption)) mp_lkX10_438 4 rfl [4, 5, 6, 7, 0, 1] [2, 3] rfl rfl rfl rfl rfl ⟨(Nat.le_of_ble_eq_true rfl), (Nat.le_of_ble_eq_true rfl), (Nat.le_of_ble_eq_true rfl), (Nat.le_of_ble_eq_true rfl)⟩ (Nat.le_of_ble_eq_true rfl) (by first | exact mp_fd_ok mp_k_cX10_weigh_ok (by decide +kernel) | decide +kernel) (fun v_66 w_67 h_68 => ?_)
          refine h_68.elim fun g_69 q_73 => q_73.elim fun g_70 q_74 => q_74.elim fun r_71 q_75 => q_75.elim fun e_76 q_77 => q_77.elim fun l_72 e_78 => ?_
          clear h_68 q_73 q_74 q_75 q_77
          subst e_76
          subst e_78
          let w8_ : va_W := [(mp_arI E a1 0 4 f0), (mp_arI E a4 0 25 f3), (mp_ob10 a0 0 a1 a2 a3 a8 a9 y1 y2 y3 y4 y5 y6 y7 y8 y9 y10 a10 a4 a11 a12 a13 a5 a14 a15 y11 a16 a17 a18 a19 y12 y13 y14 a20 a21 y15 y16 a22 a23 a24 r_38 r_39 r_40 r_41 a6 a7 a25 y21), (mp_arI E a2 0 4 f1), (mp_arL E a3 240 f2), (mp_arI E a5 0 300 f4), (mp_arI E a6 0 12 g_69), (mp_arI E a7 0 12 g_70)]
          show mp_W E X 8 51 [(6, .int i_52), (5, .int i_53), (4, .int i_54), (3, .int 0), (0, .ref a0), (1, .int x0), (2, .int x1)] [.int r_71] w8_ 0 0
          refine mp_run mp_k_cX10_weigh_ok hF mp_tabX10_ok [mp_i (.istore 7), mp_i (.iload 7), mp_i (.iload 5), mp_h (.if_icmp .lt 6) [63]] (by decide +kernel) ?_
          refine And.intro (fun c_79 => ?_) (fun c_79 => ?_)
          · have c_79 : r_71.toInt < i_53.toInt := c_79
            show mp_W E X 8 63 [(7, .int r_71), (6, .int i_52), (5, .int i_53), (4, .int i_54), (3, .int 0), (0, .ref a0), (1, .int x0), (2, .int x1)] [] w8_ 0 0
            refine mp_run mp_k_cX10_weigh_ok hF mp_tabX10_ok [mp_i (.aload_n 0), mp_i (.iload_n 2), mp_c (.iconst 3) 3] (by decide +kernel) ?_
            show mp_W E X 8 66 [(7, .int r_71), (6, .int i_52), (5, .int i_53), (4, .int i_54), (3, .int 0), (0, .ref a0), (1, .int x0), (2, .int x1)] [.int 3, .int x1, .ref a0] w8_ 0 0
            refine mp_callV hF (As := [.int x1, .int 3]) (rest := []) (wr := [(mp_arI E a1 0 4 f0), (mp_arI E a4 0 25 f3), (mp_arI E a2 0 4 f1), (mp_arL E a3 240 f2), (mp_arI E a6 0 12 g_69), (mp_arI E a7 0 12 g_70)]) (bX10_of_63 E a0 a5 a1 a2 a3 a8 a9 a10 a4 a11 a12 a13 a14 a15 a16 a17 a18 a19 a20 a21 a22 a23 a24 a6 a7 a25 f4 0 y1 y2 y3 y4 y5 y6 y7 y8 y9 y10 y11 y12 y13 y14 y15 y16 r_38 r_39 r_40 r_41 y21 x1 p6 p7 p8 p9 (by omega) (by omega) l_y1 u_y1 l_y2 u_y2 l_y3 u_y3 l_y4 u_y4 l_y11 u_y11 l_y12 u_y12 l_y13 u_y13) mp_lkX10_267 2 rfl [2, 5] [0, 1, 3, 4, 6, 7] rfl rfl rfl rfl rfl ⟨(Nat.le_of_ble_eq_true rfl), (Nat.le_of_ble_eq_true rfl), (Nat.le_of_ble_eq_true rfl), (Nat.le_of_ble_eq_true rfl)⟩ (Nat.le_of_ble_eq_true rfl) (by first | exact mp_fd_ok mp_k_cX10_weigh_ok (by decide +kernel) | decide +kernel) (fun v_80 w_81 h_82 => ?_)
            refine h_82.elim fun r_83 q_87 => q_87.elim fun e_88 q_89 => q_89.elim fun l_84 q_90 => q_90.elim fun u_85 q_91 => q_91.elim fun x_86 e_92 => ?_
            clear h_82 q_87 q_89 q_90 q_91
            subst e_88
            subst e_92
            let w9_ : va_W := [(mp_arI E a1 0 4 f0), (mp_arI E a4 0 25 f3), (mp_arI E a2 0 4 f1), (mp_arL E a3 240 f2), (mp_arI E a6 0 12 g_69), (mp_arI E a7 0 12 g_70), (mp_ob10 a0 0 a1 a2 a3 a8 a9 y1 y2 y3 y4 y5 y6 y7 y8 y9 y10 a10 a4 a11 a12 a13 a5 a14 a15 y11 a16 a17 a18 a19 y12 y13 y14 a20 a21 y15 y16 a22 a23 a24 r_38 r_39 r_40 r_41 a6 a7 a25 y21), (mp_arI E a5 0 300 f4)]
            show mp_W E X 8 69 [(7, .int r_71), (6, .int i_52), (5, .int i_53), (4, .int i_54), (3, .int 0), (0, .ref a0), (1, .int x0), (2, .int x1)] [.int r_83] w9_ 0 0
            refine mp_run mp_k_cX10_weigh_ok hF mp_tabX10_ok [mp_i (.iload 6), mp_i .iadd, mp_i (.istore 4), mp_i (.iload 7), mp_i (.istore 5), mp_c (.iinc 6 1) 1, mp_h (.goto (-45)) [36]] (by decide +kernel) ?_
            intro z_93 h_94
            have e_95 : z_93.toInt = r_83.toInt + i_52.toInt := mp_add (a := r_83.toInt) (b := i_52.toInt) h_94 rfl rfl (by omega) (by omega)
            intro z_96 h_97
            have e_98 : z_96.toInt = i_52.toInt + 1 := mp_add (a := i_52.toInt) (b := 1) h_97 rfl (by decide) (by omega) (by omega)
            show mp_W E X 8 36 [(6, .int z_96), (5, .int r_71), (4, .int z_93), (7, .int r_71), (3, .int 0), (0, .ref a0), (1, .int x0), (2, .int x1)] [] w9_ 0 0
            exact mp_sub [0, 1, 2, 4, 5, 6, 7] rfl [4, 5, 0, 1, 6, 2, 3, 7] rfl rfl (ih_63 (d_62 - 1) (by omega) z_96 r_71 z_93 g_69 g_70 (by omega) (by omega) (by omega) (by omega) (by omega))
          · have c_79 : i_53.toInt ≤ r_71.toInt := c_79
            show mp_W E X 8 60 [(7, .int r_71), (6, .int i_52), (5, .int i_53), (4, .int i_54), (3, .int 0), (0, .ref a0), (1, .int x0), (2, .int x1)] [] w8_ 0 0
            refine mp_run mp_k_cX10_weigh_ok hF mp_tabX10_ok [mp_h (.goto 18) [78], mp_c (.iinc 6 1) 1, mp_h (.goto (-45)) [36]] (by decide +kernel) ?_
            intro z_99 h_100
            have e_101 : z_99.toInt = i_52.toInt + 1 := mp_add (a := i_52.toInt) (b := 1) h_100 rfl (by decide) (by omega) (by omega)
            show mp_W E X 8 36 [(6, .int z_99), (7, .int r_71), (5, .int i_53), (4, .int i_54), (3, .int 0), (0, .ref a0), (1, .int x0), (2, .int x1)] [] w8_ 0 0
            exact mp_sub [0, 2, 3, 4, 5, 6, 7] rfl [6, 7, 0, 1, 2, 3, 4, 5] rfl rfl (ih_63 (d_62 - 1) (by omega) z_99 i_53 i_54 g_69 g_70 (by omega) (by omega) l_59 u_60 (by omega))
    exact mp_sub [0, 1, 2, 3, 4, 5, 6] rfl [0, 1, 2, 3, 4, 5, 6, 7] rfl rfl (lp_61 _ 1 r_38 (-1) f5 f6 (by decide) (by decide) (by decide) (by decide) (Int.self_le_toNat _))
  · skip
    refine q_19.elim fun e_102 q_103 => q_103.elim fun c_13 q_104 => q_104.elim fun c_14 q_105 => q_105.elim fun c_15 e_106 => ?_
    clear h_3 q_17 q_19 q_103 q_104 q_105
    subst e_102
    subst e_106
    have c_13 : 0 ≤ x0.toInt := c_13
    have c_14 : x0.toInt ≤ 3 := c_14
    have c_15 : 0 ≤ x1.toInt := c_15
    let w10_ : va_W := [(mp_arI E a6 0 12 f5), (mp_arI E a7 0 12 f6), (mp_ob10 a0 0 a1 a2 a3 a8 a9 y1 y2 y3 y4 y5 y6 y7 y8 y9 y10 a10 a4 a11 a12 a13 a5 a14 a15 y11 a16 a17 a18 a19 y12 y13 y14 a20 a21 y15 y16 a22 a23 a24 y17 y18 y19 y20 a6 a7 a25 y21), (mp_arI E a1 0 4 f0), (mp_arI E a2 0 4 f1), (mp_arL E a3 240 f2), (mp_arI E a4 0 25 f3), (mp_arI E a5 0 300 f4)]
    show mp_W E X 8 11 [(0, .ref a0), (1, .int x0), (2, .int x1)] [.int (-6)] w10_ 0 0
    refine mp_run mp_k_cX10_weigh_ok hF mp_tabX10_ok [mp_i (.istore_n 3), mp_i (.iload_n 3), mp_h (.ifCond .eq 5) [18]] (by decide +kernel) ?_
    refine And.intro (fun c_107 => absurd c_107 (by decide)) (fun _ => ?_)
    show mp_W E X 8 16 [(3, .int (-6)), (0, .ref a0), (1, .int x0), (2, .int x1)] [] w10_ 0 0
    refine mp_run mp_k_cX10_weigh_ok hF mp_tabX10_ok [mp_i (.iload_n 3)] (by decide +kernel) ?_
    show mp_W E X 8 17 [(3, .int (-6)), (0, .ref a0), (1, .int x0), (2, .int x1)] [.int (-6)] w10_ 0 0
    exact mp_iret hF hQ rfl rfl (Nat.le_of_ble_eq_true rfl) (Nat.le_of_ble_eq_true rfl) [2, 3, 4, 5, 6, 7, 0, 1] (w' := w2_) rfl rfl ⟨y17, y18, y19, y20, f5, f6, (-6), rfl, (by decide), (by decide), rfl⟩ (by first | exact mp_fd_ok mp_k_cX10_weigh_ok (by decide +kernel) | decide +kernel)
set_option maxHeartbeats 4000000 in
set_option maxRecDepth 100000 in
theorem bX10_said_144 (E : mp_E) (a0 a1 a2 a3 a4 a5 a6 a7 a8 a9 a10 a11 a12 a13 a14 a15 a16 a17 a18 a19 a20 a21 a22 a23 a24 a25 : Nat) (f0 : Nat → Int32) (f1 : Nat → Int32) (f2 : Nat → Int64) (f3 : Nat → Int32) (f4 : Nat → Int32) (y0 : Int32) (y1 : Int32) (y2 : Int32) (y3 : Int32) (y4 : Int32) (y5 : Int32) (y6 : Int64) (y7 : Int32) (y8 : Int32) (y9 : Int32) (y10 : Int32) (y11 : Int32) (y12 : Int32) (y13 : Int32) (y14 : Int32) (y15 : Int32) (y16 : Int32) (y17 : Int32) (y18 : Int32) (y19 : Int32) (y20 : Int32) (y21 : Int32) (x0 : Int32) (x1 : Int32) (p0 : mp_all f1 4 0 60) (p1 : mp_res f3 25 5 0 0 6) (p2 : mp_res f3 25 5 1 0 99) (p3 : mp_res f3 25 5 2 0 6) (p4 : mp_res f3 25 5 3 0 10) (p5 : mp_res f3 25 5 4 0 60) (p6 : mp_res f4 300 6 0 0 5) (p7 : mp_res f4 300 6 1 0 5) (p8 : mp_res f4 300 6 3 0 99) (p9 : mp_res f4 300 6 4 0 1) (l_y1 : 0 ≤ y1.toInt) (u_y1 : y1.toInt ≤ 1600) (l_y2 : 0 ≤ y2.toInt) (u_y2 : y2.toInt ≤ 1600) (l_y3 : 0 ≤ y3.toInt) (u_y3 : y3.toInt ≤ 4) (l_y4 : 0 ≤ y4.toInt) (u_y4 : y4.toInt ≤ 1600) (l_y11 : 0 ≤ y11.toInt) (u_y11 : y11.toInt ≤ 99) (l_y12 : 0 ≤ y12.toInt) (u_y12 : y12.toInt ≤ 5) (l_y13 : 0 ≤ y13.toInt) (u_y13 : y13.toInt ≤ 12) : mp_Ct E yX10_said cX10_said 9 (some FieldType.int) 3 0 0 69 [.ref a0, .int x0, .int x1] [(mp_ob10 a0 y0 a1 a2 a3 a6 a7 y1 y2 y3 y4 y5 y6 y7 y8 y9 y10 a8 a4 a9 a10 a11 a5 a12 a13 y11 a14 a15 a16 a17 y12 y13 y14 a18 a19 y15 y16 a20 a21 a22 y17 y18 y19 y20 a23 a24 a25 y21), (mp_arI E a1 0 4 f0), (mp_arI E a2 0 4 f1), (mp_arL E a3 240 f2), (mp_arI E a4 0 25 f3), (mp_arI E a5 0 300 f4)] (fun v w' => ∃ r1 : Int32, v = some (.int r1) ∧ w' = [(mp_ob10 a0 0 a1 a2 a3 a6 a7 y1 y2 y3 y4 y5 y6 y7 y8 y9 y10 a8 a4 a9 a10 a11 a5 a12 a13 y11 a14 a15 a16 a17 y12 y13 y14 a18 a19 y15 y16 a20 a21 a22 y17 y18 y19 y20 a23 a24 a25 y21), (mp_arI E a1 0 4 f0), (mp_arI E a2 0 4 f1), (mp_arL E a3 240 f2), (mp_arI E a4 0 25 f3), (mp_arI E a5 0 300 f4)]) := by
  refine mp_met false (by decide) (by decide) (Nat.le_of_ble_eq_true rfl) (fun X hF hQ => ?_)
  have hF : mp_F E X (RX10, cX10_said, 9, (3, 0, 0, 69), (some FieldType.int), false) := hF
  let w1_ : va_W := [(mp_ob10 a0 y0 a1 a2 a3 a6 a7 y1 y2 y3 y4 y5 y6 y7 y8 y9 y10 a8 a4 a9 a10 a11 a5 a12 a13 y11 a14 a15 a16 a17 y12 y13 y14 a18 a19 y15 y16 a20 a21 a22 y17 y18 y19 y20 a23 a24 a25 y21), (mp_arI E a1 0 4 f0), (mp_arI E a2 0 4 f1), (mp_arL E a3 240 f2), (mp_arI E a4 0 25 f3), (mp_arI E a5 0 300 f4)]
  show mp_W E X 9 0 [(0, .ref a0), (1, .int x0), (2, .int x1)] [] w1_ 0 0
  refine mp_run mp_k_cX10_said_ok hF mp_tabX10_ok [mp_i (.aload_n 0), mp_c (.iconst 0) 0, mp_h (.putfield 92) [0, 0]] (by decide +kernel) ?_
  refine And.intro rfl (And.intro rfl (And.intro rfl (And.intro rfl (And.intro (Nat.le_of_ble_eq_true rfl) ?_))))
  let w2_ : va_W := [(mp_ob10 a0 0 a1 a2 a3 a6 a7 y1 y2 y3 y4 y5 y6 y7 y8 y9 y10 a8 a4 a9 a10 a11 a5 a12 a13 y11 a14 a15 a16 a17 y12 y13 y14 a18 a19 y15 y16 a20 a21 a22 y17 y18 y19 y20 a23 a24 a25 y21), (mp_arI E a1 0 4 f0), (mp_arI E a2 0 4 f1), (mp_arL E a3 240 f2), (mp_arI E a4 0 25 f3), (mp_arI E a5 0 300 f4)]
  show mp_W E X 9 5 [(0, .ref a0), (1, .int x0), (2, .int x1)] [] w2_ 0 0
  refine mp_run mp_k_cX10_said_ok hF mp_tabX10_ok [mp_i (.aload_n 0), mp_i (.iload_n 1), mp_i (.iload_n 2)] (by decide +kernel) ?_
  show mp_W E X 9 8 [(0, .ref a0), (1, .int x0), (2, .int x1)] [.int x1, .int x0, .ref a0] w2_ 0 0
  refine mp_callV hF (As := [.int x0, .int x1]) (rest := []) (wr := []) (bX10_whyNot_135 E a0 a1 a2 a3 a4 a5 a6 a7 a8 a9 a10 a11 a12 a13 a14 a15 a16 a17 a18 a19 a20 a21 a22 a23 a24 a25 f0 f1 f2 f3 f4 0 y1 y2 y3 y4 y5 y6 y7 y8 y9 y10 y11 y12 y13 y14 y15 y16 y17 y18 y19 y20 y21 x0 x1 p0 p1 p2 p3 p4 p5 p6 p7 p8 p9 l_y1 u_y1 l_y2 u_y2 l_y3 u_y3 l_y4 u_y4 l_y11 u_y11 l_y12 u_y12 l_y13 u_y13) mp_lkX10_432 0 rfl [0, 1, 2, 3, 4, 5] [] rfl rfl rfl rfl rfl ⟨(Nat.le_of_ble_eq_true rfl), (Nat.le_of_ble_eq_true rfl), (Nat.le_of_ble_eq_true rfl), (Nat.le_of_ble_eq_true rfl)⟩ (Nat.le_of_ble_eq_true rfl) (by first | exact mp_fd_ok mp_k_cX10_said_ok (by decide +kernel) | decide +kernel) (fun v_1 w_2 h_3 => ?_)
  refine h_3.elim (fun q_16 => ?_) (fun q_17 => q_17.elim (fun q_18 => ?_) (fun q_19 => ?_))
  · skip
    refine q_16.elim fun e_20 e_21 => ?_
    clear h_3 q_16
    subst e_20
    subst e_21
    show mp_W E X 9 11 [(0, .ref a0), (1, .int x0), (2, .int x1)] [.int (-2)] w2_ 0 0
    refine mp_run mp_k_cX10_said_ok hF mp_tabX10_ok [mp_i (.istore_n 3), mp_i (.iload_n 3), mp_h (.ifCond .eq 5) [18]] (by decide +kernel) ?_
    refine And.intro (fun c_22 => absurd c_22 (by decide)) (fun _ => ?_)
    show mp_W E X 9 16 [(3, .int (-2)), (0, .ref a0), (1, .int x0), (2, .int x1)] [] w2_ 0 0
    refine mp_run mp_k_cX10_said_ok hF mp_tabX10_ok [mp_i (.iload_n 3)] (by decide +kernel) ?_
    show mp_W E X 9 17 [(3, .int (-2)), (0, .ref a0), (1, .int x0), (2, .int x1)] [.int (-2)] w2_ 0 0
    exact mp_iret hF hQ rfl rfl (Nat.le_of_ble_eq_true rfl) (Nat.le_of_ble_eq_true rfl) [0, 1, 2, 3, 4, 5] (w' := w2_) rfl rfl ⟨(-2), rfl, rfl⟩ (by first | exact mp_fd_ok mp_k_cX10_said_ok (by decide +kernel) | decide +kernel)
  · skip
    refine q_18.elim fun e_23 q_24 => q_24.elim fun c_4 q_25 => q_25.elim fun c_5 q_26 => q_26.elim fun c_6 q_27 => q_27.elim fun x_7 q_28 => q_28.elim fun x_8 q_29 => q_29.elim fun x_9 q_30 => q_30.elim fun x_10 q_31 => q_31.elim fun x_11 q_32 => q_32.elim fun x_12 e_33 => ?_
    clear h_3 q_17 q_18 q_24 q_25 q_26 q_27 q_28 q_29 q_30 q_31 q_32
    subst e_23
    subst e_33
    have c_4 : 0 ≤ x0.toInt := c_4
    have c_5 : x0.toInt ≤ 3 := c_5
    have c_6 : 0 ≤ x1.toInt := c_6
    show mp_W E X 9 11 [(0, .ref a0), (1, .int x0), (2, .int x1)] [.int 0] w2_ 0 0
    refine mp_run mp_k_cX10_said_ok hF mp_tabX10_ok [mp_i (.istore_n 3), mp_i (.iload_n 3), mp_h (.ifCond .eq 5) [18]] (by decide +kernel) ?_
    refine And.intro (fun _ => ?_) (fun c_34 => absurd c_34 (by decide))
    show mp_W E X 9 18 [(3, .int 0), (0, .ref a0), (1, .int x0), (2, .int x1)] [] w2_ 0 0
    refine mp_run mp_k_cX10_said_ok hF mp_tabX10_ok [mp_c (.iconst 0) 0, mp_i (.istore 4), mp_c (.iconst 0) 0, mp_i (.istore 5)] (by decide +kernel) ?_
    show mp_W E X 9 24 [(5, .int 0), (4, .int 0), (3, .int 0), (0, .ref a0), (1, .int x0), (2, .int x1)] [] w2_ 0 0
    have lp_39 : ∀ (d_40 : Nat) (i_35 : Int32) (i_36 : Int32), 0 ≤ i_35.toInt → i_35.toInt ≤ 36 → -(i_35.toInt) + 31 ≤ (d_40 : Int) → mp_W E X 9 24 [(5, .int i_35), (4, .int i_36), (3, .int 0), (0, .ref a0), (1, .int x0), (2, .int x1)] [] [(mp_ob10 a0 0 a1 a2 a3 a6 a7 y1 y2 y3 y4 y5 y6 y7 y8 y9 y10 a8 a4 a9 a10 a11 a5 a12 a13 y11 a14 a15 a16 a17 y12 y13 y14 a18 a19 y15 y16 a20 a21 a22 y17 y18 y19 y20 a23 a24 a25 y21), (mp_arI E a1 0 4 f0), (mp_arI E a2 0 4 f1), (mp_arL E a3 240 f2), (mp_arI E a4 0 25 f3), (mp_arI E a5 0 300 f4)] 0 0 := by
      intro d_40
      induction d_40 using Nat.strongRecOn with
      | ind d_40 ih_41 =>
        intro i_35 i_36 l_37 u_38 hm_42
        refine mp_run mp_k_cX10_said_ok hF mp_tabX10_ok [mp_i (.iload 5), mp_c (.bipush 30) 30, mp_h (.if_icmp .gt 124) [152]] (by decide +kernel) ?_
        refine And.intro (fun c_43 => ?_) (fun c_43 => ?_)
        · have c_43 : 30 < i_35.toInt := c_43
          show mp_W E X 9 152 [(5, .int i_35), (4, .int i_36), (3, .int 0), (0, .ref a0), (1, .int x0), (2, .int x1)] [] w2_ 0 0
          refine mp_run mp_k_cX10_said_ok hF mp_tabX10_ok [mp_i (.iload 4)] (by decide +kernel) ?_
          show mp_W E X 9 154 [(5, .int i_35), (4, .int i_36), (3, .int 0), (0, .ref a0), (1, .int x0), (2, .int x1)] [.int i_36] w2_ 0 0
          exact mp_iret hF hQ rfl rfl (Nat.le_of_ble_eq_true rfl) (Nat.le_of_ble_eq_true rfl) [0, 1, 2, 3, 4, 5] (w' := w2_) rfl rfl ⟨i_36, rfl, rfl⟩ (by first | exact mp_fd_ok mp_k_cX10_said_ok (by decide +kernel) | decide +kernel)
        · have c_43 : i_35.toInt ≤ 30 := c_43
          show mp_W E X 9 31 [(5, .int i_35), (4, .int i_36), (3, .int 0), (0, .ref a0), (1, .int x0), (2, .int x1)] [] w2_ 0 0
          refine mp_run mp_k_cX10_said_ok hF mp_tabX10_ok [mp_c (.iconst 1) 1, mp_i (.istore 6), mp_c (.iconst 0) 0, mp_i (.istore 7)] (by decide +kernel) ?_
          show mp_W E X 9 37 [(7, .int 0), (6, .int 1), (5, .int i_35), (4, .int i_36), (3, .int 0), (0, .ref a0), (1, .int x0), (2, .int x1)] [] w2_ 0 0
          have lp_51 : ∀ (d_52 : Nat) (i_44 : Int32) (i_45 : Int32), 0 ≤ i_44.toInt → i_44.toInt ≤ 78 → 0 ≤ i_45.toInt → i_45.toInt ≤ 1 → (i_44.toInt % 2 = 0) → (f1 x0.toInt.toNat).toInt - i_44.toInt ≤ (d_52 : Int) → mp_W E X 9 37 [(7, .int i_44), (6, .int i_45), (5, .int i_35), (4, .int i_36), (3, .int 0), (0, .ref a0), (1, .int x0), (2, .int x1)] [] [(mp_ob10 a0 0 a1 a2 a3 a6 a7 y1 y2 y3 y4 y5 y6 y7 y8 y9 y10 a8 a4 a9 a10 a11 a5 a12 a13 y11 a14 a15 a16 a17 y12 y13 y14 a18 a19 y15 y16 a20 a21 a22 y17 y18 y19 y20 a23 a24 a25 y21), (mp_arI E a1 0 4 f0), (mp_arI E a2 0 4 f1), (mp_arL E a3 240 f2), (mp_arI E a4 0 25 f3), (mp_arI E a5 0 300 f4)] 0 0 := by
            intro d_52
            induction d_52 using Nat.strongRecOn with
            | ind d_52 ih_53 =>
              intro i_44 i_45 l_46 u_47 l_48 u_49 x_50 hm_54
              refine mp_run mp_k_cX10_said_ok hF mp_tabX10_ok [mp_i (.iload 7), mp_i (.aload_n 0), mp_h (.getfield 13) [2, 0], mp_i (.iload_n 1), mp_h .iaload [2], mp_h (.if_icmp .ge 83) [128]] (by decide +kernel) ?_
              refine And.intro rfl (And.intro rfl ?_)
              refine And.intro rfl (And.intro rfl (And.intro (vp_in_iff.mpr (by omega)) ?_))
              intro z_55 h_56
              have e_57 : 0 ≤ z_55.toInt ∧ z_55.toInt ≤ 60 := mp_all_ld h_56 p0 (by omega) (by omega)
              have e_58 : z_55.toInt = (f1 x0.toInt.toNat).toInt := congrArg Int32.toInt h_56
              refine And.intro (fun c_59 => ?_) (fun c_59 => ?_)
              · have c_59 : z_55.toInt ≤ i_44.toInt := c_59
                show mp_W E X 9 128 [(7, .int i_44), (6, .int i_45), (5, .int i_35), (4, .int i_36), (3, .int 0), (0, .ref a0), (1, .int x0), (2, .int x1)] [] w2_ 0 0
                refine mp_run mp_k_cX10_said_ok hF mp_tabX10_ok [mp_i (.iload 4), mp_i (.iload 6), mp_h (.ifCond .eq 10) [142]] (by decide +kernel) ?_
                refine And.intro (fun c_60 => ?_) (fun c_60 => ?_)
                · have c_60 : i_45.toInt = 0 := (congrArg Int32.toInt c_60)
                  show mp_W E X 9 142 [(7, .int i_44), (6, .int i_45), (5, .int i_35), (4, .int i_36), (3, .int 0), (0, .ref a0), (1, .int x0), (2, .int x1)] [.int i_36] w2_ 0 0
                  refine mp_run mp_k_cX10_said_ok hF mp_tabX10_ok [mp_c (.iconst 0) 0, mp_i .ior, mp_i (.istore 4), mp_c (.iinc 5 1) 1, mp_h (.goto (-125)) [24]] (by decide +kernel) ?_
                  intro z_61 h_62
                  intro z_64 h_65
                  have e_66 : z_64.toInt = i_35.toInt + 1 := mp_add (a := i_35.toInt) (b := 1) h_65 rfl (by decide) (by omega) (by omega)
                  show mp_W E X 9 24 [(5, .int z_64), (4, .int z_61), (7, .int i_44), (6, .int i_45), (3, .int 0), (0, .ref a0), (1, .int x0), (2, .int x1)] [] w2_ 0 0
                  exact mp_sub [0, 1, 4, 5, 6, 7] rfl [0, 1, 2, 3, 4, 5] rfl rfl (ih_41 (d_40 - 1) (by omega) z_64 z_61 (by omega) (by omega) (by omega))
                · have c_60 : i_45.toInt ≠ 0 := c_60
                  show mp_W E X 9 135 [(7, .int i_44), (6, .int i_45), (5, .int i_35), (4, .int i_36), (3, .int 0), (0, .ref a0), (1, .int x0), (2, .int x1)] [.int i_36] w2_ 0 0
                  refine mp_run mp_k_cX10_said_ok hF mp_tabX10_ok [mp_c (.iconst 1) 1, mp_i (.iload 5), mp_i .ishl, mp_h (.goto 4) [143], mp_i .ior, mp_i (.istore 4), mp_c (.iinc 5 1) 1, mp_h (.goto (-125)) [24]] (by decide +kernel) ?_
                  intro z_67 h_68
                  intro z_70 h_71
                  intro z_73 h_74
                  have e_75 : z_73.toInt = i_35.toInt + 1 := mp_add (a := i_35.toInt) (b := 1) h_74 rfl (by decide) (by omega) (by omega)
                  show mp_W E X 9 24 [(5, .int z_73), (4, .int z_70), (7, .int i_44), (6, .int i_45), (3, .int 0), (0, .ref a0), (1, .int x0), (2, .int x1)] [] w2_ 0 0
                  exact mp_sub [0, 1, 4, 5, 6, 7] rfl [0, 1, 2, 3, 4, 5] rfl rfl (ih_41 (d_40 - 1) (by omega) z_73 z_70 (by omega) (by omega) (by omega))
              · have c_59 : i_44.toInt < z_55.toInt := c_59
                show mp_W E X 9 48 [(7, .int i_44), (6, .int i_45), (5, .int i_35), (4, .int i_36), (3, .int 0), (0, .ref a0), (1, .int x0), (2, .int x1)] [] w2_ 0 0
                refine mp_run mp_k_cX10_said_ok hF mp_tabX10_ok [mp_i (.aload_n 0), mp_h (.getfield 16) [3, 0], mp_c (.bipush 60) 60, mp_i (.iload_n 1), mp_i .imul, mp_i (.iload 7), mp_i .iadd, mp_h .laload [3], mp_i .l2i, mp_i (.istore 8), mp_i (.iload 6), mp_h (.ifCond .eq 54) [119]] (by decide +kernel) ?_
                refine And.intro rfl (And.intro rfl ?_)
                intro z_76 h_77
                have e_78 : z_76.toInt = 60 * x0.toInt := mp_mul (a := 60) (b := x0.toInt) h_77 (by decide) rfl (by omega) (by omega)
                intro z_79 h_80
                have e_81 : z_79.toInt = z_76.toInt + i_44.toInt := mp_add (a := z_76.toInt) (b := i_44.toInt) h_80 rfl rfl (by omega) (by omega)
                refine And.intro rfl (And.intro rfl (And.intro (vp_in_iff.mpr (by omega)) ?_))
                intro z_82 h_83
                intro z_84 h_85
                refine And.intro (fun c_86 => ?_) (fun c_86 => ?_)
                · have c_86 : i_45.toInt = 0 := (congrArg Int32.toInt c_86)
                  show mp_W E X 9 119 [(8, .int z_84), (7, .int i_44), (6, .int i_45), (5, .int i_35), (4, .int i_36), (3, .int 0), (0, .ref a0), (1, .int x0), (2, .int x1)] [] w2_ 0 0
                  refine mp_run mp_k_cX10_said_ok hF mp_tabX10_ok [mp_c (.iconst 0) 0, mp_i (.istore 6), mp_c (.iinc 7 2) 2, mp_h (.goto (-88)) [37]] (by decide +kernel) ?_
                  intro z_87 h_88
                  have e_89 : z_87.toInt = i_44.toInt + 2 := mp_add (a := i_44.toInt) (b := 2) h_88 rfl (by decide) (by omega) (by omega)
                  show mp_W E X 9 37 [(7, .int z_87), (6, .int 0), (8, .int z_84), (5, .int i_35), (4, .int i_36), (3, .int 0), (0, .ref a0), (1, .int x0), (2, .int x1)] [] w2_ 0 0
                  exact mp_sub [0, 1, 3, 4, 5, 6, 7, 8] rfl [0, 1, 2, 3, 4, 5] rfl rfl (ih_53 (d_52 - 1) (by omega) z_87 0 (by omega) (by omega) (by decide) (by decide) (by first | omega | decide | (show z_87.toInt % 2 = 0; first | omega | decide)) (by omega))
                · have c_86 : i_45.toInt ≠ 0 := c_86
                  show mp_W E X 9 68 [(8, .int z_84), (7, .int i_44), (6, .int i_45), (5, .int i_35), (4, .int i_36), (3, .int 0), (0, .ref a0), (1, .int x0), (2, .int x1)] [] w2_ 0 0
                  refine mp_run mp_k_cX10_said_ok hF mp_tabX10_ok [mp_i (.iload 8), mp_i (.iload 5), mp_h (.if_icmp .lt 47) [119]] (by decide +kernel) ?_
                  refine And.intro (fun c_90 => ?_) (fun c_90 => ?_)
                  · have c_90 : z_84.toInt < i_35.toInt := c_90
                    show mp_W E X 9 119 [(8, .int z_84), (7, .int i_44), (6, .int i_45), (5, .int i_35), (4, .int i_36), (3, .int 0), (0, .ref a0), (1, .int x0), (2, .int x1)] [] w2_ 0 0
                    refine mp_run mp_k_cX10_said_ok hF mp_tabX10_ok [mp_c (.iconst 0) 0, mp_i (.istore 6), mp_c (.iinc 7 2) 2, mp_h (.goto (-88)) [37]] (by decide +kernel) ?_
                    intro z_91 h_92
                    have e_93 : z_91.toInt = i_44.toInt + 2 := mp_add (a := i_44.toInt) (b := 2) h_92 rfl (by decide) (by omega) (by omega)
                    show mp_W E X 9 37 [(7, .int z_91), (6, .int 0), (8, .int z_84), (5, .int i_35), (4, .int i_36), (3, .int 0), (0, .ref a0), (1, .int x0), (2, .int x1)] [] w2_ 0 0
                    exact mp_sub [0, 1, 3, 4, 5, 6, 7, 8] rfl [0, 1, 2, 3, 4, 5] rfl rfl (ih_53 (d_52 - 1) (by omega) z_91 0 (by omega) (by omega) (by decide) (by decide) (by first | omega | decide | (show z_91.toInt % 2 = 0; first | omega | decide)) (by omega))
                  · have c_90 : i_35.toInt ≤ z_84.toInt := c_90
                    show mp_W E X 9 75 [(8, .int z_84), (7, .int i_44), (6, .int i_45), (5, .int i_35), (4, .int i_36), (3, .int 0), (0, .ref a0), (1, .int x0), (2, .int x1)] [] w2_ 0 0
                    refine mp_run mp_k_cX10_said_ok hF mp_tabX10_ok [mp_i (.aload_n 0), mp_i (.iload_n 2), mp_c (.iconst 2) 2] (by decide +kernel) ?_
                    show mp_W E X 9 78 [(8, .int z_84), (7, .int i_44), (6, .int i_45), (5, .int i_35), (4, .int i_36), (3, .int 0), (0, .ref a0), (1, .int x0), (2, .int x1)] [.int 2, .int x1, .ref a0] w2_ 0 0
                    refine mp_callV hF (As := [.int x1, .int 2]) (rest := []) (wr := [(mp_arI E a1 0 4 f0), (mp_arI E a2 0 4 f1), (mp_arL E a3 240 f2), (mp_arI E a4 0 25 f3)]) (bX10_of_70 E a0 a5 a1 a2 a3 a6 a7 a8 a4 a9 a10 a11 a12 a13 a14 a15 a16 a17 a18 a19 a20 a21 a22 a23 a24 a25 f4 0 y1 y2 y3 y4 y5 y6 y7 y8 y9 y10 y11 y12 y13 y14 y15 y16 y17 y18 y19 y20 y21 x1 p6 p7 p8 p9 (by omega) (by omega) l_y1 u_y1 l_y2 u_y2 l_y3 u_y3 l_y4 u_y4 l_y11 u_y11 l_y12 u_y12 l_y13 u_y13) mp_lkX10_267 0 rfl [0, 5] [1, 2, 3, 4] rfl rfl rfl rfl rfl ⟨(Nat.le_of_ble_eq_true rfl), (Nat.le_of_ble_eq_true rfl), (Nat.le_of_ble_eq_true rfl), (Nat.le_of_ble_eq_true rfl)⟩ (Nat.le_of_ble_eq_true rfl) (by first | exact mp_fd_ok mp_k_cX10_said_ok (by decide +kernel) | decide +kernel) (fun v_94 w_95 h_96 => ?_)
                    obtain ⟨r_97, rfl, x_98, rfl⟩ := h_96
                    let w3_ : va_W := [(mp_arI E a1 0 4 f0), (mp_arI E a2 0 4 f1), (mp_arL E a3 240 f2), (mp_arI E a4 0 25 f3), (mp_ob10 a0 0 a1 a2 a3 a6 a7 y1 y2 y3 y4 y5 y6 y7 y8 y9 y10 a8 a4 a9 a10 a11 a5 a12 a13 y11 a14 a15 a16 a17 y12 y13 y14 a18 a19 y15 y16 a20 a21 a22 y17 y18 y19 y20 a23 a24 a25 y21), (mp_arI E a5 0 300 f4)]
                    show mp_W E X 9 81 [(8, .int z_84), (7, .int i_44), (6, .int i_45), (5, .int i_35), (4, .int i_36), (3, .int 0), (0, .ref a0), (1, .int x0), (2, .int x1)] [.int r_97] w3_ 0 0
                    refine mp_run mp_k_cX10_said_ok hF mp_tabX10_ok [mp_i (.iload 8), mp_i (.iload 5), mp_i .isub, mp_i (.aload_n 0), mp_i (.iload_n 2), mp_c (.iconst 4) 4] (by decide +kernel) ?_
                    intro z_99 h_100
                    have e_101 := mp_bnd i_35
                    have e_102 := mp_bnd z_84
                    have e_103 : z_99.toInt = z_84.toInt - i_35.toInt := mp_subi (a := z_84.toInt) (b := i_35.toInt) h_100 rfl rfl (by omega) (by omega)
                    show mp_W E X 9 89 [(8, .int z_84), (7, .int i_44), (6, .int i_45), (5, .int i_35), (4, .int i_36), (3, .int 0), (0, .ref a0), (1, .int x0), (2, .int x1)] [.int 4, .int x1, .ref a0, .int z_99, .int r_97] w3_ 0 0
                    refine mp_callV hF (As := [.int x1, .int 4]) (rest := [.int z_99, .int r_97]) (wr := [(mp_arI E a1 0 4 f0), (mp_arI E a2 0 4 f1), (mp_arL E a3 240 f2), (mp_arI E a4 0 25 f3)]) (bX10_of_65 E a0 a5 a1 a2 a3 a6 a7 a8 a4 a9 a10 a11 a12 a13 a14 a15 a16 a17 a18 a19 a20 a21 a22 a23 a24 a25 f4 0 y1 y2 y3 y4 y5 y6 y7 y8 y9 y10 y11 y12 y13 y14 y15 y16 y17 y18 y19 y20 y21 x1 p6 p7 p8 p9 (by omega) (by omega) l_y1 u_y1 l_y2 u_y2 l_y3 u_y3 l_y4 u_y4 l_y11 u_y11 l_y12 u_y12 l_y13 u_y13) mp_lkX10_267 4 rfl [4, 5] [0, 1, 2, 3] rfl rfl rfl rfl rfl ⟨(Nat.le_of_ble_eq_true rfl), (Nat.le_of_ble_eq_true rfl), (Nat.le_of_ble_eq_true rfl), (Nat.le_of_ble_eq_true rfl)⟩ (Nat.le_of_ble_eq_true rfl) (by first | exact mp_fd_ok mp_k_cX10_said_ok (by decide +kernel) | decide +kernel) (fun v_104 w_105 h_106 => ?_)
                    refine h_106.elim fun r_107 q_111 => q_111.elim fun e_112 q_113 => q_113.elim fun l_108 q_114 => q_114.elim fun u_109 q_115 => q_115.elim fun x_110 e_116 => ?_
                    clear h_106 q_111 q_113 q_114 q_115
                    subst e_112
                    subst e_116
                    show mp_W E X 9 92 [(8, .int z_84), (7, .int i_44), (6, .int i_45), (5, .int i_35), (4, .int i_36), (3, .int 0), (0, .ref a0), (1, .int x0), (2, .int x1)] [.int r_107, .int z_99, .int r_97] w3_ 0 0
                    refine mp_run mp_k_cX10_said_ok hF mp_tabX10_ok [mp_i .iadd] (by decide +kernel) ?_
                    intro z_117 h_118
                    show mp_W E X 9 93 [(8, .int z_84), (7, .int i_44), (6, .int i_45), (5, .int i_35), (4, .int i_36), (3, .int 0), (0, .ref a0), (1, .int x0), (2, .int x1)] [.int z_117, .int r_97] w3_ 0 0
                    refine mp_callS hF (As := [.int r_97, .int z_117]) (rest := []) (wr := w3_) (bX10_halved_71 E r_97 z_117) mp_lkX10_285 [] [0, 1, 2, 3, 4, 5] rfl rfl rfl rfl rfl ⟨(Nat.le_of_ble_eq_true rfl), (Nat.le_of_ble_eq_true rfl), (Nat.le_of_ble_eq_true rfl), (Nat.le_of_ble_eq_true rfl)⟩ (Nat.le_of_ble_eq_true rfl) (by first | exact mp_fd_ok mp_k_cX10_said_ok (by decide +kernel) | decide +kernel) (fun v_120 w_121 h_122 => ?_)
                    obtain ⟨r_123, rfl, x_124, rfl⟩ := h_122
                    show mp_W E X 9 96 [(8, .int z_84), (7, .int i_44), (6, .int i_45), (5, .int i_35), (4, .int i_36), (3, .int 0), (0, .ref a0), (1, .int x0), (2, .int x1)] [.int r_123] w3_ 0 0
                    refine mp_run mp_k_cX10_said_ok hF mp_tabX10_ok [mp_i .i2l, mp_i (.aload_n 0), mp_h (.getfield 16) [3, 4], mp_c (.bipush 60) 60, mp_i (.iload_n 1), mp_i .imul, mp_i (.iload 7), mp_i .iadd, mp_c (.iconst 1) 1, mp_i .iadd, mp_h .laload [2], mp_i .lcmp, mp_h (.ifCond .ne 7) [119]] (by decide +kernel) ?_
                    intro z_125 h_126
                    have e_127 : z_125.toInt = r_123.toInt := mp_i2l h_126
                    refine And.intro rfl (And.intro rfl ?_)
                    intro z_128 h_129
                    have e_130 : z_128.toInt = 60 * x0.toInt := mp_mul (a := 60) (b := x0.toInt) h_129 (by decide) rfl (by omega) (by omega)
                    intro z_131 h_132
                    have e_133 : z_131.toInt = z_128.toInt + i_44.toInt := mp_add (a := z_128.toInt) (b := i_44.toInt) h_132 rfl rfl (by omega) (by omega)
                    intro z_134 h_135
                    have e_136 : z_134.toInt = z_131.toInt + 1 := mp_add (a := z_131.toInt) (b := 1) h_135 rfl (by decide) (by omega) (by omega)
                    refine And.intro rfl (And.intro rfl (And.intro (vp_in_iff.mpr (by omega)) ?_))
                    intro z_137 h_138
                    intro z_139 h_140
                    refine And.intro (fun c_141 => ?_) (fun c_141 => ?_)
                    · have c_141 : z_125.toInt ≠ z_137.toInt := mp_lc_ne h_140 c_141
                      show mp_W E X 9 119 [(8, .int z_84), (7, .int i_44), (6, .int i_45), (5, .int i_35), (4, .int i_36), (3, .int 0), (0, .ref a0), (1, .int x0), (2, .int x1)] [] w3_ 0 0
                      refine mp_run mp_k_cX10_said_ok hF mp_tabX10_ok [mp_c (.iconst 0) 0, mp_i (.istore 6), mp_c (.iinc 7 2) 2, mp_h (.goto (-88)) [37]] (by decide +kernel) ?_
                      intro z_142 h_143
                      have e_144 : z_142.toInt = i_44.toInt + 2 := mp_add (a := i_44.toInt) (b := 2) h_143 rfl (by decide) (by omega) (by omega)
                      show mp_W E X 9 37 [(7, .int z_142), (6, .int 0), (8, .int z_84), (5, .int i_35), (4, .int i_36), (3, .int 0), (0, .ref a0), (1, .int x0), (2, .int x1)] [] w3_ 0 0
                      exact mp_sub [0, 1, 3, 4, 5, 6, 7, 8] rfl [4, 0, 1, 2, 3, 5] rfl rfl (ih_53 (d_52 - 1) (by omega) z_142 0 (by omega) (by omega) (by decide) (by decide) (by first | omega | decide | (show z_142.toInt % 2 = 0; first | omega | decide)) (by omega))
                    · have c_141 : z_125.toInt = z_137.toInt := mp_lc_eq h_140 c_141
                      show mp_W E X 9 115 [(8, .int z_84), (7, .int i_44), (6, .int i_45), (5, .int i_35), (4, .int i_36), (3, .int 0), (0, .ref a0), (1, .int x0), (2, .int x1)] [] w3_ 0 0
                      refine mp_run mp_k_cX10_said_ok hF mp_tabX10_ok [mp_c (.iconst 1) 1, mp_h (.goto 4) [120], mp_i (.istore 6), mp_c (.iinc 7 2) 2, mp_h (.goto (-88)) [37]] (by decide +kernel) ?_
                      intro z_145 h_146
                      have e_147 : z_145.toInt = i_44.toInt + 2 := mp_add (a := i_44.toInt) (b := 2) h_146 rfl (by decide) (by omega) (by omega)
                      show mp_W E X 9 37 [(7, .int z_145), (6, .int 1), (8, .int z_84), (5, .int i_35), (4, .int i_36), (3, .int 0), (0, .ref a0), (1, .int x0), (2, .int x1)] [] w3_ 0 0
                      exact mp_sub [0, 1, 3, 4, 5, 6, 7, 8] rfl [4, 0, 1, 2, 3, 5] rfl rfl (ih_53 (d_52 - 1) (by omega) z_145 1 (by omega) (by omega) (by decide) (by decide) (by first | omega | decide | (show z_145.toInt % 2 = 0; first | omega | decide)) (by omega))
          exact mp_sub [0, 1, 2, 3, 4, 5, 6, 7] rfl [0, 1, 2, 3, 4, 5] rfl rfl (lp_51 _ 0 1 (by decide) (by decide) (by decide) (by decide) (by first | omega | decide | (show 0 % 2 = 0; first | omega | decide)) (Int.self_le_toNat _))
    exact mp_sub [0, 1, 2, 3, 4, 5] rfl [0, 1, 2, 3, 4, 5] rfl rfl (lp_39 _ 0 0 (by decide) (by decide) (Int.self_le_toNat _))
  · skip
    refine q_19.elim fun e_148 q_149 => q_149.elim fun c_13 q_150 => q_150.elim fun c_14 q_151 => q_151.elim fun c_15 e_152 => ?_
    clear h_3 q_17 q_19 q_149 q_150 q_151
    subst e_148
    subst e_152
    have c_13 : 0 ≤ x0.toInt := c_13
    have c_14 : x0.toInt ≤ 3 := c_14
    have c_15 : 0 ≤ x1.toInt := c_15
    show mp_W E X 9 11 [(0, .ref a0), (1, .int x0), (2, .int x1)] [.int (-6)] w2_ 0 0
    refine mp_run mp_k_cX10_said_ok hF mp_tabX10_ok [mp_i (.istore_n 3), mp_i (.iload_n 3), mp_h (.ifCond .eq 5) [18]] (by decide +kernel) ?_
    refine And.intro (fun c_153 => absurd c_153 (by decide)) (fun _ => ?_)
    show mp_W E X 9 16 [(3, .int (-6)), (0, .ref a0), (1, .int x0), (2, .int x1)] [] w2_ 0 0
    refine mp_run mp_k_cX10_said_ok hF mp_tabX10_ok [mp_i (.iload_n 3)] (by decide +kernel) ?_
    show mp_W E X 9 17 [(3, .int (-6)), (0, .ref a0), (1, .int x0), (2, .int x1)] [.int (-6)] w2_ 0 0
    exact mp_iret hF hQ rfl rfl (Nat.le_of_ble_eq_true rfl) (Nat.le_of_ble_eq_true rfl) [0, 1, 2, 3, 4, 5] (w' := w2_) rfl rfl ⟨(-6), rfl, rfl⟩ (by first | exact mp_fd_ok mp_k_cX10_said_ok (by decide +kernel) | decide +kernel)
set_option maxHeartbeats 4000000 in
set_option maxRecDepth 100000 in
theorem bX10_span_145 (E : mp_E) (a0 a1 a2 a3 a4 a5 a6 a7 a8 a9 a10 a11 a12 a13 a14 a15 a16 a17 a18 a19 a20 a21 a22 a23 a24 a25 : Nat) (f0 : Nat → Int32) (f1 : Nat → Int32) (f2 : Nat → Int64) (f3 : Nat → Int32) (f4 : Nat → Int32) (y0 : Int32) (y1 : Int32) (y2 : Int32) (y3 : Int32) (y4 : Int32) (y5 : Int32) (y6 : Int64) (y7 : Int32) (y8 : Int32) (y9 : Int32) (y10 : Int32) (y11 : Int32) (y12 : Int32) (y13 : Int32) (y14 : Int32) (y15 : Int32) (y16 : Int32) (y17 : Int32) (y18 : Int32) (y19 : Int32) (y20 : Int32) (y21 : Int32) (x0 : Int32) (x1 : Int32) (x2 : Int32) (p0 : mp_all f1 4 0 60) (p1 : mp_res f3 25 5 0 0 6) (p2 : mp_res f3 25 5 1 0 99) (p3 : mp_res f3 25 5 2 0 6) (p4 : mp_res f3 25 5 3 0 10) (p5 : mp_res f3 25 5 4 0 60) (p6 : mp_res f4 300 6 0 0 5) (p7 : mp_res f4 300 6 1 0 5) (p8 : mp_res f4 300 6 3 0 99) (p9 : mp_res f4 300 6 4 0 1) (l_y1 : 0 ≤ y1.toInt) (u_y1 : y1.toInt ≤ 1600) (l_y2 : 0 ≤ y2.toInt) (u_y2 : y2.toInt ≤ 1600) (l_y3 : 0 ≤ y3.toInt) (u_y3 : y3.toInt ≤ 4) (l_y4 : 0 ≤ y4.toInt) (u_y4 : y4.toInt ≤ 1600) (l_y11 : 0 ≤ y11.toInt) (u_y11 : y11.toInt ≤ 99) (l_y12 : 0 ≤ y12.toInt) (u_y12 : y12.toInt ≤ 5) (l_y13 : 0 ≤ y13.toInt) (u_y13 : y13.toInt ≤ 12) : mp_Ct E yX10_span cX10_span 15 (some FieldType.int) 3 0 0 69 [.ref a0, .int x0, .int x1, .int x2] [(mp_ob10 a0 y0 a1 a2 a3 a6 a7 y1 y2 y3 y4 y5 y6 y7 y8 y9 y10 a8 a4 a9 a10 a11 a5 a12 a13 y11 a14 a15 a16 a17 y12 y13 y14 a18 a19 y15 y16 a20 a21 a22 y17 y18 y19 y20 a23 a24 a25 y21), (mp_arI E a1 0 4 f0), (mp_arI E a2 0 4 f1), (mp_arL E a3 240 f2), (mp_arI E a4 0 25 f3), (mp_arI E a5 0 300 f4)] (fun v w' => ∃ r1 : Int32, v = some (.int r1) ∧ w' = [(mp_ob10 a0 0 a1 a2 a3 a6 a7 y1 y2 y3 y4 y5 y6 y7 y8 y9 y10 a8 a4 a9 a10 a11 a5 a12 a13 y11 a14 a15 a16 a17 y12 y13 y14 a18 a19 y15 y16 a20 a21 a22 y17 y18 y19 y20 a23 a24 a25 y21), (mp_arI E a1 0 4 f0), (mp_arI E a2 0 4 f1), (mp_arL E a3 240 f2), (mp_arI E a4 0 25 f3), (mp_arI E a5 0 300 f4)]) := by
  refine mp_met false (by decide) (by decide) (Nat.le_of_ble_eq_true rfl) (fun X hF hQ => ?_)
  have hF : mp_F E X (RX10, cX10_span, 15, (3, 0, 0, 69), (some FieldType.int), false) := hF
  let w1_ : va_W := [(mp_ob10 a0 y0 a1 a2 a3 a6 a7 y1 y2 y3 y4 y5 y6 y7 y8 y9 y10 a8 a4 a9 a10 a11 a5 a12 a13 y11 a14 a15 a16 a17 y12 y13 y14 a18 a19 y15 y16 a20 a21 a22 y17 y18 y19 y20 a23 a24 a25 y21), (mp_arI E a1 0 4 f0), (mp_arI E a2 0 4 f1), (mp_arL E a3 240 f2), (mp_arI E a4 0 25 f3), (mp_arI E a5 0 300 f4)]
  show mp_W E X 15 0 [(0, .ref a0), (1, .int x0), (2, .int x1), (3, .int x2)] [] w1_ 0 0
  refine mp_run mp_k_cX10_span_ok hF mp_tabX10_ok [mp_i (.aload_n 0), mp_c (.iconst 0) 0, mp_h (.putfield 92) [0, 0]] (by decide +kernel) ?_
  refine And.intro rfl (And.intro rfl (And.intro rfl (And.intro rfl (And.intro (Nat.le_of_ble_eq_true rfl) ?_))))
  let w2_ : va_W := [(mp_ob10 a0 0 a1 a2 a3 a6 a7 y1 y2 y3 y4 y5 y6 y7 y8 y9 y10 a8 a4 a9 a10 a11 a5 a12 a13 y11 a14 a15 a16 a17 y12 y13 y14 a18 a19 y15 y16 a20 a21 a22 y17 y18 y19 y20 a23 a24 a25 y21), (mp_arI E a1 0 4 f0), (mp_arI E a2 0 4 f1), (mp_arL E a3 240 f2), (mp_arI E a4 0 25 f3), (mp_arI E a5 0 300 f4)]
  show mp_W E X 15 5 [(0, .ref a0), (1, .int x0), (2, .int x1), (3, .int x2)] [] w2_ 0 0
  refine mp_run mp_k_cX10_span_ok hF mp_tabX10_ok [mp_i (.iload_n 3), mp_i .i2l, mp_cl (.lconst 0) 0, mp_cl (.lconst 1) 1] (by decide +kernel) ?_
  intro z_1 h_2
  have e_3 : z_1.toInt = x2.toInt := mp_i2l h_2
  show mp_W E X 15 9 [(0, .ref a0), (1, .int x0), (2, .int x1), (3, .int x2)] [.long 1, .long 0, .long z_1] w2_ 0 0
  refine mp_callS hF (As := [.long z_1, .long 0, .long 1]) (rest := []) (wr := w2_) (bX10_in_0 E z_1 0 1) mp_lkX10_97 [] [0, 1, 2, 3, 4, 5] rfl rfl rfl rfl rfl ⟨(Nat.le_of_ble_eq_true rfl), (Nat.le_of_ble_eq_true rfl), (Nat.le_of_ble_eq_true rfl), (Nat.le_of_ble_eq_true rfl)⟩ (Nat.le_of_ble_eq_true rfl) (by first | exact mp_fd_ok mp_k_cX10_span_ok (by decide +kernel) | decide +kernel) (fun v_4 w_5 h_6 => ?_)
  rcases h_6 with ⟨rfl, x_7, rfl⟩ | ⟨rfl, c_8, c_9, rfl⟩
  · skip
    have i_10 : (0 : Int64).toInt = 0 := by decide
    have i_11 : (1 : Int64).toInt = 1 := by decide
    show mp_W E X 15 12 [(0, .ref a0), (1, .int x0), (2, .int x1), (3, .int x2)] [.int 0] w2_ 0 0
    refine mp_run mp_k_cX10_span_ok hF mp_tabX10_ok [mp_h (.ifCond .eq 12) [24]] (by decide +kernel) ?_
    refine And.intro (fun _ => ?_) (fun c_12 => absurd c_12 (by decide))
    show mp_W E X 15 24 [(0, .ref a0), (1, .int x0), (2, .int x1), (3, .int x2)] [] w2_ 0 0
    refine mp_run mp_k_cX10_span_ok hF mp_tabX10_ok [mp_c (.bipush (-2)) (-2), mp_i (.istore 4), mp_i (.iload 4), mp_h (.ifCond .eq 6) [36]] (by decide +kernel) ?_
    refine And.intro (fun c_13 => absurd c_13 (by decide)) (fun _ => ?_)
    show mp_W E X 15 33 [(4, .int (-2)), (0, .ref a0), (1, .int x0), (2, .int x1), (3, .int x2)] [] w2_ 0 0
    refine mp_run mp_k_cX10_span_ok hF mp_tabX10_ok [mp_i (.iload 4)] (by decide +kernel) ?_
    show mp_W E X 15 35 [(4, .int (-2)), (0, .ref a0), (1, .int x0), (2, .int x1), (3, .int x2)] [.int (-2)] w2_ 0 0
    exact mp_iret hF hQ rfl rfl (Nat.le_of_ble_eq_true rfl) (Nat.le_of_ble_eq_true rfl) [0, 1, 2, 3, 4, 5] (w' := w2_) rfl rfl ⟨(-2), rfl, rfl⟩ (by first | exact mp_fd_ok mp_k_cX10_span_ok (by decide +kernel) | decide +kernel)
  · skip
    have c_8 : 0 ≤ z_1.toInt := c_8
    have c_9 : z_1.toInt ≤ 1 := c_9
    have i_14 : (0 : Int64).toInt = 0 := by decide
    have i_15 : (1 : Int64).toInt = 1 := by decide
    show mp_W E X 15 12 [(0, .ref a0), (1, .int x0), (2, .int x1), (3, .int x2)] [.int 1] w2_ 0 0
    refine mp_run mp_k_cX10_span_ok hF mp_tabX10_ok [mp_h (.ifCond .eq 12) [24]] (by decide +kernel) ?_
    refine And.intro (fun c_16 => absurd c_16 (by decide)) (fun _ => ?_)
    show mp_W E X 15 15 [(0, .ref a0), (1, .int x0), (2, .int x1), (3, .int x2)] [] w2_ 0 0
    refine mp_run mp_k_cX10_span_ok hF mp_tabX10_ok [mp_i (.aload_n 0), mp_i (.iload_n 1), mp_i (.iload_n 2)] (by decide +kernel) ?_
    show mp_W E X 15 18 [(0, .ref a0), (1, .int x0), (2, .int x1), (3, .int x2)] [.int x1, .int x0, .ref a0] w2_ 0 0
    refine mp_callV hF (As := [.int x0, .int x1]) (rest := []) (wr := []) (bX10_whyNot_135 E a0 a1 a2 a3 a4 a5 a6 a7 a8 a9 a10 a11 a12 a13 a14 a15 a16 a17 a18 a19 a20 a21 a22 a23 a24 a25 f0 f1 f2 f3 f4 0 y1 y2 y3 y4 y5 y6 y7 y8 y9 y10 y11 y12 y13 y14 y15 y16 y17 y18 y19 y20 y21 x0 x1 p0 p1 p2 p3 p4 p5 p6 p7 p8 p9 l_y1 u_y1 l_y2 u_y2 l_y3 u_y3 l_y4 u_y4 l_y11 u_y11 l_y12 u_y12 l_y13 u_y13) mp_lkX10_432 0 rfl [0, 1, 2, 3, 4, 5] [] rfl rfl rfl rfl rfl ⟨(Nat.le_of_ble_eq_true rfl), (Nat.le_of_ble_eq_true rfl), (Nat.le_of_ble_eq_true rfl), (Nat.le_of_ble_eq_true rfl)⟩ (Nat.le_of_ble_eq_true rfl) (by first | exact mp_fd_ok mp_k_cX10_span_ok (by decide +kernel) | decide +kernel) (fun v_17 w_18 h_19 => ?_)
    refine h_19.elim (fun q_32 => ?_) (fun q_33 => q_33.elim (fun q_34 => ?_) (fun q_35 => ?_))
    · skip
      refine q_32.elim fun e_36 e_37 => ?_
      clear h_19 q_32
      subst e_36
      subst e_37
      show mp_W E X 15 21 [(0, .ref a0), (1, .int x0), (2, .int x1), (3, .int x2)] [.int (-2)] w2_ 0 0
      refine mp_run mp_k_cX10_span_ok hF mp_tabX10_ok [mp_h (.goto 5) [26], mp_i (.istore 4), mp_i (.iload 4), mp_h (.ifCond .eq 6) [36]] (by decide +kernel) ?_
      refine And.intro (fun c_38 => absurd c_38 (by decide)) (fun _ => ?_)
      show mp_W E X 15 33 [(4, .int (-2)), (0, .ref a0), (1, .int x0), (2, .int x1), (3, .int x2)] [] w2_ 0 0
      refine mp_run mp_k_cX10_span_ok hF mp_tabX10_ok [mp_i (.iload 4)] (by decide +kernel) ?_
      show mp_W E X 15 35 [(4, .int (-2)), (0, .ref a0), (1, .int x0), (2, .int x1), (3, .int x2)] [.int (-2)] w2_ 0 0
      exact mp_iret hF hQ rfl rfl (Nat.le_of_ble_eq_true rfl) (Nat.le_of_ble_eq_true rfl) [0, 1, 2, 3, 4, 5] (w' := w2_) rfl rfl ⟨(-2), rfl, rfl⟩ (by first | exact mp_fd_ok mp_k_cX10_span_ok (by decide +kernel) | decide +kernel)
    · skip
      refine q_34.elim fun e_39 q_40 => q_40.elim fun c_20 q_41 => q_41.elim fun c_21 q_42 => q_42.elim fun c_22 q_43 => q_43.elim fun x_23 q_44 => q_44.elim fun x_24 q_45 => q_45.elim fun x_25 q_46 => q_46.elim fun x_26 q_47 => q_47.elim fun x_27 q_48 => q_48.elim fun x_28 e_49 => ?_
      clear h_19 q_33 q_34 q_40 q_41 q_42 q_43 q_44 q_45 q_46 q_47 q_48
      subst e_39
      subst e_49
      have c_20 : 0 ≤ x0.toInt := c_20
      have c_21 : x0.toInt ≤ 3 := c_21
      have c_22 : 0 ≤ x1.toInt := c_22
      show mp_W E X 15 21 [(0, .ref a0), (1, .int x0), (2, .int x1), (3, .int x2)] [.int 0] w2_ 0 0
      refine mp_run mp_k_cX10_span_ok hF mp_tabX10_ok [mp_h (.goto 5) [26], mp_i (.istore 4), mp_i (.iload 4), mp_h (.ifCond .eq 6) [36]] (by decide +kernel) ?_
      refine And.intro (fun _ => ?_) (fun c_50 => absurd c_50 (by decide))
      show mp_W E X 15 36 [(4, .int 0), (0, .ref a0), (1, .int x0), (2, .int x1), (3, .int x2)] [] w2_ 0 0
      refine mp_run mp_k_cX10_span_ok hF mp_tabX10_ok [mp_cl (.lconst 1) 1, mp_i (.lstore 5), mp_cl (.ldc2_w 412) 1000000, mp_i (.lstore 7), mp_c (.iconst 0) 0, mp_i (.istore 9)] (by decide +kernel) ?_
      show mp_W E X 15 47 [(9, .int 0), (7, .long 1000000), (5, .long 1), (4, .int 0), (0, .ref a0), (1, .int x0), (2, .int x1), (3, .int x2)] [] w2_ 0 0
      have lp_58 : ∀ (d_59 : Nat) (i_51 : Int32) (i_52 : Int64) (i_53 : Int64), 0 ≤ i_51.toInt → i_51.toInt ≤ 78 → 1 ≤ i_53.toInt → (i_51.toInt % 2 = 0) → (f1 x0.toInt.toNat).toInt - i_51.toInt ≤ (d_59 : Int) → mp_W E X 15 47 [(9, .int i_51), (7, .long i_52), (5, .long i_53), (4, .int 0), (0, .ref a0), (1, .int x0), (2, .int x1), (3, .int x2)] [] [(mp_ob10 a0 0 a1 a2 a3 a6 a7 y1 y2 y3 y4 y5 y6 y7 y8 y9 y10 a8 a4 a9 a10 a11 a5 a12 a13 y11 a14 a15 a16 a17 y12 y13 y14 a18 a19 y15 y16 a20 a21 a22 y17 y18 y19 y20 a23 a24 a25 y21), (mp_arI E a1 0 4 f0), (mp_arI E a2 0 4 f1), (mp_arL E a3 240 f2), (mp_arI E a4 0 25 f3), (mp_arI E a5 0 300 f4)] 0 0 := by
        intro d_59
        induction d_59 using Nat.strongRecOn with
        | ind d_59 ih_60 =>
          intro i_51 i_52 i_53 l_54 u_55 l_56 x_57 hm_61
          refine mp_run mp_k_cX10_span_ok hF mp_tabX10_ok [mp_i (.iload 9), mp_i (.aload_n 0), mp_h (.getfield 13) [2, 0], mp_i (.iload_n 1), mp_h .iaload [2], mp_h (.if_icmp .ge 105) [160]] (by decide +kernel) ?_
          refine And.intro rfl (And.intro rfl ?_)
          refine And.intro rfl (And.intro rfl (And.intro (vp_in_iff.mpr (by omega)) ?_))
          intro z_62 h_63
          have e_64 : 0 ≤ z_62.toInt ∧ z_62.toInt ≤ 60 := mp_all_ld h_63 p0 (by omega) (by omega)
          have e_65 : z_62.toInt = (f1 x0.toInt.toNat).toInt := congrArg Int32.toInt h_63
          refine And.intro (fun c_66 => ?_) (fun c_66 => ?_)
          · have c_66 : z_62.toInt ≤ i_51.toInt := c_66
            show mp_W E X 15 160 [(9, .int i_51), (7, .long i_52), (5, .long i_53), (4, .int 0), (0, .ref a0), (1, .int x0), (2, .int x1), (3, .int x2)] [] w2_ 0 0
            refine mp_run mp_k_cX10_span_ok hF mp_tabX10_ok [mp_i (.lload 5), mp_i (.lload 7), mp_i .lcmp, mp_h (.ifCond .le 7) [172]] (by decide +kernel) ?_
            intro z_67 h_68
            refine And.intro (fun c_69 => ?_) (fun c_69 => ?_)
            · have c_69 : i_53.toInt ≤ i_52.toInt := mp_lc_le h_68 c_69
              show mp_W E X 15 172 [(9, .int i_51), (7, .long i_52), (5, .long i_53), (4, .int 0), (0, .ref a0), (1, .int x0), (2, .int x1), (3, .int x2)] [] w2_ 0 0
              refine mp_run mp_k_cX10_span_ok hF mp_tabX10_ok [mp_i (.iload_n 3), mp_h (.ifCond .ne 8) [181]] (by decide +kernel) ?_
              refine And.intro (fun c_70 => ?_) (fun c_70 => ?_)
              · have c_70 : x2.toInt ≠ 0 := c_70
                show mp_W E X 15 181 [(9, .int i_51), (7, .long i_52), (5, .long i_53), (4, .int 0), (0, .ref a0), (1, .int x0), (2, .int x1), (3, .int x2)] [] w2_ 0 0
                refine mp_run mp_k_cX10_span_ok hF mp_tabX10_ok [mp_i (.lload 7), mp_i .l2i] (by decide +kernel) ?_
                intro z_71 h_72
                show mp_W E X 15 184 [(9, .int i_51), (7, .long i_52), (5, .long i_53), (4, .int 0), (0, .ref a0), (1, .int x0), (2, .int x1), (3, .int x2)] [.int z_71] w2_ 0 0
                exact mp_iret hF hQ rfl rfl (Nat.le_of_ble_eq_true rfl) (Nat.le_of_ble_eq_true rfl) [0, 1, 2, 3, 4, 5] (w' := w2_) rfl rfl ⟨z_71, rfl, rfl⟩ (by first | exact mp_fd_ok mp_k_cX10_span_ok (by decide +kernel) | decide +kernel)
              · have c_70 : x2.toInt = 0 := (congrArg Int32.toInt c_70)
                show mp_W E X 15 176 [(9, .int i_51), (7, .long i_52), (5, .long i_53), (4, .int 0), (0, .ref a0), (1, .int x0), (2, .int x1), (3, .int x2)] [] w2_ 0 0
                refine mp_run mp_k_cX10_span_ok hF mp_tabX10_ok [mp_i (.lload 5), mp_h (.goto 5) [183], mp_i .l2i] (by decide +kernel) ?_
                intro z_73 h_74
                show mp_W E X 15 184 [(9, .int i_51), (7, .long i_52), (5, .long i_53), (4, .int 0), (0, .ref a0), (1, .int x0), (2, .int x1), (3, .int x2)] [.int z_73] w2_ 0 0
                exact mp_iret hF hQ rfl rfl (Nat.le_of_ble_eq_true rfl) (Nat.le_of_ble_eq_true rfl) [0, 1, 2, 3, 4, 5] (w' := w2_) rfl rfl ⟨z_73, rfl, rfl⟩ (by first | exact mp_fd_ok mp_k_cX10_span_ok (by decide +kernel) | decide +kernel)
            · have c_69 : i_52.toInt < i_53.toInt := mp_lc_gt h_68 c_69
              show mp_W E X 15 168 [(9, .int i_51), (7, .long i_52), (5, .long i_53), (4, .int 0), (0, .ref a0), (1, .int x0), (2, .int x1), (3, .int x2)] [] w2_ 0 0
              refine mp_run mp_k_cX10_span_ok hF mp_tabX10_ok [mp_c (.iconst (-1)) (-1), mp_h (.goto 15) [184]] (by decide +kernel) ?_
              show mp_W E X 15 184 [(9, .int i_51), (7, .long i_52), (5, .long i_53), (4, .int 0), (0, .ref a0), (1, .int x0), (2, .int x1), (3, .int x2)] [.int (-1)] w2_ 0 0
              exact mp_iret hF hQ rfl rfl (Nat.le_of_ble_eq_true rfl) (Nat.le_of_ble_eq_true rfl) [0, 1, 2, 3, 4, 5] (w' := w2_) rfl rfl ⟨(-1), rfl, rfl⟩ (by first | exact mp_fd_ok mp_k_cX10_span_ok (by decide +kernel) | decide +kernel)
          · have c_66 : i_51.toInt < z_62.toInt := c_66
            show mp_W E X 15 58 [(9, .int i_51), (7, .long i_52), (5, .long i_53), (4, .int 0), (0, .ref a0), (1, .int x0), (2, .int x1), (3, .int x2)] [] w2_ 0 0
            refine mp_run mp_k_cX10_span_ok hF mp_tabX10_ok [mp_i (.aload_n 0), mp_h (.getfield 16) [3, 0], mp_c (.bipush 60) 60, mp_i (.iload_n 1), mp_i .imul, mp_i (.iload 9), mp_i .iadd, mp_h .laload [3], mp_i .l2i, mp_i (.aload_n 0), mp_i (.iload_n 2), mp_c (.iconst 3) 3] (by decide +kernel) ?_
            refine And.intro rfl (And.intro rfl ?_)
            intro z_75 h_76
            have e_77 : z_75.toInt = 60 * x0.toInt := mp_mul (a := 60) (b := x0.toInt) h_76 (by decide) rfl (by omega) (by omega)
            intro z_78 h_79
            have e_80 : z_78.toInt = z_75.toInt + i_51.toInt := mp_add (a := z_75.toInt) (b := i_51.toInt) h_79 rfl rfl (by omega) (by omega)
            refine And.intro rfl (And.intro rfl (And.intro (vp_in_iff.mpr (by omega)) ?_))
            intro z_81 h_82
            intro z_83 h_84
            show mp_W E X 15 74 [(9, .int i_51), (7, .long i_52), (5, .long i_53), (4, .int 0), (0, .ref a0), (1, .int x0), (2, .int x1), (3, .int x2)] [.int 3, .int x1, .ref a0, .int z_83] w2_ 0 0
            refine mp_callV hF (As := [.int x1, .int 3]) (rest := [.int z_83]) (wr := [(mp_arI E a1 0 4 f0), (mp_arI E a2 0 4 f1), (mp_arL E a3 240 f2), (mp_arI E a4 0 25 f3)]) (bX10_of_63 E a0 a5 a1 a2 a3 a6 a7 a8 a4 a9 a10 a11 a12 a13 a14 a15 a16 a17 a18 a19 a20 a21 a22 a23 a24 a25 f4 0 y1 y2 y3 y4 y5 y6 y7 y8 y9 y10 y11 y12 y13 y14 y15 y16 y17 y18 y19 y20 y21 x1 p6 p7 p8 p9 (by omega) (by omega) l_y1 u_y1 l_y2 u_y2 l_y3 u_y3 l_y4 u_y4 l_y11 u_y11 l_y12 u_y12 l_y13 u_y13) mp_lkX10_267 0 rfl [0, 5] [1, 2, 3, 4] rfl rfl rfl rfl rfl ⟨(Nat.le_of_ble_eq_true rfl), (Nat.le_of_ble_eq_true rfl), (Nat.le_of_ble_eq_true rfl), (Nat.le_of_ble_eq_true rfl)⟩ (Nat.le_of_ble_eq_true rfl) (by first | exact mp_fd_ok mp_k_cX10_span_ok (by decide +kernel) | decide +kernel) (fun v_85 w_86 h_87 => ?_)
            refine h_87.elim fun r_88 q_92 => q_92.elim fun e_93 q_94 => q_94.elim fun l_89 q_95 => q_95.elim fun u_90 q_96 => q_96.elim fun x_91 e_97 => ?_
            clear h_87 q_92 q_94 q_95 q_96
            subst e_93
            subst e_97
            let w3_ : va_W := [(mp_arI E a1 0 4 f0), (mp_arI E a2 0 4 f1), (mp_arL E a3 240 f2), (mp_arI E a4 0 25 f3), (mp_ob10 a0 0 a1 a2 a3 a6 a7 y1 y2 y3 y4 y5 y6 y7 y8 y9 y10 a8 a4 a9 a10 a11 a5 a12 a13 y11 a14 a15 a16 a17 y12 y13 y14 a18 a19 y15 y16 a20 a21 a22 y17 y18 y19 y20 a23 a24 a25 y21), (mp_arI E a5 0 300 f4)]
            show mp_W E X 15 77 [(9, .int i_51), (7, .long i_52), (5, .long i_53), (4, .int 0), (0, .ref a0), (1, .int x0), (2, .int x1), (3, .int x2)] [.int r_88, .int z_83] w3_ 0 0
            refine mp_run mp_k_cX10_span_ok hF mp_tabX10_ok [mp_i .isub, mp_i (.aload_n 0), mp_i (.iload_n 2), mp_c (.iconst 4) 4] (by decide +kernel) ?_
            intro z_98 h_99
            show mp_W E X 15 81 [(9, .int i_51), (7, .long i_52), (5, .long i_53), (4, .int 0), (0, .ref a0), (1, .int x0), (2, .int x1), (3, .int x2)] [.int 4, .int x1, .ref a0, .int z_98] w3_ 0 0
            refine mp_callV hF (As := [.int x1, .int 4]) (rest := [.int z_98]) (wr := [(mp_arI E a1 0 4 f0), (mp_arI E a2 0 4 f1), (mp_arL E a3 240 f2), (mp_arI E a4 0 25 f3)]) (bX10_of_65 E a0 a5 a1 a2 a3 a6 a7 a8 a4 a9 a10 a11 a12 a13 a14 a15 a16 a17 a18 a19 a20 a21 a22 a23 a24 a25 f4 0 y1 y2 y3 y4 y5 y6 y7 y8 y9 y10 y11 y12 y13 y14 y15 y16 y17 y18 y19 y20 y21 x1 p6 p7 p8 p9 (by omega) (by omega) l_y1 u_y1 l_y2 u_y2 l_y3 u_y3 l_y4 u_y4 l_y11 u_y11 l_y12 u_y12 l_y13 u_y13) mp_lkX10_267 4 rfl [4, 5] [0, 1, 2, 3] rfl rfl rfl rfl rfl ⟨(Nat.le_of_ble_eq_true rfl), (Nat.le_of_ble_eq_true rfl), (Nat.le_of_ble_eq_true rfl), (Nat.le_of_ble_eq_true rfl)⟩ (Nat.le_of_ble_eq_true rfl) (by first | exact mp_fd_ok mp_k_cX10_span_ok (by decide +kernel) | decide +kernel) (fun v_101 w_102 h_103 => ?_)
            refine h_103.elim fun r_104 q_108 => q_108.elim fun e_109 q_110 => q_110.elim fun l_105 q_111 => q_111.elim fun u_106 q_112 => q_112.elim fun x_107 e_113 => ?_
            clear h_103 q_108 q_110 q_111 q_112
            subst e_109
            subst e_113
            show mp_W E X 15 84 [(9, .int i_51), (7, .long i_52), (5, .long i_53), (4, .int 0), (0, .ref a0), (1, .int x0), (2, .int x1), (3, .int x2)] [.int r_104, .int z_98] w3_ 0 0
            refine mp_run mp_k_cX10_span_ok hF mp_tabX10_ok [mp_i .iadd, mp_i (.istore 10), mp_i (.aload_n 0), mp_h (.getfield 16) [3, 4], mp_c (.bipush 60) 60, mp_i (.iload_n 1), mp_i .imul, mp_i (.iload 9), mp_i .iadd, mp_c (.iconst 1) 1, mp_i .iadd, mp_h .laload [2], mp_i (.lstore 11), mp_i (.lload 11), mp_cl (.lconst 1) 1, mp_i .lsub, mp_i (.iload 10), mp_i .lshl, mp_cl (.lconst 1) 1, mp_i .ladd, mp_i (.lstore 13), mp_i (.lload 13), mp_i (.lload 5), mp_i .lcmp, mp_h (.ifCond .le 8) [127]] (by decide +kernel) ?_
            intro z_114 h_115
            refine And.intro rfl (And.intro rfl ?_)
            intro z_117 h_118
            have e_119 : z_117.toInt = 60 * x0.toInt := mp_mul (a := 60) (b := x0.toInt) h_118 (by decide) rfl (by omega) (by omega)
            intro z_120 h_121
            have e_122 : z_120.toInt = z_117.toInt + i_51.toInt := mp_add (a := z_117.toInt) (b := i_51.toInt) h_121 rfl rfl (by omega) (by omega)
            intro z_123 h_124
            have e_125 : z_123.toInt = z_120.toInt + 1 := mp_add (a := z_120.toInt) (b := 1) h_124 rfl (by decide) (by omega) (by omega)
            refine And.intro rfl (And.intro rfl (And.intro (vp_in_iff.mpr (by omega)) ?_))
            intro z_126 h_127
            intro z_128 h_129
            intro z_130 h_131
            intro z_132 h_133
            intro z_134 h_135
            refine And.intro (fun c_136 => ?_) (fun c_136 => ?_)
            · have c_136 : z_132.toInt ≤ i_53.toInt := mp_lc_le h_135 c_136
              show mp_W E X 15 127 [(13, .long z_132), (11, .long z_126), (10, .int z_114), (9, .int i_51), (7, .long i_52), (5, .long i_53), (4, .int 0), (0, .ref a0), (1, .int x0), (2, .int x1), (3, .int x2)] [] w3_ 0 0
              refine mp_run mp_k_cX10_span_ok hF mp_tabX10_ok [mp_i (.lload 5), mp_i (.lstore 5), mp_i (.lload 11), mp_i (.iload 10), mp_i .lshl, mp_i (.lload 7), mp_i .lcmp, mp_h (.ifCond .ge 11) [150]] (by decide +kernel) ?_
              intro z_137 h_138
              intro z_139 h_140
              refine And.intro (fun c_141 => ?_) (fun c_141 => ?_)
              · have c_141 : i_52.toInt ≤ z_137.toInt := mp_lc_ge h_140 c_141
                show mp_W E X 15 150 [(5, .long i_53), (13, .long z_132), (11, .long z_126), (10, .int z_114), (9, .int i_51), (7, .long i_52), (4, .int 0), (0, .ref a0), (1, .int x0), (2, .int x1), (3, .int x2)] [] w3_ 0 0
                refine mp_run mp_k_cX10_span_ok hF mp_tabX10_ok [mp_i (.lload 7), mp_i (.lstore 7), mp_c (.iinc 9 2) 2, mp_h (.goto (-110)) [47]] (by decide +kernel) ?_
                intro z_142 h_143
                have e_144 : z_142.toInt = i_51.toInt + 2 := mp_add (a := i_51.toInt) (b := 2) h_143 rfl (by decide) (by omega) (by omega)
                show mp_W E X 15 47 [(9, .int z_142), (7, .long i_52), (5, .long i_53), (13, .long z_132), (11, .long z_126), (10, .int z_114), (4, .int 0), (0, .ref a0), (1, .int x0), (2, .int x1), (3, .int x2)] [] w3_ 0 0
                exact mp_sub [0, 1, 2, 6, 7, 8, 9, 10] rfl [4, 0, 1, 2, 3, 5] rfl rfl (ih_60 (d_59 - 1) (by omega) z_142 i_52 i_53 (by omega) (by omega) l_56 (by first | omega | decide | (show z_142.toInt % 2 = 0; first | omega | decide)) (by omega))
              · have c_141 : z_137.toInt < i_52.toInt := mp_lc_lt h_140 c_141
                show mp_W E X 15 142 [(5, .long i_53), (13, .long z_132), (11, .long z_126), (10, .int z_114), (9, .int i_51), (7, .long i_52), (4, .int 0), (0, .ref a0), (1, .int x0), (2, .int x1), (3, .int x2)] [] w3_ 0 0
                refine mp_run mp_k_cX10_span_ok hF mp_tabX10_ok [mp_i (.lload 11), mp_i (.iload 10), mp_i .lshl, mp_h (.goto 5) [152], mp_i (.lstore 7), mp_c (.iinc 9 2) 2, mp_h (.goto (-110)) [47]] (by decide +kernel) ?_
                intro z_145 h_146
                intro z_147 h_148
                have e_149 : z_147.toInt = i_51.toInt + 2 := mp_add (a := i_51.toInt) (b := 2) h_148 rfl (by decide) (by omega) (by omega)
                show mp_W E X 15 47 [(9, .int z_147), (7, .long z_145), (5, .long i_53), (13, .long z_132), (11, .long z_126), (10, .int z_114), (4, .int 0), (0, .ref a0), (1, .int x0), (2, .int x1), (3, .int x2)] [] w3_ 0 0
                exact mp_sub [0, 1, 2, 6, 7, 8, 9, 10] rfl [4, 0, 1, 2, 3, 5] rfl rfl (ih_60 (d_59 - 1) (by omega) z_147 z_145 i_53 (by omega) (by omega) l_56 (by first | omega | decide | (show z_147.toInt % 2 = 0; first | omega | decide)) (by omega))
            · have c_136 : i_53.toInt < z_132.toInt := mp_lc_gt h_135 c_136
              show mp_W E X 15 122 [(13, .long z_132), (11, .long z_126), (10, .int z_114), (9, .int i_51), (7, .long i_52), (5, .long i_53), (4, .int 0), (0, .ref a0), (1, .int x0), (2, .int x1), (3, .int x2)] [] w3_ 0 0
              refine mp_run mp_k_cX10_span_ok hF mp_tabX10_ok [mp_i (.lload 13), mp_h (.goto 5) [129], mp_i (.lstore 5), mp_i (.lload 11), mp_i (.iload 10), mp_i .lshl, mp_i (.lload 7), mp_i .lcmp, mp_h (.ifCond .ge 11) [150]] (by decide +kernel) ?_
              intro z_150 h_151
              intro z_152 h_153
              refine And.intro (fun c_154 => ?_) (fun c_154 => ?_)
              · have c_154 : i_52.toInt ≤ z_150.toInt := mp_lc_ge h_153 c_154
                show mp_W E X 15 150 [(5, .long z_132), (13, .long z_132), (11, .long z_126), (10, .int z_114), (9, .int i_51), (7, .long i_52), (4, .int 0), (0, .ref a0), (1, .int x0), (2, .int x1), (3, .int x2)] [] w3_ 0 0
                refine mp_run mp_k_cX10_span_ok hF mp_tabX10_ok [mp_i (.lload 7), mp_i (.lstore 7), mp_c (.iinc 9 2) 2, mp_h (.goto (-110)) [47]] (by decide +kernel) ?_
                intro z_155 h_156
                have e_157 : z_155.toInt = i_51.toInt + 2 := mp_add (a := i_51.toInt) (b := 2) h_156 rfl (by decide) (by omega) (by omega)
                show mp_W E X 15 47 [(9, .int z_155), (7, .long i_52), (5, .long z_132), (13, .long z_132), (11, .long z_126), (10, .int z_114), (4, .int 0), (0, .ref a0), (1, .int x0), (2, .int x1), (3, .int x2)] [] w3_ 0 0
                exact mp_sub [0, 1, 2, 6, 7, 8, 9, 10] rfl [4, 0, 1, 2, 3, 5] rfl rfl (ih_60 (d_59 - 1) (by omega) z_155 i_52 z_132 (by omega) (by omega) (by omega) (by first | omega | decide | (show z_155.toInt % 2 = 0; first | omega | decide)) (by omega))
              · have c_154 : z_150.toInt < i_52.toInt := mp_lc_lt h_153 c_154
                show mp_W E X 15 142 [(5, .long z_132), (13, .long z_132), (11, .long z_126), (10, .int z_114), (9, .int i_51), (7, .long i_52), (4, .int 0), (0, .ref a0), (1, .int x0), (2, .int x1), (3, .int x2)] [] w3_ 0 0
                refine mp_run mp_k_cX10_span_ok hF mp_tabX10_ok [mp_i (.lload 11), mp_i (.iload 10), mp_i .lshl, mp_h (.goto 5) [152], mp_i (.lstore 7), mp_c (.iinc 9 2) 2, mp_h (.goto (-110)) [47]] (by decide +kernel) ?_
                intro z_158 h_159
                intro z_160 h_161
                have e_162 : z_160.toInt = i_51.toInt + 2 := mp_add (a := i_51.toInt) (b := 2) h_161 rfl (by decide) (by omega) (by omega)
                show mp_W E X 15 47 [(9, .int z_160), (7, .long z_158), (5, .long z_132), (13, .long z_132), (11, .long z_126), (10, .int z_114), (4, .int 0), (0, .ref a0), (1, .int x0), (2, .int x1), (3, .int x2)] [] w3_ 0 0
                exact mp_sub [0, 1, 2, 6, 7, 8, 9, 10] rfl [4, 0, 1, 2, 3, 5] rfl rfl (ih_60 (d_59 - 1) (by omega) z_160 z_158 z_132 (by omega) (by omega) (by omega) (by first | omega | decide | (show z_160.toInt % 2 = 0; first | omega | decide)) (by omega))
      exact mp_sub [0, 1, 2, 3, 4, 5, 6, 7] rfl [0, 1, 2, 3, 4, 5] rfl rfl (lp_58 _ 0 1000000 1 (by decide) (by decide) (by decide) (by first | omega | decide | (show 0 % 2 = 0; first | omega | decide)) (Int.self_le_toNat _))
    · skip
      refine q_35.elim fun e_163 q_164 => q_164.elim fun c_29 q_165 => q_165.elim fun c_30 q_166 => q_166.elim fun c_31 e_167 => ?_
      clear h_19 q_33 q_35 q_164 q_165 q_166
      subst e_163
      subst e_167
      have c_29 : 0 ≤ x0.toInt := c_29
      have c_30 : x0.toInt ≤ 3 := c_30
      have c_31 : 0 ≤ x1.toInt := c_31
      show mp_W E X 15 21 [(0, .ref a0), (1, .int x0), (2, .int x1), (3, .int x2)] [.int (-6)] w2_ 0 0
      refine mp_run mp_k_cX10_span_ok hF mp_tabX10_ok [mp_h (.goto 5) [26], mp_i (.istore 4), mp_i (.iload 4), mp_h (.ifCond .eq 6) [36]] (by decide +kernel) ?_
      refine And.intro (fun c_168 => absurd c_168 (by decide)) (fun _ => ?_)
      show mp_W E X 15 33 [(4, .int (-6)), (0, .ref a0), (1, .int x0), (2, .int x1), (3, .int x2)] [] w2_ 0 0
      refine mp_run mp_k_cX10_span_ok hF mp_tabX10_ok [mp_i (.iload 4)] (by decide +kernel) ?_
      show mp_W E X 15 35 [(4, .int (-6)), (0, .ref a0), (1, .int x0), (2, .int x1), (3, .int x2)] [.int (-6)] w2_ 0 0
      exact mp_iret hF hQ rfl rfl (Nat.le_of_ble_eq_true rfl) (Nat.le_of_ble_eq_true rfl) [0, 1, 2, 3, 4, 5] (w' := w2_) rfl rfl ⟨(-6), rfl, rfl⟩ (by first | exact mp_fd_ok mp_k_cX10_span_ok (by decide +kernel) | decide +kernel)
