set_option maxHeartbeats 4000000 in
set_option maxRecDepth 100000 in
theorem bX9_when_128 (E : mp_E) (a0 a1 a2 a3 a4 a5 a6 a7 a8 a9 a10 a11 a12 a13 a14 a15 a16 a17 a18 a19 a20 a21 a22 a23 a24 a25 a26 a27 a28 a29 a30 a31 a32 a33 : Nat) (f0 : Nat → Int32) (f1 : Nat → Int64) (f2 : Nat → Int32) (f3 : Nat → Int32) (f4 : Nat → Int32) (f5 : Nat → Int32) (f6 : Nat → Int32) (f7 : Nat → Int32) (f8 : Nat → Int32) (f9 : Nat → Int32) (f10 : Nat → Int64) (f11 : Nat → Int32) (f12 : Nat → Int32) (f13 : Nat → Int32) (y0 : Int32) (y1 : Int32) (y2 : Int32) (y3 : Int32) (y4 : Int32) (y5 : Int32) (y6 : Int32) (y7 : Int32) (y8 : Int32) (y9 : Int32) (y10 : Int32) (y11 : Int32) (y12 : Int32) (x0 : Int32) (x1 : Int32) (x2 : Int32) (p0 : mp_all f0 36 0 20) (p1 : mp_all f3 10 0 5) (p2 : mp_all f4 10 0 5) (p3 : mp_all f6 10 0 99) (p4 : mp_all f7 10 0 1) (p5 : mp_all f8 10 (-1) 9) (p6 : mp_all f9 6 0 5) (l_y0 : 0 ≤ y0.toInt) (u_y0 : y0.toInt ≤ 99) (l_y2 : 0 ≤ y2.toInt) (u_y2 : y2.toInt ≤ 6) (l_y3 : 0 ≤ y3.toInt) (u_y3 : y3.toInt ≤ 99) (l_y4 : 0 ≤ y4.toInt) (u_y4 : y4.toInt ≤ 6) (l_y5 : 0 ≤ y5.toInt) (u_y5 : y5.toInt ≤ 10) (l_y6 : 0 ≤ y6.toInt) (u_y6 : y6.toInt ≤ 60) (l_y7 : 0 ≤ y7.toInt) (u_y7 : y7.toInt ≤ 6) (l_y8 : 0 ≤ y8.toInt) (u_y8 : y8.toInt ≤ 12) (l_y9 : 0 ≤ y9.toInt) (u_y9 : y9.toInt ≤ 5) : mp_Ct E yX9_when cX9_when 4 (some FieldType.int) 4 0 0 105 [.ref a0, .int x0, .int x1, .int x2] [(mp_ob9 a0 a18 a1 a19 a20 a15 a21 a22 a23 a24), (mp_ob0 a1 a2 y0 a12 a25 a26 a13 a14 a27), (mp_ob7 a2 y1 y2 y3 y4 y5 y6 a3 a4 a28 a5 a29 a6 a7 a8 a9 a10 a11 a30), (mp_arI E a3 0 36 f0), (mp_arL E a4 12 f1), (mp_arI E a5 0 6 f2), (mp_arI E a6 0 10 f3), (mp_arI E a7 0 10 f4), (mp_arI E a8 0 10 f5), (mp_arI E a9 0 10 f6), (mp_arI E a10 0 10 f7), (mp_arI E a11 0 10 f8), (mp_arI E a12 0 6 f9), (mp_arL E a13 20 f10), (mp_arI E a14 0 10 f11), (mp_ob2 a15 y7 y8 y9 y10 a16 a31 a32 a17 a33 y11 y12), (mp_arI E a16 0 432 f12), (mp_arI E a17 0 78 f13)] (fun v w' => ∃ h1 : Nat → Int32, ∃ r2 : Int32, ∃ r3 : Int32, ∃ r4 : Int32, ∃ r5 : Int32, ∃ r6 : Int32, ∃ h7 : Nat → Int32, ∃ h8 : Nat → Int32, ∃ r9 : Int32, v = some (.int r9) ∧ 0 ≤ r2.toInt ∧ r2.toInt ≤ 6 ∧ 0 ≤ r3.toInt ∧ r3.toInt ≤ 12 ∧ 0 ≤ r4.toInt ∧ r4.toInt ≤ 5 ∧ (-2) ≤ r9.toInt ∧ r9.toInt ≤ 240 ∧ w' = [(mp_ob9 a0 a18 a1 a19 a20 a15 a21 a22 a23 a24), (mp_ob0 a1 a2 y0 a12 a25 a26 a13 a14 a27), (mp_ob7 a2 y1 y2 y3 y4 y5 y6 a3 a4 a28 a5 a29 a6 a7 a8 a9 a10 a11 a30), (mp_arI E a3 0 36 f0), (mp_arL E a4 12 f1), (mp_arI E a5 0 6 f2), (mp_arI E a6 0 10 f3), (mp_arI E a7 0 10 f4), (mp_arI E a8 0 10 f5), (mp_arI E a9 0 10 f6), (mp_arI E a10 0 10 f7), (mp_arI E a11 0 10 f8), (mp_arI E a12 0 6 f9), (mp_arL E a13 20 f10), (mp_arI E a14 0 10 h1), (mp_ob2 a15 r2 r3 r4 y10 a16 a31 a32 a17 a33 r5 r6), (mp_arI E a16 0 432 h7), (mp_arI E a17 0 78 h8)]) := by
  refine mp_met false (by decide) (by decide) (Nat.le_of_ble_eq_true rfl) (fun X hF hQ => ?_)
  have hF : mp_F E X (RX9, cX9_when, 4, (4, 0, 0, 105), (some FieldType.int), false) := hF
  let w1_ : va_W := [(mp_ob9 a0 a18 a1 a19 a20 a15 a21 a22 a23 a24), (mp_ob0 a1 a2 y0 a12 a25 a26 a13 a14 a27), (mp_ob7 a2 y1 y2 y3 y4 y5 y6 a3 a4 a28 a5 a29 a6 a7 a8 a9 a10 a11 a30), (mp_arI E a3 0 36 f0), (mp_arL E a4 12 f1), (mp_arI E a5 0 6 f2), (mp_arI E a6 0 10 f3), (mp_arI E a7 0 10 f4), (mp_arI E a8 0 10 f5), (mp_arI E a9 0 10 f6), (mp_arI E a10 0 10 f7), (mp_arI E a11 0 10 f8), (mp_arI E a12 0 6 f9), (mp_arL E a13 20 f10), (mp_arI E a14 0 10 f11), (mp_ob2 a15 y7 y8 y9 y10 a16 a31 a32 a17 a33 y11 y12), (mp_arI E a16 0 432 f12), (mp_arI E a17 0 78 f13)]
  show mp_W E X 4 0 [(0, .ref a0), (1, .int x0), (2, .int x1), (3, .int x2)] [] w1_ 0 0
  refine mp_run mp_k_cX9_when_ok hF mp_tabX9_ok [mp_i (.aload_n 0), mp_i (.iload_n 1), mp_i (.iload_n 2), mp_i (.iload_n 3)] (by decide +kernel) ?_
  show mp_W E X 4 4 [(0, .ref a0), (1, .int x0), (2, .int x1), (3, .int x2)] [.int x2, .int x1, .int x0, .ref a0] w1_ 0 0
  refine mp_callV hF (As := [.int x0, .int x1, .int x2]) (rest := []) (wr := [(mp_arI E a3 0 36 f0), (mp_arL E a4 12 f1), (mp_arI E a5 0 6 f2), (mp_arI E a6 0 10 f3), (mp_arI E a7 0 10 f4), (mp_arI E a8 0 10 f5), (mp_arI E a9 0 10 f6), (mp_arI E a10 0 10 f7), (mp_arI E a11 0 10 f8), (mp_arI E a12 0 6 f9), (mp_arL E a13 20 f10), (mp_arI E a14 0 10 f11), (mp_ob2 a15 y7 y8 y9 y10 a16 a31 a32 a17 a33 y11 y12), (mp_arI E a16 0 432 f12), (mp_arI E a17 0 78 f13)]) (bX9_canLove_123 E a0 a1 a2 a18 a19 a20 a15 a21 a22 a23 a24 a12 a25 a26 a13 a14 a27 a3 a4 a28 a5 a29 a6 a7 a8 a9 a10 a11 a30 y0 y1 y2 y3 y4 y5 y6 x0 x1 x2 l_y0 u_y0 l_y2 u_y2 l_y3 u_y3 l_y4 u_y4 l_y5 u_y5 l_y6 u_y6) mp_lkX9_250 0 rfl [0, 1, 2] [3, 4, 5, 6, 7, 8, 9, 10, 11, 12, 13, 14, 15, 16, 17] rfl rfl rfl rfl rfl ⟨(Nat.le_of_ble_eq_true rfl), (Nat.le_of_ble_eq_true rfl), (Nat.le_of_ble_eq_true rfl), (Nat.le_of_ble_eq_true rfl)⟩ (Nat.le_of_ble_eq_true rfl) (by first | exact mp_fd_ok mp_k_cX9_when_ok (by decide +kernel) | decide +kernel) (fun v_1 w_2 h_3 => ?_)
  refine h_3.elim (fun q_10 => ?_) (fun q_11 => ?_)
  · skip
    refine q_10.elim fun e_12 e_13 => ?_
    clear h_3 q_10
    subst e_12
    subst e_13
    let w2_ : va_W := [(mp_arI E a3 0 36 f0), (mp_arL E a4 12 f1), (mp_arI E a5 0 6 f2), (mp_arI E a6 0 10 f3), (mp_arI E a7 0 10 f4), (mp_arI E a8 0 10 f5), (mp_arI E a9 0 10 f6), (mp_arI E a10 0 10 f7), (mp_arI E a11 0 10 f8), (mp_arI E a12 0 6 f9), (mp_arL E a13 20 f10), (mp_arI E a14 0 10 f11), (mp_ob2 a15 y7 y8 y9 y10 a16 a31 a32 a17 a33 y11 y12), (mp_arI E a16 0 432 f12), (mp_arI E a17 0 78 f13), (mp_ob9 a0 a18 a1 a19 a20 a15 a21 a22 a23 a24), (mp_ob0 a1 a2 y0 a12 a25 a26 a13 a14 a27), (mp_ob7 a2 y1 y2 y3 y4 y5 y6 a3 a4 a28 a5 a29 a6 a7 a8 a9 a10 a11 a30)]
    show mp_W E X 4 7 [(0, .ref a0), (1, .int x0), (2, .int x1), (3, .int x2)] [.int 0] w2_ 0 0
    refine mp_run mp_k_cX9_when_ok hF mp_tabX9_ok [mp_h (.ifCond .ne 6) [13]] (by decide +kernel) ?_
    refine And.intro (fun c_14 => absurd c_14 (by decide)) (fun _ => ?_)
    show mp_W E X 4 10 [(0, .ref a0), (1, .int x0), (2, .int x1), (3, .int x2)] [] w2_ 0 0
    refine mp_run mp_k_cX9_when_ok hF mp_tabX9_ok [mp_c (.bipush (-2)) (-2)] (by decide +kernel) ?_
    show mp_W E X 4 12 [(0, .ref a0), (1, .int x0), (2, .int x1), (3, .int x2)] [.int (-2)] w2_ 0 0
    exact mp_iret hF hQ rfl rfl (Nat.le_of_ble_eq_true rfl) (Nat.le_of_ble_eq_true rfl) [15, 16, 17, 0, 1, 2, 3, 4, 5, 6, 7, 8, 9, 10, 11, 12, 13, 14] (w' := w1_) rfl rfl ⟨f11, y7, y8, y9, y11, y12, f12, f13, (-2), rfl, l_y7, u_y7, l_y8, u_y8, l_y9, u_y9, (by decide), (by decide), rfl⟩ (by first | exact mp_fd_ok mp_k_cX9_when_ok (by decide +kernel) | decide +kernel)
  · skip
    refine q_11.elim fun e_15 q_16 => q_16.elim fun c_4 q_17 => q_17.elim fun c_5 q_18 => q_18.elim fun c_6 q_19 => q_19.elim fun c_7 q_20 => q_20.elim fun c_8 q_21 => q_21.elim fun c_9 e_22 => ?_
    clear h_3 q_11 q_16 q_17 q_18 q_19 q_20 q_21
    subst e_15
    subst e_22
    have c_4 : 0 ≤ x0.toInt := c_4
    have c_5 : x0.toInt < y5.toInt := c_5
    have c_6 : 1 ≤ x1.toInt := c_6
    have c_7 : 0 ≤ x2.toInt := c_7
    have c_8 : x2.toInt ≤ 12 := c_8
    have c_9 : y0.toInt + x2.toInt ≤ 99 := c_9
    let w3_ : va_W := [(mp_arI E a3 0 36 f0), (mp_arL E a4 12 f1), (mp_arI E a5 0 6 f2), (mp_arI E a6 0 10 f3), (mp_arI E a7 0 10 f4), (mp_arI E a8 0 10 f5), (mp_arI E a9 0 10 f6), (mp_arI E a10 0 10 f7), (mp_arI E a11 0 10 f8), (mp_arI E a12 0 6 f9), (mp_arL E a13 20 f10), (mp_arI E a14 0 10 f11), (mp_ob2 a15 y7 y8 y9 y10 a16 a31 a32 a17 a33 y11 y12), (mp_arI E a16 0 432 f12), (mp_arI E a17 0 78 f13), (mp_ob9 a0 a18 a1 a19 a20 a15 a21 a22 a23 a24), (mp_ob0 a1 a2 y0 a12 a25 a26 a13 a14 a27), (mp_ob7 a2 y1 y2 y3 y4 y5 y6 a3 a4 a28 a5 a29 a6 a7 a8 a9 a10 a11 a30)]
    show mp_W E X 4 7 [(0, .ref a0), (1, .int x0), (2, .int x1), (3, .int x2)] [.int 1] w3_ 0 0
    refine mp_run mp_k_cX9_when_ok hF mp_tabX9_ok [mp_h (.ifCond .ne 6) [13]] (by decide +kernel) ?_
    refine And.intro (fun _ => ?_) (fun c_23 => absurd c_23 (by decide))
    show mp_W E X 4 13 [(0, .ref a0), (1, .int x0), (2, .int x1), (3, .int x2)] [] w3_ 0 0
    refine mp_run mp_k_cX9_when_ok hF mp_tabX9_ok [mp_i (.aload_n 0), mp_h (.getfield 39) [40, 15], mp_i (.aload_n 0), mp_h (.getfield 19) [37, 15], mp_i (.iload_n 1), mp_i (.iload_n 2), mp_i (.iload_n 3)] (by decide +kernel) ?_
    refine And.intro rfl (And.intro rfl ?_)
    refine And.intro rfl (And.intro rfl ?_)
    show mp_W E X 4 24 [(0, .ref a0), (1, .int x0), (2, .int x1), (3, .int x2)] [.int x2, .int x1, .int x0, .ref a1, .ref a15] w3_ 0 0
    refine mp_callV hF (As := [.ref a1, .int x0, .int x1, .int x2]) (rest := []) (wr := [(mp_ob9 a0 a18 a1 a19 a20 a15 a21 a22 a23 a24)]) (bX2_seekLove_126 E a15 a1 a16 a17 a2 a3 a4 a5 a6 a7 a8 a9 a10 a11 a12 a13 a14 a31 a32 a33 a25 a26 a27 a28 a29 a30 f12 f13 f0 f1 f2 f3 f4 f5 f6 f7 f8 f9 f10 f11 y7 y8 y9 y10 y11 y12 y0 y1 y2 y3 y4 y5 y6 x0 x1 x2 p0 p1 p2 p3 p4 p5 p6 (by (first | exact c_4 | omega)) (by (first | exact mp_o419 u_y5 c_5 | omega)) (by (first | exact c_7 | omega)) (by (first | exact c_8 | omega)) l_y7 u_y7 l_y8 u_y8 l_y9 u_y9 l_y0 u_y0 l_y2 u_y2 l_y3 u_y3 l_y4 u_y4 l_y5 u_y5 l_y6 u_y6 (by first | (first | exact c_9 | omega) | (show y0.toInt + x2.toInt ≤ 99; omega))) mp_lkX9_254 12 rfl [12, 13, 14, 16, 17, 0, 1, 2, 3, 4, 5, 6, 7, 8, 9, 10, 11] [15] rfl rfl rfl rfl rfl ⟨(Nat.le_of_ble_eq_true rfl), (Nat.le_of_ble_eq_true rfl), (Nat.le_of_ble_eq_true rfl), (Nat.le_of_ble_eq_true rfl)⟩ (Nat.le_of_ble_eq_true rfl) (by first | exact mp_fd_ok mp_k_cX9_when_ok (by decide +kernel) | decide +kernel) (fun v_24 w_25 h_26 => ?_)
    refine h_26.elim fun r_27 q_43 => q_43.elim fun r_28 q_44 => q_44.elim fun r_29 q_45 => q_45.elim fun r_30 q_46 => q_46.elim fun r_31 q_47 => q_47.elim fun g_32 q_48 => q_48.elim fun g_33 q_49 => q_49.elim fun g_34 q_50 => q_50.elim fun e_51 q_52 => q_52.elim fun l_35 q_53 => q_53.elim fun u_36 q_54 => q_54.elim fun l_37 q_55 => q_55.elim fun u_38 q_56 => q_56.elim fun l_39 q_57 => q_57.elim fun u_40 q_58 => q_58.elim fun l_41 q_59 => q_59.elim fun u_42 e_60 => ?_
    clear h_26 q_43 q_44 q_45 q_46 q_47 q_48 q_49 q_50 q_52 q_53 q_54 q_55 q_56 q_57 q_58 q_59
    subst e_51
    subst e_60
    let w4_ : va_W := [(mp_ob9 a0 a18 a1 a19 a20 a15 a21 a22 a23 a24), (mp_ob2 a15 r_27 r_28 r_29 y10 a16 a31 a32 a17 a33 r_30 r_31), (mp_arI E a16 0 432 g_32), (mp_arI E a17 0 78 g_33), (mp_ob0 a1 a2 y0 a12 a25 a26 a13 a14 a27), (mp_ob7 a2 y1 y2 y3 y4 y5 y6 a3 a4 a28 a5 a29 a6 a7 a8 a9 a10 a11 a30), (mp_arI E a3 0 36 f0), (mp_arL E a4 12 f1), (mp_arI E a5 0 6 f2), (mp_arI E a6 0 10 f3), (mp_arI E a7 0 10 f4), (mp_arI E a8 0 10 f5), (mp_arI E a9 0 10 f6), (mp_arI E a10 0 10 f7), (mp_arI E a11 0 10 f8), (mp_arI E a12 0 6 f9), (mp_arL E a13 20 f10), (mp_arI E a14 0 10 g_34)]
    show mp_W E X 4 27 [(0, .ref a0), (1, .int x0), (2, .int x1), (3, .int x2)] [] w4_ 0 0
    refine mp_run mp_k_cX9_when_ok hF mp_tabX9_ok [mp_i (.aload_n 0), mp_h (.getfield 39) [40, 0], mp_h (.getfield 261) [27, 1]] (by decide +kernel) ?_
    refine And.intro rfl (And.intro rfl ?_)
    refine And.intro rfl (And.intro rfl ?_)
    show mp_W E X 4 34 [(0, .ref a0), (1, .int x0), (2, .int x1), (3, .int x2)] [.int r_31] w4_ 0 0
    exact mp_iret hF hQ rfl rfl (Nat.le_of_ble_eq_true rfl) (Nat.le_of_ble_eq_true rfl) [0, 4, 5, 6, 7, 8, 9, 10, 11, 12, 13, 14, 15, 16, 17, 1, 2, 3] (w' := [(mp_ob9 a0 a18 a1 a19 a20 a15 a21 a22 a23 a24), (mp_ob0 a1 a2 y0 a12 a25 a26 a13 a14 a27), (mp_ob7 a2 y1 y2 y3 y4 y5 y6 a3 a4 a28 a5 a29 a6 a7 a8 a9 a10 a11 a30), (mp_arI E a3 0 36 f0), (mp_arL E a4 12 f1), (mp_arI E a5 0 6 f2), (mp_arI E a6 0 10 f3), (mp_arI E a7 0 10 f4), (mp_arI E a8 0 10 f5), (mp_arI E a9 0 10 f6), (mp_arI E a10 0 10 f7), (mp_arI E a11 0 10 f8), (mp_arI E a12 0 6 f9), (mp_arL E a13 20 f10), (mp_arI E a14 0 10 g_34), (mp_ob2 a15 r_27 r_28 r_29 y10 a16 a31 a32 a17 a33 r_30 r_31), (mp_arI E a16 0 432 g_32), (mp_arI E a17 0 78 g_33)]) rfl rfl ⟨g_34, r_27, r_28, r_29, r_30, r_31, g_32, g_33, r_31, rfl, l_35, u_36, l_37, u_38, l_39, u_40, (by (first | exact mp_o446 l_41 | omega)), u_42, rfl⟩ (by first | exact mp_fd_ok mp_k_cX9_when_ok (by decide +kernel) | decide +kernel)
set_option maxHeartbeats 4000000 in
set_option maxRecDepth 100000 in
theorem bX0_standsAlone_129 (E : mp_E) (a0 a1 a2 a3 a4 a5 a6 a7 a8 a9 a10 a11 a12 a13 a14 a15 a16 a17 a18 a19 : Nat) (f0 : Nat → Int32) (y0 : Int32) (y1 : Int32) (y2 : Int32) (y3 : Int32) (y4 : Int32) (y5 : Int32) (y6 : Int32) (x0 : Int32) (p0 : mp_all f0 10 (-1) 9) (l_x0 : 0 ≤ x0.toInt) (u_x0 : x0.toInt ≤ 9) (l_y0 : 0 ≤ y0.toInt) (u_y0 : y0.toInt ≤ 99) (l_y2 : 0 ≤ y2.toInt) (u_y2 : y2.toInt ≤ 6) (l_y3 : 0 ≤ y3.toInt) (u_y3 : y3.toInt ≤ 99) (l_y4 : 0 ≤ y4.toInt) (u_y4 : y4.toInt ≤ 6) (l_y5 : 0 ≤ y5.toInt) (u_y5 : y5.toInt ≤ 10) (l_y6 : 0 ≤ y6.toInt) (u_y6 : y6.toInt ≤ 60) : mp_Ct E yX0_standsAlone cX0_standsAlone 3 (some FieldType.boolean) 0 0 0 0 [.ref a0, .int x0] [(mp_ob0 a0 a1 y0 a3 a4 a5 a6 a7 a8), (mp_ob7 a1 y1 y2 y3 y4 y5 y6 a9 a10 a11 a12 a13 a14 a15 a16 a17 a18 a2 a19), (mp_arI E a2 0 10 f0)] (fun v w' => (v = some (.int 1) ∧ w' = [(mp_ob0 a0 a1 y0 a3 a4 a5 a6 a7 a8), (mp_ob7 a1 y1 y2 y3 y4 y5 y6 a9 a10 a11 a12 a13 a14 a15 a16 a17 a18 a2 a19), (mp_arI E a2 0 10 f0)]) ∨ (v = some (.int 0) ∧ w' = [(mp_ob0 a0 a1 y0 a3 a4 a5 a6 a7 a8), (mp_ob7 a1 y1 y2 y3 y4 y5 y6 a9 a10 a11 a12 a13 a14 a15 a16 a17 a18 a2 a19), (mp_arI E a2 0 10 f0)])) := by
  refine mp_met false (by decide) (by decide) (Nat.le_of_ble_eq_true rfl) (fun X hF hQ => ?_)
  have hF : mp_F E X (RX0, cX0_standsAlone, 3, (0, 0, 0, 0), (some FieldType.boolean), false) := hF
  let w1_ : va_W := [(mp_ob0 a0 a1 y0 a3 a4 a5 a6 a7 a8), (mp_ob7 a1 y1 y2 y3 y4 y5 y6 a9 a10 a11 a12 a13 a14 a15 a16 a17 a18 a2 a19), (mp_arI E a2 0 10 f0)]
  show mp_W E X 3 0 [(0, .ref a0), (1, .int x0)] [] w1_ 0 0
  refine mp_run mp_k_cX0_standsAlone_ok hF mp_tabX0_ok [mp_i (.aload_n 0), mp_h (.getfield 12) [11, 0], mp_h (.getfield 118) [9, 1], mp_i (.iload_n 1), mp_h .iaload [2], mp_c (.iconst (-1)) (-1), mp_h (.if_icmp .eq 5) [15]] (by decide +kernel) ?_
  refine And.intro rfl (And.intro rfl ?_)
  refine And.intro rfl (And.intro rfl ?_)
  refine And.intro rfl (And.intro rfl (And.intro (vp_in_iff.mpr (by (first | exact mp_o181 l_x0 u_x0 | omega))) ?_))
  intro z_1 h_2
  have e_3 : (-1) ≤ z_1.toInt ∧ z_1.toInt ≤ 9 := mp_all_ld h_2 p0 (by (first | exact l_x0 | omega)) (by (first | exact mp_o208 u_x0 | omega))
  refine And.intro (fun c_4 => ?_) (fun c_4 => ?_)
  · have c_4 : z_1.toInt = (-1) := (congrArg Int32.toInt c_4)
    show mp_W E X 3 15 [(0, .ref a0), (1, .int x0)] [] w1_ 0 0
    refine mp_run mp_k_cX0_standsAlone_ok hF mp_tabX0_ok [mp_c (.iconst 0) 0, mp_i (.istore_n 2)] (by decide +kernel) ?_
    show mp_W E X 3 17 [(2, .int 0), (0, .ref a0), (1, .int x0)] [] w1_ 0 0
    have lp_8 : ∀ (d_9 : Nat) (i_5 : Int32), 0 ≤ i_5.toInt → i_5.toInt ≤ 10 → y5.toInt - i_5.toInt ≤ (d_9 : Int) → mp_W E X 3 17 [(2, .int i_5), (0, .ref a0), (1, .int x0)] [] [(mp_ob0 a0 a1 y0 a3 a4 a5 a6 a7 a8), (mp_ob7 a1 y1 y2 y3 y4 y5 y6 a9 a10 a11 a12 a13 a14 a15 a16 a17 a18 a2 a19), (mp_arI E a2 0 10 f0)] 0 0 := by
      intro d_9
      induction d_9 using Nat.strongRecOn with
      | ind d_9 ih_10 =>
        intro i_5 l_6 u_7 hm_11
        refine mp_run mp_k_cX0_standsAlone_ok hF mp_tabX0_ok [mp_i (.iload_n 2), mp_i (.aload_n 0), mp_h (.getfield 12) [11, 0], mp_h (.getfield 83) [2, 1], mp_h (.if_icmp .ge 24) [49]] (by decide +kernel) ?_
        refine And.intro rfl (And.intro rfl ?_)
        refine And.intro rfl (And.intro rfl ?_)
        refine And.intro (fun c_12 => ?_) (fun c_12 => ?_)
        · have c_12 : y5.toInt ≤ i_5.toInt := c_12
          show mp_W E X 3 49 [(2, .int i_5), (0, .ref a0), (1, .int x0)] [] w1_ 0 0
          refine mp_run mp_k_cX0_standsAlone_ok hF mp_tabX0_ok [mp_c (.iconst 1) 1] (by decide +kernel) ?_
          show mp_W E X 3 50 [(2, .int i_5), (0, .ref a0), (1, .int x0)] [.int 1] w1_ 0 0
          exact mp_iret hF hQ rfl (by decide) (Nat.le_of_ble_eq_true rfl) (Nat.le_of_ble_eq_true rfl) [0, 1, 2] (w' := w1_) rfl rfl (Or.inl ⟨rfl, rfl⟩) (by first | exact mp_fd_ok mp_k_cX0_standsAlone_ok (by decide +kernel) | decide +kernel)
        · have c_12 : i_5.toInt < y5.toInt := c_12
          show mp_W E X 3 28 [(2, .int i_5), (0, .ref a0), (1, .int x0)] [] w1_ 0 0
          refine mp_run mp_k_cX0_standsAlone_ok hF mp_tabX0_ok [mp_i (.aload_n 0), mp_h (.getfield 12) [11, 0], mp_h (.getfield 118) [9, 1], mp_i (.iload_n 2), mp_h .iaload [2], mp_i (.iload_n 1), mp_h (.if_icmp .ne 5) [43]] (by decide +kernel) ?_
          refine And.intro rfl (And.intro rfl ?_)
          refine And.intro rfl (And.intro rfl ?_)
          refine And.intro rfl (And.intro rfl (And.intro (vp_in_iff.mpr (by (first | exact mp_o381 l_6 u_y5 c_12 | omega))) ?_))
          intro z_13 h_14
          have e_15 : (-1) ≤ z_13.toInt ∧ z_13.toInt ≤ 9 := mp_all_ld h_14 p0 (by (first | exact l_6 | omega)) (by (first | exact mp_o382 u_y5 c_12 | omega))
          refine And.intro (fun c_16 => ?_) (fun c_16 => ?_)
          · have c_16 : z_13.toInt ≠ x0.toInt := c_16
            show mp_W E X 3 43 [(2, .int i_5), (0, .ref a0), (1, .int x0)] [] w1_ 0 0
            refine mp_run mp_k_cX0_standsAlone_ok hF mp_tabX0_ok [mp_c (.iinc 2 1) 1, mp_h (.goto (-29)) [17]] (by decide +kernel) ?_
            intro z_17 h_18
            have e_19 : z_17.toInt = i_5.toInt + 1 := mp_add (a := i_5.toInt) (b := 1) h_18 rfl (by decide) (by (first | exact mp_o2 l_6 | omega)) (by (first | exact mp_o420 u_7 | omega))
            show mp_W E X 3 17 [(2, .int z_17), (0, .ref a0), (1, .int x0)] [] w1_ 0 0
            exact mp_sub [0, 1, 2] rfl [0, 1, 2] rfl rfl (ih_10 (d_9 - 1) (by (first | exact mp_o72 hm_11 c_12 | omega)) z_17 (by (first | exact mp_o51 l_6 e_19 | omega)) (by (first | exact mp_o421 u_y5 c_12 e_19 | omega)) (by (first | exact mp_o77 hm_11 e_19 | omega)))
          · have c_16 : z_13.toInt = x0.toInt := (congrArg Int32.toInt c_16)
            show mp_W E X 3 41 [(2, .int i_5), (0, .ref a0), (1, .int x0)] [] w1_ 0 0
            refine mp_run mp_k_cX0_standsAlone_ok hF mp_tabX0_ok [mp_c (.iconst 0) 0] (by decide +kernel) ?_
            show mp_W E X 3 42 [(2, .int i_5), (0, .ref a0), (1, .int x0)] [.int 0] w1_ 0 0
            exact mp_iret hF hQ rfl (by decide) (Nat.le_of_ble_eq_true rfl) (Nat.le_of_ble_eq_true rfl) [0, 1, 2] (w' := w1_) rfl rfl (Or.inr ⟨rfl, rfl⟩) (by first | exact mp_fd_ok mp_k_cX0_standsAlone_ok (by decide +kernel) | decide +kernel)
    exact mp_sub [0, 1, 2] rfl [0, 1, 2] rfl rfl (lp_8 _ 0 (by decide) (by decide) (Int.self_le_toNat _))
  · have c_4 : z_1.toInt ≠ (-1) := c_4
    show mp_W E X 3 13 [(0, .ref a0), (1, .int x0)] [] w1_ 0 0
    refine mp_run mp_k_cX0_standsAlone_ok hF mp_tabX0_ok [mp_c (.iconst 0) 0] (by decide +kernel) ?_
    show mp_W E X 3 14 [(0, .ref a0), (1, .int x0)] [.int 0] w1_ 0 0
    exact mp_iret hF hQ rfl (by decide) (Nat.le_of_ble_eq_true rfl) (Nat.le_of_ble_eq_true rfl) [0, 1, 2] (w' := w1_) rfl rfl (Or.inr ⟨rfl, rfl⟩) (by first | exact mp_fd_ok mp_k_cX0_standsAlone_ok (by decide +kernel) | decide +kernel)
set_option maxHeartbeats 4000000 in
set_option maxRecDepth 100000 in
theorem bX0_gainByJoin_130 (E : mp_E) (a0 a1 a2 a3 a4 a5 a6 a7 a8 a9 a10 a11 a12 a13 a14 a15 a16 a17 a18 a19 : Nat) (f0 : Nat → Int32) (f1 : Nat → Int32) (f2 : Nat → Int32) (f3 : Nat → Int32) (f4 : Nat → Int32) (f5 : Nat → Int32) (f6 : Nat → Int32) (f7 : Nat → Int64) (f8 : Nat → Int32) (y0 : Int32) (y1 : Int32) (y2 : Int32) (y3 : Int32) (y4 : Int32) (y5 : Int32) (y6 : Int32) (x0 : Int32) (x1 : Int32) (p0 : mp_all f1 10 0 5) (p1 : mp_all f2 10 0 5) (p2 : mp_all f4 10 0 99) (p3 : mp_all f5 10 0 1) (p4 : mp_all f6 10 (-1) 9) (l_x0 : 0 ≤ x0.toInt) (u_x0 : x0.toInt ≤ 9) (l_x1 : 0 ≤ x1.toInt) (u_x1 : x1.toInt ≤ 9) (l_y0 : 0 ≤ y0.toInt) (u_y0 : y0.toInt ≤ 99) (l_y2 : 0 ≤ y2.toInt) (u_y2 : y2.toInt ≤ 6) (l_y3 : 0 ≤ y3.toInt) (u_y3 : y3.toInt ≤ 99) (l_y4 : 0 ≤ y4.toInt) (u_y4 : y4.toInt ≤ 6) (l_y5 : 0 ≤ y5.toInt) (u_y5 : y5.toInt ≤ 10) (l_y6 : 0 ≤ y6.toInt) (u_y6 : y6.toInt ≤ 60) : mp_Ct E yX0_gainByJoin cX0_gainByJoin 6 (some FieldType.int) 3 0 0 62 [.ref a0, .int x0, .int x1] [(mp_ob0 a0 a1 y0 a11 a12 a13 a9 a10 a14), (mp_ob7 a1 y1 y2 y3 y4 y5 y6 a15 a16 a17 a2 a18 a3 a4 a5 a6 a7 a8 a19), (mp_arI E a2 0 6 f0), (mp_arI E a3 0 10 f1), (mp_arI E a4 0 10 f2), (mp_arI E a5 0 10 f3), (mp_arI E a6 0 10 f4), (mp_arI E a7 0 10 f5), (mp_arI E a8 0 10 f6), (mp_arL E a9 20 f7), (mp_arI E a10 0 10 f8)] (fun v w' => ∃ h1 : Nat → Int32, ∃ r2 : Int32, v = some (.int r2) ∧ w' = [(mp_ob0 a0 a1 y0 a11 a12 a13 a9 a10 a14), (mp_ob7 a1 y1 y2 y3 y4 y5 y6 a15 a16 a17 a2 a18 a3 a4 a5 a6 a7 a8 a19), (mp_arI E a2 0 6 f0), (mp_arI E a3 0 10 f1), (mp_arI E a4 0 10 f2), (mp_arI E a5 0 10 f3), (mp_arI E a6 0 10 f4), (mp_arI E a7 0 10 f5), (mp_arI E a8 0 10 f6), (mp_arL E a9 20 f7), (mp_arI E a10 0 10 h1)]) := by
  refine mp_met false (by decide) (by decide) (Nat.le_of_ble_eq_true rfl) (fun X hF hQ => ?_)
  have hF : mp_F E X (RX0, cX0_gainByJoin, 6, (3, 0, 0, 62), (some FieldType.int), false) := hF
  let w1_ : va_W := [(mp_ob0 a0 a1 y0 a11 a12 a13 a9 a10 a14), (mp_ob7 a1 y1 y2 y3 y4 y5 y6 a15 a16 a17 a2 a18 a3 a4 a5 a6 a7 a8 a19), (mp_arI E a2 0 6 f0), (mp_arI E a3 0 10 f1), (mp_arI E a4 0 10 f2), (mp_arI E a5 0 10 f3), (mp_arI E a6 0 10 f4), (mp_arI E a7 0 10 f5), (mp_arI E a8 0 10 f6), (mp_arL E a9 20 f7), (mp_arI E a10 0 10 f8)]
  show mp_W E X 6 0 [(0, .ref a0), (1, .int x0), (2, .int x1)] [] w1_ 0 0
  refine mp_run mp_k_cX0_gainByJoin_ok hF mp_tabX0_ok [mp_i (.aload_n 0), mp_h (.getfield 12) [11, 0], mp_h (.getfield 73) [5, 1], mp_i (.iload_n 1), mp_h .iaload [3], mp_i (.aload_n 0), mp_h (.getfield 12) [11, 0], mp_h (.getfield 73) [5, 1], mp_i (.iload_n 2), mp_h .iaload [3], mp_h (.if_icmp .ne 40) [58]] (by decide +kernel) ?_
  refine And.intro rfl (And.intro rfl ?_)
  refine And.intro rfl (And.intro rfl ?_)
  refine And.intro rfl (And.intro rfl (And.intro (vp_in_iff.mpr (by omega)) ?_))
  intro z_1 h_2
  have e_3 : 0 ≤ z_1.toInt ∧ z_1.toInt ≤ 5 := mp_all_ld h_2 p0 (by omega) (by omega)
  refine And.intro rfl (And.intro rfl ?_)
  refine And.intro rfl (And.intro rfl ?_)
  refine And.intro rfl (And.intro rfl (And.intro (vp_in_iff.mpr (by omega)) ?_))
  intro z_4 h_5
  have e_6 : 0 ≤ z_4.toInt ∧ z_4.toInt ≤ 5 := mp_all_ld h_5 p0 (by omega) (by omega)
  refine And.intro (fun c_7 => ?_) (fun c_7 => ?_)
  · have c_7 : z_1.toInt ≠ z_4.toInt := c_7
    show mp_W E X 6 58 [(0, .ref a0), (1, .int x0), (2, .int x1)] [] w1_ 0 0
    refine mp_run mp_k_cX0_gainByJoin_ok hF mp_tabX0_ok [mp_c (.bipush (-5)) (-5)] (by decide +kernel) ?_
    show mp_W E X 6 60 [(0, .ref a0), (1, .int x0), (2, .int x1)] [.int (-5)] w1_ 0 0
    exact mp_iret hF hQ rfl rfl (Nat.le_of_ble_eq_true rfl) (Nat.le_of_ble_eq_true rfl) [0, 1, 2, 3, 4, 5, 6, 7, 8, 9, 10] (w' := w1_) rfl rfl ⟨f8, (-5), rfl, rfl⟩ (by first | exact mp_fd_ok mp_k_cX0_gainByJoin_ok (by decide +kernel) | decide +kernel)
  · have c_7 : z_1.toInt = z_4.toInt := (congrArg Int32.toInt c_7)
    show mp_W E X 6 21 [(0, .ref a0), (1, .int x0), (2, .int x1)] [] w1_ 0 0
    refine mp_run mp_k_cX0_gainByJoin_ok hF mp_tabX0_ok [mp_i (.aload_n 0), mp_h (.getfield 12) [11, 0], mp_h (.getfield 76) [6, 1], mp_i (.iload_n 1), mp_h .iaload [4], mp_i (.aload_n 0), mp_h (.getfield 12) [11, 0], mp_h (.getfield 76) [6, 1], mp_i (.iload_n 2), mp_h .iaload [4], mp_h (.if_icmp .ne 19) [58]] (by decide +kernel) ?_
    refine And.intro rfl (And.intro rfl ?_)
    refine And.intro rfl (And.intro rfl ?_)
    refine And.intro rfl (And.intro rfl (And.intro (vp_in_iff.mpr (by omega)) ?_))
    intro z_8 h_9
    have e_10 : 0 ≤ z_8.toInt ∧ z_8.toInt ≤ 5 := mp_all_ld h_9 p1 (by omega) (by omega)
    refine And.intro rfl (And.intro rfl ?_)
    refine And.intro rfl (And.intro rfl ?_)
    refine And.intro rfl (And.intro rfl (And.intro (vp_in_iff.mpr (by omega)) ?_))
    intro z_11 h_12
    have e_13 : 0 ≤ z_11.toInt ∧ z_11.toInt ≤ 5 := mp_all_ld h_12 p1 (by omega) (by omega)
    refine And.intro (fun c_14 => ?_) (fun c_14 => ?_)
    · have c_14 : z_8.toInt ≠ z_11.toInt := c_14
      show mp_W E X 6 58 [(0, .ref a0), (1, .int x0), (2, .int x1)] [] w1_ 0 0
      refine mp_run mp_k_cX0_gainByJoin_ok hF mp_tabX0_ok [mp_c (.bipush (-5)) (-5)] (by decide +kernel) ?_
      show mp_W E X 6 60 [(0, .ref a0), (1, .int x0), (2, .int x1)] [.int (-5)] w1_ 0 0
      exact mp_iret hF hQ rfl rfl (Nat.le_of_ble_eq_true rfl) (Nat.le_of_ble_eq_true rfl) [0, 1, 2, 3, 4, 5, 6, 7, 8, 9, 10] (w' := w1_) rfl rfl ⟨f8, (-5), rfl, rfl⟩ (by first | exact mp_fd_ok mp_k_cX0_gainByJoin_ok (by decide +kernel) | decide +kernel)
    · have c_14 : z_8.toInt = z_11.toInt := (congrArg Int32.toInt c_14)
      show mp_W E X 6 42 [(0, .ref a0), (1, .int x0), (2, .int x1)] [] w1_ 0 0
      refine mp_run mp_k_cX0_gainByJoin_ok hF mp_tabX0_ok [mp_i (.aload_n 0), mp_i (.iload_n 1)] (by decide +kernel) ?_
      show mp_W E X 6 44 [(0, .ref a0), (1, .int x0), (2, .int x1)] [.int x0, .ref a0] w1_ 0 0
      refine mp_callV hF (As := [.int x0]) (rest := []) (wr := [(mp_arI E a2 0 6 f0), (mp_arI E a3 0 10 f1), (mp_arI E a4 0 10 f2), (mp_arI E a5 0 10 f3), (mp_arI E a6 0 10 f4), (mp_arI E a7 0 10 f5), (mp_arL E a9 20 f7), (mp_arI E a10 0 10 f8)]) (bX0_standsAlone_129 E a0 a1 a8 a11 a12 a13 a9 a10 a14 a15 a16 a17 a2 a18 a3 a4 a5 a6 a7 a19 f6 y0 y1 y2 y3 y4 y5 y6 x0 p4 l_x0 u_x0 l_y0 u_y0 l_y2 u_y2 l_y3 u_y3 l_y4 u_y4 l_y5 u_y5 l_y6 u_y6) mp_lkX0_105 0 rfl [0, 1, 8] [2, 3, 4, 5, 6, 7, 9, 10] rfl rfl rfl rfl rfl ⟨(Nat.le_of_ble_eq_true rfl), (Nat.le_of_ble_eq_true rfl), (Nat.le_of_ble_eq_true rfl), (Nat.le_of_ble_eq_true rfl)⟩ (Nat.le_of_ble_eq_true rfl) (by first | exact mp_fd_ok mp_k_cX0_gainByJoin_ok (by decide +kernel) | decide +kernel) (fun v_15 w_16 h_17 => ?_)
      rcases h_17 with ⟨rfl, rfl⟩ | ⟨rfl, rfl⟩
      · skip
        let w2_ : va_W := [(mp_arI E a2 0 6 f0), (mp_arI E a3 0 10 f1), (mp_arI E a4 0 10 f2), (mp_arI E a5 0 10 f3), (mp_arI E a6 0 10 f4), (mp_arI E a7 0 10 f5), (mp_arL E a9 20 f7), (mp_arI E a10 0 10 f8), (mp_ob0 a0 a1 y0 a11 a12 a13 a9 a10 a14), (mp_ob7 a1 y1 y2 y3 y4 y5 y6 a15 a16 a17 a2 a18 a3 a4 a5 a6 a7 a8 a19), (mp_arI E a8 0 10 f6)]
        show mp_W E X 6 47 [(0, .ref a0), (1, .int x0), (2, .int x1)] [.int 1] w2_ 0 0
        refine mp_run mp_k_cX0_gainByJoin_ok hF mp_tabX0_ok [mp_h (.ifCond .eq 11) [58]] (by decide +kernel) ?_
        refine And.intro (fun c_18 => absurd c_18 (by decide)) (fun _ => ?_)
        show mp_W E X 6 50 [(0, .ref a0), (1, .int x0), (2, .int x1)] [] w2_ 0 0
        refine mp_run mp_k_cX0_gainByJoin_ok hF mp_tabX0_ok [mp_i (.aload_n 0), mp_i (.iload_n 2)] (by decide +kernel) ?_
        show mp_W E X 6 52 [(0, .ref a0), (1, .int x0), (2, .int x1)] [.int x1, .ref a0] w2_ 0 0
        refine mp_callV hF (As := [.int x1]) (rest := []) (wr := [(mp_arI E a2 0 6 f0), (mp_arI E a3 0 10 f1), (mp_arI E a4 0 10 f2), (mp_arI E a5 0 10 f3), (mp_arI E a6 0 10 f4), (mp_arI E a7 0 10 f5), (mp_arL E a9 20 f7), (mp_arI E a10 0 10 f8)]) (bX0_standsAlone_129 E a0 a1 a8 a11 a12 a13 a9 a10 a14 a15 a16 a17 a2 a18 a3 a4 a5 a6 a7 a19 f6 y0 y1 y2 y3 y4 y5 y6 x1 p4 l_x1 u_x1 l_y0 u_y0 l_y2 u_y2 l_y3 u_y3 l_y4 u_y4 l_y5 u_y5 l_y6 u_y6) mp_lkX0_105 8 rfl [8, 9, 10] [0, 1, 2, 3, 4, 5, 6, 7] rfl rfl rfl rfl rfl ⟨(Nat.le_of_ble_eq_true rfl), (Nat.le_of_ble_eq_true rfl), (Nat.le_of_ble_eq_true rfl), (Nat.le_of_ble_eq_true rfl)⟩ (Nat.le_of_ble_eq_true rfl) (by first | exact mp_fd_ok mp_k_cX0_gainByJoin_ok (by decide +kernel) | decide +kernel) (fun v_19 w_20 h_21 => ?_)
        rcases h_21 with ⟨rfl, rfl⟩ | ⟨rfl, rfl⟩
        · skip
          show mp_W E X 6 55 [(0, .ref a0), (1, .int x0), (2, .int x1)] [.int 1] w2_ 0 0
          refine mp_run mp_k_cX0_gainByJoin_ok hF mp_tabX0_ok [mp_h (.ifCond .ne 6) [61]] (by decide +kernel) ?_
          refine And.intro (fun _ => ?_) (fun c_22 => absurd c_22 (by decide))
          show mp_W E X 6 61 [(0, .ref a0), (1, .int x0), (2, .int x1)] [] w2_ 0 0
          refine mp_run mp_k_cX0_gainByJoin_ok hF mp_tabX0_ok [mp_i (.aload_n 0), mp_i (.aload_n 0), mp_h (.getfield 42) [12, 8]] (by decide +kernel) ?_
          refine And.intro rfl (And.intro rfl ?_)
          show mp_W E X 6 66 [(0, .ref a0), (1, .int x0), (2, .int x1)] [.int y0, .ref a0] w2_ 0 0
          refine mp_callV hF (As := [.int y0]) (rest := []) (wr := [(mp_arI E a2 0 6 f0), (mp_arI E a3 0 10 f1), (mp_arI E a4 0 10 f2), (mp_arI E a5 0 10 f3), (mp_arI E a7 0 10 f5), (mp_arI E a8 0 10 f6)]) (bX0_lastsAt_61 E a0 a1 a6 a9 a10 a11 a12 a13 a14 a15 a16 a17 a2 a18 a3 a4 a5 a7 a8 a19 f4 f7 f8 y0 y1 y2 y3 y4 y5 y6 y0 p2 l_y0 u_y0 l_y2 u_y2 l_y3 u_y3 l_y4 u_y4 l_y5 u_y5 l_y6 u_y6) mp_lkX0_97 8 rfl [8, 9, 4, 6, 7] [0, 1, 2, 3, 5, 10] rfl rfl rfl rfl rfl ⟨(Nat.le_of_ble_eq_true rfl), (Nat.le_of_ble_eq_true rfl), (Nat.le_of_ble_eq_true rfl), (Nat.le_of_ble_eq_true rfl)⟩ (Nat.le_of_ble_eq_true rfl) (by first | exact mp_fd_ok mp_k_cX0_gainByJoin_ok (by decide +kernel) | decide +kernel) (fun v_23 w_24 h_25 => ?_)
          obtain ⟨g_26, rfl, rfl⟩ := h_25
          let w3_ : va_W := [(mp_arI E a2 0 6 f0), (mp_arI E a3 0 10 f1), (mp_arI E a4 0 10 f2), (mp_arI E a5 0 10 f3), (mp_arI E a7 0 10 f5), (mp_arI E a8 0 10 f6), (mp_ob0 a0 a1 y0 a11 a12 a13 a9 a10 a14), (mp_ob7 a1 y1 y2 y3 y4 y5 y6 a15 a16 a17 a2 a18 a3 a4 a5 a6 a7 a8 a19), (mp_arI E a6 0 10 f4), (mp_arL E a9 20 f7), (mp_arI E a10 0 10 g_26)]
          show mp_W E X 6 69 [(0, .ref a0), (1, .int x0), (2, .int x1)] [.ref a10] w3_ 0 0
          refine mp_run mp_k_cX0_gainByJoin_ok hF mp_tabX0_ok [mp_i .pop, mp_i (.aload_n 0), mp_h (.getfield 12) [11, 6], mp_i (.aload_n 0), mp_h (.getfield 32) [17, 6], mp_i (.iload_n 1), mp_i (.aload_n 0), mp_h (.getfield 42) [12, 6]] (by decide +kernel) ?_
          refine And.intro rfl ?_
          refine And.intro rfl (And.intro rfl ?_)
          refine And.intro rfl (And.intro rfl ?_)
          refine And.intro rfl (And.intro rfl ?_)
          show mp_W E X 6 83 [(0, .ref a0), (1, .int x0), (2, .int x1)] [.int y0, .int x0, .ref a10, .ref a1] w3_ 0 0
          refine mp_callV hF (As := [.ref a10, .int x0, .int y0]) (rest := []) (wr := [(mp_arI E a4 0 10 f2), (mp_arI E a5 0 10 f3), (mp_ob0 a0 a1 y0 a11 a12 a13 a9 a10 a14), (mp_arL E a9 20 f7)]) (bX7_halvingsBy_63 E a1 a10 a2 a3 a6 a7 a8 a15 a16 a17 a18 a4 a5 a19 f0 f1 f4 f5 f6 g_26 y1 y2 y3 y4 y5 y6 x0 y0 p0 p2 p3 p4 l_x0 u_x0 l_y2 u_y2 l_y3 u_y3 l_y4 u_y4 l_y5 u_y5 l_y6 u_y6) mp_lkX0_109 7 rfl [7, 0, 1, 8, 4, 5, 10] [2, 3, 6, 9] rfl rfl rfl rfl rfl ⟨(Nat.le_of_ble_eq_true rfl), (Nat.le_of_ble_eq_true rfl), (Nat.le_of_ble_eq_true rfl), (Nat.le_of_ble_eq_true rfl)⟩ (Nat.le_of_ble_eq_true rfl) (by first | exact mp_fd_ok mp_k_cX0_gainByJoin_ok (by decide +kernel) | decide +kernel) (fun v_27 w_28 h_29 => ?_)
          obtain ⟨r_30, rfl, rfl⟩ := h_29
          let w4_ : va_W := [(mp_arI E a4 0 10 f2), (mp_arI E a5 0 10 f3), (mp_ob0 a0 a1 y0 a11 a12 a13 a9 a10 a14), (mp_arL E a9 20 f7), (mp_ob7 a1 y1 y2 y3 y4 y5 y6 a15 a16 a17 a2 a18 a3 a4 a5 a6 a7 a8 a19), (mp_arI E a2 0 6 f0), (mp_arI E a3 0 10 f1), (mp_arI E a6 0 10 f4), (mp_arI E a7 0 10 f5), (mp_arI E a8 0 10 f6), (mp_arI E a10 0 10 g_26)]
          show mp_W E X 6 86 [(0, .ref a0), (1, .int x0), (2, .int x1)] [.int r_30] w4_ 0 0
          refine mp_run mp_k_cX0_gainByJoin_ok hF mp_tabX0_ok [mp_i (.istore_n 3), mp_i (.iload_n 3), mp_i (.aload_n 0), mp_h (.getfield 12) [11, 2], mp_i (.aload_n 0), mp_h (.getfield 32) [17, 2], mp_i (.iload_n 2), mp_i (.aload_n 0), mp_h (.getfield 42) [12, 2]] (by decide +kernel) ?_
          refine And.intro rfl (And.intro rfl ?_)
          refine And.intro rfl (And.intro rfl ?_)
          refine And.intro rfl (And.intro rfl ?_)
          show mp_W E X 6 101 [(3, .int r_30), (0, .ref a0), (1, .int x0), (2, .int x1)] [.int y0, .int x1, .ref a10, .ref a1, .int r_30] w4_ 0 0
          refine mp_callV hF (As := [.ref a10, .int x1, .int y0]) (rest := [.int r_30]) (wr := [(mp_arI E a4 0 10 f2), (mp_arI E a5 0 10 f3), (mp_ob0 a0 a1 y0 a11 a12 a13 a9 a10 a14), (mp_arL E a9 20 f7)]) (bX7_halvingsBy_63 E a1 a10 a2 a3 a6 a7 a8 a15 a16 a17 a18 a4 a5 a19 f0 f1 f4 f5 f6 g_26 y1 y2 y3 y4 y5 y6 x1 y0 p0 p2 p3 p4 l_x1 u_x1 l_y2 u_y2 l_y3 u_y3 l_y4 u_y4 l_y5 u_y5 l_y6 u_y6) mp_lkX0_109 4 rfl [4, 5, 6, 7, 8, 9, 10] [0, 1, 2, 3] rfl rfl rfl rfl rfl ⟨(Nat.le_of_ble_eq_true rfl), (Nat.le_of_ble_eq_true rfl), (Nat.le_of_ble_eq_true rfl), (Nat.le_of_ble_eq_true rfl)⟩ (Nat.le_of_ble_eq_true rfl) (by first | exact mp_fd_ok mp_k_cX0_gainByJoin_ok (by decide +kernel) | decide +kernel) (fun v_31 w_32 h_33 => ?_)
          obtain ⟨r_34, rfl, rfl⟩ := h_33
          show mp_W E X 6 104 [(3, .int r_30), (0, .ref a0), (1, .int x0), (2, .int x1)] [.int r_34, .int r_30] w4_ 0 0
          refine mp_run mp_k_cX0_gainByJoin_ok hF mp_tabX0_ok [mp_h (.if_icmp .ne 14) [118]] (by decide +kernel) ?_
          refine And.intro (fun c_35 => ?_) (fun c_35 => ?_)
          · have c_35 : r_30.toInt ≠ r_34.toInt := c_35
            show mp_W E X 6 118 [(3, .int r_30), (0, .ref a0), (1, .int x0), (2, .int x1)] [] w4_ 0 0
            refine mp_run mp_k_cX0_gainByJoin_ok hF mp_tabX0_ok [mp_c (.bipush (-5)) (-5)] (by decide +kernel) ?_
            show mp_W E X 6 120 [(3, .int r_30), (0, .ref a0), (1, .int x0), (2, .int x1)] [.int (-5)] w4_ 0 0
            exact mp_iret hF hQ rfl rfl (Nat.le_of_ble_eq_true rfl) (Nat.le_of_ble_eq_true rfl) [2, 4, 5, 6, 0, 1, 7, 8, 9, 3, 10] (w' := [(mp_ob0 a0 a1 y0 a11 a12 a13 a9 a10 a14), (mp_ob7 a1 y1 y2 y3 y4 y5 y6 a15 a16 a17 a2 a18 a3 a4 a5 a6 a7 a8 a19), (mp_arI E a2 0 6 f0), (mp_arI E a3 0 10 f1), (mp_arI E a4 0 10 f2), (mp_arI E a5 0 10 f3), (mp_arI E a6 0 10 f4), (mp_arI E a7 0 10 f5), (mp_arI E a8 0 10 f6), (mp_arL E a9 20 f7), (mp_arI E a10 0 10 g_26)]) rfl rfl ⟨g_26, (-5), rfl, rfl⟩ (by first | exact mp_fd_ok mp_k_cX0_gainByJoin_ok (by decide +kernel) | decide +kernel)
          · have c_35 : r_30.toInt = r_34.toInt := (congrArg Int32.toInt c_35)
            show mp_W E X 6 107 [(3, .int r_30), (0, .ref a0), (1, .int x0), (2, .int x1)] [] w4_ 0 0
            refine mp_run mp_k_cX0_gainByJoin_ok hF mp_tabX0_ok [mp_i (.iload_n 3), mp_c (.iconst 1) 1, mp_h (.if_icmp .lt 9) [118]] (by decide +kernel) ?_
            refine And.intro (fun c_36 => ?_) (fun c_36 => ?_)
            · have c_36 : r_30.toInt < 1 := c_36
              show mp_W E X 6 118 [(3, .int r_30), (0, .ref a0), (1, .int x0), (2, .int x1)] [] w4_ 0 0
              refine mp_run mp_k_cX0_gainByJoin_ok hF mp_tabX0_ok [mp_c (.bipush (-5)) (-5)] (by decide +kernel) ?_
              show mp_W E X 6 120 [(3, .int r_30), (0, .ref a0), (1, .int x0), (2, .int x1)] [.int (-5)] w4_ 0 0
              exact mp_iret hF hQ rfl rfl (Nat.le_of_ble_eq_true rfl) (Nat.le_of_ble_eq_true rfl) [2, 4, 5, 6, 0, 1, 7, 8, 9, 3, 10] (w' := [(mp_ob0 a0 a1 y0 a11 a12 a13 a9 a10 a14), (mp_ob7 a1 y1 y2 y3 y4 y5 y6 a15 a16 a17 a2 a18 a3 a4 a5 a6 a7 a8 a19), (mp_arI E a2 0 6 f0), (mp_arI E a3 0 10 f1), (mp_arI E a4 0 10 f2), (mp_arI E a5 0 10 f3), (mp_arI E a6 0 10 f4), (mp_arI E a7 0 10 f5), (mp_arI E a8 0 10 f6), (mp_arL E a9 20 f7), (mp_arI E a10 0 10 g_26)]) rfl rfl ⟨g_26, (-5), rfl, rfl⟩ (by first | exact mp_fd_ok mp_k_cX0_gainByJoin_ok (by decide +kernel) | decide +kernel)
            · have c_36 : 1 ≤ r_30.toInt := c_36
              show mp_W E X 6 112 [(3, .int r_30), (0, .ref a0), (1, .int x0), (2, .int x1)] [] w4_ 0 0
              refine mp_run mp_k_cX0_gainByJoin_ok hF mp_tabX0_ok [mp_i (.iload_n 3), mp_c (.bipush 20) 20, mp_h (.if_icmp .le 6) [121]] (by decide +kernel) ?_
              refine And.intro (fun c_37 => ?_) (fun c_37 => ?_)
              · have c_37 : r_30.toInt ≤ 20 := c_37
                show mp_W E X 6 121 [(3, .int r_30), (0, .ref a0), (1, .int x0), (2, .int x1)] [] w4_ 0 0
                refine mp_run mp_k_cX0_gainByJoin_ok hF mp_tabX0_ok [mp_i (.aload_n 0), mp_h (.getfield 12) [11, 2], mp_h (.getfield 112) [7, 4], mp_i (.iload_n 1), mp_h .iaload [1], mp_i (.istore 4), mp_i (.aload_n 0), mp_h (.getfield 12) [11, 2], mp_h (.getfield 112) [7, 4], mp_i (.iload_n 2), mp_h .iaload [1], mp_i (.istore 5), mp_i (.iload 4), mp_i (.iload 5), mp_i .iadd, mp_i (.iload_n 3), mp_c (.iconst 1) 1, mp_i .isub] (by decide +kernel) ?_
                refine And.intro rfl (And.intro rfl ?_)
                refine And.intro rfl (And.intro rfl ?_)
                refine And.intro rfl (And.intro rfl (And.intro (vp_in_iff.mpr (by omega)) ?_))
                intro z_38 h_39
                refine And.intro rfl (And.intro rfl ?_)
                refine And.intro rfl (And.intro rfl ?_)
                refine And.intro rfl (And.intro rfl (And.intro (vp_in_iff.mpr (by omega)) ?_))
                intro z_40 h_41
                intro z_42 h_43
                intro z_45 h_46
                have e_47 : z_45.toInt = r_30.toInt - 1 := mp_subi (a := r_30.toInt) (b := 1) h_46 rfl (by decide) (by omega) (by omega)
                show mp_W E X 6 151 [(5, .int z_40), (4, .int z_38), (3, .int r_30), (0, .ref a0), (1, .int x0), (2, .int x1)] [.int z_45, .int z_42] w4_ 0 0
                refine mp_callSN hF (As := [.int z_42, .int z_45]) (rest := []) (wr := w4_) (bX9_halved_65 E z_42 z_45) (mp_gm (j := 3200) (by decide +kernel)) mp_lkX0_115 [] [0, 1, 2, 3, 4, 5, 6, 7, 8, 9, 10] rfl rfl rfl rfl rfl ⟨(Nat.le_of_ble_eq_true rfl), (Nat.le_of_ble_eq_true rfl), (Nat.le_of_ble_eq_true rfl), (Nat.le_of_ble_eq_true rfl)⟩ (Nat.le_of_ble_eq_true rfl) (by first | exact mp_fd_ok mp_k_cX0_gainByJoin_ok (by decide +kernel) | decide +kernel) (fun v_48 w_49 h_50 => ?_)
                obtain ⟨r_51, rfl, rfl⟩ := h_50
                show mp_W E X 6 154 [(5, .int z_40), (4, .int z_38), (3, .int r_30), (0, .ref a0), (1, .int x0), (2, .int x1)] [.int r_51] w4_ 0 0
                refine mp_run mp_k_cX0_gainByJoin_ok hF mp_tabX0_ok [mp_i (.iload 4), mp_i (.iload_n 3)] (by decide +kernel) ?_
                show mp_W E X 6 157 [(5, .int z_40), (4, .int z_38), (3, .int r_30), (0, .ref a0), (1, .int x0), (2, .int x1)] [.int r_30, .int z_38, .int r_51] w4_ 0 0
                refine mp_callSN hF (As := [.int z_38, .int r_30]) (rest := [.int r_51]) (wr := w4_) (bX9_halved_65 E z_38 r_30) (mp_gm (j := 3200) (by decide +kernel)) mp_lkX0_115 [] [0, 1, 2, 3, 4, 5, 6, 7, 8, 9, 10] rfl rfl rfl rfl rfl ⟨(Nat.le_of_ble_eq_true rfl), (Nat.le_of_ble_eq_true rfl), (Nat.le_of_ble_eq_true rfl), (Nat.le_of_ble_eq_true rfl)⟩ (Nat.le_of_ble_eq_true rfl) (by first | exact mp_fd_ok mp_k_cX0_gainByJoin_ok (by decide +kernel) | decide +kernel) (fun v_52 w_53 h_54 => ?_)
                obtain ⟨r_55, rfl, rfl⟩ := h_54
                show mp_W E X 6 160 [(5, .int z_40), (4, .int z_38), (3, .int r_30), (0, .ref a0), (1, .int x0), (2, .int x1)] [.int r_55, .int r_51] w4_ 0 0
                refine mp_run mp_k_cX0_gainByJoin_ok hF mp_tabX0_ok [mp_i .isub, mp_i (.iload 5), mp_i (.iload_n 3)] (by decide +kernel) ?_
                intro z_56 h_57
                show mp_W E X 6 164 [(5, .int z_40), (4, .int z_38), (3, .int r_30), (0, .ref a0), (1, .int x0), (2, .int x1)] [.int r_30, .int z_40, .int z_56] w4_ 0 0
                refine mp_callSN hF (As := [.int z_40, .int r_30]) (rest := [.int z_56]) (wr := w4_) (bX9_halved_65 E z_40 r_30) (mp_gm (j := 3200) (by decide +kernel)) mp_lkX0_115 [] [0, 1, 2, 3, 4, 5, 6, 7, 8, 9, 10] rfl rfl rfl rfl rfl ⟨(Nat.le_of_ble_eq_true rfl), (Nat.le_of_ble_eq_true rfl), (Nat.le_of_ble_eq_true rfl), (Nat.le_of_ble_eq_true rfl)⟩ (Nat.le_of_ble_eq_true rfl) (by first | exact mp_fd_ok mp_k_cX0_gainByJoin_ok (by decide +kernel) | decide +kernel) (fun v_59 w_60 h_61 => ?_)
                obtain ⟨r_62, rfl, rfl⟩ := h_61
                show mp_W E X 6 167 [(5, .int z_40), (4, .int z_38), (3, .int r_30), (0, .ref a0), (1, .int x0), (2, .int x1)] [.int r_62, .int z_56] w4_ 0 0
                refine mp_run mp_k_cX0_gainByJoin_ok hF mp_tabX0_ok [mp_i .isub] (by decide +kernel) ?_
                intro z_63 h_64
                show mp_W E X 6 168 [(5, .int z_40), (4, .int z_38), (3, .int r_30), (0, .ref a0), (1, .int x0), (2, .int x1)] [.int z_63] w4_ 0 0
                exact mp_iret hF hQ rfl rfl (Nat.le_of_ble_eq_true rfl) (Nat.le_of_ble_eq_true rfl) [2, 4, 5, 6, 0, 1, 7, 8, 9, 3, 10] (w' := [(mp_ob0 a0 a1 y0 a11 a12 a13 a9 a10 a14), (mp_ob7 a1 y1 y2 y3 y4 y5 y6 a15 a16 a17 a2 a18 a3 a4 a5 a6 a7 a8 a19), (mp_arI E a2 0 6 f0), (mp_arI E a3 0 10 f1), (mp_arI E a4 0 10 f2), (mp_arI E a5 0 10 f3), (mp_arI E a6 0 10 f4), (mp_arI E a7 0 10 f5), (mp_arI E a8 0 10 f6), (mp_arL E a9 20 f7), (mp_arI E a10 0 10 g_26)]) rfl rfl ⟨g_26, z_63, rfl, rfl⟩ (by first | exact mp_fd_ok mp_k_cX0_gainByJoin_ok (by decide +kernel) | decide +kernel)
              · have c_37 : 20 < r_30.toInt := c_37
                show mp_W E X 6 118 [(3, .int r_30), (0, .ref a0), (1, .int x0), (2, .int x1)] [] w4_ 0 0
                refine mp_run mp_k_cX0_gainByJoin_ok hF mp_tabX0_ok [mp_c (.bipush (-5)) (-5)] (by decide +kernel) ?_
                show mp_W E X 6 120 [(3, .int r_30), (0, .ref a0), (1, .int x0), (2, .int x1)] [.int (-5)] w4_ 0 0
                exact mp_iret hF hQ rfl rfl (Nat.le_of_ble_eq_true rfl) (Nat.le_of_ble_eq_true rfl) [2, 4, 5, 6, 0, 1, 7, 8, 9, 3, 10] (w' := [(mp_ob0 a0 a1 y0 a11 a12 a13 a9 a10 a14), (mp_ob7 a1 y1 y2 y3 y4 y5 y6 a15 a16 a17 a2 a18 a3 a4 a5 a6 a7 a8 a19), (mp_arI E a2 0 6 f0), (mp_arI E a3 0 10 f1), (mp_arI E a4 0 10 f2), (mp_arI E a5 0 10 f3), (mp_arI E a6 0 10 f4), (mp_arI E a7 0 10 f5), (mp_arI E a8 0 10 f6), (mp_arL E a9 20 f7), (mp_arI E a10 0 10 g_26)]) rfl rfl ⟨g_26, (-5), rfl, rfl⟩ (by first | exact mp_fd_ok mp_k_cX0_gainByJoin_ok (by decide +kernel) | decide +kernel)
        · skip
          show mp_W E X 6 55 [(0, .ref a0), (1, .int x0), (2, .int x1)] [.int 0] w2_ 0 0
          refine mp_run mp_k_cX0_gainByJoin_ok hF mp_tabX0_ok [mp_h (.ifCond .ne 6) [61]] (by decide +kernel) ?_
          refine And.intro (fun c_66 => absurd c_66 (by decide)) (fun _ => ?_)
          show mp_W E X 6 58 [(0, .ref a0), (1, .int x0), (2, .int x1)] [] w2_ 0 0
          refine mp_run mp_k_cX0_gainByJoin_ok hF mp_tabX0_ok [mp_c (.bipush (-5)) (-5)] (by decide +kernel) ?_
          show mp_W E X 6 60 [(0, .ref a0), (1, .int x0), (2, .int x1)] [.int (-5)] w2_ 0 0
          exact mp_iret hF hQ rfl rfl (Nat.le_of_ble_eq_true rfl) (Nat.le_of_ble_eq_true rfl) [8, 9, 0, 1, 2, 3, 4, 5, 10, 6, 7] (w' := w1_) rfl rfl ⟨f8, (-5), rfl, rfl⟩ (by first | exact mp_fd_ok mp_k_cX0_gainByJoin_ok (by decide +kernel) | decide +kernel)
      · skip
        let w5_ : va_W := [(mp_arI E a2 0 6 f0), (mp_arI E a3 0 10 f1), (mp_arI E a4 0 10 f2), (mp_arI E a5 0 10 f3), (mp_arI E a6 0 10 f4), (mp_arI E a7 0 10 f5), (mp_arL E a9 20 f7), (mp_arI E a10 0 10 f8), (mp_ob0 a0 a1 y0 a11 a12 a13 a9 a10 a14), (mp_ob7 a1 y1 y2 y3 y4 y5 y6 a15 a16 a17 a2 a18 a3 a4 a5 a6 a7 a8 a19), (mp_arI E a8 0 10 f6)]
        show mp_W E X 6 47 [(0, .ref a0), (1, .int x0), (2, .int x1)] [.int 0] w5_ 0 0
        refine mp_run mp_k_cX0_gainByJoin_ok hF mp_tabX0_ok [mp_h (.ifCond .eq 11) [58]] (by decide +kernel) ?_
        refine And.intro (fun _ => ?_) (fun c_67 => absurd c_67 (by decide))
        show mp_W E X 6 58 [(0, .ref a0), (1, .int x0), (2, .int x1)] [] w5_ 0 0
        refine mp_run mp_k_cX0_gainByJoin_ok hF mp_tabX0_ok [mp_c (.bipush (-5)) (-5)] (by decide +kernel) ?_
        show mp_W E X 6 60 [(0, .ref a0), (1, .int x0), (2, .int x1)] [.int (-5)] w5_ 0 0
        exact mp_iret hF hQ rfl rfl (Nat.le_of_ble_eq_true rfl) (Nat.le_of_ble_eq_true rfl) [8, 9, 0, 1, 2, 3, 4, 5, 10, 6, 7] (w' := w1_) rfl rfl ⟨f8, (-5), rfl, rfl⟩ (by first | exact mp_fd_ok mp_k_cX0_gainByJoin_ok (by decide +kernel) | decide +kernel)
set_option maxHeartbeats 4000000 in
set_option maxRecDepth 100000 in
theorem bX9_joins_131 (E : mp_E) (a0 a1 a2 a3 a4 a5 a6 a7 a8 a9 a10 a11 a12 a13 a14 a15 a16 a17 a18 a19 a20 a21 a22 a23 a24 a25 a26 a27 a28 : Nat) (f0 : Nat → Int32) (f1 : Nat → Int32) (f2 : Nat → Int32) (f3 : Nat → Int32) (f4 : Nat → Int32) (f5 : Nat → Int32) (f6 : Nat → Int32) (f7 : Nat → Int64) (f8 : Nat → Int32) (y0 : Int32) (y1 : Int32) (y2 : Int32) (y3 : Int32) (y4 : Int32) (y5 : Int32) (y6 : Int32) (x0 : Int32) (x1 : Int32) (p0 : mp_all f1 10 0 5) (p1 : mp_all f2 10 0 5) (p2 : mp_all f4 10 0 99) (p3 : mp_all f5 10 0 1) (p4 : mp_all f6 10 (-1) 9) (l_y0 : 0 ≤ y0.toInt) (u_y0 : y0.toInt ≤ 99) (l_y2 : 0 ≤ y2.toInt) (u_y2 : y2.toInt ≤ 6) (l_y3 : 0 ≤ y3.toInt) (u_y3 : y3.toInt ≤ 99) (l_y4 : 0 ≤ y4.toInt) (u_y4 : y4.toInt ≤ 6) (l_y5 : 0 ≤ y5.toInt) (u_y5 : y5.toInt ≤ 10) (l_y6 : 0 ≤ y6.toInt) (u_y6 : y6.toInt ≤ 60) : mp_Ct E yX9_joins cX9_joins 4 (some FieldType.int) 4 0 0 87 [.ref a0, .int x0, .int x1] [(mp_ob9 a0 a12 a1 a13 a14 a15 a16 a17 a18 a19), (mp_ob0 a1 a2 y0 a20 a21 a22 a10 a11 a23), (mp_ob7 a2 y1 y2 y3 y4 y5 y6 a24 a25 a26 a3 a27 a4 a5 a6 a7 a8 a9 a28), (mp_arI E a3 0 6 f0), (mp_arI E a4 0 10 f1), (mp_arI E a5 0 10 f2), (mp_arI E a6 0 10 f3), (mp_arI E a7 0 10 f4), (mp_arI E a8 0 10 f5), (mp_arI E a9 0 10 f6), (mp_arL E a10 20 f7), (mp_arI E a11 0 10 f8)] (fun v w' => ∃ h1 : Nat → Int32, ∃ r2 : Int32, v = some (.int r2) ∧ w' = [(mp_ob9 a0 a12 a1 a13 a14 a15 a16 a17 a18 a19), (mp_ob0 a1 a2 y0 a20 a21 a22 a10 a11 a23), (mp_ob7 a2 y1 y2 y3 y4 y5 y6 a24 a25 a26 a3 a27 a4 a5 a6 a7 a8 a9 a28), (mp_arI E a3 0 6 f0), (mp_arI E a4 0 10 f1), (mp_arI E a5 0 10 f2), (mp_arI E a6 0 10 f3), (mp_arI E a7 0 10 f4), (mp_arI E a8 0 10 f5), (mp_arI E a9 0 10 f6), (mp_arL E a10 20 f7), (mp_arI E a11 0 10 h1)]) := by
  refine mp_met false (by decide) (by decide) (Nat.le_of_ble_eq_true rfl) (fun X hF hQ => ?_)
  have hF : mp_F E X (RX9, cX9_joins, 4, (4, 0, 0, 87), (some FieldType.int), false) := hF
  let w1_ : va_W := [(mp_ob9 a0 a12 a1 a13 a14 a15 a16 a17 a18 a19), (mp_ob0 a1 a2 y0 a20 a21 a22 a10 a11 a23), (mp_ob7 a2 y1 y2 y3 y4 y5 y6 a24 a25 a26 a3 a27 a4 a5 a6 a7 a8 a9 a28), (mp_arI E a3 0 6 f0), (mp_arI E a4 0 10 f1), (mp_arI E a5 0 10 f2), (mp_arI E a6 0 10 f3), (mp_arI E a7 0 10 f4), (mp_arI E a8 0 10 f5), (mp_arI E a9 0 10 f6), (mp_arL E a10 20 f7), (mp_arI E a11 0 10 f8)]
  show mp_W E X 4 0 [(0, .ref a0), (1, .int x0), (2, .int x1)] [] w1_ 0 0
  refine mp_run mp_k_cX9_joins_ok hF mp_tabX9_ok [mp_i (.aload_n 0), mp_h (.getfield 19) [37, 0], mp_h (.getfield 83) [20, 1], mp_i (.astore_n 3), mp_i (.aload_n 3), mp_i (.iload_n 1)] (by decide +kernel) ?_
  refine And.intro rfl (And.intro rfl ?_)
  refine And.intro rfl (And.intro rfl ?_)
  show mp_W E X 4 10 [(3, .ref a2), (0, .ref a0), (1, .int x0), (2, .int x1)] [.int x0, .ref a2] w1_ 0 0
  refine mp_callV hF (As := [.int x0]) (rest := []) (wr := [(mp_ob9 a0 a12 a1 a13 a14 a15 a16 a17 a18 a19), (mp_ob0 a1 a2 y0 a20 a21 a22 a10 a11 a23), (mp_arI E a3 0 6 f0), (mp_arI E a4 0 10 f1), (mp_arI E a5 0 10 f2), (mp_arI E a6 0 10 f3), (mp_arI E a7 0 10 f4), (mp_arI E a8 0 10 f5), (mp_arI E a9 0 10 f6), (mp_arL E a10 20 f7), (mp_arI E a11 0 10 f8)]) (bX7_isPromise_53 E a2 a24 a25 a26 a3 a27 a4 a5 a6 a7 a8 a9 a28 y1 y2 y3 y4 y5 y6 x0 l_y2 u_y2 l_y3 u_y3 l_y4 u_y4 l_y5 u_y5 l_y6 u_y6) mp_lkX9_120 2 rfl [2] [0, 1, 3, 4, 5, 6, 7, 8, 9, 10, 11] rfl rfl rfl rfl rfl ⟨(Nat.le_of_ble_eq_true rfl), (Nat.le_of_ble_eq_true rfl), (Nat.le_of_ble_eq_true rfl), (Nat.le_of_ble_eq_true rfl)⟩ (Nat.le_of_ble_eq_true rfl) (by first | exact mp_fd_ok mp_k_cX9_joins_ok (by decide +kernel) | decide +kernel) (fun v_1 w_2 h_3 => ?_)
  rcases h_3 with ⟨rfl, x_4, rfl⟩ | ⟨rfl, c_5, c_6, x_7, rfl⟩
  · skip
    let w2_ : va_W := [(mp_ob9 a0 a12 a1 a13 a14 a15 a16 a17 a18 a19), (mp_ob0 a1 a2 y0 a20 a21 a22 a10 a11 a23), (mp_arI E a3 0 6 f0), (mp_arI E a4 0 10 f1), (mp_arI E a5 0 10 f2), (mp_arI E a6 0 10 f3), (mp_arI E a7 0 10 f4), (mp_arI E a8 0 10 f5), (mp_arI E a9 0 10 f6), (mp_arL E a10 20 f7), (mp_arI E a11 0 10 f8), (mp_ob7 a2 y1 y2 y3 y4 y5 y6 a24 a25 a26 a3 a27 a4 a5 a6 a7 a8 a9 a28)]
    show mp_W E X 4 13 [(3, .ref a2), (0, .ref a0), (1, .int x0), (2, .int x1)] [.int 0] w2_ 0 0
    refine mp_run mp_k_cX9_joins_ok hF mp_tabX9_ok [mp_h (.ifCond .eq 16) [29]] (by decide +kernel) ?_
    refine And.intro (fun _ => ?_) (fun c_8 => absurd c_8 (by decide))
    show mp_W E X 4 29 [(3, .ref a2), (0, .ref a0), (1, .int x0), (2, .int x1)] [] w2_ 0 0
    refine mp_run mp_k_cX9_joins_ok hF mp_tabX9_ok [mp_c (.bipush (-2)) (-2)] (by decide +kernel) ?_
    show mp_W E X 4 31 [(3, .ref a2), (0, .ref a0), (1, .int x0), (2, .int x1)] [.int (-2)] w2_ 0 0
    exact mp_iret hF hQ rfl rfl (Nat.le_of_ble_eq_true rfl) (Nat.le_of_ble_eq_true rfl) [0, 1, 11, 2, 3, 4, 5, 6, 7, 8, 9, 10] (w' := w1_) rfl rfl ⟨f8, (-2), rfl, rfl⟩ (by first | exact mp_fd_ok mp_k_cX9_joins_ok (by decide +kernel) | decide +kernel)
  · skip
    have c_5 : 0 ≤ x0.toInt := c_5
    have c_6 : x0.toInt < y5.toInt := c_6
    let w3_ : va_W := [(mp_ob9 a0 a12 a1 a13 a14 a15 a16 a17 a18 a19), (mp_ob0 a1 a2 y0 a20 a21 a22 a10 a11 a23), (mp_arI E a3 0 6 f0), (mp_arI E a4 0 10 f1), (mp_arI E a5 0 10 f2), (mp_arI E a6 0 10 f3), (mp_arI E a7 0 10 f4), (mp_arI E a8 0 10 f5), (mp_arI E a9 0 10 f6), (mp_arL E a10 20 f7), (mp_arI E a11 0 10 f8), (mp_ob7 a2 y1 y2 y3 y4 y5 y6 a24 a25 a26 a3 a27 a4 a5 a6 a7 a8 a9 a28)]
    show mp_W E X 4 13 [(3, .ref a2), (0, .ref a0), (1, .int x0), (2, .int x1)] [.int 1] w3_ 0 0
    refine mp_run mp_k_cX9_joins_ok hF mp_tabX9_ok [mp_h (.ifCond .eq 16) [29]] (by decide +kernel) ?_
    refine And.intro (fun c_9 => absurd c_9 (by decide)) (fun _ => ?_)
    show mp_W E X 4 16 [(3, .ref a2), (0, .ref a0), (1, .int x0), (2, .int x1)] [] w3_ 0 0
    refine mp_run mp_k_cX9_joins_ok hF mp_tabX9_ok [mp_i (.aload_n 3), mp_i (.iload_n 2)] (by decide +kernel) ?_
    show mp_W E X 4 18 [(3, .ref a2), (0, .ref a0), (1, .int x0), (2, .int x1)] [.int x1, .ref a2] w3_ 0 0
    refine mp_callV hF (As := [.int x1]) (rest := []) (wr := [(mp_ob9 a0 a12 a1 a13 a14 a15 a16 a17 a18 a19), (mp_ob0 a1 a2 y0 a20 a21 a22 a10 a11 a23), (mp_arI E a3 0 6 f0), (mp_arI E a4 0 10 f1), (mp_arI E a5 0 10 f2), (mp_arI E a6 0 10 f3), (mp_arI E a7 0 10 f4), (mp_arI E a8 0 10 f5), (mp_arI E a9 0 10 f6), (mp_arL E a10 20 f7), (mp_arI E a11 0 10 f8)]) (bX7_isPromise_53 E a2 a24 a25 a26 a3 a27 a4 a5 a6 a7 a8 a9 a28 y1 y2 y3 y4 y5 y6 x1 l_y2 u_y2 l_y3 u_y3 l_y4 u_y4 l_y5 u_y5 l_y6 u_y6) mp_lkX9_120 11 rfl [11] [0, 1, 2, 3, 4, 5, 6, 7, 8, 9, 10] rfl rfl rfl rfl rfl ⟨(Nat.le_of_ble_eq_true rfl), (Nat.le_of_ble_eq_true rfl), (Nat.le_of_ble_eq_true rfl), (Nat.le_of_ble_eq_true rfl)⟩ (Nat.le_of_ble_eq_true rfl) (by first | exact mp_fd_ok mp_k_cX9_joins_ok (by decide +kernel) | decide +kernel) (fun v_10 w_11 h_12 => ?_)
    rcases h_12 with ⟨rfl, x_13, rfl⟩ | ⟨rfl, c_14, c_15, x_16, rfl⟩
    · skip
      show mp_W E X 4 21 [(3, .ref a2), (0, .ref a0), (1, .int x0), (2, .int x1)] [.int 0] w3_ 0 0
      refine mp_run mp_k_cX9_joins_ok hF mp_tabX9_ok [mp_h (.ifCond .eq 8) [29]] (by decide +kernel) ?_
      refine And.intro (fun _ => ?_) (fun c_17 => absurd c_17 (by decide))
      show mp_W E X 4 29 [(3, .ref a2), (0, .ref a0), (1, .int x0), (2, .int x1)] [] w3_ 0 0
      refine mp_run mp_k_cX9_joins_ok hF mp_tabX9_ok [mp_c (.bipush (-2)) (-2)] (by decide +kernel) ?_
      show mp_W E X 4 31 [(3, .ref a2), (0, .ref a0), (1, .int x0), (2, .int x1)] [.int (-2)] w3_ 0 0
      exact mp_iret hF hQ rfl rfl (Nat.le_of_ble_eq_true rfl) (Nat.le_of_ble_eq_true rfl) [0, 1, 11, 2, 3, 4, 5, 6, 7, 8, 9, 10] (w' := w1_) rfl rfl ⟨f8, (-2), rfl, rfl⟩ (by first | exact mp_fd_ok mp_k_cX9_joins_ok (by decide +kernel) | decide +kernel)
    · skip
      have c_14 : 0 ≤ x1.toInt := c_14
      have c_15 : x1.toInt < y5.toInt := c_15
      show mp_W E X 4 21 [(3, .ref a2), (0, .ref a0), (1, .int x0), (2, .int x1)] [.int 1] w3_ 0 0
      refine mp_run mp_k_cX9_joins_ok hF mp_tabX9_ok [mp_h (.ifCond .eq 8) [29]] (by decide +kernel) ?_
      refine And.intro (fun c_18 => absurd c_18 (by decide)) (fun _ => ?_)
      show mp_W E X 4 24 [(3, .ref a2), (0, .ref a0), (1, .int x0), (2, .int x1)] [] w3_ 0 0
      refine mp_run mp_k_cX9_joins_ok hF mp_tabX9_ok [mp_i (.iload_n 1), mp_i (.iload_n 2), mp_h (.if_icmp .ne 6) [32]] (by decide +kernel) ?_
      refine And.intro (fun c_19 => ?_) (fun c_19 => ?_)
      · have c_19 : x0.toInt ≠ x1.toInt := c_19
        show mp_W E X 4 32 [(3, .ref a2), (0, .ref a0), (1, .int x0), (2, .int x1)] [] w3_ 0 0
        refine mp_run mp_k_cX9_joins_ok hF mp_tabX9_ok [mp_i (.aload_n 0), mp_h (.getfield 19) [37, 0], mp_i (.iload_n 1), mp_i (.iload_n 2)] (by decide +kernel) ?_
        refine And.intro rfl (And.intro rfl ?_)
        show mp_W E X 4 38 [(3, .ref a2), (0, .ref a0), (1, .int x0), (2, .int x1)] [.int x1, .int x0, .ref a1] w3_ 0 0
        refine mp_callV hF (As := [.int x0, .int x1]) (rest := []) (wr := [(mp_ob9 a0 a12 a1 a13 a14 a15 a16 a17 a18 a19)]) (bX0_gainByJoin_130 E a1 a2 a3 a4 a5 a6 a7 a8 a9 a10 a11 a20 a21 a22 a23 a24 a25 a26 a27 a28 f0 f1 f2 f3 f4 f5 f6 f7 f8 y0 y1 y2 y3 y4 y5 y6 x0 x1 p0 p1 p2 p3 p4 (by (first | exact c_5 | omega)) (by (first | exact mp_o419 u_y5 c_6 | omega)) (by (first | exact c_14 | omega)) (by (first | exact mp_o419 u_y5 c_15 | omega)) l_y0 u_y0 l_y2 u_y2 l_y3 u_y3 l_y4 u_y4 l_y5 u_y5 l_y6 u_y6) mp_lkX9_264 1 rfl [1, 11, 2, 3, 4, 5, 6, 7, 8, 9, 10] [0] rfl rfl rfl rfl rfl ⟨(Nat.le_of_ble_eq_true rfl), (Nat.le_of_ble_eq_true rfl), (Nat.le_of_ble_eq_true rfl), (Nat.le_of_ble_eq_true rfl)⟩ (Nat.le_of_ble_eq_true rfl) (by first | exact mp_fd_ok mp_k_cX9_joins_ok (by decide +kernel) | decide +kernel) (fun v_20 w_21 h_22 => ?_)
        obtain ⟨g_23, r_24, rfl, rfl⟩ := h_22
        let w4_ : va_W := [(mp_ob9 a0 a12 a1 a13 a14 a15 a16 a17 a18 a19), (mp_ob0 a1 a2 y0 a20 a21 a22 a10 a11 a23), (mp_ob7 a2 y1 y2 y3 y4 y5 y6 a24 a25 a26 a3 a27 a4 a5 a6 a7 a8 a9 a28), (mp_arI E a3 0 6 f0), (mp_arI E a4 0 10 f1), (mp_arI E a5 0 10 f2), (mp_arI E a6 0 10 f3), (mp_arI E a7 0 10 f4), (mp_arI E a8 0 10 f5), (mp_arI E a9 0 10 f6), (mp_arL E a10 20 f7), (mp_arI E a11 0 10 g_23)]
        show mp_W E X 4 41 [(3, .ref a2), (0, .ref a0), (1, .int x0), (2, .int x1)] [.int r_24] w4_ 0 0
        exact mp_iret hF hQ rfl rfl (Nat.le_of_ble_eq_true rfl) (Nat.le_of_ble_eq_true rfl) [0, 1, 2, 3, 4, 5, 6, 7, 8, 9, 10, 11] (w' := w4_) rfl rfl ⟨g_23, r_24, rfl, rfl⟩ (by first | exact mp_fd_ok mp_k_cX9_joins_ok (by decide +kernel) | decide +kernel)
      · have c_19 : x0.toInt = x1.toInt := (congrArg Int32.toInt c_19)
        show mp_W E X 4 29 [(3, .ref a2), (0, .ref a0), (1, .int x0), (2, .int x1)] [] w3_ 0 0
        refine mp_run mp_k_cX9_joins_ok hF mp_tabX9_ok [mp_c (.bipush (-2)) (-2)] (by decide +kernel) ?_
        show mp_W E X 4 31 [(3, .ref a2), (0, .ref a0), (1, .int x0), (2, .int x1)] [.int (-2)] w3_ 0 0
        exact mp_iret hF hQ rfl rfl (Nat.le_of_ble_eq_true rfl) (Nat.le_of_ble_eq_true rfl) [0, 1, 11, 2, 3, 4, 5, 6, 7, 8, 9, 10] (w' := w1_) rfl rfl ⟨f8, (-2), rfl, rfl⟩ (by first | exact mp_fd_ok mp_k_cX9_joins_ok (by decide +kernel) | decide +kernel)
set_option maxHeartbeats 4000000 in
set_option maxRecDepth 100000 in
theorem bX9_joined_132 (E : mp_E) (a0 a1 a2 a3 a4 a5 a6 a7 a8 a9 a10 a11 a12 a13 a14 a15 a16 a17 a18 a19 a20 a21 a22 a23 a24 a25 a26 a27 a28 : Nat) (f0 : Nat → Int32) (f1 : Nat → Int32) (f2 : Nat → Int32) (f3 : Nat → Int32) (f4 : Nat → Int32) (f5 : Nat → Int32) (f6 : Nat → Int32) (f7 : Nat → Int64) (f8 : Nat → Int32) (y0 : Int32) (y1 : Int32) (y2 : Int32) (y3 : Int32) (y4 : Int32) (y5 : Int32) (y6 : Int32) (p0 : mp_all f1 10 0 5) (p1 : mp_all f2 10 0 5) (p2 : mp_all f4 10 0 99) (p3 : mp_all f5 10 0 1) (p4 : mp_all f6 10 (-1) 9) (l_y0 : 0 ≤ y0.toInt) (u_y0 : y0.toInt ≤ 99) (l_y2 : 0 ≤ y2.toInt) (u_y2 : y2.toInt ≤ 6) (l_y3 : 0 ≤ y3.toInt) (u_y3 : y3.toInt ≤ 99) (l_y4 : 0 ≤ y4.toInt) (u_y4 : y4.toInt ≤ 6) (l_y5 : 0 ≤ y5.toInt) (u_y5 : y5.toInt ≤ 10) (l_y6 : 0 ≤ y6.toInt) (u_y6 : y6.toInt ≤ 60) : mp_Ct E yX9_joined cX9_joined 6 (some FieldType.int) 4 0 0 87 [.ref a0] [(mp_ob9 a0 a12 a1 a13 a14 a15 a16 a17 a18 a19), (mp_ob0 a1 a2 y0 a20 a21 a22 a10 a11 a23), (mp_ob7 a2 y1 y2 y3 y4 y5 y6 a24 a25 a26 a3 a27 a4 a5 a6 a7 a8 a9 a28), (mp_arI E a3 0 6 f0), (mp_arI E a4 0 10 f1), (mp_arI E a5 0 10 f2), (mp_arI E a6 0 10 f3), (mp_arI E a7 0 10 f4), (mp_arI E a8 0 10 f5), (mp_arI E a9 0 10 f6), (mp_arL E a10 20 f7), (mp_arI E a11 0 10 f8)] (fun v w' => ∃ h1 : Nat → Int32, ∃ r2 : Int32, v = some (.int r2) ∧ (-2) ≤ r2.toInt ∧ r2.toInt ≤ 100 ∧ w' = [(mp_ob9 a0 a12 a1 a13 a14 a15 a16 a17 a18 a19), (mp_ob0 a1 a2 y0 a20 a21 a22 a10 a11 a23), (mp_ob7 a2 y1 y2 y3 y4 y5 y6 a24 a25 a26 a3 a27 a4 a5 a6 a7 a8 a9 a28), (mp_arI E a3 0 6 f0), (mp_arI E a4 0 10 f1), (mp_arI E a5 0 10 f2), (mp_arI E a6 0 10 f3), (mp_arI E a7 0 10 f4), (mp_arI E a8 0 10 f5), (mp_arI E a9 0 10 f6), (mp_arL E a10 20 f7), (mp_arI E a11 0 10 h1)]) := by
  refine mp_met false (by decide) (by decide) (Nat.le_of_ble_eq_true rfl) (fun X hF hQ => ?_)
  have hF : mp_F E X (RX9, cX9_joined, 6, (4, 0, 0, 87), (some FieldType.int), false) := hF
  let w1_ : va_W := [(mp_ob9 a0 a12 a1 a13 a14 a15 a16 a17 a18 a19), (mp_ob0 a1 a2 y0 a20 a21 a22 a10 a11 a23), (mp_ob7 a2 y1 y2 y3 y4 y5 y6 a24 a25 a26 a3 a27 a4 a5 a6 a7 a8 a9 a28), (mp_arI E a3 0 6 f0), (mp_arI E a4 0 10 f1), (mp_arI E a5 0 10 f2), (mp_arI E a6 0 10 f3), (mp_arI E a7 0 10 f4), (mp_arI E a8 0 10 f5), (mp_arI E a9 0 10 f6), (mp_arL E a10 20 f7), (mp_arI E a11 0 10 f8)]
  show mp_W E X 6 0 [(0, .ref a0)] [] w1_ 0 0
  refine mp_run mp_k_cX9_joined_ok hF mp_tabX9_ok [mp_i (.aload_n 0), mp_h (.getfield 19) [37, 0], mp_h (.getfield 83) [20, 1], mp_h (.getfield 97) [0, 2], mp_h (.ifCond .ne 6) [16]] (by decide +kernel) ?_
  refine And.intro rfl (And.intro rfl ?_)
  refine And.intro rfl (And.intro rfl ?_)
  refine And.intro rfl (And.intro rfl ?_)
  refine And.intro (fun c_1 => ?_) (fun c_1 => ?_)
  · have c_1 : y1.toInt ≠ 0 := c_1
    show mp_W E X 6 16 [(0, .ref a0)] [] w1_ 0 0
    refine mp_run mp_k_cX9_joined_ok hF mp_tabX9_ok [mp_c (.iconst (-1)) (-1), mp_i (.istore_n 1), mp_c (.bipush (-5)) (-5), mp_i (.istore_n 2), mp_c (.iconst 0) 0, mp_i (.istore_n 3)] (by decide +kernel) ?_
    show mp_W E X 6 23 [(3, .int 0), (2, .int (-5)), (1, .int (-1)), (0, .ref a0)] [] w1_ 0 0
    have lp_11 : ∀ (d_12 : Nat) (i_2 : Int32) (i_3 : Int32) (i_4 : Int32) (g_5 : Nat → Int32), 0 ≤ i_2.toInt → i_2.toInt ≤ 10 → (-5) ≤ i_3.toInt → (-1) ≤ i_4.toInt → i_4.toInt ≤ 100 → y5.toInt - i_2.toInt ≤ (d_12 : Int) → mp_W E X 6 23 [(3, .int i_2), (2, .int i_3), (1, .int i_4), (0, .ref a0)] [] [(mp_ob9 a0 a12 a1 a13 a14 a15 a16 a17 a18 a19), (mp_ob0 a1 a2 y0 a20 a21 a22 a10 a11 a23), (mp_ob7 a2 y1 y2 y3 y4 y5 y6 a24 a25 a26 a3 a27 a4 a5 a6 a7 a8 a9 a28), (mp_arI E a3 0 6 f0), (mp_arI E a4 0 10 f1), (mp_arI E a5 0 10 f2), (mp_arI E a6 0 10 f3), (mp_arI E a7 0 10 f4), (mp_arI E a8 0 10 f5), (mp_arI E a9 0 10 f6), (mp_arL E a10 20 f7), (mp_arI E a11 0 10 g_5)] 0 0 := by
      intro d_12
      induction d_12 using Nat.strongRecOn with
      | ind d_12 ih_13 =>
        intro i_2 i_3 i_4 g_5 l_6 u_7 l_8 l_9 u_10 hm_14
        refine mp_run mp_k_cX9_joined_ok hF mp_tabX9_ok [mp_i (.iload_n 3), mp_i (.aload_n 0), mp_h (.getfield 19) [37, 0], mp_h (.getfield 83) [20, 1], mp_h (.getfield 196) [4, 2], mp_h (.if_icmp .ge 64) [98]] (by decide +kernel) ?_
        refine And.intro rfl (And.intro rfl ?_)
        refine And.intro rfl (And.intro rfl ?_)
        refine And.intro rfl (And.intro rfl ?_)
        refine And.intro (fun c_15 => ?_) (fun c_15 => ?_)
        · have c_15 : y5.toInt ≤ i_2.toInt := c_15
          let w2_ : va_W := [(mp_ob9 a0 a12 a1 a13 a14 a15 a16 a17 a18 a19), (mp_ob0 a1 a2 y0 a20 a21 a22 a10 a11 a23), (mp_ob7 a2 y1 y2 y3 y4 y5 y6 a24 a25 a26 a3 a27 a4 a5 a6 a7 a8 a9 a28), (mp_arI E a3 0 6 f0), (mp_arI E a4 0 10 f1), (mp_arI E a5 0 10 f2), (mp_arI E a6 0 10 f3), (mp_arI E a7 0 10 f4), (mp_arI E a8 0 10 f5), (mp_arI E a9 0 10 f6), (mp_arL E a10 20 f7), (mp_arI E a11 0 10 g_5)]
          show mp_W E X 6 98 [(3, .int i_2), (2, .int i_3), (1, .int i_4), (0, .ref a0)] [] w2_ 0 0
          refine mp_run mp_k_cX9_joined_ok hF mp_tabX9_ok [mp_i (.iload_n 1)] (by decide +kernel) ?_
          show mp_W E X 6 99 [(3, .int i_2), (2, .int i_3), (1, .int i_4), (0, .ref a0)] [.int i_4] w2_ 0 0
          exact mp_iret hF hQ rfl rfl (Nat.le_of_ble_eq_true rfl) (Nat.le_of_ble_eq_true rfl) [0, 1, 2, 3, 4, 5, 6, 7, 8, 9, 10, 11] (w' := w2_) rfl rfl ⟨g_5, i_4, rfl, (by (first | exact mp_o446 l_9 | omega)), u_10, rfl⟩ (by first | exact mp_fd_ok mp_k_cX9_joined_ok (by decide +kernel) | decide +kernel)
        · have c_15 : i_2.toInt < y5.toInt := c_15
          let w3_ : va_W := [(mp_ob9 a0 a12 a1 a13 a14 a15 a16 a17 a18 a19), (mp_ob0 a1 a2 y0 a20 a21 a22 a10 a11 a23), (mp_ob7 a2 y1 y2 y3 y4 y5 y6 a24 a25 a26 a3 a27 a4 a5 a6 a7 a8 a9 a28), (mp_arI E a3 0 6 f0), (mp_arI E a4 0 10 f1), (mp_arI E a5 0 10 f2), (mp_arI E a6 0 10 f3), (mp_arI E a7 0 10 f4), (mp_arI E a8 0 10 f5), (mp_arI E a9 0 10 f6), (mp_arL E a10 20 f7), (mp_arI E a11 0 10 g_5)]
          show mp_W E X 6 37 [(3, .int i_2), (2, .int i_3), (1, .int i_4), (0, .ref a0)] [] w3_ 0 0
          refine mp_run mp_k_cX9_joined_ok hF mp_tabX9_ok [mp_i (.iload_n 3), mp_c (.iconst 1) 1, mp_i .iadd, mp_i (.istore 4)] (by decide +kernel) ?_
          intro z_16 h_17
          have e_18 : z_16.toInt = i_2.toInt + 1 := mp_add (a := i_2.toInt) (b := 1) h_17 rfl (by decide) (by (first | exact mp_o2 l_6 | omega)) (by (first | exact mp_o420 u_7 | omega))
          show mp_W E X 6 42 [(4, .int z_16), (3, .int i_2), (2, .int i_3), (1, .int i_4), (0, .ref a0)] [] w3_ 0 0
          have lp_28 : ∀ (d_29 : Nat) (i_19 : Int32) (g_20 : Nat → Int32) (i_21 : Int32) (i_22 : Int32), 1 ≤ i_19.toInt → i_19.toInt ≤ 10 → (-5) ≤ i_21.toInt → (-1) ≤ i_22.toInt → i_22.toInt ≤ 100 → y5.toInt - i_19.toInt ≤ (d_29 : Int) → mp_W E X 6 42 [(4, .int i_19), (3, .int i_2), (2, .int i_21), (1, .int i_22), (0, .ref a0)] [] [(mp_ob9 a0 a12 a1 a13 a14 a15 a16 a17 a18 a19), (mp_ob0 a1 a2 y0 a20 a21 a22 a10 a11 a23), (mp_ob7 a2 y1 y2 y3 y4 y5 y6 a24 a25 a26 a3 a27 a4 a5 a6 a7 a8 a9 a28), (mp_arI E a3 0 6 f0), (mp_arI E a4 0 10 f1), (mp_arI E a5 0 10 f2), (mp_arI E a6 0 10 f3), (mp_arI E a7 0 10 f4), (mp_arI E a8 0 10 f5), (mp_arI E a9 0 10 f6), (mp_arL E a10 20 f7), (mp_arI E a11 0 10 g_20)] 0 0 := by
            intro d_29
            induction d_29 using Nat.strongRecOn with
            | ind d_29 ih_30 =>
              intro i_19 g_20 i_21 i_22 l_23 u_24 l_25 l_26 u_27 hm_31
              refine mp_run mp_k_cX9_joined_ok hF mp_tabX9_ok [mp_i (.iload 4), mp_i (.aload_n 0), mp_h (.getfield 19) [37, 0], mp_h (.getfield 83) [20, 1], mp_h (.getfield 196) [4, 2], mp_h (.if_icmp .ge 38) [92]] (by decide +kernel) ?_
              refine And.intro rfl (And.intro rfl ?_)
              refine And.intro rfl (And.intro rfl ?_)
              refine And.intro rfl (And.intro rfl ?_)
              refine And.intro (fun c_32 => ?_) (fun c_32 => ?_)
              · have c_32 : y5.toInt ≤ i_19.toInt := c_32
                let w4_ : va_W := [(mp_ob9 a0 a12 a1 a13 a14 a15 a16 a17 a18 a19), (mp_ob0 a1 a2 y0 a20 a21 a22 a10 a11 a23), (mp_ob7 a2 y1 y2 y3 y4 y5 y6 a24 a25 a26 a3 a27 a4 a5 a6 a7 a8 a9 a28), (mp_arI E a3 0 6 f0), (mp_arI E a4 0 10 f1), (mp_arI E a5 0 10 f2), (mp_arI E a6 0 10 f3), (mp_arI E a7 0 10 f4), (mp_arI E a8 0 10 f5), (mp_arI E a9 0 10 f6), (mp_arL E a10 20 f7), (mp_arI E a11 0 10 g_20)]
                show mp_W E X 6 92 [(4, .int i_19), (3, .int i_2), (2, .int i_21), (1, .int i_22), (0, .ref a0)] [] w4_ 0 0
                refine mp_run mp_k_cX9_joined_ok hF mp_tabX9_ok [mp_c (.iinc 3 1) 1, mp_h (.goto (-72)) [23]] (by decide +kernel) ?_
                intro z_33 h_34
                have e_35 : z_33.toInt = i_2.toInt + 1 := mp_add (a := i_2.toInt) (b := 1) h_34 rfl (by decide) (by (first | exact mp_o2 l_6 | omega)) (by (first | exact mp_o420 u_7 | omega))
                show mp_W E X 6 23 [(3, .int z_33), (4, .int i_19), (2, .int i_21), (1, .int i_22), (0, .ref a0)] [] w4_ 0 0
                exact mp_sub [0, 2, 3, 4] rfl [0, 1, 2, 3, 4, 5, 6, 7, 8, 9, 10, 11] rfl rfl (ih_13 (d_12 - 1) (by (first | exact mp_o72 hm_14 c_15 | omega)) z_33 i_21 i_22 g_20 (by (first | exact mp_o51 l_6 e_35 | omega)) (by (first | exact mp_o619 u_24 c_32 c_15 e_35 | omega)) l_25 l_26 u_27 (by (first | exact mp_o77 hm_14 e_35 | omega)))
              · have c_32 : i_19.toInt < y5.toInt := c_32
                let w5_ : va_W := [(mp_ob9 a0 a12 a1 a13 a14 a15 a16 a17 a18 a19), (mp_ob0 a1 a2 y0 a20 a21 a22 a10 a11 a23), (mp_ob7 a2 y1 y2 y3 y4 y5 y6 a24 a25 a26 a3 a27 a4 a5 a6 a7 a8 a9 a28), (mp_arI E a3 0 6 f0), (mp_arI E a4 0 10 f1), (mp_arI E a5 0 10 f2), (mp_arI E a6 0 10 f3), (mp_arI E a7 0 10 f4), (mp_arI E a8 0 10 f5), (mp_arI E a9 0 10 f6), (mp_arL E a10 20 f7), (mp_arI E a11 0 10 g_20)]
                show mp_W E X 6 57 [(4, .int i_19), (3, .int i_2), (2, .int i_21), (1, .int i_22), (0, .ref a0)] [] w5_ 0 0
                refine mp_run mp_k_cX9_joined_ok hF mp_tabX9_ok [mp_i (.aload_n 0), mp_h (.getfield 19) [37, 0], mp_i (.iload_n 3), mp_i (.iload 4)] (by decide +kernel) ?_
                refine And.intro rfl (And.intro rfl ?_)
                show mp_W E X 6 64 [(4, .int i_19), (3, .int i_2), (2, .int i_21), (1, .int i_22), (0, .ref a0)] [.int i_19, .int i_2, .ref a1] w5_ 0 0
                refine mp_callV hF (As := [.int i_2, .int i_19]) (rest := []) (wr := [(mp_ob9 a0 a12 a1 a13 a14 a15 a16 a17 a18 a19)]) (bX0_gainByJoin_130 E a1 a2 a3 a4 a5 a6 a7 a8 a9 a10 a11 a20 a21 a22 a23 a24 a25 a26 a27 a28 f0 f1 f2 f3 f4 f5 f6 f7 g_20 y0 y1 y2 y3 y4 y5 y6 i_2 i_19 p0 p1 p2 p3 p4 l_6 (by (first | exact mp_o419 u_y5 c_15 | omega)) (by (first | exact mp_o254 l_23 | omega)) (by (first | exact mp_o419 u_y5 c_32 | omega)) l_y0 u_y0 l_y2 u_y2 l_y3 u_y3 l_y4 u_y4 l_y5 u_y5 l_y6 u_y6) mp_lkX9_264 1 rfl [1, 2, 3, 4, 5, 6, 7, 8, 9, 10, 11] [0] rfl rfl rfl rfl rfl ⟨(Nat.le_of_ble_eq_true rfl), (Nat.le_of_ble_eq_true rfl), (Nat.le_of_ble_eq_true rfl), (Nat.le_of_ble_eq_true rfl)⟩ (Nat.le_of_ble_eq_true rfl) (by first | exact mp_fd_ok mp_k_cX9_joined_ok (by decide +kernel) | decide +kernel) (fun v_36 w_37 h_38 => ?_)
                obtain ⟨g_39, r_40, rfl, rfl⟩ := h_38
                let w6_ : va_W := [(mp_ob9 a0 a12 a1 a13 a14 a15 a16 a17 a18 a19), (mp_ob0 a1 a2 y0 a20 a21 a22 a10 a11 a23), (mp_ob7 a2 y1 y2 y3 y4 y5 y6 a24 a25 a26 a3 a27 a4 a5 a6 a7 a8 a9 a28), (mp_arI E a3 0 6 f0), (mp_arI E a4 0 10 f1), (mp_arI E a5 0 10 f2), (mp_arI E a6 0 10 f3), (mp_arI E a7 0 10 f4), (mp_arI E a8 0 10 f5), (mp_arI E a9 0 10 f6), (mp_arL E a10 20 f7), (mp_arI E a11 0 10 g_39)]
                show mp_W E X 6 67 [(4, .int i_19), (3, .int i_2), (2, .int i_21), (1, .int i_22), (0, .ref a0)] [.int r_40] w6_ 0 0
                refine mp_run mp_k_cX9_joined_ok hF mp_tabX9_ok [mp_i (.istore 5), mp_i (.iload 5), mp_i (.iload_n 2), mp_h (.if_icmp .le 14) [86]] (by decide +kernel) ?_
                refine And.intro (fun c_41 => ?_) (fun c_41 => ?_)
                · have c_41 : r_40.toInt ≤ i_21.toInt := c_41
                  show mp_W E X 6 86 [(5, .int r_40), (4, .int i_19), (3, .int i_2), (2, .int i_21), (1, .int i_22), (0, .ref a0)] [] w6_ 0 0
                  refine mp_run mp_k_cX9_joined_ok hF mp_tabX9_ok [mp_c (.iinc 4 1) 1, mp_h (.goto (-47)) [42]] (by decide +kernel) ?_
                  intro z_42 h_43
                  have e_44 : z_42.toInt = i_19.toInt + 1 := mp_add (a := i_19.toInt) (b := 1) h_43 rfl (by decide) (by (first | exact mp_o457 l_23 | omega)) (by (first | exact mp_o420 u_24 | omega))
                  show mp_W E X 6 42 [(4, .int z_42), (5, .int r_40), (3, .int i_2), (2, .int i_21), (1, .int i_22), (0, .ref a0)] [] w6_ 0 0
                  exact mp_sub [0, 2, 3, 4, 5] rfl [0, 1, 2, 3, 4, 5, 6, 7, 8, 9, 10, 11] rfl rfl (ih_30 (d_29 - 1) (by (first | exact mp_o72 hm_31 c_32 | omega)) z_42 g_39 i_21 i_22 (by (first | exact mp_o458 l_23 e_44 | omega)) (by (first | exact mp_o421 u_y5 c_32 e_44 | omega)) l_25 l_26 u_27 (by (first | exact mp_o77 hm_31 e_44 | omega)))
                · have c_41 : i_21.toInt < r_40.toInt := c_41
                  show mp_W E X 6 75 [(5, .int r_40), (4, .int i_19), (3, .int i_2), (2, .int i_21), (1, .int i_22), (0, .ref a0)] [] w6_ 0 0
                  refine mp_run mp_k_cX9_joined_ok hF mp_tabX9_ok [mp_i (.iload 5), mp_i (.istore_n 2), mp_c (.bipush 10) 10, mp_i (.iload_n 3), mp_i .imul, mp_i (.iload 4), mp_i .iadd, mp_i (.istore_n 1), mp_c (.iinc 4 1) 1, mp_h (.goto (-47)) [42]] (by decide +kernel) ?_
                  intro z_45 h_46
                  have e_47 : z_45.toInt = 10 * i_2.toInt := mp_mul (a := 10) (b := i_2.toInt) h_46 (by decide) rfl (by (first | exact mp_o486 l_6 | omega)) (by (first | exact mp_o620 u_7 | omega))
                  intro z_48 h_49
                  have e_50 : z_48.toInt = z_45.toInt + i_19.toInt := mp_add (a := z_45.toInt) (b := i_19.toInt) h_49 rfl rfl (by (first | exact mp_o621 l_23 l_6 e_47 | omega)) (by (first | exact mp_o622 u_24 u_7 e_47 | omega))
                  intro z_51 h_52
                  have e_53 : z_51.toInt = i_19.toInt + 1 := mp_add (a := i_19.toInt) (b := 1) h_52 rfl (by decide) (by (first | exact mp_o457 l_23 | omega)) (by (first | exact mp_o420 u_24 | omega))
                  show mp_W E X 6 42 [(4, .int z_51), (1, .int z_48), (2, .int r_40), (5, .int r_40), (3, .int i_2), (0, .ref a0)] [] w6_ 0 0
                  exact mp_sub [0, 4, 2, 1, 5] rfl [0, 1, 2, 3, 4, 5, 6, 7, 8, 9, 10, 11] rfl rfl (ih_30 (d_29 - 1) (by (first | exact mp_o72 hm_31 c_32 | omega)) z_51 g_39 r_40 z_48 (by (first | exact mp_o458 l_23 e_53 | omega)) (by (first | exact mp_o421 u_y5 c_32 e_53 | omega)) (by (first | exact mp_o623 l_25 c_41 | omega)) (by (first | exact mp_o624 l_6 l_23 e_47 e_50 | omega)) (by (first | exact mp_o625 u_y5 c_15 c_32 e_47 e_50 | omega)) (by (first | exact mp_o77 hm_31 e_53 | omega)))
          exact mp_sub [0, 1, 2, 3, 4] rfl [0, 1, 2, 3, 4, 5, 6, 7, 8, 9, 10, 11] rfl rfl (lp_28 _ z_16 g_5 i_3 i_4 (by (first | exact mp_o182 l_6 e_18 | omega)) (by (first | exact mp_o421 u_y5 c_15 e_18 | omega)) l_8 l_9 u_10 (Int.self_le_toNat _))
    exact mp_sub [0, 1, 2, 3] rfl [0, 1, 2, 3, 4, 5, 6, 7, 8, 9, 10, 11] rfl rfl (lp_11 _ 0 (-5) (-1) f8 (by decide) (by decide) (by decide) (by decide) (by decide) (Int.self_le_toNat _))
  · have c_1 : y1.toInt = 0 := (congrArg Int32.toInt c_1)
    show mp_W E X 6 13 [(0, .ref a0)] [] w1_ 0 0
    refine mp_run mp_k_cX9_joined_ok hF mp_tabX9_ok [mp_c (.bipush (-2)) (-2)] (by decide +kernel) ?_
    show mp_W E X 6 15 [(0, .ref a0)] [.int (-2)] w1_ 0 0
    exact mp_iret hF hQ rfl rfl (Nat.le_of_ble_eq_true rfl) (Nat.le_of_ble_eq_true rfl) [0, 1, 2, 3, 4, 5, 6, 7, 8, 9, 10, 11] (w' := w1_) rfl rfl ⟨f8, (-2), rfl, (by decide), (by decide), rfl⟩ (by first | exact mp_fd_ok mp_k_cX9_joined_ok (by decide +kernel) | decide +kernel)
set_option maxHeartbeats 4000000 in
set_option maxRecDepth 100000 in
theorem bX1_ringOf_133 (E : mp_E) (a0 a1 a2 : Nat) (f0 : Nat → Int32) (y0 : Int32) (y1 : Int32) (x0 : Int32) (x1 : Int32) (x2 : Int32) (l_x0 : 0 ≤ x0.toInt) (u_x0 : x0.toInt ≤ 5) (l_x1 : 0 ≤ x1.toInt) (u_x1 : x1.toInt ≤ 5) (l_x2 : 0 ≤ x2.toInt) (u_x2 : x2.toInt ≤ 5) (l_y0 : 0 ≤ y0.toInt) (u_y0 : y0.toInt ≤ 6) : mp_Ct E yX1_ringOf cX1_ringOf 4 (some FieldType.int) 1 0 0 22 [.ref a0, .int x0, .int x1, .int x2] [(mp_ob1 a0 a1 y0 y1 a2), (mp_arI E a1 0 36 f0)] (fun v w' => ∃ r1 : Int32, v = some (.int r1) ∧ w' = [(mp_ob1 a0 a1 y0 y1 a2), (mp_arI E a1 0 36 f0)]) := by
  refine mp_met false (by decide) (by decide) (Nat.le_of_ble_eq_true rfl) (fun X hF hQ => ?_)
  have hF : mp_F E X (RX1, cX1_ringOf, 4, (1, 0, 0, 22), (some FieldType.int), false) := hF
  show mp_W E X 4 0 [(0, .ref a0), (1, .int x0), (2, .int x1), (3, .int x2)] [] [(mp_ob1 a0 a1 y0 y1 a2), (mp_arI E a1 0 36 f0)] 0 0
  refine mp_run mp_k_cX1_ringOf_ok hF mp_tabX1_ok [mp_i (.aload_n 0), mp_i (.iload_n 1), mp_i (.iload_n 2)] (by decide +kernel) ?_
  show mp_W E X 4 3 [(0, .ref a0), (1, .int x0), (2, .int x1), (3, .int x2)] [.int x1, .int x0, .ref a0] [(mp_ob1 a0 a1 y0 y1 a2), (mp_arI E a1 0 36 f0)] 0 0
  refine mp_callV hF (As := [.int x0, .int x1]) (rest := []) (wr := []) (bX1_debt_73 E a0 a1 a2 f0 y0 y1 x0 x1 l_x0 u_x0 l_x1 u_x1 l_y0 u_y0) mp_lkX1_50 0 rfl [0, 1] [] rfl rfl rfl rfl rfl ⟨(Nat.le_of_ble_eq_true rfl), (Nat.le_of_ble_eq_true rfl), (Nat.le_of_ble_eq_true rfl), (Nat.le_of_ble_eq_true rfl)⟩ (Nat.le_of_ble_eq_true rfl) (by first | exact mp_fd_ok mp_k_cX1_ringOf_ok (by decide +kernel) | decide +kernel) (fun v_1 w_2 h_3 => ?_)
  obtain ⟨r_4, rfl, rfl⟩ := h_3
  show mp_W E X 4 6 [(0, .ref a0), (1, .int x0), (2, .int x1), (3, .int x2)] [.int r_4] [(mp_ob1 a0 a1 y0 y1 a2), (mp_arI E a1 0 36 f0)] 0 0
  refine mp_run mp_k_cX1_ringOf_ok hF mp_tabX1_ok [mp_i (.aload_n 0), mp_i (.iload_n 2), mp_i (.iload_n 3)] (by decide +kernel) ?_
  show mp_W E X 4 9 [(0, .ref a0), (1, .int x0), (2, .int x1), (3, .int x2)] [.int x2, .int x1, .ref a0, .int r_4] [(mp_ob1 a0 a1 y0 y1 a2), (mp_arI E a1 0 36 f0)] 0 0
  refine mp_callV hF (As := [.int x1, .int x2]) (rest := [.int r_4]) (wr := []) (bX1_debt_73 E a0 a1 a2 f0 y0 y1 x1 x2 l_x1 u_x1 l_x2 u_x2 l_y0 u_y0) mp_lkX1_50 0 rfl [0, 1] [] rfl rfl rfl rfl rfl ⟨(Nat.le_of_ble_eq_true rfl), (Nat.le_of_ble_eq_true rfl), (Nat.le_of_ble_eq_true rfl), (Nat.le_of_ble_eq_true rfl)⟩ (Nat.le_of_ble_eq_true rfl) (by first | exact mp_fd_ok mp_k_cX1_ringOf_ok (by decide +kernel) | decide +kernel) (fun v_5 w_6 h_7 => ?_)
  obtain ⟨r_8, rfl, rfl⟩ := h_7
  show mp_W E X 4 12 [(0, .ref a0), (1, .int x0), (2, .int x1), (3, .int x2)] [.int r_8, .int r_4] [(mp_ob1 a0 a1 y0 y1 a2), (mp_arI E a1 0 36 f0)] 0 0
  refine mp_run mp_k_cX1_ringOf_ok hF mp_tabX1_ok [mp_i (.aload_n 0), mp_i (.iload_n 3), mp_i (.iload_n 1)] (by decide +kernel) ?_
  show mp_W E X 4 15 [(0, .ref a0), (1, .int x0), (2, .int x1), (3, .int x2)] [.int x0, .int x2, .ref a0, .int r_8, .int r_4] [(mp_ob1 a0 a1 y0 y1 a2), (mp_arI E a1 0 36 f0)] 0 0
  refine mp_callV hF (As := [.int x2, .int x0]) (rest := [.int r_8, .int r_4]) (wr := []) (bX1_debt_73 E a0 a1 a2 f0 y0 y1 x2 x0 l_x2 u_x2 l_x0 u_x0 l_y0 u_y0) mp_lkX1_50 0 rfl [0, 1] [] rfl rfl rfl rfl rfl ⟨(Nat.le_of_ble_eq_true rfl), (Nat.le_of_ble_eq_true rfl), (Nat.le_of_ble_eq_true rfl), (Nat.le_of_ble_eq_true rfl)⟩ (Nat.le_of_ble_eq_true rfl) (by first | exact mp_fd_ok mp_k_cX1_ringOf_ok (by decide +kernel) | decide +kernel) (fun v_9 w_10 h_11 => ?_)
  obtain ⟨r_12, rfl, rfl⟩ := h_11
  show mp_W E X 4 18 [(0, .ref a0), (1, .int x0), (2, .int x1), (3, .int x2)] [.int r_12, .int r_8, .int r_4] [(mp_ob1 a0 a1 y0 y1 a2), (mp_arI E a1 0 36 f0)] 0 0
  refine mp_mmin hF (idx := 61) (mp_gm (j := 5007) (by decide +kernel)) (mp_gm (j := 2219) (by decide +kernel)) (mp_gm (j := 1013) (by decide +kernel)) (mp_gm (j := 2220) (by decide +kernel)) ⟨(Nat.le_of_ble_eq_true rfl), (Nat.le_of_ble_eq_true rfl), (Nat.le_of_ble_eq_true rfl), (Nat.le_of_ble_eq_true rfl)⟩ (by first | exact mp_fd_ok mp_k_cX1_ringOf_ok (by decide +kernel) | decide +kernel) (fun z_13 m_14 m_15 m_16 => ?_)
  have m_15 : z_13.toInt ≤ r_8.toInt := m_15
  have m_16 : z_13.toInt ≤ r_12.toInt := m_16
  have m_14 : z_13.toInt = r_8.toInt ∨ z_13.toInt = r_12.toInt := m_14
  show mp_W E X 4 21 [(0, .ref a0), (1, .int x0), (2, .int x1), (3, .int x2)] [.int z_13, .int r_4] [(mp_ob1 a0 a1 y0 y1 a2), (mp_arI E a1 0 36 f0)] 0 0
  refine mp_mmin hF (idx := 61) (mp_gm (j := 5007) (by decide +kernel)) (mp_gm (j := 2219) (by decide +kernel)) (mp_gm (j := 1013) (by decide +kernel)) (mp_gm (j := 2220) (by decide +kernel)) ⟨(Nat.le_of_ble_eq_true rfl), (Nat.le_of_ble_eq_true rfl), (Nat.le_of_ble_eq_true rfl), (Nat.le_of_ble_eq_true rfl)⟩ (by first | exact mp_fd_ok mp_k_cX1_ringOf_ok (by decide +kernel) | decide +kernel) (fun z_17 m_18 m_19 m_20 => ?_)
  have m_19 : z_17.toInt ≤ r_4.toInt := m_19
  have m_20 : z_17.toInt ≤ z_13.toInt := m_20
  have m_18 : z_17.toInt = r_4.toInt ∨ z_17.toInt = z_13.toInt := m_18
  show mp_W E X 4 24 [(0, .ref a0), (1, .int x0), (2, .int x1), (3, .int x2)] [.int z_17] [(mp_ob1 a0 a1 y0 y1 a2), (mp_arI E a1 0 36 f0)] 0 0
  exact mp_iret hF hQ rfl rfl (Nat.le_of_ble_eq_true rfl) (Nat.le_of_ble_eq_true rfl) [0, 1] (w' := [(mp_ob1 a0 a1 y0 y1 a2), (mp_arI E a1 0 36 f0)]) rfl rfl ⟨z_17, rfl, rfl⟩ (by first | exact mp_fd_ok mp_k_cX1_ringOf_ok (by decide +kernel) | decide +kernel)
set_option maxHeartbeats 4000000 in
set_option maxRecDepth 100000 in
theorem bX1_seekRing_134 (E : mp_E) (a0 a1 a2 : Nat) (f0 : Nat → Int32) (f1 : Nat → Int32) (y0 : Int32) (y1 : Int32) (l_y0 : 0 ≤ y0.toInt) (u_y0 : y0.toInt ≤ 6) : mp_Ct E yX1_seekRing cX1_seekRing 4 none 2 0 0 45 [.ref a0] [(mp_ob1 a0 a1 y0 y1 a2), (mp_arI E a1 0 36 f0), (mp_arI E a2 0 3 f1)] (fun v w' => ∃ r1 : Int32, ∃ h2 : Nat → Int32, v = none ∧ w' = [(mp_ob1 a0 a1 y0 r1 a2), (mp_arI E a1 0 36 f0), (mp_arI E a2 0 3 h2)]) := by
  refine mp_met false (by decide) (by decide) (Nat.le_of_ble_eq_true rfl) (fun X hF hQ => ?_)
  have hF : mp_F E X (RX1, cX1_seekRing, 4, (2, 0, 0, 45), none, false) := hF
  show mp_W E X 4 0 [(0, .ref a0)] [] [(mp_ob1 a0 a1 y0 y1 a2), (mp_arI E a1 0 36 f0), (mp_arI E a2 0 3 f1)] 0 0
  refine mp_run mp_k_cX1_seekRing_ok hF mp_tabX1_ok [mp_i (.aload_n 0), mp_c (.iconst 0) 0, mp_h (.putfield 66) [7, 0]] (by decide +kernel) ?_
  refine And.intro rfl (And.intro rfl (And.intro rfl (And.intro rfl (And.intro (Nat.le_of_ble_eq_true rfl) ?_))))
  show mp_W E X 4 5 [(0, .ref a0)] [] [(mp_ob1 a0 a1 y0 0 a2), (mp_arI E a1 0 36 f0), (mp_arI E a2 0 3 f1)] 0 0
  refine mp_run mp_k_cX1_seekRing_ok hF mp_tabX1_ok [mp_c (.iconst 0) 0, mp_i (.istore_n 1)] (by decide +kernel) ?_
  show mp_W E X 4 7 [(1, .int 0), (0, .ref a0)] [] [(mp_ob1 a0 a1 y0 0 a2), (mp_arI E a1 0 36 f0), (mp_arI E a2 0 3 f1)] 0 0
  have lp_6 : ∀ (d_7 : Nat) (i_1 : Int32) (i_2 : Int32) (g_3 : Nat → Int32), 0 ≤ i_1.toInt → i_1.toInt ≤ 6 → y0.toInt - i_1.toInt ≤ (d_7 : Int) → mp_W E X 4 7 [(1, .int i_1), (0, .ref a0)] [] [(mp_ob1 a0 a1 y0 i_2 a2), (mp_arI E a1 0 36 f0), (mp_arI E a2 0 3 g_3)] 0 0 := by
    intro d_7
    induction d_7 using Nat.strongRecOn with
    | ind d_7 ih_8 =>
      intro i_1 i_2 g_3 l_4 u_5 hm_9
      refine mp_run mp_k_cX1_seekRing_ok hF mp_tabX1_ok [mp_i (.iload_n 1), mp_i (.aload_n 0), mp_h (.getfield 34) [6, 0], mp_h (.if_icmp .ge 102) [114]] (by decide +kernel) ?_
      refine And.intro rfl (And.intro rfl ?_)
      refine And.intro (fun c_10 => ?_) (fun c_10 => ?_)
      · have c_10 : y0.toInt ≤ i_1.toInt := c_10
        show mp_W E X 4 114 [(1, .int i_1), (0, .ref a0)] [] [(mp_ob1 a0 a1 y0 i_2 a2), (mp_arI E a1 0 36 f0), (mp_arI E a2 0 3 g_3)] 0 0
        exact mp_vret hF hQ rfl (Nat.le_of_ble_eq_true rfl) (Nat.le_of_ble_eq_true rfl) [0, 1, 2] (w' := [(mp_ob1 a0 a1 y0 i_2 a2), (mp_arI E a1 0 36 f0), (mp_arI E a2 0 3 g_3)]) rfl rfl ⟨i_2, g_3, rfl, rfl⟩ (by first | exact mp_fd_ok mp_k_cX1_seekRing_ok (by decide +kernel) | decide +kernel)
      · have c_10 : i_1.toInt < y0.toInt := c_10
        show mp_W E X 4 15 [(1, .int i_1), (0, .ref a0)] [] [(mp_ob1 a0 a1 y0 i_2 a2), (mp_arI E a1 0 36 f0), (mp_arI E a2 0 3 g_3)] 0 0
        refine mp_run mp_k_cX1_seekRing_ok hF mp_tabX1_ok [mp_c (.iconst 0) 0, mp_i (.istore_n 2)] (by decide +kernel) ?_
        show mp_W E X 4 17 [(2, .int 0), (1, .int i_1), (0, .ref a0)] [] [(mp_ob1 a0 a1 y0 i_2 a2), (mp_arI E a1 0 36 f0), (mp_arI E a2 0 3 g_3)] 0 0
        have lp_16 : ∀ (d_17 : Nat) (i_11 : Int32) (i_12 : Int32) (g_13 : Nat → Int32), 0 ≤ i_11.toInt → i_11.toInt ≤ 6 → y0.toInt - i_11.toInt ≤ (d_17 : Int) → mp_W E X 4 17 [(2, .int i_11), (1, .int i_1), (0, .ref a0)] [] [(mp_ob1 a0 a1 y0 i_12 a2), (mp_arI E a1 0 36 f0), (mp_arI E a2 0 3 g_13)] 0 0 := by
          intro d_17
          induction d_17 using Nat.strongRecOn with
          | ind d_17 ih_18 =>
            intro i_11 i_12 g_13 l_14 u_15 hm_19
            refine mp_run mp_k_cX1_seekRing_ok hF mp_tabX1_ok [mp_i (.iload_n 2), mp_i (.aload_n 0), mp_h (.getfield 34) [6, 0], mp_h (.if_icmp .ge 86) [108]] (by decide +kernel) ?_
            refine And.intro rfl (And.intro rfl ?_)
            refine And.intro (fun c_20 => ?_) (fun c_20 => ?_)
            · have c_20 : y0.toInt ≤ i_11.toInt := c_20
              show mp_W E X 4 108 [(2, .int i_11), (1, .int i_1), (0, .ref a0)] [] [(mp_ob1 a0 a1 y0 i_12 a2), (mp_arI E a1 0 36 f0), (mp_arI E a2 0 3 g_13)] 0 0
              refine mp_run mp_k_cX1_seekRing_ok hF mp_tabX1_ok [mp_c (.iinc 1 1) 1, mp_h (.goto (-104)) [7]] (by decide +kernel) ?_
              intro z_21 h_22
              have e_23 : z_21.toInt = i_1.toInt + 1 := mp_add (a := i_1.toInt) (b := 1) h_22 rfl (by decide) (by (first | exact mp_o2 l_4 | omega)) (by (first | exact mp_o351 u_5 | omega))
              show mp_W E X 4 7 [(1, .int z_21), (2, .int i_11), (0, .ref a0)] [] [(mp_ob1 a0 a1 y0 i_12 a2), (mp_arI E a1 0 36 f0), (mp_arI E a2 0 3 g_13)] 0 0
              exact mp_sub [0, 2] rfl [0, 1, 2] rfl rfl (ih_8 (d_7 - 1) (by (first | exact mp_o72 hm_9 c_10 | omega)) z_21 i_12 g_13 (by (first | exact mp_o51 l_4 e_23 | omega)) (by (first | exact mp_o352 u_y0 c_10 e_23 | omega)) (by (first | exact mp_o77 hm_9 e_23 | omega)))
            · have c_20 : i_11.toInt < y0.toInt := c_20
              show mp_W E X 4 25 [(2, .int i_11), (1, .int i_1), (0, .ref a0)] [] [(mp_ob1 a0 a1 y0 i_12 a2), (mp_arI E a1 0 36 f0), (mp_arI E a2 0 3 g_13)] 0 0
              refine mp_run mp_k_cX1_seekRing_ok hF mp_tabX1_ok [mp_c (.iconst 0) 0, mp_i (.istore_n 3)] (by decide +kernel) ?_
              show mp_W E X 4 27 [(3, .int 0), (2, .int i_11), (1, .int i_1), (0, .ref a0)] [] [(mp_ob1 a0 a1 y0 i_12 a2), (mp_arI E a1 0 36 f0), (mp_arI E a2 0 3 g_13)] 0 0
              have lp_29 : ∀ (d_30 : Nat) (i_24 : Int32) (i_25 : Int32) (g_26 : Nat → Int32), 0 ≤ i_24.toInt → i_24.toInt ≤ 6 → y0.toInt - i_24.toInt ≤ (d_30 : Int) → mp_W E X 4 27 [(3, .int i_24), (2, .int i_11), (1, .int i_1), (0, .ref a0)] [] [(mp_ob1 a0 a1 y0 i_25 a2), (mp_arI E a1 0 36 f0), (mp_arI E a2 0 3 g_26)] 0 0 := by
                intro d_30
                induction d_30 using Nat.strongRecOn with
                | ind d_30 ih_31 =>
                  intro i_24 i_25 g_26 l_27 u_28 hm_32
                  refine mp_run mp_k_cX1_seekRing_ok hF mp_tabX1_ok [mp_i (.iload_n 3), mp_i (.aload_n 0), mp_h (.getfield 34) [6, 0], mp_h (.if_icmp .ge 70) [102]] (by decide +kernel) ?_
                  refine And.intro rfl (And.intro rfl ?_)
                  refine And.intro (fun c_33 => ?_) (fun c_33 => ?_)
                  · have c_33 : y0.toInt ≤ i_24.toInt := c_33
                    show mp_W E X 4 102 [(3, .int i_24), (2, .int i_11), (1, .int i_1), (0, .ref a0)] [] [(mp_ob1 a0 a1 y0 i_25 a2), (mp_arI E a1 0 36 f0), (mp_arI E a2 0 3 g_26)] 0 0
                    refine mp_run mp_k_cX1_seekRing_ok hF mp_tabX1_ok [mp_c (.iinc 2 1) 1, mp_h (.goto (-88)) [17]] (by decide +kernel) ?_
                    intro z_34 h_35
                    have e_36 : z_34.toInt = i_11.toInt + 1 := mp_add (a := i_11.toInt) (b := 1) h_35 rfl (by decide) (by (first | exact mp_o2 l_14 | omega)) (by (first | exact mp_o351 u_15 | omega))
                    show mp_W E X 4 17 [(2, .int z_34), (3, .int i_24), (1, .int i_1), (0, .ref a0)] [] [(mp_ob1 a0 a1 y0 i_25 a2), (mp_arI E a1 0 36 f0), (mp_arI E a2 0 3 g_26)] 0 0
                    exact mp_sub [0, 2, 3] rfl [0, 1, 2] rfl rfl (ih_18 (d_17 - 1) (by (first | exact mp_o72 hm_19 c_20 | omega)) z_34 i_25 g_26 (by (first | exact mp_o51 l_14 e_36 | omega)) (by (first | exact mp_o352 u_y0 c_20 e_36 | omega)) (by (first | exact mp_o77 hm_19 e_36 | omega)))
                  · have c_33 : i_24.toInt < y0.toInt := c_33
                    show mp_W E X 4 35 [(3, .int i_24), (2, .int i_11), (1, .int i_1), (0, .ref a0)] [] [(mp_ob1 a0 a1 y0 i_25 a2), (mp_arI E a1 0 36 f0), (mp_arI E a2 0 3 g_26)] 0 0
                    refine mp_run mp_k_cX1_seekRing_ok hF mp_tabX1_ok [mp_i (.iload_n 1), mp_i (.iload_n 2), mp_h (.if_icmp .eq 59) [96]] (by decide +kernel) ?_
                    refine And.intro (fun c_37 => ?_) (fun c_37 => ?_)
                    · have c_37 : i_1.toInt = i_11.toInt := (congrArg Int32.toInt c_37)
                      show mp_W E X 4 96 [(3, .int i_24), (2, .int i_11), (1, .int i_1), (0, .ref a0)] [] [(mp_ob1 a0 a1 y0 i_25 a2), (mp_arI E a1 0 36 f0), (mp_arI E a2 0 3 g_26)] 0 0
                      refine mp_run mp_k_cX1_seekRing_ok hF mp_tabX1_ok [mp_c (.iinc 3 1) 1, mp_h (.goto (-72)) [27]] (by decide +kernel) ?_
                      intro z_38 h_39
                      have e_40 : z_38.toInt = i_24.toInt + 1 := mp_add (a := i_24.toInt) (b := 1) h_39 rfl (by decide) (by (first | exact mp_o2 l_27 | omega)) (by (first | exact mp_o351 u_28 | omega))
                      show mp_W E X 4 27 [(3, .int z_38), (2, .int i_11), (1, .int i_1), (0, .ref a0)] [] [(mp_ob1 a0 a1 y0 i_25 a2), (mp_arI E a1 0 36 f0), (mp_arI E a2 0 3 g_26)] 0 0
                      exact mp_sub [0, 1, 2, 3] rfl [0, 1, 2] rfl rfl (ih_31 (d_30 - 1) (by (first | exact mp_o72 hm_32 c_33 | omega)) z_38 i_25 g_26 (by (first | exact mp_o51 l_27 e_40 | omega)) (by (first | exact mp_o352 u_y0 c_33 e_40 | omega)) (by (first | exact mp_o77 hm_32 e_40 | omega)))
                    · have c_37 : i_1.toInt ≠ i_11.toInt := c_37
                      show mp_W E X 4 40 [(3, .int i_24), (2, .int i_11), (1, .int i_1), (0, .ref a0)] [] [(mp_ob1 a0 a1 y0 i_25 a2), (mp_arI E a1 0 36 f0), (mp_arI E a2 0 3 g_26)] 0 0
                      refine mp_run mp_k_cX1_seekRing_ok hF mp_tabX1_ok [mp_i (.iload_n 2), mp_i (.iload_n 3), mp_h (.if_icmp .eq 54) [96]] (by decide +kernel) ?_
                      refine And.intro (fun c_41 => ?_) (fun c_41 => ?_)
                      · have c_41 : i_11.toInt = i_24.toInt := (congrArg Int32.toInt c_41)
                        show mp_W E X 4 96 [(3, .int i_24), (2, .int i_11), (1, .int i_1), (0, .ref a0)] [] [(mp_ob1 a0 a1 y0 i_25 a2), (mp_arI E a1 0 36 f0), (mp_arI E a2 0 3 g_26)] 0 0
                        refine mp_run mp_k_cX1_seekRing_ok hF mp_tabX1_ok [mp_c (.iinc 3 1) 1, mp_h (.goto (-72)) [27]] (by decide +kernel) ?_
                        intro z_42 h_43
                        have e_44 : z_42.toInt = i_24.toInt + 1 := mp_add (a := i_24.toInt) (b := 1) h_43 rfl (by decide) (by (first | exact mp_o626 l_14 c_41 | omega)) (by (first | exact mp_o627 c_41 u_15 | omega))
                        show mp_W E X 4 27 [(3, .int z_42), (2, .int i_11), (1, .int i_1), (0, .ref a0)] [] [(mp_ob1 a0 a1 y0 i_25 a2), (mp_arI E a1 0 36 f0), (mp_arI E a2 0 3 g_26)] 0 0
                        exact mp_sub [0, 1, 2, 3] rfl [0, 1, 2] rfl rfl (ih_31 (d_30 - 1) (by (first | exact mp_o628 hm_32 c_20 c_41 | omega)) z_42 i_25 g_26 (by (first | exact mp_o629 l_14 e_44 c_41 | omega)) (by (first | exact mp_o630 u_y0 c_20 e_44 c_41 | omega)) (by (first | exact mp_o77 hm_32 e_44 | omega)))
                      · have c_41 : i_11.toInt ≠ i_24.toInt := c_41
                        show mp_W E X 4 45 [(3, .int i_24), (2, .int i_11), (1, .int i_1), (0, .ref a0)] [] [(mp_ob1 a0 a1 y0 i_25 a2), (mp_arI E a1 0 36 f0), (mp_arI E a2 0 3 g_26)] 0 0
                        refine mp_run mp_k_cX1_seekRing_ok hF mp_tabX1_ok [mp_i (.iload_n 3), mp_i (.iload_n 1), mp_h (.if_icmp .eq 49) [96]] (by decide +kernel) ?_
                        refine And.intro (fun c_45 => ?_) (fun c_45 => ?_)
                        · have c_45 : i_24.toInt = i_1.toInt := (congrArg Int32.toInt c_45)
                          show mp_W E X 4 96 [(3, .int i_24), (2, .int i_11), (1, .int i_1), (0, .ref a0)] [] [(mp_ob1 a0 a1 y0 i_25 a2), (mp_arI E a1 0 36 f0), (mp_arI E a2 0 3 g_26)] 0 0
                          refine mp_run mp_k_cX1_seekRing_ok hF mp_tabX1_ok [mp_c (.iinc 3 1) 1, mp_h (.goto (-72)) [27]] (by decide +kernel) ?_
                          intro z_46 h_47
                          have e_48 : z_46.toInt = i_24.toInt + 1 := mp_add (a := i_24.toInt) (b := 1) h_47 rfl (by decide) (by (first | exact mp_o2 l_27 | omega)) (by (first | exact mp_o351 u_28 | omega))
                          show mp_W E X 4 27 [(3, .int z_46), (2, .int i_11), (1, .int i_1), (0, .ref a0)] [] [(mp_ob1 a0 a1 y0 i_25 a2), (mp_arI E a1 0 36 f0), (mp_arI E a2 0 3 g_26)] 0 0
                          exact mp_sub [0, 1, 2, 3] rfl [0, 1, 2] rfl rfl (ih_31 (d_30 - 1) (by (first | exact mp_o631 hm_32 c_10 c_45 | omega)) z_46 i_25 g_26 (by omega) (by (first | exact mp_o632 u_y0 c_10 c_45 e_48 | omega)) (by (first | exact mp_o77 hm_32 e_48 | omega)))
                        · have c_45 : i_24.toInt ≠ i_1.toInt := c_45
                          show mp_W E X 4 50 [(3, .int i_24), (2, .int i_11), (1, .int i_1), (0, .ref a0)] [] [(mp_ob1 a0 a1 y0 i_25 a2), (mp_arI E a1 0 36 f0), (mp_arI E a2 0 3 g_26)] 0 0
                          refine mp_run mp_k_cX1_seekRing_ok hF mp_tabX1_ok [mp_i (.aload_n 0), mp_i (.iload_n 1), mp_i (.iload_n 2), mp_i (.iload_n 3)] (by decide +kernel) ?_
                          show mp_W E X 4 54 [(3, .int i_24), (2, .int i_11), (1, .int i_1), (0, .ref a0)] [.int i_24, .int i_11, .int i_1, .ref a0] [(mp_ob1 a0 a1 y0 i_25 a2), (mp_arI E a1 0 36 f0), (mp_arI E a2 0 3 g_26)] 0 0
                          refine mp_callV hF (As := [.int i_1, .int i_11, .int i_24]) (rest := []) (wr := [(mp_arI E a2 0 3 g_26)]) (bX1_ringOf_133 E a0 a1 a2 f0 y0 i_25 i_1 i_11 i_24 l_4 (by (first | exact mp_o398 u_y0 c_10 | omega)) l_14 (by (first | exact mp_o398 u_y0 c_20 | omega)) l_27 (by (first | exact mp_o398 u_y0 c_33 | omega)) l_y0 u_y0) mp_lkX1_69 0 rfl [0, 1] [2] rfl rfl rfl rfl rfl ⟨(Nat.le_of_ble_eq_true rfl), (Nat.le_of_ble_eq_true rfl), (Nat.le_of_ble_eq_true rfl), (Nat.le_of_ble_eq_true rfl)⟩ (Nat.le_of_ble_eq_true rfl) (by first | exact mp_fd_ok mp_k_cX1_seekRing_ok (by decide +kernel) | decide +kernel) (fun v_49 w_50 h_51 => ?_)
                          obtain ⟨r_52, rfl, rfl⟩ := h_51
                          show mp_W E X 4 57 [(3, .int i_24), (2, .int i_11), (1, .int i_1), (0, .ref a0)] [.int r_52] [(mp_arI E a2 0 3 g_26), (mp_ob1 a0 a1 y0 i_25 a2), (mp_arI E a1 0 36 f0)] 0 0
                          refine mp_run mp_k_cX1_seekRing_ok hF mp_tabX1_ok [mp_i (.aload_n 0), mp_h (.getfield 66) [7, 1], mp_h (.if_icmp .le 35) [96]] (by decide +kernel) ?_
                          refine And.intro rfl (And.intro rfl ?_)
                          refine And.intro (fun c_53 => ?_) (fun c_53 => ?_)
                          · have c_53 : r_52.toInt ≤ i_25.toInt := c_53
                            show mp_W E X 4 96 [(3, .int i_24), (2, .int i_11), (1, .int i_1), (0, .ref a0)] [] [(mp_arI E a2 0 3 g_26), (mp_ob1 a0 a1 y0 i_25 a2), (mp_arI E a1 0 36 f0)] 0 0
                            refine mp_run mp_k_cX1_seekRing_ok hF mp_tabX1_ok [mp_c (.iinc 3 1) 1, mp_h (.goto (-72)) [27]] (by decide +kernel) ?_
                            intro z_54 h_55
                            have e_56 : z_54.toInt = i_24.toInt + 1 := mp_add (a := i_24.toInt) (b := 1) h_55 rfl (by decide) (by (first | exact mp_o2 l_27 | omega)) (by (first | exact mp_o351 u_28 | omega))
                            show mp_W E X 4 27 [(3, .int z_54), (2, .int i_11), (1, .int i_1), (0, .ref a0)] [] [(mp_arI E a2 0 3 g_26), (mp_ob1 a0 a1 y0 i_25 a2), (mp_arI E a1 0 36 f0)] 0 0
                            exact mp_sub [0, 1, 2, 3] rfl [1, 2, 0] rfl rfl (ih_31 (d_30 - 1) (by (first | exact mp_o72 hm_32 c_33 | omega)) z_54 i_25 g_26 (by (first | exact mp_o51 l_27 e_56 | omega)) (by (first | exact mp_o352 u_y0 c_33 e_56 | omega)) (by (first | exact mp_o77 hm_32 e_56 | omega)))
                          · have c_53 : i_25.toInt < r_52.toInt := c_53
                            show mp_W E X 4 64 [(3, .int i_24), (2, .int i_11), (1, .int i_1), (0, .ref a0)] [] [(mp_arI E a2 0 3 g_26), (mp_ob1 a0 a1 y0 i_25 a2), (mp_arI E a1 0 36 f0)] 0 0
                            refine mp_run mp_k_cX1_seekRing_ok hF mp_tabX1_ok [mp_i (.aload_n 0), mp_i (.aload_n 0), mp_i (.iload_n 1), mp_i (.iload_n 2), mp_i (.iload_n 3)] (by decide +kernel) ?_
                            show mp_W E X 4 69 [(3, .int i_24), (2, .int i_11), (1, .int i_1), (0, .ref a0)] [.int i_24, .int i_11, .int i_1, .ref a0, .ref a0] [(mp_arI E a2 0 3 g_26), (mp_ob1 a0 a1 y0 i_25 a2), (mp_arI E a1 0 36 f0)] 0 0
                            refine mp_callV hF (As := [.int i_1, .int i_11, .int i_24]) (rest := [.ref a0]) (wr := [(mp_arI E a2 0 3 g_26)]) (bX1_ringOf_133 E a0 a1 a2 f0 y0 i_25 i_1 i_11 i_24 l_4 (by (first | exact mp_o398 u_y0 c_10 | omega)) l_14 (by (first | exact mp_o398 u_y0 c_20 | omega)) l_27 (by (first | exact mp_o398 u_y0 c_33 | omega)) l_y0 u_y0) mp_lkX1_69 1 rfl [1, 2] [0] rfl rfl rfl rfl rfl ⟨(Nat.le_of_ble_eq_true rfl), (Nat.le_of_ble_eq_true rfl), (Nat.le_of_ble_eq_true rfl), (Nat.le_of_ble_eq_true rfl)⟩ (Nat.le_of_ble_eq_true rfl) (by first | exact mp_fd_ok mp_k_cX1_seekRing_ok (by decide +kernel) | decide +kernel) (fun v_57 w_58 h_59 => ?_)
                            obtain ⟨r_60, rfl, rfl⟩ := h_59
                            show mp_W E X 4 72 [(3, .int i_24), (2, .int i_11), (1, .int i_1), (0, .ref a0)] [.int r_60, .ref a0] [(mp_arI E a2 0 3 g_26), (mp_ob1 a0 a1 y0 i_25 a2), (mp_arI E a1 0 36 f0)] 0 0
                            refine mp_run mp_k_cX1_seekRing_ok hF mp_tabX1_ok [mp_h (.putfield 66) [7, 1]] (by decide +kernel) ?_
                            refine And.intro rfl (And.intro rfl (And.intro rfl (And.intro rfl (And.intro (Nat.le_of_ble_eq_true rfl) ?_))))
                            show mp_W E X 4 75 [(3, .int i_24), (2, .int i_11), (1, .int i_1), (0, .ref a0)] [] [(mp_arI E a2 0 3 g_26), (mp_ob1 a0 a1 y0 r_60 a2), (mp_arI E a1 0 36 f0)] 0 0
                            refine mp_run mp_k_cX1_seekRing_ok hF mp_tabX1_ok [mp_i (.aload_n 0), mp_h (.getfield 15) [8, 1], mp_c (.iconst 0) 0, mp_i (.iload_n 1), mp_h .iastore [0]] (by decide +kernel) ?_
                            refine And.intro rfl (And.intro rfl ?_)
                            refine And.intro rfl (And.intro rfl (And.intro (vp_in_iff.mpr (by decide)) ?_))
                            intro g_61 h_62
                            show mp_W E X 4 82 [(3, .int i_24), (2, .int i_11), (1, .int i_1), (0, .ref a0)] [] [(mp_arI E a2 0 3 g_61), (mp_ob1 a0 a1 y0 r_60 a2), (mp_arI E a1 0 36 f0)] 0 0
                            refine mp_run mp_k_cX1_seekRing_ok hF mp_tabX1_ok [mp_i (.aload_n 0), mp_h (.getfield 15) [8, 1], mp_c (.iconst 1) 1, mp_i (.iload_n 2), mp_h .iastore [0]] (by decide +kernel) ?_
                            refine And.intro rfl (And.intro rfl ?_)
                            refine And.intro rfl (And.intro rfl (And.intro (vp_in_iff.mpr (by decide)) ?_))
                            intro g_63 h_64
                            show mp_W E X 4 89 [(3, .int i_24), (2, .int i_11), (1, .int i_1), (0, .ref a0)] [] [(mp_arI E a2 0 3 g_63), (mp_ob1 a0 a1 y0 r_60 a2), (mp_arI E a1 0 36 f0)] 0 0
                            refine mp_run mp_k_cX1_seekRing_ok hF mp_tabX1_ok [mp_i (.aload_n 0), mp_h (.getfield 15) [8, 1], mp_c (.iconst 2) 2, mp_i (.iload_n 3), mp_h .iastore [0]] (by decide +kernel) ?_
                            refine And.intro rfl (And.intro rfl ?_)
                            refine And.intro rfl (And.intro rfl (And.intro (vp_in_iff.mpr (by decide)) ?_))
                            intro g_65 h_66
                            show mp_W E X 4 96 [(3, .int i_24), (2, .int i_11), (1, .int i_1), (0, .ref a0)] [] [(mp_arI E a2 0 3 g_65), (mp_ob1 a0 a1 y0 r_60 a2), (mp_arI E a1 0 36 f0)] 0 0
                            refine mp_run mp_k_cX1_seekRing_ok hF mp_tabX1_ok [mp_c (.iinc 3 1) 1, mp_h (.goto (-72)) [27]] (by decide +kernel) ?_
                            intro z_67 h_68
                            have e_69 : z_67.toInt = i_24.toInt + 1 := mp_add (a := i_24.toInt) (b := 1) h_68 rfl (by decide) (by (first | exact mp_o2 l_27 | omega)) (by (first | exact mp_o351 u_28 | omega))
                            show mp_W E X 4 27 [(3, .int z_67), (2, .int i_11), (1, .int i_1), (0, .ref a0)] [] [(mp_arI E a2 0 3 g_65), (mp_ob1 a0 a1 y0 r_60 a2), (mp_arI E a1 0 36 f0)] 0 0
                            exact mp_sub [0, 1, 2, 3] rfl [1, 2, 0] rfl rfl (ih_31 (d_30 - 1) (by omega) z_67 r_60 g_65 (by omega) (by omega) (by omega))
              exact mp_sub [0, 1, 2, 3] rfl [0, 1, 2] rfl rfl (lp_29 _ 0 i_12 g_13 (by decide) (by decide) (Int.self_le_toNat _))
        exact mp_sub [0, 1, 2] rfl [0, 1, 2] rfl rfl (lp_16 _ 0 i_2 g_3 (by decide) (by decide) (Int.self_le_toNat _))
  exact mp_sub [0, 1] rfl [0, 1, 2] rfl rfl (lp_6 _ 0 0 f1 (by decide) (by decide) (Int.self_le_toNat _))
set_option maxHeartbeats 4000000 in
set_option maxRecDepth 100000 in
theorem bX9_ring_135 (E : mp_E) (a0 a1 a2 a3 a4 a5 a6 a7 a8 a9 a10 a11 a12 a13 a14 a15 a16 a17 a18 a19 a20 a21 a22 a23 a24 a25 a26 a27 a28 a29 a30 : Nat) (f0 : Nat → Int32) (f1 : Nat → Int32) (f2 : Nat → Int32) (f3 : Nat → Int32) (f4 : Nat → Int32) (f5 : Nat → Int32) (f6 : Nat → Int32) (f7 : Nat → Int64) (f8 : Nat → Int32) (f9 : Nat → Int32) (f10 : Nat → Int32) (f11 : Nat → Int32) (y0 : Int32) (y1 : Int32) (y2 : Int32) (y3 : Int32) (y4 : Int32) (y5 : Int32) (y6 : Int32) (y7 : Int32) (y8 : Int32) (x0 : Int32) (p0 : mp_all f1 10 0 5) (p1 : mp_all f2 10 0 5) (p2 : mp_all f4 10 0 99) (p3 : mp_all f5 10 0 1) (p4 : mp_all f6 10 (-1) 9) (l_y0 : 0 ≤ y0.toInt) (u_y0 : y0.toInt ≤ 99) (l_y2 : 0 ≤ y2.toInt) (u_y2 : y2.toInt ≤ 6) (l_y3 : 0 ≤ y3.toInt) (u_y3 : y3.toInt ≤ 99) (l_y4 : 0 ≤ y4.toInt) (u_y4 : y4.toInt ≤ 6) (l_y5 : 0 ≤ y5.toInt) (u_y5 : y5.toInt ≤ 10) (l_y6 : 0 ≤ y6.toInt) (u_y6 : y6.toInt ≤ 60) (l_y7 : 0 ≤ y7.toInt) (u_y7 : y7.toInt ≤ 6) : mp_Ct E yX9_ring cX9_ring 2 (some FieldType.int) 5 0 0 122 [.ref a0, .int x0] [(mp_ob9 a0 a16 a1 a17 a13 a18 a19 a20 a21 a22), (mp_ob0 a1 a2 y0 a23 a24 a25 a10 a11 a12), (mp_ob7 a2 y1 y2 y3 y4 y5 y6 a26 a27 a28 a3 a29 a4 a5 a6 a7 a8 a9 a30), (mp_arI E a3 0 6 f0), (mp_arI E a4 0 10 f1), (mp_arI E a5 0 10 f2), (mp_arI E a6 0 10 f3), (mp_arI E a7 0 10 f4), (mp_arI E a8 0 10 f5), (mp_arI E a9 0 10 f6), (mp_arL E a10 20 f7), (mp_arI E a11 0 10 f8), (mp_arI E a12 0 10 f9), (mp_ob1 a13 a14 y7 y8 a15), (mp_arI E a14 0 36 f10), (mp_arI E a15 0 3 f11)] (fun v w' => ∃ h1 : Nat → Int32, ∃ h2 : Nat → Int32, ∃ r3 : Int32, ∃ r4 : Int32, ∃ h5 : Nat → Int32, ∃ h6 : Nat → Int32, ∃ r7 : Int32, v = some (.int r7) ∧ 0 ≤ r3.toInt ∧ r3.toInt ≤ 6 ∧ w' = [(mp_ob9 a0 a16 a1 a17 a13 a18 a19 a20 a21 a22), (mp_ob0 a1 a2 y0 a23 a24 a25 a10 a11 a12), (mp_ob7 a2 y1 y2 y3 y4 y5 y6 a26 a27 a28 a3 a29 a4 a5 a6 a7 a8 a9 a30), (mp_arI E a3 0 6 f0), (mp_arI E a4 0 10 f1), (mp_arI E a5 0 10 f2), (mp_arI E a6 0 10 f3), (mp_arI E a7 0 10 f4), (mp_arI E a8 0 10 f5), (mp_arI E a9 0 10 f6), (mp_arL E a10 20 f7), (mp_arI E a11 0 10 h1), (mp_arI E a12 0 10 h2), (mp_ob1 a13 a14 r3 r4 a15), (mp_arI E a14 0 36 h5), (mp_arI E a15 0 3 h6)]) := by
  refine mp_met false (by decide) (by decide) (Nat.le_of_ble_eq_true rfl) (fun X hF hQ => ?_)
  have hF : mp_F E X (RX9, cX9_ring, 2, (5, 0, 0, 122), (some FieldType.int), false) := hF
  let w1_ : va_W := [(mp_ob9 a0 a16 a1 a17 a13 a18 a19 a20 a21 a22), (mp_ob0 a1 a2 y0 a23 a24 a25 a10 a11 a12), (mp_ob7 a2 y1 y2 y3 y4 y5 y6 a26 a27 a28 a3 a29 a4 a5 a6 a7 a8 a9 a30), (mp_arI E a3 0 6 f0), (mp_arI E a4 0 10 f1), (mp_arI E a5 0 10 f2), (mp_arI E a6 0 10 f3), (mp_arI E a7 0 10 f4), (mp_arI E a8 0 10 f5), (mp_arI E a9 0 10 f6), (mp_arL E a10 20 f7), (mp_arI E a11 0 10 f8), (mp_arI E a12 0 10 f9), (mp_ob1 a13 a14 y7 y8 a15), (mp_arI E a14 0 36 f10), (mp_arI E a15 0 3 f11)]
  show mp_W E X 2 0 [(0, .ref a0), (1, .int x0)] [] w1_ 0 0
  refine mp_run mp_k_cX9_ring_ok hF mp_tabX9_ok [mp_i (.aload_n 0), mp_i (.iload_n 1)] (by decide +kernel) ?_
  show mp_W E X 2 2 [(0, .ref a0), (1, .int x0)] [.int x0, .ref a0] w1_ 0 0
  refine mp_callV hF (As := [.int x0]) (rest := []) (wr := [(mp_arI E a3 0 6 f0), (mp_arI E a4 0 10 f1), (mp_arI E a5 0 10 f2), (mp_arI E a6 0 10 f3), (mp_arI E a7 0 10 f4), (mp_arI E a8 0 10 f5), (mp_arI E a9 0 10 f6), (mp_arL E a10 20 f7), (mp_arI E a11 0 10 f8), (mp_arI E a12 0 10 f9), (mp_ob1 a13 a14 y7 y8 a15), (mp_arI E a14 0 36 f10), (mp_arI E a15 0 3 f11)]) (bX9_isToldMoon_78 E a0 a1 a2 a16 a17 a13 a18 a19 a20 a21 a22 a23 a24 a25 a10 a11 a12 a26 a27 a28 a3 a29 a4 a5 a6 a7 a8 a9 a30 y0 y1 y2 y3 y4 y5 y6 x0 l_y0 u_y0 l_y2 u_y2 l_y3 u_y3 l_y4 u_y4 l_y5 u_y5 l_y6 u_y6) mp_lkX9_187 0 rfl [0, 1, 2] [3, 4, 5, 6, 7, 8, 9, 10, 11, 12, 13, 14, 15] rfl rfl rfl rfl rfl ⟨(Nat.le_of_ble_eq_true rfl), (Nat.le_of_ble_eq_true rfl), (Nat.le_of_ble_eq_true rfl), (Nat.le_of_ble_eq_true rfl)⟩ (Nat.le_of_ble_eq_true rfl) (by first | exact mp_fd_ok mp_k_cX9_ring_ok (by decide +kernel) | decide +kernel) (fun v_1 w_2 h_3 => ?_)
  rcases h_3 with ⟨rfl, rfl⟩ | ⟨rfl, c_4, c_5, c_6, rfl⟩
  · skip
    let w2_ : va_W := [(mp_arI E a3 0 6 f0), (mp_arI E a4 0 10 f1), (mp_arI E a5 0 10 f2), (mp_arI E a6 0 10 f3), (mp_arI E a7 0 10 f4), (mp_arI E a8 0 10 f5), (mp_arI E a9 0 10 f6), (mp_arL E a10 20 f7), (mp_arI E a11 0 10 f8), (mp_arI E a12 0 10 f9), (mp_ob1 a13 a14 y7 y8 a15), (mp_arI E a14 0 36 f10), (mp_arI E a15 0 3 f11), (mp_ob9 a0 a16 a1 a17 a13 a18 a19 a20 a21 a22), (mp_ob0 a1 a2 y0 a23 a24 a25 a10 a11 a12), (mp_ob7 a2 y1 y2 y3 y4 y5 y6 a26 a27 a28 a3 a29 a4 a5 a6 a7 a8 a9 a30)]
    show mp_W E X 2 5 [(0, .ref a0), (1, .int x0)] [.int 0] w2_ 0 0
    refine mp_run mp_k_cX9_ring_ok hF mp_tabX9_ok [mp_h (.ifCond .ne 6) [11]] (by decide +kernel) ?_
    refine And.intro (fun c_7 => absurd c_7 (by decide)) (fun _ => ?_)
    show mp_W E X 2 8 [(0, .ref a0), (1, .int x0)] [] w2_ 0 0
    refine mp_run mp_k_cX9_ring_ok hF mp_tabX9_ok [mp_c (.bipush (-2)) (-2)] (by decide +kernel) ?_
    show mp_W E X 2 10 [(0, .ref a0), (1, .int x0)] [.int (-2)] w2_ 0 0
    exact mp_iret hF hQ rfl rfl (Nat.le_of_ble_eq_true rfl) (Nat.le_of_ble_eq_true rfl) [13, 14, 15, 0, 1, 2, 3, 4, 5, 6, 7, 8, 9, 10, 11, 12] (w' := w1_) rfl rfl ⟨f8, f9, y7, y8, f10, f11, (-2), rfl, l_y7, u_y7, rfl⟩ (by first | exact mp_fd_ok mp_k_cX9_ring_ok (by decide +kernel) | decide +kernel)
  · skip
    have c_4 : 0 < y1.toInt := c_4
    have c_5 : 0 ≤ x0.toInt := c_5
    have c_6 : x0.toInt ≤ 99 := c_6
    let w3_ : va_W := [(mp_arI E a3 0 6 f0), (mp_arI E a4 0 10 f1), (mp_arI E a5 0 10 f2), (mp_arI E a6 0 10 f3), (mp_arI E a7 0 10 f4), (mp_arI E a8 0 10 f5), (mp_arI E a9 0 10 f6), (mp_arL E a10 20 f7), (mp_arI E a11 0 10 f8), (mp_arI E a12 0 10 f9), (mp_ob1 a13 a14 y7 y8 a15), (mp_arI E a14 0 36 f10), (mp_arI E a15 0 3 f11), (mp_ob9 a0 a16 a1 a17 a13 a18 a19 a20 a21 a22), (mp_ob0 a1 a2 y0 a23 a24 a25 a10 a11 a12), (mp_ob7 a2 y1 y2 y3 y4 y5 y6 a26 a27 a28 a3 a29 a4 a5 a6 a7 a8 a9 a30)]
    show mp_W E X 2 5 [(0, .ref a0), (1, .int x0)] [.int 1] w3_ 0 0
    refine mp_run mp_k_cX9_ring_ok hF mp_tabX9_ok [mp_h (.ifCond .ne 6) [11]] (by decide +kernel) ?_
    refine And.intro (fun _ => ?_) (fun c_8 => absurd c_8 (by decide))
    show mp_W E X 2 11 [(0, .ref a0), (1, .int x0)] [] w3_ 0 0
    refine mp_run mp_k_cX9_ring_ok hF mp_tabX9_ok [mp_i (.aload_n 0), mp_h (.getfield 32) [39, 13], mp_i (.aload_n 0), mp_h (.getfield 19) [37, 13], mp_i (.iload_n 1)] (by decide +kernel) ?_
    refine And.intro rfl (And.intro rfl ?_)
    refine And.intro rfl (And.intro rfl ?_)
    show mp_W E X 2 20 [(0, .ref a0), (1, .int x0)] [.int x0, .ref a1, .ref a13] w3_ 0 0
    refine mp_callV hF (As := [.ref a1, .int x0]) (rest := []) (wr := [(mp_arI E a15 0 3 f11), (mp_ob9 a0 a16 a1 a17 a13 a18 a19 a20 a21 a22)]) (bX1_fill_72 E a13 a1 a14 a2 a3 a4 a5 a6 a7 a8 a9 a10 a11 a12 a15 a23 a24 a25 a26 a27 a28 a29 a30 f10 f0 f1 f2 f3 f4 f5 f6 f7 f8 f9 y7 y8 y0 y1 y2 y3 y4 y5 y6 x0 p0 p1 p2 p3 p4 l_y7 u_y7 l_y0 u_y0 l_y2 u_y2 l_y3 u_y3 l_y4 u_y4 l_y5 u_y5 l_y6 u_y6) mp_lkX9_172 10 rfl [10, 11, 14, 15, 0, 1, 2, 3, 4, 5, 6, 7, 8, 9] [12, 13] rfl rfl rfl rfl rfl ⟨(Nat.le_of_ble_eq_true rfl), (Nat.le_of_ble_eq_true rfl), (Nat.le_of_ble_eq_true rfl), (Nat.le_of_ble_eq_true rfl)⟩ (Nat.le_of_ble_eq_true rfl) (by first | exact mp_fd_ok mp_k_cX9_ring_ok (by decide +kernel) | decide +kernel) (fun v_9 w_10 h_11 => ?_)
    obtain ⟨g_12, g_13, g_14, rfl, rfl⟩ := h_11
    let w4_ : va_W := [(mp_arI E a15 0 3 f11), (mp_ob9 a0 a16 a1 a17 a13 a18 a19 a20 a21 a22), (mp_ob1 a13 a14 y4 y8 a15), (mp_arI E a14 0 36 g_12), (mp_ob0 a1 a2 y0 a23 a24 a25 a10 a11 a12), (mp_ob7 a2 y1 y2 y3 y4 y5 y6 a26 a27 a28 a3 a29 a4 a5 a6 a7 a8 a9 a30), (mp_arI E a3 0 6 f0), (mp_arI E a4 0 10 f1), (mp_arI E a5 0 10 f2), (mp_arI E a6 0 10 f3), (mp_arI E a7 0 10 f4), (mp_arI E a8 0 10 f5), (mp_arI E a9 0 10 f6), (mp_arL E a10 20 f7), (mp_arI E a11 0 10 g_13), (mp_arI E a12 0 10 g_14)]
    show mp_W E X 2 23 [(0, .ref a0), (1, .int x0)] [] w4_ 0 0
    refine mp_run mp_k_cX9_ring_ok hF mp_tabX9_ok [mp_i (.aload_n 0), mp_h (.getfield 32) [39, 1]] (by decide +kernel) ?_
    refine And.intro rfl (And.intro rfl ?_)
    show mp_W E X 2 27 [(0, .ref a0), (1, .int x0)] [.ref a13] w4_ 0 0
    refine mp_callV hF (As := []) (rest := []) (wr := [(mp_ob9 a0 a16 a1 a17 a13 a18 a19 a20 a21 a22), (mp_ob0 a1 a2 y0 a23 a24 a25 a10 a11 a12), (mp_ob7 a2 y1 y2 y3 y4 y5 y6 a26 a27 a28 a3 a29 a4 a5 a6 a7 a8 a9 a30), (mp_arI E a3 0 6 f0), (mp_arI E a4 0 10 f1), (mp_arI E a5 0 10 f2), (mp_arI E a6 0 10 f3), (mp_arI E a7 0 10 f4), (mp_arI E a8 0 10 f5), (mp_arI E a9 0 10 f6), (mp_arL E a10 20 f7), (mp_arI E a11 0 10 g_13), (mp_arI E a12 0 10 g_14)]) (bX1_seekRing_134 E a13 a14 a15 g_12 f11 y4 y8 l_y4 u_y4) mp_lkX9_267 2 rfl [2, 3, 0] [1, 4, 5, 6, 7, 8, 9, 10, 11, 12, 13, 14, 15] rfl rfl rfl rfl rfl ⟨(Nat.le_of_ble_eq_true rfl), (Nat.le_of_ble_eq_true rfl), (Nat.le_of_ble_eq_true rfl), (Nat.le_of_ble_eq_true rfl)⟩ (Nat.le_of_ble_eq_true rfl) (by first | exact mp_fd_ok mp_k_cX9_ring_ok (by decide +kernel) | decide +kernel) (fun v_15 w_16 h_17 => ?_)
    obtain ⟨r_18, g_19, rfl, rfl⟩ := h_17
    let w5_ : va_W := [(mp_ob9 a0 a16 a1 a17 a13 a18 a19 a20 a21 a22), (mp_ob0 a1 a2 y0 a23 a24 a25 a10 a11 a12), (mp_ob7 a2 y1 y2 y3 y4 y5 y6 a26 a27 a28 a3 a29 a4 a5 a6 a7 a8 a9 a30), (mp_arI E a3 0 6 f0), (mp_arI E a4 0 10 f1), (mp_arI E a5 0 10 f2), (mp_arI E a6 0 10 f3), (mp_arI E a7 0 10 f4), (mp_arI E a8 0 10 f5), (mp_arI E a9 0 10 f6), (mp_arL E a10 20 f7), (mp_arI E a11 0 10 g_13), (mp_arI E a12 0 10 g_14), (mp_ob1 a13 a14 y4 r_18 a15), (mp_arI E a14 0 36 g_12), (mp_arI E a15 0 3 g_19)]
    show mp_W E X 2 30 [(0, .ref a0), (1, .int x0)] [] w5_ 0 0
    refine mp_run mp_k_cX9_ring_ok hF mp_tabX9_ok [mp_i (.aload_n 0), mp_h (.getfield 32) [39, 0], mp_h (.getfield 270) [24, 13]] (by decide +kernel) ?_
    refine And.intro rfl (And.intro rfl ?_)
    refine And.intro rfl (And.intro rfl ?_)
    show mp_W E X 2 37 [(0, .ref a0), (1, .int x0)] [.int r_18] w5_ 0 0
    exact mp_iret hF hQ rfl rfl (Nat.le_of_ble_eq_true rfl) (Nat.le_of_ble_eq_true rfl) [0, 1, 2, 3, 4, 5, 6, 7, 8, 9, 10, 11, 12, 13, 14, 15] (w' := w5_) rfl rfl ⟨g_13, g_14, y4, r_18, g_12, g_19, r_18, rfl, l_y4, u_y4, rfl⟩ (by first | exact mp_fd_ok mp_k_cX9_ring_ok (by decide +kernel) | decide +kernel)
set_option maxHeartbeats 4000000 in
set_option maxRecDepth 100000 in
theorem bX9_ringed_136 (E : mp_E) (a0 a1 a2 a3 a4 a5 a6 a7 a8 a9 a10 a11 a12 a13 a14 a15 a16 a17 a18 a19 a20 a21 a22 a23 a24 a25 a26 a27 a28 a29 a30 : Nat) (f0 : Nat → Int32) (f1 : Nat → Int32) (f2 : Nat → Int32) (f3 : Nat → Int32) (f4 : Nat → Int32) (f5 : Nat → Int32) (f6 : Nat → Int32) (f7 : Nat → Int64) (f8 : Nat → Int32) (f9 : Nat → Int32) (f10 : Nat → Int32) (f11 : Nat → Int32) (y0 : Int32) (y1 : Int32) (y2 : Int32) (y3 : Int32) (y4 : Int32) (y5 : Int32) (y6 : Int32) (y7 : Int32) (y8 : Int32) (x0 : Int32) (x1 : Int32) (p0 : mp_all f1 10 0 5) (p1 : mp_all f2 10 0 5) (p2 : mp_all f4 10 0 99) (p3 : mp_all f5 10 0 1) (p4 : mp_all f6 10 (-1) 9) (l_y0 : 0 ≤ y0.toInt) (u_y0 : y0.toInt ≤ 99) (l_y2 : 0 ≤ y2.toInt) (u_y2 : y2.toInt ≤ 6) (l_y3 : 0 ≤ y3.toInt) (u_y3 : y3.toInt ≤ 99) (l_y4 : 0 ≤ y4.toInt) (u_y4 : y4.toInt ≤ 6) (l_y5 : 0 ≤ y5.toInt) (u_y5 : y5.toInt ≤ 10) (l_y6 : 0 ≤ y6.toInt) (u_y6 : y6.toInt ≤ 60) (l_y7 : 0 ≤ y7.toInt) (u_y7 : y7.toInt ≤ 6) : mp_Ct E yX9_ringed cX9_ringed 3 (some FieldType.int) 5 0 0 122 [.ref a0, .int x0, .int x1] [(mp_ob9 a0 a16 a1 a17 a13 a18 a19 a20 a21 a22), (mp_ob0 a1 a2 y0 a23 a24 a25 a10 a11 a12), (mp_ob7 a2 y1 y2 y3 y4 y5 y6 a26 a27 a28 a3 a29 a4 a5 a6 a7 a8 a9 a30), (mp_arI E a3 0 6 f0), (mp_arI E a4 0 10 f1), (mp_arI E a5 0 10 f2), (mp_arI E a6 0 10 f3), (mp_arI E a7 0 10 f4), (mp_arI E a8 0 10 f5), (mp_arI E a9 0 10 f6), (mp_arL E a10 20 f7), (mp_arI E a11 0 10 f8), (mp_arI E a12 0 10 f9), (mp_ob1 a13 a14 y7 y8 a15), (mp_arI E a14 0 36 f10), (mp_arI E a15 0 3 f11)] (fun v w' => ∃ h1 : Nat → Int32, ∃ h2 : Nat → Int32, ∃ r3 : Int32, ∃ r4 : Int32, ∃ h5 : Nat → Int32, ∃ h6 : Nat → Int32, ∃ r7 : Int32, v = some (.int r7) ∧ 0 ≤ r3.toInt ∧ r3.toInt ≤ 6 ∧ w' = [(mp_ob9 a0 a16 a1 a17 a13 a18 a19 a20 a21 a22), (mp_ob0 a1 a2 y0 a23 a24 a25 a10 a11 a12), (mp_ob7 a2 y1 y2 y3 y4 y5 y6 a26 a27 a28 a3 a29 a4 a5 a6 a7 a8 a9 a30), (mp_arI E a3 0 6 f0), (mp_arI E a4 0 10 f1), (mp_arI E a5 0 10 f2), (mp_arI E a6 0 10 f3), (mp_arI E a7 0 10 f4), (mp_arI E a8 0 10 f5), (mp_arI E a9 0 10 f6), (mp_arL E a10 20 f7), (mp_arI E a11 0 10 h1), (mp_arI E a12 0 10 h2), (mp_ob1 a13 a14 r3 r4 a15), (mp_arI E a14 0 36 h5), (mp_arI E a15 0 3 h6)]) := by
  refine mp_met false (by decide) (by decide) (Nat.le_of_ble_eq_true rfl) (fun X hF hQ => ?_)
  have hF : mp_F E X (RX9, cX9_ringed, 3, (5, 0, 0, 122), (some FieldType.int), false) := hF
  let w1_ : va_W := [(mp_ob9 a0 a16 a1 a17 a13 a18 a19 a20 a21 a22), (mp_ob0 a1 a2 y0 a23 a24 a25 a10 a11 a12), (mp_ob7 a2 y1 y2 y3 y4 y5 y6 a26 a27 a28 a3 a29 a4 a5 a6 a7 a8 a9 a30), (mp_arI E a3 0 6 f0), (mp_arI E a4 0 10 f1), (mp_arI E a5 0 10 f2), (mp_arI E a6 0 10 f3), (mp_arI E a7 0 10 f4), (mp_arI E a8 0 10 f5), (mp_arI E a9 0 10 f6), (mp_arL E a10 20 f7), (mp_arI E a11 0 10 f8), (mp_arI E a12 0 10 f9), (mp_ob1 a13 a14 y7 y8 a15), (mp_arI E a14 0 36 f10), (mp_arI E a15 0 3 f11)]
  show mp_W E X 3 0 [(0, .ref a0), (1, .int x0), (2, .int x1)] [] w1_ 0 0
  refine mp_run mp_k_cX9_ringed_ok hF mp_tabX9_ok [mp_i (.aload_n 0), mp_i (.iload_n 1)] (by decide +kernel) ?_
  show mp_W E X 3 2 [(0, .ref a0), (1, .int x0), (2, .int x1)] [.int x0, .ref a0] w1_ 0 0
  refine mp_callV hF (As := [.int x0]) (rest := []) (wr := [(mp_arI E a3 0 6 f0), (mp_arI E a4 0 10 f1), (mp_arI E a5 0 10 f2), (mp_arI E a6 0 10 f3), (mp_arI E a7 0 10 f4), (mp_arI E a8 0 10 f5), (mp_arI E a9 0 10 f6), (mp_arL E a10 20 f7), (mp_arI E a11 0 10 f8), (mp_arI E a12 0 10 f9), (mp_ob1 a13 a14 y7 y8 a15), (mp_arI E a14 0 36 f10), (mp_arI E a15 0 3 f11)]) (bX9_isToldMoon_78 E a0 a1 a2 a16 a17 a13 a18 a19 a20 a21 a22 a23 a24 a25 a10 a11 a12 a26 a27 a28 a3 a29 a4 a5 a6 a7 a8 a9 a30 y0 y1 y2 y3 y4 y5 y6 x0 l_y0 u_y0 l_y2 u_y2 l_y3 u_y3 l_y4 u_y4 l_y5 u_y5 l_y6 u_y6) mp_lkX9_187 0 rfl [0, 1, 2] [3, 4, 5, 6, 7, 8, 9, 10, 11, 12, 13, 14, 15] rfl rfl rfl rfl rfl ⟨(Nat.le_of_ble_eq_true rfl), (Nat.le_of_ble_eq_true rfl), (Nat.le_of_ble_eq_true rfl), (Nat.le_of_ble_eq_true rfl)⟩ (Nat.le_of_ble_eq_true rfl) (by first | exact mp_fd_ok mp_k_cX9_ringed_ok (by decide +kernel) | decide +kernel) (fun v_1 w_2 h_3 => ?_)
  rcases h_3 with ⟨rfl, rfl⟩ | ⟨rfl, c_4, c_5, c_6, rfl⟩
  · skip
    let w2_ : va_W := [(mp_arI E a3 0 6 f0), (mp_arI E a4 0 10 f1), (mp_arI E a5 0 10 f2), (mp_arI E a6 0 10 f3), (mp_arI E a7 0 10 f4), (mp_arI E a8 0 10 f5), (mp_arI E a9 0 10 f6), (mp_arL E a10 20 f7), (mp_arI E a11 0 10 f8), (mp_arI E a12 0 10 f9), (mp_ob1 a13 a14 y7 y8 a15), (mp_arI E a14 0 36 f10), (mp_arI E a15 0 3 f11), (mp_ob9 a0 a16 a1 a17 a13 a18 a19 a20 a21 a22), (mp_ob0 a1 a2 y0 a23 a24 a25 a10 a11 a12), (mp_ob7 a2 y1 y2 y3 y4 y5 y6 a26 a27 a28 a3 a29 a4 a5 a6 a7 a8 a9 a30)]
    show mp_W E X 3 5 [(0, .ref a0), (1, .int x0), (2, .int x1)] [.int 0] w2_ 0 0
    refine mp_run mp_k_cX9_ringed_ok hF mp_tabX9_ok [mp_h (.ifCond .ne 6) [11]] (by decide +kernel) ?_
    refine And.intro (fun c_7 => absurd c_7 (by decide)) (fun _ => ?_)
    show mp_W E X 3 8 [(0, .ref a0), (1, .int x0), (2, .int x1)] [] w2_ 0 0
    refine mp_run mp_k_cX9_ringed_ok hF mp_tabX9_ok [mp_c (.bipush (-2)) (-2)] (by decide +kernel) ?_
    show mp_W E X 3 10 [(0, .ref a0), (1, .int x0), (2, .int x1)] [.int (-2)] w2_ 0 0
    exact mp_iret hF hQ rfl rfl (Nat.le_of_ble_eq_true rfl) (Nat.le_of_ble_eq_true rfl) [13, 14, 15, 0, 1, 2, 3, 4, 5, 6, 7, 8, 9, 10, 11, 12] (w' := w1_) rfl rfl ⟨f8, f9, y7, y8, f10, f11, (-2), rfl, l_y7, u_y7, rfl⟩ (by first | exact mp_fd_ok mp_k_cX9_ringed_ok (by decide +kernel) | decide +kernel)
  · skip
    have c_4 : 0 < y1.toInt := c_4
    have c_5 : 0 ≤ x0.toInt := c_5
    have c_6 : x0.toInt ≤ 99 := c_6
    let w3_ : va_W := [(mp_arI E a3 0 6 f0), (mp_arI E a4 0 10 f1), (mp_arI E a5 0 10 f2), (mp_arI E a6 0 10 f3), (mp_arI E a7 0 10 f4), (mp_arI E a8 0 10 f5), (mp_arI E a9 0 10 f6), (mp_arL E a10 20 f7), (mp_arI E a11 0 10 f8), (mp_arI E a12 0 10 f9), (mp_ob1 a13 a14 y7 y8 a15), (mp_arI E a14 0 36 f10), (mp_arI E a15 0 3 f11), (mp_ob9 a0 a16 a1 a17 a13 a18 a19 a20 a21 a22), (mp_ob0 a1 a2 y0 a23 a24 a25 a10 a11 a12), (mp_ob7 a2 y1 y2 y3 y4 y5 y6 a26 a27 a28 a3 a29 a4 a5 a6 a7 a8 a9 a30)]
    show mp_W E X 3 5 [(0, .ref a0), (1, .int x0), (2, .int x1)] [.int 1] w3_ 0 0
    refine mp_run mp_k_cX9_ringed_ok hF mp_tabX9_ok [mp_h (.ifCond .ne 6) [11]] (by decide +kernel) ?_
    refine And.intro (fun _ => ?_) (fun c_8 => absurd c_8 (by decide))
    show mp_W E X 3 11 [(0, .ref a0), (1, .int x0), (2, .int x1)] [] w3_ 0 0
    refine mp_run mp_k_cX9_ringed_ok hF mp_tabX9_ok [mp_i (.iload_n 2), mp_h (.ifCond .lt 8) [20]] (by decide +kernel) ?_
    refine And.intro (fun c_9 => ?_) (fun c_9 => ?_)
    · have c_9 : x1.toInt < 0 := c_9
      show mp_W E X 3 20 [(0, .ref a0), (1, .int x0), (2, .int x1)] [] w3_ 0 0
      refine mp_run mp_k_cX9_ringed_ok hF mp_tabX9_ok [mp_c (.iconst (-1)) (-1)] (by decide +kernel) ?_
      show mp_W E X 3 21 [(0, .ref a0), (1, .int x0), (2, .int x1)] [.int (-1)] w3_ 0 0
      exact mp_iret hF hQ rfl rfl (Nat.le_of_ble_eq_true rfl) (Nat.le_of_ble_eq_true rfl) [13, 14, 15, 0, 1, 2, 3, 4, 5, 6, 7, 8, 9, 10, 11, 12] (w' := w1_) rfl rfl ⟨f8, f9, y7, y8, f10, f11, (-1), rfl, l_y7, u_y7, rfl⟩ (by first | exact mp_fd_ok mp_k_cX9_ringed_ok (by decide +kernel) | decide +kernel)
    · have c_9 : 0 ≤ x1.toInt := c_9
      show mp_W E X 3 15 [(0, .ref a0), (1, .int x0), (2, .int x1)] [] w3_ 0 0
      refine mp_run mp_k_cX9_ringed_ok hF mp_tabX9_ok [mp_i (.iload_n 2), mp_c (.iconst 2) 2, mp_h (.if_icmp .le 5) [22]] (by decide +kernel) ?_
      refine And.intro (fun c_10 => ?_) (fun c_10 => ?_)
      · have c_10 : x1.toInt ≤ 2 := c_10
        show mp_W E X 3 22 [(0, .ref a0), (1, .int x0), (2, .int x1)] [] w3_ 0 0
        refine mp_run mp_k_cX9_ringed_ok hF mp_tabX9_ok [mp_i (.aload_n 0), mp_h (.getfield 32) [39, 13], mp_i (.aload_n 0), mp_h (.getfield 19) [37, 13], mp_i (.iload_n 1)] (by decide +kernel) ?_
        refine And.intro rfl (And.intro rfl ?_)
        refine And.intro rfl (And.intro rfl ?_)
        show mp_W E X 3 31 [(0, .ref a0), (1, .int x0), (2, .int x1)] [.int x0, .ref a1, .ref a13] w3_ 0 0
        refine mp_callV hF (As := [.ref a1, .int x0]) (rest := []) (wr := [(mp_arI E a15 0 3 f11), (mp_ob9 a0 a16 a1 a17 a13 a18 a19 a20 a21 a22)]) (bX1_fill_72 E a13 a1 a14 a2 a3 a4 a5 a6 a7 a8 a9 a10 a11 a12 a15 a23 a24 a25 a26 a27 a28 a29 a30 f10 f0 f1 f2 f3 f4 f5 f6 f7 f8 f9 y7 y8 y0 y1 y2 y3 y4 y5 y6 x0 p0 p1 p2 p3 p4 l_y7 u_y7 l_y0 u_y0 l_y2 u_y2 l_y3 u_y3 l_y4 u_y4 l_y5 u_y5 l_y6 u_y6) mp_lkX9_172 10 rfl [10, 11, 14, 15, 0, 1, 2, 3, 4, 5, 6, 7, 8, 9] [12, 13] rfl rfl rfl rfl rfl ⟨(Nat.le_of_ble_eq_true rfl), (Nat.le_of_ble_eq_true rfl), (Nat.le_of_ble_eq_true rfl), (Nat.le_of_ble_eq_true rfl)⟩ (Nat.le_of_ble_eq_true rfl) (by first | exact mp_fd_ok mp_k_cX9_ringed_ok (by decide +kernel) | decide +kernel) (fun v_11 w_12 h_13 => ?_)
        obtain ⟨g_14, g_15, g_16, rfl, rfl⟩ := h_13
        let w4_ : va_W := [(mp_arI E a15 0 3 f11), (mp_ob9 a0 a16 a1 a17 a13 a18 a19 a20 a21 a22), (mp_ob1 a13 a14 y4 y8 a15), (mp_arI E a14 0 36 g_14), (mp_ob0 a1 a2 y0 a23 a24 a25 a10 a11 a12), (mp_ob7 a2 y1 y2 y3 y4 y5 y6 a26 a27 a28 a3 a29 a4 a5 a6 a7 a8 a9 a30), (mp_arI E a3 0 6 f0), (mp_arI E a4 0 10 f1), (mp_arI E a5 0 10 f2), (mp_arI E a6 0 10 f3), (mp_arI E a7 0 10 f4), (mp_arI E a8 0 10 f5), (mp_arI E a9 0 10 f6), (mp_arL E a10 20 f7), (mp_arI E a11 0 10 g_15), (mp_arI E a12 0 10 g_16)]
        show mp_W E X 3 34 [(0, .ref a0), (1, .int x0), (2, .int x1)] [] w4_ 0 0
        refine mp_run mp_k_cX9_ringed_ok hF mp_tabX9_ok [mp_i (.aload_n 0), mp_h (.getfield 32) [39, 1]] (by decide +kernel) ?_
        refine And.intro rfl (And.intro rfl ?_)
        show mp_W E X 3 38 [(0, .ref a0), (1, .int x0), (2, .int x1)] [.ref a13] w4_ 0 0
        refine mp_callV hF (As := []) (rest := []) (wr := [(mp_ob9 a0 a16 a1 a17 a13 a18 a19 a20 a21 a22), (mp_ob0 a1 a2 y0 a23 a24 a25 a10 a11 a12), (mp_ob7 a2 y1 y2 y3 y4 y5 y6 a26 a27 a28 a3 a29 a4 a5 a6 a7 a8 a9 a30), (mp_arI E a3 0 6 f0), (mp_arI E a4 0 10 f1), (mp_arI E a5 0 10 f2), (mp_arI E a6 0 10 f3), (mp_arI E a7 0 10 f4), (mp_arI E a8 0 10 f5), (mp_arI E a9 0 10 f6), (mp_arL E a10 20 f7), (mp_arI E a11 0 10 g_15), (mp_arI E a12 0 10 g_16)]) (bX1_seekRing_134 E a13 a14 a15 g_14 f11 y4 y8 l_y4 u_y4) mp_lkX9_267 2 rfl [2, 3, 0] [1, 4, 5, 6, 7, 8, 9, 10, 11, 12, 13, 14, 15] rfl rfl rfl rfl rfl ⟨(Nat.le_of_ble_eq_true rfl), (Nat.le_of_ble_eq_true rfl), (Nat.le_of_ble_eq_true rfl), (Nat.le_of_ble_eq_true rfl)⟩ (Nat.le_of_ble_eq_true rfl) (by first | exact mp_fd_ok mp_k_cX9_ringed_ok (by decide +kernel) | decide +kernel) (fun v_17 w_18 h_19 => ?_)
        obtain ⟨r_20, g_21, rfl, rfl⟩ := h_19
        let w5_ : va_W := [(mp_ob9 a0 a16 a1 a17 a13 a18 a19 a20 a21 a22), (mp_ob0 a1 a2 y0 a23 a24 a25 a10 a11 a12), (mp_ob7 a2 y1 y2 y3 y4 y5 y6 a26 a27 a28 a3 a29 a4 a5 a6 a7 a8 a9 a30), (mp_arI E a3 0 6 f0), (mp_arI E a4 0 10 f1), (mp_arI E a5 0 10 f2), (mp_arI E a6 0 10 f3), (mp_arI E a7 0 10 f4), (mp_arI E a8 0 10 f5), (mp_arI E a9 0 10 f6), (mp_arL E a10 20 f7), (mp_arI E a11 0 10 g_15), (mp_arI E a12 0 10 g_16), (mp_ob1 a13 a14 y4 r_20 a15), (mp_arI E a14 0 36 g_14), (mp_arI E a15 0 3 g_21)]
        show mp_W E X 3 41 [(0, .ref a0), (1, .int x0), (2, .int x1)] [] w5_ 0 0
        refine mp_run mp_k_cX9_ringed_ok hF mp_tabX9_ok [mp_i (.aload_n 0), mp_h (.getfield 32) [39, 0], mp_h (.getfield 270) [24, 13], mp_h (.ifCond .ne 7) [55]] (by decide +kernel) ?_
        refine And.intro rfl (And.intro rfl ?_)
        refine And.intro rfl (And.intro rfl ?_)
        refine And.intro (fun c_22 => ?_) (fun c_22 => ?_)
        · have c_22 : r_20.toInt ≠ 0 := c_22
          show mp_W E X 3 55 [(0, .ref a0), (1, .int x0), (2, .int x1)] [] w5_ 0 0
          refine mp_run mp_k_cX9_ringed_ok hF mp_tabX9_ok [mp_i (.aload_n 0), mp_h (.getfield 32) [39, 0], mp_h (.getfield 273) [25, 13], mp_i (.iload_n 2), mp_h .iaload [15]] (by decide +kernel) ?_
          refine And.intro rfl (And.intro rfl ?_)
          refine And.intro rfl (And.intro rfl ?_)
          refine And.intro rfl (And.intro rfl (And.intro (vp_in_iff.mpr (by (first | exact mp_o633 c_9 c_10 | omega))) ?_))
          intro z_23 h_24
          show mp_W E X 3 64 [(0, .ref a0), (1, .int x0), (2, .int x1)] [.int z_23] w5_ 0 0
          exact mp_iret hF hQ rfl rfl (Nat.le_of_ble_eq_true rfl) (Nat.le_of_ble_eq_true rfl) [0, 1, 2, 3, 4, 5, 6, 7, 8, 9, 10, 11, 12, 13, 14, 15] (w' := w5_) rfl rfl ⟨g_15, g_16, y4, r_20, g_14, g_21, z_23, rfl, l_y4, u_y4, rfl⟩ (by first | exact mp_fd_ok mp_k_cX9_ringed_ok (by decide +kernel) | decide +kernel)
        · have c_22 : r_20.toInt = 0 := (congrArg Int32.toInt c_22)
          show mp_W E X 3 51 [(0, .ref a0), (1, .int x0), (2, .int x1)] [] w5_ 0 0
          refine mp_run mp_k_cX9_ringed_ok hF mp_tabX9_ok [mp_c (.iconst (-1)) (-1), mp_h (.goto 12) [64]] (by decide +kernel) ?_
          show mp_W E X 3 64 [(0, .ref a0), (1, .int x0), (2, .int x1)] [.int (-1)] w5_ 0 0
          exact mp_iret hF hQ rfl rfl (Nat.le_of_ble_eq_true rfl) (Nat.le_of_ble_eq_true rfl) [0, 1, 2, 3, 4, 5, 6, 7, 8, 9, 10, 11, 12, 13, 14, 15] (w' := w5_) rfl rfl ⟨g_15, g_16, y4, r_20, g_14, g_21, (-1), rfl, l_y4, u_y4, rfl⟩ (by first | exact mp_fd_ok mp_k_cX9_ringed_ok (by decide +kernel) | decide +kernel)
      · have c_10 : 2 < x1.toInt := c_10
        show mp_W E X 3 20 [(0, .ref a0), (1, .int x0), (2, .int x1)] [] w3_ 0 0
        refine mp_run mp_k_cX9_ringed_ok hF mp_tabX9_ok [mp_c (.iconst (-1)) (-1)] (by decide +kernel) ?_
        show mp_W E X 3 21 [(0, .ref a0), (1, .int x0), (2, .int x1)] [.int (-1)] w3_ 0 0
        exact mp_iret hF hQ rfl rfl (Nat.le_of_ble_eq_true rfl) (Nat.le_of_ble_eq_true rfl) [13, 14, 15, 0, 1, 2, 3, 4, 5, 6, 7, 8, 9, 10, 11, 12] (w' := w1_) rfl rfl ⟨f8, f9, y7, y8, f10, f11, (-1), rfl, l_y7, u_y7, rfl⟩ (by first | exact mp_fd_ok mp_k_cX9_ringed_ok (by decide +kernel) | decide +kernel)
set_option maxHeartbeats 4000000 in
set_option maxRecDepth 100000 in
theorem bX9_strikes_137 (E : mp_E) (a0 a1 a2 a3 a4 a5 a6 a7 a8 a9 a10 a11 a12 a13 a14 a15 a16 a17 a18 a19 a20 a21 a22 a23 a24 a25 a26 a27 a28 a29 a30 : Nat) (f0 : Nat → Int32) (f1 : Nat → Int32) (f2 : Nat → Int32) (f3 : Nat → Int32) (f4 : Nat → Int32) (f5 : Nat → Int32) (f6 : Nat → Int32) (f7 : Nat → Int64) (f8 : Nat → Int32) (f9 : Nat → Int32) (f10 : Nat → Int32) (y0 : Int32) (y1 : Int32) (y2 : Int32) (y3 : Int32) (y4 : Int32) (y5 : Int32) (y6 : Int32) (y7 : Int32) (y8 : Int32) (x0 : Int32) (x1 : Int32) (x2 : Int32) (x3 : Int32) (p0 : mp_all f1 10 0 5) (p1 : mp_all f2 10 0 5) (p2 : mp_all f4 10 0 99) (p3 : mp_all f5 10 0 1) (p4 : mp_all f6 10 (-1) 9) (l_y0 : 0 ≤ y0.toInt) (u_y0 : y0.toInt ≤ 99) (l_y2 : 0 ≤ y2.toInt) (u_y2 : y2.toInt ≤ 6) (l_y3 : 0 ≤ y3.toInt) (u_y3 : y3.toInt ≤ 99) (l_y4 : 0 ≤ y4.toInt) (u_y4 : y4.toInt ≤ 6) (l_y5 : 0 ≤ y5.toInt) (u_y5 : y5.toInt ≤ 10) (l_y6 : 0 ≤ y6.toInt) (u_y6 : y6.toInt ≤ 60) (l_y7 : 0 ≤ y7.toInt) (u_y7 : y7.toInt ≤ 6) : mp_Ct E yX9_strikes cX9_strikes 5 (some FieldType.int) 5 0 0 122 [.ref a0, .int x0, .int x1, .int x2, .int x3] [(mp_ob9 a0 a15 a1 a16 a13 a17 a18 a19 a20 a21), (mp_ob0 a1 a2 y0 a22 a23 a24 a10 a11 a12), (mp_ob7 a2 y1 y2 y3 y4 y5 y6 a25 a26 a27 a3 a28 a4 a5 a6 a7 a8 a9 a29), (mp_arI E a3 0 6 f0), (mp_arI E a4 0 10 f1), (mp_arI E a5 0 10 f2), (mp_arI E a6 0 10 f3), (mp_arI E a7 0 10 f4), (mp_arI E a8 0 10 f5), (mp_arI E a9 0 10 f6), (mp_arL E a10 20 f7), (mp_arI E a11 0 10 f8), (mp_arI E a12 0 10 f9), (mp_ob1 a13 a14 y7 y8 a30), (mp_arI E a14 0 36 f10)] (fun v w' => ∃ h1 : Nat → Int32, ∃ h2 : Nat → Int32, ∃ r3 : Int32, ∃ h4 : Nat → Int32, ∃ r5 : Int32, v = some (.int r5) ∧ 0 ≤ r3.toInt ∧ r3.toInt ≤ 6 ∧ w' = [(mp_ob9 a0 a15 a1 a16 a13 a17 a18 a19 a20 a21), (mp_ob0 a1 a2 y0 a22 a23 a24 a10 a11 a12), (mp_ob7 a2 y1 y2 y3 y4 y5 y6 a25 a26 a27 a3 a28 a4 a5 a6 a7 a8 a9 a29), (mp_arI E a3 0 6 f0), (mp_arI E a4 0 10 f1), (mp_arI E a5 0 10 f2), (mp_arI E a6 0 10 f3), (mp_arI E a7 0 10 f4), (mp_arI E a8 0 10 f5), (mp_arI E a9 0 10 f6), (mp_arL E a10 20 f7), (mp_arI E a11 0 10 h1), (mp_arI E a12 0 10 h2), (mp_ob1 a13 a14 r3 y8 a30), (mp_arI E a14 0 36 h4)]) := by
  refine mp_met false (by decide) (by decide) (Nat.le_of_ble_eq_true rfl) (fun X hF hQ => ?_)
  have hF : mp_F E X (RX9, cX9_strikes, 5, (5, 0, 0, 122), (some FieldType.int), false) := hF
  let w1_ : va_W := [(mp_ob9 a0 a15 a1 a16 a13 a17 a18 a19 a20 a21), (mp_ob0 a1 a2 y0 a22 a23 a24 a10 a11 a12), (mp_ob7 a2 y1 y2 y3 y4 y5 y6 a25 a26 a27 a3 a28 a4 a5 a6 a7 a8 a9 a29), (mp_arI E a3 0 6 f0), (mp_arI E a4 0 10 f1), (mp_arI E a5 0 10 f2), (mp_arI E a6 0 10 f3), (mp_arI E a7 0 10 f4), (mp_arI E a8 0 10 f5), (mp_arI E a9 0 10 f6), (mp_arL E a10 20 f7), (mp_arI E a11 0 10 f8), (mp_arI E a12 0 10 f9), (mp_ob1 a13 a14 y7 y8 a30), (mp_arI E a14 0 36 f10)]
  show mp_W E X 5 0 [(0, .ref a0), (1, .int x0), (2, .int x1), (3, .int x2), (4, .int x3)] [] w1_ 0 0
  refine mp_run mp_k_cX9_strikes_ok hF mp_tabX9_ok [mp_i (.aload_n 0), mp_i (.iload_n 1), mp_i (.iload_n 2)] (by decide +kernel) ?_
  show mp_W E X 5 3 [(0, .ref a0), (1, .int x0), (2, .int x1), (3, .int x2), (4, .int x3)] [.int x1, .int x0, .ref a0] w1_ 0 0
  refine mp_callV hF (As := [.int x0, .int x1]) (rest := []) (wr := [(mp_arI E a3 0 6 f0), (mp_arI E a4 0 10 f1), (mp_arI E a5 0 10 f2), (mp_arI E a6 0 10 f3), (mp_arI E a7 0 10 f4), (mp_arI E a8 0 10 f5), (mp_arI E a9 0 10 f6), (mp_arL E a10 20 f7), (mp_arI E a11 0 10 f8), (mp_arI E a12 0 10 f9), (mp_ob1 a13 a14 y7 y8 a30), (mp_arI E a14 0 36 f10)]) (bX9_arePair_69 E a0 a1 a2 a15 a16 a13 a17 a18 a19 a20 a21 a22 a23 a24 a10 a11 a12 a25 a26 a27 a3 a28 a4 a5 a6 a7 a8 a9 a29 y0 y1 y2 y3 y4 y5 y6 x0 x1 l_y0 u_y0 l_y2 u_y2 l_y3 u_y3 l_y4 u_y4 l_y5 u_y5 l_y6 u_y6) mp_lkX9_169 0 rfl [0, 1, 2] [3, 4, 5, 6, 7, 8, 9, 10, 11, 12, 13, 14] rfl rfl rfl rfl rfl ⟨(Nat.le_of_ble_eq_true rfl), (Nat.le_of_ble_eq_true rfl), (Nat.le_of_ble_eq_true rfl), (Nat.le_of_ble_eq_true rfl)⟩ (Nat.le_of_ble_eq_true rfl) (by first | exact mp_fd_ok mp_k_cX9_strikes_ok (by decide +kernel) | decide +kernel) (fun v_1 w_2 h_3 => ?_)
  refine h_3.elim (fun q_11 => ?_) (fun q_12 => ?_)
  · skip
    refine q_11.elim fun e_13 q_14 => q_14.elim fun x_4 e_15 => ?_
    clear h_3 q_11 q_14
    subst e_13
    subst e_15
    let w2_ : va_W := [(mp_arI E a3 0 6 f0), (mp_arI E a4 0 10 f1), (mp_arI E a5 0 10 f2), (mp_arI E a6 0 10 f3), (mp_arI E a7 0 10 f4), (mp_arI E a8 0 10 f5), (mp_arI E a9 0 10 f6), (mp_arL E a10 20 f7), (mp_arI E a11 0 10 f8), (mp_arI E a12 0 10 f9), (mp_ob1 a13 a14 y7 y8 a30), (mp_arI E a14 0 36 f10), (mp_ob9 a0 a15 a1 a16 a13 a17 a18 a19 a20 a21), (mp_ob0 a1 a2 y0 a22 a23 a24 a10 a11 a12), (mp_ob7 a2 y1 y2 y3 y4 y5 y6 a25 a26 a27 a3 a28 a4 a5 a6 a7 a8 a9 a29)]
    show mp_W E X 5 6 [(0, .ref a0), (1, .int x0), (2, .int x1), (3, .int x2), (4, .int x3)] [.int 0] w2_ 0 0
    refine mp_run mp_k_cX9_strikes_ok hF mp_tabX9_ok [mp_h (.ifCond .eq 29) [35]] (by decide +kernel) ?_
    refine And.intro (fun _ => ?_) (fun c_16 => absurd c_16 (by decide))
    show mp_W E X 5 35 [(0, .ref a0), (1, .int x0), (2, .int x1), (3, .int x2), (4, .int x3)] [] w2_ 0 0
    refine mp_run mp_k_cX9_strikes_ok hF mp_tabX9_ok [mp_c (.bipush (-2)) (-2)] (by decide +kernel) ?_
    show mp_W E X 5 37 [(0, .ref a0), (1, .int x0), (2, .int x1), (3, .int x2), (4, .int x3)] [.int (-2)] w2_ 0 0
    exact mp_iret hF hQ rfl rfl (Nat.le_of_ble_eq_true rfl) (Nat.le_of_ble_eq_true rfl) [12, 13, 14, 0, 1, 2, 3, 4, 5, 6, 7, 8, 9, 10, 11] (w' := w1_) rfl rfl ⟨f8, f9, y7, f10, (-2), rfl, l_y7, u_y7, rfl⟩ (by first | exact mp_fd_ok mp_k_cX9_strikes_ok (by decide +kernel) | decide +kernel)
  · skip
    refine q_12.elim fun e_17 q_18 => q_18.elim fun c_5 q_19 => q_19.elim fun c_6 q_20 => q_20.elim fun c_7 q_21 => q_21.elim fun c_8 q_22 => q_22.elim fun c_9 q_23 => q_23.elim fun x_10 e_24 => ?_
    clear h_3 q_12 q_18 q_19 q_20 q_21 q_22 q_23
    subst e_17
    subst e_24
    have c_5 : 0 ≤ x0.toInt := c_5
    have c_6 : x0.toInt < y4.toInt := c_6
    have c_7 : 0 ≤ x1.toInt := c_7
    have c_8 : x1.toInt < y4.toInt := c_8
    have c_9 : x0.toInt ≠ x1.toInt := c_9
    let w3_ : va_W := [(mp_arI E a3 0 6 f0), (mp_arI E a4 0 10 f1), (mp_arI E a5 0 10 f2), (mp_arI E a6 0 10 f3), (mp_arI E a7 0 10 f4), (mp_arI E a8 0 10 f5), (mp_arI E a9 0 10 f6), (mp_arL E a10 20 f7), (mp_arI E a11 0 10 f8), (mp_arI E a12 0 10 f9), (mp_ob1 a13 a14 y7 y8 a30), (mp_arI E a14 0 36 f10), (mp_ob9 a0 a15 a1 a16 a13 a17 a18 a19 a20 a21), (mp_ob0 a1 a2 y0 a22 a23 a24 a10 a11 a12), (mp_ob7 a2 y1 y2 y3 y4 y5 y6 a25 a26 a27 a3 a28 a4 a5 a6 a7 a8 a9 a29)]
    show mp_W E X 5 6 [(0, .ref a0), (1, .int x0), (2, .int x1), (3, .int x2), (4, .int x3)] [.int 1] w3_ 0 0
    refine mp_run mp_k_cX9_strikes_ok hF mp_tabX9_ok [mp_h (.ifCond .eq 29) [35]] (by decide +kernel) ?_
    refine And.intro (fun c_25 => absurd c_25 (by decide)) (fun _ => ?_)
    show mp_W E X 5 9 [(0, .ref a0), (1, .int x0), (2, .int x1), (3, .int x2), (4, .int x3)] [] w3_ 0 0
    refine mp_run mp_k_cX9_strikes_ok hF mp_tabX9_ok [mp_i (.aload_n 0), mp_i (.iload_n 2), mp_i (.iload_n 3)] (by decide +kernel) ?_
    show mp_W E X 5 12 [(0, .ref a0), (1, .int x0), (2, .int x1), (3, .int x2), (4, .int x3)] [.int x2, .int x1, .ref a0] w3_ 0 0
    refine mp_callV hF (As := [.int x1, .int x2]) (rest := []) (wr := [(mp_arI E a3 0 6 f0), (mp_arI E a4 0 10 f1), (mp_arI E a5 0 10 f2), (mp_arI E a6 0 10 f3), (mp_arI E a7 0 10 f4), (mp_arI E a8 0 10 f5), (mp_arI E a9 0 10 f6), (mp_arL E a10 20 f7), (mp_arI E a11 0 10 f8), (mp_arI E a12 0 10 f9), (mp_ob1 a13 a14 y7 y8 a30), (mp_arI E a14 0 36 f10)]) (bX9_arePair_69 E a0 a1 a2 a15 a16 a13 a17 a18 a19 a20 a21 a22 a23 a24 a10 a11 a12 a25 a26 a27 a3 a28 a4 a5 a6 a7 a8 a9 a29 y0 y1 y2 y3 y4 y5 y6 x1 x2 l_y0 u_y0 l_y2 u_y2 l_y3 u_y3 l_y4 u_y4 l_y5 u_y5 l_y6 u_y6) mp_lkX9_169 12 rfl [12, 13, 14] [0, 1, 2, 3, 4, 5, 6, 7, 8, 9, 10, 11] rfl rfl rfl rfl rfl ⟨(Nat.le_of_ble_eq_true rfl), (Nat.le_of_ble_eq_true rfl), (Nat.le_of_ble_eq_true rfl), (Nat.le_of_ble_eq_true rfl)⟩ (Nat.le_of_ble_eq_true rfl) (by first | exact mp_fd_ok mp_k_cX9_strikes_ok (by decide +kernel) | decide +kernel) (fun v_26 w_27 h_28 => ?_)
    refine h_28.elim (fun q_36 => ?_) (fun q_37 => ?_)
    · skip
      refine q_36.elim fun e_38 q_39 => q_39.elim fun x_29 e_40 => ?_
      clear h_28 q_36 q_39
      subst e_38
      subst e_40
      show mp_W E X 5 15 [(0, .ref a0), (1, .int x0), (2, .int x1), (3, .int x2), (4, .int x3)] [.int 0] w3_ 0 0
      refine mp_run mp_k_cX9_strikes_ok hF mp_tabX9_ok [mp_h (.ifCond .eq 20) [35]] (by decide +kernel) ?_
      refine And.intro (fun _ => ?_) (fun c_41 => absurd c_41 (by decide))
      show mp_W E X 5 35 [(0, .ref a0), (1, .int x0), (2, .int x1), (3, .int x2), (4, .int x3)] [] w3_ 0 0
      refine mp_run mp_k_cX9_strikes_ok hF mp_tabX9_ok [mp_c (.bipush (-2)) (-2)] (by decide +kernel) ?_
      show mp_W E X 5 37 [(0, .ref a0), (1, .int x0), (2, .int x1), (3, .int x2), (4, .int x3)] [.int (-2)] w3_ 0 0
      exact mp_iret hF hQ rfl rfl (Nat.le_of_ble_eq_true rfl) (Nat.le_of_ble_eq_true rfl) [12, 13, 14, 0, 1, 2, 3, 4, 5, 6, 7, 8, 9, 10, 11] (w' := w1_) rfl rfl ⟨f8, f9, y7, f10, (-2), rfl, l_y7, u_y7, rfl⟩ (by first | exact mp_fd_ok mp_k_cX9_strikes_ok (by decide +kernel) | decide +kernel)
    · skip
      refine q_37.elim fun e_42 q_43 => q_43.elim fun c_30 q_44 => q_44.elim fun c_31 q_45 => q_45.elim fun c_32 q_46 => q_46.elim fun c_33 q_47 => q_47.elim fun c_34 q_48 => q_48.elim fun x_35 e_49 => ?_
      clear h_28 q_37 q_43 q_44 q_45 q_46 q_47 q_48
      subst e_42
      subst e_49
      have c_30 : 0 ≤ x1.toInt := c_30
      have c_31 : x1.toInt < y4.toInt := c_31
      have c_32 : 0 ≤ x2.toInt := c_32
      have c_33 : x2.toInt < y4.toInt := c_33
      have c_34 : x1.toInt ≠ x2.toInt := c_34
      show mp_W E X 5 15 [(0, .ref a0), (1, .int x0), (2, .int x1), (3, .int x2), (4, .int x3)] [.int 1] w3_ 0 0
      refine mp_run mp_k_cX9_strikes_ok hF mp_tabX9_ok [mp_h (.ifCond .eq 20) [35]] (by decide +kernel) ?_
      refine And.intro (fun c_50 => absurd c_50 (by decide)) (fun _ => ?_)
      show mp_W E X 5 18 [(0, .ref a0), (1, .int x0), (2, .int x1), (3, .int x2), (4, .int x3)] [] w3_ 0 0
      refine mp_run mp_k_cX9_strikes_ok hF mp_tabX9_ok [mp_i (.aload_n 0), mp_i (.iload_n 3), mp_i (.iload_n 1)] (by decide +kernel) ?_
      show mp_W E X 5 21 [(0, .ref a0), (1, .int x0), (2, .int x1), (3, .int x2), (4, .int x3)] [.int x0, .int x2, .ref a0] w3_ 0 0
      refine mp_callV hF (As := [.int x2, .int x0]) (rest := []) (wr := [(mp_arI E a3 0 6 f0), (mp_arI E a4 0 10 f1), (mp_arI E a5 0 10 f2), (mp_arI E a6 0 10 f3), (mp_arI E a7 0 10 f4), (mp_arI E a8 0 10 f5), (mp_arI E a9 0 10 f6), (mp_arL E a10 20 f7), (mp_arI E a11 0 10 f8), (mp_arI E a12 0 10 f9), (mp_ob1 a13 a14 y7 y8 a30), (mp_arI E a14 0 36 f10)]) (bX9_arePair_69 E a0 a1 a2 a15 a16 a13 a17 a18 a19 a20 a21 a22 a23 a24 a10 a11 a12 a25 a26 a27 a3 a28 a4 a5 a6 a7 a8 a9 a29 y0 y1 y2 y3 y4 y5 y6 x2 x0 l_y0 u_y0 l_y2 u_y2 l_y3 u_y3 l_y4 u_y4 l_y5 u_y5 l_y6 u_y6) mp_lkX9_169 12 rfl [12, 13, 14] [0, 1, 2, 3, 4, 5, 6, 7, 8, 9, 10, 11] rfl rfl rfl rfl rfl ⟨(Nat.le_of_ble_eq_true rfl), (Nat.le_of_ble_eq_true rfl), (Nat.le_of_ble_eq_true rfl), (Nat.le_of_ble_eq_true rfl)⟩ (Nat.le_of_ble_eq_true rfl) (by first | exact mp_fd_ok mp_k_cX9_strikes_ok (by decide +kernel) | decide +kernel) (fun v_51 w_52 h_53 => ?_)
      refine h_53.elim (fun q_61 => ?_) (fun q_62 => ?_)
      · skip
        refine q_61.elim fun e_63 q_64 => q_64.elim fun x_54 e_65 => ?_
        clear h_53 q_61 q_64
        subst e_63
        subst e_65
        show mp_W E X 5 24 [(0, .ref a0), (1, .int x0), (2, .int x1), (3, .int x2), (4, .int x3)] [.int 0] w3_ 0 0
        refine mp_run mp_k_cX9_strikes_ok hF mp_tabX9_ok [mp_h (.ifCond .eq 11) [35]] (by decide +kernel) ?_
        refine And.intro (fun _ => ?_) (fun c_66 => absurd c_66 (by decide))
        show mp_W E X 5 35 [(0, .ref a0), (1, .int x0), (2, .int x1), (3, .int x2), (4, .int x3)] [] w3_ 0 0
        refine mp_run mp_k_cX9_strikes_ok hF mp_tabX9_ok [mp_c (.bipush (-2)) (-2)] (by decide +kernel) ?_
        show mp_W E X 5 37 [(0, .ref a0), (1, .int x0), (2, .int x1), (3, .int x2), (4, .int x3)] [.int (-2)] w3_ 0 0
        exact mp_iret hF hQ rfl rfl (Nat.le_of_ble_eq_true rfl) (Nat.le_of_ble_eq_true rfl) [12, 13, 14, 0, 1, 2, 3, 4, 5, 6, 7, 8, 9, 10, 11] (w' := w1_) rfl rfl ⟨f8, f9, y7, f10, (-2), rfl, l_y7, u_y7, rfl⟩ (by first | exact mp_fd_ok mp_k_cX9_strikes_ok (by decide +kernel) | decide +kernel)
      · skip
        refine q_62.elim fun e_67 q_68 => q_68.elim fun c_55 q_69 => q_69.elim fun c_56 q_70 => q_70.elim fun c_57 q_71 => q_71.elim fun c_58 q_72 => q_72.elim fun c_59 q_73 => q_73.elim fun x_60 e_74 => ?_
        clear h_53 q_62 q_68 q_69 q_70 q_71 q_72 q_73
        subst e_67
        subst e_74
        have c_55 : 0 ≤ x2.toInt := c_55
        have c_56 : x2.toInt < y4.toInt := c_56
        have c_57 : 0 ≤ x0.toInt := c_57
        have c_58 : x0.toInt < y4.toInt := c_58
        have c_59 : x2.toInt ≠ x0.toInt := c_59
        show mp_W E X 5 24 [(0, .ref a0), (1, .int x0), (2, .int x1), (3, .int x2), (4, .int x3)] [.int 1] w3_ 0 0
        refine mp_run mp_k_cX9_strikes_ok hF mp_tabX9_ok [mp_h (.ifCond .eq 11) [35]] (by decide +kernel) ?_
        refine And.intro (fun c_75 => absurd c_75 (by decide)) (fun _ => ?_)
        show mp_W E X 5 27 [(0, .ref a0), (1, .int x0), (2, .int x1), (3, .int x2), (4, .int x3)] [] w3_ 0 0
        refine mp_run mp_k_cX9_strikes_ok hF mp_tabX9_ok [mp_i (.iload 4)] (by decide +kernel) ?_
        show mp_W E X 5 29 [(0, .ref a0), (1, .int x0), (2, .int x1), (3, .int x2), (4, .int x3)] [.int x3] w3_ 0 0
        refine mp_callS hF (As := [.int x3]) (rest := []) (wr := w3_) (bX9_isMoon_57 E x3) mp_lkX9_148 [] [0, 1, 2, 3, 4, 5, 6, 7, 8, 9, 10, 11, 12, 13, 14] rfl rfl rfl rfl rfl ⟨(Nat.le_of_ble_eq_true rfl), (Nat.le_of_ble_eq_true rfl), (Nat.le_of_ble_eq_true rfl), (Nat.le_of_ble_eq_true rfl)⟩ (Nat.le_of_ble_eq_true rfl) (by first | exact mp_fd_ok mp_k_cX9_strikes_ok (by decide +kernel) | decide +kernel) (fun v_76 w_77 h_78 => ?_)
        rcases h_78 with ⟨rfl, x_79, rfl⟩ | ⟨rfl, c_80, c_81, x_82, rfl⟩
        · skip
          show mp_W E X 5 32 [(0, .ref a0), (1, .int x0), (2, .int x1), (3, .int x2), (4, .int x3)] [.int 0] w3_ 0 0
          refine mp_run mp_k_cX9_strikes_ok hF mp_tabX9_ok [mp_h (.ifCond .ne 6) [38]] (by decide +kernel) ?_
          refine And.intro (fun c_83 => absurd c_83 (by decide)) (fun _ => ?_)
          show mp_W E X 5 35 [(0, .ref a0), (1, .int x0), (2, .int x1), (3, .int x2), (4, .int x3)] [] w3_ 0 0
          refine mp_run mp_k_cX9_strikes_ok hF mp_tabX9_ok [mp_c (.bipush (-2)) (-2)] (by decide +kernel) ?_
          show mp_W E X 5 37 [(0, .ref a0), (1, .int x0), (2, .int x1), (3, .int x2), (4, .int x3)] [.int (-2)] w3_ 0 0
          exact mp_iret hF hQ rfl rfl (Nat.le_of_ble_eq_true rfl) (Nat.le_of_ble_eq_true rfl) [12, 13, 14, 0, 1, 2, 3, 4, 5, 6, 7, 8, 9, 10, 11] (w' := w1_) rfl rfl ⟨f8, f9, y7, f10, (-2), rfl, l_y7, u_y7, rfl⟩ (by first | exact mp_fd_ok mp_k_cX9_strikes_ok (by decide +kernel) | decide +kernel)
        · skip
          have c_80 : 0 ≤ x3.toInt := c_80
          have c_81 : x3.toInt ≤ 99 := c_81
          show mp_W E X 5 32 [(0, .ref a0), (1, .int x0), (2, .int x1), (3, .int x2), (4, .int x3)] [.int 1] w3_ 0 0
          refine mp_run mp_k_cX9_strikes_ok hF mp_tabX9_ok [mp_h (.ifCond .ne 6) [38]] (by decide +kernel) ?_
          refine And.intro (fun _ => ?_) (fun c_84 => absurd c_84 (by decide))
          show mp_W E X 5 38 [(0, .ref a0), (1, .int x0), (2, .int x1), (3, .int x2), (4, .int x3)] [] w3_ 0 0
          refine mp_run mp_k_cX9_strikes_ok hF mp_tabX9_ok [mp_i (.aload_n 0), mp_h (.getfield 32) [39, 12], mp_i (.aload_n 0), mp_h (.getfield 19) [37, 12], mp_i (.iload 4)] (by decide +kernel) ?_
          refine And.intro rfl (And.intro rfl ?_)
          refine And.intro rfl (And.intro rfl ?_)
          show mp_W E X 5 48 [(0, .ref a0), (1, .int x0), (2, .int x1), (3, .int x2), (4, .int x3)] [.int x3, .ref a1, .ref a13] w3_ 0 0
          refine mp_callV hF (As := [.ref a1, .int x3]) (rest := []) (wr := [(mp_ob9 a0 a15 a1 a16 a13 a17 a18 a19 a20 a21)]) (bX1_fill_72 E a13 a1 a14 a2 a3 a4 a5 a6 a7 a8 a9 a10 a11 a12 a30 a22 a23 a24 a25 a26 a27 a28 a29 f10 f0 f1 f2 f3 f4 f5 f6 f7 f8 f9 y7 y8 y0 y1 y2 y3 y4 y5 y6 x3 p0 p1 p2 p3 p4 l_y7 u_y7 l_y0 u_y0 l_y2 u_y2 l_y3 u_y3 l_y4 u_y4 l_y5 u_y5 l_y6 u_y6) mp_lkX9_172 10 rfl [10, 11, 13, 14, 0, 1, 2, 3, 4, 5, 6, 7, 8, 9] [12] rfl rfl rfl rfl rfl ⟨(Nat.le_of_ble_eq_true rfl), (Nat.le_of_ble_eq_true rfl), (Nat.le_of_ble_eq_true rfl), (Nat.le_of_ble_eq_true rfl)⟩ (Nat.le_of_ble_eq_true rfl) (by first | exact mp_fd_ok mp_k_cX9_strikes_ok (by decide +kernel) | decide +kernel) (fun v_85 w_86 h_87 => ?_)
          obtain ⟨g_88, g_89, g_90, rfl, rfl⟩ := h_87
          let w4_ : va_W := [(mp_ob9 a0 a15 a1 a16 a13 a17 a18 a19 a20 a21), (mp_ob1 a13 a14 y4 y8 a30), (mp_arI E a14 0 36 g_88), (mp_ob0 a1 a2 y0 a22 a23 a24 a10 a11 a12), (mp_ob7 a2 y1 y2 y3 y4 y5 y6 a25 a26 a27 a3 a28 a4 a5 a6 a7 a8 a9 a29), (mp_arI E a3 0 6 f0), (mp_arI E a4 0 10 f1), (mp_arI E a5 0 10 f2), (mp_arI E a6 0 10 f3), (mp_arI E a7 0 10 f4), (mp_arI E a8 0 10 f5), (mp_arI E a9 0 10 f6), (mp_arL E a10 20 f7), (mp_arI E a11 0 10 g_89), (mp_arI E a12 0 10 g_90)]
          show mp_W E X 5 51 [(0, .ref a0), (1, .int x0), (2, .int x1), (3, .int x2), (4, .int x3)] [] w4_ 0 0
          refine mp_run mp_k_cX9_strikes_ok hF mp_tabX9_ok [mp_i (.aload_n 0), mp_h (.getfield 32) [39, 0], mp_i (.iload_n 1), mp_i (.iload_n 2), mp_i (.iload_n 3)] (by decide +kernel) ?_
          refine And.intro rfl (And.intro rfl ?_)
          show mp_W E X 5 58 [(0, .ref a0), (1, .int x0), (2, .int x1), (3, .int x2), (4, .int x3)] [.int x2, .int x1, .int x0, .ref a13] w4_ 0 0
          refine mp_callV hF (As := [.int x0, .int x1, .int x2]) (rest := []) (wr := [(mp_ob9 a0 a15 a1 a16 a13 a17 a18 a19 a20 a21), (mp_ob0 a1 a2 y0 a22 a23 a24 a10 a11 a12), (mp_ob7 a2 y1 y2 y3 y4 y5 y6 a25 a26 a27 a3 a28 a4 a5 a6 a7 a8 a9 a29), (mp_arI E a3 0 6 f0), (mp_arI E a4 0 10 f1), (mp_arI E a5 0 10 f2), (mp_arI E a6 0 10 f3), (mp_arI E a7 0 10 f4), (mp_arI E a8 0 10 f5), (mp_arI E a9 0 10 f6), (mp_arL E a10 20 f7), (mp_arI E a11 0 10 g_89), (mp_arI E a12 0 10 g_90)]) (bX1_ringOf_133 E a13 a14 a30 g_88 y4 y8 x0 x1 x2 (by (first | exact c_57 | omega)) (by (first | exact mp_o398 u_y4 c_6 | omega)) (by (first | exact c_30 | omega)) (by (first | exact mp_o398 u_y4 c_8 | omega)) (by (first | exact c_55 | omega)) (by (first | exact mp_o398 u_y4 c_33 | omega)) l_y4 u_y4) mp_lkX9_276 1 rfl [1, 2] [0, 3, 4, 5, 6, 7, 8, 9, 10, 11, 12, 13, 14] rfl rfl rfl rfl rfl ⟨(Nat.le_of_ble_eq_true rfl), (Nat.le_of_ble_eq_true rfl), (Nat.le_of_ble_eq_true rfl), (Nat.le_of_ble_eq_true rfl)⟩ (Nat.le_of_ble_eq_true rfl) (by first | exact mp_fd_ok mp_k_cX9_strikes_ok (by decide +kernel) | decide +kernel) (fun v_91 w_92 h_93 => ?_)
          obtain ⟨r_94, rfl, rfl⟩ := h_93
          let w5_ : va_W := [(mp_ob9 a0 a15 a1 a16 a13 a17 a18 a19 a20 a21), (mp_ob0 a1 a2 y0 a22 a23 a24 a10 a11 a12), (mp_ob7 a2 y1 y2 y3 y4 y5 y6 a25 a26 a27 a3 a28 a4 a5 a6 a7 a8 a9 a29), (mp_arI E a3 0 6 f0), (mp_arI E a4 0 10 f1), (mp_arI E a5 0 10 f2), (mp_arI E a6 0 10 f3), (mp_arI E a7 0 10 f4), (mp_arI E a8 0 10 f5), (mp_arI E a9 0 10 f6), (mp_arL E a10 20 f7), (mp_arI E a11 0 10 g_89), (mp_arI E a12 0 10 g_90), (mp_ob1 a13 a14 y4 y8 a30), (mp_arI E a14 0 36 g_88)]
          show mp_W E X 5 61 [(0, .ref a0), (1, .int x0), (2, .int x1), (3, .int x2), (4, .int x3)] [.int r_94] w5_ 0 0
          exact mp_iret hF hQ rfl rfl (Nat.le_of_ble_eq_true rfl) (Nat.le_of_ble_eq_true rfl) [0, 1, 2, 3, 4, 5, 6, 7, 8, 9, 10, 11, 12, 13, 14] (w' := w5_) rfl rfl ⟨g_89, g_90, y4, g_88, r_94, rfl, l_y4, u_y4, rfl⟩ (by first | exact mp_fd_ok mp_k_cX9_strikes_ok (by decide +kernel) | decide +kernel)
