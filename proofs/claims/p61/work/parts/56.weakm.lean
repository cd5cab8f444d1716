set_option maxHeartbeats 4000000 in
set_option maxRecDepth 100000 in
theorem bX10_promises_156 (E : mp_E) (a0 a1 a2 a3 a4 a5 a6 a7 a8 a9 a10 a11 a12 a13 a14 a15 a16 a17 a18 a19 a20 a21 a22 a23 a24 a25 : Nat) (f0 : Nat → Int32) (f1 : Nat → Int32) (f2 : Nat → Int32) (y0 : Int32) (y1 : Int32) (y2 : Int32) (y3 : Int32) (y4 : Int32) (y5 : Int32) (y6 : Int64) (y7 : Int32) (y8 : Int32) (y9 : Int32) (y10 : Int32) (y11 : Int32) (y12 : Int32) (y13 : Int32) (y14 : Int32) (y15 : Int32) (y16 : Int32) (y17 : Int32) (y18 : Int32) (y19 : Int32) (y20 : Int32) (y21 : Int32) (x0 : Int32) (x1 : Int32) (x2 : Int32) (p0 : mp_res f0 25 5 0 0 6) (p1 : mp_res f0 25 5 1 0 99) (p2 : mp_res f0 25 5 2 0 6) (p3 : mp_res f0 25 5 3 0 10) (p4 : mp_res f0 25 5 4 0 60) (p5 : mp_res f1 300 6 0 0 5) (p6 : mp_res f1 300 6 1 0 5) (p7 : mp_res f1 300 6 3 0 99) (p8 : mp_res f1 300 6 4 0 1) (p9 : mp_actm f2) (l_y1 : 0 ≤ y1.toInt) (u_y1 : y1.toInt ≤ 1600) (l_y2 : 0 ≤ y2.toInt) (u_y2 : y2.toInt ≤ 1600) (l_y3 : 0 ≤ y3.toInt) (u_y3 : y3.toInt ≤ 4) (l_y4 : 0 ≤ y4.toInt) (u_y4 : y4.toInt ≤ 1600) (l_y11 : 0 ≤ y11.toInt) (u_y11 : y11.toInt ≤ 99) (l_y12 : 0 ≤ y12.toInt) (u_y12 : y12.toInt ≤ 5) (l_y13 : 0 ≤ y13.toInt) (u_y13 : y13.toInt ≤ 12) (q0 : mp_prm f1 (f0 3).toInt) (q1 : (f0 1).toInt + mp_k200 f2 (f0 4).toInt ≤ 99) : mp_Ct E yX10_promises cX10_promises 5 (some FieldType.int) 3 0 0 68 [.ref a0, .int x0, .int x1, .int x2] [(mp_ob10 a0 y0 a4 a5 a6 a7 a8 y1 y2 y3 y4 y5 y6 y7 y8 y9 y10 a9 a1 a10 a11 a12 a2 a3 a13 y11 a14 a15 a16 a17 y12 y13 y14 a18 a19 y15 y16 a20 a21 a22 y17 y18 y19 y20 a23 a24 a25 y21), (mp_arI E a1 0 25 f0), (mp_arI E a2 0 300 f1), (mp_arI E a3 0 300 f2)] (fun v w' => (v = some (.int (-2)) ∧ (mp_prm f1 (f0 3).toInt) ∧ ((f0 1).toInt + mp_k200 f2 (f0 4).toInt ≤ 99) ∧ (x0.toInt < 0 ∨ (f0 2).toInt ≤ x0.toInt ∨ x1.toInt < 0 ∨ (f0 2).toInt ≤ x1.toInt ∨ x0.toInt = x1.toInt ∨ x2.toInt < 1 ∨ 1000000 < x2.toInt) ∧ w' = [(mp_ob10 a0 0 a4 a5 a6 a7 a8 y1 y2 y3 y4 y5 y6 y7 y8 y9 y10 a9 a1 a10 a11 a12 a2 a3 a13 y11 a14 a15 a16 a17 y12 y13 y14 a18 a19 y15 y16 a20 a21 a22 y17 y18 y19 y20 a23 a24 a25 y21), (mp_arI E a1 0 25 f0), (mp_arI E a2 0 300 f1), (mp_arI E a3 0 300 f2)]) ∨ (∃ h1 : Nat → Int32, ∃ h2 : Nat → Int32, ∃ r3 : Int32, v = some (.int r3) ∧ 0 ≤ x0.toInt ∧ 0 ≤ x1.toInt ∧ x0.toInt ≠ x1.toInt ∧ 1 ≤ x2.toInt ∧ x2.toInt ≤ 1000000 ∧ (-1) ≤ r3.toInt ∧ r3.toInt ≤ 9 ∧ mp_res h1 25 5 0 0 6 ∧ mp_res h1 25 5 1 0 99 ∧ mp_res h1 25 5 2 0 6 ∧ mp_res h1 25 5 3 0 10 ∧ mp_res h1 25 5 4 0 60 ∧ mp_keept h1 f0 5 ∧ mp_res h2 300 6 0 0 5 ∧ mp_res h2 300 6 1 0 5 ∧ mp_res h2 300 6 3 0 99 ∧ mp_res h2 300 6 4 0 1 ∧ mp_keept h2 f1 60 ∧ (mp_prm h2 (h1 3).toInt) ∧ ((h1 1).toInt + mp_k200 f2 (h1 4).toInt ≤ 99) ∧ (0 ≤ x0.toInt ∧ x0.toInt < (f0 2).toInt ∧ 0 ≤ x1.toInt ∧ x1.toInt < (f0 2).toInt ∧ x0.toInt ≠ x1.toInt ∧ 1 ≤ x2.toInt ∧ x2.toInt ≤ 1000000) ∧ ((f0 4).toInt ≤ 0) ∧ ((f0 3).toInt < 10) ∧ (r3.toInt = (f0 3).toInt) ∧ ((h1 3).toInt = (f0 3).toInt + 1) ∧ ((h1 0).toInt = (f0 0).toInt) ∧ ((h1 1).toInt = (f0 1).toInt) ∧ ((h1 2).toInt = (f0 2).toInt) ∧ ((h1 4).toInt = (f0 4).toInt) ∧ (h2 = upd (upd (upd (upd (upd (upd f1 (6 * (f0 3).toInt).toNat x0) (6 * (f0 3).toInt + 1).toNat x1) (6 * (f0 3).toInt + 2).toNat x2) (6 * (f0 3).toInt + 3).toNat (f0 1)) (6 * (f0 3).toInt + 4).toNat 0) (6 * (f0 3).toInt + 5).toNat (-1)) ∧ w' = [(mp_ob10 a0 0 a4 a5 a6 a7 a8 y1 y2 y3 y4 y5 y6 y7 y8 y9 y10 a9 a1 a10 a11 a12 a2 a3 a13 y11 a14 a15 a16 a17 y12 y13 y14 a18 a19 y15 y16 a20 a21 a22 y17 y18 y19 y20 a23 a24 a25 y21), (mp_arI E a1 0 25 h1), (mp_arI E a2 0 300 h2), (mp_arI E a3 0 300 f2)]) ∨ (v = some (.int (-3)) ∧ 0 ≤ x0.toInt ∧ 0 ≤ x1.toInt ∧ x0.toInt ≠ x1.toInt ∧ 1 ≤ x2.toInt ∧ x2.toInt ≤ 1000000 ∧ (mp_prm f1 (f0 3).toInt) ∧ ((f0 1).toInt + mp_k200 f2 (f0 4).toInt ≤ 99) ∧ (0 ≤ x0.toInt ∧ x0.toInt < (f0 2).toInt ∧ 0 ≤ x1.toInt ∧ x1.toInt < (f0 2).toInt ∧ x0.toInt ≠ x1.toInt ∧ 1 ≤ x2.toInt ∧ x2.toInt ≤ 1000000) ∧ ((f0 4).toInt ≤ 0) ∧ (10 ≤ (f0 3).toInt) ∧ w' = [(mp_ob10 a0 0 a4 a5 a6 a7 a8 y1 y2 y3 y4 y5 y6 y7 y8 y9 y10 a9 a1 a10 a11 a12 a2 a3 a13 y11 a14 a15 a16 a17 y12 y13 y14 a18 a19 y15 y16 a20 a21 a22 y17 y18 y19 y20 a23 a24 a25 y21), (mp_arI E a1 0 25 f0), (mp_arI E a2 0 300 f1), (mp_arI E a3 0 300 f2)]) ∨ (v = some (.int (-5)) ∧ 0 ≤ x0.toInt ∧ 0 ≤ x1.toInt ∧ x0.toInt ≠ x1.toInt ∧ 1 ≤ x2.toInt ∧ x2.toInt ≤ 1000000 ∧ (mp_prm f1 (f0 3).toInt) ∧ ((f0 1).toInt + mp_k200 f2 (f0 4).toInt ≤ 99) ∧ (0 ≤ x0.toInt ∧ x0.toInt < (f0 2).toInt ∧ 0 ≤ x1.toInt ∧ x1.toInt < (f0 2).toInt ∧ x0.toInt ≠ x1.toInt ∧ 1 ≤ x2.toInt ∧ x2.toInt ≤ 1000000) ∧ (0 < (f0 4).toInt) ∧ w' = [(mp_ob10 a0 0 a4 a5 a6 a7 a8 y1 y2 y3 y4 y5 y6 y7 y8 y9 y10 a9 a1 a10 a11 a12 a2 a3 a13 y11 a14 a15 a16 a17 y12 y13 y14 a18 a19 y15 y16 a20 a21 a22 y17 y18 y19 y20 a23 a24 a25 y21), (mp_arI E a1 0 25 f0), (mp_arI E a2 0 300 f1), (mp_arI E a3 0 300 f2)])) := by
  refine mp_met false (by decide) (by decide) (Nat.le_of_ble_eq_true rfl) (fun X hF hQ => ?_)
  have hF : mp_F E X (RX10, cX10_promises, 5, (3, 0, 0, 68), (some FieldType.int), false) := hF
  let w1_ : va_W := [(mp_ob10 a0 y0 a4 a5 a6 a7 a8 y1 y2 y3 y4 y5 y6 y7 y8 y9 y10 a9 a1 a10 a11 a12 a2 a3 a13 y11 a14 a15 a16 a17 y12 y13 y14 a18 a19 y15 y16 a20 a21 a22 y17 y18 y19 y20 a23 a24 a25 y21), (mp_arI E a1 0 25 f0), (mp_arI E a2 0 300 f1), (mp_arI E a3 0 300 f2)]
  show mp_W E X 5 0 [(0, .ref a0), (1, .int x0), (2, .int x1), (3, .int x2)] [] w1_ 0 0
  refine mp_run mp_k_cX10_promises_ok hF mp_tabX10_ok [mp_i (.aload_n 0), mp_c (.iconst 0) 0, mp_h (.putfield 92) [0, 0]] (by decide +kernel) ?_
  refine And.intro rfl (And.intro rfl (And.intro rfl (And.intro rfl (And.intro (Nat.le_of_ble_eq_true rfl) ?_))))
  let w2_ : va_W := [(mp_ob10 a0 0 a4 a5 a6 a7 a8 y1 y2 y3 y4 y5 y6 y7 y8 y9 y10 a9 a1 a10 a11 a12 a2 a3 a13 y11 a14 a15 a16 a17 y12 y13 y14 a18 a19 y15 y16 a20 a21 a22 y17 y18 y19 y20 a23 a24 a25 y21), (mp_arI E a1 0 25 f0), (mp_arI E a2 0 300 f1), (mp_arI E a3 0 300 f2)]
  show mp_W E X 5 5 [(0, .ref a0), (1, .int x0), (2, .int x1), (3, .int x2)] [] w2_ 0 0
  refine mp_run mp_k_cX10_promises_ok hF mp_tabX10_ok [mp_i (.aload_n 0), mp_i (.iload_n 1), mp_i (.iload_n 2)] (by decide +kernel) ?_
  show mp_W E X 5 8 [(0, .ref a0), (1, .int x0), (2, .int x1), (3, .int x2)] [.int x1, .int x0, .ref a0] w2_ 0 0
  refine mp_callV hF (As := [.int x0, .int x1]) (rest := []) (wr := [(mp_arI E a2 0 300 f1), (mp_arI E a3 0 300 f2)]) (bX10_areTwo_75 E a0 a1 a4 a5 a6 a7 a8 a9 a10 a11 a12 a2 a3 a13 a14 a15 a16 a17 a18 a19 a20 a21 a22 a23 a24 a25 f0 0 y1 y2 y3 y4 y5 y6 y7 y8 y9 y10 y11 y12 y13 y14 y15 y16 y17 y18 y19 y20 y21 x0 x1 p0 p1 p2 p3 p4 l_y1 u_y1 l_y2 u_y2 l_y3 u_y3 l_y4 u_y4 l_y11 u_y11 l_y12 u_y12 l_y13 u_y13) mp_lkX10_294 0 rfl [0, 1] [2, 3] rfl rfl rfl rfl rfl ⟨(Nat.le_of_ble_eq_true rfl), (Nat.le_of_ble_eq_true rfl), (Nat.le_of_ble_eq_true rfl), (Nat.le_of_ble_eq_true rfl)⟩ (Nat.le_of_ble_eq_true rfl) (by first | exact mp_fd_ok mp_k_cX10_promises_ok (by decide +kernel) | decide +kernel) (fun v_1 w_2 h_3 => ?_)
  refine h_3.elim (fun q_13 => ?_) (fun q_14 => ?_)
  · skip
    refine q_13.elim fun e_15 q_16 => q_16.elim fun x_4 e_17 => ?_
    clear h_3 q_13 q_16
    subst e_15
    subst e_17
    let w3_ : va_W := [(mp_arI E a2 0 300 f1), (mp_arI E a3 0 300 f2), (mp_ob10 a0 0 a4 a5 a6 a7 a8 y1 y2 y3 y4 y5 y6 y7 y8 y9 y10 a9 a1 a10 a11 a12 a2 a3 a13 y11 a14 a15 a16 a17 y12 y13 y14 a18 a19 y15 y16 a20 a21 a22 y17 y18 y19 y20 a23 a24 a25 y21), (mp_arI E a1 0 25 f0)]
    show mp_W E X 5 11 [(0, .ref a0), (1, .int x0), (2, .int x1), (3, .int x2)] [.int 0] w3_ 0 0
    refine mp_run mp_k_cX10_promises_ok hF mp_tabX10_ok [mp_h (.ifCond .eq 15) [26]] (by decide +kernel) ?_
    refine And.intro (fun _ => ?_) (fun c_18 => absurd c_18 (by decide))
    show mp_W E X 5 26 [(0, .ref a0), (1, .int x0), (2, .int x1), (3, .int x2)] [] w3_ 0 0
    refine mp_run mp_k_cX10_promises_ok hF mp_tabX10_ok [mp_c (.bipush (-2)) (-2)] (by decide +kernel) ?_
    show mp_W E X 5 28 [(0, .ref a0), (1, .int x0), (2, .int x1), (3, .int x2)] [.int (-2)] w3_ 0 0
    exact mp_iret hF hQ rfl rfl (Nat.le_of_ble_eq_true rfl) (Nat.le_of_ble_eq_true rfl) [2, 3, 0, 1] (w' := w2_) rfl rfl (Or.inl ⟨rfl, (by first | assumption | (rw [rfl]; assumption)), (by (first | exact q1 | omega)), (by first | (first | exact mp_o834 x_4 | omega) | decide | (have h8 : (0 : Int64).toInt = 0 := rfl; have h9 : (-1 : Int32).toInt = -1 := rfl; have h10 : (-2 : Int32).toInt = -2 := rfl; have h11 : (0 : Int32).toInt = 0 := rfl; have h12 : (1 : Int32).toInt = 1 := rfl; have h13 : (-5 : Int32).toInt = -5 := rfl; have h14 : (-3 : Int32).toInt = -3 := rfl; omega)), rfl⟩) (by first | exact mp_fd_ok mp_k_cX10_promises_ok (by decide +kernel) | decide +kernel)
  · skip
    refine q_14.elim fun e_19 q_20 => q_20.elim fun c_5 q_21 => q_21.elim fun c_6 q_22 => q_22.elim fun c_7 q_23 => q_23.elim fun x_8 q_24 => q_24.elim fun x_9 q_25 => q_25.elim fun x_10 q_26 => q_26.elim fun x_11 q_27 => q_27.elim fun x_12 e_28 => ?_
    clear h_3 q_14 q_20 q_21 q_22 q_23 q_24 q_25 q_26 q_27
    subst e_19
    subst e_28
    have c_5 : 0 ≤ x0.toInt := c_5
    have c_6 : 0 ≤ x1.toInt := c_6
    have c_7 : x0.toInt ≠ x1.toInt := c_7
    let w4_ : va_W := [(mp_arI E a2 0 300 f1), (mp_arI E a3 0 300 f2), (mp_ob10 a0 0 a4 a5 a6 a7 a8 y1 y2 y3 y4 y5 y6 y7 y8 y9 y10 a9 a1 a10 a11 a12 a2 a3 a13 y11 a14 a15 a16 a17 y12 y13 y14 a18 a19 y15 y16 a20 a21 a22 y17 y18 y19 y20 a23 a24 a25 y21), (mp_arI E a1 0 25 f0)]
    show mp_W E X 5 11 [(0, .ref a0), (1, .int x0), (2, .int x1), (3, .int x2)] [.int 1] w4_ 0 0
    refine mp_run mp_k_cX10_promises_ok hF mp_tabX10_ok [mp_h (.ifCond .eq 15) [26]] (by decide +kernel) ?_
    refine And.intro (fun c_29 => absurd c_29 (by decide)) (fun _ => ?_)
    show mp_W E X 5 14 [(0, .ref a0), (1, .int x0), (2, .int x1), (3, .int x2)] [] w4_ 0 0
    refine mp_run mp_k_cX10_promises_ok hF mp_tabX10_ok [mp_i (.iload_n 3), mp_i .i2l, mp_cl (.lconst 1) 1, mp_cl (.ldc2_w 412) 1000000] (by decide +kernel) ?_
    intro z_30 h_31
    have e_32 : z_30.toInt = x2.toInt := mp_i2l h_31
    show mp_W E X 5 20 [(0, .ref a0), (1, .int x0), (2, .int x1), (3, .int x2)] [.long 1000000, .long 1, .long z_30] w4_ 0 0
    refine mp_callS hF (As := [.long z_30, .long 1, .long 1000000]) (rest := []) (wr := w4_) (bX10_in_0 E z_30 1 1000000) mp_lkX10_97 [] [0, 1, 2, 3] rfl rfl rfl rfl rfl ⟨(Nat.le_of_ble_eq_true rfl), (Nat.le_of_ble_eq_true rfl), (Nat.le_of_ble_eq_true rfl), (Nat.le_of_ble_eq_true rfl)⟩ (Nat.le_of_ble_eq_true rfl) (by first | exact mp_fd_ok mp_k_cX10_promises_ok (by decide +kernel) | decide +kernel) (fun v_33 w_34 h_35 => ?_)
    rcases h_35 with ⟨rfl, x_36, rfl⟩ | ⟨rfl, c_37, c_38, rfl⟩
    · skip
      have i_39 : (1 : Int64).toInt = 1 := by decide
      have i_40 : (1000000 : Int64).toInt = 1000000 := by decide
      show mp_W E X 5 23 [(0, .ref a0), (1, .int x0), (2, .int x1), (3, .int x2)] [.int 0] w4_ 0 0
      refine mp_run mp_k_cX10_promises_ok hF mp_tabX10_ok [mp_h (.ifCond .ne 6) [29]] (by decide +kernel) ?_
      refine And.intro (fun c_41 => absurd c_41 (by decide)) (fun _ => ?_)
      show mp_W E X 5 26 [(0, .ref a0), (1, .int x0), (2, .int x1), (3, .int x2)] [] w4_ 0 0
      refine mp_run mp_k_cX10_promises_ok hF mp_tabX10_ok [mp_c (.bipush (-2)) (-2)] (by decide +kernel) ?_
      show mp_W E X 5 28 [(0, .ref a0), (1, .int x0), (2, .int x1), (3, .int x2)] [.int (-2)] w4_ 0 0
      exact mp_iret hF hQ rfl rfl (Nat.le_of_ble_eq_true rfl) (Nat.le_of_ble_eq_true rfl) [2, 3, 0, 1] (w' := w2_) rfl rfl (Or.inl ⟨rfl, (by first | assumption | (rw [rfl]; assumption)), (by (first | exact q1 | omega)), (by first | (first | exact mp_o1865 i_39 i_40 e_32 x_36 | omega) | decide | (have h8 : (0 : Int64).toInt = 0 := rfl; have h9 : (-1 : Int32).toInt = -1 := rfl; have h10 : (-2 : Int32).toInt = -2 := rfl; have h11 : (0 : Int32).toInt = 0 := rfl; have h12 : (1 : Int32).toInt = 1 := rfl; have h13 : (-5 : Int32).toInt = -5 := rfl; have h14 : (-3 : Int32).toInt = -3 := rfl; omega)), rfl⟩) (by first | exact mp_fd_ok mp_k_cX10_promises_ok (by decide +kernel) | decide +kernel)
    · skip
      have c_37 : 1 ≤ z_30.toInt := c_37
      have c_38 : z_30.toInt ≤ 1000000 := c_38
      have i_42 : (1 : Int64).toInt = 1 := by decide
      have i_43 : (1000000 : Int64).toInt = 1000000 := by decide
      show mp_W E X 5 23 [(0, .ref a0), (1, .int x0), (2, .int x1), (3, .int x2)] [.int 1] w4_ 0 0
      refine mp_run mp_k_cX10_promises_ok hF mp_tabX10_ok [mp_h (.ifCond .ne 6) [29]] (by decide +kernel) ?_
      refine And.intro (fun _ => ?_) (fun c_44 => absurd c_44 (by decide))
      show mp_W E X 5 29 [(0, .ref a0), (1, .int x0), (2, .int x1), (3, .int x2)] [] w4_ 0 0
      refine mp_run mp_k_cX10_promises_ok hF mp_tabX10_ok [mp_i (.aload_n 0), mp_h (.getfield 34) [17, 2], mp_c (.iconst 4) 4, mp_h .iaload [3], mp_h (.ifCond .le 6) [41]] (by decide +kernel) ?_
      refine And.intro rfl (And.intro rfl ?_)
      refine And.intro rfl (And.intro rfl (And.intro (vp_in_iff.mpr (by decide)) ?_))
      intro z_45 h_46
      have e_47 : 0 ≤ z_45.toInt ∧ z_45.toInt ≤ 60 := mp_res_ld h_46 p4 (by decide) (by decide) (by decide)
      have e_48 : z_45.toInt = (f0 4).toInt := congrArg Int32.toInt (mp_at h_46 (by decide) rfl)
      refine And.intro (fun c_49 => ?_) (fun c_49 => ?_)
      · have c_49 : z_45.toInt ≤ 0 := c_49
        show mp_W E X 5 41 [(0, .ref a0), (1, .int x0), (2, .int x1), (3, .int x2)] [] w4_ 0 0
        refine mp_run mp_k_cX10_promises_ok hF mp_tabX10_ok [mp_i (.aload_n 0), mp_h (.getfield 34) [17, 2], mp_c (.iconst 3) 3, mp_h .iaload [3], mp_c (.bipush 10) 10, mp_h (.if_icmp .ne 6) [55]] (by decide +kernel) ?_
        refine And.intro rfl (And.intro rfl ?_)
        refine And.intro rfl (And.intro rfl (And.intro (vp_in_iff.mpr (by decide)) ?_))
        intro z_50 h_51
        have e_52 : 0 ≤ z_50.toInt ∧ z_50.toInt ≤ 10 := mp_res_ld h_51 p3 (by decide) (by decide) (by decide)
        have e_53 : z_50.toInt = (f0 3).toInt := congrArg Int32.toInt (mp_at h_51 (by decide) rfl)
        refine And.intro (fun c_54 => ?_) (fun c_54 => ?_)
        · have c_54 : z_50.toInt ≠ 10 := c_54
          show mp_W E X 5 55 [(0, .ref a0), (1, .int x0), (2, .int x1), (3, .int x2)] [] w4_ 0 0
          refine mp_run mp_k_cX10_promises_ok hF mp_tabX10_ok [mp_c (.bipush 6) 6, mp_i (.aload_n 0), mp_h (.getfield 34) [17, 2], mp_c (.iconst 3) 3, mp_h .iaload [3], mp_i .imul, mp_i (.istore 4), mp_i (.aload_n 0), mp_h (.getfield 47) [21, 2], mp_i (.iload 4), mp_i (.iload_n 1), mp_h .iastore [0]] (by decide +kernel) ?_
          refine And.intro rfl (And.intro rfl ?_)
          refine And.intro rfl (And.intro rfl (And.intro (vp_in_iff.mpr (by decide)) ?_))
          intro z_55 h_56
          have k_57 : z_50 = z_55 := h_51.trans h_56.symm
          subst k_57
          intro z_58 h_59
          have e_60 : z_58.toInt = 6 * z_50.toInt := mp_mul (a := 6) (b := z_50.toInt) h_59 (by decide) rfl (by (first | exact mp_o1866 e_52 | omega)) (by (first | exact mp_o1867 e_52 | omega))
          refine And.intro rfl (And.intro rfl ?_)
          refine And.intro rfl (And.intro rfl (And.intro (vp_in_iff.mpr (by (first | exact mp_o1868 e_60 e_52 | omega))) ?_))
          intro g_61 h_62
          have p_63 : mp_res g_61 300 6 0 0 5 := mp_res_st h_62 p5 (by (first | exact mp_o1869 e_60 e_52 | omega)) (by (first | exact mp_o1106 c_5 x_9 | omega))
          have p_64 : mp_res g_61 300 6 1 0 5 := mp_res_st h_62 p6 (by (first | exact mp_o1869 e_60 e_52 | omega)) (by omega)
          have p_65 : mp_res g_61 300 6 3 0 99 := mp_res_st h_62 p7 (by (first | exact mp_o1869 e_60 e_52 | omega)) (by omega)
          have p_66 : mp_res g_61 300 6 4 0 1 := mp_res_st h_62 p8 (by (first | exact mp_o1869 e_60 e_52 | omega)) (by omega)
          have p_67 : mp_keept g_61 f1 60 := mp_keept_st h_62 mp_keept_rfl (by (first | exact mp_o1870 c_54 e_52 e_60 | omega))
          let w5_ : va_W := [(mp_arI E a2 0 300 g_61), (mp_arI E a3 0 300 f2), (mp_ob10 a0 0 a4 a5 a6 a7 a8 y1 y2 y3 y4 y5 y6 y7 y8 y9 y10 a9 a1 a10 a11 a12 a2 a3 a13 y11 a14 a15 a16 a17 y12 y13 y14 a18 a19 y15 y16 a20 a21 a22 y17 y18 y19 y20 a23 a24 a25 y21), (mp_arI E a1 0 25 f0)]
          show mp_W E X 5 74 [(4, .int z_58), (0, .ref a0), (1, .int x0), (2, .int x1), (3, .int x2)] [] w5_ 0 0
          refine mp_run mp_k_cX10_promises_ok hF mp_tabX10_ok [mp_i (.aload_n 0), mp_h (.getfield 47) [21, 2], mp_i (.iload 4), mp_c (.iconst 1) 1, mp_i .iadd, mp_i (.iload_n 2), mp_h .iastore [0]] (by decide +kernel) ?_
          refine And.intro rfl (And.intro rfl ?_)
          intro z_68 h_69
          have e_70 : z_68.toInt = z_58.toInt + 1 := mp_add (a := z_58.toInt) (b := 1) h_69 rfl (by decide) (by (first | exact mp_o1871 e_60 e_52 | omega)) (by (first | exact mp_o1872 e_60 e_52 | omega))
          refine And.intro rfl (And.intro rfl (And.intro (vp_in_iff.mpr (by (first | exact mp_o1873 e_70 e_60 e_52 | omega))) ?_))
          intro g_71 h_72
          have p_73 : mp_res g_71 300 6 0 0 5 := mp_res_st h_72 p_63 (by (first | exact mp_o1874 e_70 e_60 e_52 | omega)) (by omega)
          have p_74 : mp_res g_71 300 6 1 0 5 := mp_res_st h_72 p_64 (by (first | exact mp_o1874 e_70 e_60 e_52 | omega)) (by (first | exact mp_o1106 c_6 x_11 | omega))
          have p_75 : mp_res g_71 300 6 3 0 99 := mp_res_st h_72 p_65 (by (first | exact mp_o1874 e_70 e_60 e_52 | omega)) (by omega)
          have p_76 : mp_res g_71 300 6 4 0 1 := mp_res_st h_72 p_66 (by (first | exact mp_o1874 e_70 e_60 e_52 | omega)) (by omega)
          have p_77 : mp_keept g_71 f1 60 := mp_keept_st h_72 p_67 (by (first | exact mp_o1875 c_54 e_52 e_60 e_70 | omega))
          let w6_ : va_W := [(mp_arI E a2 0 300 g_71), (mp_arI E a3 0 300 f2), (mp_ob10 a0 0 a4 a5 a6 a7 a8 y1 y2 y3 y4 y5 y6 y7 y8 y9 y10 a9 a1 a10 a11 a12 a2 a3 a13 y11 a14 a15 a16 a17 y12 y13 y14 a18 a19 y15 y16 a20 a21 a22 y17 y18 y19 y20 a23 a24 a25 y21), (mp_arI E a1 0 25 f0)]
          show mp_W E X 5 84 [(4, .int z_58), (0, .ref a0), (1, .int x0), (2, .int x1), (3, .int x2)] [] w6_ 0 0
          refine mp_run mp_k_cX10_promises_ok hF mp_tabX10_ok [mp_i (.aload_n 0), mp_h (.getfield 47) [21, 2], mp_i (.iload 4), mp_c (.iconst 2) 2, mp_i .iadd, mp_i (.iload_n 3), mp_h .iastore [0]] (by decide +kernel) ?_
          refine And.intro rfl (And.intro rfl ?_)
          intro z_78 h_79
          have e_80 : z_78.toInt = z_58.toInt + 2 := mp_add (a := z_58.toInt) (b := 2) h_79 rfl (by decide) (by (first | exact mp_o1876 e_60 e_52 | omega)) (by (first | exact mp_o1877 e_60 e_52 | omega))
          refine And.intro rfl (And.intro rfl (And.intro (vp_in_iff.mpr (by (first | exact mp_o1878 e_80 e_60 e_52 | omega))) ?_))
          intro g_81 h_82
          have p_83 : mp_res g_81 300 6 0 0 5 := mp_res_st h_82 p_73 (by (first | exact mp_o1879 e_80 e_60 e_52 | omega)) (by omega)
          have p_84 : mp_res g_81 300 6 1 0 5 := mp_res_st h_82 p_74 (by (first | exact mp_o1879 e_80 e_60 e_52 | omega)) (by omega)
          have p_85 : mp_res g_81 300 6 3 0 99 := mp_res_st h_82 p_75 (by (first | exact mp_o1879 e_80 e_60 e_52 | omega)) (by omega)
          have p_86 : mp_res g_81 300 6 4 0 1 := mp_res_st h_82 p_76 (by (first | exact mp_o1879 e_80 e_60 e_52 | omega)) (by omega)
          have p_87 : mp_keept g_81 f1 60 := mp_keept_st h_82 p_77 (by (first | exact mp_o1880 c_54 e_52 e_60 e_80 | omega))
          let w7_ : va_W := [(mp_arI E a2 0 300 g_81), (mp_arI E a3 0 300 f2), (mp_ob10 a0 0 a4 a5 a6 a7 a8 y1 y2 y3 y4 y5 y6 y7 y8 y9 y10 a9 a1 a10 a11 a12 a2 a3 a13 y11 a14 a15 a16 a17 y12 y13 y14 a18 a19 y15 y16 a20 a21 a22 y17 y18 y19 y20 a23 a24 a25 y21), (mp_arI E a1 0 25 f0)]
          show mp_W E X 5 94 [(4, .int z_58), (0, .ref a0), (1, .int x0), (2, .int x1), (3, .int x2)] [] w7_ 0 0
          refine mp_run mp_k_cX10_promises_ok hF mp_tabX10_ok [mp_i (.aload_n 0), mp_h (.getfield 47) [21, 2], mp_i (.iload 4), mp_c (.iconst 3) 3, mp_i .iadd, mp_i (.aload_n 0), mp_h (.getfield 34) [17, 2], mp_c (.iconst 1) 1, mp_h .iaload [3], mp_h .iastore [0]] (by decide +kernel) ?_
          refine And.intro rfl (And.intro rfl ?_)
          intro z_88 h_89
          have e_90 : z_88.toInt = z_58.toInt + 3 := mp_add (a := z_58.toInt) (b := 3) h_89 rfl (by decide) (by (first | exact mp_o1881 e_60 e_52 | omega)) (by (first | exact mp_o1882 e_60 e_52 | omega))
          refine And.intro rfl (And.intro rfl ?_)
          refine And.intro rfl (And.intro rfl (And.intro (vp_in_iff.mpr (by decide)) ?_))
          intro z_91 h_92
          have e_93 : 0 ≤ z_91.toInt ∧ z_91.toInt ≤ 99 := mp_res_ld h_92 p1 (by decide) (by decide) (by decide)
          have e_94 : z_91.toInt = (f0 1).toInt := congrArg Int32.toInt (mp_at h_92 (by decide) rfl)
          refine And.intro rfl (And.intro rfl (And.intro (vp_in_iff.mpr (by (first | exact mp_o1883 e_90 e_60 e_52 | omega))) ?_))
          intro g_95 h_96
          have p_97 : mp_res g_95 300 6 0 0 5 := mp_res_st h_96 p_83 (by (first | exact mp_o1884 e_90 e_60 e_52 | omega)) (by omega)
          have p_98 : mp_res g_95 300 6 1 0 5 := mp_res_st h_96 p_84 (by (first | exact mp_o1884 e_90 e_60 e_52 | omega)) (by omega)
          have p_99 : mp_res g_95 300 6 3 0 99 := mp_res_st h_96 p_85 (by (first | exact mp_o1884 e_90 e_60 e_52 | omega)) (by (first | exact mp_o1885 e_93 | omega))
          have p_100 : mp_res g_95 300 6 4 0 1 := mp_res_st h_96 p_86 (by (first | exact mp_o1884 e_90 e_60 e_52 | omega)) (by omega)
          have p_101 : mp_keept g_95 f1 60 := mp_keept_st h_96 p_87 (by (first | exact mp_o1886 c_54 e_52 e_60 e_90 | omega))
          let w8_ : va_W := [(mp_arI E a2 0 300 g_95), (mp_arI E a3 0 300 f2), (mp_ob10 a0 0 a4 a5 a6 a7 a8 y1 y2 y3 y4 y5 y6 y7 y8 y9 y10 a9 a1 a10 a11 a12 a2 a3 a13 y11 a14 a15 a16 a17 y12 y13 y14 a18 a19 y15 y16 a20 a21 a22 y17 y18 y19 y20 a23 a24 a25 y21), (mp_arI E a1 0 25 f0)]
          show mp_W E X 5 109 [(4, .int z_58), (0, .ref a0), (1, .int x0), (2, .int x1), (3, .int x2)] [] w8_ 0 0
          refine mp_run mp_k_cX10_promises_ok hF mp_tabX10_ok [mp_i (.aload_n 0), mp_h (.getfield 47) [21, 2], mp_i (.iload 4), mp_c (.iconst 4) 4, mp_i .iadd, mp_c (.iconst 0) 0, mp_h .iastore [0]] (by decide +kernel) ?_
          refine And.intro rfl (And.intro rfl ?_)
          intro z_102 h_103
          have e_104 : z_102.toInt = z_58.toInt + 4 := mp_add (a := z_58.toInt) (b := 4) h_103 rfl (by decide) (by (first | exact mp_o1887 e_60 e_52 | omega)) (by (first | exact mp_o1888 e_60 e_52 | omega))
          refine And.intro rfl (And.intro rfl (And.intro (vp_in_iff.mpr (by (first | exact mp_o1889 e_104 e_60 e_52 | omega))) ?_))
          intro g_105 h_106
          have p_107 : mp_res g_105 300 6 0 0 5 := mp_res_st h_106 p_97 (by (first | exact mp_o1890 e_104 e_60 e_52 | omega)) (fun _ => by decide)
          have p_108 : mp_res g_105 300 6 1 0 5 := mp_res_st h_106 p_98 (by (first | exact mp_o1890 e_104 e_60 e_52 | omega)) (fun _ => by decide)
          have p_109 : mp_res g_105 300 6 3 0 99 := mp_res_st h_106 p_99 (by (first | exact mp_o1890 e_104 e_60 e_52 | omega)) (fun _ => by decide)
          have p_110 : mp_res g_105 300 6 4 0 1 := mp_res_st h_106 p_100 (by (first | exact mp_o1890 e_104 e_60 e_52 | omega)) (fun _ => by decide)
          have p_111 : mp_keept g_105 f1 60 := mp_keept_st h_106 p_101 (by (first | exact mp_o1891 c_54 e_52 e_60 e_104 | omega))
          let w9_ : va_W := [(mp_arI E a2 0 300 g_105), (mp_arI E a3 0 300 f2), (mp_ob10 a0 0 a4 a5 a6 a7 a8 y1 y2 y3 y4 y5 y6 y7 y8 y9 y10 a9 a1 a10 a11 a12 a2 a3 a13 y11 a14 a15 a16 a17 y12 y13 y14 a18 a19 y15 y16 a20 a21 a22 y17 y18 y19 y20 a23 a24 a25 y21), (mp_arI E a1 0 25 f0)]
          show mp_W E X 5 119 [(4, .int z_58), (0, .ref a0), (1, .int x0), (2, .int x1), (3, .int x2)] [] w9_ 0 0
          refine mp_run mp_k_cX10_promises_ok hF mp_tabX10_ok [mp_i (.aload_n 0), mp_h (.getfield 47) [21, 2], mp_i (.iload 4), mp_c (.iconst 5) 5, mp_i .iadd, mp_c (.iconst (-1)) (-1), mp_h .iastore [0]] (by decide +kernel) ?_
          refine And.intro rfl (And.intro rfl ?_)
          intro z_112 h_113
          have e_114 : z_112.toInt = z_58.toInt + 5 := mp_add (a := z_58.toInt) (b := 5) h_113 rfl (by decide) (by (first | exact mp_o1892 e_60 e_52 | omega)) (by (first | exact mp_o1893 e_60 e_52 | omega))
          refine And.intro rfl (And.intro rfl (And.intro (vp_in_iff.mpr (by (first | exact mp_o1894 e_114 e_60 e_52 | omega))) ?_))
          intro g_115 h_116
          have p_117 : mp_res g_115 300 6 0 0 5 := mp_res_st h_116 p_107 (by (first | exact mp_o1895 e_114 e_60 e_52 | omega)) (by omega)
          have p_118 : mp_res g_115 300 6 1 0 5 := mp_res_st h_116 p_108 (by (first | exact mp_o1895 e_114 e_60 e_52 | omega)) (by omega)
          have p_119 : mp_res g_115 300 6 3 0 99 := mp_res_st h_116 p_109 (by (first | exact mp_o1895 e_114 e_60 e_52 | omega)) (by omega)
          have p_120 : mp_res g_115 300 6 4 0 1 := mp_res_st h_116 p_110 (by (first | exact mp_o1895 e_114 e_60 e_52 | omega)) (by omega)
          have p_121 : mp_keept g_115 f1 60 := mp_keept_st h_116 p_111 (by (first | exact mp_o1896 c_54 e_52 e_60 e_114 | omega))
          let w10_ : va_W := [(mp_arI E a2 0 300 g_115), (mp_arI E a3 0 300 f2), (mp_ob10 a0 0 a4 a5 a6 a7 a8 y1 y2 y3 y4 y5 y6 y7 y8 y9 y10 a9 a1 a10 a11 a12 a2 a3 a13 y11 a14 a15 a16 a17 y12 y13 y14 a18 a19 y15 y16 a20 a21 a22 y17 y18 y19 y20 a23 a24 a25 y21), (mp_arI E a1 0 25 f0)]
          show mp_W E X 5 129 [(4, .int z_58), (0, .ref a0), (1, .int x0), (2, .int x1), (3, .int x2)] [] w10_ 0 0
          refine mp_run mp_k_cX10_promises_ok hF mp_tabX10_ok [mp_i (.aload_n 0), mp_h (.getfield 34) [17, 2], mp_c (.iconst 3) 3, mp_i .dup2, mp_h .iaload [3], mp_c (.iconst 1) 1, mp_i .iadd, mp_h .iastore [3]] (by decide +kernel) ?_
          refine And.intro rfl (And.intro rfl ?_)
          refine And.intro rfl (And.intro rfl (And.intro (vp_in_iff.mpr (by decide)) ?_))
          intro z_122 h_123
          have k_124 : z_50 = z_122 := h_51.trans h_123.symm
          subst k_124
          intro z_125 h_126
          have e_127 : z_125.toInt = z_50.toInt + 1 := mp_add (a := z_50.toInt) (b := 1) h_126 rfl (by decide) (by (first | exact mp_o1897 e_52 | omega)) (by (first | exact mp_o1898 e_52 | omega))
          refine And.intro rfl (And.intro rfl (And.intro (vp_in_iff.mpr (by decide)) ?_))
          intro g_128 h_129
          have p_130 : mp_res g_128 25 5 0 0 6 := mp_res_st h_129 p0 (by decide) (fun q => absurd q (by decide))
          have p_131 : mp_res g_128 25 5 1 0 99 := mp_res_st h_129 p1 (by decide) (fun q => absurd q (by decide))
          have p_132 : mp_res g_128 25 5 2 0 6 := mp_res_st h_129 p2 (by decide) (fun q => absurd q (by decide))
          have p_133 : mp_res g_128 25 5 3 0 10 := mp_res_st h_129 p3 (by decide) (fun _ => by (first | exact mp_o1899 c_54 e_52 e_127 | omega))
          have p_134 : mp_res g_128 25 5 4 0 60 := mp_res_st h_129 p4 (by decide) (fun q => absurd q (by decide))
          have p_135 : mp_keept g_128 f0 5 := mp_keept_st h_129 mp_keept_rfl (by decide)
          have e_136 : (g_128 0).toInt = (f0 0).toInt := mp_has_ne h_129 (by decide)
          have e_137 : (g_128 1).toInt = (f0 1).toInt := mp_has_ne h_129 (by decide)
          have e_138 : (g_128 2).toInt = (f0 2).toInt := mp_has_ne h_129 (by decide)
          have e_139 : (g_128 3).toInt = z_125.toInt := mp_has_eq h_129 (by decide)
          have e_140 : (g_128 4).toInt = (f0 4).toInt := mp_has_ne h_129 (by decide)
          have e_141 : (g_128 20).toInt = (f0 20).toInt := mp_has_ne h_129 (by decide)
          have e_142 : (g_128 21).toInt = (f0 21).toInt := mp_has_ne h_129 (by decide)
          have e_143 : (g_128 22).toInt = (f0 22).toInt := mp_has_ne h_129 (by decide)
          have e_144 : (g_128 23).toInt = (f0 23).toInt := mp_has_ne h_129 (by decide)
          have e_145 : (g_128 24).toInt = (f0 24).toInt := mp_has_ne h_129 (by decide)
          let w11_ : va_W := [(mp_arI E a2 0 300 g_115), (mp_arI E a3 0 300 f2), (mp_ob10 a0 0 a4 a5 a6 a7 a8 y1 y2 y3 y4 y5 y6 y7 y8 y9 y10 a9 a1 a10 a11 a12 a2 a3 a13 y11 a14 a15 a16 a17 y12 y13 y14 a18 a19 y15 y16 a20 a21 a22 y17 y18 y19 y20 a23 a24 a25 y21), (mp_arI E a1 0 25 g_128)]
          show mp_W E X 5 139 [(4, .int z_58), (0, .ref a0), (1, .int x0), (2, .int x1), (3, .int x2)] [] w11_ 0 0
          refine mp_run mp_k_cX10_promises_ok hF mp_tabX10_ok [mp_i (.aload_n 0), mp_h (.getfield 34) [17, 2], mp_c (.iconst 3) 3, mp_h .iaload [3], mp_c (.iconst 1) 1, mp_i .isub] (by decide +kernel) ?_
          refine And.intro rfl (And.intro rfl ?_)
          refine And.intro rfl (And.intro rfl (And.intro (vp_in_iff.mpr (by decide)) ?_))
          intro z_146 h_147
          have e_148 : 0 ≤ z_146.toInt ∧ z_146.toInt ≤ 10 := mp_res_ld h_147 p_133 (by decide) (by decide) (by decide)
          have e_149 : z_146.toInt = (g_128 3).toInt := congrArg Int32.toInt (mp_at h_147 (by decide) rfl)
          intro z_150 h_151
          have e_152 : z_150.toInt = z_146.toInt - 1 := mp_subi (a := z_146.toInt) (b := 1) h_151 rfl (by decide) (by (first | exact mp_o1408 e_148 | omega)) (by (first | exact mp_o1409 e_148 | omega))
          show mp_W E X 5 147 [(4, .int z_58), (0, .ref a0), (1, .int x0), (2, .int x1), (3, .int x2)] [.int z_150] w11_ 0 0
          exact mp_iret hF hQ rfl rfl (Nat.le_of_ble_eq_true rfl) (Nat.le_of_ble_eq_true rfl) [2, 3, 0, 1] (w' := [(mp_ob10 a0 0 a4 a5 a6 a7 a8 y1 y2 y3 y4 y5 y6 y7 y8 y9 y10 a9 a1 a10 a11 a12 a2 a3 a13 y11 a14 a15 a16 a17 y12 y13 y14 a18 a19 y15 y16 a20 a21 a22 y17 y18 y19 y20 a23 a24 a25 y21), (mp_arI E a1 0 25 g_128), (mp_arI E a2 0 300 g_115), (mp_arI E a3 0 300 f2)]) rfl rfl (Or.inr (Or.inl ⟨g_128, g_115, z_150, rfl, (by first | (first | exact c_5 | omega) | decide), (by first | (first | exact c_6 | omega) | decide), (by first | (first | exact c_7 | omega) | decide), (by first | (first | exact mp_o1310 c_37 e_32 | omega) | decide), (by first | (first | exact mp_o1900 e_32 c_38 | omega) | decide), (by (first | exact mp_o1901 e_152 e_148 | omega)), (by (first | exact mp_o1902 e_152 e_148 | omega)), p_130, p_131, p_132, p_133, p_134, p_135, p_117, p_118, p_119, p_120, p_121, (mp_prm_add q0 h_62 h_72 h_82 h_96 h_106 h_116 (by (first | exact mp_o1903 e_70 e_80 e_90 e_104 e_114 e_53 e_52 e_60 | omega)) (by first | decide | omega) (by (first | exact mp_o1229 e_53 e_127 e_139 | omega))), (by first | fail | exact mp_tinv_le2 (by assumption) (by (first | exact e_137 | omega)) (by (first | exact mp_o1594 e_140 | omega)) | exact mp_tinv_0 (by omega) (by omega)), (by first | (first | exact mp_o1904 x_12 c_37 e_32 c_38 | omega) | decide | (have h8 : (0 : Int64).toInt = 0 := rfl; have h9 : (-1 : Int32).toInt = -1 := rfl; have h10 : (-2 : Int32).toInt = -2 := rfl; have h11 : (0 : Int32).toInt = 0 := rfl; have h12 : (1 : Int32).toInt = 1 := rfl; have h13 : (-5 : Int32).toInt = -5 := rfl; have h14 : (-3 : Int32).toInt = -3 := rfl; omega)), (by first | (first | exact mp_o1536 e_48 c_49 | omega) | decide | (have h8 : (0 : Int64).toInt = 0 := rfl; have h9 : (-1 : Int32).toInt = -1 := rfl; have h10 : (-2 : Int32).toInt = -2 := rfl; have h11 : (0 : Int32).toInt = 0 := rfl; have h12 : (1 : Int32).toInt = 1 := rfl; have h13 : (-5 : Int32).toInt = -5 := rfl; have h14 : (-3 : Int32).toInt = -3 := rfl; omega)), (by first | (first | exact mp_o1905 e_53 e_127 e_139 e_149 e_148 | omega) | decide | (have h8 : (0 : Int64).toInt = 0 := rfl; have h9 : (-1 : Int32).toInt = -1 := rfl; have h10 : (-2 : Int32).toInt = -2 := rfl; have h11 : (0 : Int32).toInt = 0 := rfl; have h12 : (1 : Int32).toInt = 1 := rfl; have h13 : (-5 : Int32).toInt = -5 := rfl; have h14 : (-3 : Int32).toInt = -3 := rfl; omega)), (by first | (first | exact mp_o1906 e_53 e_127 e_139 e_149 e_152 | omega) | decide | (have h8 : (0 : Int64).toInt = 0 := rfl; have h9 : (-1 : Int32).toInt = -1 := rfl; have h10 : (-2 : Int32).toInt = -2 := rfl; have h11 : (0 : Int32).toInt = 0 := rfl; have h12 : (1 : Int32).toInt = 1 := rfl; have h13 : (-5 : Int32).toInt = -5 := rfl; have h14 : (-3 : Int32).toInt = -3 := rfl; omega)), (by first | (first | exact mp_o1229 e_53 e_127 e_139 | omega) | decide | (have h8 : (0 : Int64).toInt = 0 := rfl; have h9 : (-1 : Int32).toInt = -1 := rfl; have h10 : (-2 : Int32).toInt = -2 := rfl; have h11 : (0 : Int32).toInt = 0 := rfl; have h12 : (1 : Int32).toInt = 1 := rfl; have h13 : (-5 : Int32).toInt = -5 := rfl; have h14 : (-3 : Int32).toInt = -3 := rfl; omega)), (by first | (first | exact e_136 | omega) | decide | (have h8 : (0 : Int64).toInt = 0 := rfl; have h9 : (-1 : Int32).toInt = -1 := rfl; have h10 : (-2 : Int32).toInt = -2 := rfl; have h11 : (0 : Int32).toInt = 0 := rfl; have h12 : (1 : Int32).toInt = 1 := rfl; have h13 : (-5 : Int32).toInt = -5 := rfl; have h14 : (-3 : Int32).toInt = -3 := rfl; omega)), (by first | (first | exact e_137 | omega) | decide | (have h8 : (0 : Int64).toInt = 0 := rfl; have h9 : (-1 : Int32).toInt = -1 := rfl; have h10 : (-2 : Int32).toInt = -2 := rfl; have h11 : (0 : Int32).toInt = 0 := rfl; have h12 : (1 : Int32).toInt = 1 := rfl; have h13 : (-5 : Int32).toInt = -5 := rfl; have h14 : (-3 : Int32).toInt = -3 := rfl; omega)), (by first | (first | exact e_138 | omega) | decide | (have h8 : (0 : Int64).toInt = 0 := rfl; have h9 : (-1 : Int32).toInt = -1 := rfl; have h10 : (-2 : Int32).toInt = -2 := rfl; have h11 : (0 : Int32).toInt = 0 := rfl; have h12 : (1 : Int32).toInt = 1 := rfl; have h13 : (-5 : Int32).toInt = -5 := rfl; have h14 : (-3 : Int32).toInt = -3 := rfl; omega)), (by first | (first | exact e_140 | omega) | decide | (have h8 : (0 : Int64).toInt = 0 := rfl; have h9 : (-1 : Int32).toInt = -1 := rfl; have h10 : (-2 : Int32).toInt = -2 := rfl; have h11 : (0 : Int32).toInt = 0 := rfl; have h12 : (1 : Int32).toInt = 1 := rfl; have h13 : (-5 : Int32).toInt = -5 := rfl; have h14 : (-3 : Int32).toInt = -3 := rfl; omega)), (by rw [h_116, h_106, h_96, h_82, h_72, h_62]; rw [show z_58.toNatClampNeg = (6 * (f0 3).toInt).toNat by simp only [Int32.toNatClampNeg]; (first | exact mp_o1907 e_53 e_60 | omega), show z_68.toNatClampNeg = (6 * (f0 3).toInt + 1).toNat by simp only [Int32.toNatClampNeg]; (first | exact mp_o1908 e_53 e_60 e_70 | omega), show z_78.toNatClampNeg = (6 * (f0 3).toInt + 2).toNat by simp only [Int32.toNatClampNeg]; (first | exact mp_o1909 e_53 e_60 e_80 | omega), show z_88.toNatClampNeg = (6 * (f0 3).toInt + 3).toNat by simp only [Int32.toNatClampNeg]; (first | exact mp_o1910 e_53 e_60 e_90 | omega), show z_102.toNatClampNeg = (6 * (f0 3).toInt + 4).toNat by simp only [Int32.toNatClampNeg]; (first | exact mp_o1911 e_53 e_60 e_104 | omega), show z_112.toNatClampNeg = (6 * (f0 3).toInt + 5).toNat by simp only [Int32.toNatClampNeg]; (first | exact mp_o1912 e_53 e_60 e_114 | omega), show z_91 = f0 1 from Int32.toInt_inj.mp (by (first | exact e_94 | omega))]), rfl⟩)) (by first | exact mp_fd_ok mp_k_cX10_promises_ok (by decide +kernel) | decide +kernel)
        · have c_54 : z_50.toInt = 10 := (congrArg Int32.toInt c_54)
          show mp_W E X 5 52 [(0, .ref a0), (1, .int x0), (2, .int x1), (3, .int x2)] [] w4_ 0 0
          refine mp_run mp_k_cX10_promises_ok hF mp_tabX10_ok [mp_c (.bipush (-3)) (-3)] (by decide +kernel) ?_
          show mp_W E X 5 54 [(0, .ref a0), (1, .int x0), (2, .int x1), (3, .int x2)] [.int (-3)] w4_ 0 0
          exact mp_iret hF hQ rfl rfl (Nat.le_of_ble_eq_true rfl) (Nat.le_of_ble_eq_true rfl) [2, 3, 0, 1] (w' := w2_) rfl rfl (Or.inr (Or.inr (Or.inl ⟨rfl, (by first | (first | exact c_5 | omega) | decide), (by first | (first | exact c_6 | omega) | decide), (by first | (first | exact c_7 | omega) | decide), (by first | (first | exact mp_o1310 c_37 e_32 | omega) | decide), (by first | (first | exact mp_o1900 e_32 c_38 | omega) | decide), (by first | assumption | (rw [rfl]; assumption)), (by (first | exact q1 | omega)), (by first | (first | exact mp_o1904 x_12 c_37 e_32 c_38 | omega) | decide | (have h8 : (0 : Int64).toInt = 0 := rfl; have h9 : (-1 : Int32).toInt = -1 := rfl; have h10 : (-2 : Int32).toInt = -2 := rfl; have h11 : (0 : Int32).toInt = 0 := rfl; have h12 : (1 : Int32).toInt = 1 := rfl; have h13 : (-5 : Int32).toInt = -5 := rfl; have h14 : (-3 : Int32).toInt = -3 := rfl; omega)), (by first | (first | exact mp_o1536 e_48 c_49 | omega) | decide | (have h8 : (0 : Int64).toInt = 0 := rfl; have h9 : (-1 : Int32).toInt = -1 := rfl; have h10 : (-2 : Int32).toInt = -2 := rfl; have h11 : (0 : Int32).toInt = 0 := rfl; have h12 : (1 : Int32).toInt = 1 := rfl; have h13 : (-5 : Int32).toInt = -5 := rfl; have h14 : (-3 : Int32).toInt = -3 := rfl; omega)), (by first | (first | exact mp_o1913 c_54 e_53 | omega) | decide | (have h8 : (0 : Int64).toInt = 0 := rfl; have h9 : (-1 : Int32).toInt = -1 := rfl; have h10 : (-2 : Int32).toInt = -2 := rfl; have h11 : (0 : Int32).toInt = 0 := rfl; have h12 : (1 : Int32).toInt = 1 := rfl; have h13 : (-5 : Int32).toInt = -5 := rfl; have h14 : (-3 : Int32).toInt = -3 := rfl; omega)), rfl⟩))) (by first | exact mp_fd_ok mp_k_cX10_promises_ok (by decide +kernel) | decide +kernel)
      · have c_49 : 0 < z_45.toInt := c_49
        show mp_W E X 5 38 [(0, .ref a0), (1, .int x0), (2, .int x1), (3, .int x2)] [] w4_ 0 0
        refine mp_run mp_k_cX10_promises_ok hF mp_tabX10_ok [mp_c (.bipush (-5)) (-5)] (by decide +kernel) ?_
        show mp_W E X 5 40 [(0, .ref a0), (1, .int x0), (2, .int x1), (3, .int x2)] [.int (-5)] w4_ 0 0
        exact mp_iret hF hQ rfl rfl (Nat.le_of_ble_eq_true rfl) (Nat.le_of_ble_eq_true rfl) [2, 3, 0, 1] (w' := w2_) rfl rfl (Or.inr (Or.inr (Or.inr ⟨rfl, (by first | (first | exact c_5 | omega) | decide), (by first | (first | exact c_6 | omega) | decide), (by first | (first | exact c_7 | omega) | decide), (by first | (first | exact mp_o1310 c_37 e_32 | omega) | decide), (by first | (first | exact mp_o1900 e_32 c_38 | omega) | decide), (by first | assumption | (rw [rfl]; assumption)), (by (first | exact q1 | omega)), (by first | (first | exact mp_o1904 x_12 c_37 e_32 c_38 | omega) | decide | (have h8 : (0 : Int64).toInt = 0 := rfl; have h9 : (-1 : Int32).toInt = -1 := rfl; have h10 : (-2 : Int32).toInt = -2 := rfl; have h11 : (0 : Int32).toInt = 0 := rfl; have h12 : (1 : Int32).toInt = 1 := rfl; have h13 : (-5 : Int32).toInt = -5 := rfl; have h14 : (-3 : Int32).toInt = -3 := rfl; omega)), (by first | (first | exact mp_o1537 c_49 e_48 | omega) | decide | (have h8 : (0 : Int64).toInt = 0 := rfl; have h9 : (-1 : Int32).toInt = -1 := rfl; have h10 : (-2 : Int32).toInt = -2 := rfl; have h11 : (0 : Int32).toInt = 0 := rfl; have h12 : (1 : Int32).toInt = 1 := rfl; have h13 : (-5 : Int32).toInt = -5 := rfl; have h14 : (-3 : Int32).toInt = -3 := rfl; omega)), rfl⟩))) (by first | exact mp_fd_ok mp_k_cX10_promises_ok (by decide +kernel) | decide +kernel)
set_option maxHeartbeats 4000000 in
set_option maxRecDepth 100000 in
theorem bX10_shuts_157 (E : mp_E) (a0 a1 a2 a3 a4 a5 a6 a7 a8 a9 a10 a11 a12 a13 a14 a15 a16 a17 a18 a19 a20 a21 a22 a23 a24 a25 : Nat) (f0 : Nat → Int32) (f1 : Nat → Int32) (y0 : Int32) (y1 : Int32) (y2 : Int32) (y3 : Int32) (y4 : Int32) (y5 : Int32) (y6 : Int64) (y7 : Int32) (y8 : Int32) (y9 : Int32) (y10 : Int32) (y11 : Int32) (y12 : Int32) (y13 : Int32) (y14 : Int32) (y15 : Int32) (y16 : Int32) (y17 : Int32) (y18 : Int32) (y19 : Int32) (y20 : Int32) (y21 : Int32) (x0 : Int32) (x1 : Int32) (x2 : Int32) (p0 : mp_res f0 25 5 0 0 6) (p1 : mp_res f0 25 5 1 0 99) (p2 : mp_res f0 25 5 2 0 6) (p3 : mp_res f0 25 5 3 0 10) (p4 : mp_res f0 25 5 4 0 60) (p5 : mp_all f1 3000 0 1) (l_y1 : 0 ≤ y1.toInt) (u_y1 : y1.toInt ≤ 1600) (l_y2 : 0 ≤ y2.toInt) (u_y2 : y2.toInt ≤ 1600) (l_y3 : 0 ≤ y3.toInt) (u_y3 : y3.toInt ≤ 4) (l_y4 : 0 ≤ y4.toInt) (u_y4 : y4.toInt ≤ 1600) (l_y11 : 0 ≤ y11.toInt) (u_y11 : y11.toInt ≤ 99) (l_y12 : 0 ≤ y12.toInt) (u_y12 : y12.toInt ≤ 5) (l_y13 : 0 ≤ y13.toInt) (u_y13 : y13.toInt ≤ 12) : mp_Ct E yX10_shuts cX10_shuts 5 (some FieldType.int) 2 0 0 46 [.ref a0, .int x0, .int x1, .int x2] [(mp_ob10 a0 y0 a3 a4 a5 a6 a7 y1 y2 y3 y4 y5 y6 y7 y8 y9 y10 a8 a1 a9 a2 a10 a11 a12 a13 y11 a14 a15 a16 a17 y12 y13 y14 a18 a19 y15 y16 a20 a21 a22 y17 y18 y19 y20 a23 a24 a25 y21), (mp_arI E a1 0 25 f0), (mp_arI E a2 3 3000 f1)] (fun v w' => (v = some (.int (-2)) ∧ (x0.toInt < 0 ∨ (f0 0).toInt ≤ x0.toInt ∨ x1.toInt < 0 ∨ 99 < x1.toInt ∨ x2.toInt < 0 ∨ 1 < x2.toInt) ∧ w' = [(mp_ob10 a0 0 a3 a4 a5 a6 a7 y1 y2 y3 y4 y5 y6 y7 y8 y9 y10 a8 a1 a9 a2 a10 a11 a12 a13 y11 a14 a15 a16 a17 y12 y13 y14 a18 a19 y15 y16 a20 a21 a22 y17 y18 y19 y20 a23 a24 a25 y21), (mp_arI E a1 0 25 f0), (mp_arI E a2 3 3000 f1)]) ∨ (∃ h1 : Nat → Int32, ∃ r2 : Int32, v = some (.int r2) ∧ 0 ≤ x0.toInt ∧ 0 ≤ x1.toInt ∧ x1.toInt ≤ 99 ∧ 0 ≤ x2.toInt ∧ x2.toInt ≤ 1 ∧ 0 ≤ r2.toInt ∧ r2.toInt ≤ 1 ∧ mp_all h1 3000 0 1 ∧ mp_keept h1 f1 600 ∧ (0 ≤ x0.toInt ∧ x0.toInt < (f0 0).toInt ∧ 0 ≤ x1.toInt ∧ x1.toInt ≤ 99 ∧ 0 ≤ x2.toInt ∧ x2.toInt ≤ 1) ∧ ((f0 4).toInt ≤ 0) ∧ (((f1 (100 * x0.toInt + x1.toInt).toNat).toInt ≠ 0 ∧ r2.toInt = 1) ∨ ((f1 (100 * x0.toInt + x1.toInt).toNat).toInt = 0 ∧ r2.toInt = 0)) ∧ ((x2.toInt = 1 ∧ h1 = upd f1 (100 * x0.toInt + x1.toInt).toNat 1) ∨ (x2.toInt ≠ 1 ∧ h1 = upd f1 (100 * x0.toInt + x1.toInt).toNat 0)) ∧ w' = [(mp_ob10 a0 0 a3 a4 a5 a6 a7 y1 y2 y3 y4 y5 y6 y7 y8 y9 y10 a8 a1 a9 a2 a10 a11 a12 a13 y11 a14 a15 a16 a17 y12 y13 y14 a18 a19 y15 y16 a20 a21 a22 y17 y18 y19 y20 a23 a24 a25 y21), (mp_arI E a1 0 25 f0), (mp_arI E a2 3 3000 h1)]) ∨ (v = some (.int (-5)) ∧ 0 ≤ x0.toInt ∧ 0 ≤ x1.toInt ∧ x1.toInt ≤ 99 ∧ 0 ≤ x2.toInt ∧ x2.toInt ≤ 1 ∧ (0 ≤ x0.toInt ∧ x0.toInt < (f0 0).toInt ∧ 0 ≤ x1.toInt ∧ x1.toInt ≤ 99 ∧ 0 ≤ x2.toInt ∧ x2.toInt ≤ 1) ∧ (0 < (f0 4).toInt) ∧ w' = [(mp_ob10 a0 0 a3 a4 a5 a6 a7 y1 y2 y3 y4 y5 y6 y7 y8 y9 y10 a8 a1 a9 a2 a10 a11 a12 a13 y11 a14 a15 a16 a17 y12 y13 y14 a18 a19 y15 y16 a20 a21 a22 y17 y18 y19 y20 a23 a24 a25 y21), (mp_arI E a1 0 25 f0), (mp_arI E a2 3 3000 f1)])) := by
  refine mp_met false (by decide) (by decide) (Nat.le_of_ble_eq_true rfl) (fun X hF hQ => ?_)
  have hF : mp_F E X (RX10, cX10_shuts, 5, (2, 0, 0, 46), (some FieldType.int), false) := hF
  let w1_ : va_W := [(mp_ob10 a0 y0 a3 a4 a5 a6 a7 y1 y2 y3 y4 y5 y6 y7 y8 y9 y10 a8 a1 a9 a2 a10 a11 a12 a13 y11 a14 a15 a16 a17 y12 y13 y14 a18 a19 y15 y16 a20 a21 a22 y17 y18 y19 y20 a23 a24 a25 y21), (mp_arI E a1 0 25 f0), (mp_arI E a2 3 3000 f1)]
  show mp_W E X 5 0 [(0, .ref a0), (1, .int x0), (2, .int x1), (3, .int x2)] [] w1_ 0 0
  refine mp_run mp_k_cX10_shuts_ok hF mp_tabX10_ok [mp_i (.aload_n 0), mp_c (.iconst 0) 0, mp_h (.putfield 92) [0, 0]] (by decide +kernel) ?_
  refine And.intro rfl (And.intro rfl (And.intro rfl (And.intro rfl (And.intro (Nat.le_of_ble_eq_true rfl) ?_))))
  let w2_ : va_W := [(mp_ob10 a0 0 a3 a4 a5 a6 a7 y1 y2 y3 y4 y5 y6 y7 y8 y9 y10 a8 a1 a9 a2 a10 a11 a12 a13 y11 a14 a15 a16 a17 y12 y13 y14 a18 a19 y15 y16 a20 a21 a22 y17 y18 y19 y20 a23 a24 a25 y21), (mp_arI E a1 0 25 f0), (mp_arI E a2 3 3000 f1)]
  show mp_W E X 5 5 [(0, .ref a0), (1, .int x0), (2, .int x1), (3, .int x2)] [] w2_ 0 0
  refine mp_run mp_k_cX10_shuts_ok hF mp_tabX10_ok [mp_i (.aload_n 0), mp_i (.iload_n 1)] (by decide +kernel) ?_
  show mp_W E X 5 7 [(0, .ref a0), (1, .int x0), (2, .int x1), (3, .int x2)] [.int x0, .ref a0] w2_ 0 0
  refine mp_callV hF (As := [.int x0]) (rest := []) (wr := [(mp_arI E a2 3 3000 f1)]) (bX10_isIsle_58 E a0 a1 a3 a4 a5 a6 a7 a8 a9 a2 a10 a11 a12 a13 a14 a15 a16 a17 a18 a19 a20 a21 a22 a23 a24 a25 f0 0 y1 y2 y3 y4 y5 y6 y7 y8 y9 y10 y11 y12 y13 y14 y15 y16 y17 y18 y19 y20 y21 x0 p0 p1 p2 p3 p4 l_y1 u_y1 l_y2 u_y2 l_y3 u_y3 l_y4 u_y4 l_y11 u_y11 l_y12 u_y12 l_y13 u_y13) mp_lkX10_270 0 rfl [0, 1] [2] rfl rfl rfl rfl rfl ⟨(Nat.le_of_ble_eq_true rfl), (Nat.le_of_ble_eq_true rfl), (Nat.le_of_ble_eq_true rfl), (Nat.le_of_ble_eq_true rfl)⟩ (Nat.le_of_ble_eq_true rfl) (by first | exact mp_fd_ok mp_k_cX10_shuts_ok (by decide +kernel) | decide +kernel) (fun v_1 w_2 h_3 => ?_)
  refine h_3.elim (fun q_9 => ?_) (fun q_10 => ?_)
  · skip
    refine q_9.elim fun e_11 q_12 => q_12.elim fun x_4 e_13 => ?_
    clear h_3 q_9 q_12
    subst e_11
    subst e_13
    let w3_ : va_W := [(mp_arI E a2 3 3000 f1), (mp_ob10 a0 0 a3 a4 a5 a6 a7 y1 y2 y3 y4 y5 y6 y7 y8 y9 y10 a8 a1 a9 a2 a10 a11 a12 a13 y11 a14 a15 a16 a17 y12 y13 y14 a18 a19 y15 y16 a20 a21 a22 y17 y18 y19 y20 a23 a24 a25 y21), (mp_arI E a1 0 25 f0)]
    show mp_W E X 5 10 [(0, .ref a0), (1, .int x0), (2, .int x1), (3, .int x2)] [.int 0] w3_ 0 0
    refine mp_run mp_k_cX10_shuts_ok hF mp_tabX10_ok [mp_h (.ifCond .eq 20) [30]] (by decide +kernel) ?_
    refine And.intro (fun _ => ?_) (fun c_14 => absurd c_14 (by decide))
    show mp_W E X 5 30 [(0, .ref a0), (1, .int x0), (2, .int x1), (3, .int x2)] [] w3_ 0 0
    refine mp_run mp_k_cX10_shuts_ok hF mp_tabX10_ok [mp_c (.bipush (-2)) (-2)] (by decide +kernel) ?_
    show mp_W E X 5 32 [(0, .ref a0), (1, .int x0), (2, .int x1), (3, .int x2)] [.int (-2)] w3_ 0 0
    exact mp_iret hF hQ rfl rfl (Nat.le_of_ble_eq_true rfl) (Nat.le_of_ble_eq_true rfl) [1, 2, 0] (w' := w2_) rfl rfl (Or.inl ⟨rfl, (by first | (first | exact mp_o843 x_4 | omega) | decide | (have h8 : (0 : Int64).toInt = 0 := rfl; have h9 : (-1 : Int32).toInt = -1 := rfl; have h10 : (-2 : Int32).toInt = -2 := rfl; have h11 : (0 : Int32).toInt = 0 := rfl; have h12 : (1 : Int32).toInt = 1 := rfl; have h13 : (-5 : Int32).toInt = -5 := rfl; have h14 : (-3 : Int32).toInt = -3 := rfl; omega)), rfl⟩) (by first | exact mp_fd_ok mp_k_cX10_shuts_ok (by decide +kernel) | decide +kernel)
  · skip
    refine q_10.elim fun e_15 q_16 => q_16.elim fun c_5 q_17 => q_17.elim fun x_6 q_18 => q_18.elim fun x_7 q_19 => q_19.elim fun x_8 e_20 => ?_
    clear h_3 q_10 q_16 q_17 q_18 q_19
    subst e_15
    subst e_20
    have c_5 : 0 ≤ x0.toInt := c_5
    let w4_ : va_W := [(mp_arI E a2 3 3000 f1), (mp_ob10 a0 0 a3 a4 a5 a6 a7 y1 y2 y3 y4 y5 y6 y7 y8 y9 y10 a8 a1 a9 a2 a10 a11 a12 a13 y11 a14 a15 a16 a17 y12 y13 y14 a18 a19 y15 y16 a20 a21 a22 y17 y18 y19 y20 a23 a24 a25 y21), (mp_arI E a1 0 25 f0)]
    show mp_W E X 5 10 [(0, .ref a0), (1, .int x0), (2, .int x1), (3, .int x2)] [.int 1] w4_ 0 0
    refine mp_run mp_k_cX10_shuts_ok hF mp_tabX10_ok [mp_h (.ifCond .eq 20) [30]] (by decide +kernel) ?_
    refine And.intro (fun c_21 => absurd c_21 (by decide)) (fun _ => ?_)
    show mp_W E X 5 13 [(0, .ref a0), (1, .int x0), (2, .int x1), (3, .int x2)] [] w4_ 0 0
    refine mp_run mp_k_cX10_shuts_ok hF mp_tabX10_ok [mp_i (.iload_n 2)] (by decide +kernel) ?_
    show mp_W E X 5 14 [(0, .ref a0), (1, .int x0), (2, .int x1), (3, .int x2)] [.int x1] w4_ 0 0
    refine mp_callS hF (As := [.int x1]) (rest := []) (wr := w4_) (bX10_isMoon_60 E x1) mp_lkX10_273 [] [0, 1, 2] rfl rfl rfl rfl rfl ⟨(Nat.le_of_ble_eq_true rfl), (Nat.le_of_ble_eq_true rfl), (Nat.le_of_ble_eq_true rfl), (Nat.le_of_ble_eq_true rfl)⟩ (Nat.le_of_ble_eq_true rfl) (by first | exact mp_fd_ok mp_k_cX10_shuts_ok (by decide +kernel) | decide +kernel) (fun v_22 w_23 h_24 => ?_)
    rcases h_24 with ⟨rfl, x_25, rfl⟩ | ⟨rfl, c_26, c_27, x_28, rfl⟩
    · skip
      show mp_W E X 5 17 [(0, .ref a0), (1, .int x0), (2, .int x1), (3, .int x2)] [.int 0] w4_ 0 0
      refine mp_run mp_k_cX10_shuts_ok hF mp_tabX10_ok [mp_h (.ifCond .eq 13) [30]] (by decide +kernel) ?_
      refine And.intro (fun _ => ?_) (fun c_29 => absurd c_29 (by decide))
      show mp_W E X 5 30 [(0, .ref a0), (1, .int x0), (2, .int x1), (3, .int x2)] [] w4_ 0 0
      refine mp_run mp_k_cX10_shuts_ok hF mp_tabX10_ok [mp_c (.bipush (-2)) (-2)] (by decide +kernel) ?_
      show mp_W E X 5 32 [(0, .ref a0), (1, .int x0), (2, .int x1), (3, .int x2)] [.int (-2)] w4_ 0 0
      exact mp_iret hF hQ rfl rfl (Nat.le_of_ble_eq_true rfl) (Nat.le_of_ble_eq_true rfl) [1, 2, 0] (w' := w2_) rfl rfl (Or.inl ⟨rfl, (by first | (first | exact mp_o844 x_25 | omega) | decide | (have h8 : (0 : Int64).toInt = 0 := rfl; have h9 : (-1 : Int32).toInt = -1 := rfl; have h10 : (-2 : Int32).toInt = -2 := rfl; have h11 : (0 : Int32).toInt = 0 := rfl; have h12 : (1 : Int32).toInt = 1 := rfl; have h13 : (-5 : Int32).toInt = -5 := rfl; have h14 : (-3 : Int32).toInt = -3 := rfl; omega)), rfl⟩) (by first | exact mp_fd_ok mp_k_cX10_shuts_ok (by decide +kernel) | decide +kernel)
    · skip
      have c_26 : 0 ≤ x1.toInt := c_26
      have c_27 : x1.toInt ≤ 99 := c_27
      show mp_W E X 5 17 [(0, .ref a0), (1, .int x0), (2, .int x1), (3, .int x2)] [.int 1] w4_ 0 0
      refine mp_run mp_k_cX10_shuts_ok hF mp_tabX10_ok [mp_h (.ifCond .eq 13) [30]] (by decide +kernel) ?_
      refine And.intro (fun c_30 => absurd c_30 (by decide)) (fun _ => ?_)
      show mp_W E X 5 20 [(0, .ref a0), (1, .int x0), (2, .int x1), (3, .int x2)] [] w4_ 0 0
      refine mp_run mp_k_cX10_shuts_ok hF mp_tabX10_ok [mp_i (.iload_n 3), mp_i .i2l, mp_cl (.lconst 0) 0, mp_cl (.lconst 1) 1] (by decide +kernel) ?_
      intro z_31 h_32
      have e_33 : z_31.toInt = x2.toInt := mp_i2l h_32
      show mp_W E X 5 24 [(0, .ref a0), (1, .int x0), (2, .int x1), (3, .int x2)] [.long 1, .long 0, .long z_31] w4_ 0 0
      refine mp_callS hF (As := [.long z_31, .long 0, .long 1]) (rest := []) (wr := w4_) (bX10_in_0 E z_31 0 1) mp_lkX10_97 [] [0, 1, 2] rfl rfl rfl rfl rfl ⟨(Nat.le_of_ble_eq_true rfl), (Nat.le_of_ble_eq_true rfl), (Nat.le_of_ble_eq_true rfl), (Nat.le_of_ble_eq_true rfl)⟩ (Nat.le_of_ble_eq_true rfl) (by first | exact mp_fd_ok mp_k_cX10_shuts_ok (by decide +kernel) | decide +kernel) (fun v_34 w_35 h_36 => ?_)
      rcases h_36 with ⟨rfl, x_37, rfl⟩ | ⟨rfl, c_38, c_39, rfl⟩
      · skip
        have i_40 : (0 : Int64).toInt = 0 := by decide
        have i_41 : (1 : Int64).toInt = 1 := by decide
        show mp_W E X 5 27 [(0, .ref a0), (1, .int x0), (2, .int x1), (3, .int x2)] [.int 0] w4_ 0 0
        refine mp_run mp_k_cX10_shuts_ok hF mp_tabX10_ok [mp_h (.ifCond .ne 6) [33]] (by decide +kernel) ?_
        refine And.intro (fun c_42 => absurd c_42 (by decide)) (fun _ => ?_)
        show mp_W E X 5 30 [(0, .ref a0), (1, .int x0), (2, .int x1), (3, .int x2)] [] w4_ 0 0
        refine mp_run mp_k_cX10_shuts_ok hF mp_tabX10_ok [mp_c (.bipush (-2)) (-2)] (by decide +kernel) ?_
        show mp_W E X 5 32 [(0, .ref a0), (1, .int x0), (2, .int x1), (3, .int x2)] [.int (-2)] w4_ 0 0
        exact mp_iret hF hQ rfl rfl (Nat.le_of_ble_eq_true rfl) (Nat.le_of_ble_eq_true rfl) [1, 2, 0] (w' := w2_) rfl rfl (Or.inl ⟨rfl, (by first | (first | exact mp_o1914 i_40 i_41 e_33 x_37 | omega) | decide | (have h8 : (0 : Int64).toInt = 0 := rfl; have h9 : (-1 : Int32).toInt = -1 := rfl; have h10 : (-2 : Int32).toInt = -2 := rfl; have h11 : (0 : Int32).toInt = 0 := rfl; have h12 : (1 : Int32).toInt = 1 := rfl; have h13 : (-5 : Int32).toInt = -5 := rfl; have h14 : (-3 : Int32).toInt = -3 := rfl; omega)), rfl⟩) (by first | exact mp_fd_ok mp_k_cX10_shuts_ok (by decide +kernel) | decide +kernel)
      · skip
        have c_38 : 0 ≤ z_31.toInt := c_38
        have c_39 : z_31.toInt ≤ 1 := c_39
        have i_43 : (0 : Int64).toInt = 0 := by decide
        have i_44 : (1 : Int64).toInt = 1 := by decide
        show mp_W E X 5 27 [(0, .ref a0), (1, .int x0), (2, .int x1), (3, .int x2)] [.int 1] w4_ 0 0
        refine mp_run mp_k_cX10_shuts_ok hF mp_tabX10_ok [mp_h (.ifCond .ne 6) [33]] (by decide +kernel) ?_
        refine And.intro (fun _ => ?_) (fun c_45 => absurd c_45 (by decide))
        show mp_W E X 5 33 [(0, .ref a0), (1, .int x0), (2, .int x1), (3, .int x2)] [] w4_ 0 0
        refine mp_run mp_k_cX10_shuts_ok hF mp_tabX10_ok [mp_i (.aload_n 0), mp_h (.getfield 34) [17, 1], mp_c (.iconst 4) 4, mp_h .iaload [2], mp_h (.ifCond .le 6) [45]] (by decide +kernel) ?_
        refine And.intro rfl (And.intro rfl ?_)
        refine And.intro rfl (And.intro rfl (And.intro (vp_in_iff.mpr (by decide)) ?_))
        intro z_46 h_47
        have e_48 : 0 ≤ z_46.toInt ∧ z_46.toInt ≤ 60 := mp_res_ld h_47 p4 (by decide) (by decide) (by decide)
        have e_49 : z_46.toInt = (f0 4).toInt := congrArg Int32.toInt (mp_at h_47 (by decide) rfl)
        refine And.intro (fun c_50 => ?_) (fun c_50 => ?_)
        · have c_50 : z_46.toInt ≤ 0 := c_50
          show mp_W E X 5 45 [(0, .ref a0), (1, .int x0), (2, .int x1), (3, .int x2)] [] w4_ 0 0
          refine mp_run mp_k_cX10_shuts_ok hF mp_tabX10_ok [mp_i (.aload_n 0), mp_h (.getfield 40) [19, 1], mp_c (.bipush 100) 100, mp_i (.iload_n 1), mp_i .imul, mp_i (.iload_n 2), mp_i .iadd, mp_h .baload [0, 0], mp_i (.istore 4), mp_i (.aload_n 0), mp_h (.getfield 40) [19, 1], mp_c (.bipush 100) 100, mp_i (.iload_n 1), mp_i .imul, mp_i (.iload_n 2), mp_i .iadd, mp_i (.iload_n 3), mp_c (.iconst 1) 1, mp_h (.if_icmp .ne 7) [77]] (by decide +kernel) ?_
          refine And.intro rfl (And.intro rfl ?_)
          intro z_51 h_52
          have e_53 : z_51.toInt = 100 * x0.toInt := mp_mul (a := 100) (b := x0.toInt) h_52 (by decide) rfl (by (first | exact mp_o1273 c_5 | omega)) (by (first | exact mp_o1274 x_7 | omega))
          intro z_54 h_55
          have e_56 : z_54.toInt = z_51.toInt + x1.toInt := mp_add (a := z_51.toInt) (b := x1.toInt) h_55 rfl rfl (by (first | exact mp_o1428 c_26 c_5 e_53 | omega)) (by (first | exact mp_o1429 c_27 x_7 e_53 | omega))
          refine And.intro rfl (And.intro rfl (And.intro (vp_in_iff.mpr (by (first | exact mp_o1430 c_5 x_7 c_26 c_27 e_53 e_56 | omega))) ?_))
          intro z_57 h_58
          have e_59 : 0 ≤ z_57.toInt ∧ z_57.toInt ≤ 1 := mp_all_ld h_58 p5 (by (first | exact mp_o1431 c_5 c_26 e_53 e_56 | omega)) (by (first | exact mp_o1432 x_7 e_53 c_27 e_56 | omega))
          have e_60 : z_57.toInt = (f1 (100 * x0.toInt + x1.toInt).toNat).toInt := mp_at_i h_58 (by (first | exact mp_o1433 c_5 c_26 e_53 e_56 | omega))
          refine And.intro rfl (And.intro rfl ?_)
          intro z_61 h_62
          have e_63 : z_61.toInt = 100 * x0.toInt := mp_mul (a := 100) (b := x0.toInt) h_62 (by decide) rfl (by (first | exact mp_o1273 c_5 | omega)) (by (first | exact mp_o1274 x_7 | omega))
          intro z_64 h_65
          have e_66 : z_64.toInt = z_61.toInt + x1.toInt := mp_add (a := z_61.toInt) (b := x1.toInt) h_65 rfl rfl (by (first | exact mp_o1428 c_26 c_5 e_63 | omega)) (by (first | exact mp_o1429 c_27 x_7 e_63 | omega))
          refine And.intro (fun c_67 => ?_) (fun c_67 => ?_)
          · have c_67 : x2.toInt ≠ 1 := c_67
            show mp_W E X 5 77 [(4, .int z_57), (0, .ref a0), (1, .int x0), (2, .int x1), (3, .int x2)] [.int z_64, .ref a2] w4_ 0 0
            refine mp_run mp_k_cX10_shuts_ok hF mp_tabX10_ok [mp_c (.iconst 0) 0, mp_h .bastore [0, 0]] (by decide +kernel) ?_
            refine And.intro rfl (And.intro rfl (And.intro (vp_in_iff.mpr (by (first | exact mp_o1430 c_5 x_7 c_26 c_27 e_63 e_66 | omega))) ?_))
            intro g_68 h_69
            have h_70 : g_68 = upd f1 z_64.toNatClampNeg 0 := h_69.trans (congrArg (upd _ _) (by decide))
            have p_71 : mp_all g_68 3000 0 1 := mp_all_st h_70 p5 (by decide) (by decide)
            have p_72 : mp_keept g_68 f1 600 := mp_keept_st h_70 mp_keept_rfl (by (first | exact mp_o1915 x_7 e_63 c_27 e_66 | omega))
            let w5_ : va_W := [(mp_arI E a2 3 3000 g_68), (mp_ob10 a0 0 a3 a4 a5 a6 a7 y1 y2 y3 y4 y5 y6 y7 y8 y9 y10 a8 a1 a9 a2 a10 a11 a12 a13 y11 a14 a15 a16 a17 y12 y13 y14 a18 a19 y15 y16 a20 a21 a22 y17 y18 y19 y20 a23 a24 a25 y21), (mp_arI E a1 0 25 f0)]
            show mp_W E X 5 79 [(4, .int z_57), (0, .ref a0), (1, .int x0), (2, .int x1), (3, .int x2)] [] w5_ 0 0
            refine mp_run mp_k_cX10_shuts_ok hF mp_tabX10_ok [mp_i (.iload 4), mp_h (.ifCond .eq 7) [88]] (by decide +kernel) ?_
            refine And.intro (fun c_73 => ?_) (fun c_73 => ?_)
            · have c_73 : z_57.toInt = 0 := (congrArg Int32.toInt c_73)
              show mp_W E X 5 88 [(4, .int z_57), (0, .ref a0), (1, .int x0), (2, .int x1), (3, .int x2)] [] w5_ 0 0
              refine mp_run mp_k_cX10_shuts_ok hF mp_tabX10_ok [mp_c (.iconst 0) 0] (by decide +kernel) ?_
              show mp_W E X 5 89 [(4, .int z_57), (0, .ref a0), (1, .int x0), (2, .int x1), (3, .int x2)] [.int 0] w5_ 0 0
              exact mp_iret hF hQ rfl rfl (Nat.le_of_ble_eq_true rfl) (Nat.le_of_ble_eq_true rfl) [1, 2, 0] (w' := [(mp_ob10 a0 0 a3 a4 a5 a6 a7 y1 y2 y3 y4 y5 y6 y7 y8 y9 y10 a8 a1 a9 a2 a10 a11 a12 a13 y11 a14 a15 a16 a17 y12 y13 y14 a18 a19 y15 y16 a20 a21 a22 y17 y18 y19 y20 a23 a24 a25 y21), (mp_arI E a1 0 25 f0), (mp_arI E a2 3 3000 g_68)]) rfl rfl (Or.inr (Or.inl ⟨g_68, 0, rfl, (by first | (first | exact c_5 | omega) | decide), (by first | (first | exact c_26 | omega) | decide), (by first | (first | exact c_27 | omega) | decide), (by first | (first | exact mp_o921 c_38 e_33 | omega) | decide), (by first | (first | exact mp_o1789 e_33 c_39 | omega) | decide), (by decide), (by decide), p_71, p_72, (by first | (first | exact mp_o1916 c_5 c_26 x_6 c_27 c_38 e_33 c_39 | omega) | decide | (have h8 : (0 : Int64).toInt = 0 := rfl; have h9 : (-1 : Int32).toInt = -1 := rfl; have h10 : (-2 : Int32).toInt = -2 := rfl; have h11 : (0 : Int32).toInt = 0 := rfl; have h12 : (1 : Int32).toInt = 1 := rfl; have h13 : (-5 : Int32).toInt = -5 := rfl; have h14 : (-3 : Int32).toInt = -3 := rfl; omega)), (by first | (first | exact mp_o1536 e_49 c_50 | omega) | decide | (have h8 : (0 : Int64).toInt = 0 := rfl; have h9 : (-1 : Int32).toInt = -1 := rfl; have h10 : (-2 : Int32).toInt = -2 := rfl; have h11 : (0 : Int32).toInt = 0 := rfl; have h12 : (1 : Int32).toInt = 1 := rfl; have h13 : (-5 : Int32).toInt = -5 := rfl; have h14 : (-3 : Int32).toInt = -3 := rfl; omega)), (by first | fail | decide | (have h8 : (0 : Int64).toInt = 0 := rfl; have h9 : (-1 : Int32).toInt = -1 := rfl; have h10 : (-2 : Int32).toInt = -2 := rfl; have h11 : (0 : Int32).toInt = 0 := rfl; have h12 : (1 : Int32).toInt = 1 := rfl; have h13 : (-5 : Int32).toInt = -5 := rfl; have h14 : (-3 : Int32).toInt = -3 := rfl; (first | exact mp_o1917 h11 c_73 e_60 | omega))), (Or.inr ⟨by (first | exact c_67 | omega), (by rw [h_70, show z_64.toNatClampNeg = (100 * x0.toInt + x1.toInt).toNat by simp only [Int32.toNatClampNeg]; (first | exact mp_o1918 e_63 e_66 | omega)])⟩), rfl⟩)) (by first | exact mp_fd_ok mp_k_cX10_shuts_ok (by decide +kernel) | decide +kernel)
            · have c_73 : z_57.toInt ≠ 0 := c_73
              show mp_W E X 5 84 [(4, .int z_57), (0, .ref a0), (1, .int x0), (2, .int x1), (3, .int x2)] [] w5_ 0 0
              refine mp_run mp_k_cX10_shuts_ok hF mp_tabX10_ok [mp_c (.iconst 1) 1, mp_h (.goto 4) [89]] (by decide +kernel) ?_
              show mp_W E X 5 89 [(4, .int z_57), (0, .ref a0), (1, .int x0), (2, .int x1), (3, .int x2)] [.int 1] w5_ 0 0
              exact mp_iret hF hQ rfl rfl (Nat.le_of_ble_eq_true rfl) (Nat.le_of_ble_eq_true rfl) [1, 2, 0] (w' := [(mp_ob10 a0 0 a3 a4 a5 a6 a7 y1 y2 y3 y4 y5 y6 y7 y8 y9 y10 a8 a1 a9 a2 a10 a11 a12 a13 y11 a14 a15 a16 a17 y12 y13 y14 a18 a19 y15 y16 a20 a21 a22 y17 y18 y19 y20 a23 a24 a25 y21), (mp_arI E a1 0 25 f0), (mp_arI E a2 3 3000 g_68)]) rfl rfl (Or.inr (Or.inl ⟨g_68, 1, rfl, (by first | (first | exact c_5 | omega) | decide), (by first | (first | exact c_26 | omega) | decide), (by first | (first | exact c_27 | omega) | decide), (by first | (first | exact mp_o921 c_38 e_33 | omega) | decide), (by first | (first | exact mp_o1789 e_33 c_39 | omega) | decide), (by decide), (by decide), p_71, p_72, (by first | (first | exact mp_o1916 c_5 c_26 x_6 c_27 c_38 e_33 c_39 | omega) | decide | (have h8 : (0 : Int64).toInt = 0 := rfl; have h9 : (-1 : Int32).toInt = -1 := rfl; have h10 : (-2 : Int32).toInt = -2 := rfl; have h11 : (0 : Int32).toInt = 0 := rfl; have h12 : (1 : Int32).toInt = 1 := rfl; have h13 : (-5 : Int32).toInt = -5 := rfl; have h14 : (-3 : Int32).toInt = -3 := rfl; omega)), (by first | (first | exact mp_o1536 e_49 c_50 | omega) | decide | (have h8 : (0 : Int64).toInt = 0 := rfl; have h9 : (-1 : Int32).toInt = -1 := rfl; have h10 : (-2 : Int32).toInt = -2 := rfl; have h11 : (0 : Int32).toInt = 0 := rfl; have h12 : (1 : Int32).toInt = 1 := rfl; have h13 : (-5 : Int32).toInt = -5 := rfl; have h14 : (-3 : Int32).toInt = -3 := rfl; omega)), (by first | fail | decide | (have h8 : (0 : Int64).toInt = 0 := rfl; have h9 : (-1 : Int32).toInt = -1 := rfl; have h10 : (-2 : Int32).toInt = -2 := rfl; have h11 : (0 : Int32).toInt = 0 := rfl; have h12 : (1 : Int32).toInt = 1 := rfl; have h13 : (-5 : Int32).toInt = -5 := rfl; have h14 : (-3 : Int32).toInt = -3 := rfl; (first | exact mp_o1919 h12 e_60 c_73 | omega))), (Or.inr ⟨by (first | exact c_67 | omega), (by rw [h_70, show z_64.toNatClampNeg = (100 * x0.toInt + x1.toInt).toNat by simp only [Int32.toNatClampNeg]; (first | exact mp_o1918 e_63 e_66 | omega)])⟩), rfl⟩)) (by first | exact mp_fd_ok mp_k_cX10_shuts_ok (by decide +kernel) | decide +kernel)
          · have c_67 : x2.toInt = 1 := (congrArg Int32.toInt c_67)
            show mp_W E X 5 73 [(4, .int z_57), (0, .ref a0), (1, .int x0), (2, .int x1), (3, .int x2)] [.int z_64, .ref a2] w4_ 0 0
            refine mp_run mp_k_cX10_shuts_ok hF mp_tabX10_ok [mp_c (.iconst 1) 1, mp_h (.goto 4) [78], mp_h .bastore [0, 0]] (by decide +kernel) ?_
            refine And.intro rfl (And.intro rfl (And.intro (vp_in_iff.mpr (by (first | exact mp_o1430 c_5 x_7 c_26 c_27 e_63 e_66 | omega))) ?_))
            intro g_74 h_75
            have h_76 : g_74 = upd f1 z_64.toNatClampNeg 1 := h_75.trans (congrArg (upd _ _) (by decide))
            have p_77 : mp_all g_74 3000 0 1 := mp_all_st h_76 p5 (by decide) (by decide)
            have p_78 : mp_keept g_74 f1 600 := mp_keept_st h_76 mp_keept_rfl (by (first | exact mp_o1915 x_7 e_63 c_27 e_66 | omega))
            let w6_ : va_W := [(mp_arI E a2 3 3000 g_74), (mp_ob10 a0 0 a3 a4 a5 a6 a7 y1 y2 y3 y4 y5 y6 y7 y8 y9 y10 a8 a1 a9 a2 a10 a11 a12 a13 y11 a14 a15 a16 a17 y12 y13 y14 a18 a19 y15 y16 a20 a21 a22 y17 y18 y19 y20 a23 a24 a25 y21), (mp_arI E a1 0 25 f0)]
            show mp_W E X 5 79 [(4, .int z_57), (0, .ref a0), (1, .int x0), (2, .int x1), (3, .int x2)] [] w6_ 0 0
            refine mp_run mp_k_cX10_shuts_ok hF mp_tabX10_ok [mp_i (.iload 4), mp_h (.ifCond .eq 7) [88]] (by decide +kernel) ?_
            refine And.intro (fun c_79 => ?_) (fun c_79 => ?_)
            · have c_79 : z_57.toInt = 0 := (congrArg Int32.toInt c_79)
              show mp_W E X 5 88 [(4, .int z_57), (0, .ref a0), (1, .int x0), (2, .int x1), (3, .int x2)] [] w6_ 0 0
              refine mp_run mp_k_cX10_shuts_ok hF mp_tabX10_ok [mp_c (.iconst 0) 0] (by decide +kernel) ?_
              show mp_W E X 5 89 [(4, .int z_57), (0, .ref a0), (1, .int x0), (2, .int x1), (3, .int x2)] [.int 0] w6_ 0 0
              exact mp_iret hF hQ rfl rfl (Nat.le_of_ble_eq_true rfl) (Nat.le_of_ble_eq_true rfl) [1, 2, 0] (w' := [(mp_ob10 a0 0 a3 a4 a5 a6 a7 y1 y2 y3 y4 y5 y6 y7 y8 y9 y10 a8 a1 a9 a2 a10 a11 a12 a13 y11 a14 a15 a16 a17 y12 y13 y14 a18 a19 y15 y16 a20 a21 a22 y17 y18 y19 y20 a23 a24 a25 y21), (mp_arI E a1 0 25 f0), (mp_arI E a2 3 3000 g_74)]) rfl rfl (Or.inr (Or.inl ⟨g_74, 0, rfl, (by first | (first | exact c_5 | omega) | decide), (by first | (first | exact c_26 | omega) | decide), (by first | (first | exact c_27 | omega) | decide), (by first | (first | exact mp_o209 c_67 | omega) | decide), (by first | (first | exact mp_o1920 c_67 | omega) | decide), (by decide), (by decide), p_77, p_78, (by first | (first | exact mp_o847 c_5 c_26 x_6 c_27 c_67 | omega) | decide | (have h8 : (0 : Int64).toInt = 0 := rfl; have h9 : (-1 : Int32).toInt = -1 := rfl; have h10 : (-2 : Int32).toInt = -2 := rfl; have h11 : (0 : Int32).toInt = 0 := rfl; have h12 : (1 : Int32).toInt = 1 := rfl; have h13 : (-5 : Int32).toInt = -5 := rfl; have h14 : (-3 : Int32).toInt = -3 := rfl; omega)), (by first | (first | exact mp_o1536 e_49 c_50 | omega) | decide | (have h8 : (0 : Int64).toInt = 0 := rfl; have h9 : (-1 : Int32).toInt = -1 := rfl; have h10 : (-2 : Int32).toInt = -2 := rfl; have h11 : (0 : Int32).toInt = 0 := rfl; have h12 : (1 : Int32).toInt = 1 := rfl; have h13 : (-5 : Int32).toInt = -5 := rfl; have h14 : (-3 : Int32).toInt = -3 := rfl; omega)), (by first | fail | decide | (have h8 : (0 : Int64).toInt = 0 := rfl; have h9 : (-1 : Int32).toInt = -1 := rfl; have h10 : (-2 : Int32).toInt = -2 := rfl; have h11 : (0 : Int32).toInt = 0 := rfl; have h12 : (1 : Int32).toInt = 1 := rfl; have h13 : (-5 : Int32).toInt = -5 := rfl; have h14 : (-3 : Int32).toInt = -3 := rfl; (first | exact mp_o1917 h11 c_79 e_60 | omega))), (Or.inl ⟨by (first | exact c_67 | omega), (by rw [h_76, show z_64.toNatClampNeg = (100 * x0.toInt + x1.toInt).toNat by simp only [Int32.toNatClampNeg]; (first | exact mp_o1918 e_63 e_66 | omega)])⟩), rfl⟩)) (by first | exact mp_fd_ok mp_k_cX10_shuts_ok (by decide +kernel) | decide +kernel)
            · have c_79 : z_57.toInt ≠ 0 := c_79
              show mp_W E X 5 84 [(4, .int z_57), (0, .ref a0), (1, .int x0), (2, .int x1), (3, .int x2)] [] w6_ 0 0
              refine mp_run mp_k_cX10_shuts_ok hF mp_tabX10_ok [mp_c (.iconst 1) 1, mp_h (.goto 4) [89]] (by decide +kernel) ?_
              show mp_W E X 5 89 [(4, .int z_57), (0, .ref a0), (1, .int x0), (2, .int x1), (3, .int x2)] [.int 1] w6_ 0 0
              exact mp_iret hF hQ rfl rfl (Nat.le_of_ble_eq_true rfl) (Nat.le_of_ble_eq_true rfl) [1, 2, 0] (w' := [(mp_ob10 a0 0 a3 a4 a5 a6 a7 y1 y2 y3 y4 y5 y6 y7 y8 y9 y10 a8 a1 a9 a2 a10 a11 a12 a13 y11 a14 a15 a16 a17 y12 y13 y14 a18 a19 y15 y16 a20 a21 a22 y17 y18 y19 y20 a23 a24 a25 y21), (mp_arI E a1 0 25 f0), (mp_arI E a2 3 3000 g_74)]) rfl rfl (Or.inr (Or.inl ⟨g_74, 1, rfl, (by first | (first | exact c_5 | omega) | decide), (by first | (first | exact c_26 | omega) | decide), (by first | (first | exact c_27 | omega) | decide), (by first | (first | exact mp_o209 c_67 | omega) | decide), (by first | (first | exact mp_o1920 c_67 | omega) | decide), (by decide), (by decide), p_77, p_78, (by first | (first | exact mp_o847 c_5 c_26 x_6 c_27 c_67 | omega) | decide | (have h8 : (0 : Int64).toInt = 0 := rfl; have h9 : (-1 : Int32).toInt = -1 := rfl; have h10 : (-2 : Int32).toInt = -2 := rfl; have h11 : (0 : Int32).toInt = 0 := rfl; have h12 : (1 : Int32).toInt = 1 := rfl; have h13 : (-5 : Int32).toInt = -5 := rfl; have h14 : (-3 : Int32).toInt = -3 := rfl; omega)), (by first | (first | exact mp_o1536 e_49 c_50 | omega) | decide | (have h8 : (0 : Int64).toInt = 0 := rfl; have h9 : (-1 : Int32).toInt = -1 := rfl; have h10 : (-2 : Int32).toInt = -2 := rfl; have h11 : (0 : Int32).toInt = 0 := rfl; have h12 : (1 : Int32).toInt = 1 := rfl; have h13 : (-5 : Int32).toInt = -5 := rfl; have h14 : (-3 : Int32).toInt = -3 := rfl; omega)), (by first | fail | decide | (have h8 : (0 : Int64).toInt = 0 := rfl; have h9 : (-1 : Int32).toInt = -1 := rfl; have h10 : (-2 : Int32).toInt = -2 := rfl; have h11 : (0 : Int32).toInt = 0 := rfl; have h12 : (1 : Int32).toInt = 1 := rfl; have h13 : (-5 : Int32).toInt = -5 := rfl; have h14 : (-3 : Int32).toInt = -3 := rfl; (first | exact mp_o1919 h12 e_60 c_79 | omega))), (Or.inl ⟨by (first | exact c_67 | omega), (by rw [h_76, show z_64.toNatClampNeg = (100 * x0.toInt + x1.toInt).toNat by simp only [Int32.toNatClampNeg]; (first | exact mp_o1918 e_63 e_66 | omega)])⟩), rfl⟩)) (by first | exact mp_fd_ok mp_k_cX10_shuts_ok (by decide +kernel) | decide +kernel)
        · have c_50 : 0 < z_46.toInt := c_50
          show mp_W E X 5 42 [(0, .ref a0), (1, .int x0), (2, .int x1), (3, .int x2)] [] w4_ 0 0
          refine mp_run mp_k_cX10_shuts_ok hF mp_tabX10_ok [mp_c (.bipush (-5)) (-5)] (by decide +kernel) ?_
          show mp_W E X 5 44 [(0, .ref a0), (1, .int x0), (2, .int x1), (3, .int x2)] [.int (-5)] w4_ 0 0
          exact mp_iret hF hQ rfl rfl (Nat.le_of_ble_eq_true rfl) (Nat.le_of_ble_eq_true rfl) [1, 2, 0] (w' := w2_) rfl rfl (Or.inr (Or.inr ⟨rfl, (by first | (first | exact c_5 | omega) | decide), (by first | (first | exact c_26 | omega) | decide), (by first | (first | exact c_27 | omega) | decide), (by first | (first | exact mp_o921 c_38 e_33 | omega) | decide), (by first | (first | exact mp_o1789 e_33 c_39 | omega) | decide), (by first | (first | exact mp_o1916 c_5 c_26 x_6 c_27 c_38 e_33 c_39 | omega) | decide | (have h8 : (0 : Int64).toInt = 0 := rfl; have h9 : (-1 : Int32).toInt = -1 := rfl; have h10 : (-2 : Int32).toInt = -2 := rfl; have h11 : (0 : Int32).toInt = 0 := rfl; have h12 : (1 : Int32).toInt = 1 := rfl; have h13 : (-5 : Int32).toInt = -5 := rfl; have h14 : (-3 : Int32).toInt = -3 := rfl; omega)), (by first | (first | exact mp_o1537 c_50 e_49 | omega) | decide | (have h8 : (0 : Int64).toInt = 0 := rfl; have h9 : (-1 : Int32).toInt = -1 := rfl; have h10 : (-2 : Int32).toInt = -2 := rfl; have h11 : (0 : Int32).toInt = 0 := rfl; have h12 : (1 : Int32).toInt = 1 := rfl; have h13 : (-5 : Int32).toInt = -5 := rfl; have h14 : (-3 : Int32).toInt = -3 := rfl; omega)), rfl⟩)) (by first | exact mp_fd_ok mp_k_cX10_shuts_ok (by decide +kernel) | decide +kernel)
set_option maxHeartbeats 4000000 in
set_option maxRecDepth 100000 in
theorem bX10_tends_158 (E : mp_E) (a0 a1 a2 a3 a4 a5 a6 a7 a8 a9 a10 a11 a12 a13 a14 a15 a16 a17 a18 a19 a20 a21 a22 a23 a24 a25 : Nat) (f0 : Nat → Int32) (f1 : Nat → Int32) (y0 : Int32) (y1 : Int32) (y2 : Int32) (y3 : Int32) (y4 : Int32) (y5 : Int32) (y6 : Int64) (y7 : Int32) (y8 : Int32) (y9 : Int32) (y10 : Int32) (y11 : Int32) (y12 : Int32) (y13 : Int32) (y14 : Int32) (y15 : Int32) (y16 : Int32) (y17 : Int32) (y18 : Int32) (y19 : Int32) (y20 : Int32) (y21 : Int32) (x0 : Int32) (x1 : Int32) (p0 : mp_res f0 25 5 0 0 6) (p1 : mp_res f0 25 5 1 0 99) (p2 : mp_res f0 25 5 2 0 6) (p3 : mp_res f0 25 5 3 0 10) (p4 : mp_res f0 25 5 4 0 60) (p5 : mp_res f1 90 3 0 0 5) (p6 : mp_res f1 90 3 1 (-1) 99) (l_y1 : 0 ≤ y1.toInt) (u_y1 : y1.toInt ≤ 1600) (l_y2 : 0 ≤ y2.toInt) (u_y2 : y2.toInt ≤ 1600) (l_y3 : 0 ≤ y3.toInt) (u_y3 : y3.toInt ≤ 4) (l_y4 : 0 ≤ y4.toInt) (u_y4 : y4.toInt ≤ 1600) (l_y11 : 0 ≤ y11.toInt) (u_y11 : y11.toInt ≤ 99) (l_y12 : 0 ≤ y12.toInt) (u_y12 : y12.toInt ≤ 5) (l_y13 : 0 ≤ y13.toInt) (u_y13 : y13.toInt ≤ 12) : mp_Ct E yX10_tends cX10_tends 4 (some FieldType.int) 2 0 0 46 [.ref a0, .int x0, .int x1] [(mp_ob10 a0 y0 a3 a4 a5 a6 a7 y1 y2 y3 y4 y5 y6 y7 y8 y9 y10 a8 a1 a9 a10 a2 a11 a12 a13 y11 a14 a15 a16 a17 y12 y13 y14 a18 a19 y15 y16 a20 a21 a22 y17 y18 y19 y20 a23 a24 a25 y21), (mp_arI E a1 0 25 f0), (mp_arI E a2 0 90 f1)] (fun v w' => (v = some (.int (-2)) ∧ (x0.toInt < 0 ∨ (f0 2).toInt ≤ x0.toInt ∨ x1.toInt < 0 ∨ 100 < x1.toInt) ∧ w' = [(mp_ob10 a0 0 a3 a4 a5 a6 a7 y1 y2 y3 y4 y5 y6 y7 y8 y9 y10 a8 a1 a9 a10 a2 a11 a12 a13 y11 a14 a15 a16 a17 y12 y13 y14 a18 a19 y15 y16 a20 a21 a22 y17 y18 y19 y20 a23 a24 a25 y21), (mp_arI E a1 0 25 f0), (mp_arI E a2 0 90 f1)]) ∨ (∃ h1 : Nat → Int32, ∃ r2 : Int32, v = some (.int r2) ∧ 0 ≤ x0.toInt ∧ 0 ≤ x1.toInt ∧ x1.toInt ≤ 100 ∧ mp_res h1 90 3 0 0 5 ∧ mp_res h1 90 3 1 (-1) 99 ∧ mp_keept h1 f1 18 ∧ (0 ≤ x0.toInt ∧ x0.toInt < (f0 2).toInt ∧ 0 ≤ x1.toInt ∧ x1.toInt ≤ 100) ∧ (r2.toInt = (f1 (3 * x0.toInt + 2).toNat).toInt) ∧ (h1 = upd f1 (3 * x0.toInt + 2).toNat x1) ∧ w' = [(mp_ob10 a0 0 a3 a4 a5 a6 a7 y1 y2 y3 y4 y5 y6 y7 y8 y9 y10 a8 a1 a9 a10 a2 a11 a12 a13 y11 a14 a15 a16 a17 y12 y13 y14 a18 a19 y15 y16 a20 a21 a22 y17 y18 y19 y20 a23 a24 a25 y21), (mp_arI E a1 0 25 f0), (mp_arI E a2 0 90 h1)])) := by
  refine mp_met false (by decide) (by decide) (Nat.le_of_ble_eq_true rfl) (fun X hF hQ => ?_)
  have hF : mp_F E X (RX10, cX10_tends, 4, (2, 0, 0, 46), (some FieldType.int), false) := hF
  let w1_ : va_W := [(mp_ob10 a0 y0 a3 a4 a5 a6 a7 y1 y2 y3 y4 y5 y6 y7 y8 y9 y10 a8 a1 a9 a10 a2 a11 a12 a13 y11 a14 a15 a16 a17 y12 y13 y14 a18 a19 y15 y16 a20 a21 a22 y17 y18 y19 y20 a23 a24 a25 y21), (mp_arI E a1 0 25 f0), (mp_arI E a2 0 90 f1)]
  show mp_W E X 4 0 [(0, .ref a0), (1, .int x0), (2, .int x1)] [] w1_ 0 0
  refine mp_run mp_k_cX10_tends_ok hF mp_tabX10_ok [mp_i (.aload_n 0), mp_c (.iconst 0) 0, mp_h (.putfield 92) [0, 0]] (by decide +kernel) ?_
  refine And.intro rfl (And.intro rfl (And.intro rfl (And.intro rfl (And.intro (Nat.le_of_ble_eq_true rfl) ?_))))
  let w2_ : va_W := [(mp_ob10 a0 0 a3 a4 a5 a6 a7 y1 y2 y3 y4 y5 y6 y7 y8 y9 y10 a8 a1 a9 a10 a2 a11 a12 a13 y11 a14 a15 a16 a17 y12 y13 y14 a18 a19 y15 y16 a20 a21 a22 y17 y18 y19 y20 a23 a24 a25 y21), (mp_arI E a1 0 25 f0), (mp_arI E a2 0 90 f1)]
  show mp_W E X 4 5 [(0, .ref a0), (1, .int x0), (2, .int x1)] [] w2_ 0 0
  refine mp_run mp_k_cX10_tends_ok hF mp_tabX10_ok [mp_i (.aload_n 0), mp_i (.iload_n 1)] (by decide +kernel) ?_
  show mp_W E X 4 7 [(0, .ref a0), (1, .int x0), (2, .int x1)] [.int x0, .ref a0] w2_ 0 0
  refine mp_callV hF (As := [.int x0]) (rest := []) (wr := [(mp_arI E a2 0 90 f1)]) (bX10_isPerson_53 E a0 a1 a3 a4 a5 a6 a7 a8 a9 a10 a2 a11 a12 a13 a14 a15 a16 a17 a18 a19 a20 a21 a22 a23 a24 a25 f0 0 y1 y2 y3 y4 y5 y6 y7 y8 y9 y10 y11 y12 y13 y14 y15 y16 y17 y18 y19 y20 y21 x0 p0 p1 p2 p3 p4 l_y1 u_y1 l_y2 u_y2 l_y3 u_y3 l_y4 u_y4 l_y11 u_y11 l_y12 u_y12 l_y13 u_y13) mp_lkX10_255 0 rfl [0, 1] [2] rfl rfl rfl rfl rfl ⟨(Nat.le_of_ble_eq_true rfl), (Nat.le_of_ble_eq_true rfl), (Nat.le_of_ble_eq_true rfl), (Nat.le_of_ble_eq_true rfl)⟩ (Nat.le_of_ble_eq_true rfl) (by first | exact mp_fd_ok mp_k_cX10_tends_ok (by decide +kernel) | decide +kernel) (fun v_1 w_2 h_3 => ?_)
  refine h_3.elim (fun q_9 => ?_) (fun q_10 => ?_)
  · skip
    refine q_9.elim fun e_11 q_12 => q_12.elim fun x_4 e_13 => ?_
    clear h_3 q_9 q_12
    subst e_11
    subst e_13
    let w3_ : va_W := [(mp_arI E a2 0 90 f1), (mp_ob10 a0 0 a3 a4 a5 a6 a7 y1 y2 y3 y4 y5 y6 y7 y8 y9 y10 a8 a1 a9 a10 a2 a11 a12 a13 y11 a14 a15 a16 a17 y12 y13 y14 a18 a19 y15 y16 a20 a21 a22 y17 y18 y19 y20 a23 a24 a25 y21), (mp_arI E a1 0 25 f0)]
    show mp_W E X 4 10 [(0, .ref a0), (1, .int x0), (2, .int x1)] [.int 0] w3_ 0 0
    refine mp_run mp_k_cX10_tends_ok hF mp_tabX10_ok [mp_h (.ifCond .eq 15) [25]] (by decide +kernel) ?_
    refine And.intro (fun _ => ?_) (fun c_14 => absurd c_14 (by decide))
    show mp_W E X 4 25 [(0, .ref a0), (1, .int x0), (2, .int x1)] [] w3_ 0 0
    refine mp_run mp_k_cX10_tends_ok hF mp_tabX10_ok [mp_c (.bipush (-2)) (-2)] (by decide +kernel) ?_
    show mp_W E X 4 27 [(0, .ref a0), (1, .int x0), (2, .int x1)] [.int (-2)] w3_ 0 0
    exact mp_iret hF hQ rfl rfl (Nat.le_of_ble_eq_true rfl) (Nat.le_of_ble_eq_true rfl) [1, 2, 0] (w' := w2_) rfl rfl (Or.inl ⟨rfl, (by first | (first | exact mp_o850 x_4 | omega) | decide | (have h8 : (0 : Int64).toInt = 0 := rfl; have h9 : (-1 : Int32).toInt = -1 := rfl; have h10 : (-2 : Int32).toInt = -2 := rfl; have h11 : (0 : Int32).toInt = 0 := rfl; have h12 : (1 : Int32).toInt = 1 := rfl; have h13 : (-5 : Int32).toInt = -5 := rfl; have h14 : (-3 : Int32).toInt = -3 := rfl; omega)), rfl⟩) (by first | exact mp_fd_ok mp_k_cX10_tends_ok (by decide +kernel) | decide +kernel)
  · skip
    refine q_10.elim fun e_15 q_16 => q_16.elim fun c_5 q_17 => q_17.elim fun x_6 q_18 => q_18.elim fun x_7 q_19 => q_19.elim fun x_8 e_20 => ?_
    clear h_3 q_10 q_16 q_17 q_18 q_19
    subst e_15
    subst e_20
    have c_5 : 0 ≤ x0.toInt := c_5
    let w4_ : va_W := [(mp_arI E a2 0 90 f1), (mp_ob10 a0 0 a3 a4 a5 a6 a7 y1 y2 y3 y4 y5 y6 y7 y8 y9 y10 a8 a1 a9 a10 a2 a11 a12 a13 y11 a14 a15 a16 a17 y12 y13 y14 a18 a19 y15 y16 a20 a21 a22 y17 y18 y19 y20 a23 a24 a25 y21), (mp_arI E a1 0 25 f0)]
    show mp_W E X 4 10 [(0, .ref a0), (1, .int x0), (2, .int x1)] [.int 1] w4_ 0 0
    refine mp_run mp_k_cX10_tends_ok hF mp_tabX10_ok [mp_h (.ifCond .eq 15) [25]] (by decide +kernel) ?_
    refine And.intro (fun c_21 => absurd c_21 (by decide)) (fun _ => ?_)
    show mp_W E X 4 13 [(0, .ref a0), (1, .int x0), (2, .int x1)] [] w4_ 0 0
    refine mp_run mp_k_cX10_tends_ok hF mp_tabX10_ok [mp_i (.iload_n 2), mp_i .i2l, mp_cl (.lconst 0) 0, mp_cl (.ldc2_w 461) 100] (by decide +kernel) ?_
    intro z_22 h_23
    have e_24 : z_22.toInt = x1.toInt := mp_i2l h_23
    show mp_W E X 4 19 [(0, .ref a0), (1, .int x0), (2, .int x1)] [.long 100, .long 0, .long z_22] w4_ 0 0
    refine mp_callS hF (As := [.long z_22, .long 0, .long 100]) (rest := []) (wr := w4_) (bX10_in_0 E z_22 0 100) mp_lkX10_97 [] [0, 1, 2] rfl rfl rfl rfl rfl ⟨(Nat.le_of_ble_eq_true rfl), (Nat.le_of_ble_eq_true rfl), (Nat.le_of_ble_eq_true rfl), (Nat.le_of_ble_eq_true rfl)⟩ (Nat.le_of_ble_eq_true rfl) (by first | exact mp_fd_ok mp_k_cX10_tends_ok (by decide +kernel) | decide +kernel) (fun v_25 w_26 h_27 => ?_)
    rcases h_27 with ⟨rfl, x_28, rfl⟩ | ⟨rfl, c_29, c_30, rfl⟩
    · skip
      have i_31 : (0 : Int64).toInt = 0 := by decide
      have i_32 : (100 : Int64).toInt = 100 := by decide
      show mp_W E X 4 22 [(0, .ref a0), (1, .int x0), (2, .int x1)] [.int 0] w4_ 0 0
      refine mp_run mp_k_cX10_tends_ok hF mp_tabX10_ok [mp_h (.ifCond .ne 6) [28]] (by decide +kernel) ?_
      refine And.intro (fun c_33 => absurd c_33 (by decide)) (fun _ => ?_)
      show mp_W E X 4 25 [(0, .ref a0), (1, .int x0), (2, .int x1)] [] w4_ 0 0
      refine mp_run mp_k_cX10_tends_ok hF mp_tabX10_ok [mp_c (.bipush (-2)) (-2)] (by decide +kernel) ?_
      show mp_W E X 4 27 [(0, .ref a0), (1, .int x0), (2, .int x1)] [.int (-2)] w4_ 0 0
      exact mp_iret hF hQ rfl rfl (Nat.le_of_ble_eq_true rfl) (Nat.le_of_ble_eq_true rfl) [1, 2, 0] (w' := w2_) rfl rfl (Or.inl ⟨rfl, (by first | (first | exact mp_o1921 i_31 i_32 e_24 x_28 | omega) | decide | (have h8 : (0 : Int64).toInt = 0 := rfl; have h9 : (-1 : Int32).toInt = -1 := rfl; have h10 : (-2 : Int32).toInt = -2 := rfl; have h11 : (0 : Int32).toInt = 0 := rfl; have h12 : (1 : Int32).toInt = 1 := rfl; have h13 : (-5 : Int32).toInt = -5 := rfl; have h14 : (-3 : Int32).toInt = -3 := rfl; omega)), rfl⟩) (by first | exact mp_fd_ok mp_k_cX10_tends_ok (by decide +kernel) | decide +kernel)
    · skip
      have c_29 : 0 ≤ z_22.toInt := c_29
      have c_30 : z_22.toInt ≤ 100 := c_30
      have i_34 : (0 : Int64).toInt = 0 := by decide
      have i_35 : (100 : Int64).toInt = 100 := by decide
      show mp_W E X 4 22 [(0, .ref a0), (1, .int x0), (2, .int x1)] [.int 1] w4_ 0 0
      refine mp_run mp_k_cX10_tends_ok hF mp_tabX10_ok [mp_h (.ifCond .ne 6) [28]] (by decide +kernel) ?_
      refine And.intro (fun _ => ?_) (fun c_36 => absurd c_36 (by decide))
      show mp_W E X 4 28 [(0, .ref a0), (1, .int x0), (2, .int x1)] [] w4_ 0 0
      refine mp_run mp_k_cX10_tends_ok hF mp_tabX10_ok [mp_i (.aload_n 0), mp_h (.getfield 44) [20, 1], mp_c (.iconst 3) 3, mp_i (.iload_n 1), mp_i .imul, mp_c (.iconst 2) 2, mp_i .iadd, mp_h .iaload [0], mp_i (.istore_n 3), mp_i (.aload_n 0), mp_h (.getfield 44) [20, 1], mp_c (.iconst 3) 3, mp_i (.iload_n 1), mp_i .imul, mp_c (.iconst 2) 2, mp_i .iadd, mp_i (.iload_n 2), mp_h .iastore [0]] (by decide +kernel) ?_
      refine And.intro rfl (And.intro rfl ?_)
      intro z_37 h_38
      have e_39 : z_37.toInt = 3 * x0.toInt := mp_mul (a := 3) (b := x0.toInt) h_38 (by decide) rfl (by (first | exact mp_o1399 c_5 | omega)) (by (first | exact mp_o1400 x_7 | omega))
      intro z_40 h_41
      have e_42 : z_40.toInt = z_37.toInt + 2 := mp_add (a := z_37.toInt) (b := 2) h_41 rfl (by decide) (by (first | exact mp_o1855 c_5 e_39 | omega)) (by (first | exact mp_o1856 x_7 e_39 | omega))
      refine And.intro rfl (And.intro rfl (And.intro (vp_in_iff.mpr (by (first | exact mp_o1857 c_5 x_7 e_39 e_42 | omega))) ?_))
      intro z_43 h_44
      have e_45 : z_43.toInt = (f1 (3 * x0.toInt + 2).toNat).toInt := mp_at_i h_44 (by (first | exact mp_o1922 c_5 e_39 e_42 | omega))
      refine And.intro rfl (And.intro rfl ?_)
      intro z_46 h_47
      have e_48 : z_46.toInt = 3 * x0.toInt := mp_mul (a := 3) (b := x0.toInt) h_47 (by decide) rfl (by (first | exact mp_o1399 c_5 | omega)) (by (first | exact mp_o1400 x_7 | omega))
      intro z_49 h_50
      have e_51 : z_49.toInt = z_46.toInt + 2 := mp_add (a := z_46.toInt) (b := 2) h_50 rfl (by decide) (by (first | exact mp_o1855 c_5 e_48 | omega)) (by (first | exact mp_o1856 x_7 e_48 | omega))
      refine And.intro rfl (And.intro rfl (And.intro (vp_in_iff.mpr (by (first | exact mp_o1857 c_5 x_7 e_48 e_51 | omega))) ?_))
      intro g_52 h_53
      have p_54 : mp_res g_52 90 3 0 0 5 := mp_res_st h_53 p5 (by (first | exact mp_o1923 c_5 e_48 e_51 | omega)) (by omega)
      have p_55 : mp_res g_52 90 3 1 (-1) 99 := mp_res_st h_53 p6 (by (first | exact mp_o1923 c_5 e_48 e_51 | omega)) (by omega)
      have p_56 : mp_keept g_52 f1 18 := mp_keept_st h_53 mp_keept_rfl (by (first | exact mp_o1924 x_7 e_48 e_51 | omega))
      let w5_ : va_W := [(mp_arI E a2 0 90 g_52), (mp_ob10 a0 0 a3 a4 a5 a6 a7 y1 y2 y3 y4 y5 y6 y7 y8 y9 y10 a8 a1 a9 a10 a2 a11 a12 a13 y11 a14 a15 a16 a17 y12 y13 y14 a18 a19 y15 y16 a20 a21 a22 y17 y18 y19 y20 a23 a24 a25 y21), (mp_arI E a1 0 25 f0)]
      show mp_W E X 4 50 [(3, .int z_43), (0, .ref a0), (1, .int x0), (2, .int x1)] [] w5_ 0 0
      refine mp_run mp_k_cX10_tends_ok hF mp_tabX10_ok [mp_i (.iload_n 3)] (by decide +kernel) ?_
      show mp_W E X 4 51 [(3, .int z_43), (0, .ref a0), (1, .int x0), (2, .int x1)] [.int z_43] w5_ 0 0
      exact mp_iret hF hQ rfl rfl (Nat.le_of_ble_eq_true rfl) (Nat.le_of_ble_eq_true rfl) [1, 2, 0] (w' := [(mp_ob10 a0 0 a3 a4 a5 a6 a7 y1 y2 y3 y4 y5 y6 y7 y8 y9 y10 a8 a1 a9 a10 a2 a11 a12 a13 y11 a14 a15 a16 a17 y12 y13 y14 a18 a19 y15 y16 a20 a21 a22 y17 y18 y19 y20 a23 a24 a25 y21), (mp_arI E a1 0 25 f0), (mp_arI E a2 0 90 g_52)]) rfl rfl (Or.inr ⟨g_52, z_43, rfl, (by first | (first | exact c_5 | omega) | decide), (by first | (first | exact mp_o921 c_29 e_24 | omega) | decide), (by first | (first | exact mp_o1925 e_24 c_30 | omega) | decide), p_54, p_55, p_56, (by first | (first | exact mp_o1926 c_5 x_6 c_29 e_24 c_30 | omega) | decide | (have h8 : (0 : Int64).toInt = 0 := rfl; have h9 : (-1 : Int32).toInt = -1 := rfl; have h10 : (-2 : Int32).toInt = -2 := rfl; have h11 : (0 : Int32).toInt = 0 := rfl; have h12 : (1 : Int32).toInt = 1 := rfl; have h13 : (-5 : Int32).toInt = -5 := rfl; have h14 : (-3 : Int32).toInt = -3 := rfl; omega)), (by first | (first | exact e_45 | omega) | exact e_45), (by rw [h_53, show z_49.toNatClampNeg = (3 * x0.toInt + 2).toNat by simp only [Int32.toNatClampNeg]; (first | exact mp_o1927 e_48 e_51 | omega)]), rfl⟩) (by first | exact mp_fd_ok mp_k_cX10_tends_ok (by decide +kernel) | decide +kernel)
set_option maxHeartbeats 4000000 in
set_option maxRecDepth 100000 in
theorem bX10_count_159 (E : mp_E) (a0 a1 a2 a3 a4 a5 a6 a7 a8 a9 a10 a11 a12 a13 a14 a15 a16 a17 a18 a19 a20 a21 a22 a23 a24 a25 : Nat) (f0 : Nat → Int32) (f1 : Nat → Int32) (f2 : Nat → Int32) (f3 : Nat → Int32) (f4 : Nat → Int32) (y0 : Int32) (y1 : Int32) (y2 : Int32) (y3 : Int32) (y4 : Int32) (y5 : Int32) (y6 : Int64) (y7 : Int32) (y8 : Int32) (y9 : Int32) (y10 : Int32) (y11 : Int32) (y12 : Int32) (y13 : Int32) (y14 : Int32) (y15 : Int32) (y16 : Int32) (y17 : Int32) (y18 : Int32) (y19 : Int32) (y20 : Int32) (y21 : Int32) (x0 : Int32) (p0 : mp_res f2 25 5 0 0 6) (p1 : mp_res f2 25 5 1 0 99) (p2 : mp_res f2 25 5 2 0 6) (p3 : mp_res f2 25 5 3 0 10) (p4 : mp_res f2 25 5 4 0 60) (p5 : mp_all f3 180 0 20) (p6 : mp_all f4 3000 0 1) (l_y1 : 0 ≤ y1.toInt) (u_y1 : y1.toInt ≤ 1600) (l_y2 : 0 ≤ y2.toInt) (u_y2 : y2.toInt ≤ 1600) (l_y3 : 0 ≤ y3.toInt) (u_y3 : y3.toInt ≤ 4) (l_y4 : 0 ≤ y4.toInt) (u_y4 : y4.toInt ≤ 1600) (l_y11 : 0 ≤ y11.toInt) (u_y11 : y11.toInt ≤ 99) (l_y12 : 0 ≤ y12.toInt) (u_y12 : y12.toInt ≤ 5) (l_y13 : 0 ≤ y13.toInt) (u_y13 : y13.toInt ≤ 12) : mp_Ct E yX10_count cX10_count 4 (some FieldType.int) 0 0 0 0 [.ref a0, .int x0] [(mp_ob10 a0 y0 a1 a6 a7 a8 a9 y1 y2 y3 y4 y5 y6 y7 y8 y9 y10 a2 a3 a4 a5 a10 a11 a12 a13 y11 a14 a15 a16 a17 y12 y13 y14 a18 a19 y15 y16 a20 a21 a22 y17 y18 y19 y20 a23 a24 a25 y21), (mp_arI E a1 0 4 f0), (mp_arI E a2 0 5 f1), (mp_arI E a3 0 25 f2), (mp_arI E a4 0 180 f3), (mp_arI E a5 3 3000 f4)] (fun v w' => ∃ r1 : Int32, v = some (.int r1) ∧ w' = [(mp_ob10 a0 0 a1 a6 a7 a8 a9 y1 y2 y3 y4 y5 y6 y7 y8 y9 y10 a2 a3 a4 a5 a10 a11 a12 a13 y11 a14 a15 a16 a17 y12 y13 y14 a18 a19 y15 y16 a20 a21 a22 y17 y18 y19 y20 a23 a24 a25 y21), (mp_arI E a1 0 4 f0), (mp_arI E a2 0 5 f1), (mp_arI E a3 0 25 f2), (mp_arI E a4 0 180 f3), (mp_arI E a5 3 3000 f4)]) := by
  refine mp_met false (by decide) (by decide) (Nat.le_of_ble_eq_true rfl) (fun X hF hQ => ?_)
  have hF : mp_F E X (RX10, cX10_count, 4, (0, 0, 0, 0), (some FieldType.int), false) := hF
  let w1_ : va_W := [(mp_ob10 a0 y0 a1 a6 a7 a8 a9 y1 y2 y3 y4 y5 y6 y7 y8 y9 y10 a2 a3 a4 a5 a10 a11 a12 a13 y11 a14 a15 a16 a17 y12 y13 y14 a18 a19 y15 y16 a20 a21 a22 y17 y18 y19 y20 a23 a24 a25 y21), (mp_arI E a1 0 4 f0), (mp_arI E a2 0 5 f1), (mp_arI E a3 0 25 f2), (mp_arI E a4 0 180 f3), (mp_arI E a5 3 3000 f4)]
  show mp_W E X 4 0 [(0, .ref a0), (1, .int x0)] [] w1_ 0 0
  refine mp_run mp_k_cX10_count_ok hF mp_tabX10_ok [mp_i (.aload_n 0), mp_c (.iconst 0) 0, mp_h (.putfield 92) [0, 0]] (by decide +kernel) ?_
  refine And.intro rfl (And.intro rfl (And.intro rfl (And.intro rfl (And.intro (Nat.le_of_ble_eq_true rfl) ?_))))
  let w2_ : va_W := [(mp_ob10 a0 0 a1 a6 a7 a8 a9 y1 y2 y3 y4 y5 y6 y7 y8 y9 y10 a2 a3 a4 a5 a10 a11 a12 a13 y11 a14 a15 a16 a17 y12 y13 y14 a18 a19 y15 y16 a20 a21 a22 y17 y18 y19 y20 a23 a24 a25 y21), (mp_arI E a1 0 4 f0), (mp_arI E a2 0 5 f1), (mp_arI E a3 0 25 f2), (mp_arI E a4 0 180 f3), (mp_arI E a5 3 3000 f4)]
  show mp_W E X 4 5 [(0, .ref a0), (1, .int x0)] [] w2_ 0 0
  refine mp_run mp_k_cX10_count_ok hF mp_tabX10_ok [mp_c (.iconst 0) 0, mp_i (.istore_n 2), mp_i (.iload_n 1)] (by decide +kernel) ?_
  show mp_W E X 4 8 [(2, .int 0), (0, .ref a0), (1, .int x0)] [.int x0] w2_ 0 0
  rcases (mp_swc_0_9 x0.toInt) with c_1 | c_1 | c_1 | c_1 | c_1 | c_1 | c_1 | c_1 | c_1 | c_1 | c_1 | c_1
  · refine mp_tabOut hF (dflt := 205) (lo := 0) (hi := 9) (offs := #[56, 63, 70, 77, 112, 146, 153, 160, 165, 172]) (len := 56) (by first | exact mp_fd_ok mp_k_cX10_count_ok (by decide +kernel) | decide +kernel) (Or.inl c_1) (tgt := 213) (by decide) ?_
    show mp_W E X 4 213 [(2, .int 0), (0, .ref a0), (1, .int x0)] [] w2_ 0 0
    refine mp_run mp_k_cX10_count_ok hF mp_tabX10_ok [mp_c (.iconst (-1)) (-1)] (by decide +kernel) ?_
    show mp_W E X 4 214 [(2, .int 0), (0, .ref a0), (1, .int x0)] [.int (-1)] w2_ 0 0
    exact mp_iret hF hQ rfl rfl (Nat.le_of_ble_eq_true rfl) (Nat.le_of_ble_eq_true rfl) [0, 1, 2, 3, 4, 5] (w' := w2_) rfl rfl ⟨(-1), rfl, rfl⟩ (by first | exact mp_fd_ok mp_k_cX10_count_ok (by decide +kernel) | decide +kernel)
  · refine mp_tabOut hF (dflt := 205) (lo := 0) (hi := 9) (offs := #[56, 63, 70, 77, 112, 146, 153, 160, 165, 172]) (len := 56) (by first | exact mp_fd_ok mp_k_cX10_count_ok (by decide +kernel) | decide +kernel) (Or.inr c_1) (tgt := 213) (by decide) ?_
    show mp_W E X 4 213 [(2, .int 0), (0, .ref a0), (1, .int x0)] [] w2_ 0 0
    refine mp_run mp_k_cX10_count_ok hF mp_tabX10_ok [mp_c (.iconst (-1)) (-1)] (by decide +kernel) ?_
    show mp_W E X 4 214 [(2, .int 0), (0, .ref a0), (1, .int x0)] [.int (-1)] w2_ 0 0
    exact mp_iret hF hQ rfl rfl (Nat.le_of_ble_eq_true rfl) (Nat.le_of_ble_eq_true rfl) [0, 1, 2, 3, 4, 5] (w' := w2_) rfl rfl ⟨(-1), rfl, rfl⟩ (by first | exact mp_fd_ok mp_k_cX10_count_ok (by decide +kernel) | decide +kernel)
  · refine mp_tabIn hF (dflt := 205) (lo := 0) (hi := 9) (offs := #[56, 63, 70, 77, 112, 146, 153, 160, 165, 172]) (len := 56) (off := 56) (tgt := 64) (by first | exact mp_fd_ok mp_k_cX10_count_ok (by decide +kernel) | decide +kernel) (by omega) (by omega) (by rw [c_1]; rfl) (by decide) ?_
    show mp_W E X 4 64 [(2, .int 0), (0, .ref a0), (1, .int x0)] [] w2_ 0 0
    refine mp_run mp_k_cX10_count_ok hF mp_tabX10_ok [mp_i (.aload_n 0), mp_h (.getfield 34) [17, 0], mp_c (.iconst 0) 0, mp_h .iaload [3]] (by decide +kernel) ?_
    refine And.intro rfl (And.intro rfl ?_)
    refine And.intro rfl (And.intro rfl (And.intro (vp_in_iff.mpr (by decide)) ?_))
    intro z_2 h_3
    have e_4 : 0 ≤ z_2.toInt ∧ z_2.toInt ≤ 6 := mp_res_ld h_3 p0 (by decide) (by decide) (by decide)
    have e_5 : z_2.toInt = (f2 0).toInt := congrArg Int32.toInt (mp_at h_3 (by decide) rfl)
    show mp_W E X 4 70 [(2, .int 0), (0, .ref a0), (1, .int x0)] [.int z_2] w2_ 0 0
    exact mp_iret hF hQ rfl rfl (Nat.le_of_ble_eq_true rfl) (Nat.le_of_ble_eq_true rfl) [0, 1, 2, 3, 4, 5] (w' := w2_) rfl rfl ⟨z_2, rfl, rfl⟩ (by first | exact mp_fd_ok mp_k_cX10_count_ok (by decide +kernel) | decide +kernel)
  · refine mp_tabIn hF (dflt := 205) (lo := 0) (hi := 9) (offs := #[56, 63, 70, 77, 112, 146, 153, 160, 165, 172]) (len := 56) (off := 63) (tgt := 71) (by first | exact mp_fd_ok mp_k_cX10_count_ok (by decide +kernel) | decide +kernel) (by omega) (by omega) (by rw [c_1]; rfl) (by decide) ?_
    show mp_W E X 4 71 [(2, .int 0), (0, .ref a0), (1, .int x0)] [] w2_ 0 0
    refine mp_run mp_k_cX10_count_ok hF mp_tabX10_ok [mp_i (.aload_n 0), mp_h (.getfield 34) [17, 0], mp_c (.iconst 2) 2, mp_h .iaload [3]] (by decide +kernel) ?_
    refine And.intro rfl (And.intro rfl ?_)
    refine And.intro rfl (And.intro rfl (And.intro (vp_in_iff.mpr (by decide)) ?_))
    intro z_6 h_7
    have e_8 : 0 ≤ z_6.toInt ∧ z_6.toInt ≤ 6 := mp_res_ld h_7 p2 (by decide) (by decide) (by decide)
    have e_9 : z_6.toInt = (f2 2).toInt := congrArg Int32.toInt (mp_at h_7 (by decide) rfl)
    show mp_W E X 4 77 [(2, .int 0), (0, .ref a0), (1, .int x0)] [.int z_6] w2_ 0 0
    exact mp_iret hF hQ rfl rfl (Nat.le_of_ble_eq_true rfl) (Nat.le_of_ble_eq_true rfl) [0, 1, 2, 3, 4, 5] (w' := w2_) rfl rfl ⟨z_6, rfl, rfl⟩ (by first | exact mp_fd_ok mp_k_cX10_count_ok (by decide +kernel) | decide +kernel)
  · refine mp_tabIn hF (dflt := 205) (lo := 0) (hi := 9) (offs := #[56, 63, 70, 77, 112, 146, 153, 160, 165, 172]) (len := 56) (off := 70) (tgt := 78) (by first | exact mp_fd_ok mp_k_cX10_count_ok (by decide +kernel) | decide +kernel) (by omega) (by omega) (by rw [c_1]; rfl) (by decide) ?_
    show mp_W E X 4 78 [(2, .int 0), (0, .ref a0), (1, .int x0)] [] w2_ 0 0
    refine mp_run mp_k_cX10_count_ok hF mp_tabX10_ok [mp_i (.aload_n 0), mp_h (.getfield 34) [17, 0], mp_c (.iconst 3) 3, mp_h .iaload [3]] (by decide +kernel) ?_
    refine And.intro rfl (And.intro rfl ?_)
    refine And.intro rfl (And.intro rfl (And.intro (vp_in_iff.mpr (by decide)) ?_))
    intro z_10 h_11
    have e_12 : 0 ≤ z_10.toInt ∧ z_10.toInt ≤ 10 := mp_res_ld h_11 p3 (by decide) (by decide) (by decide)
    have e_13 : z_10.toInt = (f2 3).toInt := congrArg Int32.toInt (mp_at h_11 (by decide) rfl)
    show mp_W E X 4 84 [(2, .int 0), (0, .ref a0), (1, .int x0)] [.int z_10] w2_ 0 0
    exact mp_iret hF hQ rfl rfl (Nat.le_of_ble_eq_true rfl) (Nat.le_of_ble_eq_true rfl) [0, 1, 2, 3, 4, 5] (w' := w2_) rfl rfl ⟨z_10, rfl, rfl⟩ (by first | exact mp_fd_ok mp_k_cX10_count_ok (by decide +kernel) | decide +kernel)
  · refine mp_tabIn hF (dflt := 205) (lo := 0) (hi := 9) (offs := #[56, 63, 70, 77, 112, 146, 153, 160, 165, 172]) (len := 56) (off := 77) (tgt := 85) (by first | exact mp_fd_ok mp_k_cX10_count_ok (by decide +kernel) | decide +kernel) (by omega) (by omega) (by rw [c_1]; rfl) (by decide) ?_
    show mp_W E X 4 85 [(2, .int 0), (0, .ref a0), (1, .int x0)] [] w2_ 0 0
    refine mp_run mp_k_cX10_count_ok hF mp_tabX10_ok [mp_c (.iconst 0) 0, mp_i (.istore_n 3)] (by decide +kernel) ?_
    show mp_W E X 4 87 [(3, .int 0), (2, .int 0), (0, .ref a0), (1, .int x0)] [] w2_ 0 0
    have lp_18 : ∀ (d_19 : Nat) (i_14 : Int32) (i_15 : Int32), 0 ≤ i_14.toInt → i_14.toInt ≤ 36 → -(i_14.toInt) + 36 ≤ (d_19 : Int) → mp_W E X 4 87 [(3, .int i_14), (2, .int i_15), (0, .ref a0), (1, .int x0)] [] [(mp_ob10 a0 0 a1 a6 a7 a8 a9 y1 y2 y3 y4 y5 y6 y7 y8 y9 y10 a2 a3 a4 a5 a10 a11 a12 a13 y11 a14 a15 a16 a17 y12 y13 y14 a18 a19 y15 y16 a20 a21 a22 y17 y18 y19 y20 a23 a24 a25 y21), (mp_arI E a1 0 4 f0), (mp_arI E a2 0 5 f1), (mp_arI E a3 0 25 f2), (mp_arI E a4 0 180 f3), (mp_arI E a5 3 3000 f4)] 0 0 := by
      intro d_19
      induction d_19 using Nat.strongRecOn with
      | ind d_19 ih_20 =>
        intro i_14 i_15 l_16 u_17 hm_21
        refine mp_run mp_k_cX10_count_ok hF mp_tabX10_ok [mp_i (.iload_n 3), mp_c (.bipush 36) 36, mp_h (.if_icmp .ge 26) [116]] (by decide +kernel) ?_
        refine And.intro (fun c_22 => ?_) (fun c_22 => ?_)
        · have c_22 : 36 ≤ i_14.toInt := c_22
          show mp_W E X 4 116 [(3, .int i_14), (2, .int i_15), (0, .ref a0), (1, .int x0)] [] w2_ 0 0
          refine mp_run mp_k_cX10_count_ok hF mp_tabX10_ok [mp_i (.iload_n 2), mp_c (.iconst 2) 2, mp_i .idiv] (by decide +kernel) ?_
          refine And.intro (by decide) ?_
          intro z_23 h_24
          show mp_W E X 4 119 [(3, .int i_14), (2, .int i_15), (0, .ref a0), (1, .int x0)] [.int z_23] w2_ 0 0
          exact mp_iret hF hQ rfl rfl (Nat.le_of_ble_eq_true rfl) (Nat.le_of_ble_eq_true rfl) [0, 1, 2, 3, 4, 5] (w' := w2_) rfl rfl ⟨z_23, rfl, rfl⟩ (by first | exact mp_fd_ok mp_k_cX10_count_ok (by decide +kernel) | decide +kernel)
        · have c_22 : i_14.toInt < 36 := c_22
          show mp_W E X 4 93 [(3, .int i_14), (2, .int i_15), (0, .ref a0), (1, .int x0)] [] w2_ 0 0
          refine mp_run mp_k_cX10_count_ok hF mp_tabX10_ok [mp_i (.iload_n 2), mp_i (.aload_n 0), mp_h (.getfield 37) [18, 0], mp_i (.iload_n 3), mp_h .iaload [4], mp_h (.ifCond .le 7) [107]] (by decide +kernel) ?_
          refine And.intro rfl (And.intro rfl ?_)
          refine And.intro rfl (And.intro rfl (And.intro (vp_in_iff.mpr (by omega)) ?_))
          intro z_26 h_27
          have e_28 : 0 ≤ z_26.toInt ∧ z_26.toInt ≤ 20 := mp_all_ld h_27 p5 (by omega) (by omega)
          refine And.intro (fun c_29 => ?_) (fun c_29 => ?_)
          · have c_29 : z_26.toInt ≤ 0 := c_29
            show mp_W E X 4 107 [(3, .int i_14), (2, .int i_15), (0, .ref a0), (1, .int x0)] [.int i_15] w2_ 0 0
            refine mp_run mp_k_cX10_count_ok hF mp_tabX10_ok [mp_c (.iconst 0) 0, mp_i .iadd, mp_i (.istore_n 2), mp_c (.iinc 3 1) 1, mp_h (.goto (-26)) [87]] (by decide +kernel) ?_
            intro z_30 h_31
            have e_32 := mp_bnd i_15
            have e_33 : z_30.toInt = i_15.toInt + 0 := mp_add (a := i_15.toInt) (b := 0) h_31 rfl (by decide) (by omega) (by omega)
            intro z_34 h_35
            have e_36 : z_34.toInt = i_14.toInt + 1 := mp_add (a := i_14.toInt) (b := 1) h_35 rfl (by decide) (by omega) (by omega)
            show mp_W E X 4 87 [(3, .int z_34), (2, .int z_30), (0, .ref a0), (1, .int x0)] [] w2_ 0 0
            exact mp_sub [0, 1, 2, 3] rfl [0, 1, 2, 3, 4, 5] rfl rfl (ih_20 (d_19 - 1) (by omega) z_34 z_30 (by omega) (by omega) (by omega))
          · have c_29 : 0 < z_26.toInt := c_29
            show mp_W E X 4 103 [(3, .int i_14), (2, .int i_15), (0, .ref a0), (1, .int x0)] [.int i_15] w2_ 0 0
            refine mp_run mp_k_cX10_count_ok hF mp_tabX10_ok [mp_c (.iconst 1) 1, mp_h (.goto 4) [108], mp_i .iadd, mp_i (.istore_n 2), mp_c (.iinc 3 1) 1, mp_h (.goto (-26)) [87]] (by decide +kernel) ?_
            intro z_37 h_38
            have e_39 := mp_bnd i_15
            intro z_41 h_42
            have e_43 : z_41.toInt = i_14.toInt + 1 := mp_add (a := i_14.toInt) (b := 1) h_42 rfl (by decide) (by omega) (by omega)
            show mp_W E X 4 87 [(3, .int z_41), (2, .int z_37), (0, .ref a0), (1, .int x0)] [] w2_ 0 0
            exact mp_sub [0, 1, 2, 3] rfl [0, 1, 2, 3, 4, 5] rfl rfl (ih_20 (d_19 - 1) (by omega) z_41 z_37 (by omega) (by omega) (by omega))
    exact mp_sub [0, 1, 2, 3] rfl [0, 1, 2, 3, 4, 5] rfl rfl (lp_18 _ 0 0 (by decide) (by decide) (Int.self_le_toNat _))
  · refine mp_tabIn hF (dflt := 205) (lo := 0) (hi := 9) (offs := #[56, 63, 70, 77, 112, 146, 153, 160, 165, 172]) (len := 56) (off := 112) (tgt := 120) (by first | exact mp_fd_ok mp_k_cX10_count_ok (by decide +kernel) | decide +kernel) (by omega) (by omega) (by rw [c_1]; rfl) (by decide) ?_
    show mp_W E X 4 120 [(2, .int 0), (0, .ref a0), (1, .int x0)] [] w2_ 0 0
    refine mp_run mp_k_cX10_count_ok hF mp_tabX10_ok [mp_c (.iconst 0) 0, mp_i (.istore_n 3)] (by decide +kernel) ?_
    show mp_W E X 4 122 [(3, .int 0), (2, .int 0), (0, .ref a0), (1, .int x0)] [] w2_ 0 0
    have lp_48 : ∀ (d_49 : Nat) (i_44 : Int32) (i_45 : Int32), 0 ≤ i_44.toInt → i_44.toInt ≤ 600 → -(i_44.toInt) + 600 ≤ (d_49 : Int) → mp_W E X 4 122 [(3, .int i_44), (2, .int i_45), (0, .ref a0), (1, .int x0)] [] [(mp_ob10 a0 0 a1 a6 a7 a8 a9 y1 y2 y3 y4 y5 y6 y7 y8 y9 y10 a2 a3 a4 a5 a10 a11 a12 a13 y11 a14 a15 a16 a17 y12 y13 y14 a18 a19 y15 y16 a20 a21 a22 y17 y18 y19 y20 a23 a24 a25 y21), (mp_arI E a1 0 4 f0), (mp_arI E a2 0 5 f1), (mp_arI E a3 0 25 f2), (mp_arI E a4 0 180 f3), (mp_arI E a5 3 3000 f4)] 0 0 := by
      intro d_49
      induction d_49 using Nat.strongRecOn with
      | ind d_49 ih_50 =>
        intro i_44 i_45 l_46 u_47 hm_51
        refine mp_run mp_k_cX10_count_ok hF mp_tabX10_ok [mp_i (.iload_n 3), mp_c (.sipush 600) 600, mp_h (.if_icmp .ge 26) [152]] (by decide +kernel) ?_
        refine And.intro (fun c_52 => ?_) (fun c_52 => ?_)
        · have c_52 : 600 ≤ i_44.toInt := c_52
          show mp_W E X 4 152 [(3, .int i_44), (2, .int i_45), (0, .ref a0), (1, .int x0)] [] w2_ 0 0
          refine mp_run mp_k_cX10_count_ok hF mp_tabX10_ok [mp_i (.iload_n 2)] (by decide +kernel) ?_
          show mp_W E X 4 153 [(3, .int i_44), (2, .int i_45), (0, .ref a0), (1, .int x0)] [.int i_45] w2_ 0 0
          exact mp_iret hF hQ rfl rfl (Nat.le_of_ble_eq_true rfl) (Nat.le_of_ble_eq_true rfl) [0, 1, 2, 3, 4, 5] (w' := w2_) rfl rfl ⟨i_45, rfl, rfl⟩ (by first | exact mp_fd_ok mp_k_cX10_count_ok (by decide +kernel) | decide +kernel)
        · have c_52 : i_44.toInt < 600 := c_52
          show mp_W E X 4 129 [(3, .int i_44), (2, .int i_45), (0, .ref a0), (1, .int x0)] [] w2_ 0 0
          refine mp_run mp_k_cX10_count_ok hF mp_tabX10_ok [mp_i (.iload_n 2), mp_i (.aload_n 0), mp_h (.getfield 40) [19, 0], mp_i (.iload_n 3), mp_h .baload [5, 0], mp_h (.ifCond .eq 7) [143]] (by decide +kernel) ?_
          refine And.intro rfl (And.intro rfl ?_)
          refine And.intro rfl (And.intro rfl (And.intro (vp_in_iff.mpr (by omega)) ?_))
          intro z_53 h_54
          have e_55 : 0 ≤ z_53.toInt ∧ z_53.toInt ≤ 1 := mp_all_ld h_54 p6 (by omega) (by omega)
          refine And.intro (fun c_56 => ?_) (fun c_56 => ?_)
          · have c_56 : z_53.toInt = 0 := (congrArg Int32.toInt c_56)
            show mp_W E X 4 143 [(3, .int i_44), (2, .int i_45), (0, .ref a0), (1, .int x0)] [.int i_45] w2_ 0 0
            refine mp_run mp_k_cX10_count_ok hF mp_tabX10_ok [mp_c (.iconst 0) 0, mp_i .iadd, mp_i (.istore_n 2), mp_c (.iinc 3 1) 1, mp_h (.goto (-27)) [122]] (by decide +kernel) ?_
            intro z_57 h_58
            have e_59 := mp_bnd i_45
            have e_60 : z_57.toInt = i_45.toInt + 0 := mp_add (a := i_45.toInt) (b := 0) h_58 rfl (by decide) (by omega) (by omega)
            intro z_61 h_62
            have e_63 : z_61.toInt = i_44.toInt + 1 := mp_add (a := i_44.toInt) (b := 1) h_62 rfl (by decide) (by omega) (by omega)
            show mp_W E X 4 122 [(3, .int z_61), (2, .int z_57), (0, .ref a0), (1, .int x0)] [] w2_ 0 0
            exact mp_sub [0, 1, 2, 3] rfl [0, 1, 2, 3, 4, 5] rfl rfl (ih_50 (d_49 - 1) (by omega) z_61 z_57 (by omega) (by omega) (by omega))
          · have c_56 : z_53.toInt ≠ 0 := c_56
            show mp_W E X 4 139 [(3, .int i_44), (2, .int i_45), (0, .ref a0), (1, .int x0)] [.int i_45] w2_ 0 0
            refine mp_run mp_k_cX10_count_ok hF mp_tabX10_ok [mp_c (.iconst 1) 1, mp_h (.goto 4) [144], mp_i .iadd, mp_i (.istore_n 2), mp_c (.iinc 3 1) 1, mp_h (.goto (-27)) [122]] (by decide +kernel) ?_
            intro z_64 h_65
            have e_66 := mp_bnd i_45
            intro z_68 h_69
            have e_70 : z_68.toInt = i_44.toInt + 1 := mp_add (a := i_44.toInt) (b := 1) h_69 rfl (by decide) (by omega) (by omega)
            show mp_W E X 4 122 [(3, .int z_68), (2, .int z_64), (0, .ref a0), (1, .int x0)] [] w2_ 0 0
            exact mp_sub [0, 1, 2, 3] rfl [0, 1, 2, 3, 4, 5] rfl rfl (ih_50 (d_49 - 1) (by omega) z_68 z_64 (by omega) (by omega) (by omega))
    exact mp_sub [0, 1, 2, 3] rfl [0, 1, 2, 3, 4, 5] rfl rfl (lp_48 _ 0 0 (by decide) (by decide) (Int.self_le_toNat _))
  · refine mp_tabIn hF (dflt := 205) (lo := 0) (hi := 9) (offs := #[56, 63, 70, 77, 112, 146, 153, 160, 165, 172]) (len := 56) (off := 146) (tgt := 154) (by first | exact mp_fd_ok mp_k_cX10_count_ok (by decide +kernel) | decide +kernel) (by omega) (by omega) (by rw [c_1]; rfl) (by decide) ?_
    show mp_W E X 4 154 [(2, .int 0), (0, .ref a0), (1, .int x0)] [] w2_ 0 0
    refine mp_run mp_k_cX10_count_ok hF mp_tabX10_ok [mp_i (.aload_n 0), mp_h (.getfield 34) [17, 0], mp_c (.iconst 4) 4, mp_h .iaload [3]] (by decide +kernel) ?_
    refine And.intro rfl (And.intro rfl ?_)
    refine And.intro rfl (And.intro rfl (And.intro (vp_in_iff.mpr (by decide)) ?_))
    intro z_71 h_72
    have e_73 : 0 ≤ z_71.toInt ∧ z_71.toInt ≤ 60 := mp_res_ld h_72 p4 (by decide) (by decide) (by decide)
    have e_74 : z_71.toInt = (f2 4).toInt := congrArg Int32.toInt (mp_at h_72 (by decide) rfl)
    show mp_W E X 4 160 [(2, .int 0), (0, .ref a0), (1, .int x0)] [.int z_71] w2_ 0 0
    exact mp_iret hF hQ rfl rfl (Nat.le_of_ble_eq_true rfl) (Nat.le_of_ble_eq_true rfl) [0, 1, 2, 3, 4, 5] (w' := w2_) rfl rfl ⟨z_71, rfl, rfl⟩ (by first | exact mp_fd_ok mp_k_cX10_count_ok (by decide +kernel) | decide +kernel)
  · refine mp_tabIn hF (dflt := 205) (lo := 0) (hi := 9) (offs := #[56, 63, 70, 77, 112, 146, 153, 160, 165, 172]) (len := 56) (off := 153) (tgt := 161) (by first | exact mp_fd_ok mp_k_cX10_count_ok (by decide +kernel) | decide +kernel) (by omega) (by omega) (by rw [c_1]; rfl) (by decide) ?_
    show mp_W E X 4 161 [(2, .int 0), (0, .ref a0), (1, .int x0)] [] w2_ 0 0
    refine mp_run mp_k_cX10_count_ok hF mp_tabX10_ok [mp_i (.aload_n 0), mp_h (.getfield 31) [16, 0], mp_c (.iconst 0) 0, mp_h .iaload [2]] (by decide +kernel) ?_
    refine And.intro rfl (And.intro rfl ?_)
    refine And.intro rfl (And.intro rfl (And.intro (vp_in_iff.mpr (by decide)) ?_))
    intro z_75 h_76
    have e_77 : z_75.toInt = (f1 0).toInt := congrArg Int32.toInt (mp_at h_76 (by decide) rfl)
    show mp_W E X 4 167 [(2, .int 0), (0, .ref a0), (1, .int x0)] [.int z_75] w2_ 0 0
    exact mp_iret hF hQ rfl rfl (Nat.le_of_ble_eq_true rfl) (Nat.le_of_ble_eq_true rfl) [0, 1, 2, 3, 4, 5] (w' := w2_) rfl rfl ⟨z_75, rfl, rfl⟩ (by first | exact mp_fd_ok mp_k_cX10_count_ok (by decide +kernel) | decide +kernel)
  · refine mp_tabIn hF (dflt := 205) (lo := 0) (hi := 9) (offs := #[56, 63, 70, 77, 112, 146, 153, 160, 165, 172]) (len := 56) (off := 160) (tgt := 168) (by first | exact mp_fd_ok mp_k_cX10_count_ok (by decide +kernel) | decide +kernel) (by omega) (by omega) (by rw [c_1]; rfl) (by decide) ?_
    show mp_W E X 4 168 [(2, .int 0), (0, .ref a0), (1, .int x0)] [] w2_ 0 0
    refine mp_run mp_k_cX10_count_ok hF mp_tabX10_ok [mp_i (.aload_n 0), mp_h (.getfield 109) [6, 0]] (by decide +kernel) ?_
    refine And.intro rfl (And.intro rfl ?_)
    show mp_W E X 4 172 [(2, .int 0), (0, .ref a0), (1, .int x0)] [.int y1] w2_ 0 0
    exact mp_iret hF hQ rfl rfl (Nat.le_of_ble_eq_true rfl) (Nat.le_of_ble_eq_true rfl) [0, 1, 2, 3, 4, 5] (w' := w2_) rfl rfl ⟨y1, rfl, rfl⟩ (by first | exact mp_fd_ok mp_k_cX10_count_ok (by decide +kernel) | decide +kernel)
  · refine mp_tabIn hF (dflt := 205) (lo := 0) (hi := 9) (offs := #[56, 63, 70, 77, 112, 146, 153, 160, 165, 172]) (len := 56) (off := 165) (tgt := 173) (by first | exact mp_fd_ok mp_k_cX10_count_ok (by decide +kernel) | decide +kernel) (by omega) (by omega) (by rw [c_1]; rfl) (by decide) ?_
    show mp_W E X 4 173 [(2, .int 0), (0, .ref a0), (1, .int x0)] [] w2_ 0 0
    refine mp_run mp_k_cX10_count_ok hF mp_tabX10_ok [mp_i (.aload_n 0), mp_h (.getfield 34) [17, 0], mp_c (.iconst 1) 1, mp_h .iaload [3]] (by decide +kernel) ?_
    refine And.intro rfl (And.intro rfl ?_)
    refine And.intro rfl (And.intro rfl (And.intro (vp_in_iff.mpr (by decide)) ?_))
    intro z_78 h_79
    have e_80 : 0 ≤ z_78.toInt ∧ z_78.toInt ≤ 99 := mp_res_ld h_79 p1 (by decide) (by decide) (by decide)
    have e_81 : z_78.toInt = (f2 1).toInt := congrArg Int32.toInt (mp_at h_79 (by decide) rfl)
    show mp_W E X 4 179 [(2, .int 0), (0, .ref a0), (1, .int x0)] [.int z_78] w2_ 0 0
    exact mp_iret hF hQ rfl rfl (Nat.le_of_ble_eq_true rfl) (Nat.le_of_ble_eq_true rfl) [0, 1, 2, 3, 4, 5] (w' := w2_) rfl rfl ⟨z_78, rfl, rfl⟩ (by first | exact mp_fd_ok mp_k_cX10_count_ok (by decide +kernel) | decide +kernel)
  · refine mp_tabIn hF (dflt := 205) (lo := 0) (hi := 9) (offs := #[56, 63, 70, 77, 112, 146, 153, 160, 165, 172]) (len := 56) (off := 172) (tgt := 180) (by first | exact mp_fd_ok mp_k_cX10_count_ok (by decide +kernel) | decide +kernel) (by omega) (by omega) (by rw [c_1]; rfl) (by decide) ?_
    show mp_W E X 4 180 [(2, .int 0), (0, .ref a0), (1, .int x0)] [] w2_ 0 0
    refine mp_run mp_k_cX10_count_ok hF mp_tabX10_ok [mp_c (.iconst 0) 0, mp_i (.istore_n 3)] (by decide +kernel) ?_
    show mp_W E X 4 182 [(3, .int 0), (2, .int 0), (0, .ref a0), (1, .int x0)] [] w2_ 0 0
    have lp_86 : ∀ (d_87 : Nat) (i_82 : Int32) (i_83 : Int32), 0 ≤ i_82.toInt → i_82.toInt ≤ 5 → -(i_82.toInt) + 4 ≤ (d_87 : Int) → mp_W E X 4 182 [(3, .int i_82), (2, .int i_83), (0, .ref a0), (1, .int x0)] [] [(mp_ob10 a0 0 a1 a6 a7 a8 a9 y1 y2 y3 y4 y5 y6 y7 y8 y9 y10 a2 a3 a4 a5 a10 a11 a12 a13 y11 a14 a15 a16 a17 y12 y13 y14 a18 a19 y15 y16 a20 a21 a22 y17 y18 y19 y20 a23 a24 a25 y21), (mp_arI E a1 0 4 f0), (mp_arI E a2 0 5 f1), (mp_arI E a3 0 25 f2), (mp_arI E a4 0 180 f3), (mp_arI E a5 3 3000 f4)] 0 0 := by
      intro d_87
      induction d_87 using Nat.strongRecOn with
      | ind d_87 ih_88 =>
        intro i_82 i_83 l_84 u_85 hm_89
        refine mp_run mp_k_cX10_count_ok hF mp_tabX10_ok [mp_i (.iload_n 3), mp_c (.iconst 4) 4, mp_h (.if_icmp .ge 27) [211]] (by decide +kernel) ?_
        refine And.intro (fun c_90 => ?_) (fun c_90 => ?_)
        · have c_90 : 4 ≤ i_82.toInt := c_90
          show mp_W E X 4 211 [(3, .int i_82), (2, .int i_83), (0, .ref a0), (1, .int x0)] [] w2_ 0 0
          refine mp_run mp_k_cX10_count_ok hF mp_tabX10_ok [mp_i (.iload_n 2)] (by decide +kernel) ?_
          show mp_W E X 4 212 [(3, .int i_82), (2, .int i_83), (0, .ref a0), (1, .int x0)] [.int i_83] w2_ 0 0
          exact mp_iret hF hQ rfl rfl (Nat.le_of_ble_eq_true rfl) (Nat.le_of_ble_eq_true rfl) [0, 1, 2, 3, 4, 5] (w' := w2_) rfl rfl ⟨i_83, rfl, rfl⟩ (by first | exact mp_fd_ok mp_k_cX10_count_ok (by decide +kernel) | decide +kernel)
        · have c_90 : i_82.toInt < 4 := c_90
          show mp_W E X 4 187 [(3, .int i_82), (2, .int i_83), (0, .ref a0), (1, .int x0)] [] w2_ 0 0
          refine mp_run mp_k_cX10_count_ok hF mp_tabX10_ok [mp_i (.iload_n 2), mp_i (.aload_n 0), mp_h (.getfield 7) [1, 0], mp_i (.iload_n 3), mp_h .iaload [1], mp_c (.iconst (-1)) (-1), mp_h (.if_icmp .ne 7) [202]] (by decide +kernel) ?_
          refine And.intro rfl (And.intro rfl ?_)
          refine And.intro rfl (And.intro rfl (And.intro (vp_in_iff.mpr (by omega)) ?_))
          intro z_91 h_92
          refine And.intro (fun c_93 => ?_) (fun c_93 => ?_)
          · have c_93 : z_91.toInt ≠ (-1) := c_93
            show mp_W E X 4 202 [(3, .int i_82), (2, .int i_83), (0, .ref a0), (1, .int x0)] [.int i_83] w2_ 0 0
            refine mp_run mp_k_cX10_count_ok hF mp_tabX10_ok [mp_c (.iconst 1) 1, mp_i .iadd, mp_i (.istore_n 2), mp_c (.iinc 3 1) 1, mp_h (.goto (-26)) [182]] (by decide +kernel) ?_
            intro z_94 h_95
            have e_96 := mp_bnd i_83
            intro z_98 h_99
            have e_100 : z_98.toInt = i_82.toInt + 1 := mp_add (a := i_82.toInt) (b := 1) h_99 rfl (by decide) (by omega) (by omega)
            show mp_W E X 4 182 [(3, .int z_98), (2, .int z_94), (0, .ref a0), (1, .int x0)] [] w2_ 0 0
            exact mp_sub [0, 1, 2, 3] rfl [0, 1, 2, 3, 4, 5] rfl rfl (ih_88 (d_87 - 1) (by omega) z_98 z_94 (by omega) (by omega) (by omega))
          · have c_93 : z_91.toInt = (-1) := (congrArg Int32.toInt c_93)
            show mp_W E X 4 198 [(3, .int i_82), (2, .int i_83), (0, .ref a0), (1, .int x0)] [.int i_83] w2_ 0 0
            refine mp_run mp_k_cX10_count_ok hF mp_tabX10_ok [mp_c (.iconst 0) 0, mp_h (.goto 4) [203], mp_i .iadd, mp_i (.istore_n 2), mp_c (.iinc 3 1) 1, mp_h (.goto (-26)) [182]] (by decide +kernel) ?_
            intro z_101 h_102
            have e_103 := mp_bnd i_83
            have e_104 : z_101.toInt = i_83.toInt + 0 := mp_add (a := i_83.toInt) (b := 0) h_102 rfl (by decide) (by omega) (by omega)
            intro z_105 h_106
            have e_107 : z_105.toInt = i_82.toInt + 1 := mp_add (a := i_82.toInt) (b := 1) h_106 rfl (by decide) (by omega) (by omega)
            show mp_W E X 4 182 [(3, .int z_105), (2, .int z_101), (0, .ref a0), (1, .int x0)] [] w2_ 0 0
            exact mp_sub [0, 1, 2, 3] rfl [0, 1, 2, 3, 4, 5] rfl rfl (ih_88 (d_87 - 1) (by omega) z_105 z_101 (by omega) (by omega) (by omega))
    exact mp_sub [0, 1, 2, 3] rfl [0, 1, 2, 3, 4, 5] rfl rfl (lp_86 _ 0 0 (by decide) (by decide) (Int.self_le_toNat _))
set_option maxHeartbeats 4000000 in
set_option maxRecDepth 100000 in
theorem bX10_copyRow_160 (E : mp_E) (a0 : Nat) (f0 : Nat → Int32) : mp_Ct E yX10_copyRow cX10_copyRow 5 none 0 0 0 0 [.ref a0, .int 1, .int 0, .int 1] [(mp_arI E a0 0 5 f0)] (fun v w' => ∃ h1 : Nat → Int32, v = none ∧ (h1 = mp_cpr f0 0 1 1) ∧ w' = [(mp_arI E a0 0 5 h1)]) := by
  refine mp_met false (by decide) (by decide) (Nat.le_of_ble_eq_true rfl) (fun X hF hQ => ?_)
  have hF : mp_F E X (RX10, cX10_copyRow, 5, (0, 0, 0, 0), none, false) := hF
  show mp_W E X 5 0 [(0, .ref a0), (1, .int 1), (2, .int 0), (3, .int 1)] [] [(mp_arI E a0 0 5 f0)] 0 0
  refine mp_run mp_k_cX10_copyRow_ok hF mp_tabX10_ok [mp_c (.iconst 0) 0, mp_i (.istore 4)] (by decide +kernel) ?_
  show mp_W E X 5 3 [(4, .int 0), (0, .ref a0), (1, .int 1), (2, .int 0), (3, .int 1)] [] [(mp_arI E a0 0 5 f0)] 0 0
  have lp_7 : ∀ (d_8 : Nat) (i_1 : Int32) (g_2 : Nat → Int32), 0 ≤ i_1.toInt → i_1.toInt ≤ 1 → (g_2 = mp_cpr f0 0 1 i_1.toInt.toNat) → (i_1.toInt ≤ 1) → -(i_1.toInt) + 1 ≤ (d_8 : Int) → mp_W E X 5 3 [(4, .int i_1), (0, .ref a0), (1, .int 1), (2, .int 0), (3, .int 1)] [] [(mp_arI E a0 0 5 g_2)] 0 0 := by
    intro d_8
    induction d_8 using Nat.strongRecOn with
    | ind d_8 ih_9 =>
      intro i_1 g_2 l_3 u_4 x_5 x_6 hm_10
      refine mp_run mp_k_cX10_copyRow_ok hF mp_tabX10_ok [mp_i (.iload 4), mp_i (.iload_n 1), mp_h (.if_icmp .ge 25) [31]] (by decide +kernel) ?_
      refine And.intro (fun c_11 => ?_) (fun c_11 => ?_)
      · have c_11 : 1 ≤ i_1.toInt := c_11
        show mp_W E X 5 31 [(4, .int i_1), (0, .ref a0), (1, .int 1), (2, .int 0), (3, .int 1)] [] [(mp_arI E a0 0 5 g_2)] 0 0
        exact mp_vret hF hQ rfl (Nat.le_of_ble_eq_true rfl) (Nat.le_of_ble_eq_true rfl) [0] (w' := [(mp_arI E a0 0 5 g_2)]) rfl rfl ⟨g_2, rfl, (by rw [show i_1.toInt.toNat = 1 by (first | exact mp_o1318 c_11 u_4 | omega)] at x_5; exact x_5), rfl⟩ (by first | exact mp_fd_ok mp_k_cX10_copyRow_ok (by decide +kernel) | decide +kernel)
      · have c_11 : i_1.toInt < 1 := c_11
        show mp_W E X 5 9 [(4, .int i_1), (0, .ref a0), (1, .int 1), (2, .int 0), (3, .int 1)] [] [(mp_arI E a0 0 5 g_2)] 0 0
        refine mp_run mp_k_cX10_copyRow_ok hF mp_tabX10_ok [mp_i (.aload_n 0), mp_i (.iload_n 1), mp_i (.iload_n 3), mp_i .imul, mp_i (.iload 4), mp_i .iadd, mp_i (.aload_n 0), mp_i (.iload_n 1), mp_i (.iload_n 2), mp_i .imul, mp_i (.iload 4), mp_i .iadd, mp_h .iaload [0], mp_h .iastore [0]] (by decide +kernel) ?_
        intro z_12 h_13
        obtain rfl : z_12 = 1 := h_13.trans (by decide)
        intro z_14 h_15
        have e_16 : z_14.toInt = 1 + i_1.toInt := mp_add (a := 1) (b := i_1.toInt) h_15 (by decide) rfl (by (first | exact mp_o1932 l_3 | omega)) (by (first | exact mp_o1933 c_11 | omega))
        intro z_17 h_18
        obtain rfl : z_17 = 0 := h_18.trans (by decide)
        intro z_19 h_20
        have e_21 : z_19.toInt = 0 + i_1.toInt := mp_add (a := 0) (b := i_1.toInt) h_20 (by decide) rfl (by (first | exact mp_o1319 l_3 | omega)) (by (first | exact mp_o1320 c_11 | omega))
        refine And.intro rfl (And.intro rfl (And.intro (vp_in_iff.mpr (by (first | exact mp_o1324 l_3 e_21 c_11 | omega))) ?_))
        intro z_22 h_23
        refine And.intro rfl (And.intro rfl (And.intro (vp_in_iff.mpr (by (first | exact mp_o1934 l_3 e_16 c_11 | omega))) ?_))
        intro g_24 h_25
        show mp_W E X 5 25 [(4, .int i_1), (0, .ref a0), (1, .int 1), (2, .int 0), (3, .int 1)] [] [(mp_arI E a0 0 5 g_24)] 0 0
        refine mp_run mp_k_cX10_copyRow_ok hF mp_tabX10_ok [mp_c (.iinc 4 1) 1, mp_h (.goto (-25)) [3]] (by decide +kernel) ?_
        intro z_26 h_27
        have e_28 : z_26.toInt = i_1.toInt + 1 := mp_add (a := i_1.toInt) (b := 1) h_27 rfl (by decide) (by (first | exact mp_o2 l_3 | omega)) (by (first | exact mp_o1325 c_11 | omega))
        show mp_W E X 5 3 [(4, .int z_26), (0, .ref a0), (1, .int 1), (2, .int 0), (3, .int 1)] [] [(mp_arI E a0 0 5 g_24)] 0 0
        exact mp_sub [0, 1, 2, 3, 4] rfl [0] rfl rfl (ih_9 (d_8 - 1) (by (first | exact mp_o1326 hm_10 c_11 | omega)) z_26 g_24 (by (first | exact mp_o51 l_3 e_28 | omega)) (by (first | exact mp_o1327 c_11 e_28 | omega)) (mp_cpr_st (m := 1) h_25 h_23 x_5 (by (first | exact mp_o1935 l_3 e_16 | omega)) (by (first | exact mp_o1328 l_3 e_21 | omega)) (by (first | exact mp_o1936 | omega)) (by (first | exact mp_o1331 c_11 | omega)) (by (first | exact mp_o772 l_3 e_28 | omega))) (by (first | exact mp_o1327 c_11 e_28 | omega)) (by (first | exact mp_o1332 l_3 e_28 | omega)))
  exact mp_sub [0, 1, 2, 3, 4] rfl [0] rfl rfl (lp_7 _ 0 f0 (by decide) (by decide) (mp_cpr_0 (by decide)) (by decide) (Int.self_le_toNat _))
set_option maxHeartbeats 4000000 in
set_option maxRecDepth 100000 in
theorem bX10_copyRow_161 (E : mp_E) (a0 : Nat) (f0 : Nat → Int32) (p0 : mp_res f0 25 5 0 0 6) (p1 : mp_res f0 25 5 1 0 99) (p2 : mp_res f0 25 5 2 0 6) (p3 : mp_res f0 25 5 3 0 10) (p4 : mp_res f0 25 5 4 0 60) : mp_Ct E yX10_copyRow cX10_copyRow 5 none 0 0 0 0 [.ref a0, .int 5, .int 0, .int 1] [(mp_arI E a0 0 25 f0)] (fun v w' => ∃ h1 : Nat → Int32, v = none ∧ mp_res h1 25 5 0 0 6 ∧ mp_res h1 25 5 1 0 99 ∧ mp_res h1 25 5 2 0 6 ∧ mp_res h1 25 5 3 0 10 ∧ mp_res h1 25 5 4 0 60 ∧ (h1 = mp_cpr f0 0 5 5) ∧ w' = [(mp_arI E a0 0 25 h1)]) := by
  refine mp_met false (by decide) (by decide) (Nat.le_of_ble_eq_true rfl) (fun X hF hQ => ?_)
  have hF : mp_F E X (RX10, cX10_copyRow, 5, (0, 0, 0, 0), none, false) := hF
  show mp_W E X 5 0 [(0, .ref a0), (1, .int 5), (2, .int 0), (3, .int 1)] [] [(mp_arI E a0 0 25 f0)] 0 0
  refine mp_run mp_k_cX10_copyRow_ok hF mp_tabX10_ok [mp_c (.iconst 0) 0, mp_i (.istore 4)] (by decide +kernel) ?_
  show mp_W E X 5 3 [(4, .int 0), (0, .ref a0), (1, .int 5), (2, .int 0), (3, .int 1)] [] [(mp_arI E a0 0 25 f0)] 0 0
  have lp_12 : ∀ (d_13 : Nat) (i_1 : Int32) (g_2 : Nat → Int32), 0 ≤ i_1.toInt → i_1.toInt ≤ 5 → mp_res g_2 25 5 0 0 6 → mp_res g_2 25 5 1 0 99 → mp_res g_2 25 5 2 0 6 → mp_res g_2 25 5 3 0 10 → mp_res g_2 25 5 4 0 60 → (g_2 = mp_cpr f0 0 5 i_1.toInt.toNat) → (i_1.toInt ≤ 5) → -(i_1.toInt) + 5 ≤ (d_13 : Int) → mp_W E X 5 3 [(4, .int i_1), (0, .ref a0), (1, .int 5), (2, .int 0), (3, .int 1)] [] [(mp_arI E a0 0 25 g_2)] 0 0 := by
    intro d_13
    induction d_13 using Nat.strongRecOn with
    | ind d_13 ih_14 =>
      intro i_1 g_2 l_3 u_4 p_5 p_6 p_7 p_8 p_9 x_10 x_11 hm_15
      refine mp_run mp_k_cX10_copyRow_ok hF mp_tabX10_ok [mp_i (.iload 4), mp_i (.iload_n 1), mp_h (.if_icmp .ge 25) [31]] (by decide +kernel) ?_
      refine And.intro (fun c_16 => ?_) (fun c_16 => ?_)
      · have c_16 : 5 ≤ i_1.toInt := c_16
        show mp_W E X 5 31 [(4, .int i_1), (0, .ref a0), (1, .int 5), (2, .int 0), (3, .int 1)] [] [(mp_arI E a0 0 25 g_2)] 0 0
        exact mp_vret hF hQ rfl (Nat.le_of_ble_eq_true rfl) (Nat.le_of_ble_eq_true rfl) [0] (w' := [(mp_arI E a0 0 25 g_2)]) rfl rfl ⟨g_2, rfl, p_5, p_6, p_7, p_8, p_9, (by rw [show i_1.toInt.toNat = 5 by (first | exact mp_o1333 c_16 u_4 | omega)] at x_10; exact x_10), rfl⟩ (by first | exact mp_fd_ok mp_k_cX10_copyRow_ok (by decide +kernel) | decide +kernel)
      · have c_16 : i_1.toInt < 5 := c_16
        show mp_W E X 5 9 [(4, .int i_1), (0, .ref a0), (1, .int 5), (2, .int 0), (3, .int 1)] [] [(mp_arI E a0 0 25 g_2)] 0 0
        refine mp_run mp_k_cX10_copyRow_ok hF mp_tabX10_ok [mp_i (.aload_n 0), mp_i (.iload_n 1), mp_i (.iload_n 3), mp_i .imul, mp_i (.iload 4), mp_i .iadd, mp_i (.aload_n 0), mp_i (.iload_n 1), mp_i (.iload_n 2), mp_i .imul, mp_i (.iload 4), mp_i .iadd, mp_h .iaload [0], mp_h .iastore [0]] (by decide +kernel) ?_
        intro z_17 h_18
        obtain rfl : z_17 = 5 := h_18.trans (by decide)
        intro z_19 h_20
        have e_21 : z_19.toInt = 5 + i_1.toInt := mp_add (a := 5) (b := i_1.toInt) h_20 (by decide) rfl (by (first | exact mp_o1937 l_3 | omega)) (by (first | exact mp_o1938 c_16 | omega))
        intro z_22 h_23
        obtain rfl : z_22 = 0 := h_23.trans (by decide)
        intro z_24 h_25
        have e_26 : z_24.toInt = 0 + i_1.toInt := mp_add (a := 0) (b := i_1.toInt) h_25 (by decide) rfl (by (first | exact mp_o1319 l_3 | omega)) (by (first | exact mp_o1939 c_16 | omega))
        refine And.intro rfl (And.intro rfl (And.intro (vp_in_iff.mpr (by (first | exact mp_o1940 l_3 e_26 c_16 | omega))) ?_))
        intro z_27 h_28
        have e_29 : z_24.toInt % 5 = 0 → 0 ≤ z_27.toInt ∧ z_27.toInt ≤ 6 := mp_res_ld h_28 p_5 (by (first | exact mp_o1341 l_3 e_26 | omega)) (by (first | exact mp_o1941 c_16 e_26 | omega))
        have e_30 : z_24.toInt % 5 = 1 → 0 ≤ z_27.toInt ∧ z_27.toInt ≤ 99 := mp_res_ld h_28 p_6 (by (first | exact mp_o1341 l_3 e_26 | omega)) (by (first | exact mp_o1941 c_16 e_26 | omega))
        have e_31 : z_24.toInt % 5 = 2 → 0 ≤ z_27.toInt ∧ z_27.toInt ≤ 6 := mp_res_ld h_28 p_7 (by (first | exact mp_o1341 l_3 e_26 | omega)) (by (first | exact mp_o1941 c_16 e_26 | omega))
        have e_32 : z_24.toInt % 5 = 3 → 0 ≤ z_27.toInt ∧ z_27.toInt ≤ 10 := mp_res_ld h_28 p_8 (by (first | exact mp_o1341 l_3 e_26 | omega)) (by (first | exact mp_o1941 c_16 e_26 | omega))
        have e_33 : z_24.toInt % 5 = 4 → 0 ≤ z_27.toInt ∧ z_27.toInt ≤ 60 := mp_res_ld h_28 p_9 (by (first | exact mp_o1341 l_3 e_26 | omega)) (by (first | exact mp_o1941 c_16 e_26 | omega))
        refine And.intro rfl (And.intro rfl (And.intro (vp_in_iff.mpr (by (first | exact mp_o1942 l_3 e_21 c_16 | omega))) ?_))
        intro g_34 h_35
        have p_36 : mp_res g_34 25 5 0 0 6 := mp_res_st h_35 p_5 (by (first | exact mp_o1943 l_3 e_21 | omega)) (by (first | exact mp_o1944 e_29 e_21 e_26 | omega))
        have p_37 : mp_res g_34 25 5 1 0 99 := mp_res_st h_35 p_6 (by (first | exact mp_o1943 l_3 e_21 | omega)) (by (first | exact mp_o1945 e_30 e_21 e_26 | omega))
        have p_38 : mp_res g_34 25 5 2 0 6 := mp_res_st h_35 p_7 (by (first | exact mp_o1943 l_3 e_21 | omega)) (by (first | exact mp_o1946 e_31 e_21 e_26 | omega))
        have p_39 : mp_res g_34 25 5 3 0 10 := mp_res_st h_35 p_8 (by (first | exact mp_o1943 l_3 e_21 | omega)) (by (first | exact mp_o1947 e_32 e_21 e_26 | omega))
        have p_40 : mp_res g_34 25 5 4 0 60 := mp_res_st h_35 p_9 (by (first | exact mp_o1943 l_3 e_21 | omega)) (by (first | exact mp_o1948 e_33 e_21 e_26 | omega))
        show mp_W E X 5 25 [(4, .int i_1), (0, .ref a0), (1, .int 5), (2, .int 0), (3, .int 1)] [] [(mp_arI E a0 0 25 g_34)] 0 0
        refine mp_run mp_k_cX10_copyRow_ok hF mp_tabX10_ok [mp_c (.iinc 4 1) 1, mp_h (.goto (-25)) [3]] (by decide +kernel) ?_
        intro z_41 h_42
        have e_43 : z_41.toInt = i_1.toInt + 1 := mp_add (a := i_1.toInt) (b := 1) h_42 rfl (by decide) (by (first | exact mp_o2 l_3 | omega)) (by (first | exact mp_o1949 c_16 | omega))
        show mp_W E X 5 3 [(4, .int z_41), (0, .ref a0), (1, .int 5), (2, .int 0), (3, .int 1)] [] [(mp_arI E a0 0 25 g_34)] 0 0
        exact mp_sub [0, 1, 2, 3, 4] rfl [0] rfl rfl (ih_14 (d_13 - 1) (by (first | exact mp_o1342 hm_15 c_16 | omega)) z_41 g_34 (by (first | exact mp_o51 l_3 e_43 | omega)) (by (first | exact mp_o1344 c_16 e_43 | omega)) p_36 p_37 p_38 p_39 p_40 (mp_cpr_st (m := 5) h_35 h_28 x_10 (by (first | exact mp_o1950 l_3 e_21 | omega)) (by (first | exact mp_o1328 l_3 e_26 | omega)) (by (first | exact mp_o1951 | omega)) (by (first | exact mp_o1952 c_16 | omega)) (by (first | exact mp_o772 l_3 e_43 | omega))) (by (first | exact mp_o1344 c_16 e_43 | omega)) (by (first | exact mp_o1953 hm_15 e_43 | omega)))
  exact mp_sub [0, 1, 2, 3, 4] rfl [0] rfl rfl (lp_12 _ 0 f0 (by decide) (by decide) p0 p1 p2 p3 p4 (mp_cpr_0 (by decide)) (by decide) (Int.self_le_toNat _))
set_option maxHeartbeats 4000000 in
set_option maxRecDepth 100000 in
theorem bX10_copyRow_162 (E : mp_E) (a0 : Nat) (f0 : Nat → Int32) (p0 : mp_all f0 180 0 20) : mp_Ct E yX10_copyRow cX10_copyRow 5 none 0 0 0 0 [.ref a0, .int 36, .int 0, .int 1] [(mp_arI E a0 0 180 f0)] (fun v w' => ∃ h1 : Nat → Int32, v = none ∧ mp_all h1 180 0 20 ∧ (h1 = mp_cpr f0 0 36 36) ∧ w' = [(mp_arI E a0 0 180 h1)]) := by
  refine mp_met false (by decide) (by decide) (Nat.le_of_ble_eq_true rfl) (fun X hF hQ => ?_)
  have hF : mp_F E X (RX10, cX10_copyRow, 5, (0, 0, 0, 0), none, false) := hF
  show mp_W E X 5 0 [(0, .ref a0), (1, .int 36), (2, .int 0), (3, .int 1)] [] [(mp_arI E a0 0 180 f0)] 0 0
  refine mp_run mp_k_cX10_copyRow_ok hF mp_tabX10_ok [mp_c (.iconst 0) 0, mp_i (.istore 4)] (by decide +kernel) ?_
  show mp_W E X 5 3 [(4, .int 0), (0, .ref a0), (1, .int 36), (2, .int 0), (3, .int 1)] [] [(mp_arI E a0 0 180 f0)] 0 0
  have lp_8 : ∀ (d_9 : Nat) (i_1 : Int32) (g_2 : Nat → Int32), 0 ≤ i_1.toInt → i_1.toInt ≤ 36 → mp_all g_2 180 0 20 → (g_2 = mp_cpr f0 0 36 i_1.toInt.toNat) → (i_1.toInt ≤ 36) → -(i_1.toInt) + 36 ≤ (d_9 : Int) → mp_W E X 5 3 [(4, .int i_1), (0, .ref a0), (1, .int 36), (2, .int 0), (3, .int 1)] [] [(mp_arI E a0 0 180 g_2)] 0 0 := by
    intro d_9
    induction d_9 using Nat.strongRecOn with
    | ind d_9 ih_10 =>
      intro i_1 g_2 l_3 u_4 p_5 x_6 x_7 hm_11
      refine mp_run mp_k_cX10_copyRow_ok hF mp_tabX10_ok [mp_i (.iload 4), mp_i (.iload_n 1), mp_h (.if_icmp .ge 25) [31]] (by decide +kernel) ?_
      refine And.intro (fun c_12 => ?_) (fun c_12 => ?_)
      · have c_12 : 36 ≤ i_1.toInt := c_12
        show mp_W E X 5 31 [(4, .int i_1), (0, .ref a0), (1, .int 36), (2, .int 0), (3, .int 1)] [] [(mp_arI E a0 0 180 g_2)] 0 0
        exact mp_vret hF hQ rfl (Nat.le_of_ble_eq_true rfl) (Nat.le_of_ble_eq_true rfl) [0] (w' := [(mp_arI E a0 0 180 g_2)]) rfl rfl ⟨g_2, rfl, p_5, (by rw [show i_1.toInt.toNat = 36 by (first | exact mp_o1345 c_12 u_4 | omega)] at x_6; exact x_6), rfl⟩ (by first | exact mp_fd_ok mp_k_cX10_copyRow_ok (by decide +kernel) | decide +kernel)
      · have c_12 : i_1.toInt < 36 := c_12
        show mp_W E X 5 9 [(4, .int i_1), (0, .ref a0), (1, .int 36), (2, .int 0), (3, .int 1)] [] [(mp_arI E a0 0 180 g_2)] 0 0
        refine mp_run mp_k_cX10_copyRow_ok hF mp_tabX10_ok [mp_i (.aload_n 0), mp_i (.iload_n 1), mp_i (.iload_n 3), mp_i .imul, mp_i (.iload 4), mp_i .iadd, mp_i (.aload_n 0), mp_i (.iload_n 1), mp_i (.iload_n 2), mp_i .imul, mp_i (.iload 4), mp_i .iadd, mp_h .iaload [0], mp_h .iastore [0]] (by decide +kernel) ?_
        intro z_13 h_14
        obtain rfl : z_13 = 36 := h_14.trans (by decide)
        intro z_15 h_16
        have e_17 : z_15.toInt = 36 + i_1.toInt := mp_add (a := 36) (b := i_1.toInt) h_16 (by decide) rfl (by (first | exact mp_o1954 l_3 | omega)) (by (first | exact mp_o1955 c_12 | omega))
        intro z_18 h_19
        obtain rfl : z_18 = 0 := h_19.trans (by decide)
        intro z_20 h_21
        have e_22 : z_20.toInt = 0 + i_1.toInt := mp_add (a := 0) (b := i_1.toInt) h_21 (by decide) rfl (by (first | exact mp_o1319 l_3 | omega)) (by (first | exact mp_o1956 c_12 | omega))
        refine And.intro rfl (And.intro rfl (And.intro (vp_in_iff.mpr (by (first | exact mp_o1346 l_3 e_22 c_12 | omega))) ?_))
        intro z_23 h_24
        have e_25 : 0 ≤ z_23.toInt ∧ z_23.toInt ≤ 20 := mp_all_ld h_24 p_5 (by (first | exact mp_o1341 l_3 e_22 | omega)) (by (first | exact mp_o1957 c_12 e_22 | omega))
        refine And.intro rfl (And.intro rfl (And.intro (vp_in_iff.mpr (by (first | exact mp_o1958 l_3 e_17 c_12 | omega))) ?_))
        intro g_26 h_27
        have p_28 : mp_all g_26 180 0 20 := mp_all_st h_27 p_5 e_25.1 e_25.2
        show mp_W E X 5 25 [(4, .int i_1), (0, .ref a0), (1, .int 36), (2, .int 0), (3, .int 1)] [] [(mp_arI E a0 0 180 g_26)] 0 0
        refine mp_run mp_k_cX10_copyRow_ok hF mp_tabX10_ok [mp_c (.iinc 4 1) 1, mp_h (.goto (-25)) [3]] (by decide +kernel) ?_
        intro z_29 h_30
        have e_31 : z_29.toInt = i_1.toInt + 1 := mp_add (a := i_1.toInt) (b := 1) h_30 rfl (by decide) (by (first | exact mp_o2 l_3 | omega)) (by (first | exact mp_o49 c_12 | omega))
        show mp_W E X 5 3 [(4, .int z_29), (0, .ref a0), (1, .int 36), (2, .int 0), (3, .int 1)] [] [(mp_arI E a0 0 180 g_26)] 0 0
        exact mp_sub [0, 1, 2, 3, 4] rfl [0] rfl rfl (ih_10 (d_9 - 1) (by (first | exact mp_o50 hm_11 c_12 | omega)) z_29 g_26 (by (first | exact mp_o51 l_3 e_31 | omega)) (by (first | exact mp_o52 c_12 e_31 | omega)) p_28 (mp_cpr_st (m := 36) h_27 h_24 x_6 (by (first | exact mp_o1959 l_3 e_17 | omega)) (by (first | exact mp_o1328 l_3 e_22 | omega)) (by (first | exact mp_o1960 | omega)) (by (first | exact mp_o1961 c_12 | omega)) (by (first | exact mp_o772 l_3 e_31 | omega))) (by (first | exact mp_o52 c_12 e_31 | omega)) (by (first | exact mp_o54 hm_11 e_31 | omega)))
  exact mp_sub [0, 1, 2, 3, 4] rfl [0] rfl rfl (lp_8 _ 0 f0 (by decide) (by decide) p0 (mp_cpr_0 (by decide)) (by decide) (Int.self_le_toNat _))
set_option maxHeartbeats 4000000 in
set_option maxRecDepth 100000 in
theorem bX10_copyRow_163 (E : mp_E) (a0 : Nat) (f0 : Nat → Int32) (p0 : mp_res f0 90 3 0 0 5) (p1 : mp_res f0 90 3 1 (-1) 99) : mp_Ct E yX10_copyRow cX10_copyRow 5 none 0 0 0 0 [.ref a0, .int 18, .int 0, .int 1] [(mp_arI E a0 0 90 f0)] (fun v w' => ∃ h1 : Nat → Int32, v = none ∧ mp_res h1 90 3 0 0 5 ∧ mp_res h1 90 3 1 (-1) 99 ∧ (h1 = mp_cpr f0 0 18 18) ∧ w' = [(mp_arI E a0 0 90 h1)]) := by
  refine mp_met false (by decide) (by decide) (Nat.le_of_ble_eq_true rfl) (fun X hF hQ => ?_)
  have hF : mp_F E X (RX10, cX10_copyRow, 5, (0, 0, 0, 0), none, false) := hF
  show mp_W E X 5 0 [(0, .ref a0), (1, .int 18), (2, .int 0), (3, .int 1)] [] [(mp_arI E a0 0 90 f0)] 0 0
  refine mp_run mp_k_cX10_copyRow_ok hF mp_tabX10_ok [mp_c (.iconst 0) 0, mp_i (.istore 4)] (by decide +kernel) ?_
  show mp_W E X 5 3 [(4, .int 0), (0, .ref a0), (1, .int 18), (2, .int 0), (3, .int 1)] [] [(mp_arI E a0 0 90 f0)] 0 0
  have lp_9 : ∀ (d_10 : Nat) (i_1 : Int32) (g_2 : Nat → Int32), 0 ≤ i_1.toInt → i_1.toInt ≤ 20 → mp_res g_2 90 3 0 0 5 → mp_res g_2 90 3 1 (-1) 99 → (g_2 = mp_cpr f0 0 18 i_1.toInt.toNat) → (i_1.toInt ≤ 18) → -(i_1.toInt) + 18 ≤ (d_10 : Int) → mp_W E X 5 3 [(4, .int i_1), (0, .ref a0), (1, .int 18), (2, .int 0), (3, .int 1)] [] [(mp_arI E a0 0 90 g_2)] 0 0 := by
    intro d_10
    induction d_10 using Nat.strongRecOn with
    | ind d_10 ih_11 =>
      intro i_1 g_2 l_3 u_4 p_5 p_6 x_7 x_8 hm_12
      refine mp_run mp_k_cX10_copyRow_ok hF mp_tabX10_ok [mp_i (.iload 4), mp_i (.iload_n 1), mp_h (.if_icmp .ge 25) [31]] (by decide +kernel) ?_
      refine And.intro (fun c_13 => ?_) (fun c_13 => ?_)
      · have c_13 : 18 ≤ i_1.toInt := c_13
        show mp_W E X 5 31 [(4, .int i_1), (0, .ref a0), (1, .int 18), (2, .int 0), (3, .int 1)] [] [(mp_arI E a0 0 90 g_2)] 0 0
        exact mp_vret hF hQ rfl (Nat.le_of_ble_eq_true rfl) (Nat.le_of_ble_eq_true rfl) [0] (w' := [(mp_arI E a0 0 90 g_2)]) rfl rfl ⟨g_2, rfl, p_5, p_6, (by rw [show i_1.toInt.toNat = 18 by (first | exact mp_o1348 c_13 x_8 | omega)] at x_7; exact x_7), rfl⟩ (by first | exact mp_fd_ok mp_k_cX10_copyRow_ok (by decide +kernel) | decide +kernel)
      · have c_13 : i_1.toInt < 18 := c_13
        show mp_W E X 5 9 [(4, .int i_1), (0, .ref a0), (1, .int 18), (2, .int 0), (3, .int 1)] [] [(mp_arI E a0 0 90 g_2)] 0 0
        refine mp_run mp_k_cX10_copyRow_ok hF mp_tabX10_ok [mp_i (.aload_n 0), mp_i (.iload_n 1), mp_i (.iload_n 3), mp_i .imul, mp_i (.iload 4), mp_i .iadd, mp_i (.aload_n 0), mp_i (.iload_n 1), mp_i (.iload_n 2), mp_i .imul, mp_i (.iload 4), mp_i .iadd, mp_h .iaload [0], mp_h .iastore [0]] (by decide +kernel) ?_
        intro z_14 h_15
        obtain rfl : z_14 = 18 := h_15.trans (by decide)
        intro z_16 h_17
        have e_18 : z_16.toInt = 18 + i_1.toInt := mp_add (a := 18) (b := i_1.toInt) h_17 (by decide) rfl (by (first | exact mp_o1962 l_3 | omega)) (by (first | exact mp_o1963 c_13 | omega))
        intro z_19 h_20
        obtain rfl : z_19 = 0 := h_20.trans (by decide)
        intro z_21 h_22
        have e_23 : z_21.toInt = 0 + i_1.toInt := mp_add (a := 0) (b := i_1.toInt) h_22 (by decide) rfl (by (first | exact mp_o1319 l_3 | omega)) (by (first | exact mp_o1964 c_13 | omega))
        refine And.intro rfl (And.intro rfl (And.intro (vp_in_iff.mpr (by (first | exact mp_o1353 l_3 e_23 c_13 | omega))) ?_))
        intro z_24 h_25
        have e_26 : z_21.toInt % 3 = 0 → 0 ≤ z_24.toInt ∧ z_24.toInt ≤ 5 := mp_res_ld h_25 p_5 (by (first | exact mp_o1341 l_3 e_23 | omega)) (by (first | exact mp_o1965 c_13 e_23 | omega))
        have e_27 : z_21.toInt % 3 = 1 → (-1) ≤ z_24.toInt ∧ z_24.toInt ≤ 99 := mp_res_ld h_25 p_6 (by (first | exact mp_o1341 l_3 e_23 | omega)) (by (first | exact mp_o1965 c_13 e_23 | omega))
        refine And.intro rfl (And.intro rfl (And.intro (vp_in_iff.mpr (by (first | exact mp_o1966 l_3 e_18 c_13 | omega))) ?_))
        intro g_28 h_29
        have p_30 : mp_res g_28 90 3 0 0 5 := mp_res_st h_29 p_5 (by (first | exact mp_o1967 l_3 e_18 | omega)) (by (first | exact mp_o1968 e_26 e_18 e_23 | omega))
        have p_31 : mp_res g_28 90 3 1 (-1) 99 := mp_res_st h_29 p_6 (by (first | exact mp_o1967 l_3 e_18 | omega)) (by (first | exact mp_o1969 e_27 e_18 e_23 | omega))
        show mp_W E X 5 25 [(4, .int i_1), (0, .ref a0), (1, .int 18), (2, .int 0), (3, .int 1)] [] [(mp_arI E a0 0 90 g_28)] 0 0
        refine mp_run mp_k_cX10_copyRow_ok hF mp_tabX10_ok [mp_c (.iinc 4 1) 1, mp_h (.goto (-25)) [3]] (by decide +kernel) ?_
        intro z_32 h_33
        have e_34 : z_32.toInt = i_1.toInt + 1 := mp_add (a := i_1.toInt) (b := 1) h_33 rfl (by decide) (by (first | exact mp_o2 l_3 | omega)) (by (first | exact mp_o1970 c_13 | omega))
        show mp_W E X 5 3 [(4, .int z_32), (0, .ref a0), (1, .int 18), (2, .int 0), (3, .int 1)] [] [(mp_arI E a0 0 90 g_28)] 0 0
        exact mp_sub [0, 1, 2, 3, 4] rfl [0] rfl rfl (ih_11 (d_10 - 1) (by (first | exact mp_o1354 hm_12 c_13 | omega)) z_32 g_28 (by (first | exact mp_o51 l_3 e_34 | omega)) (by (first | exact mp_o1356 c_13 e_34 | omega)) p_30 p_31 (mp_cpr_st (m := 18) h_29 h_25 x_7 (by (first | exact mp_o1971 l_3 e_18 | omega)) (by (first | exact mp_o1328 l_3 e_23 | omega)) (by (first | exact mp_o1972 | omega)) (by (first | exact mp_o1973 c_13 | omega)) (by (first | exact mp_o772 l_3 e_34 | omega))) (by (first | exact mp_o1974 c_13 e_34 | omega)) (by (first | exact mp_o1975 hm_12 e_34 | omega)))
  exact mp_sub [0, 1, 2, 3, 4] rfl [0] rfl rfl (lp_9 _ 0 f0 (by decide) (by decide) p0 p1 (mp_cpr_0 (by decide)) (by decide) (Int.self_le_toNat _))
set_option maxHeartbeats 4000000 in
set_option maxRecDepth 100000 in
theorem bX10_copyRow_164 (E : mp_E) (a0 : Nat) (f0 : Nat → Int32) (p0 : mp_res f0 300 6 0 0 5) (p1 : mp_res f0 300 6 1 0 5) (p2 : mp_res f0 300 6 3 0 99) (p3 : mp_res f0 300 6 4 0 1) : mp_Ct E yX10_copyRow cX10_copyRow 5 none 0 0 0 0 [.ref a0, .int 60, .int 0, .int 1] [(mp_arI E a0 0 300 f0)] (fun v w' => ∃ h1 : Nat → Int32, v = none ∧ mp_res h1 300 6 0 0 5 ∧ mp_res h1 300 6 1 0 5 ∧ mp_res h1 300 6 3 0 99 ∧ mp_res h1 300 6 4 0 1 ∧ (h1 = mp_cpr f0 0 60 60) ∧ w' = [(mp_arI E a0 0 300 h1)]) := by
  refine mp_met false (by decide) (by decide) (Nat.le_of_ble_eq_true rfl) (fun X hF hQ => ?_)
  have hF : mp_F E X (RX10, cX10_copyRow, 5, (0, 0, 0, 0), none, false) := hF
  show mp_W E X 5 0 [(0, .ref a0), (1, .int 60), (2, .int 0), (3, .int 1)] [] [(mp_arI E a0 0 300 f0)] 0 0
  refine mp_run mp_k_cX10_copyRow_ok hF mp_tabX10_ok [mp_c (.iconst 0) 0, mp_i (.istore 4)] (by decide +kernel) ?_
  show mp_W E X 5 3 [(4, .int 0), (0, .ref a0), (1, .int 60), (2, .int 0), (3, .int 1)] [] [(mp_arI E a0 0 300 f0)] 0 0
  have lp_11 : ∀ (d_12 : Nat) (i_1 : Int32) (g_2 : Nat → Int32), 0 ≤ i_1.toInt → i_1.toInt ≤ 60 → mp_res g_2 300 6 0 0 5 → mp_res g_2 300 6 1 0 5 → mp_res g_2 300 6 3 0 99 → mp_res g_2 300 6 4 0 1 → (g_2 = mp_cpr f0 0 60 i_1.toInt.toNat) → (i_1.toInt ≤ 60) → -(i_1.toInt) + 60 ≤ (d_12 : Int) → mp_W E X 5 3 [(4, .int i_1), (0, .ref a0), (1, .int 60), (2, .int 0), (3, .int 1)] [] [(mp_arI E a0 0 300 g_2)] 0 0 := by
    intro d_12
    induction d_12 using Nat.strongRecOn with
    | ind d_12 ih_13 =>
      intro i_1 g_2 l_3 u_4 p_5 p_6 p_7 p_8 x_9 x_10 hm_14
      refine mp_run mp_k_cX10_copyRow_ok hF mp_tabX10_ok [mp_i (.iload 4), mp_i (.iload_n 1), mp_h (.if_icmp .ge 25) [31]] (by decide +kernel) ?_
      refine And.intro (fun c_15 => ?_) (fun c_15 => ?_)
      · have c_15 : 60 ≤ i_1.toInt := c_15
        show mp_W E X 5 31 [(4, .int i_1), (0, .ref a0), (1, .int 60), (2, .int 0), (3, .int 1)] [] [(mp_arI E a0 0 300 g_2)] 0 0
        exact mp_vret hF hQ rfl (Nat.le_of_ble_eq_true rfl) (Nat.le_of_ble_eq_true rfl) [0] (w' := [(mp_arI E a0 0 300 g_2)]) rfl rfl ⟨g_2, rfl, p_5, p_6, p_7, p_8, (by rw [show i_1.toInt.toNat = 60 by (first | exact mp_o1357 c_15 u_4 | omega)] at x_9; exact x_9), rfl⟩ (by first | exact mp_fd_ok mp_k_cX10_copyRow_ok (by decide +kernel) | decide +kernel)
      · have c_15 : i_1.toInt < 60 := c_15
        show mp_W E X 5 9 [(4, .int i_1), (0, .ref a0), (1, .int 60), (2, .int 0), (3, .int 1)] [] [(mp_arI E a0 0 300 g_2)] 0 0
        refine mp_run mp_k_cX10_copyRow_ok hF mp_tabX10_ok [mp_i (.aload_n 0), mp_i (.iload_n 1), mp_i (.iload_n 3), mp_i .imul, mp_i (.iload 4), mp_i .iadd, mp_i (.aload_n 0), mp_i (.iload_n 1), mp_i (.iload_n 2), mp_i .imul, mp_i (.iload 4), mp_i .iadd, mp_h .iaload [0], mp_h .iastore [0]] (by decide +kernel) ?_
        intro z_16 h_17
        obtain rfl : z_16 = 60 := h_17.trans (by decide)
        intro z_18 h_19
        have e_20 : z_18.toInt = 60 + i_1.toInt := mp_add (a := 60) (b := i_1.toInt) h_19 (by decide) rfl (by (first | exact mp_o1976 l_3 | omega)) (by (first | exact mp_o1977 c_15 | omega))
        intro z_21 h_22
        obtain rfl : z_21 = 0 := h_22.trans (by decide)
        intro z_23 h_24
        have e_25 : z_23.toInt = 0 + i_1.toInt := mp_add (a := 0) (b := i_1.toInt) h_24 (by decide) rfl (by (first | exact mp_o1319 l_3 | omega)) (by (first | exact mp_o1978 c_15 | omega))
        refine And.intro rfl (And.intro rfl (And.intro (vp_in_iff.mpr (by (first | exact mp_o1979 l_3 e_25 c_15 | omega))) ?_))
        intro z_26 h_27
        have e_28 : z_23.toInt % 6 = 0 → 0 ≤ z_26.toInt ∧ z_26.toInt ≤ 5 := mp_res_ld h_27 p_5 (by (first | exact mp_o1341 l_3 e_25 | omega)) (by (first | exact mp_o1980 c_15 e_25 | omega))
        have e_29 : z_23.toInt % 6 = 1 → 0 ≤ z_26.toInt ∧ z_26.toInt ≤ 5 := mp_res_ld h_27 p_6 (by (first | exact mp_o1341 l_3 e_25 | omega)) (by (first | exact mp_o1980 c_15 e_25 | omega))
        have e_30 : z_23.toInt % 6 = 3 → 0 ≤ z_26.toInt ∧ z_26.toInt ≤ 99 := mp_res_ld h_27 p_7 (by (first | exact mp_o1341 l_3 e_25 | omega)) (by (first | exact mp_o1980 c_15 e_25 | omega))
        have e_31 : z_23.toInt % 6 = 4 → 0 ≤ z_26.toInt ∧ z_26.toInt ≤ 1 := mp_res_ld h_27 p_8 (by (first | exact mp_o1341 l_3 e_25 | omega)) (by (first | exact mp_o1980 c_15 e_25 | omega))
        refine And.intro rfl (And.intro rfl (And.intro (vp_in_iff.mpr (by (first | exact mp_o1981 l_3 e_20 c_15 | omega))) ?_))
        intro g_32 h_33
        have p_34 : mp_res g_32 300 6 0 0 5 := mp_res_st h_33 p_5 (by (first | exact mp_o1982 l_3 e_20 | omega)) (by (first | exact mp_o1983 e_28 e_20 e_25 | omega))
        have p_35 : mp_res g_32 300 6 1 0 5 := mp_res_st h_33 p_6 (by (first | exact mp_o1982 l_3 e_20 | omega)) (by (first | exact mp_o1984 e_29 e_20 e_25 | omega))
        have p_36 : mp_res g_32 300 6 3 0 99 := mp_res_st h_33 p_7 (by (first | exact mp_o1982 l_3 e_20 | omega)) (by (first | exact mp_o1985 e_30 e_20 e_25 | omega))
        have p_37 : mp_res g_32 300 6 4 0 1 := mp_res_st h_33 p_8 (by (first | exact mp_o1982 l_3 e_20 | omega)) (by (first | exact mp_o1986 e_31 e_20 e_25 | omega))
        show mp_W E X 5 25 [(4, .int i_1), (0, .ref a0), (1, .int 60), (2, .int 0), (3, .int 1)] [] [(mp_arI E a0 0 300 g_32)] 0 0
        refine mp_run mp_k_cX10_copyRow_ok hF mp_tabX10_ok [mp_c (.iinc 4 1) 1, mp_h (.goto (-25)) [3]] (by decide +kernel) ?_
        intro z_38 h_39
        have e_40 : z_38.toInt = i_1.toInt + 1 := mp_add (a := i_1.toInt) (b := 1) h_39 rfl (by decide) (by (first | exact mp_o2 l_3 | omega)) (by (first | exact mp_o480 c_15 | omega))
        show mp_W E X 5 3 [(4, .int z_38), (0, .ref a0), (1, .int 60), (2, .int 0), (3, .int 1)] [] [(mp_arI E a0 0 300 g_32)] 0 0
        exact mp_sub [0, 1, 2, 3, 4] rfl [0] rfl rfl (ih_13 (d_12 - 1) (by (first | exact mp_o1364 hm_14 c_15 | omega)) z_38 g_32 (by (first | exact mp_o51 l_3 e_40 | omega)) (by (first | exact mp_o481 c_15 e_40 | omega)) p_34 p_35 p_36 p_37 (mp_cpr_st (m := 60) h_33 h_27 x_9 (by (first | exact mp_o1987 l_3 e_20 | omega)) (by (first | exact mp_o1328 l_3 e_25 | omega)) (by (first | exact mp_o1988 | omega)) (by (first | exact mp_o1989 c_15 | omega)) (by (first | exact mp_o772 l_3 e_40 | omega))) (by (first | exact mp_o481 c_15 e_40 | omega)) (by (first | exact mp_o1990 hm_14 e_40 | omega)))
  exact mp_sub [0, 1, 2, 3, 4] rfl [0] rfl rfl (lp_11 _ 0 f0 (by decide) (by decide) p0 p1 p2 p3 (mp_cpr_0 (by decide)) (by decide) (Int.self_le_toNat _))
set_option maxHeartbeats 4000000 in
set_option maxRecDepth 100000 in
theorem bX10_copyRow_165 (E : mp_E) (a0 : Nat) (f0 : Nat → Int32) (p0 : mp_actm f0) : mp_Ct E yX10_copyRow cX10_copyRow 5 none 0 0 0 0 [.ref a0, .int 60, .int 0, .int 1] [(mp_arI E a0 0 300 f0)] (fun v w' => ∃ h1 : Nat → Int32, v = none ∧ mp_actm h1 ∧ (h1 = mp_cpr f0 0 60 60) ∧ w' = [(mp_arI E a0 0 300 h1)]) := by
  refine mp_met false (by decide) (by decide) (Nat.le_of_ble_eq_true rfl) (fun X hF hQ => ?_)
  have hF : mp_F E X (RX10, cX10_copyRow, 5, (0, 0, 0, 0), none, false) := hF
  show mp_W E X 5 0 [(0, .ref a0), (1, .int 60), (2, .int 0), (3, .int 1)] [] [(mp_arI E a0 0 300 f0)] 0 0
  refine mp_run mp_k_cX10_copyRow_ok hF mp_tabX10_ok [mp_c (.iconst 0) 0, mp_i (.istore 4)] (by decide +kernel) ?_
  show mp_W E X 5 3 [(4, .int 0), (0, .ref a0), (1, .int 60), (2, .int 0), (3, .int 1)] [] [(mp_arI E a0 0 300 f0)] 0 0
  have lp_8 : ∀ (d_9 : Nat) (i_1 : Int32) (g_2 : Nat → Int32), 0 ≤ i_1.toInt → i_1.toInt ≤ 60 → mp_actm g_2 → (g_2 = mp_cpr f0 0 60 i_1.toInt.toNat) → (i_1.toInt ≤ 60) → -(i_1.toInt) + 60 ≤ (d_9 : Int) → mp_W E X 5 3 [(4, .int i_1), (0, .ref a0), (1, .int 60), (2, .int 0), (3, .int 1)] [] [(mp_arI E a0 0 300 g_2)] 0 0 := by
    intro d_9
    induction d_9 using Nat.strongRecOn with
    | ind d_9 ih_10 =>
      intro i_1 g_2 l_3 u_4 p_5 x_6 x_7 hm_11
      refine mp_run mp_k_cX10_copyRow_ok hF mp_tabX10_ok [mp_i (.iload 4), mp_i (.iload_n 1), mp_h (.if_icmp .ge 25) [31]] (by decide +kernel) ?_
      refine And.intro (fun c_12 => ?_) (fun c_12 => ?_)
      · have c_12 : 60 ≤ i_1.toInt := c_12
        show mp_W E X 5 31 [(4, .int i_1), (0, .ref a0), (1, .int 60), (2, .int 0), (3, .int 1)] [] [(mp_arI E a0 0 300 g_2)] 0 0
        exact mp_vret hF hQ rfl (Nat.le_of_ble_eq_true rfl) (Nat.le_of_ble_eq_true rfl) [0] (w' := [(mp_arI E a0 0 300 g_2)]) rfl rfl ⟨g_2, rfl, p_5, (by rw [show i_1.toInt.toNat = 60 by (first | exact mp_o1357 c_12 u_4 | omega)] at x_6; exact x_6), rfl⟩ (by first | exact mp_fd_ok mp_k_cX10_copyRow_ok (by decide +kernel) | decide +kernel)
      · have c_12 : i_1.toInt < 60 := c_12
        show mp_W E X 5 9 [(4, .int i_1), (0, .ref a0), (1, .int 60), (2, .int 0), (3, .int 1)] [] [(mp_arI E a0 0 300 g_2)] 0 0
        refine mp_run mp_k_cX10_copyRow_ok hF mp_tabX10_ok [mp_i (.aload_n 0), mp_i (.iload_n 1), mp_i (.iload_n 3), mp_i .imul, mp_i (.iload 4), mp_i .iadd, mp_i (.aload_n 0), mp_i (.iload_n 1), mp_i (.iload_n 2), mp_i .imul, mp_i (.iload 4), mp_i .iadd, mp_h .iaload [0], mp_h .iastore [0]] (by decide +kernel) ?_
        intro z_13 h_14
        obtain rfl : z_13 = 60 := h_14.trans (by decide)
        intro z_15 h_16
        have e_17 : z_15.toInt = 60 + i_1.toInt := mp_add (a := 60) (b := i_1.toInt) h_16 (by decide) rfl (by (first | exact mp_o1976 l_3 | omega)) (by (first | exact mp_o1977 c_12 | omega))
        intro z_18 h_19
        obtain rfl : z_18 = 0 := h_19.trans (by decide)
        intro z_20 h_21
        have e_22 : z_20.toInt = 0 + i_1.toInt := mp_add (a := 0) (b := i_1.toInt) h_21 (by decide) rfl (by (first | exact mp_o1319 l_3 | omega)) (by (first | exact mp_o1978 c_12 | omega))
        refine And.intro rfl (And.intro rfl (And.intro (vp_in_iff.mpr (by (first | exact mp_o1979 l_3 e_22 c_12 | omega))) ?_))
        intro z_23 h_24
        have e_25 := mp_actm_ld h_24 p_5 (by (first | exact mp_o1341 l_3 e_22 | omega)) (by (first | exact mp_o1991 c_12 e_22 | omega))
        refine And.intro rfl (And.intro rfl (And.intro (vp_in_iff.mpr (by (first | exact mp_o1981 l_3 e_17 c_12 | omega))) ?_))
        intro g_26 h_27
        have p_28 : mp_actm g_26 := mp_actm_st h_27 p_5 (by (first | exact e_25 | omega))
        show mp_W E X 5 25 [(4, .int i_1), (0, .ref a0), (1, .int 60), (2, .int 0), (3, .int 1)] [] [(mp_arI E a0 0 300 g_26)] 0 0
        refine mp_run mp_k_cX10_copyRow_ok hF mp_tabX10_ok [mp_c (.iinc 4 1) 1, mp_h (.goto (-25)) [3]] (by decide +kernel) ?_
        intro z_29 h_30
        have e_31 : z_29.toInt = i_1.toInt + 1 := mp_add (a := i_1.toInt) (b := 1) h_30 rfl (by decide) (by (first | exact mp_o2 l_3 | omega)) (by (first | exact mp_o480 c_12 | omega))
        show mp_W E X 5 3 [(4, .int z_29), (0, .ref a0), (1, .int 60), (2, .int 0), (3, .int 1)] [] [(mp_arI E a0 0 300 g_26)] 0 0
        exact mp_sub [0, 1, 2, 3, 4] rfl [0] rfl rfl (ih_10 (d_9 - 1) (by (first | exact mp_o1364 hm_11 c_12 | omega)) z_29 g_26 (by (first | exact mp_o51 l_3 e_31 | omega)) (by (first | exact mp_o481 c_12 e_31 | omega)) p_28 (mp_cpr_st (m := 60) h_27 h_24 x_6 (by (first | exact mp_o1987 l_3 e_17 | omega)) (by (first | exact mp_o1328 l_3 e_22 | omega)) (by (first | exact mp_o1988 | omega)) (by (first | exact mp_o1989 c_12 | omega)) (by (first | exact mp_o772 l_3 e_31 | omega))) (by (first | exact mp_o481 c_12 e_31 | omega)) (by (first | exact mp_o1990 hm_11 e_31 | omega)))
  exact mp_sub [0, 1, 2, 3, 4] rfl [0] rfl rfl (lp_8 _ 0 f0 (by decide) (by decide) p0 (mp_cpr_0 (by decide)) (by decide) (Int.self_le_toNat _))
set_option maxHeartbeats 4000000 in
set_option maxRecDepth 100000 in
theorem bX10_copyIsles_166 (E : mp_E) (a0 a1 a2 a3 a4 a5 a6 a7 a8 a9 a10 a11 a12 a13 a14 a15 a16 a17 a18 a19 a20 a21 a22 a23 a24 a25 : Nat) (f0 : Nat → Int32) (f1 : Nat → Int32) (f2 : Nat → Int32) (f3 : Nat → Int32) (f4 : Nat → Int32) (f5 : Nat → Int32) (f6 : Nat → Int32) (y0 : Int32) (y1 : Int32) (y2 : Int32) (y3 : Int32) (y4 : Int32) (y5 : Int32) (y6 : Int64) (y7 : Int32) (y8 : Int32) (y9 : Int32) (y10 : Int32) (y11 : Int32) (y12 : Int32) (y13 : Int32) (y14 : Int32) (y15 : Int32) (y16 : Int32) (y17 : Int32) (y18 : Int32) (y19 : Int32) (y20 : Int32) (y21 : Int32) (p0 : mp_res f1 25 5 0 0 6) (p1 : mp_res f1 25 5 1 0 99) (p2 : mp_res f1 25 5 2 0 6) (p3 : mp_res f1 25 5 3 0 10) (p4 : mp_res f1 25 5 4 0 60) (p5 : mp_all f2 180 0 20) (p6 : mp_all f3 3000 0 1) (p7 : mp_res f4 90 3 0 0 5) (p8 : mp_res f4 90 3 1 (-1) 99) (p9 : mp_res f5 300 6 0 0 5) (p10 : mp_res f5 300 6 1 0 5) (p11 : mp_res f5 300 6 3 0 99) (p12 : mp_res f5 300 6 4 0 1) (p13 : mp_actm f6) (l_y1 : 0 ≤ y1.toInt) (u_y1 : y1.toInt ≤ 1600) (l_y2 : 0 ≤ y2.toInt) (u_y2 : y2.toInt ≤ 1600) (l_y3 : 0 ≤ y3.toInt) (u_y3 : y3.toInt ≤ 4) (l_y4 : 0 ≤ y4.toInt) (u_y4 : y4.toInt ≤ 1600) (l_y11 : 0 ≤ y11.toInt) (u_y11 : y11.toInt ≤ 99) (l_y12 : 0 ≤ y12.toInt) (u_y12 : y12.toInt ≤ 5) (l_y13 : 0 ≤ y13.toInt) (u_y13 : y13.toInt ≤ 12) : mp_Ct E yX10_copyIsles cX10_copyIsles 4 none 1 0 0 24 [.ref a0, .int 0, .int 1] [(mp_ob10 a0 y0 a8 a9 a10 a11 a12 y1 y2 y3 y4 y5 y6 y7 y8 y9 y10 a1 a2 a3 a4 a5 a6 a7 a13 y11 a14 a15 a16 a17 y12 y13 y14 a18 a19 y15 y16 a20 a21 a22 y17 y18 y19 y20 a23 a24 a25 y21), (mp_arI E a1 0 5 f0), (mp_arI E a2 0 25 f1), (mp_arI E a3 0 180 f2), (mp_arI E a4 3 3000 f3), (mp_arI E a5 0 90 f4), (mp_arI E a6 0 300 f5), (mp_arI E a7 0 300 f6)] (fun v w' => ∃ h1 : Nat → Int32, ∃ h2 : Nat → Int32, ∃ h3 : Nat → Int32, ∃ h4 : Nat → Int32, ∃ h5 : Nat → Int32, ∃ h6 : Nat → Int32, ∃ h7 : Nat → Int32, v = none ∧ mp_res h2 25 5 0 0 6 ∧ mp_res h2 25 5 1 0 99 ∧ mp_res h2 25 5 2 0 6 ∧ mp_res h2 25 5 3 0 10 ∧ mp_res h2 25 5 4 0 60 ∧ mp_all h3 180 0 20 ∧ mp_all h4 3000 0 1 ∧ mp_res h5 90 3 0 0 5 ∧ mp_res h5 90 3 1 (-1) 99 ∧ mp_res h6 300 6 0 0 5 ∧ mp_res h6 300 6 1 0 5 ∧ mp_res h6 300 6 3 0 99 ∧ mp_res h6 300 6 4 0 1 ∧ mp_actm h7 ∧ (h1 = mp_cpr f0 0 1 1) ∧ (h2 = mp_cpr f1 0 5 5) ∧ (h3 = mp_cpr f2 0 36 36) ∧ (h5 = mp_cpr f4 0 18 18) ∧ (h6 = mp_cpr f5 0 60 60) ∧ (h7 = mp_cpr f6 0 60 60) ∧ (h4 = mp_cpr f3 0 600 600) ∧ w' = [(mp_ob10 a0 y0 a8 a9 a10 a11 a12 y1 y2 y3 y4 y5 y6 y7 y8 y9 y10 a1 a2 a3 a4 a5 a6 a7 a13 y11 a14 a15 a16 a17 y12 y13 y14 a18 a19 y15 y16 a20 a21 a22 y17 y18 y19 y20 a23 a24 a25 y21), (mp_arI E a1 0 5 h1), (mp_arI E a2 0 25 h2), (mp_arI E a3 0 180 h3), (mp_arI E a4 3 3000 h4), (mp_arI E a5 0 90 h5), (mp_arI E a6 0 300 h6), (mp_arI E a7 0 300 h7)]) := by
  refine mp_met false (by decide) (by decide) (Nat.le_of_ble_eq_true rfl) (fun X hF hQ => ?_)
  have hF : mp_F E X (RX10, cX10_copyIsles, 4, (1, 0, 0, 24), none, false) := hF
  let w1_ : va_W := [(mp_ob10 a0 y0 a8 a9 a10 a11 a12 y1 y2 y3 y4 y5 y6 y7 y8 y9 y10 a1 a2 a3 a4 a5 a6 a7 a13 y11 a14 a15 a16 a17 y12 y13 y14 a18 a19 y15 y16 a20 a21 a22 y17 y18 y19 y20 a23 a24 a25 y21), (mp_arI E a1 0 5 f0), (mp_arI E a2 0 25 f1), (mp_arI E a3 0 180 f2), (mp_arI E a4 3 3000 f3), (mp_arI E a5 0 90 f4), (mp_arI E a6 0 300 f5), (mp_arI E a7 0 300 f6)]
  show mp_W E X 4 0 [(0, .ref a0), (1, .int 0), (2, .int 1)] [] w1_ 0 0
  refine mp_run mp_k_cX10_copyIsles_ok hF mp_tabX10_ok [mp_i (.aload_n 0), mp_h (.getfield 31) [16, 0], mp_c (.iconst 1) 1, mp_i (.iload_n 1), mp_i (.iload_n 2)] (by decide +kernel) ?_
  refine And.intro rfl (And.intro rfl ?_)
  show mp_W E X 4 7 [(0, .ref a0), (1, .int 0), (2, .int 1)] [.int 1, .int 0, .int 1, .ref a1] w1_ 0 0
  refine mp_callS hF (As := [.ref a1, .int 1, .int 0, .int 1]) (rest := []) (wr := [(mp_ob10 a0 y0 a8 a9 a10 a11 a12 y1 y2 y3 y4 y5 y6 y7 y8 y9 y10 a1 a2 a3 a4 a5 a6 a7 a13 y11 a14 a15 a16 a17 y12 y13 y14 a18 a19 y15 y16 a20 a21 a22 y17 y18 y19 y20 a23 a24 a25 y21), (mp_arI E a2 0 25 f1), (mp_arI E a3 0 180 f2), (mp_arI E a4 3 3000 f3), (mp_arI E a5 0 90 f4), (mp_arI E a6 0 300 f5), (mp_arI E a7 0 300 f6)]) (bX10_copyRow_160 E a1 f0) mp_lkX10_251 [1] [0, 2, 3, 4, 5, 6, 7] rfl rfl rfl rfl rfl ⟨(Nat.le_of_ble_eq_true rfl), (Nat.le_of_ble_eq_true rfl), (Nat.le_of_ble_eq_true rfl), (Nat.le_of_ble_eq_true rfl)⟩ (Nat.le_of_ble_eq_true rfl) (by first | exact mp_fd_ok mp_k_cX10_copyIsles_ok (by decide +kernel) | decide +kernel) (fun v_1 w_2 h_3 => ?_)
  obtain ⟨g_4, rfl, x_5, rfl⟩ := h_3
  let w2_ : va_W := [(mp_ob10 a0 y0 a8 a9 a10 a11 a12 y1 y2 y3 y4 y5 y6 y7 y8 y9 y10 a1 a2 a3 a4 a5 a6 a7 a13 y11 a14 a15 a16 a17 y12 y13 y14 a18 a19 y15 y16 a20 a21 a22 y17 y18 y19 y20 a23 a24 a25 y21), (mp_arI E a2 0 25 f1), (mp_arI E a3 0 180 f2), (mp_arI E a4 3 3000 f3), (mp_arI E a5 0 90 f4), (mp_arI E a6 0 300 f5), (mp_arI E a7 0 300 f6), (mp_arI E a1 0 5 g_4)]
  show mp_W E X 4 10 [(0, .ref a0), (1, .int 0), (2, .int 1)] [] w2_ 0 0
  refine mp_run mp_k_cX10_copyIsles_ok hF mp_tabX10_ok [mp_i (.aload_n 0), mp_h (.getfield 34) [17, 0], mp_c (.iconst 5) 5, mp_i (.iload_n 1), mp_i (.iload_n 2)] (by decide +kernel) ?_
  refine And.intro rfl (And.intro rfl ?_)
  show mp_W E X 4 17 [(0, .ref a0), (1, .int 0), (2, .int 1)] [.int 1, .int 0, .int 5, .ref a2] w2_ 0 0
  refine mp_callS hF (As := [.ref a2, .int 5, .int 0, .int 1]) (rest := []) (wr := [(mp_ob10 a0 y0 a8 a9 a10 a11 a12 y1 y2 y3 y4 y5 y6 y7 y8 y9 y10 a1 a2 a3 a4 a5 a6 a7 a13 y11 a14 a15 a16 a17 y12 y13 y14 a18 a19 y15 y16 a20 a21 a22 y17 y18 y19 y20 a23 a24 a25 y21), (mp_arI E a3 0 180 f2), (mp_arI E a4 3 3000 f3), (mp_arI E a5 0 90 f4), (mp_arI E a6 0 300 f5), (mp_arI E a7 0 300 f6), (mp_arI E a1 0 5 g_4)]) (bX10_copyRow_161 E a2 f1 p0 p1 p2 p3 p4) mp_lkX10_251 [1] [0, 2, 3, 4, 5, 6, 7] rfl rfl rfl rfl rfl ⟨(Nat.le_of_ble_eq_true rfl), (Nat.le_of_ble_eq_true rfl), (Nat.le_of_ble_eq_true rfl), (Nat.le_of_ble_eq_true rfl)⟩ (Nat.le_of_ble_eq_true rfl) (by first | exact mp_fd_ok mp_k_cX10_copyIsles_ok (by decide +kernel) | decide +kernel) (fun v_6 w_7 h_8 => ?_)
  refine h_8.elim fun g_9 q_16 => q_16.elim fun e_17 q_18 => q_18.elim fun p_10 q_19 => q_19.elim fun p_11 q_20 => q_20.elim fun p_12 q_21 => q_21.elim fun p_13 q_22 => q_22.elim fun p_14 q_23 => q_23.elim fun x_15 e_24 => ?_
  clear h_8 q_16 q_18 q_19 q_20 q_21 q_22 q_23
  subst e_17
  subst e_24
  let w3_ : va_W := [(mp_ob10 a0 y0 a8 a9 a10 a11 a12 y1 y2 y3 y4 y5 y6 y7 y8 y9 y10 a1 a2 a3 a4 a5 a6 a7 a13 y11 a14 a15 a16 a17 y12 y13 y14 a18 a19 y15 y16 a20 a21 a22 y17 y18 y19 y20 a23 a24 a25 y21), (mp_arI E a3 0 180 f2), (mp_arI E a4 3 3000 f3), (mp_arI E a5 0 90 f4), (mp_arI E a6 0 300 f5), (mp_arI E a7 0 300 f6), (mp_arI E a1 0 5 g_4), (mp_arI E a2 0 25 g_9)]
  show mp_W E X 4 20 [(0, .ref a0), (1, .int 0), (2, .int 1)] [] w3_ 0 0
  refine mp_run mp_k_cX10_copyIsles_ok hF mp_tabX10_ok [mp_i (.aload_n 0), mp_h (.getfield 37) [18, 0], mp_c (.bipush 36) 36, mp_i (.iload_n 1), mp_i (.iload_n 2)] (by decide +kernel) ?_
  refine And.intro rfl (And.intro rfl ?_)
  show mp_W E X 4 28 [(0, .ref a0), (1, .int 0), (2, .int 1)] [.int 1, .int 0, .int 36, .ref a3] w3_ 0 0
  refine mp_callS hF (As := [.ref a3, .int 36, .int 0, .int 1]) (rest := []) (wr := [(mp_ob10 a0 y0 a8 a9 a10 a11 a12 y1 y2 y3 y4 y5 y6 y7 y8 y9 y10 a1 a2 a3 a4 a5 a6 a7 a13 y11 a14 a15 a16 a17 y12 y13 y14 a18 a19 y15 y16 a20 a21 a22 y17 y18 y19 y20 a23 a24 a25 y21), (mp_arI E a4 3 3000 f3), (mp_arI E a5 0 90 f4), (mp_arI E a6 0 300 f5), (mp_arI E a7 0 300 f6), (mp_arI E a1 0 5 g_4), (mp_arI E a2 0 25 g_9)]) (bX10_copyRow_162 E a3 f2 p5) mp_lkX10_251 [1] [0, 2, 3, 4, 5, 6, 7] rfl rfl rfl rfl rfl ⟨(Nat.le_of_ble_eq_true rfl), (Nat.le_of_ble_eq_true rfl), (Nat.le_of_ble_eq_true rfl), (Nat.le_of_ble_eq_true rfl)⟩ (Nat.le_of_ble_eq_true rfl) (by first | exact mp_fd_ok mp_k_cX10_copyIsles_ok (by decide +kernel) | decide +kernel) (fun v_25 w_26 h_27 => ?_)
  obtain ⟨g_28, rfl, p_29, x_30, rfl⟩ := h_27
  let w4_ : va_W := [(mp_ob10 a0 y0 a8 a9 a10 a11 a12 y1 y2 y3 y4 y5 y6 y7 y8 y9 y10 a1 a2 a3 a4 a5 a6 a7 a13 y11 a14 a15 a16 a17 y12 y13 y14 a18 a19 y15 y16 a20 a21 a22 y17 y18 y19 y20 a23 a24 a25 y21), (mp_arI E a4 3 3000 f3), (mp_arI E a5 0 90 f4), (mp_arI E a6 0 300 f5), (mp_arI E a7 0 300 f6), (mp_arI E a1 0 5 g_4), (mp_arI E a2 0 25 g_9), (mp_arI E a3 0 180 g_28)]
  show mp_W E X 4 31 [(0, .ref a0), (1, .int 0), (2, .int 1)] [] w4_ 0 0
  refine mp_run mp_k_cX10_copyIsles_ok hF mp_tabX10_ok [mp_c (.iconst 0) 0, mp_i (.istore_n 3)] (by decide +kernel) ?_
  show mp_W E X 4 33 [(3, .int 0), (0, .ref a0), (1, .int 0), (2, .int 1)] [] w4_ 0 0
  have lp_39 : ∀ (d_40 : Nat) (i_31 : Int32) (g_32 : Nat → Int32), 0 ≤ i_31.toInt → i_31.toInt ≤ 600 → mp_all g_32 3000 0 1 → (g_32 = mp_cpr f3 0 600 i_31.toInt.toNat) → (i_31.toInt ≤ 600) → (0 ≤ i_31.toInt) → -(i_31.toInt) + 600 ≤ (d_40 : Int) → mp_W E X 4 33 [(3, .int i_31), (0, .ref a0), (1, .int 0), (2, .int 1)] [] [(mp_ob10 a0 y0 a8 a9 a10 a11 a12 y1 y2 y3 y4 y5 y6 y7 y8 y9 y10 a1 a2 a3 a4 a5 a6 a7 a13 y11 a14 a15 a16 a17 y12 y13 y14 a18 a19 y15 y16 a20 a21 a22 y17 y18 y19 y20 a23 a24 a25 y21), (mp_arI E a4 3 3000 g_32), (mp_arI E a5 0 90 f4), (mp_arI E a6 0 300 f5), (mp_arI E a7 0 300 f6), (mp_arI E a1 0 5 g_4), (mp_arI E a2 0 25 g_9), (mp_arI E a3 0 180 g_28)] 0 0 := by
    intro d_40
    induction d_40 using Nat.strongRecOn with
    | ind d_40 ih_41 =>
      intro i_31 g_32 l_33 u_34 p_35 x_36 x_37 x_38 hm_42
      refine mp_run mp_k_cX10_copyIsles_ok hF mp_tabX10_ok [mp_i (.iload_n 3), mp_c (.sipush 600) 600, mp_h (.if_icmp .ge 33) [70]] (by decide +kernel) ?_
      refine And.intro (fun c_43 => ?_) (fun c_43 => ?_)
      · have c_43 : 600 ≤ i_31.toInt := c_43
        let w5_ : va_W := [(mp_ob10 a0 y0 a8 a9 a10 a11 a12 y1 y2 y3 y4 y5 y6 y7 y8 y9 y10 a1 a2 a3 a4 a5 a6 a7 a13 y11 a14 a15 a16 a17 y12 y13 y14 a18 a19 y15 y16 a20 a21 a22 y17 y18 y19 y20 a23 a24 a25 y21), (mp_arI E a4 3 3000 g_32), (mp_arI E a5 0 90 f4), (mp_arI E a6 0 300 f5), (mp_arI E a7 0 300 f6), (mp_arI E a1 0 5 g_4), (mp_arI E a2 0 25 g_9), (mp_arI E a3 0 180 g_28)]
        show mp_W E X 4 70 [(3, .int i_31), (0, .ref a0), (1, .int 0), (2, .int 1)] [] w5_ 0 0
        refine mp_run mp_k_cX10_copyIsles_ok hF mp_tabX10_ok [mp_i (.aload_n 0), mp_h (.getfield 44) [20, 0], mp_c (.bipush 18) 18, mp_i (.iload_n 1), mp_i (.iload_n 2)] (by decide +kernel) ?_
        refine And.intro rfl (And.intro rfl ?_)
        show mp_W E X 4 78 [(3, .int i_31), (0, .ref a0), (1, .int 0), (2, .int 1)] [.int 1, .int 0, .int 18, .ref a5] w5_ 0 0
        refine mp_callS hF (As := [.ref a5, .int 18, .int 0, .int 1]) (rest := []) (wr := [(mp_ob10 a0 y0 a8 a9 a10 a11 a12 y1 y2 y3 y4 y5 y6 y7 y8 y9 y10 a1 a2 a3 a4 a5 a6 a7 a13 y11 a14 a15 a16 a17 y12 y13 y14 a18 a19 y15 y16 a20 a21 a22 y17 y18 y19 y20 a23 a24 a25 y21), (mp_arI E a4 3 3000 g_32), (mp_arI E a6 0 300 f5), (mp_arI E a7 0 300 f6), (mp_arI E a1 0 5 g_4), (mp_arI E a2 0 25 g_9), (mp_arI E a3 0 180 g_28)]) (bX10_copyRow_163 E a5 f4 p7 p8) mp_lkX10_251 [2] [0, 1, 3, 4, 5, 6, 7] rfl rfl rfl rfl rfl ⟨(Nat.le_of_ble_eq_true rfl), (Nat.le_of_ble_eq_true rfl), (Nat.le_of_ble_eq_true rfl), (Nat.le_of_ble_eq_true rfl)⟩ (Nat.le_of_ble_eq_true rfl) (by first | exact mp_fd_ok mp_k_cX10_copyIsles_ok (by decide +kernel) | decide +kernel) (fun v_44 w_45 h_46 => ?_)
        refine h_46.elim fun g_47 q_51 => q_51.elim fun e_52 q_53 => q_53.elim fun p_48 q_54 => q_54.elim fun p_49 q_55 => q_55.elim fun x_50 e_56 => ?_
        clear h_46 q_51 q_53 q_54 q_55
        subst e_52
        subst e_56
        let w6_ : va_W := [(mp_ob10 a0 y0 a8 a9 a10 a11 a12 y1 y2 y3 y4 y5 y6 y7 y8 y9 y10 a1 a2 a3 a4 a5 a6 a7 a13 y11 a14 a15 a16 a17 y12 y13 y14 a18 a19 y15 y16 a20 a21 a22 y17 y18 y19 y20 a23 a24 a25 y21), (mp_arI E a4 3 3000 g_32), (mp_arI E a6 0 300 f5), (mp_arI E a7 0 300 f6), (mp_arI E a1 0 5 g_4), (mp_arI E a2 0 25 g_9), (mp_arI E a3 0 180 g_28), (mp_arI E a5 0 90 g_47)]
        show mp_W E X 4 81 [(3, .int i_31), (0, .ref a0), (1, .int 0), (2, .int 1)] [] w6_ 0 0
        refine mp_run mp_k_cX10_copyIsles_ok hF mp_tabX10_ok [mp_i (.aload_n 0), mp_h (.getfield 47) [21, 0], mp_c (.bipush 60) 60, mp_i (.iload_n 1), mp_i (.iload_n 2)] (by decide +kernel) ?_
        refine And.intro rfl (And.intro rfl ?_)
        show mp_W E X 4 89 [(3, .int i_31), (0, .ref a0), (1, .int 0), (2, .int 1)] [.int 1, .int 0, .int 60, .ref a6] w6_ 0 0
        refine mp_callS hF (As := [.ref a6, .int 60, .int 0, .int 1]) (rest := []) (wr := [(mp_ob10 a0 y0 a8 a9 a10 a11 a12 y1 y2 y3 y4 y5 y6 y7 y8 y9 y10 a1 a2 a3 a4 a5 a6 a7 a13 y11 a14 a15 a16 a17 y12 y13 y14 a18 a19 y15 y16 a20 a21 a22 y17 y18 y19 y20 a23 a24 a25 y21), (mp_arI E a4 3 3000 g_32), (mp_arI E a7 0 300 f6), (mp_arI E a1 0 5 g_4), (mp_arI E a2 0 25 g_9), (mp_arI E a3 0 180 g_28), (mp_arI E a5 0 90 g_47)]) (bX10_copyRow_164 E a6 f5 p9 p10 p11 p12) mp_lkX10_251 [2] [0, 1, 3, 4, 5, 6, 7] rfl rfl rfl rfl rfl ⟨(Nat.le_of_ble_eq_true rfl), (Nat.le_of_ble_eq_true rfl), (Nat.le_of_ble_eq_true rfl), (Nat.le_of_ble_eq_true rfl)⟩ (Nat.le_of_ble_eq_true rfl) (by first | exact mp_fd_ok mp_k_cX10_copyIsles_ok (by decide +kernel) | decide +kernel) (fun v_57 w_58 h_59 => ?_)
        refine h_59.elim fun g_60 q_66 => q_66.elim fun e_67 q_68 => q_68.elim fun p_61 q_69 => q_69.elim fun p_62 q_70 => q_70.elim fun p_63 q_71 => q_71.elim fun p_64 q_72 => q_72.elim fun x_65 e_73 => ?_
        clear h_59 q_66 q_68 q_69 q_70 q_71 q_72
        subst e_67
        subst e_73
        let w7_ : va_W := [(mp_ob10 a0 y0 a8 a9 a10 a11 a12 y1 y2 y3 y4 y5 y6 y7 y8 y9 y10 a1 a2 a3 a4 a5 a6 a7 a13 y11 a14 a15 a16 a17 y12 y13 y14 a18 a19 y15 y16 a20 a21 a22 y17 y18 y19 y20 a23 a24 a25 y21), (mp_arI E a4 3 3000 g_32), (mp_arI E a7 0 300 f6), (mp_arI E a1 0 5 g_4), (mp_arI E a2 0 25 g_9), (mp_arI E a3 0 180 g_28), (mp_arI E a5 0 90 g_47), (mp_arI E a6 0 300 g_60)]
        show mp_W E X 4 92 [(3, .int i_31), (0, .ref a0), (1, .int 0), (2, .int 1)] [] w7_ 0 0
        refine mp_run mp_k_cX10_copyIsles_ok hF mp_tabX10_ok [mp_i (.aload_n 0), mp_h (.getfield 50) [22, 0], mp_c (.bipush 60) 60, mp_i (.iload_n 1), mp_i (.iload_n 2)] (by decide +kernel) ?_
        refine And.intro rfl (And.intro rfl ?_)
        show mp_W E X 4 100 [(3, .int i_31), (0, .ref a0), (1, .int 0), (2, .int 1)] [.int 1, .int 0, .int 60, .ref a7] w7_ 0 0
        refine mp_callS hF (As := [.ref a7, .int 60, .int 0, .int 1]) (rest := []) (wr := [(mp_ob10 a0 y0 a8 a9 a10 a11 a12 y1 y2 y3 y4 y5 y6 y7 y8 y9 y10 a1 a2 a3 a4 a5 a6 a7 a13 y11 a14 a15 a16 a17 y12 y13 y14 a18 a19 y15 y16 a20 a21 a22 y17 y18 y19 y20 a23 a24 a25 y21), (mp_arI E a4 3 3000 g_32), (mp_arI E a1 0 5 g_4), (mp_arI E a2 0 25 g_9), (mp_arI E a3 0 180 g_28), (mp_arI E a5 0 90 g_47), (mp_arI E a6 0 300 g_60)]) (bX10_copyRow_165 E a7 f6 p13) mp_lkX10_251 [2] [0, 1, 3, 4, 5, 6, 7] rfl rfl rfl rfl rfl ⟨(Nat.le_of_ble_eq_true rfl), (Nat.le_of_ble_eq_true rfl), (Nat.le_of_ble_eq_true rfl), (Nat.le_of_ble_eq_true rfl)⟩ (Nat.le_of_ble_eq_true rfl) (by first | exact mp_fd_ok mp_k_cX10_copyIsles_ok (by decide +kernel) | decide +kernel) (fun v_74 w_75 h_76 => ?_)
        obtain ⟨g_77, rfl, p_78, x_79, rfl⟩ := h_76
        let w8_ : va_W := [(mp_ob10 a0 y0 a8 a9 a10 a11 a12 y1 y2 y3 y4 y5 y6 y7 y8 y9 y10 a1 a2 a3 a4 a5 a6 a7 a13 y11 a14 a15 a16 a17 y12 y13 y14 a18 a19 y15 y16 a20 a21 a22 y17 y18 y19 y20 a23 a24 a25 y21), (mp_arI E a4 3 3000 g_32), (mp_arI E a1 0 5 g_4), (mp_arI E a2 0 25 g_9), (mp_arI E a3 0 180 g_28), (mp_arI E a5 0 90 g_47), (mp_arI E a6 0 300 g_60), (mp_arI E a7 0 300 g_77)]
        show mp_W E X 4 103 [(3, .int i_31), (0, .ref a0), (1, .int 0), (2, .int 1)] [] w8_ 0 0
        exact mp_vret hF hQ rfl (Nat.le_of_ble_eq_true rfl) (Nat.le_of_ble_eq_true rfl) [0, 2, 3, 4, 1, 5, 6, 7] (w' := [(mp_ob10 a0 y0 a8 a9 a10 a11 a12 y1 y2 y3 y4 y5 y6 y7 y8 y9 y10 a1 a2 a3 a4 a5 a6 a7 a13 y11 a14 a15 a16 a17 y12 y13 y14 a18 a19 y15 y16 a20 a21 a22 y17 y18 y19 y20 a23 a24 a25 y21), (mp_arI E a1 0 5 g_4), (mp_arI E a2 0 25 g_9), (mp_arI E a3 0 180 g_28), (mp_arI E a4 3 3000 g_32), (mp_arI E a5 0 90 g_47), (mp_arI E a6 0 300 g_60), (mp_arI E a7 0 300 g_77)]) rfl rfl ⟨g_4, g_9, g_28, g_32, g_47, g_60, g_77, rfl, p_10, p_11, p_12, p_13, p_14, p_29, p_35, p_48, p_49, p_61, p_62, p_63, p_64, p_78, x_5, x_15, x_30, x_50, x_65, x_79, (by have k9 := x_36; rw [show i_31.toInt.toNat = 600 by (first | exact mp_o1366 c_43 u_34 | omega)] at k9; exact k9), rfl⟩ (by first | exact mp_fd_ok mp_k_cX10_copyIsles_ok (by decide +kernel) | decide +kernel)
      · have c_43 : i_31.toInt < 600 := c_43
        let w9_ : va_W := [(mp_ob10 a0 y0 a8 a9 a10 a11 a12 y1 y2 y3 y4 y5 y6 y7 y8 y9 y10 a1 a2 a3 a4 a5 a6 a7 a13 y11 a14 a15 a16 a17 y12 y13 y14 a18 a19 y15 y16 a20 a21 a22 y17 y18 y19 y20 a23 a24 a25 y21), (mp_arI E a4 3 3000 g_32), (mp_arI E a5 0 90 f4), (mp_arI E a6 0 300 f5), (mp_arI E a7 0 300 f6), (mp_arI E a1 0 5 g_4), (mp_arI E a2 0 25 g_9), (mp_arI E a3 0 180 g_28)]
        show mp_W E X 4 40 [(3, .int i_31), (0, .ref a0), (1, .int 0), (2, .int 1)] [] w9_ 0 0
        refine mp_run mp_k_cX10_copyIsles_ok hF mp_tabX10_ok [mp_i (.aload_n 0), mp_h (.getfield 40) [19, 0], mp_c (.sipush 600) 600, mp_i (.iload_n 2), mp_i .imul, mp_i (.iload_n 3), mp_i .iadd, mp_i (.aload_n 0), mp_h (.getfield 40) [19, 0], mp_c (.sipush 600) 600, mp_i (.iload_n 1), mp_i .imul, mp_i (.iload_n 3), mp_i .iadd, mp_h .baload [1, 0], mp_h .bastore [1, 0]] (by decide +kernel) ?_
        refine And.intro rfl (And.intro rfl ?_)
        intro z_80 h_81
        obtain rfl : z_80 = 600 := h_81.trans (by decide)
        intro z_82 h_83
        have e_84 : z_82.toInt = 600 + i_31.toInt := mp_add (a := 600) (b := i_31.toInt) h_83 (by decide) rfl (by (first | exact mp_o1992 l_33 | omega)) (by (first | exact mp_o1993 c_43 | omega))
        refine And.intro rfl (And.intro rfl ?_)
        intro z_85 h_86
        obtain rfl : z_85 = 0 := h_86.trans (by decide)
        intro z_87 h_88
        have e_89 : z_87.toInt = 0 + i_31.toInt := mp_add (a := 0) (b := i_31.toInt) h_88 (by decide) rfl (by (first | exact mp_o1319 l_33 | omega)) (by (first | exact mp_o1367 c_43 | omega))
        refine And.intro rfl (And.intro rfl (And.intro (vp_in_iff.mpr (by (first | exact mp_o1370 l_33 e_89 c_43 | omega))) ?_))
        intro z_90 h_91
        have e_92 : 0 ≤ z_90.toInt ∧ z_90.toInt ≤ 1 := mp_all_ld h_91 p_35 (by (first | exact mp_o1341 l_33 e_89 | omega)) (by (first | exact mp_o1994 c_43 e_89 | omega))
        refine And.intro rfl (And.intro rfl (And.intro (vp_in_iff.mpr (by (first | exact mp_o1995 l_33 e_84 c_43 | omega))) ?_))
        intro g_93 h_94
        have h_95 : g_93 = upd g_32 z_82.toNatClampNeg z_90 := h_94.trans (congrArg (upd _ _) (mp_narb (by (first | exact mp_o1371 e_92 | omega)) (by (first | exact mp_o1372 e_92 | omega))))
        have p_96 : mp_all g_93 3000 0 1 := mp_all_st h_95 p_35 e_92.1 e_92.2
        let w10_ : va_W := [(mp_ob10 a0 y0 a8 a9 a10 a11 a12 y1 y2 y3 y4 y5 y6 y7 y8 y9 y10 a1 a2 a3 a4 a5 a6 a7 a13 y11 a14 a15 a16 a17 y12 y13 y14 a18 a19 y15 y16 a20 a21 a22 y17 y18 y19 y20 a23 a24 a25 y21), (mp_arI E a4 3 3000 g_93), (mp_arI E a5 0 90 f4), (mp_arI E a6 0 300 f5), (mp_arI E a7 0 300 f6), (mp_arI E a1 0 5 g_4), (mp_arI E a2 0 25 g_9), (mp_arI E a3 0 180 g_28)]
        show mp_W E X 4 64 [(3, .int i_31), (0, .ref a0), (1, .int 0), (2, .int 1)] [] w10_ 0 0
        refine mp_run mp_k_cX10_copyIsles_ok hF mp_tabX10_ok [mp_c (.iinc 3 1) 1, mp_h (.goto (-34)) [33]] (by decide +kernel) ?_
        intro z_97 h_98
        have e_99 : z_97.toInt = i_31.toInt + 1 := mp_add (a := i_31.toInt) (b := 1) h_98 rfl (by decide) (by (first | exact mp_o2 l_33 | omega)) (by (first | exact mp_o976 c_43 | omega))
        show mp_W E X 4 33 [(3, .int z_97), (0, .ref a0), (1, .int 0), (2, .int 1)] [] w10_ 0 0
        exact mp_sub [0, 1, 2, 3] rfl [0, 1, 2, 3, 4, 5, 6, 7] rfl rfl (ih_41 (d_40 - 1) (by (first | exact mp_o977 hm_42 c_43 | omega)) z_97 g_93 (by (first | exact mp_o51 l_33 e_99 | omega)) (by (first | exact mp_o978 c_43 e_99 | omega)) p_96 (mp_cpr_st (m := 600) h_95 h_91 x_36 (by (first | exact mp_o1996 l_33 e_84 | omega)) (by (first | exact mp_o1328 l_33 e_89 | omega)) (by (first | exact mp_o1997 | omega)) (by (first | exact mp_o1375 c_43 | omega)) (by (first | exact mp_o772 l_33 e_99 | omega))) (by (first | exact mp_o978 c_43 e_99 | omega)) (by (first | exact mp_o51 l_33 e_99 | omega)) (by (first | exact mp_o979 hm_42 e_99 | omega)))
  exact mp_sub [0, 1, 2, 3] rfl [0, 1, 2, 3, 4, 5, 6, 7] rfl rfl (lp_39 _ 0 f3 (by decide) (by decide) p6 (mp_cpr_0 (by decide)) (by decide) (by decide) (Int.self_le_toNat _))
set_option maxHeartbeats 4000000 in
set_option maxRecDepth 100000 in
theorem bX10_copyRow_167 (E : mp_E) (a0 : Nat) (f0 : Nat → Int32) : mp_Ct E yX10_copyRow cX10_copyRow 5 none 0 0 0 0 [.ref a0, .int 1, .int 0, .int 2] [(mp_arI E a0 0 5 f0)] (fun v w' => ∃ h1 : Nat → Int32, v = none ∧ (h1 = mp_cpr f0 0 2 1) ∧ w' = [(mp_arI E a0 0 5 h1)]) := by
  refine mp_met false (by decide) (by decide) (Nat.le_of_ble_eq_true rfl) (fun X hF hQ => ?_)
  have hF : mp_F E X (RX10, cX10_copyRow, 5, (0, 0, 0, 0), none, false) := hF
  show mp_W E X 5 0 [(0, .ref a0), (1, .int 1), (2, .int 0), (3, .int 2)] [] [(mp_arI E a0 0 5 f0)] 0 0
  refine mp_run mp_k_cX10_copyRow_ok hF mp_tabX10_ok [mp_c (.iconst 0) 0, mp_i (.istore 4)] (by decide +kernel) ?_
  show mp_W E X 5 3 [(4, .int 0), (0, .ref a0), (1, .int 1), (2, .int 0), (3, .int 2)] [] [(mp_arI E a0 0 5 f0)] 0 0
  have lp_7 : ∀ (d_8 : Nat) (i_1 : Int32) (g_2 : Nat → Int32), 0 ≤ i_1.toInt → i_1.toInt ≤ 1 → (g_2 = mp_cpr f0 0 2 i_1.toInt.toNat) → (i_1.toInt ≤ 1) → -(i_1.toInt) + 1 ≤ (d_8 : Int) → mp_W E X 5 3 [(4, .int i_1), (0, .ref a0), (1, .int 1), (2, .int 0), (3, .int 2)] [] [(mp_arI E a0 0 5 g_2)] 0 0 := by
    intro d_8
    induction d_8 using Nat.strongRecOn with
    | ind d_8 ih_9 =>
      intro i_1 g_2 l_3 u_4 x_5 x_6 hm_10
      refine mp_run mp_k_cX10_copyRow_ok hF mp_tabX10_ok [mp_i (.iload 4), mp_i (.iload_n 1), mp_h (.if_icmp .ge 25) [31]] (by decide +kernel) ?_
      refine And.intro (fun c_11 => ?_) (fun c_11 => ?_)
      · have c_11 : 1 ≤ i_1.toInt := c_11
        show mp_W E X 5 31 [(4, .int i_1), (0, .ref a0), (1, .int 1), (2, .int 0), (3, .int 2)] [] [(mp_arI E a0 0 5 g_2)] 0 0
        exact mp_vret hF hQ rfl (Nat.le_of_ble_eq_true rfl) (Nat.le_of_ble_eq_true rfl) [0] (w' := [(mp_arI E a0 0 5 g_2)]) rfl rfl ⟨g_2, rfl, (by rw [show i_1.toInt.toNat = 1 by (first | exact mp_o1318 c_11 u_4 | omega)] at x_5; exact x_5), rfl⟩ (by first | exact mp_fd_ok mp_k_cX10_copyRow_ok (by decide +kernel) | decide +kernel)
      · have c_11 : i_1.toInt < 1 := c_11
        show mp_W E X 5 9 [(4, .int i_1), (0, .ref a0), (1, .int 1), (2, .int 0), (3, .int 2)] [] [(mp_arI E a0 0 5 g_2)] 0 0
        refine mp_run mp_k_cX10_copyRow_ok hF mp_tabX10_ok [mp_i (.aload_n 0), mp_i (.iload_n 1), mp_i (.iload_n 3), mp_i .imul, mp_i (.iload 4), mp_i .iadd, mp_i (.aload_n 0), mp_i (.iload_n 1), mp_i (.iload_n 2), mp_i .imul, mp_i (.iload 4), mp_i .iadd, mp_h .iaload [0], mp_h .iastore [0]] (by decide +kernel) ?_
        intro z_12 h_13
        obtain rfl : z_12 = 2 := h_13.trans (by decide)
        intro z_14 h_15
        have e_16 : z_14.toInt = 2 + i_1.toInt := mp_add (a := 2) (b := i_1.toInt) h_15 (by decide) rfl (by (first | exact mp_o1998 l_3 | omega)) (by (first | exact mp_o1999 c_11 | omega))
        intro z_17 h_18
        obtain rfl : z_17 = 0 := h_18.trans (by decide)
        intro z_19 h_20
        have e_21 : z_19.toInt = 0 + i_1.toInt := mp_add (a := 0) (b := i_1.toInt) h_20 (by decide) rfl (by (first | exact mp_o1319 l_3 | omega)) (by (first | exact mp_o1320 c_11 | omega))
        refine And.intro rfl (And.intro rfl (And.intro (vp_in_iff.mpr (by (first | exact mp_o1324 l_3 e_21 c_11 | omega))) ?_))
        intro z_22 h_23
        refine And.intro rfl (And.intro rfl (And.intro (vp_in_iff.mpr (by (first | exact mp_o2000 l_3 e_16 c_11 | omega))) ?_))
        intro g_24 h_25
        show mp_W E X 5 25 [(4, .int i_1), (0, .ref a0), (1, .int 1), (2, .int 0), (3, .int 2)] [] [(mp_arI E a0 0 5 g_24)] 0 0
        refine mp_run mp_k_cX10_copyRow_ok hF mp_tabX10_ok [mp_c (.iinc 4 1) 1, mp_h (.goto (-25)) [3]] (by decide +kernel) ?_
        intro z_26 h_27
        have e_28 : z_26.toInt = i_1.toInt + 1 := mp_add (a := i_1.toInt) (b := 1) h_27 rfl (by decide) (by (first | exact mp_o2 l_3 | omega)) (by (first | exact mp_o1325 c_11 | omega))
        show mp_W E X 5 3 [(4, .int z_26), (0, .ref a0), (1, .int 1), (2, .int 0), (3, .int 2)] [] [(mp_arI E a0 0 5 g_24)] 0 0
        exact mp_sub [0, 1, 2, 3, 4] rfl [0] rfl rfl (ih_9 (d_8 - 1) (by (first | exact mp_o1326 hm_10 c_11 | omega)) z_26 g_24 (by (first | exact mp_o51 l_3 e_28 | omega)) (by (first | exact mp_o1327 c_11 e_28 | omega)) (mp_cpr_st (m := 1) h_25 h_23 x_5 (by (first | exact mp_o2001 l_3 e_16 | omega)) (by (first | exact mp_o1328 l_3 e_21 | omega)) (by (first | exact mp_o2002 | omega)) (by (first | exact mp_o1331 c_11 | omega)) (by (first | exact mp_o772 l_3 e_28 | omega))) (by (first | exact mp_o1327 c_11 e_28 | omega)) (by (first | exact mp_o1332 l_3 e_28 | omega)))
  exact mp_sub [0, 1, 2, 3, 4] rfl [0] rfl rfl (lp_7 _ 0 f0 (by decide) (by decide) (mp_cpr_0 (by decide)) (by decide) (Int.self_le_toNat _))
