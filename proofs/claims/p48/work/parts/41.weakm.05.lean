set_option maxHeartbeats 4000000 in
set_option maxRecDepth 100000 in
theorem bX10_fails_17 (E : mp_E) (a0 a1 a2 a3 a4 a5 a6 a7 a8 a9 a10 a11 a12 a13 a14 a15 a16 a17 a18 a19 a20 a21 a22 a23 a24 a25 : Nat) (y0 : Int32) (y1 : Int32) (y2 : Int32) (y3 : Int32) (y4 : Int32) (y5 : Int32) (y6 : Int64) (y7 : Int32) (y8 : Int32) (y9 : Int32) (y10 : Int32) (y11 : Int32) (y12 : Int32) (y13 : Int32) (y14 : Int32) (y15 : Int32) (y16 : Int32) (y17 : Int32) (y18 : Int32) (y19 : Int32) (y20 : Int32) (y21 : Int32) (l_y1 : 0 ≤ y1.toInt) (u_y1 : y1.toInt ≤ 1600) (l_y2 : 0 ≤ y2.toInt) (u_y2 : y2.toInt ≤ 1600) (l_y3 : 0 ≤ y3.toInt) (u_y3 : y3.toInt ≤ 4) (l_y4 : 0 ≤ y4.toInt) (u_y4 : y4.toInt ≤ 1600) (l_y11 : 0 ≤ y11.toInt) (u_y11 : y11.toInt ≤ 99) (l_y12 : 0 ≤ y12.toInt) (u_y12 : y12.toInt ≤ 5) (l_y13 : 0 ≤ y13.toInt) (u_y13 : y13.toInt ≤ 12) : mp_Ct E yX10_fails cX10_fails 2 none 0 0 0 0 [.ref a0, .int 3] [(mp_ob10 a0 y0 a1 a2 a3 a4 a5 y1 y2 y3 y4 y5 y6 y7 y8 y9 y10 a6 a7 a8 a9 a10 a11 a12 a13 y11 a14 a15 a16 a17 y12 y13 y14 a18 a19 y15 y16 a20 a21 a22 y17 y18 y19 y20 a23 a24 a25 y21)] (fun v w' => ∃ r1 : Int32, ∃ r2 : Int32, v = none ∧ (r1.toInt ≠ 0) ∧ ((y7.toInt = 0 ∧ r1.toInt = 3 ∧ r2.toInt = y4.toInt) ∨ (y7.toInt ≠ 0 ∧ r1.toInt = y7.toInt ∧ r2.toInt = y8.toInt)) ∧ w' = [(mp_ob10 a0 y0 a1 a2 a3 a4 a5 y1 y2 y3 y4 y5 y6 r1 r2 y9 y10 a6 a7 a8 a9 a10 a11 a12 a13 y11 a14 a15 a16 a17 y12 y13 y14 a18 a19 y15 y16 a20 a21 a22 y17 y18 y19 y20 a23 a24 a25 y21)]) := by
  refine mp_met false (by decide) (by decide) (Nat.le_of_ble_eq_true rfl) (fun X hF hQ => ?_)
  have hF : mp_F E X (RX10, cX10_fails, 2, (0, 0, 0, 0), none, false) := hF
  let w1_ : va_W := [(mp_ob10 a0 y0 a1 a2 a3 a4 a5 y1 y2 y3 y4 y5 y6 y7 y8 y9 y10 a6 a7 a8 a9 a10 a11 a12 a13 y11 a14 a15 a16 a17 y12 y13 y14 a18 a19 y15 y16 a20 a21 a22 y17 y18 y19 y20 a23 a24 a25 y21)]
  show mp_W E X 2 0 [(0, .ref a0), (1, .int 3)] [] w1_ 0 0
  refine mp_run mp_k_cX10_fails_ok hF mp_tabX10_ok [mp_i (.aload_n 0), mp_h (.getfield 144) [12, 0], mp_h (.ifCond .eq 4) [8]] (by decide +kernel) ?_
  refine And.intro rfl (And.intro rfl ?_)
  refine And.intro (fun c_1 => ?_) (fun c_1 => ?_)
  · have c_1 : y7.toInt = 0 := (congrArg Int32.toInt c_1)
    show mp_W E X 2 8 [(0, .ref a0), (1, .int 3)] [] w1_ 0 0
    refine mp_run mp_k_cX10_fails_ok hF mp_tabX10_ok [mp_i (.aload_n 0), mp_i (.iload_n 1), mp_h (.putfield 144) [12, 0]] (by decide +kernel) ?_
    refine And.intro rfl (And.intro rfl (And.intro rfl (And.intro rfl (And.intro (Nat.le_of_ble_eq_true rfl) ?_))))
    let w2_ : va_W := [(mp_ob10 a0 y0 a1 a2 a3 a4 a5 y1 y2 y3 y4 y5 y6 3 y8 y9 y10 a6 a7 a8 a9 a10 a11 a12 a13 y11 a14 a15 a16 a17 y12 y13 y14 a18 a19 y15 y16 a20 a21 a22 y17 y18 y19 y20 a23 a24 a25 y21)]
    show mp_W E X 2 13 [(0, .ref a0), (1, .int 3)] [] w2_ 0 0
    refine mp_run mp_k_cX10_fails_ok hF mp_tabX10_ok [mp_i (.aload_n 0), mp_i (.aload_n 0), mp_h (.getfield 123) [9, 0], mp_h (.putfield 147) [13, 0]] (by decide +kernel) ?_
    refine And.intro rfl (And.intro rfl ?_)
    refine And.intro rfl (And.intro rfl (And.intro rfl (And.intro rfl (And.intro (Nat.le_of_ble_eq_true rfl) ?_))))
    let w3_ : va_W := [(mp_ob10 a0 y0 a1 a2 a3 a4 a5 y1 y2 y3 y4 y5 y6 3 y4 y9 y10 a6 a7 a8 a9 a10 a11 a12 a13 y11 a14 a15 a16 a17 y12 y13 y14 a18 a19 y15 y16 a20 a21 a22 y17 y18 y19 y20 a23 a24 a25 y21)]
    show mp_W E X 2 21 [(0, .ref a0), (1, .int 3)] [] w3_ 0 0
    exact mp_vret hF hQ rfl (Nat.le_of_ble_eq_true rfl) (Nat.le_of_ble_eq_true rfl) [0] (w' := w3_) rfl rfl ⟨3, y4, rfl, (by first | omega | decide), (by have i0 : (0 : Int32).toInt = 0 := rfl; have i1 : (1 : Int32).toInt = 1 := rfl; have i8 : (2 : Int32).toInt = 2 := rfl; have i9 : (3 : Int32).toInt = 3 := rfl; omega), rfl⟩ (by first | exact mp_fd_ok mp_k_cX10_fails_ok (by decide +kernel) | decide +kernel)
  · have c_1 : y7.toInt ≠ 0 := c_1
    show mp_W E X 2 7 [(0, .ref a0), (1, .int 3)] [] w1_ 0 0
    exact mp_vret hF hQ rfl (Nat.le_of_ble_eq_true rfl) (Nat.le_of_ble_eq_true rfl) [0] (w' := w1_) rfl rfl ⟨y7, y8, rfl, (by first | omega | decide), (by have i0 : (0 : Int32).toInt = 0 := rfl; have i1 : (1 : Int32).toInt = 1 := rfl; have i8 : (2 : Int32).toInt = 2 := rfl; have i9 : (3 : Int32).toInt = 3 := rfl; omega), rfl⟩ (by first | exact mp_fd_ok mp_k_cX10_fails_ok (by decide +kernel) | decide +kernel)
