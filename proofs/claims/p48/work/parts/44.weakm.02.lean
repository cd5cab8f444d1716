set_option maxHeartbeats 4000000 in
set_option maxRecDepth 100000 in
theorem bX10_isOver_44 (E : mp_E) (a0 a1 a2 a3 a4 a5 a6 a7 a8 a9 a10 a11 a12 a13 a14 a15 a16 a17 a18 a19 a20 a21 a22 a23 a24 a25 : Nat) (y0 : Int32) (y1 : Int32) (y2 : Int32) (y3 : Int32) (y4 : Int32) (y5 : Int32) (y6 : Int64) (y7 : Int32) (y8 : Int32) (y9 : Int32) (y10 : Int32) (y11 : Int32) (y12 : Int32) (y13 : Int32) (y14 : Int32) (y15 : Int32) (y16 : Int32) (y17 : Int32) (y18 : Int32) (y19 : Int32) (y20 : Int32) (y21 : Int32) (l_y1 : 0 ≤ y1.toInt) (u_y1 : y1.toInt ≤ 1600) (l_y2 : 0 ≤ y2.toInt) (u_y2 : y2.toInt ≤ 1600) (l_y3 : 0 ≤ y3.toInt) (u_y3 : y3.toInt ≤ 4) (l_y4 : 0 ≤ y4.toInt) (u_y4 : y4.toInt ≤ 1600) (l_y11 : 0 ≤ y11.toInt) (u_y11 : y11.toInt ≤ 99) (l_y12 : 0 ≤ y12.toInt) (u_y12 : y12.toInt ≤ 5) (l_y13 : 0 ≤ y13.toInt) (u_y13 : y13.toInt ≤ 12) : mp_Ct E yX10_isOver cX10_isOver 1 none 0 0 0 0 [.ref a0] [(mp_ob10 a0 y0 a1 a2 a3 a4 a5 y1 y2 y3 y4 y5 y6 y7 y8 y9 y10 a6 a7 a8 a9 a10 a11 a12 a13 y11 a14 a15 a16 a17 y12 y13 y14 a18 a19 y15 y16 a20 a21 a22 y17 y18 y19 y20 a23 a24 a25 y21)] (fun v w' => ∃ r1 : Int32, v = none ∧ (y7.toInt = y7.toInt) ∧ ((y7.toInt = 0 ∧ r1.toInt = -1) ∨ (y7.toInt ≠ 0 ∧ r1.toInt = y8.toInt)) ∧ (0 = 0) ∧ w' = [(mp_ob10 a0 y0 a1 a2 a3 a4 a5 0 y2 y3 y4 y5 y6 y7 y8 y7 r1 a6 a7 a8 a9 a10 a11 a12 a13 y11 a14 a15 a16 a17 y12 y13 y14 a18 a19 y15 y16 a20 a21 a22 y17 y18 y19 y20 a23 a24 a25 y21)]) := by
  refine mp_met false (by decide) (by decide) (Nat.le_of_ble_eq_true rfl) (fun X hF hQ => ?_)
  have hF : mp_F E X (RX10, cX10_isOver, 1, (0, 0, 0, 0), none, false) := hF
  let w1_ : va_W := [(mp_ob10 a0 y0 a1 a2 a3 a4 a5 y1 y2 y3 y4 y5 y6 y7 y8 y9 y10 a6 a7 a8 a9 a10 a11 a12 a13 y11 a14 a15 a16 a17 y12 y13 y14 a18 a19 y15 y16 a20 a21 a22 y17 y18 y19 y20 a23 a24 a25 y21)]
  show mp_W E X 1 0 [(0, .ref a0)] [] w1_ 0 0
  refine mp_run mp_k_cX10_isOver_ok hF mp_tabX10_ok [mp_i (.aload_n 0), mp_c (.iconst 0) 0, mp_h (.putfield 109) [6, 0]] (by decide +kernel) ?_
  refine And.intro rfl (And.intro rfl (And.intro rfl (And.intro rfl (And.intro (Nat.le_of_ble_eq_true rfl) ?_))))
  let w2_ : va_W := [(mp_ob10 a0 y0 a1 a2 a3 a4 a5 0 y2 y3 y4 y5 y6 y7 y8 y9 y10 a6 a7 a8 a9 a10 a11 a12 a13 y11 a14 a15 a16 a17 y12 y13 y14 a18 a19 y15 y16 a20 a21 a22 y17 y18 y19 y20 a23 a24 a25 y21)]
  show mp_W E X 1 5 [(0, .ref a0)] [] w2_ 0 0
  refine mp_run mp_k_cX10_isOver_ok hF mp_tabX10_ok [mp_i (.aload_n 0), mp_i (.aload_n 0), mp_h (.getfield 144) [12, 0], mp_h (.putfield 171) [14, 0]] (by decide +kernel) ?_
  refine And.intro rfl (And.intro rfl ?_)
  refine And.intro rfl (And.intro rfl (And.intro rfl (And.intro rfl (And.intro (Nat.le_of_ble_eq_true rfl) ?_))))
  let w3_ : va_W := [(mp_ob10 a0 y0 a1 a2 a3 a4 a5 0 y2 y3 y4 y5 y6 y7 y8 y7 y10 a6 a7 a8 a9 a10 a11 a12 a13 y11 a14 a15 a16 a17 y12 y13 y14 a18 a19 y15 y16 a20 a21 a22 y17 y18 y19 y20 a23 a24 a25 y21)]
  show mp_W E X 1 13 [(0, .ref a0)] [] w3_ 0 0
  refine mp_run mp_k_cX10_isOver_ok hF mp_tabX10_ok [mp_i (.aload_n 0), mp_i (.aload_n 0), mp_h (.getfield 144) [12, 0], mp_h (.ifCond .ne 7) [25]] (by decide +kernel) ?_
  refine And.intro rfl (And.intro rfl ?_)
  refine And.intro (fun c_1 => ?_) (fun c_1 => ?_)
  · have c_1 : y7.toInt ≠ 0 := c_1
    show mp_W E X 1 25 [(0, .ref a0)] [.ref a0] w3_ 0 0
    refine mp_run mp_k_cX10_isOver_ok hF mp_tabX10_ok [mp_i (.aload_n 0), mp_h (.getfield 147) [13, 0], mp_h (.putfield 27) [15, 0]] (by decide +kernel) ?_
    refine And.intro rfl (And.intro rfl ?_)
    refine And.intro rfl (And.intro rfl (And.intro rfl (And.intro rfl (And.intro (Nat.le_of_ble_eq_true rfl) ?_))))
    let w4_ : va_W := [(mp_ob10 a0 y0 a1 a2 a3 a4 a5 0 y2 y3 y4 y5 y6 y7 y8 y7 y8 a6 a7 a8 a9 a10 a11 a12 a13 y11 a14 a15 a16 a17 y12 y13 y14 a18 a19 y15 y16 a20 a21 a22 y17 y18 y19 y20 a23 a24 a25 y21)]
    show mp_W E X 1 32 [(0, .ref a0)] [] w4_ 0 0
    exact mp_vret hF hQ rfl (Nat.le_of_ble_eq_true rfl) (Nat.le_of_ble_eq_true rfl) [0] (w' := w4_) rfl rfl ⟨y8, rfl, (by first | rfl | omega | decide), (by have i0 : (0 : Int32).toInt = 0 := rfl; have i2 : (-1 : Int32).toInt = -1 := rfl; omega), (by first | omega | decide), rfl⟩ (by first | exact mp_fd_ok mp_k_cX10_isOver_ok (by decide +kernel) | decide +kernel)
  · have c_1 : y7.toInt = 0 := (congrArg Int32.toInt c_1)
    show mp_W E X 1 21 [(0, .ref a0)] [.ref a0] w3_ 0 0
    refine mp_run mp_k_cX10_isOver_ok hF mp_tabX10_ok [mp_c (.iconst (-1)) (-1), mp_h (.goto 7) [29], mp_h (.putfield 27) [15, 0]] (by decide +kernel) ?_
    refine And.intro rfl (And.intro rfl (And.intro rfl (And.intro rfl (And.intro (Nat.le_of_ble_eq_true rfl) ?_))))
    let w5_ : va_W := [(mp_ob10 a0 y0 a1 a2 a3 a4 a5 0 y2 y3 y4 y5 y6 y7 y8 y7 (-1) a6 a7 a8 a9 a10 a11 a12 a13 y11 a14 a15 a16 a17 y12 y13 y14 a18 a19 y15 y16 a20 a21 a22 y17 y18 y19 y20 a23 a24 a25 y21)]
    show mp_W E X 1 32 [(0, .ref a0)] [] w5_ 0 0
    exact mp_vret hF hQ rfl (Nat.le_of_ble_eq_true rfl) (Nat.le_of_ble_eq_true rfl) [0] (w' := w5_) rfl rfl ⟨(-1), rfl, (by first | rfl | omega | decide), (by have i0 : (0 : Int32).toInt = 0 := rfl; have i2 : (-1 : Int32).toInt = -1 := rfl; omega), (by first | omega | decide), rfl⟩ (by first | exact mp_fd_ok mp_k_cX10_isOver_ok (by decide +kernel) | decide +kernel)
