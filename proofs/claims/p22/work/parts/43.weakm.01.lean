set_option maxHeartbeats 4000000 in
set_option maxRecDepth 100000 in
theorem bX10_hasRead_36 (E : mp_E) (a0 a1 a2 a3 a4 a5 a6 a7 a8 a9 a10 a11 a12 a13 a14 a15 a16 a17 a18 a19 a20 a21 a22 a23 a24 a25 : Nat) (f0 : Nat → Int32) (y0 : Int32) (y1 : Int32) (y2 : Int32) (y3 : Int32) (y4 : Int32) (y5 : Int32) (y6 : Int64) (y7 : Int32) (y8 : Int32) (y9 : Int32) (y10 : Int32) (y11 : Int32) (y12 : Int32) (y13 : Int32) (y14 : Int32) (y15 : Int32) (y16 : Int32) (y17 : Int32) (y18 : Int32) (y19 : Int32) (y20 : Int32) (y21 : Int32) (p0 : mp_res f0 25 5 0 0 6) (p1 : mp_res f0 25 5 1 0 99) (p2 : mp_res f0 25 5 2 0 6) (p3 : mp_res f0 25 5 3 0 10) (p4 : mp_res f0 25 5 4 0 60) (l_y1 : 0 ≤ y1.toInt) (u_y1 : y1.toInt ≤ 1600) (l_y2 : 0 ≤ y2.toInt) (u_y2 : y2.toInt ≤ 1600) (l_y3 : 0 ≤ y3.toInt) (u_y3 : y3.toInt ≤ 4) (l_y4 : 0 ≤ y4.toInt) (u_y4 : y4.toInt ≤ 1600) (l_y11 : 0 ≤ y11.toInt) (u_y11 : y11.toInt ≤ 99) (l_y12 : 0 ≤ y12.toInt) (u_y12 : y12.toInt ≤ 5) (l_y13 : 0 ≤ y13.toInt) (u_y13 : y13.toInt ≤ 12) : mp_Ct E yX10_hasRead cX10_hasRead 2 (some FieldType.int) 0 0 0 0 [.ref a0, .int 1] [(mp_ob10 a0 y0 a2 a3 a4 a5 a6 y1 y2 y3 y4 y5 y6 y7 y8 y9 y10 a7 a1 a8 a9 a10 a11 a12 a13 y11 a14 a15 a16 a17 y12 y13 y14 a18 a19 y15 y16 a20 a21 a22 y17 y18 y19 y20 a23 a24 a25 y21), (mp_arI E a1 0 25 f0)] (fun v w' => ∃ r1 : Int32, v = some (.int r1) ∧ 0 ≤ r1.toInt ∧ r1.toInt ≤ 99 ∧ (r1.toInt = (f0 21).toInt) ∧ w' = [(mp_ob10 a0 y0 a2 a3 a4 a5 a6 y1 y2 y3 y4 y5 y6 y7 y8 y9 y10 a7 a1 a8 a9 a10 a11 a12 a13 y11 a14 a15 a16 a17 y12 y13 y14 a18 a19 y15 y16 a20 a21 a22 y17 y18 y19 y20 a23 a24 a25 y21), (mp_arI E a1 0 25 f0)]) := by
  refine mp_met false (by decide) (by decide) (Nat.le_of_ble_eq_true rfl) (fun X hF hQ => ?_)
  have hF : mp_F E X (RX10, cX10_hasRead, 2, (0, 0, 0, 0), (some FieldType.int), false) := hF
  let w1_ : va_W := [(mp_ob10 a0 y0 a2 a3 a4 a5 a6 y1 y2 y3 y4 y5 y6 y7 y8 y9 y10 a7 a1 a8 a9 a10 a11 a12 a13 y11 a14 a15 a16 a17 y12 y13 y14 a18 a19 y15 y16 a20 a21 a22 y17 y18 y19 y20 a23 a24 a25 y21), (mp_arI E a1 0 25 f0)]
  show mp_W E X 2 0 [(0, .ref a0), (1, .int 1)] [] w1_ 0 0
  refine mp_run mp_k_cX10_hasRead_ok hF mp_tabX10_ok [mp_i (.aload_n 0), mp_h (.getfield 34) [17, 0], mp_c (.bipush 20) 20, mp_i (.iload_n 1), mp_i .iadd, mp_h .iaload [1]] (by decide +kernel) ?_
  refine And.intro rfl (And.intro rfl ?_)
  intro z_1 h_2
  obtain rfl : z_1 = 21 := h_2.trans (by decide)
  refine And.intro rfl (And.intro rfl (And.intro (vp_in_iff.mpr (by decide)) ?_))
  intro z_3 h_4
  have e_5 : 0 ≤ z_3.toInt ∧ z_3.toInt ≤ 99 := mp_res_ld h_4 p1 (by decide) (by decide) (by decide)
  have e_6 : z_3.toInt = (f0 21).toInt := congrArg Int32.toInt (mp_at h_4 (by decide) rfl)
  show mp_W E X 2 9 [(0, .ref a0), (1, .int 1)] [.int z_3] w1_ 0 0
  exact mp_iret hF hQ rfl rfl (Nat.le_of_ble_eq_true rfl) (Nat.le_of_ble_eq_true rfl) [0, 1] (w' := w1_) rfl rfl ⟨z_3, rfl, e_5.1, e_5.2, (by first | (first | exact e_6 | omega) | decide | (have h8 : (0 : Int32).toInt = 0 := rfl; have h9 : (1 : Int32).toInt = 1 := rfl; have h10 : (-1 : Int32).toInt = -1 := rfl; omega)), rfl⟩ (by first | exact mp_fd_ok mp_k_cX10_hasRead_ok (by decide +kernel) | decide +kernel)
