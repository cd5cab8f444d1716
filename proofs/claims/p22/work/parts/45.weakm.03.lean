set_option maxHeartbeats 4000000 in
set_option maxRecDepth 100000 in
theorem bX10_of_63 (E : mp_E) (a0 a1 a2 a3 a4 a5 a6 a7 a8 a9 a10 a11 a12 a13 a14 a15 a16 a17 a18 a19 a20 a21 a22 a23 a24 a25 : Nat) (f0 : Nat → Int32) (y0 : Int32) (y1 : Int32) (y2 : Int32) (y3 : Int32) (y4 : Int32) (y5 : Int32) (y6 : Int64) (y7 : Int32) (y8 : Int32) (y9 : Int32) (y10 : Int32) (y11 : Int32) (y12 : Int32) (y13 : Int32) (y14 : Int32) (y15 : Int32) (y16 : Int32) (y17 : Int32) (y18 : Int32) (y19 : Int32) (y20 : Int32) (y21 : Int32) (x0 : Int32) (p0 : mp_res f0 300 6 0 0 5) (p1 : mp_res f0 300 6 1 0 5) (p2 : mp_res f0 300 6 3 0 99) (p3 : mp_res f0 300 6 4 0 1) (l_x0 : 0 ≤ x0.toInt) (u_x0 : x0.toInt ≤ 9) (l_y1 : 0 ≤ y1.toInt) (u_y1 : y1.toInt ≤ 1600) (l_y2 : 0 ≤ y2.toInt) (u_y2 : y2.toInt ≤ 1600) (l_y3 : 0 ≤ y3.toInt) (u_y3 : y3.toInt ≤ 4) (l_y4 : 0 ≤ y4.toInt) (u_y4 : y4.toInt ≤ 1600) (l_y11 : 0 ≤ y11.toInt) (u_y11 : y11.toInt ≤ 99) (l_y12 : 0 ≤ y12.toInt) (u_y12 : y12.toInt ≤ 5) (l_y13 : 0 ≤ y13.toInt) (u_y13 : y13.toInt ≤ 12) : mp_Ct E yX10_of cX10_of 3 (some FieldType.int) 0 0 0 0 [.ref a0, .int x0, .int 3] [(mp_ob10 a0 y0 a2 a3 a4 a5 a6 y1 y2 y3 y4 y5 y6 y7 y8 y9 y10 a7 a8 a9 a10 a11 a1 a12 a13 y11 a14 a15 a16 a17 y12 y13 y14 a18 a19 y15 y16 a20 a21 a22 y17 y18 y19 y20 a23 a24 a25 y21), (mp_arI E a1 0 300 f0)] (fun v w' => ∃ r1 : Int32, v = some (.int r1) ∧ 0 ≤ r1.toInt ∧ r1.toInt ≤ 99 ∧ (r1.toInt = (f0 (6 * x0.toInt.toNat + 3)).toInt) ∧ w' = [(mp_ob10 a0 y0 a2 a3 a4 a5 a6 y1 y2 y3 y4 y5 y6 y7 y8 y9 y10 a7 a8 a9 a10 a11 a1 a12 a13 y11 a14 a15 a16 a17 y12 y13 y14 a18 a19 y15 y16 a20 a21 a22 y17 y18 y19 y20 a23 a24 a25 y21), (mp_arI E a1 0 300 f0)]) := by
  refine mp_met false (by decide) (by decide) (Nat.le_of_ble_eq_true rfl) (fun X hF hQ => ?_)
  have hF : mp_F E X (RX10, cX10_of, 3, (0, 0, 0, 0), (some FieldType.int), false) := hF
  let w1_ : va_W := [(mp_ob10 a0 y0 a2 a3 a4 a5 a6 y1 y2 y3 y4 y5 y6 y7 y8 y9 y10 a7 a8 a9 a10 a11 a1 a12 a13 y11 a14 a15 a16 a17 y12 y13 y14 a18 a19 y15 y16 a20 a21 a22 y17 y18 y19 y20 a23 a24 a25 y21), (mp_arI E a1 0 300 f0)]
  show mp_W E X 3 0 [(0, .ref a0), (1, .int x0), (2, .int 3)] [] w1_ 0 0
  refine mp_run mp_k_cX10_of_ok hF mp_tabX10_ok [mp_i (.aload_n 0), mp_h (.getfield 47) [21, 0], mp_c (.bipush 6) 6, mp_i (.iload_n 1), mp_i .imul, mp_i (.iload_n 2), mp_i .iadd, mp_h .iaload [1]] (by decide +kernel) ?_
  refine And.intro rfl (And.intro rfl ?_)
  intro z_1 h_2
  have e_3 : z_1.toInt = 6 * x0.toInt := mp_mul (a := 6) (b := x0.toInt) h_2 (by decide) rfl (by (first | exact mp_o1152 l_x0 | omega)) (by (first | exact mp_o1152 l_x0 | omega))
  intro z_4 h_5
  have e_6 : z_4.toInt = z_1.toInt + 3 := mp_add (a := z_1.toInt) (b := 3) h_5 rfl (by decide) (by (first | exact mp_o1486 l_x0 e_3 | omega)) (by (first | exact mp_o1486 l_x0 e_3 | omega))
  refine And.intro rfl (And.intro rfl (And.intro (vp_in_iff.mpr (by (first | exact mp_o1487 l_x0 u_x0 e_3 e_6 | omega))) ?_))
  intro z_7 h_8
  have e_9 : 0 ≤ z_7.toInt ∧ z_7.toInt ≤ 99 := mp_res_ld h_8 p2 (by (first | exact mp_o1487 l_x0 u_x0 e_3 e_6 | omega)) (by (first | exact mp_o1488 l_x0 e_3 e_6 | omega)) (by (first | exact mp_o1489 e_6 e_3 | omega))
  have e_10 : z_7.toInt = (f0 (6 * x0.toInt + 3).toNat).toInt := mp_at_i h_8 (by (first | exact mp_o1490 l_x0 e_3 e_6 | omega))
  show mp_W E X 3 11 [(0, .ref a0), (1, .int x0), (2, .int 3)] [.int z_7] w1_ 0 0
  exact mp_iret hF hQ rfl rfl (Nat.le_of_ble_eq_true rfl) (Nat.le_of_ble_eq_true rfl) [0, 1] (w' := w1_) rfl rfl ⟨z_7, rfl, e_9.1, e_9.2, (mp_of_at h_8 (by (first | exact l_x0 | omega)) (by (first | exact mp_o1491 e_3 e_6 | omega))), rfl⟩ (by first | exact mp_fd_ok mp_k_cX10_of_ok (by decide +kernel) | decide +kernel)
set_option maxHeartbeats 4000000 in
set_option maxRecDepth 100000 in
theorem bX10_of_64 (E : mp_E) (a0 a1 a2 a3 a4 a5 a6 a7 a8 a9 a10 a11 a12 a13 a14 a15 a16 a17 a18 a19 a20 a21 a22 a23 a24 a25 : Nat) (f0 : Nat → Int32) (y0 : Int32) (y1 : Int32) (y2 : Int32) (y3 : Int32) (y4 : Int32) (y5 : Int32) (y6 : Int64) (y7 : Int32) (y8 : Int32) (y9 : Int32) (y10 : Int32) (y11 : Int32) (y12 : Int32) (y13 : Int32) (y14 : Int32) (y15 : Int32) (y16 : Int32) (y17 : Int32) (y18 : Int32) (y19 : Int32) (y20 : Int32) (y21 : Int32) (x0 : Int32) (p0 : mp_res f0 300 6 0 0 5) (p1 : mp_res f0 300 6 1 0 5) (p2 : mp_res f0 300 6 3 0 99) (p3 : mp_res f0 300 6 4 0 1) (l_x0 : 0 ≤ x0.toInt) (u_x0 : x0.toInt ≤ 9) (l_y1 : 0 ≤ y1.toInt) (u_y1 : y1.toInt ≤ 1600) (l_y2 : 0 ≤ y2.toInt) (u_y2 : y2.toInt ≤ 1600) (l_y3 : 0 ≤ y3.toInt) (u_y3 : y3.toInt ≤ 4) (l_y4 : 0 ≤ y4.toInt) (u_y4 : y4.toInt ≤ 1600) (l_y11 : 0 ≤ y11.toInt) (u_y11 : y11.toInt ≤ 99) (l_y12 : 0 ≤ y12.toInt) (u_y12 : y12.toInt ≤ 5) (l_y13 : 0 ≤ y13.toInt) (u_y13 : y13.toInt ≤ 12) : mp_Ct E yX10_of cX10_of 3 (some FieldType.int) 0 0 0 0 [.ref a0, .int x0, .int 0] [(mp_ob10 a0 y0 a2 a3 a4 a5 a6 y1 y2 y3 y4 y5 y6 y7 y8 y9 y10 a7 a8 a9 a10 a11 a1 a12 a13 y11 a14 a15 a16 a17 y12 y13 y14 a18 a19 y15 y16 a20 a21 a22 y17 y18 y19 y20 a23 a24 a25 y21), (mp_arI E a1 0 300 f0)] (fun v w' => ∃ r1 : Int32, v = some (.int r1) ∧ 0 ≤ r1.toInt ∧ r1.toInt ≤ 5 ∧ (r1.toInt = (f0 (6 * x0.toInt.toNat + 0)).toInt) ∧ w' = [(mp_ob10 a0 y0 a2 a3 a4 a5 a6 y1 y2 y3 y4 y5 y6 y7 y8 y9 y10 a7 a8 a9 a10 a11 a1 a12 a13 y11 a14 a15 a16 a17 y12 y13 y14 a18 a19 y15 y16 a20 a21 a22 y17 y18 y19 y20 a23 a24 a25 y21), (mp_arI E a1 0 300 f0)]) := by
  refine mp_met false (by decide) (by decide) (Nat.le_of_ble_eq_true rfl) (fun X hF hQ => ?_)
  have hF : mp_F E X (RX10, cX10_of, 3, (0, 0, 0, 0), (some FieldType.int), false) := hF
  let w1_ : va_W := [(mp_ob10 a0 y0 a2 a3 a4 a5 a6 y1 y2 y3 y4 y5 y6 y7 y8 y9 y10 a7 a8 a9 a10 a11 a1 a12 a13 y11 a14 a15 a16 a17 y12 y13 y14 a18 a19 y15 y16 a20 a21 a22 y17 y18 y19 y20 a23 a24 a25 y21), (mp_arI E a1 0 300 f0)]
  show mp_W E X 3 0 [(0, .ref a0), (1, .int x0), (2, .int 0)] [] w1_ 0 0
  refine mp_run mp_k_cX10_of_ok hF mp_tabX10_ok [mp_i (.aload_n 0), mp_h (.getfield 47) [21, 0], mp_c (.bipush 6) 6, mp_i (.iload_n 1), mp_i .imul, mp_i (.iload_n 2), mp_i .iadd, mp_h .iaload [1]] (by decide +kernel) ?_
  refine And.intro rfl (And.intro rfl ?_)
  intro z_1 h_2
  have e_3 : z_1.toInt = 6 * x0.toInt := mp_mul (a := 6) (b := x0.toInt) h_2 (by decide) rfl (by (first | exact mp_o1152 l_x0 | omega)) (by (first | exact mp_o1152 l_x0 | omega))
  intro z_4 h_5
  have e_6 : z_4.toInt = z_1.toInt + 0 := mp_add (a := z_1.toInt) (b := 0) h_5 rfl (by decide) (by (first | exact mp_o1492 l_x0 e_3 | omega)) (by (first | exact mp_o1492 l_x0 e_3 | omega))
  refine And.intro rfl (And.intro rfl (And.intro (vp_in_iff.mpr (by (first | exact mp_o1493 l_x0 u_x0 e_3 e_6 | omega))) ?_))
  intro z_7 h_8
  have e_9 : 0 ≤ z_7.toInt ∧ z_7.toInt ≤ 5 := mp_res_ld h_8 p0 (by (first | exact mp_o1493 l_x0 u_x0 e_3 e_6 | omega)) (by (first | exact mp_o1493 l_x0 u_x0 e_3 e_6 | omega)) (by (first | exact mp_o1494 e_6 e_3 | omega))
  have e_10 : z_7.toInt = (f0 (6 * x0.toInt).toNat).toInt := mp_at_i h_8 (by (first | exact mp_o1495 l_x0 e_3 e_6 | omega))
  show mp_W E X 3 11 [(0, .ref a0), (1, .int x0), (2, .int 0)] [.int z_7] w1_ 0 0
  exact mp_iret hF hQ rfl rfl (Nat.le_of_ble_eq_true rfl) (Nat.le_of_ble_eq_true rfl) [0, 1] (w' := w1_) rfl rfl ⟨z_7, rfl, e_9.1, e_9.2, (mp_of_at h_8 (by (first | exact l_x0 | omega)) (by (first | exact mp_o1496 e_3 e_6 | omega))), rfl⟩ (by first | exact mp_fd_ok mp_k_cX10_of_ok (by decide +kernel) | decide +kernel)
set_option maxHeartbeats 4000000 in
set_option maxRecDepth 100000 in
theorem bX10_of_65 (E : mp_E) (a0 a1 a2 a3 a4 a5 a6 a7 a8 a9 a10 a11 a12 a13 a14 a15 a16 a17 a18 a19 a20 a21 a22 a23 a24 a25 : Nat) (f0 : Nat → Int32) (y0 : Int32) (y1 : Int32) (y2 : Int32) (y3 : Int32) (y4 : Int32) (y5 : Int32) (y6 : Int64) (y7 : Int32) (y8 : Int32) (y9 : Int32) (y10 : Int32) (y11 : Int32) (y12 : Int32) (y13 : Int32) (y14 : Int32) (y15 : Int32) (y16 : Int32) (y17 : Int32) (y18 : Int32) (y19 : Int32) (y20 : Int32) (y21 : Int32) (x0 : Int32) (p0 : mp_res f0 300 6 0 0 5) (p1 : mp_res f0 300 6 1 0 5) (p2 : mp_res f0 300 6 3 0 99) (p3 : mp_res f0 300 6 4 0 1) (l_x0 : 0 ≤ x0.toInt) (u_x0 : x0.toInt ≤ 9) (l_y1 : 0 ≤ y1.toInt) (u_y1 : y1.toInt ≤ 1600) (l_y2 : 0 ≤ y2.toInt) (u_y2 : y2.toInt ≤ 1600) (l_y3 : 0 ≤ y3.toInt) (u_y3 : y3.toInt ≤ 4) (l_y4 : 0 ≤ y4.toInt) (u_y4 : y4.toInt ≤ 1600) (l_y11 : 0 ≤ y11.toInt) (u_y11 : y11.toInt ≤ 99) (l_y12 : 0 ≤ y12.toInt) (u_y12 : y12.toInt ≤ 5) (l_y13 : 0 ≤ y13.toInt) (u_y13 : y13.toInt ≤ 12) : mp_Ct E yX10_of cX10_of 3 (some FieldType.int) 0 0 0 0 [.ref a0, .int x0, .int 4] [(mp_ob10 a0 y0 a2 a3 a4 a5 a6 y1 y2 y3 y4 y5 y6 y7 y8 y9 y10 a7 a8 a9 a10 a11 a1 a12 a13 y11 a14 a15 a16 a17 y12 y13 y14 a18 a19 y15 y16 a20 a21 a22 y17 y18 y19 y20 a23 a24 a25 y21), (mp_arI E a1 0 300 f0)] (fun v w' => ∃ r1 : Int32, v = some (.int r1) ∧ 0 ≤ r1.toInt ∧ r1.toInt ≤ 1 ∧ (r1.toInt = (f0 (6 * x0.toInt.toNat + 4)).toInt) ∧ w' = [(mp_ob10 a0 y0 a2 a3 a4 a5 a6 y1 y2 y3 y4 y5 y6 y7 y8 y9 y10 a7 a8 a9 a10 a11 a1 a12 a13 y11 a14 a15 a16 a17 y12 y13 y14 a18 a19 y15 y16 a20 a21 a22 y17 y18 y19 y20 a23 a24 a25 y21), (mp_arI E a1 0 300 f0)]) := by
  refine mp_met false (by decide) (by decide) (Nat.le_of_ble_eq_true rfl) (fun X hF hQ => ?_)
  have hF : mp_F E X (RX10, cX10_of, 3, (0, 0, 0, 0), (some FieldType.int), false) := hF
  let w1_ : va_W := [(mp_ob10 a0 y0 a2 a3 a4 a5 a6 y1 y2 y3 y4 y5 y6 y7 y8 y9 y10 a7 a8 a9 a10 a11 a1 a12 a13 y11 a14 a15 a16 a17 y12 y13 y14 a18 a19 y15 y16 a20 a21 a22 y17 y18 y19 y20 a23 a24 a25 y21), (mp_arI E a1 0 300 f0)]
  show mp_W E X 3 0 [(0, .ref a0), (1, .int x0), (2, .int 4)] [] w1_ 0 0
  refine mp_run mp_k_cX10_of_ok hF mp_tabX10_ok [mp_i (.aload_n 0), mp_h (.getfield 47) [21, 0], mp_c (.bipush 6) 6, mp_i (.iload_n 1), mp_i .imul, mp_i (.iload_n 2), mp_i .iadd, mp_h .iaload [1]] (by decide +kernel) ?_
  refine And.intro rfl (And.intro rfl ?_)
  intro z_1 h_2
  have e_3 : z_1.toInt = 6 * x0.toInt := mp_mul (a := 6) (b := x0.toInt) h_2 (by decide) rfl (by (first | exact mp_o1152 l_x0 | omega)) (by (first | exact mp_o1152 l_x0 | omega))
  intro z_4 h_5
  have e_6 : z_4.toInt = z_1.toInt + 4 := mp_add (a := z_1.toInt) (b := 4) h_5 rfl (by decide) (by (first | exact mp_o1497 l_x0 e_3 | omega)) (by (first | exact mp_o1497 l_x0 e_3 | omega))
  refine And.intro rfl (And.intro rfl (And.intro (vp_in_iff.mpr (by (first | exact mp_o1498 l_x0 u_x0 e_3 e_6 | omega))) ?_))
  intro z_7 h_8
  have e_9 : 0 ≤ z_7.toInt ∧ z_7.toInt ≤ 1 := mp_res_ld h_8 p3 (by (first | exact mp_o1498 l_x0 u_x0 e_3 e_6 | omega)) (by (first | exact mp_o1498 l_x0 u_x0 e_3 e_6 | omega)) (by (first | exact mp_o1250 e_6 e_3 | omega))
  have e_10 : z_7.toInt = (f0 (6 * x0.toInt + 4).toNat).toInt := mp_at_i h_8 (by (first | exact mp_o1499 l_x0 e_3 e_6 | omega))
  show mp_W E X 3 11 [(0, .ref a0), (1, .int x0), (2, .int 4)] [.int z_7] w1_ 0 0
  exact mp_iret hF hQ rfl rfl (Nat.le_of_ble_eq_true rfl) (Nat.le_of_ble_eq_true rfl) [0, 1] (w' := w1_) rfl rfl ⟨z_7, rfl, e_9.1, e_9.2, (mp_of_at h_8 (by (first | exact l_x0 | omega)) (by (first | exact mp_o1500 e_3 e_6 | omega))), rfl⟩ (by first | exact mp_fd_ok mp_k_cX10_of_ok (by decide +kernel) | decide +kernel)
set_option maxHeartbeats 4000000 in
set_option maxRecDepth 100000 in
theorem bX10_ownOf_66 (E : mp_E) (a0 a1 a2 a3 a4 a5 a6 a7 a8 a9 a10 a11 a12 a13 a14 a15 a16 a17 a18 a19 a20 a21 a22 a23 a24 a25 : Nat) (f0 : Nat → Int32) (f1 : Nat → Int32) (f2 : Nat → Int32) (y0 : Int32) (y1 : Int32) (y2 : Int32) (y3 : Int32) (y4 : Int32) (y5 : Int32) (y6 : Int64) (y7 : Int32) (y8 : Int32) (y9 : Int32) (y10 : Int32) (y11 : Int32) (y12 : Int32) (y13 : Int32) (y14 : Int32) (y15 : Int32) (y16 : Int32) (y17 : Int32) (y18 : Int32) (y19 : Int32) (y20 : Int32) (y21 : Int32) (x0 : Int32) (x1 : Int32) (p0 : mp_res f0 90 3 0 0 5) (p1 : mp_res f0 90 3 1 (-1) 99) (p2 : mp_res f1 300 6 0 0 5) (p3 : mp_res f1 300 6 1 0 5) (p4 : mp_res f1 300 6 3 0 99) (p5 : mp_res f1 300 6 4 0 1) (l_x0 : 0 ≤ x0.toInt) (u_x0 : x0.toInt ≤ 9) (l_x1 : 0 ≤ x1.toInt) (u_x1 : x1.toInt ≤ 139) (l_y1 : 0 ≤ y1.toInt) (u_y1 : y1.toInt ≤ 1600) (l_y2 : 0 ≤ y2.toInt) (u_y2 : y2.toInt ≤ 1600) (l_y3 : 0 ≤ y3.toInt) (u_y3 : y3.toInt ≤ 4) (l_y4 : 0 ≤ y4.toInt) (u_y4 : y4.toInt ≤ 1600) (l_y11 : 0 ≤ y11.toInt) (u_y11 : y11.toInt ≤ 99) (l_y12 : 0 ≤ y12.toInt) (u_y12 : y12.toInt ≤ 5) (l_y13 : 0 ≤ y13.toInt) (u_y13 : y13.toInt ≤ 12) : mp_Ct E yX10_ownOf cX10_ownOf 6 (some FieldType.int) 1 0 0 22 [.ref a0, .int x0, .int x1] [(mp_ob10 a0 y0 a4 a5 a6 a7 a8 y1 y2 y3 y4 y5 y6 y7 y8 y9 y10 a9 a10 a11 a12 a1 a2 a13 a14 y11 a15 a16 a17 a3 y12 y13 y14 a18 a19 y15 y16 a20 a21 a22 y17 y18 y19 y20 a23 a24 a25 y21), (mp_arI E a1 0 90 f0), (mp_arI E a2 0 300 f1), (mp_arI E a3 3 1500 f2)] (fun v w' => ∃ r1 : Int32, v = some (.int r1) ∧ (-237) ≤ r1.toInt ∧ r1.toInt ≤ 279 ∧ (mp_ownr f2 x0.toInt.toNat (f1 (6 * x0.toInt.toNat + 3)).toInt (f0 (3 * (f1 (6 * x0.toInt.toNat + 0)).toInt.toNat + 1)).toInt (f1 (6 * x0.toInt.toNat + 4)).toInt x1.toInt r1.toInt) ∧ w' = [(mp_ob10 a0 y0 a4 a5 a6 a7 a8 y1 y2 y3 y4 y5 y6 y7 y8 y9 y10 a9 a10 a11 a12 a1 a2 a13 a14 y11 a15 a16 a17 a3 y12 y13 y14 a18 a19 y15 y16 a20 a21 a22 y17 y18 y19 y20 a23 a24 a25 y21), (mp_arI E a1 0 90 f0), (mp_arI E a2 0 300 f1), (mp_arI E a3 3 1500 f2)]) := by
  refine mp_met false (by decide) (by decide) (Nat.le_of_ble_eq_true rfl) (fun X hF hQ => ?_)
  have hF : mp_F E X (RX10, cX10_ownOf, 6, (1, 0, 0, 22), (some FieldType.int), false) := hF
  let w1_ : va_W := [(mp_ob10 a0 y0 a4 a5 a6 a7 a8 y1 y2 y3 y4 y5 y6 y7 y8 y9 y10 a9 a10 a11 a12 a1 a2 a13 a14 y11 a15 a16 a17 a3 y12 y13 y14 a18 a19 y15 y16 a20 a21 a22 y17 y18 y19 y20 a23 a24 a25 y21), (mp_arI E a1 0 90 f0), (mp_arI E a2 0 300 f1), (mp_arI E a3 3 1500 f2)]
  show mp_W E X 6 0 [(0, .ref a0), (1, .int x0), (2, .int x1)] [] w1_ 0 0
  refine mp_run mp_k_cX10_ownOf_ok hF mp_tabX10_ok [mp_i (.iload_n 2), mp_i (.aload_n 0), mp_i (.iload_n 1), mp_c (.iconst 3) 3] (by decide +kernel) ?_
  show mp_W E X 6 4 [(0, .ref a0), (1, .int x0), (2, .int x1)] [.int 3, .int x0, .ref a0, .int x1] w1_ 0 0
  refine mp_callV hF (As := [.int x0, .int 3]) (rest := [.int x1]) (wr := [(mp_arI E a1 0 90 f0), (mp_arI E a3 3 1500 f2)]) (bX10_of_63 E a0 a2 a4 a5 a6 a7 a8 a9 a10 a11 a12 a1 a13 a14 a15 a16 a17 a3 a18 a19 a20 a21 a22 a23 a24 a25 f1 y0 y1 y2 y3 y4 y5 y6 y7 y8 y9 y10 y11 y12 y13 y14 y15 y16 y17 y18 y19 y20 y21 x0 p2 p3 p4 p5 l_x0 u_x0 l_y1 u_y1 l_y2 u_y2 l_y3 u_y3 l_y4 u_y4 l_y11 u_y11 l_y12 u_y12 l_y13 u_y13) mp_lkX10_267 0 rfl [0, 2] [1, 3] rfl rfl rfl rfl rfl ⟨(Nat.le_of_ble_eq_true rfl), (Nat.le_of_ble_eq_true rfl), (Nat.le_of_ble_eq_true rfl), (Nat.le_of_ble_eq_true rfl)⟩ (Nat.le_of_ble_eq_true rfl) (by first | exact mp_fd_ok mp_k_cX10_ownOf_ok (by decide +kernel) | decide +kernel) (fun v_1 w_2 h_3 => ?_)
  refine h_3.elim fun r_4 q_8 => q_8.elim fun e_9 q_10 => q_10.elim fun l_5 q_11 => q_11.elim fun u_6 q_12 => q_12.elim fun x_7 e_13 => ?_
  clear h_3 q_8 q_10 q_11 q_12
  subst e_9
  subst e_13
  let w2_ : va_W := [(mp_arI E a1 0 90 f0), (mp_arI E a3 3 1500 f2), (mp_ob10 a0 y0 a4 a5 a6 a7 a8 y1 y2 y3 y4 y5 y6 y7 y8 y9 y10 a9 a10 a11 a12 a1 a2 a13 a14 y11 a15 a16 a17 a3 y12 y13 y14 a18 a19 y15 y16 a20 a21 a22 y17 y18 y19 y20 a23 a24 a25 y21), (mp_arI E a2 0 300 f1)]
  show mp_W E X 6 7 [(0, .ref a0), (1, .int x0), (2, .int x1)] [.int r_4, .int x1] w2_ 0 0
  refine mp_run mp_k_cX10_ownOf_ok hF mp_tabX10_ok [mp_h (.if_icmp .ge 5) [12]] (by decide +kernel) ?_
  refine And.intro (fun c_14 => ?_) (fun c_14 => ?_)
  · have c_14 : r_4.toInt ≤ x1.toInt := c_14
    show mp_W E X 6 12 [(0, .ref a0), (1, .int x0), (2, .int x1)] [] w2_ 0 0
    refine mp_run mp_k_cX10_ownOf_ok hF mp_tabX10_ok [mp_i (.iload_n 2), mp_i (.istore_n 3)] (by decide +kernel) ?_
    show mp_W E X 6 14 [(3, .int x1), (0, .ref a0), (1, .int x0), (2, .int x1)] [] w2_ 0 0
    have lp_21 : ∀ (d_22 : Nat) (i_15 : Int32), 0 ≤ i_15.toInt → i_15.toInt ≤ 139 → (∀ j : Nat, i_15.toInt < (j : Int) → (j : Int) ≤ x1.toInt → (f2 (150 * x0.toInt.toNat + j)).toInt = 0) → ((f1 (6 * x0.toInt.toNat + 3)).toInt ≤ i_15.toInt) → (i_15.toInt ≤ x1.toInt) → i_15.toInt ≤ (d_22 : Int) → mp_W E X 6 14 [(3, .int i_15), (0, .ref a0), (1, .int x0), (2, .int x1)] [] [(mp_arI E a1 0 90 f0), (mp_arI E a3 3 1500 f2), (mp_ob10 a0 y0 a4 a5 a6 a7 a8 y1 y2 y3 y4 y5 y6 y7 y8 y9 y10 a9 a10 a11 a12 a1 a2 a13 a14 y11 a15 a16 a17 a3 y12 y13 y14 a18 a19 y15 y16 a20 a21 a22 y17 y18 y19 y20 a23 a24 a25 y21), (mp_arI E a2 0 300 f1)] 0 0 := by
      intro d_22
      induction d_22 using Nat.strongRecOn with
      | ind d_22 ih_23 =>
        intro i_15 l_16 u_17 x_18 x_19 x_20 hm_24
        refine mp_run mp_k_cX10_ownOf_ok hF mp_tabX10_ok [mp_i (.iload_n 3), mp_i (.aload_n 0), mp_i (.iload_n 1), mp_c (.iconst 3) 3] (by decide +kernel) ?_
        show mp_W E X 6 18 [(3, .int i_15), (0, .ref a0), (1, .int x0), (2, .int x1)] [.int 3, .int x0, .ref a0, .int i_15] w2_ 0 0
        refine mp_callV hF (As := [.int x0, .int 3]) (rest := [.int i_15]) (wr := [(mp_arI E a1 0 90 f0), (mp_arI E a3 3 1500 f2)]) (bX10_of_63 E a0 a2 a4 a5 a6 a7 a8 a9 a10 a11 a12 a1 a13 a14 a15 a16 a17 a3 a18 a19 a20 a21 a22 a23 a24 a25 f1 y0 y1 y2 y3 y4 y5 y6 y7 y8 y9 y10 y11 y12 y13 y14 y15 y16 y17 y18 y19 y20 y21 x0 p2 p3 p4 p5 l_x0 u_x0 l_y1 u_y1 l_y2 u_y2 l_y3 u_y3 l_y4 u_y4 l_y11 u_y11 l_y12 u_y12 l_y13 u_y13) mp_lkX10_267 2 rfl [2, 3] [0, 1] rfl rfl rfl rfl rfl ⟨(Nat.le_of_ble_eq_true rfl), (Nat.le_of_ble_eq_true rfl), (Nat.le_of_ble_eq_true rfl), (Nat.le_of_ble_eq_true rfl)⟩ (Nat.le_of_ble_eq_true rfl) (by first | exact mp_fd_ok mp_k_cX10_ownOf_ok (by decide +kernel) | decide +kernel) (fun v_25 w_26 h_27 => ?_)
        refine h_27.elim fun r_28 q_32 => q_32.elim fun e_33 q_34 => q_34.elim fun l_29 q_35 => q_35.elim fun u_30 q_36 => q_36.elim fun x_31 e_37 => ?_
        clear h_27 q_32 q_34 q_35 q_36
        subst e_33
        subst e_37
        show mp_W E X 6 21 [(3, .int i_15), (0, .ref a0), (1, .int x0), (2, .int x1)] [.int r_28, .int i_15] w2_ 0 0
        refine mp_run mp_k_cX10_ownOf_ok hF mp_tabX10_ok [mp_h (.if_icmp .le 24) [45]] (by decide +kernel) ?_
        refine And.intro (fun c_38 => ?_) (fun c_38 => ?_)
        · have c_38 : i_15.toInt ≤ r_28.toInt := c_38
          show mp_W E X 6 45 [(3, .int i_15), (0, .ref a0), (1, .int x0), (2, .int x1)] [] w2_ 0 0
          refine mp_run mp_k_cX10_ownOf_ok hF mp_tabX10_ok [mp_i (.iload_n 3), mp_i (.aload_n 0), mp_i (.iload_n 1), mp_c (.iconst 3) 3] (by decide +kernel) ?_
          show mp_W E X 6 49 [(3, .int i_15), (0, .ref a0), (1, .int x0), (2, .int x1)] [.int 3, .int x0, .ref a0, .int i_15] w2_ 0 0
          refine mp_callV hF (As := [.int x0, .int 3]) (rest := [.int i_15]) (wr := [(mp_arI E a1 0 90 f0), (mp_arI E a3 3 1500 f2)]) (bX10_of_63 E a0 a2 a4 a5 a6 a7 a8 a9 a10 a11 a12 a1 a13 a14 a15 a16 a17 a3 a18 a19 a20 a21 a22 a23 a24 a25 f1 y0 y1 y2 y3 y4 y5 y6 y7 y8 y9 y10 y11 y12 y13 y14 y15 y16 y17 y18 y19 y20 y21 x0 p2 p3 p4 p5 l_x0 u_x0 l_y1 u_y1 l_y2 u_y2 l_y3 u_y3 l_y4 u_y4 l_y11 u_y11 l_y12 u_y12 l_y13 u_y13) mp_lkX10_267 2 rfl [2, 3] [0, 1] rfl rfl rfl rfl rfl ⟨(Nat.le_of_ble_eq_true rfl), (Nat.le_of_ble_eq_true rfl), (Nat.le_of_ble_eq_true rfl), (Nat.le_of_ble_eq_true rfl)⟩ (Nat.le_of_ble_eq_true rfl) (by first | exact mp_fd_ok mp_k_cX10_ownOf_ok (by decide +kernel) | decide +kernel) (fun v_39 w_40 h_41 => ?_)
          refine h_41.elim fun r_42 q_46 => q_46.elim fun e_47 q_48 => q_48.elim fun l_43 q_49 => q_49.elim fun u_44 q_50 => q_50.elim fun x_45 e_51 => ?_
          clear h_41 q_46 q_48 q_49 q_50
          subst e_47
          subst e_51
          show mp_W E X 6 52 [(3, .int i_15), (0, .ref a0), (1, .int x0), (2, .int x1)] [.int r_42, .int i_15] w2_ 0 0
          refine mp_run mp_k_cX10_ownOf_ok hF mp_tabX10_ok [mp_h (.if_icmp .ne 22) [74]] (by decide +kernel) ?_
          refine And.intro (fun c_52 => ?_) (fun c_52 => ?_)
          · have c_52 : i_15.toInt ≠ r_42.toInt := c_52
            show mp_W E X 6 74 [(3, .int i_15), (0, .ref a0), (1, .int x0), (2, .int x1)] [] w2_ 0 0
            refine mp_run mp_k_cX10_ownOf_ok hF mp_tabX10_ok [mp_c (.iconst 0) 0, mp_i (.istore 4), mp_i (.aload_n 0), mp_h (.getfield 44) [20, 2], mp_c (.iconst 3) 3, mp_i (.aload_n 0), mp_i (.iload_n 1), mp_c (.iconst 0) 0] (by decide +kernel) ?_
            refine And.intro rfl (And.intro rfl ?_)
            show mp_W E X 6 85 [(4, .int 0), (3, .int i_15), (0, .ref a0), (1, .int x0), (2, .int x1)] [.int 0, .int x0, .ref a0, .int 3, .ref a1] w2_ 0 0
            refine mp_callV hF (As := [.int x0, .int 0]) (rest := [.int 3, .ref a1]) (wr := [(mp_arI E a1 0 90 f0), (mp_arI E a3 3 1500 f2)]) (bX10_of_64 E a0 a2 a4 a5 a6 a7 a8 a9 a10 a11 a12 a1 a13 a14 a15 a16 a17 a3 a18 a19 a20 a21 a22 a23 a24 a25 f1 y0 y1 y2 y3 y4 y5 y6 y7 y8 y9 y10 y11 y12 y13 y14 y15 y16 y17 y18 y19 y20 y21 x0 p2 p3 p4 p5 l_x0 u_x0 l_y1 u_y1 l_y2 u_y2 l_y3 u_y3 l_y4 u_y4 l_y11 u_y11 l_y12 u_y12 l_y13 u_y13) mp_lkX10_267 2 rfl [2, 3] [0, 1] rfl rfl rfl rfl rfl ⟨(Nat.le_of_ble_eq_true rfl), (Nat.le_of_ble_eq_true rfl), (Nat.le_of_ble_eq_true rfl), (Nat.le_of_ble_eq_true rfl)⟩ (Nat.le_of_ble_eq_true rfl) (by first | exact mp_fd_ok mp_k_cX10_ownOf_ok (by decide +kernel) | decide +kernel) (fun v_53 w_54 h_55 => ?_)
            refine h_55.elim fun r_56 q_60 => q_60.elim fun e_61 q_62 => q_62.elim fun l_57 q_63 => q_63.elim fun u_58 q_64 => q_64.elim fun x_59 e_65 => ?_
            clear h_55 q_60 q_62 q_63 q_64
            subst e_61
            subst e_65
            show mp_W E X 6 88 [(4, .int 0), (3, .int i_15), (0, .ref a0), (1, .int x0), (2, .int x1)] [.int r_56, .int 3, .ref a1] w2_ 0 0
            refine mp_run mp_k_cX10_ownOf_ok hF mp_tabX10_ok [mp_i .imul, mp_c (.iconst 1) 1, mp_i .iadd, mp_h .iaload [0], mp_i (.istore 5), mp_i (.iload_n 2), mp_i (.iload_n 3), mp_i .isub, mp_i (.iload 4), mp_h (.ifCond .eq 12) [111]] (by decide +kernel) ?_
            intro z_66 h_67
            have e_68 : z_66.toInt = 3 * r_56.toInt := mp_mul (a := 3) (b := r_56.toInt) h_67 (by decide) rfl (by omega) (by omega)
            intro z_69 h_70
            have e_71 : z_69.toInt = z_66.toInt + 1 := mp_add (a := z_66.toInt) (b := 1) h_70 rfl (by decide) (by omega) (by omega)
            refine And.intro rfl (And.intro rfl (And.intro (vp_in_iff.mpr (by omega)) ?_))
            intro z_72 h_73
            have e_74 : (-1) ≤ z_72.toInt ∧ z_72.toInt ≤ 99 := mp_res_ld h_73 p1 (by omega) (by omega) (by omega)
            have e_75 : z_72.toInt = (f0 (3 * (f1 (6 * x0.toInt.toNat + 0)).toInt.toNat + 1)).toInt := mp_at_i h_73 (by omega)
            intro z_76 h_77
            have e_78 : z_76.toInt = x1.toInt - i_15.toInt := mp_subi (a := x1.toInt) (b := i_15.toInt) h_77 rfl rfl (by omega) (by omega)
            refine And.intro (fun _ => ?_) (fun c_79 => absurd c_79 (by decide))
            show mp_W E X 6 111 [(5, .int z_72), (4, .int 0), (3, .int i_15), (0, .ref a0), (1, .int x0), (2, .int x1)] [.int z_76] w2_ 0 0
            refine mp_run mp_k_cX10_ownOf_ok hF mp_tabX10_ok [mp_c (.iconst 0) 0, mp_i .iadd, mp_i (.iload 5), mp_c (.iconst (-1)) (-1), mp_h (.if_icmp .eq 16) [132]] (by decide +kernel) ?_
            intro z_80 h_81
            have e_82 : z_80.toInt = z_76.toInt + 0 := mp_add (a := z_76.toInt) (b := 0) h_81 rfl (by decide) (by omega) (by omega)
            refine And.intro (fun c_83 => ?_) (fun c_83 => ?_)
            · have c_83 : z_72.toInt = (-1) := (congrArg Int32.toInt c_83)
              show mp_W E X 6 132 [(5, .int z_72), (4, .int 0), (3, .int i_15), (0, .ref a0), (1, .int x0), (2, .int x1)] [.int z_80] w2_ 0 0
              refine mp_run mp_k_cX10_ownOf_ok hF mp_tabX10_ok [mp_c (.iconst 0) 0, mp_i .iadd] (by decide +kernel) ?_
              intro z_84 h_85
              have e_86 : z_84.toInt = z_80.toInt + 0 := mp_add (a := z_80.toInt) (b := 0) h_85 rfl (by decide) (by omega) (by omega)
              show mp_W E X 6 134 [(5, .int z_72), (4, .int 0), (3, .int i_15), (0, .ref a0), (1, .int x0), (2, .int x1)] [.int z_84] w2_ 0 0
              exact mp_iret hF hQ rfl rfl (Nat.le_of_ble_eq_true rfl) (Nat.le_of_ble_eq_true rfl) [2, 0, 3, 1] (w' := w1_) rfl rfl ⟨z_84, rfl, (by omega), (by omega), (by first | exact mp_own_e (a := 0) (b := 0) x_18 (by omega) (by omega) (by omega) (fun q => by omega) (by first | exact Or.inl ⟨by omega, by omega, rfl⟩ | exact Or.inr ⟨by omega, rfl⟩) (by first | exact Or.inl ⟨by omega, by omega, rfl⟩ | exact Or.inr ⟨by omega, rfl⟩) (by omega) | exact mp_own_e (a := (f1 (6 * x0.toInt.toNat + 4)).toInt) (b := x1.toInt - (f0 (3 * (f1 (6 * x0.toInt.toNat + 0)).toInt.toNat + 1)).toInt) x_18 (by omega) (by omega) (by omega) (fun q => by omega) (by first | exact Or.inl ⟨by omega, by omega, rfl⟩ | exact Or.inr ⟨by omega, rfl⟩) (by first | exact Or.inl ⟨by omega, by omega, rfl⟩ | exact Or.inr ⟨by omega, rfl⟩) (by omega) | exact mp_own_e (a := (f1 (6 * x0.toInt.toNat + 4)).toInt) (b := 0) x_18 (by omega) (by omega) (by omega) (fun q => by omega) (by first | exact Or.inl ⟨by omega, by omega, rfl⟩ | exact Or.inr ⟨by omega, rfl⟩) (by first | exact Or.inl ⟨by omega, by omega, rfl⟩ | exact Or.inr ⟨by omega, rfl⟩) (by omega) | exact mp_own_e (a := 0) (b := x1.toInt - (f0 (3 * (f1 (6 * x0.toInt.toNat + 0)).toInt.toNat + 1)).toInt) x_18 (by omega) (by omega) (by omega) (fun q => by omega) (by first | exact Or.inl ⟨by omega, by omega, rfl⟩ | exact Or.inr ⟨by omega, rfl⟩) (by first | exact Or.inl ⟨by omega, by omega, rfl⟩ | exact Or.inr ⟨by omega, rfl⟩) (by omega)), rfl⟩ (by first | exact mp_fd_ok mp_k_cX10_ownOf_ok (by decide +kernel) | decide +kernel)
            · have c_83 : z_72.toInt ≠ (-1) := c_83
              show mp_W E X 6 119 [(5, .int z_72), (4, .int 0), (3, .int i_15), (0, .ref a0), (1, .int x0), (2, .int x1)] [.int z_80] w2_ 0 0
              refine mp_run mp_k_cX10_ownOf_ok hF mp_tabX10_ok [mp_i (.iload_n 2), mp_i (.iload 5), mp_h (.if_icmp .le 10) [132]] (by decide +kernel) ?_
              refine And.intro (fun c_87 => ?_) (fun c_87 => ?_)
              · have c_87 : x1.toInt ≤ z_72.toInt := c_87
                show mp_W E X 6 132 [(5, .int z_72), (4, .int 0), (3, .int i_15), (0, .ref a0), (1, .int x0), (2, .int x1)] [.int z_80] w2_ 0 0
                refine mp_run mp_k_cX10_ownOf_ok hF mp_tabX10_ok [mp_c (.iconst 0) 0, mp_i .iadd] (by decide +kernel) ?_
                intro z_88 h_89
                have e_90 : z_88.toInt = z_80.toInt + 0 := mp_add (a := z_80.toInt) (b := 0) h_89 rfl (by decide) (by omega) (by omega)
                show mp_W E X 6 134 [(5, .int z_72), (4, .int 0), (3, .int i_15), (0, .ref a0), (1, .int x0), (2, .int x1)] [.int z_88] w2_ 0 0
                exact mp_iret hF hQ rfl rfl (Nat.le_of_ble_eq_true rfl) (Nat.le_of_ble_eq_true rfl) [2, 0, 3, 1] (w' := w1_) rfl rfl ⟨z_88, rfl, (by omega), (by omega), (by first | exact mp_own_e (a := 0) (b := 0) x_18 (by omega) (by omega) (by omega) (fun q => by omega) (by first | exact Or.inl ⟨by omega, by omega, rfl⟩ | exact Or.inr ⟨by omega, rfl⟩) (by first | exact Or.inl ⟨by omega, by omega, rfl⟩ | exact Or.inr ⟨by omega, rfl⟩) (by omega) | exact mp_own_e (a := (f1 (6 * x0.toInt.toNat + 4)).toInt) (b := x1.toInt - (f0 (3 * (f1 (6 * x0.toInt.toNat + 0)).toInt.toNat + 1)).toInt) x_18 (by omega) (by omega) (by omega) (fun q => by omega) (by first | exact Or.inl ⟨by omega, by omega, rfl⟩ | exact Or.inr ⟨by omega, rfl⟩) (by first | exact Or.inl ⟨by omega, by omega, rfl⟩ | exact Or.inr ⟨by omega, rfl⟩) (by omega) | exact mp_own_e (a := (f1 (6 * x0.toInt.toNat + 4)).toInt) (b := 0) x_18 (by omega) (by omega) (by omega) (fun q => by omega) (by first | exact Or.inl ⟨by omega, by omega, rfl⟩ | exact Or.inr ⟨by omega, rfl⟩) (by first | exact Or.inl ⟨by omega, by omega, rfl⟩ | exact Or.inr ⟨by omega, rfl⟩) (by omega) | exact mp_own_e (a := 0) (b := x1.toInt - (f0 (3 * (f1 (6 * x0.toInt.toNat + 0)).toInt.toNat + 1)).toInt) x_18 (by omega) (by omega) (by omega) (fun q => by omega) (by first | exact Or.inl ⟨by omega, by omega, rfl⟩ | exact Or.inr ⟨by omega, rfl⟩) (by first | exact Or.inl ⟨by omega, by omega, rfl⟩ | exact Or.inr ⟨by omega, rfl⟩) (by omega)), rfl⟩ (by first | exact mp_fd_ok mp_k_cX10_ownOf_ok (by decide +kernel) | decide +kernel)
              · have c_87 : z_72.toInt < x1.toInt := c_87
                show mp_W E X 6 125 [(5, .int z_72), (4, .int 0), (3, .int i_15), (0, .ref a0), (1, .int x0), (2, .int x1)] [.int z_80] w2_ 0 0
                refine mp_run mp_k_cX10_ownOf_ok hF mp_tabX10_ok [mp_i (.iload_n 2), mp_i (.iload 5), mp_i .isub, mp_h (.goto 4) [133], mp_i .iadd] (by decide +kernel) ?_
                intro z_91 h_92
                have e_93 : z_91.toInt = x1.toInt - z_72.toInt := mp_subi (a := x1.toInt) (b := z_72.toInt) h_92 rfl rfl (by omega) (by omega)
                intro z_94 h_95
                have e_96 : z_94.toInt = z_80.toInt + z_91.toInt := mp_add (a := z_80.toInt) (b := z_91.toInt) h_95 rfl rfl (by omega) (by omega)
                show mp_W E X 6 134 [(5, .int z_72), (4, .int 0), (3, .int i_15), (0, .ref a0), (1, .int x0), (2, .int x1)] [.int z_94] w2_ 0 0
                exact mp_iret hF hQ rfl rfl (Nat.le_of_ble_eq_true rfl) (Nat.le_of_ble_eq_true rfl) [2, 0, 3, 1] (w' := w1_) rfl rfl ⟨z_94, rfl, (by omega), (by omega), (by first | exact mp_own_e (a := 0) (b := x1.toInt - (f0 (3 * (f1 (6 * x0.toInt.toNat + 0)).toInt.toNat + 1)).toInt) x_18 (by omega) (by omega) (by omega) (fun q => by omega) (by first | exact Or.inl ⟨by omega, by omega, rfl⟩ | exact Or.inr ⟨by omega, rfl⟩) (by first | exact Or.inl ⟨by omega, by omega, rfl⟩ | exact Or.inr ⟨by omega, rfl⟩) (by omega) | exact mp_own_e (a := (f1 (6 * x0.toInt.toNat + 4)).toInt) (b := x1.toInt - (f0 (3 * (f1 (6 * x0.toInt.toNat + 0)).toInt.toNat + 1)).toInt) x_18 (by omega) (by omega) (by omega) (fun q => by omega) (by first | exact Or.inl ⟨by omega, by omega, rfl⟩ | exact Or.inr ⟨by omega, rfl⟩) (by first | exact Or.inl ⟨by omega, by omega, rfl⟩ | exact Or.inr ⟨by omega, rfl⟩) (by omega) | exact mp_own_e (a := (f1 (6 * x0.toInt.toNat + 4)).toInt) (b := 0) x_18 (by omega) (by omega) (by omega) (fun q => by omega) (by first | exact Or.inl ⟨by omega, by omega, rfl⟩ | exact Or.inr ⟨by omega, rfl⟩) (by first | exact Or.inl ⟨by omega, by omega, rfl⟩ | exact Or.inr ⟨by omega, rfl⟩) (by omega) | exact mp_own_e (a := 0) (b := 0) x_18 (by omega) (by omega) (by omega) (fun q => by omega) (by first | exact Or.inl ⟨by omega, by omega, rfl⟩ | exact Or.inr ⟨by omega, rfl⟩) (by first | exact Or.inl ⟨by omega, by omega, rfl⟩ | exact Or.inr ⟨by omega, rfl⟩) (by omega)), rfl⟩ (by first | exact mp_fd_ok mp_k_cX10_ownOf_ok (by decide +kernel) | decide +kernel)
          · have c_52 : i_15.toInt = r_42.toInt := (congrArg Int32.toInt c_52)
            show mp_W E X 6 55 [(3, .int i_15), (0, .ref a0), (1, .int x0), (2, .int x1)] [] w2_ 0 0
            refine mp_run mp_k_cX10_ownOf_ok hF mp_tabX10_ok [mp_i (.aload_n 0), mp_h (.getfield 65) [28, 2], mp_c (.sipush 150) 150, mp_i (.iload_n 1), mp_i .imul, mp_i (.iload_n 3), mp_i .iadd, mp_h .baload [1, 0], mp_h (.ifCond .ne 7) [74]] (by decide +kernel) ?_
            refine And.intro rfl (And.intro rfl ?_)
            intro z_97 h_98
            have e_99 : z_97.toInt = 150 * x0.toInt := mp_mul (a := 150) (b := x0.toInt) h_98 (by decide) rfl (by omega) (by omega)
            intro z_100 h_101
            have e_102 : z_100.toInt = z_97.toInt + i_15.toInt := mp_add (a := z_97.toInt) (b := i_15.toInt) h_101 rfl rfl (by omega) (by omega)
            refine And.intro rfl (And.intro rfl (And.intro (vp_in_iff.mpr (by omega)) ?_))
            intro z_103 h_104
            have e_106 : z_103.toInt = (f2 (150 * x0.toInt.toNat + i_15.toInt.toNat)).toInt := mp_at_i h_104 (by omega)
            refine And.intro (fun c_107 => ?_) (fun c_107 => ?_)
            · have c_107 : z_103.toInt ≠ 0 := c_107
              show mp_W E X 6 74 [(3, .int i_15), (0, .ref a0), (1, .int x0), (2, .int x1)] [] w2_ 0 0
              refine mp_run mp_k_cX10_ownOf_ok hF mp_tabX10_ok [mp_c (.iconst 0) 0, mp_i (.istore 4), mp_i (.aload_n 0), mp_h (.getfield 44) [20, 2], mp_c (.iconst 3) 3, mp_i (.aload_n 0), mp_i (.iload_n 1), mp_c (.iconst 0) 0] (by decide +kernel) ?_
              refine And.intro rfl (And.intro rfl ?_)
              show mp_W E X 6 85 [(4, .int 0), (3, .int i_15), (0, .ref a0), (1, .int x0), (2, .int x1)] [.int 0, .int x0, .ref a0, .int 3, .ref a1] w2_ 0 0
              refine mp_callV hF (As := [.int x0, .int 0]) (rest := [.int 3, .ref a1]) (wr := [(mp_arI E a1 0 90 f0), (mp_arI E a3 3 1500 f2)]) (bX10_of_64 E a0 a2 a4 a5 a6 a7 a8 a9 a10 a11 a12 a1 a13 a14 a15 a16 a17 a3 a18 a19 a20 a21 a22 a23 a24 a25 f1 y0 y1 y2 y3 y4 y5 y6 y7 y8 y9 y10 y11 y12 y13 y14 y15 y16 y17 y18 y19 y20 y21 x0 p2 p3 p4 p5 l_x0 u_x0 l_y1 u_y1 l_y2 u_y2 l_y3 u_y3 l_y4 u_y4 l_y11 u_y11 l_y12 u_y12 l_y13 u_y13) mp_lkX10_267 2 rfl [2, 3] [0, 1] rfl rfl rfl rfl rfl ⟨(Nat.le_of_ble_eq_true rfl), (Nat.le_of_ble_eq_true rfl), (Nat.le_of_ble_eq_true rfl), (Nat.le_of_ble_eq_true rfl)⟩ (Nat.le_of_ble_eq_true rfl) (by first | exact mp_fd_ok mp_k_cX10_ownOf_ok (by decide +kernel) | decide +kernel) (fun v_108 w_109 h_110 => ?_)
              refine h_110.elim fun r_111 q_115 => q_115.elim fun e_116 q_117 => q_117.elim fun l_112 q_118 => q_118.elim fun u_113 q_119 => q_119.elim fun x_114 e_120 => ?_
              clear h_110 q_115 q_117 q_118 q_119
              subst e_116
              subst e_120
              show mp_W E X 6 88 [(4, .int 0), (3, .int i_15), (0, .ref a0), (1, .int x0), (2, .int x1)] [.int r_111, .int 3, .ref a1] w2_ 0 0
              refine mp_run mp_k_cX10_ownOf_ok hF mp_tabX10_ok [mp_i .imul, mp_c (.iconst 1) 1, mp_i .iadd, mp_h .iaload [0], mp_i (.istore 5), mp_i (.iload_n 2), mp_i (.iload_n 3), mp_i .isub, mp_i (.iload 4), mp_h (.ifCond .eq 12) [111]] (by decide +kernel) ?_
              intro z_121 h_122
              have e_123 : z_121.toInt = 3 * r_111.toInt := mp_mul (a := 3) (b := r_111.toInt) h_122 (by decide) rfl (by omega) (by omega)
              intro z_124 h_125
              have e_126 : z_124.toInt = z_121.toInt + 1 := mp_add (a := z_121.toInt) (b := 1) h_125 rfl (by decide) (by omega) (by omega)
              refine And.intro rfl (And.intro rfl (And.intro (vp_in_iff.mpr (by omega)) ?_))
              intro z_127 h_128
              have e_129 : (-1) ≤ z_127.toInt ∧ z_127.toInt ≤ 99 := mp_res_ld h_128 p1 (by omega) (by omega) (by omega)
              have e_130 : z_127.toInt = (f0 (3 * (f1 (6 * x0.toInt.toNat + 0)).toInt.toNat + 1)).toInt := mp_at_i h_128 (by omega)
              intro z_131 h_132
              have e_133 : z_131.toInt = x1.toInt - i_15.toInt := mp_subi (a := x1.toInt) (b := i_15.toInt) h_132 rfl rfl (by omega) (by omega)
              refine And.intro (fun _ => ?_) (fun c_134 => absurd c_134 (by decide))
              show mp_W E X 6 111 [(5, .int z_127), (4, .int 0), (3, .int i_15), (0, .ref a0), (1, .int x0), (2, .int x1)] [.int z_131] w2_ 0 0
              refine mp_run mp_k_cX10_ownOf_ok hF mp_tabX10_ok [mp_c (.iconst 0) 0, mp_i .iadd, mp_i (.iload 5), mp_c (.iconst (-1)) (-1), mp_h (.if_icmp .eq 16) [132]] (by decide +kernel) ?_
              intro z_135 h_136
              have e_137 : z_135.toInt = z_131.toInt + 0 := mp_add (a := z_131.toInt) (b := 0) h_136 rfl (by decide) (by omega) (by omega)
              refine And.intro (fun c_138 => ?_) (fun c_138 => ?_)
              · have c_138 : z_127.toInt = (-1) := (congrArg Int32.toInt c_138)
                show mp_W E X 6 132 [(5, .int z_127), (4, .int 0), (3, .int i_15), (0, .ref a0), (1, .int x0), (2, .int x1)] [.int z_135] w2_ 0 0
                refine mp_run mp_k_cX10_ownOf_ok hF mp_tabX10_ok [mp_c (.iconst 0) 0, mp_i .iadd] (by decide +kernel) ?_
                intro z_139 h_140
                have e_141 : z_139.toInt = z_135.toInt + 0 := mp_add (a := z_135.toInt) (b := 0) h_140 rfl (by decide) (by omega) (by omega)
                show mp_W E X 6 134 [(5, .int z_127), (4, .int 0), (3, .int i_15), (0, .ref a0), (1, .int x0), (2, .int x1)] [.int z_139] w2_ 0 0
                exact mp_iret hF hQ rfl rfl (Nat.le_of_ble_eq_true rfl) (Nat.le_of_ble_eq_true rfl) [2, 0, 3, 1] (w' := w1_) rfl rfl ⟨z_139, rfl, (by omega), (by omega), (by first | exact mp_own_e (a := 0) (b := 0) x_18 (by omega) (by omega) (by omega) (fun q => by omega) (by first | exact Or.inl ⟨by omega, by omega, rfl⟩ | exact Or.inr ⟨by omega, rfl⟩) (by first | exact Or.inl ⟨by omega, by omega, rfl⟩ | exact Or.inr ⟨by omega, rfl⟩) (by omega) | exact mp_own_e (a := (f1 (6 * x0.toInt.toNat + 4)).toInt) (b := x1.toInt - (f0 (3 * (f1 (6 * x0.toInt.toNat + 0)).toInt.toNat + 1)).toInt) x_18 (by omega) (by omega) (by omega) (fun q => by omega) (by first | exact Or.inl ⟨by omega, by omega, rfl⟩ | exact Or.inr ⟨by omega, rfl⟩) (by first | exact Or.inl ⟨by omega, by omega, rfl⟩ | exact Or.inr ⟨by omega, rfl⟩) (by omega) | exact mp_own_e (a := (f1 (6 * x0.toInt.toNat + 4)).toInt) (b := 0) x_18 (by omega) (by omega) (by omega) (fun q => by omega) (by first | exact Or.inl ⟨by omega, by omega, rfl⟩ | exact Or.inr ⟨by omega, rfl⟩) (by first | exact Or.inl ⟨by omega, by omega, rfl⟩ | exact Or.inr ⟨by omega, rfl⟩) (by omega) | exact mp_own_e (a := 0) (b := x1.toInt - (f0 (3 * (f1 (6 * x0.toInt.toNat + 0)).toInt.toNat + 1)).toInt) x_18 (by omega) (by omega) (by omega) (fun q => by omega) (by first | exact Or.inl ⟨by omega, by omega, rfl⟩ | exact Or.inr ⟨by omega, rfl⟩) (by first | exact Or.inl ⟨by omega, by omega, rfl⟩ | exact Or.inr ⟨by omega, rfl⟩) (by omega)), rfl⟩ (by first | exact mp_fd_ok mp_k_cX10_ownOf_ok (by decide +kernel) | decide +kernel)
              · have c_138 : z_127.toInt ≠ (-1) := c_138
                show mp_W E X 6 119 [(5, .int z_127), (4, .int 0), (3, .int i_15), (0, .ref a0), (1, .int x0), (2, .int x1)] [.int z_135] w2_ 0 0
                refine mp_run mp_k_cX10_ownOf_ok hF mp_tabX10_ok [mp_i (.iload_n 2), mp_i (.iload 5), mp_h (.if_icmp .le 10) [132]] (by decide +kernel) ?_
                refine And.intro (fun c_142 => ?_) (fun c_142 => ?_)
                · have c_142 : x1.toInt ≤ z_127.toInt := c_142
                  show mp_W E X 6 132 [(5, .int z_127), (4, .int 0), (3, .int i_15), (0, .ref a0), (1, .int x0), (2, .int x1)] [.int z_135] w2_ 0 0
                  refine mp_run mp_k_cX10_ownOf_ok hF mp_tabX10_ok [mp_c (.iconst 0) 0, mp_i .iadd] (by decide +kernel) ?_
                  intro z_143 h_144
                  have e_145 : z_143.toInt = z_135.toInt + 0 := mp_add (a := z_135.toInt) (b := 0) h_144 rfl (by decide) (by omega) (by omega)
                  show mp_W E X 6 134 [(5, .int z_127), (4, .int 0), (3, .int i_15), (0, .ref a0), (1, .int x0), (2, .int x1)] [.int z_143] w2_ 0 0
                  exact mp_iret hF hQ rfl rfl (Nat.le_of_ble_eq_true rfl) (Nat.le_of_ble_eq_true rfl) [2, 0, 3, 1] (w' := w1_) rfl rfl ⟨z_143, rfl, (by omega), (by omega), (by first | exact mp_own_e (a := 0) (b := 0) x_18 (by omega) (by omega) (by omega) (fun q => by omega) (by first | exact Or.inl ⟨by omega, by omega, rfl⟩ | exact Or.inr ⟨by omega, rfl⟩) (by first | exact Or.inl ⟨by omega, by omega, rfl⟩ | exact Or.inr ⟨by omega, rfl⟩) (by omega) | exact mp_own_e (a := (f1 (6 * x0.toInt.toNat + 4)).toInt) (b := x1.toInt - (f0 (3 * (f1 (6 * x0.toInt.toNat + 0)).toInt.toNat + 1)).toInt) x_18 (by omega) (by omega) (by omega) (fun q => by omega) (by first | exact Or.inl ⟨by omega, by omega, rfl⟩ | exact Or.inr ⟨by omega, rfl⟩) (by first | exact Or.inl ⟨by omega, by omega, rfl⟩ | exact Or.inr ⟨by omega, rfl⟩) (by omega) | exact mp_own_e (a := (f1 (6 * x0.toInt.toNat + 4)).toInt) (b := 0) x_18 (by omega) (by omega) (by omega) (fun q => by omega) (by first | exact Or.inl ⟨by omega, by omega, rfl⟩ | exact Or.inr ⟨by omega, rfl⟩) (by first | exact Or.inl ⟨by omega, by omega, rfl⟩ | exact Or.inr ⟨by omega, rfl⟩) (by omega) | exact mp_own_e (a := 0) (b := x1.toInt - (f0 (3 * (f1 (6 * x0.toInt.toNat + 0)).toInt.toNat + 1)).toInt) x_18 (by omega) (by omega) (by omega) (fun q => by omega) (by first | exact Or.inl ⟨by omega, by omega, rfl⟩ | exact Or.inr ⟨by omega, rfl⟩) (by first | exact Or.inl ⟨by omega, by omega, rfl⟩ | exact Or.inr ⟨by omega, rfl⟩) (by omega)), rfl⟩ (by first | exact mp_fd_ok mp_k_cX10_ownOf_ok (by decide +kernel) | decide +kernel)
                · have c_142 : z_127.toInt < x1.toInt := c_142
                  show mp_W E X 6 125 [(5, .int z_127), (4, .int 0), (3, .int i_15), (0, .ref a0), (1, .int x0), (2, .int x1)] [.int z_135] w2_ 0 0
                  refine mp_run mp_k_cX10_ownOf_ok hF mp_tabX10_ok [mp_i (.iload_n 2), mp_i (.iload 5), mp_i .isub, mp_h (.goto 4) [133], mp_i .iadd] (by decide +kernel) ?_
                  intro z_146 h_147
                  have e_148 : z_146.toInt = x1.toInt - z_127.toInt := mp_subi (a := x1.toInt) (b := z_127.toInt) h_147 rfl rfl (by omega) (by omega)
                  intro z_149 h_150
                  have e_151 : z_149.toInt = z_135.toInt + z_146.toInt := mp_add (a := z_135.toInt) (b := z_146.toInt) h_150 rfl rfl (by omega) (by omega)
                  show mp_W E X 6 134 [(5, .int z_127), (4, .int 0), (3, .int i_15), (0, .ref a0), (1, .int x0), (2, .int x1)] [.int z_149] w2_ 0 0
                  exact mp_iret hF hQ rfl rfl (Nat.le_of_ble_eq_true rfl) (Nat.le_of_ble_eq_true rfl) [2, 0, 3, 1] (w' := w1_) rfl rfl ⟨z_149, rfl, (by omega), (by omega), (by first | exact mp_own_e (a := 0) (b := x1.toInt - (f0 (3 * (f1 (6 * x0.toInt.toNat + 0)).toInt.toNat + 1)).toInt) x_18 (by omega) (by omega) (by omega) (fun q => by omega) (by first | exact Or.inl ⟨by omega, by omega, rfl⟩ | exact Or.inr ⟨by omega, rfl⟩) (by first | exact Or.inl ⟨by omega, by omega, rfl⟩ | exact Or.inr ⟨by omega, rfl⟩) (by omega) | exact mp_own_e (a := (f1 (6 * x0.toInt.toNat + 4)).toInt) (b := x1.toInt - (f0 (3 * (f1 (6 * x0.toInt.toNat + 0)).toInt.toNat + 1)).toInt) x_18 (by omega) (by omega) (by omega) (fun q => by omega) (by first | exact Or.inl ⟨by omega, by omega, rfl⟩ | exact Or.inr ⟨by omega, rfl⟩) (by first | exact Or.inl ⟨by omega, by omega, rfl⟩ | exact Or.inr ⟨by omega, rfl⟩) (by omega) | exact mp_own_e (a := (f1 (6 * x0.toInt.toNat + 4)).toInt) (b := 0) x_18 (by omega) (by omega) (by omega) (fun q => by omega) (by first | exact Or.inl ⟨by omega, by omega, rfl⟩ | exact Or.inr ⟨by omega, rfl⟩) (by first | exact Or.inl ⟨by omega, by omega, rfl⟩ | exact Or.inr ⟨by omega, rfl⟩) (by omega) | exact mp_own_e (a := 0) (b := 0) x_18 (by omega) (by omega) (by omega) (fun q => by omega) (by first | exact Or.inl ⟨by omega, by omega, rfl⟩ | exact Or.inr ⟨by omega, rfl⟩) (by first | exact Or.inl ⟨by omega, by omega, rfl⟩ | exact Or.inr ⟨by omega, rfl⟩) (by omega)), rfl⟩ (by first | exact mp_fd_ok mp_k_cX10_ownOf_ok (by decide +kernel) | decide +kernel)
            · have c_107 : z_103.toInt = 0 := (congrArg Int32.toInt c_107)
              show mp_W E X 6 70 [(3, .int i_15), (0, .ref a0), (1, .int x0), (2, .int x1)] [] w2_ 0 0
              refine mp_run mp_k_cX10_ownOf_ok hF mp_tabX10_ok [mp_c (.iconst 1) 1, mp_h (.goto 4) [75], mp_i (.istore 4), mp_i (.aload_n 0), mp_h (.getfield 44) [20, 2], mp_c (.iconst 3) 3, mp_i (.aload_n 0), mp_i (.iload_n 1), mp_c (.iconst 0) 0] (by decide +kernel) ?_
              refine And.intro rfl (And.intro rfl ?_)
              show mp_W E X 6 85 [(4, .int 1), (3, .int i_15), (0, .ref a0), (1, .int x0), (2, .int x1)] [.int 0, .int x0, .ref a0, .int 3, .ref a1] w2_ 0 0
              refine mp_callV hF (As := [.int x0, .int 0]) (rest := [.int 3, .ref a1]) (wr := [(mp_arI E a1 0 90 f0), (mp_arI E a3 3 1500 f2)]) (bX10_of_64 E a0 a2 a4 a5 a6 a7 a8 a9 a10 a11 a12 a1 a13 a14 a15 a16 a17 a3 a18 a19 a20 a21 a22 a23 a24 a25 f1 y0 y1 y2 y3 y4 y5 y6 y7 y8 y9 y10 y11 y12 y13 y14 y15 y16 y17 y18 y19 y20 y21 x0 p2 p3 p4 p5 l_x0 u_x0 l_y1 u_y1 l_y2 u_y2 l_y3 u_y3 l_y4 u_y4 l_y11 u_y11 l_y12 u_y12 l_y13 u_y13) mp_lkX10_267 2 rfl [2, 3] [0, 1] rfl rfl rfl rfl rfl ⟨(Nat.le_of_ble_eq_true rfl), (Nat.le_of_ble_eq_true rfl), (Nat.le_of_ble_eq_true rfl), (Nat.le_of_ble_eq_true rfl)⟩ (Nat.le_of_ble_eq_true rfl) (by first | exact mp_fd_ok mp_k_cX10_ownOf_ok (by decide +kernel) | decide +kernel) (fun v_152 w_153 h_154 => ?_)
              refine h_154.elim fun r_155 q_159 => q_159.elim fun e_160 q_161 => q_161.elim fun l_156 q_162 => q_162.elim fun u_157 q_163 => q_163.elim fun x_158 e_164 => ?_
              clear h_154 q_159 q_161 q_162 q_163
              subst e_160
              subst e_164
              show mp_W E X 6 88 [(4, .int 1), (3, .int i_15), (0, .ref a0), (1, .int x0), (2, .int x1)] [.int r_155, .int 3, .ref a1] w2_ 0 0
              refine mp_run mp_k_cX10_ownOf_ok hF mp_tabX10_ok [mp_i .imul, mp_c (.iconst 1) 1, mp_i .iadd, mp_h .iaload [0], mp_i (.istore 5), mp_i (.iload_n 2), mp_i (.iload_n 3), mp_i .isub, mp_i (.iload 4), mp_h (.ifCond .eq 12) [111]] (by decide +kernel) ?_
              intro z_165 h_166
              have e_167 : z_165.toInt = 3 * r_155.toInt := mp_mul (a := 3) (b := r_155.toInt) h_166 (by decide) rfl (by omega) (by omega)
              intro z_168 h_169
              have e_170 : z_168.toInt = z_165.toInt + 1 := mp_add (a := z_165.toInt) (b := 1) h_169 rfl (by decide) (by omega) (by omega)
              refine And.intro rfl (And.intro rfl (And.intro (vp_in_iff.mpr (by omega)) ?_))
              intro z_171 h_172
              have e_173 : (-1) ≤ z_171.toInt ∧ z_171.toInt ≤ 99 := mp_res_ld h_172 p1 (by omega) (by omega) (by omega)
              have e_174 : z_171.toInt = (f0 (3 * (f1 (6 * x0.toInt.toNat + 0)).toInt.toNat + 1)).toInt := mp_at_i h_172 (by omega)
              intro z_175 h_176
              have e_177 : z_175.toInt = x1.toInt - i_15.toInt := mp_subi (a := x1.toInt) (b := i_15.toInt) h_176 rfl rfl (by omega) (by omega)
              refine And.intro (fun c_178 => absurd c_178 (by decide)) (fun _ => ?_)
              show mp_W E X 6 102 [(5, .int z_171), (4, .int 1), (3, .int i_15), (0, .ref a0), (1, .int x0), (2, .int x1)] [.int z_175] w2_ 0 0
              refine mp_run mp_k_cX10_ownOf_ok hF mp_tabX10_ok [mp_i (.aload_n 0), mp_i (.iload_n 1), mp_c (.iconst 4) 4] (by decide +kernel) ?_
              show mp_W E X 6 105 [(5, .int z_171), (4, .int 1), (3, .int i_15), (0, .ref a0), (1, .int x0), (2, .int x1)] [.int 4, .int x0, .ref a0, .int z_175] w2_ 0 0
              refine mp_callV hF (As := [.int x0, .int 4]) (rest := [.int z_175]) (wr := [(mp_arI E a1 0 90 f0), (mp_arI E a3 3 1500 f2)]) (bX10_of_65 E a0 a2 a4 a5 a6 a7 a8 a9 a10 a11 a12 a1 a13 a14 a15 a16 a17 a3 a18 a19 a20 a21 a22 a23 a24 a25 f1 y0 y1 y2 y3 y4 y5 y6 y7 y8 y9 y10 y11 y12 y13 y14 y15 y16 y17 y18 y19 y20 y21 x0 p2 p3 p4 p5 l_x0 u_x0 l_y1 u_y1 l_y2 u_y2 l_y3 u_y3 l_y4 u_y4 l_y11 u_y11 l_y12 u_y12 l_y13 u_y13) mp_lkX10_267 2 rfl [2, 3] [0, 1] rfl rfl rfl rfl rfl ⟨(Nat.le_of_ble_eq_true rfl), (Nat.le_of_ble_eq_true rfl), (Nat.le_of_ble_eq_true rfl), (Nat.le_of_ble_eq_true rfl)⟩ (Nat.le_of_ble_eq_true rfl) (by first | exact mp_fd_ok mp_k_cX10_ownOf_ok (by decide +kernel) | decide +kernel) (fun v_179 w_180 h_181 => ?_)
              refine h_181.elim fun r_182 q_186 => q_186.elim fun e_187 q_188 => q_188.elim fun l_183 q_189 => q_189.elim fun u_184 q_190 => q_190.elim fun x_185 e_191 => ?_
              clear h_181 q_186 q_188 q_189 q_190
              subst e_187
              subst e_191
              show mp_W E X 6 108 [(5, .int z_171), (4, .int 1), (3, .int i_15), (0, .ref a0), (1, .int x0), (2, .int x1)] [.int r_182, .int z_175] w2_ 0 0
              refine mp_run mp_k_cX10_ownOf_ok hF mp_tabX10_ok [mp_h (.goto 4) [112], mp_i .iadd, mp_i (.iload 5), mp_c (.iconst (-1)) (-1), mp_h (.if_icmp .eq 16) [132]] (by decide +kernel) ?_
              intro z_192 h_193
              have e_194 : z_192.toInt = z_175.toInt + r_182.toInt := mp_add (a := z_175.toInt) (b := r_182.toInt) h_193 rfl rfl (by omega) (by omega)
              refine And.intro (fun c_195 => ?_) (fun c_195 => ?_)
              · have c_195 : z_171.toInt = (-1) := (congrArg Int32.toInt c_195)
                show mp_W E X 6 132 [(5, .int z_171), (4, .int 1), (3, .int i_15), (0, .ref a0), (1, .int x0), (2, .int x1)] [.int z_192] w2_ 0 0
                refine mp_run mp_k_cX10_ownOf_ok hF mp_tabX10_ok [mp_c (.iconst 0) 0, mp_i .iadd] (by decide +kernel) ?_
                intro z_196 h_197
                have e_198 : z_196.toInt = z_192.toInt + 0 := mp_add (a := z_192.toInt) (b := 0) h_197 rfl (by decide) (by omega) (by omega)
                show mp_W E X 6 134 [(5, .int z_171), (4, .int 1), (3, .int i_15), (0, .ref a0), (1, .int x0), (2, .int x1)] [.int z_196] w2_ 0 0
                exact mp_iret hF hQ rfl rfl (Nat.le_of_ble_eq_true rfl) (Nat.le_of_ble_eq_true rfl) [2, 0, 3, 1] (w' := w1_) rfl rfl ⟨z_196, rfl, (by omega), (by omega), (by first | exact mp_own_e (a := (f1 (6 * x0.toInt.toNat + 4)).toInt) (b := 0) x_18 (by omega) (by omega) (by omega) (fun q => by omega) (by first | exact Or.inl ⟨by omega, by omega, rfl⟩ | exact Or.inr ⟨by omega, rfl⟩) (by first | exact Or.inl ⟨by omega, by omega, rfl⟩ | exact Or.inr ⟨by omega, rfl⟩) (by omega) | exact mp_own_e (a := (f1 (6 * x0.toInt.toNat + 4)).toInt) (b := x1.toInt - (f0 (3 * (f1 (6 * x0.toInt.toNat + 0)).toInt.toNat + 1)).toInt) x_18 (by omega) (by omega) (by omega) (fun q => by omega) (by first | exact Or.inl ⟨by omega, by omega, rfl⟩ | exact Or.inr ⟨by omega, rfl⟩) (by first | exact Or.inl ⟨by omega, by omega, rfl⟩ | exact Or.inr ⟨by omega, rfl⟩) (by omega) | exact mp_own_e (a := 0) (b := x1.toInt - (f0 (3 * (f1 (6 * x0.toInt.toNat + 0)).toInt.toNat + 1)).toInt) x_18 (by omega) (by omega) (by omega) (fun q => by omega) (by first | exact Or.inl ⟨by omega, by omega, rfl⟩ | exact Or.inr ⟨by omega, rfl⟩) (by first | exact Or.inl ⟨by omega, by omega, rfl⟩ | exact Or.inr ⟨by omega, rfl⟩) (by omega) | exact mp_own_e (a := 0) (b := 0) x_18 (by omega) (by omega) (by omega) (fun q => by omega) (by first | exact Or.inl ⟨by omega, by omega, rfl⟩ | exact Or.inr ⟨by omega, rfl⟩) (by first | exact Or.inl ⟨by omega, by omega, rfl⟩ | exact Or.inr ⟨by omega, rfl⟩) (by omega)), rfl⟩ (by first | exact mp_fd_ok mp_k_cX10_ownOf_ok (by decide +kernel) | decide +kernel)
              · have c_195 : z_171.toInt ≠ (-1) := c_195
                show mp_W E X 6 119 [(5, .int z_171), (4, .int 1), (3, .int i_15), (0, .ref a0), (1, .int x0), (2, .int x1)] [.int z_192] w2_ 0 0
                refine mp_run mp_k_cX10_ownOf_ok hF mp_tabX10_ok [mp_i (.iload_n 2), mp_i (.iload 5), mp_h (.if_icmp .le 10) [132]] (by decide +kernel) ?_
                refine And.intro (fun c_199 => ?_) (fun c_199 => ?_)
                · have c_199 : x1.toInt ≤ z_171.toInt := c_199
                  show mp_W E X 6 132 [(5, .int z_171), (4, .int 1), (3, .int i_15), (0, .ref a0), (1, .int x0), (2, .int x1)] [.int z_192] w2_ 0 0
                  refine mp_run mp_k_cX10_ownOf_ok hF mp_tabX10_ok [mp_c (.iconst 0) 0, mp_i .iadd] (by decide +kernel) ?_
                  intro z_200 h_201
                  have e_202 : z_200.toInt = z_192.toInt + 0 := mp_add (a := z_192.toInt) (b := 0) h_201 rfl (by decide) (by omega) (by omega)
                  show mp_W E X 6 134 [(5, .int z_171), (4, .int 1), (3, .int i_15), (0, .ref a0), (1, .int x0), (2, .int x1)] [.int z_200] w2_ 0 0
                  exact mp_iret hF hQ rfl rfl (Nat.le_of_ble_eq_true rfl) (Nat.le_of_ble_eq_true rfl) [2, 0, 3, 1] (w' := w1_) rfl rfl ⟨z_200, rfl, (by omega), (by omega), (by first | exact mp_own_e (a := (f1 (6 * x0.toInt.toNat + 4)).toInt) (b := 0) x_18 (by omega) (by omega) (by omega) (fun q => by omega) (by first | exact Or.inl ⟨by omega, by omega, rfl⟩ | exact Or.inr ⟨by omega, rfl⟩) (by first | exact Or.inl ⟨by omega, by omega, rfl⟩ | exact Or.inr ⟨by omega, rfl⟩) (by omega) | exact mp_own_e (a := (f1 (6 * x0.toInt.toNat + 4)).toInt) (b := x1.toInt - (f0 (3 * (f1 (6 * x0.toInt.toNat + 0)).toInt.toNat + 1)).toInt) x_18 (by omega) (by omega) (by omega) (fun q => by omega) (by first | exact Or.inl ⟨by omega, by omega, rfl⟩ | exact Or.inr ⟨by omega, rfl⟩) (by first | exact Or.inl ⟨by omega, by omega, rfl⟩ | exact Or.inr ⟨by omega, rfl⟩) (by omega) | exact mp_own_e (a := 0) (b := x1.toInt - (f0 (3 * (f1 (6 * x0.toInt.toNat + 0)).toInt.toNat + 1)).toInt) x_18 (by omega) (by omega) (by omega) (fun q => by omega) (by first | exact Or.inl ⟨by omega, by omega, rfl⟩ | exact Or.inr ⟨by omega, rfl⟩) (by first | exact Or.inl ⟨by omega, by omega, rfl⟩ | exact Or.inr ⟨by omega, rfl⟩) (by omega) | exact mp_own_e (a := 0) (b := 0) x_18 (by omega) (by omega) (by omega) (fun q => by omega) (by first | exact Or.inl ⟨by omega, by omega, rfl⟩ | exact Or.inr ⟨by omega, rfl⟩) (by first | exact Or.inl ⟨by omega, by omega, rfl⟩ | exact Or.inr ⟨by omega, rfl⟩) (by omega)), rfl⟩ (by first | exact mp_fd_ok mp_k_cX10_ownOf_ok (by decide +kernel) | decide +kernel)
                · have c_199 : z_171.toInt < x1.toInt := c_199
                  show mp_W E X 6 125 [(5, .int z_171), (4, .int 1), (3, .int i_15), (0, .ref a0), (1, .int x0), (2, .int x1)] [.int z_192] w2_ 0 0
                  refine mp_run mp_k_cX10_ownOf_ok hF mp_tabX10_ok [mp_i (.iload_n 2), mp_i (.iload 5), mp_i .isub, mp_h (.goto 4) [133], mp_i .iadd] (by decide +kernel) ?_
                  intro z_203 h_204
                  have e_205 : z_203.toInt = x1.toInt - z_171.toInt := mp_subi (a := x1.toInt) (b := z_171.toInt) h_204 rfl rfl (by omega) (by omega)
                  intro z_206 h_207
                  have e_208 : z_206.toInt = z_192.toInt + z_203.toInt := mp_add (a := z_192.toInt) (b := z_203.toInt) h_207 rfl rfl (by omega) (by omega)
                  show mp_W E X 6 134 [(5, .int z_171), (4, .int 1), (3, .int i_15), (0, .ref a0), (1, .int x0), (2, .int x1)] [.int z_206] w2_ 0 0
                  exact mp_iret hF hQ rfl rfl (Nat.le_of_ble_eq_true rfl) (Nat.le_of_ble_eq_true rfl) [2, 0, 3, 1] (w' := w1_) rfl rfl ⟨z_206, rfl, (by omega), (by omega), (by first | exact mp_own_e (a := (f1 (6 * x0.toInt.toNat + 4)).toInt) (b := x1.toInt - (f0 (3 * (f1 (6 * x0.toInt.toNat + 0)).toInt.toNat + 1)).toInt) x_18 (by omega) (by omega) (by omega) (fun q => by omega) (by first | exact Or.inl ⟨by omega, by omega, rfl⟩ | exact Or.inr ⟨by omega, rfl⟩) (by first | exact Or.inl ⟨by omega, by omega, rfl⟩ | exact Or.inr ⟨by omega, rfl⟩) (by omega) | exact mp_own_e (a := (f1 (6 * x0.toInt.toNat + 4)).toInt) (b := 0) x_18 (by omega) (by omega) (by omega) (fun q => by omega) (by first | exact Or.inl ⟨by omega, by omega, rfl⟩ | exact Or.inr ⟨by omega, rfl⟩) (by first | exact Or.inl ⟨by omega, by omega, rfl⟩ | exact Or.inr ⟨by omega, rfl⟩) (by omega) | exact mp_own_e (a := 0) (b := x1.toInt - (f0 (3 * (f1 (6 * x0.toInt.toNat + 0)).toInt.toNat + 1)).toInt) x_18 (by omega) (by omega) (by omega) (fun q => by omega) (by first | exact Or.inl ⟨by omega, by omega, rfl⟩ | exact Or.inr ⟨by omega, rfl⟩) (by first | exact Or.inl ⟨by omega, by omega, rfl⟩ | exact Or.inr ⟨by omega, rfl⟩) (by omega) | exact mp_own_e (a := 0) (b := 0) x_18 (by omega) (by omega) (by omega) (fun q => by omega) (by first | exact Or.inl ⟨by omega, by omega, rfl⟩ | exact Or.inr ⟨by omega, rfl⟩) (by first | exact Or.inl ⟨by omega, by omega, rfl⟩ | exact Or.inr ⟨by omega, rfl⟩) (by omega)), rfl⟩ (by first | exact mp_fd_ok mp_k_cX10_ownOf_ok (by decide +kernel) | decide +kernel)
        · have c_38 : r_28.toInt < i_15.toInt := c_38
          show mp_W E X 6 24 [(3, .int i_15), (0, .ref a0), (1, .int x0), (2, .int x1)] [] w2_ 0 0
          refine mp_run mp_k_cX10_ownOf_ok hF mp_tabX10_ok [mp_i (.aload_n 0), mp_h (.getfield 65) [28, 2], mp_c (.sipush 150) 150, mp_i (.iload_n 1), mp_i .imul, mp_i (.iload_n 3), mp_i .iadd, mp_h .baload [1, 0], mp_h (.ifCond .ne 9) [45]] (by decide +kernel) ?_
          refine And.intro rfl (And.intro rfl ?_)
          intro z_209 h_210
          have e_211 : z_209.toInt = 150 * x0.toInt := mp_mul (a := 150) (b := x0.toInt) h_210 (by decide) rfl (by omega) (by omega)
          intro z_212 h_213
          have e_214 : z_212.toInt = z_209.toInt + i_15.toInt := mp_add (a := z_209.toInt) (b := i_15.toInt) h_213 rfl rfl (by omega) (by omega)
          refine And.intro rfl (And.intro rfl (And.intro (vp_in_iff.mpr (by omega)) ?_))
          intro z_215 h_216
          have e_218 : z_215.toInt = (f2 (150 * x0.toInt.toNat + i_15.toInt.toNat)).toInt := mp_at_i h_216 (by omega)
          refine And.intro (fun c_219 => ?_) (fun c_219 => ?_)
          · have c_219 : z_215.toInt ≠ 0 := c_219
            show mp_W E X 6 45 [(3, .int i_15), (0, .ref a0), (1, .int x0), (2, .int x1)] [] w2_ 0 0
            refine mp_run mp_k_cX10_ownOf_ok hF mp_tabX10_ok [mp_i (.iload_n 3), mp_i (.aload_n 0), mp_i (.iload_n 1), mp_c (.iconst 3) 3] (by decide +kernel) ?_
            show mp_W E X 6 49 [(3, .int i_15), (0, .ref a0), (1, .int x0), (2, .int x1)] [.int 3, .int x0, .ref a0, .int i_15] w2_ 0 0
            refine mp_callV hF (As := [.int x0, .int 3]) (rest := [.int i_15]) (wr := [(mp_arI E a1 0 90 f0), (mp_arI E a3 3 1500 f2)]) (bX10_of_63 E a0 a2 a4 a5 a6 a7 a8 a9 a10 a11 a12 a1 a13 a14 a15 a16 a17 a3 a18 a19 a20 a21 a22 a23 a24 a25 f1 y0 y1 y2 y3 y4 y5 y6 y7 y8 y9 y10 y11 y12 y13 y14 y15 y16 y17 y18 y19 y20 y21 x0 p2 p3 p4 p5 l_x0 u_x0 l_y1 u_y1 l_y2 u_y2 l_y3 u_y3 l_y4 u_y4 l_y11 u_y11 l_y12 u_y12 l_y13 u_y13) mp_lkX10_267 2 rfl [2, 3] [0, 1] rfl rfl rfl rfl rfl ⟨(Nat.le_of_ble_eq_true rfl), (Nat.le_of_ble_eq_true rfl), (Nat.le_of_ble_eq_true rfl), (Nat.le_of_ble_eq_true rfl)⟩ (Nat.le_of_ble_eq_true rfl) (by first | exact mp_fd_ok mp_k_cX10_ownOf_ok (by decide +kernel) | decide +kernel) (fun v_220 w_221 h_222 => ?_)
            refine h_222.elim fun r_223 q_227 => q_227.elim fun e_228 q_229 => q_229.elim fun l_224 q_230 => q_230.elim fun u_225 q_231 => q_231.elim fun x_226 e_232 => ?_
            clear h_222 q_227 q_229 q_230 q_231
            subst e_228
            subst e_232
            show mp_W E X 6 52 [(3, .int i_15), (0, .ref a0), (1, .int x0), (2, .int x1)] [.int r_223, .int i_15] w2_ 0 0
            refine mp_run mp_k_cX10_ownOf_ok hF mp_tabX10_ok [mp_h (.if_icmp .ne 22) [74]] (by decide +kernel) ?_
            refine And.intro (fun c_233 => ?_) (fun c_233 => ?_)
            · have c_233 : i_15.toInt ≠ r_223.toInt := c_233
              show mp_W E X 6 74 [(3, .int i_15), (0, .ref a0), (1, .int x0), (2, .int x1)] [] w2_ 0 0
              refine mp_run mp_k_cX10_ownOf_ok hF mp_tabX10_ok [mp_c (.iconst 0) 0, mp_i (.istore 4), mp_i (.aload_n 0), mp_h (.getfield 44) [20, 2], mp_c (.iconst 3) 3, mp_i (.aload_n 0), mp_i (.iload_n 1), mp_c (.iconst 0) 0] (by decide +kernel) ?_
              refine And.intro rfl (And.intro rfl ?_)
              show mp_W E X 6 85 [(4, .int 0), (3, .int i_15), (0, .ref a0), (1, .int x0), (2, .int x1)] [.int 0, .int x0, .ref a0, .int 3, .ref a1] w2_ 0 0
              refine mp_callV hF (As := [.int x0, .int 0]) (rest := [.int 3, .ref a1]) (wr := [(mp_arI E a1 0 90 f0), (mp_arI E a3 3 1500 f2)]) (bX10_of_64 E a0 a2 a4 a5 a6 a7 a8 a9 a10 a11 a12 a1 a13 a14 a15 a16 a17 a3 a18 a19 a20 a21 a22 a23 a24 a25 f1 y0 y1 y2 y3 y4 y5 y6 y7 y8 y9 y10 y11 y12 y13 y14 y15 y16 y17 y18 y19 y20 y21 x0 p2 p3 p4 p5 l_x0 u_x0 l_y1 u_y1 l_y2 u_y2 l_y3 u_y3 l_y4 u_y4 l_y11 u_y11 l_y12 u_y12 l_y13 u_y13) mp_lkX10_267 2 rfl [2, 3] [0, 1] rfl rfl rfl rfl rfl ⟨(Nat.le_of_ble_eq_true rfl), (Nat.le_of_ble_eq_true rfl), (Nat.le_of_ble_eq_true rfl), (Nat.le_of_ble_eq_true rfl)⟩ (Nat.le_of_ble_eq_true rfl) (by first | exact mp_fd_ok mp_k_cX10_ownOf_ok (by decide +kernel) | decide +kernel) (fun v_234 w_235 h_236 => ?_)
              refine h_236.elim fun r_237 q_241 => q_241.elim fun e_242 q_243 => q_243.elim fun l_238 q_244 => q_244.elim fun u_239 q_245 => q_245.elim fun x_240 e_246 => ?_
              clear h_236 q_241 q_243 q_244 q_245
              subst e_242
              subst e_246
              show mp_W E X 6 88 [(4, .int 0), (3, .int i_15), (0, .ref a0), (1, .int x0), (2, .int x1)] [.int r_237, .int 3, .ref a1] w2_ 0 0
              refine mp_run mp_k_cX10_ownOf_ok hF mp_tabX10_ok [mp_i .imul, mp_c (.iconst 1) 1, mp_i .iadd, mp_h .iaload [0], mp_i (.istore 5), mp_i (.iload_n 2), mp_i (.iload_n 3), mp_i .isub, mp_i (.iload 4), mp_h (.ifCond .eq 12) [111]] (by decide +kernel) ?_
              intro z_247 h_248
              have e_249 : z_247.toInt = 3 * r_237.toInt := mp_mul (a := 3) (b := r_237.toInt) h_248 (by decide) rfl (by omega) (by omega)
              intro z_250 h_251
              have e_252 : z_250.toInt = z_247.toInt + 1 := mp_add (a := z_247.toInt) (b := 1) h_251 rfl (by decide) (by omega) (by omega)
              refine And.intro rfl (And.intro rfl (And.intro (vp_in_iff.mpr (by omega)) ?_))
              intro z_253 h_254
              have e_255 : (-1) ≤ z_253.toInt ∧ z_253.toInt ≤ 99 := mp_res_ld h_254 p1 (by omega) (by omega) (by omega)
              have e_256 : z_253.toInt = (f0 (3 * (f1 (6 * x0.toInt.toNat + 0)).toInt.toNat + 1)).toInt := mp_at_i h_254 (by omega)
              intro z_257 h_258
              have e_259 : z_257.toInt = x1.toInt - i_15.toInt := mp_subi (a := x1.toInt) (b := i_15.toInt) h_258 rfl rfl (by omega) (by omega)
              refine And.intro (fun _ => ?_) (fun c_260 => absurd c_260 (by decide))
              show mp_W E X 6 111 [(5, .int z_253), (4, .int 0), (3, .int i_15), (0, .ref a0), (1, .int x0), (2, .int x1)] [.int z_257] w2_ 0 0
              refine mp_run mp_k_cX10_ownOf_ok hF mp_tabX10_ok [mp_c (.iconst 0) 0, mp_i .iadd, mp_i (.iload 5), mp_c (.iconst (-1)) (-1), mp_h (.if_icmp .eq 16) [132]] (by decide +kernel) ?_
              intro z_261 h_262
              have e_263 : z_261.toInt = z_257.toInt + 0 := mp_add (a := z_257.toInt) (b := 0) h_262 rfl (by decide) (by omega) (by omega)
              refine And.intro (fun c_264 => ?_) (fun c_264 => ?_)
              · have c_264 : z_253.toInt = (-1) := (congrArg Int32.toInt c_264)
                show mp_W E X 6 132 [(5, .int z_253), (4, .int 0), (3, .int i_15), (0, .ref a0), (1, .int x0), (2, .int x1)] [.int z_261] w2_ 0 0
                refine mp_run mp_k_cX10_ownOf_ok hF mp_tabX10_ok [mp_c (.iconst 0) 0, mp_i .iadd] (by decide +kernel) ?_
                intro z_265 h_266
                have e_267 : z_265.toInt = z_261.toInt + 0 := mp_add (a := z_261.toInt) (b := 0) h_266 rfl (by decide) (by omega) (by omega)
                show mp_W E X 6 134 [(5, .int z_253), (4, .int 0), (3, .int i_15), (0, .ref a0), (1, .int x0), (2, .int x1)] [.int z_265] w2_ 0 0
                exact mp_iret hF hQ rfl rfl (Nat.le_of_ble_eq_true rfl) (Nat.le_of_ble_eq_true rfl) [2, 0, 3, 1] (w' := w1_) rfl rfl ⟨z_265, rfl, (by omega), (by omega), (by first | exact mp_own_e (a := 0) (b := 0) x_18 (by omega) (by omega) (by omega) (fun q => by omega) (by first | exact Or.inl ⟨by omega, by omega, rfl⟩ | exact Or.inr ⟨by omega, rfl⟩) (by first | exact Or.inl ⟨by omega, by omega, rfl⟩ | exact Or.inr ⟨by omega, rfl⟩) (by omega) | exact mp_own_e (a := (f1 (6 * x0.toInt.toNat + 4)).toInt) (b := x1.toInt - (f0 (3 * (f1 (6 * x0.toInt.toNat + 0)).toInt.toNat + 1)).toInt) x_18 (by omega) (by omega) (by omega) (fun q => by omega) (by first | exact Or.inl ⟨by omega, by omega, rfl⟩ | exact Or.inr ⟨by omega, rfl⟩) (by first | exact Or.inl ⟨by omega, by omega, rfl⟩ | exact Or.inr ⟨by omega, rfl⟩) (by omega) | exact mp_own_e (a := (f1 (6 * x0.toInt.toNat + 4)).toInt) (b := 0) x_18 (by omega) (by omega) (by omega) (fun q => by omega) (by first | exact Or.inl ⟨by omega, by omega, rfl⟩ | exact Or.inr ⟨by omega, rfl⟩) (by first | exact Or.inl ⟨by omega, by omega, rfl⟩ | exact Or.inr ⟨by omega, rfl⟩) (by omega) | exact mp_own_e (a := 0) (b := x1.toInt - (f0 (3 * (f1 (6 * x0.toInt.toNat + 0)).toInt.toNat + 1)).toInt) x_18 (by omega) (by omega) (by omega) (fun q => by omega) (by first | exact Or.inl ⟨by omega, by omega, rfl⟩ | exact Or.inr ⟨by omega, rfl⟩) (by first | exact Or.inl ⟨by omega, by omega, rfl⟩ | exact Or.inr ⟨by omega, rfl⟩) (by omega)), rfl⟩ (by first | exact mp_fd_ok mp_k_cX10_ownOf_ok (by decide +kernel) | decide +kernel)
              · have c_264 : z_253.toInt ≠ (-1) := c_264
                show mp_W E X 6 119 [(5, .int z_253), (4, .int 0), (3, .int i_15), (0, .ref a0), (1, .int x0), (2, .int x1)] [.int z_261] w2_ 0 0
                refine mp_run mp_k_cX10_ownOf_ok hF mp_tabX10_ok [mp_i (.iload_n 2), mp_i (.iload 5), mp_h (.if_icmp .le 10) [132]] (by decide +kernel) ?_
                refine And.intro (fun c_268 => ?_) (fun c_268 => ?_)
                · have c_268 : x1.toInt ≤ z_253.toInt := c_268
                  show mp_W E X 6 132 [(5, .int z_253), (4, .int 0), (3, .int i_15), (0, .ref a0), (1, .int x0), (2, .int x1)] [.int z_261] w2_ 0 0
                  refine mp_run mp_k_cX10_ownOf_ok hF mp_tabX10_ok [mp_c (.iconst 0) 0, mp_i .iadd] (by decide +kernel) ?_
                  intro z_269 h_270
                  have e_271 : z_269.toInt = z_261.toInt + 0 := mp_add (a := z_261.toInt) (b := 0) h_270 rfl (by decide) (by omega) (by omega)
                  show mp_W E X 6 134 [(5, .int z_253), (4, .int 0), (3, .int i_15), (0, .ref a0), (1, .int x0), (2, .int x1)] [.int z_269] w2_ 0 0
                  exact mp_iret hF hQ rfl rfl (Nat.le_of_ble_eq_true rfl) (Nat.le_of_ble_eq_true rfl) [2, 0, 3, 1] (w' := w1_) rfl rfl ⟨z_269, rfl, (by omega), (by omega), (by first | exact mp_own_e (a := 0) (b := 0) x_18 (by omega) (by omega) (by omega) (fun q => by omega) (by first | exact Or.inl ⟨by omega, by omega, rfl⟩ | exact Or.inr ⟨by omega, rfl⟩) (by first | exact Or.inl ⟨by omega, by omega, rfl⟩ | exact Or.inr ⟨by omega, rfl⟩) (by omega) | exact mp_own_e (a := (f1 (6 * x0.toInt.toNat + 4)).toInt) (b := x1.toInt - (f0 (3 * (f1 (6 * x0.toInt.toNat + 0)).toInt.toNat + 1)).toInt) x_18 (by omega) (by omega) (by omega) (fun q => by omega) (by first | exact Or.inl ⟨by omega, by omega, rfl⟩ | exact Or.inr ⟨by omega, rfl⟩) (by first | exact Or.inl ⟨by omega, by omega, rfl⟩ | exact Or.inr ⟨by omega, rfl⟩) (by omega) | exact mp_own_e (a := (f1 (6 * x0.toInt.toNat + 4)).toInt) (b := 0) x_18 (by omega) (by omega) (by omega) (fun q => by omega) (by first | exact Or.inl ⟨by omega, by omega, rfl⟩ | exact Or.inr ⟨by omega, rfl⟩) (by first | exact Or.inl ⟨by omega, by omega, rfl⟩ | exact Or.inr ⟨by omega, rfl⟩) (by omega) | exact mp_own_e (a := 0) (b := x1.toInt - (f0 (3 * (f1 (6 * x0.toInt.toNat + 0)).toInt.toNat + 1)).toInt) x_18 (by omega) (by omega) (by omega) (fun q => by omega) (by first | exact Or.inl ⟨by omega, by omega, rfl⟩ | exact Or.inr ⟨by omega, rfl⟩) (by first | exact Or.inl ⟨by omega, by omega, rfl⟩ | exact Or.inr ⟨by omega, rfl⟩) (by omega)), rfl⟩ (by first | exact mp_fd_ok mp_k_cX10_ownOf_ok (by decide +kernel) | decide +kernel)
                · have c_268 : z_253.toInt < x1.toInt := c_268
                  show mp_W E X 6 125 [(5, .int z_253), (4, .int 0), (3, .int i_15), (0, .ref a0), (1, .int x0), (2, .int x1)] [.int z_261] w2_ 0 0
                  refine mp_run mp_k_cX10_ownOf_ok hF mp_tabX10_ok [mp_i (.iload_n 2), mp_i (.iload 5), mp_i .isub, mp_h (.goto 4) [133], mp_i .iadd] (by decide +kernel) ?_
                  intro z_272 h_273
                  have e_274 : z_272.toInt = x1.toInt - z_253.toInt := mp_subi (a := x1.toInt) (b := z_253.toInt) h_273 rfl rfl (by omega) (by omega)
                  intro z_275 h_276
                  have e_277 : z_275.toInt = z_261.toInt + z_272.toInt := mp_add (a := z_261.toInt) (b := z_272.toInt) h_276 rfl rfl (by omega) (by omega)
                  show mp_W E X 6 134 [(5, .int z_253), (4, .int 0), (3, .int i_15), (0, .ref a0), (1, .int x0), (2, .int x1)] [.int z_275] w2_ 0 0
                  exact mp_iret hF hQ rfl rfl (Nat.le_of_ble_eq_true rfl) (Nat.le_of_ble_eq_true rfl) [2, 0, 3, 1] (w' := w1_) rfl rfl ⟨z_275, rfl, (by omega), (by omega), (by first | exact mp_own_e (a := 0) (b := x1.toInt - (f0 (3 * (f1 (6 * x0.toInt.toNat + 0)).toInt.toNat + 1)).toInt) x_18 (by omega) (by omega) (by omega) (fun q => by omega) (by first | exact Or.inl ⟨by omega, by omega, rfl⟩ | exact Or.inr ⟨by omega, rfl⟩) (by first | exact Or.inl ⟨by omega, by omega, rfl⟩ | exact Or.inr ⟨by omega, rfl⟩) (by omega) | exact mp_own_e (a := (f1 (6 * x0.toInt.toNat + 4)).toInt) (b := x1.toInt - (f0 (3 * (f1 (6 * x0.toInt.toNat + 0)).toInt.toNat + 1)).toInt) x_18 (by omega) (by omega) (by omega) (fun q => by omega) (by first | exact Or.inl ⟨by omega, by omega, rfl⟩ | exact Or.inr ⟨by omega, rfl⟩) (by first | exact Or.inl ⟨by omega, by omega, rfl⟩ | exact Or.inr ⟨by omega, rfl⟩) (by omega) | exact mp_own_e (a := (f1 (6 * x0.toInt.toNat + 4)).toInt) (b := 0) x_18 (by omega) (by omega) (by omega) (fun q => by omega) (by first | exact Or.inl ⟨by omega, by omega, rfl⟩ | exact Or.inr ⟨by omega, rfl⟩) (by first | exact Or.inl ⟨by omega, by omega, rfl⟩ | exact Or.inr ⟨by omega, rfl⟩) (by omega) | exact mp_own_e (a := 0) (b := 0) x_18 (by omega) (by omega) (by omega) (fun q => by omega) (by first | exact Or.inl ⟨by omega, by omega, rfl⟩ | exact Or.inr ⟨by omega, rfl⟩) (by first | exact Or.inl ⟨by omega, by omega, rfl⟩ | exact Or.inr ⟨by omega, rfl⟩) (by omega)), rfl⟩ (by first | exact mp_fd_ok mp_k_cX10_ownOf_ok (by decide +kernel) | decide +kernel)
            · have c_233 : i_15.toInt = r_223.toInt := (congrArg Int32.toInt c_233)
              show mp_W E X 6 55 [(3, .int i_15), (0, .ref a0), (1, .int x0), (2, .int x1)] [] w2_ 0 0
              refine mp_run mp_k_cX10_ownOf_ok hF mp_tabX10_ok [mp_i (.aload_n 0), mp_h (.getfield 65) [28, 2], mp_c (.sipush 150) 150, mp_i (.iload_n 1), mp_i .imul, mp_i (.iload_n 3), mp_i .iadd, mp_h .baload [1, 0], mp_h (.ifCond .ne 7) [74]] (by decide +kernel) ?_
              refine And.intro rfl (And.intro rfl ?_)
              intro z_278 h_279
              have e_280 : z_278.toInt = 150 * x0.toInt := mp_mul (a := 150) (b := x0.toInt) h_279 (by decide) rfl (by omega) (by omega)
              intro z_281 h_282
              have e_283 : z_281.toInt = z_278.toInt + i_15.toInt := mp_add (a := z_278.toInt) (b := i_15.toInt) h_282 rfl rfl (by omega) (by omega)
              refine And.intro rfl (And.intro rfl (And.intro (vp_in_iff.mpr (by omega)) ?_))
              intro z_284 h_285
              have e_287 : z_284.toInt = (f2 (150 * x0.toInt.toNat + i_15.toInt.toNat)).toInt := mp_at_i h_285 (by omega)
              refine And.intro (fun c_288 => ?_) (fun c_288 => ?_)
              · have c_288 : z_284.toInt ≠ 0 := c_288
                show mp_W E X 6 74 [(3, .int i_15), (0, .ref a0), (1, .int x0), (2, .int x1)] [] w2_ 0 0
                refine mp_run mp_k_cX10_ownOf_ok hF mp_tabX10_ok [mp_c (.iconst 0) 0, mp_i (.istore 4), mp_i (.aload_n 0), mp_h (.getfield 44) [20, 2], mp_c (.iconst 3) 3, mp_i (.aload_n 0), mp_i (.iload_n 1), mp_c (.iconst 0) 0] (by decide +kernel) ?_
                refine And.intro rfl (And.intro rfl ?_)
                show mp_W E X 6 85 [(4, .int 0), (3, .int i_15), (0, .ref a0), (1, .int x0), (2, .int x1)] [.int 0, .int x0, .ref a0, .int 3, .ref a1] w2_ 0 0
                refine mp_callV hF (As := [.int x0, .int 0]) (rest := [.int 3, .ref a1]) (wr := [(mp_arI E a1 0 90 f0), (mp_arI E a3 3 1500 f2)]) (bX10_of_64 E a0 a2 a4 a5 a6 a7 a8 a9 a10 a11 a12 a1 a13 a14 a15 a16 a17 a3 a18 a19 a20 a21 a22 a23 a24 a25 f1 y0 y1 y2 y3 y4 y5 y6 y7 y8 y9 y10 y11 y12 y13 y14 y15 y16 y17 y18 y19 y20 y21 x0 p2 p3 p4 p5 l_x0 u_x0 l_y1 u_y1 l_y2 u_y2 l_y3 u_y3 l_y4 u_y4 l_y11 u_y11 l_y12 u_y12 l_y13 u_y13) mp_lkX10_267 2 rfl [2, 3] [0, 1] rfl rfl rfl rfl rfl ⟨(Nat.le_of_ble_eq_true rfl), (Nat.le_of_ble_eq_true rfl), (Nat.le_of_ble_eq_true rfl), (Nat.le_of_ble_eq_true rfl)⟩ (Nat.le_of_ble_eq_true rfl) (by first | exact mp_fd_ok mp_k_cX10_ownOf_ok (by decide +kernel) | decide +kernel) (fun v_289 w_290 h_291 => ?_)
                refine h_291.elim fun r_292 q_296 => q_296.elim fun e_297 q_298 => q_298.elim fun l_293 q_299 => q_299.elim fun u_294 q_300 => q_300.elim fun x_295 e_301 => ?_
                clear h_291 q_296 q_298 q_299 q_300
                subst e_297
                subst e_301
                show mp_W E X 6 88 [(4, .int 0), (3, .int i_15), (0, .ref a0), (1, .int x0), (2, .int x1)] [.int r_292, .int 3, .ref a1] w2_ 0 0
                refine mp_run mp_k_cX10_ownOf_ok hF mp_tabX10_ok [mp_i .imul, mp_c (.iconst 1) 1, mp_i .iadd, mp_h .iaload [0], mp_i (.istore 5), mp_i (.iload_n 2), mp_i (.iload_n 3), mp_i .isub, mp_i (.iload 4), mp_h (.ifCond .eq 12) [111]] (by decide +kernel) ?_
                intro z_302 h_303
                have e_304 : z_302.toInt = 3 * r_292.toInt := mp_mul (a := 3) (b := r_292.toInt) h_303 (by decide) rfl (by omega) (by omega)
                intro z_305 h_306
                have e_307 : z_305.toInt = z_302.toInt + 1 := mp_add (a := z_302.toInt) (b := 1) h_306 rfl (by decide) (by omega) (by omega)
                refine And.intro rfl (And.intro rfl (And.intro (vp_in_iff.mpr (by omega)) ?_))
                intro z_308 h_309
                have e_310 : (-1) ≤ z_308.toInt ∧ z_308.toInt ≤ 99 := mp_res_ld h_309 p1 (by omega) (by omega) (by omega)
                have e_311 : z_308.toInt = (f0 (3 * (f1 (6 * x0.toInt.toNat + 0)).toInt.toNat + 1)).toInt := mp_at_i h_309 (by omega)
                intro z_312 h_313
                have e_314 : z_312.toInt = x1.toInt - i_15.toInt := mp_subi (a := x1.toInt) (b := i_15.toInt) h_313 rfl rfl (by omega) (by omega)
                refine And.intro (fun _ => ?_) (fun c_315 => absurd c_315 (by decide))
                show mp_W E X 6 111 [(5, .int z_308), (4, .int 0), (3, .int i_15), (0, .ref a0), (1, .int x0), (2, .int x1)] [.int z_312] w2_ 0 0
                refine mp_run mp_k_cX10_ownOf_ok hF mp_tabX10_ok [mp_c (.iconst 0) 0, mp_i .iadd, mp_i (.iload 5), mp_c (.iconst (-1)) (-1), mp_h (.if_icmp .eq 16) [132]] (by decide +kernel) ?_
                intro z_316 h_317
                have e_318 : z_316.toInt = z_312.toInt + 0 := mp_add (a := z_312.toInt) (b := 0) h_317 rfl (by decide) (by omega) (by omega)
                refine And.intro (fun c_319 => ?_) (fun c_319 => ?_)
                · have c_319 : z_308.toInt = (-1) := (congrArg Int32.toInt c_319)
                  show mp_W E X 6 132 [(5, .int z_308), (4, .int 0), (3, .int i_15), (0, .ref a0), (1, .int x0), (2, .int x1)] [.int z_316] w2_ 0 0
                  refine mp_run mp_k_cX10_ownOf_ok hF mp_tabX10_ok [mp_c (.iconst 0) 0, mp_i .iadd] (by decide +kernel) ?_
                  intro z_320 h_321
                  have e_322 : z_320.toInt = z_316.toInt + 0 := mp_add (a := z_316.toInt) (b := 0) h_321 rfl (by decide) (by omega) (by omega)
                  show mp_W E X 6 134 [(5, .int z_308), (4, .int 0), (3, .int i_15), (0, .ref a0), (1, .int x0), (2, .int x1)] [.int z_320] w2_ 0 0
                  exact mp_iret hF hQ rfl rfl (Nat.le_of_ble_eq_true rfl) (Nat.le_of_ble_eq_true rfl) [2, 0, 3, 1] (w' := w1_) rfl rfl ⟨z_320, rfl, (by omega), (by omega), (by first | exact mp_own_e (a := 0) (b := 0) x_18 (by omega) (by omega) (by omega) (fun q => by omega) (by first | exact Or.inl ⟨by omega, by omega, rfl⟩ | exact Or.inr ⟨by omega, rfl⟩) (by first | exact Or.inl ⟨by omega, by omega, rfl⟩ | exact Or.inr ⟨by omega, rfl⟩) (by omega) | exact mp_own_e (a := (f1 (6 * x0.toInt.toNat + 4)).toInt) (b := x1.toInt - (f0 (3 * (f1 (6 * x0.toInt.toNat + 0)).toInt.toNat + 1)).toInt) x_18 (by omega) (by omega) (by omega) (fun q => by omega) (by first | exact Or.inl ⟨by omega, by omega, rfl⟩ | exact Or.inr ⟨by omega, rfl⟩) (by first | exact Or.inl ⟨by omega, by omega, rfl⟩ | exact Or.inr ⟨by omega, rfl⟩) (by omega) | exact mp_own_e (a := (f1 (6 * x0.toInt.toNat + 4)).toInt) (b := 0) x_18 (by omega) (by omega) (by omega) (fun q => by omega) (by first | exact Or.inl ⟨by omega, by omega, rfl⟩ | exact Or.inr ⟨by omega, rfl⟩) (by first | exact Or.inl ⟨by omega, by omega, rfl⟩ | exact Or.inr ⟨by omega, rfl⟩) (by omega) | exact mp_own_e (a := 0) (b := x1.toInt - (f0 (3 * (f1 (6 * x0.toInt.toNat + 0)).toInt.toNat + 1)).toInt) x_18 (by omega) (by omega) (by omega) (fun q => by omega) (by first | exact Or.inl ⟨by omega, by omega, rfl⟩ | exact Or.inr ⟨by omega, rfl⟩) (by first | exact Or.inl ⟨by omega, by omega, rfl⟩ | exact Or.inr ⟨by omega, rfl⟩) (by omega)), rfl⟩ (by first | exact mp_fd_ok mp_k_cX10_ownOf_ok (by decide +kernel) | decide +kernel)
                · have c_319 : z_308.toInt ≠ (-1) := c_319
                  show mp_W E X 6 119 [(5, .int z_308), (4, .int 0), (3, .int i_15), (0, .ref a0), (1, .int x0), (2, .int x1)] [.int z_316] w2_ 0 0
                  refine mp_run mp_k_cX10_ownOf_ok hF mp_tabX10_ok [mp_i (.iload_n 2), mp_i (.iload 5), mp_h (.if_icmp .le 10) [132]] (by decide +kernel) ?_
                  refine And.intro (fun c_323 => ?_) (fun c_323 => ?_)
                  · have c_323 : x1.toInt ≤ z_308.toInt := c_323
                    show mp_W E X 6 132 [(5, .int z_308), (4, .int 0), (3, .int i_15), (0, .ref a0), (1, .int x0), (2, .int x1)] [.int z_316] w2_ 0 0
                    refine mp_run mp_k_cX10_ownOf_ok hF mp_tabX10_ok [mp_c (.iconst 0) 0, mp_i .iadd] (by decide +kernel) ?_
                    intro z_324 h_325
                    have e_326 : z_324.toInt = z_316.toInt + 0 := mp_add (a := z_316.toInt) (b := 0) h_325 rfl (by decide) (by omega) (by omega)
                    show mp_W E X 6 134 [(5, .int z_308), (4, .int 0), (3, .int i_15), (0, .ref a0), (1, .int x0), (2, .int x1)] [.int z_324] w2_ 0 0
                    exact mp_iret hF hQ rfl rfl (Nat.le_of_ble_eq_true rfl) (Nat.le_of_ble_eq_true rfl) [2, 0, 3, 1] (w' := w1_) rfl rfl ⟨z_324, rfl, (by omega), (by omega), (by first | exact mp_own_e (a := 0) (b := 0) x_18 (by omega) (by omega) (by omega) (fun q => by omega) (by first | exact Or.inl ⟨by omega, by omega, rfl⟩ | exact Or.inr ⟨by omega, rfl⟩) (by first | exact Or.inl ⟨by omega, by omega, rfl⟩ | exact Or.inr ⟨by omega, rfl⟩) (by omega) | exact mp_own_e (a := (f1 (6 * x0.toInt.toNat + 4)).toInt) (b := x1.toInt - (f0 (3 * (f1 (6 * x0.toInt.toNat + 0)).toInt.toNat + 1)).toInt) x_18 (by omega) (by omega) (by omega) (fun q => by omega) (by first | exact Or.inl ⟨by omega, by omega, rfl⟩ | exact Or.inr ⟨by omega, rfl⟩) (by first | exact Or.inl ⟨by omega, by omega, rfl⟩ | exact Or.inr ⟨by omega, rfl⟩) (by omega) | exact mp_own_e (a := (f1 (6 * x0.toInt.toNat + 4)).toInt) (b := 0) x_18 (by omega) (by omega) (by omega) (fun q => by omega) (by first | exact Or.inl ⟨by omega, by omega, rfl⟩ | exact Or.inr ⟨by omega, rfl⟩) (by first | exact Or.inl ⟨by omega, by omega, rfl⟩ | exact Or.inr ⟨by omega, rfl⟩) (by omega) | exact mp_own_e (a := 0) (b := x1.toInt - (f0 (3 * (f1 (6 * x0.toInt.toNat + 0)).toInt.toNat + 1)).toInt) x_18 (by omega) (by omega) (by omega) (fun q => by omega) (by first | exact Or.inl ⟨by omega, by omega, rfl⟩ | exact Or.inr ⟨by omega, rfl⟩) (by first | exact Or.inl ⟨by omega, by omega, rfl⟩ | exact Or.inr ⟨by omega, rfl⟩) (by omega)), rfl⟩ (by first | exact mp_fd_ok mp_k_cX10_ownOf_ok (by decide +kernel) | decide +kernel)
                  · have c_323 : z_308.toInt < x1.toInt := c_323
                    show mp_W E X 6 125 [(5, .int z_308), (4, .int 0), (3, .int i_15), (0, .ref a0), (1, .int x0), (2, .int x1)] [.int z_316] w2_ 0 0
                    refine mp_run mp_k_cX10_ownOf_ok hF mp_tabX10_ok [mp_i (.iload_n 2), mp_i (.iload 5), mp_i .isub, mp_h (.goto 4) [133], mp_i .iadd] (by decide +kernel) ?_
                    intro z_327 h_328
                    have e_329 : z_327.toInt = x1.toInt - z_308.toInt := mp_subi (a := x1.toInt) (b := z_308.toInt) h_328 rfl rfl (by omega) (by omega)
                    intro z_330 h_331
                    have e_332 : z_330.toInt = z_316.toInt + z_327.toInt := mp_add (a := z_316.toInt) (b := z_327.toInt) h_331 rfl rfl (by omega) (by omega)
                    show mp_W E X 6 134 [(5, .int z_308), (4, .int 0), (3, .int i_15), (0, .ref a0), (1, .int x0), (2, .int x1)] [.int z_330] w2_ 0 0
                    exact mp_iret hF hQ rfl rfl (Nat.le_of_ble_eq_true rfl) (Nat.le_of_ble_eq_true rfl) [2, 0, 3, 1] (w' := w1_) rfl rfl ⟨z_330, rfl, (by omega), (by omega), (by first | exact mp_own_e (a := 0) (b := x1.toInt - (f0 (3 * (f1 (6 * x0.toInt.toNat + 0)).toInt.toNat + 1)).toInt) x_18 (by omega) (by omega) (by omega) (fun q => by omega) (by first | exact Or.inl ⟨by omega, by omega, rfl⟩ | exact Or.inr ⟨by omega, rfl⟩) (by first | exact Or.inl ⟨by omega, by omega, rfl⟩ | exact Or.inr ⟨by omega, rfl⟩) (by omega) | exact mp_own_e (a := (f1 (6 * x0.toInt.toNat + 4)).toInt) (b := x1.toInt - (f0 (3 * (f1 (6 * x0.toInt.toNat + 0)).toInt.toNat + 1)).toInt) x_18 (by omega) (by omega) (by omega) (fun q => by omega) (by first | exact Or.inl ⟨by omega, by omega, rfl⟩ | exact Or.inr ⟨by omega, rfl⟩) (by first | exact Or.inl ⟨by omega, by omega, rfl⟩ | exact Or.inr ⟨by omega, rfl⟩) (by omega) | exact mp_own_e (a := (f1 (6 * x0.toInt.toNat + 4)).toInt) (b := 0) x_18 (by omega) (by omega) (by omega) (fun q => by omega) (by first | exact Or.inl ⟨by omega, by omega, rfl⟩ | exact Or.inr ⟨by omega, rfl⟩) (by first | exact Or.inl ⟨by omega, by omega, rfl⟩ | exact Or.inr ⟨by omega, rfl⟩) (by omega) | exact mp_own_e (a := 0) (b := 0) x_18 (by omega) (by omega) (by omega) (fun q => by omega) (by first | exact Or.inl ⟨by omega, by omega, rfl⟩ | exact Or.inr ⟨by omega, rfl⟩) (by first | exact Or.inl ⟨by omega, by omega, rfl⟩ | exact Or.inr ⟨by omega, rfl⟩) (by omega)), rfl⟩ (by first | exact mp_fd_ok mp_k_cX10_ownOf_ok (by decide +kernel) | decide +kernel)
              · have c_288 : z_284.toInt = 0 := (congrArg Int32.toInt c_288)
                show mp_W E X 6 70 [(3, .int i_15), (0, .ref a0), (1, .int x0), (2, .int x1)] [] w2_ 0 0
                refine mp_run mp_k_cX10_ownOf_ok hF mp_tabX10_ok [mp_c (.iconst 1) 1, mp_h (.goto 4) [75], mp_i (.istore 4), mp_i (.aload_n 0), mp_h (.getfield 44) [20, 2], mp_c (.iconst 3) 3, mp_i (.aload_n 0), mp_i (.iload_n 1), mp_c (.iconst 0) 0] (by decide +kernel) ?_
                refine And.intro rfl (And.intro rfl ?_)
                show mp_W E X 6 85 [(4, .int 1), (3, .int i_15), (0, .ref a0), (1, .int x0), (2, .int x1)] [.int 0, .int x0, .ref a0, .int 3, .ref a1] w2_ 0 0
                refine mp_callV hF (As := [.int x0, .int 0]) (rest := [.int 3, .ref a1]) (wr := [(mp_arI E a1 0 90 f0), (mp_arI E a3 3 1500 f2)]) (bX10_of_64 E a0 a2 a4 a5 a6 a7 a8 a9 a10 a11 a12 a1 a13 a14 a15 a16 a17 a3 a18 a19 a20 a21 a22 a23 a24 a25 f1 y0 y1 y2 y3 y4 y5 y6 y7 y8 y9 y10 y11 y12 y13 y14 y15 y16 y17 y18 y19 y20 y21 x0 p2 p3 p4 p5 l_x0 u_x0 l_y1 u_y1 l_y2 u_y2 l_y3 u_y3 l_y4 u_y4 l_y11 u_y11 l_y12 u_y12 l_y13 u_y13) mp_lkX10_267 2 rfl [2, 3] [0, 1] rfl rfl rfl rfl rfl ⟨(Nat.le_of_ble_eq_true rfl), (Nat.le_of_ble_eq_true rfl), (Nat.le_of_ble_eq_true rfl), (Nat.le_of_ble_eq_true rfl)⟩ (Nat.le_of_ble_eq_true rfl) (by first | exact mp_fd_ok mp_k_cX10_ownOf_ok (by decide +kernel) | decide +kernel) (fun v_333 w_334 h_335 => ?_)
                refine h_335.elim fun r_336 q_340 => q_340.elim fun e_341 q_342 => q_342.elim fun l_337 q_343 => q_343.elim fun u_338 q_344 => q_344.elim fun x_339 e_345 => ?_
                clear h_335 q_340 q_342 q_343 q_344
                subst e_341
                subst e_345
                show mp_W E X 6 88 [(4, .int 1), (3, .int i_15), (0, .ref a0), (1, .int x0), (2, .int x1)] [.int r_336, .int 3, .ref a1] w2_ 0 0
                refine mp_run mp_k_cX10_ownOf_ok hF mp_tabX10_ok [mp_i .imul, mp_c (.iconst 1) 1, mp_i .iadd, mp_h .iaload [0], mp_i (.istore 5), mp_i (.iload_n 2), mp_i (.iload_n 3), mp_i .isub, mp_i (.iload 4), mp_h (.ifCond .eq 12) [111]] (by decide +kernel) ?_
                intro z_346 h_347
                have e_348 : z_346.toInt = 3 * r_336.toInt := mp_mul (a := 3) (b := r_336.toInt) h_347 (by decide) rfl (by omega) (by omega)
                intro z_349 h_350
                have e_351 : z_349.toInt = z_346.toInt + 1 := mp_add (a := z_346.toInt) (b := 1) h_350 rfl (by decide) (by omega) (by omega)
                refine And.intro rfl (And.intro rfl (And.intro (vp_in_iff.mpr (by omega)) ?_))
                intro z_352 h_353
                have e_354 : (-1) ≤ z_352.toInt ∧ z_352.toInt ≤ 99 := mp_res_ld h_353 p1 (by omega) (by omega) (by omega)
                have e_355 : z_352.toInt = (f0 (3 * (f1 (6 * x0.toInt.toNat + 0)).toInt.toNat + 1)).toInt := mp_at_i h_353 (by omega)
                intro z_356 h_357
                have e_358 : z_356.toInt = x1.toInt - i_15.toInt := mp_subi (a := x1.toInt) (b := i_15.toInt) h_357 rfl rfl (by omega) (by omega)
                refine And.intro (fun c_359 => absurd c_359 (by decide)) (fun _ => ?_)
                show mp_W E X 6 102 [(5, .int z_352), (4, .int 1), (3, .int i_15), (0, .ref a0), (1, .int x0), (2, .int x1)] [.int z_356] w2_ 0 0
                refine mp_run mp_k_cX10_ownOf_ok hF mp_tabX10_ok [mp_i (.aload_n 0), mp_i (.iload_n 1), mp_c (.iconst 4) 4] (by decide +kernel) ?_
                show mp_W E X 6 105 [(5, .int z_352), (4, .int 1), (3, .int i_15), (0, .ref a0), (1, .int x0), (2, .int x1)] [.int 4, .int x0, .ref a0, .int z_356] w2_ 0 0
                refine mp_callV hF (As := [.int x0, .int 4]) (rest := [.int z_356]) (wr := [(mp_arI E a1 0 90 f0), (mp_arI E a3 3 1500 f2)]) (bX10_of_65 E a0 a2 a4 a5 a6 a7 a8 a9 a10 a11 a12 a1 a13 a14 a15 a16 a17 a3 a18 a19 a20 a21 a22 a23 a24 a25 f1 y0 y1 y2 y3 y4 y5 y6 y7 y8 y9 y10 y11 y12 y13 y14 y15 y16 y17 y18 y19 y20 y21 x0 p2 p3 p4 p5 l_x0 u_x0 l_y1 u_y1 l_y2 u_y2 l_y3 u_y3 l_y4 u_y4 l_y11 u_y11 l_y12 u_y12 l_y13 u_y13) mp_lkX10_267 2 rfl [2, 3] [0, 1] rfl rfl rfl rfl rfl ⟨(Nat.le_of_ble_eq_true rfl), (Nat.le_of_ble_eq_true rfl), (Nat.le_of_ble_eq_true rfl), (Nat.le_of_ble_eq_true rfl)⟩ (Nat.le_of_ble_eq_true rfl) (by first | exact mp_fd_ok mp_k_cX10_ownOf_ok (by decide +kernel) | decide +kernel) (fun v_360 w_361 h_362 => ?_)
                refine h_362.elim fun r_363 q_367 => q_367.elim fun e_368 q_369 => q_369.elim fun l_364 q_370 => q_370.elim fun u_365 q_371 => q_371.elim fun x_366 e_372 => ?_
                clear h_362 q_367 q_369 q_370 q_371
                subst e_368
                subst e_372
                show mp_W E X 6 108 [(5, .int z_352), (4, .int 1), (3, .int i_15), (0, .ref a0), (1, .int x0), (2, .int x1)] [.int r_363, .int z_356] w2_ 0 0
                refine mp_run mp_k_cX10_ownOf_ok hF mp_tabX10_ok [mp_h (.goto 4) [112], mp_i .iadd, mp_i (.iload 5), mp_c (.iconst (-1)) (-1), mp_h (.if_icmp .eq 16) [132]] (by decide +kernel) ?_
                intro z_373 h_374
                have e_375 : z_373.toInt = z_356.toInt + r_363.toInt := mp_add (a := z_356.toInt) (b := r_363.toInt) h_374 rfl rfl (by omega) (by omega)
                refine And.intro (fun c_376 => ?_) (fun c_376 => ?_)
                · have c_376 : z_352.toInt = (-1) := (congrArg Int32.toInt c_376)
                  show mp_W E X 6 132 [(5, .int z_352), (4, .int 1), (3, .int i_15), (0, .ref a0), (1, .int x0), (2, .int x1)] [.int z_373] w2_ 0 0
                  refine mp_run mp_k_cX10_ownOf_ok hF mp_tabX10_ok [mp_c (.iconst 0) 0, mp_i .iadd] (by decide +kernel) ?_
                  intro z_377 h_378
                  have e_379 : z_377.toInt = z_373.toInt + 0 := mp_add (a := z_373.toInt) (b := 0) h_378 rfl (by decide) (by omega) (by omega)
                  show mp_W E X 6 134 [(5, .int z_352), (4, .int 1), (3, .int i_15), (0, .ref a0), (1, .int x0), (2, .int x1)] [.int z_377] w2_ 0 0
                  exact mp_iret hF hQ rfl rfl (Nat.le_of_ble_eq_true rfl) (Nat.le_of_ble_eq_true rfl) [2, 0, 3, 1] (w' := w1_) rfl rfl ⟨z_377, rfl, (by omega), (by omega), (by first | exact mp_own_e (a := (f1 (6 * x0.toInt.toNat + 4)).toInt) (b := 0) x_18 (by omega) (by omega) (by omega) (fun q => by omega) (by first | exact Or.inl ⟨by omega, by omega, rfl⟩ | exact Or.inr ⟨by omega, rfl⟩) (by first | exact Or.inl ⟨by omega, by omega, rfl⟩ | exact Or.inr ⟨by omega, rfl⟩) (by omega) | exact mp_own_e (a := (f1 (6 * x0.toInt.toNat + 4)).toInt) (b := x1.toInt - (f0 (3 * (f1 (6 * x0.toInt.toNat + 0)).toInt.toNat + 1)).toInt) x_18 (by omega) (by omega) (by omega) (fun q => by omega) (by first | exact Or.inl ⟨by omega, by omega, rfl⟩ | exact Or.inr ⟨by omega, rfl⟩) (by first | exact Or.inl ⟨by omega, by omega, rfl⟩ | exact Or.inr ⟨by omega, rfl⟩) (by omega) | exact mp_own_e (a := 0) (b := x1.toInt - (f0 (3 * (f1 (6 * x0.toInt.toNat + 0)).toInt.toNat + 1)).toInt) x_18 (by omega) (by omega) (by omega) (fun q => by omega) (by first | exact Or.inl ⟨by omega, by omega, rfl⟩ | exact Or.inr ⟨by omega, rfl⟩) (by first | exact Or.inl ⟨by omega, by omega, rfl⟩ | exact Or.inr ⟨by omega, rfl⟩) (by omega) | exact mp_own_e (a := 0) (b := 0) x_18 (by omega) (by omega) (by omega) (fun q => by omega) (by first | exact Or.inl ⟨by omega, by omega, rfl⟩ | exact Or.inr ⟨by omega, rfl⟩) (by first | exact Or.inl ⟨by omega, by omega, rfl⟩ | exact Or.inr ⟨by omega, rfl⟩) (by omega)), rfl⟩ (by first | exact mp_fd_ok mp_k_cX10_ownOf_ok (by decide +kernel) | decide +kernel)
                · have c_376 : z_352.toInt ≠ (-1) := c_376
                  show mp_W E X 6 119 [(5, .int z_352), (4, .int 1), (3, .int i_15), (0, .ref a0), (1, .int x0), (2, .int x1)] [.int z_373] w2_ 0 0
                  refine mp_run mp_k_cX10_ownOf_ok hF mp_tabX10_ok [mp_i (.iload_n 2), mp_i (.iload 5), mp_h (.if_icmp .le 10) [132]] (by decide +kernel) ?_
                  refine And.intro (fun c_380 => ?_) (fun c_380 => ?_)
                  · have c_380 : x1.toInt ≤ z_352.toInt := c_380
                    show mp_W E X 6 132 [(5, .int z_352), (4, .int 1), (3, .int i_15), (0, .ref a0), (1, .int x0), (2, .int x1)] [.int z_373] w2_ 0 0
                    refine mp_run mp_k_cX10_ownOf_ok hF mp_tabX10_ok [mp_c (.iconst 0) 0, mp_i .iadd] (by decide +kernel) ?_
                    intro z_381 h_382
                    have e_383 : z_381.toInt = z_373.toInt + 0 := mp_add (a := z_373.toInt) (b := 0) h_382 rfl (by decide) (by omega) (by omega)
                    show mp_W E X 6 134 [(5, .int z_352), (4, .int 1), (3, .int i_15), (0, .ref a0), (1, .int x0), (2, .int x1)] [.int z_381] w2_ 0 0
                    exact mp_iret hF hQ rfl rfl (Nat.le_of_ble_eq_true rfl) (Nat.le_of_ble_eq_true rfl) [2, 0, 3, 1] (w' := w1_) rfl rfl ⟨z_381, rfl, (by omega), (by omega), (by first | exact mp_own_e (a := (f1 (6 * x0.toInt.toNat + 4)).toInt) (b := 0) x_18 (by omega) (by omega) (by omega) (fun q => by omega) (by first | exact Or.inl ⟨by omega, by omega, rfl⟩ | exact Or.inr ⟨by omega, rfl⟩) (by first | exact Or.inl ⟨by omega, by omega, rfl⟩ | exact Or.inr ⟨by omega, rfl⟩) (by omega) | exact mp_own_e (a := (f1 (6 * x0.toInt.toNat + 4)).toInt) (b := x1.toInt - (f0 (3 * (f1 (6 * x0.toInt.toNat + 0)).toInt.toNat + 1)).toInt) x_18 (by omega) (by omega) (by omega) (fun q => by omega) (by first | exact Or.inl ⟨by omega, by omega, rfl⟩ | exact Or.inr ⟨by omega, rfl⟩) (by first | exact Or.inl ⟨by omega, by omega, rfl⟩ | exact Or.inr ⟨by omega, rfl⟩) (by omega) | exact mp_own_e (a := 0) (b := x1.toInt - (f0 (3 * (f1 (6 * x0.toInt.toNat + 0)).toInt.toNat + 1)).toInt) x_18 (by omega) (by omega) (by omega) (fun q => by omega) (by first | exact Or.inl ⟨by omega, by omega, rfl⟩ | exact Or.inr ⟨by omega, rfl⟩) (by first | exact Or.inl ⟨by omega, by omega, rfl⟩ | exact Or.inr ⟨by omega, rfl⟩) (by omega) | exact mp_own_e (a := 0) (b := 0) x_18 (by omega) (by omega) (by omega) (fun q => by omega) (by first | exact Or.inl ⟨by omega, by omega, rfl⟩ | exact Or.inr ⟨by omega, rfl⟩) (by first | exact Or.inl ⟨by omega, by omega, rfl⟩ | exact Or.inr ⟨by omega, rfl⟩) (by omega)), rfl⟩ (by first | exact mp_fd_ok mp_k_cX10_ownOf_ok (by decide +kernel) | decide +kernel)
                  · have c_380 : z_352.toInt < x1.toInt := c_380
                    show mp_W E X 6 125 [(5, .int z_352), (4, .int 1), (3, .int i_15), (0, .ref a0), (1, .int x0), (2, .int x1)] [.int z_373] w2_ 0 0
                    refine mp_run mp_k_cX10_ownOf_ok hF mp_tabX10_ok [mp_i (.iload_n 2), mp_i (.iload 5), mp_i .isub, mp_h (.goto 4) [133], mp_i .iadd] (by decide +kernel) ?_
                    intro z_384 h_385
                    have e_386 : z_384.toInt = x1.toInt - z_352.toInt := mp_subi (a := x1.toInt) (b := z_352.toInt) h_385 rfl rfl (by omega) (by omega)
                    intro z_387 h_388
                    have e_389 : z_387.toInt = z_373.toInt + z_384.toInt := mp_add (a := z_373.toInt) (b := z_384.toInt) h_388 rfl rfl (by omega) (by omega)
                    show mp_W E X 6 134 [(5, .int z_352), (4, .int 1), (3, .int i_15), (0, .ref a0), (1, .int x0), (2, .int x1)] [.int z_387] w2_ 0 0
                    exact mp_iret hF hQ rfl rfl (Nat.le_of_ble_eq_true rfl) (Nat.le_of_ble_eq_true rfl) [2, 0, 3, 1] (w' := w1_) rfl rfl ⟨z_387, rfl, (by omega), (by omega), (by first | exact mp_own_e (a := (f1 (6 * x0.toInt.toNat + 4)).toInt) (b := x1.toInt - (f0 (3 * (f1 (6 * x0.toInt.toNat + 0)).toInt.toNat + 1)).toInt) x_18 (by omega) (by omega) (by omega) (fun q => by omega) (by first | exact Or.inl ⟨by omega, by omega, rfl⟩ | exact Or.inr ⟨by omega, rfl⟩) (by first | exact Or.inl ⟨by omega, by omega, rfl⟩ | exact Or.inr ⟨by omega, rfl⟩) (by omega) | exact mp_own_e (a := (f1 (6 * x0.toInt.toNat + 4)).toInt) (b := 0) x_18 (by omega) (by omega) (by omega) (fun q => by omega) (by first | exact Or.inl ⟨by omega, by omega, rfl⟩ | exact Or.inr ⟨by omega, rfl⟩) (by first | exact Or.inl ⟨by omega, by omega, rfl⟩ | exact Or.inr ⟨by omega, rfl⟩) (by omega) | exact mp_own_e (a := 0) (b := x1.toInt - (f0 (3 * (f1 (6 * x0.toInt.toNat + 0)).toInt.toNat + 1)).toInt) x_18 (by omega) (by omega) (by omega) (fun q => by omega) (by first | exact Or.inl ⟨by omega, by omega, rfl⟩ | exact Or.inr ⟨by omega, rfl⟩) (by first | exact Or.inl ⟨by omega, by omega, rfl⟩ | exact Or.inr ⟨by omega, rfl⟩) (by omega) | exact mp_own_e (a := 0) (b := 0) x_18 (by omega) (by omega) (by omega) (fun q => by omega) (by first | exact Or.inl ⟨by omega, by omega, rfl⟩ | exact Or.inr ⟨by omega, rfl⟩) (by first | exact Or.inl ⟨by omega, by omega, rfl⟩ | exact Or.inr ⟨by omega, rfl⟩) (by omega)), rfl⟩ (by first | exact mp_fd_ok mp_k_cX10_ownOf_ok (by decide +kernel) | decide +kernel)
          · have c_219 : z_215.toInt = 0 := (congrArg Int32.toInt c_219)
            show mp_W E X 6 39 [(3, .int i_15), (0, .ref a0), (1, .int x0), (2, .int x1)] [] w2_ 0 0
            refine mp_run mp_k_cX10_ownOf_ok hF mp_tabX10_ok [mp_c (.iinc 3 (-1)) (-1), mp_h (.goto (-28)) [14]] (by decide +kernel) ?_
            intro z_390 h_391
            have e_392 : z_390.toInt = i_15.toInt + (-1) := mp_add (a := i_15.toInt) (b := (-1)) h_391 rfl (by decide) (by omega) (by omega)
            show mp_W E X 6 14 [(3, .int z_390), (0, .ref a0), (1, .int x0), (2, .int x1)] [] w2_ 0 0
            exact mp_sub [0, 1, 2, 3] rfl [0, 1, 2, 3] rfl rfl (ih_23 (d_22 - 1) (by omega) z_390 (by omega) (by omega) (mp_own_s x_18 (by omega) (by omega) (by omega)) (by omega) (by omega) (by omega))
    exact mp_sub [0, 1, 2, 3] rfl [0, 1, 2, 3] rfl rfl (lp_21 _ x1 l_x1 u_x1 (mp_own_0 (by omega)) (by omega) (by omega) (Int.self_le_toNat _))
  · have c_14 : x1.toInt < r_4.toInt := c_14
    show mp_W E X 6 10 [(0, .ref a0), (1, .int x0), (2, .int x1)] [] w2_ 0 0
    refine mp_run mp_k_cX10_ownOf_ok hF mp_tabX10_ok [mp_c (.iconst (-1)) (-1)] (by decide +kernel) ?_
    show mp_W E X 6 11 [(0, .ref a0), (1, .int x0), (2, .int x1)] [.int (-1)] w2_ 0 0
    exact mp_iret hF hQ rfl rfl (Nat.le_of_ble_eq_true rfl) (Nat.le_of_ble_eq_true rfl) [2, 0, 3, 1] (w' := w1_) rfl rfl ⟨(-1), rfl, (by decide), (by decide), (Or.inl ⟨by omega, by decide⟩), rfl⟩ (by first | exact mp_fd_ok mp_k_cX10_ownOf_ok (by decide +kernel) | decide +kernel)

