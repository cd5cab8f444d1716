set_option maxHeartbeats 4000000 in
set_option maxRecDepth 100000 in
theorem bX10_isPromise_55 (E : mp_E) (a0 a1 a2 a3 a4 a5 a6 a7 a8 a9 a10 a11 a12 a13 a14 a15 a16 a17 a18 a19 a20 a21 a22 a23 a24 a25 : Nat) (f0 : Nat → Int32) (y0 : Int32) (y1 : Int32) (y2 : Int32) (y3 : Int32) (y4 : Int32) (y5 : Int32) (y6 : Int64) (y7 : Int32) (y8 : Int32) (y9 : Int32) (y10 : Int32) (y11 : Int32) (y12 : Int32) (y13 : Int32) (y14 : Int32) (y15 : Int32) (y16 : Int32) (y17 : Int32) (y18 : Int32) (y19 : Int32) (y20 : Int32) (y21 : Int32) (x0 : Int32) (p0 : mp_res f0 25 5 0 0 6) (p1 : mp_res f0 25 5 1 0 99) (p2 : mp_res f0 25 5 2 0 6) (p3 : mp_res f0 25 5 3 0 10) (p4 : mp_res f0 25 5 4 0 60) (l_y1 : 0 ≤ y1.toInt) (u_y1 : y1.toInt ≤ 1600) (l_y2 : 0 ≤ y2.toInt) (u_y2 : y2.toInt ≤ 1600) (l_y3 : 0 ≤ y3.toInt) (u_y3 : y3.toInt ≤ 4) (l_y4 : 0 ≤ y4.toInt) (u_y4 : y4.toInt ≤ 1600) (l_y11 : 0 ≤ y11.toInt) (u_y11 : y11.toInt ≤ 99) (l_y12 : 0 ≤ y12.toInt) (u_y12 : y12.toInt ≤ 5) (l_y13 : 0 ≤ y13.toInt) (u_y13 : y13.toInt ≤ 12) : mp_Ct E yX10_isPromise cX10_isPromise 2 (some FieldType.boolean) 1 0 0 25 [.ref a0, .int x0] [(mp_ob10 a0 y0 a2 a3 a4 a5 a6 y1 y2 y3 y4 y5 y6 y7 y8 y9 y10 a7 a1 a8 a9 a10 a11 a12 a13 y11 a14 a15 a16 a17 y12 y13 y14 a18 a19 y15 y16 a20 a21 a22 y17 y18 y19 y20 a23 a24 a25 y21), (mp_arI E a1 0 25 f0)] (fun v w' => (v = some (.int 0) ∧ (x0.toInt < 0 ∨ (f0 3).toInt ≤ x0.toInt) ∧ w' = [(mp_ob10 a0 y0 a2 a3 a4 a5 a6 y1 y2 y3 y4 y5 y6 y7 y8 y9 y10 a7 a1 a8 a9 a10 a11 a12 a13 y11 a14 a15 a16 a17 y12 y13 y14 a18 a19 y15 y16 a20 a21 a22 y17 y18 y19 y20 a23 a24 a25 y21), (mp_arI E a1 0 25 f0)]) ∨ (v = some (.int 1) ∧ 0 ≤ x0.toInt ∧ (x0.toInt < (f0 3).toInt) ∧ (x0.toInt ≤ 9) ∧ (0 ≤ x0.toInt ∧ x0.toInt < (f0 3).toInt) ∧ w' = [(mp_ob10 a0 y0 a2 a3 a4 a5 a6 y1 y2 y3 y4 y5 y6 y7 y8 y9 y10 a7 a1 a8 a9 a10 a11 a12 a13 y11 a14 a15 a16 a17 y12 y13 y14 a18 a19 y15 y16 a20 a21 a22 y17 y18 y19 y20 a23 a24 a25 y21), (mp_arI E a1 0 25 f0)])) := by
  refine mp_met false (by decide) (by decide) (Nat.le_of_ble_eq_true rfl) (fun X hF hQ => ?_)
  have hF : mp_F E X (RX10, cX10_isPromise, 2, (1, 0, 0, 25), (some FieldType.boolean), false) := hF
  let w1_ : va_W := [(mp_ob10 a0 y0 a2 a3 a4 a5 a6 y1 y2 y3 y4 y5 y6 y7 y8 y9 y10 a7 a1 a8 a9 a10 a11 a12 a13 y11 a14 a15 a16 a17 y12 y13 y14 a18 a19 y15 y16 a20 a21 a22 y17 y18 y19 y20 a23 a24 a25 y21), (mp_arI E a1 0 25 f0)]
  show mp_W E X 2 0 [(0, .ref a0), (1, .int x0)] [] w1_ 0 0
  refine mp_run mp_k_cX10_isPromise_ok hF mp_tabX10_ok [mp_i (.iload_n 1), mp_i .i2l, mp_cl (.lconst 0) 0, mp_i (.aload_n 0), mp_h (.getfield 34) [17, 0], mp_c (.iconst 3) 3, mp_h .iaload [1], mp_c (.iconst 1) 1, mp_i .isub, mp_i .i2l] (by decide +kernel) ?_
  intro z_1 h_2
  have e_3 : z_1.toInt = x0.toInt := mp_i2l h_2
  refine And.intro rfl (And.intro rfl ?_)
  refine And.intro rfl (And.intro rfl (And.intro (vp_in_iff.mpr (by decide)) ?_))
  intro z_4 h_5
  have e_6 : 0 ≤ z_4.toInt ∧ z_4.toInt ≤ 10 := mp_res_ld h_5 p3 (by decide) (by decide) (by decide)
  have e_7 : z_4.toInt = (f0 3).toInt := congrArg Int32.toInt (mp_at h_5 (by decide) rfl)
  intro z_8 h_9
  have e_10 : z_8.toInt = z_4.toInt - 1 := mp_subi (a := z_4.toInt) (b := 1) h_9 rfl (by decide) (by (first | exact mp_o1408 e_6 | omega)) (by (first | exact mp_o1409 e_6 | omega))
  intro z_11 h_12
  have e_13 : z_11.toInt = z_8.toInt := mp_i2l h_12
  show mp_W E X 2 12 [(0, .ref a0), (1, .int x0)] [.long z_11, .long 0, .long z_1] w1_ 0 0
  refine mp_callS hF (As := [.long z_1, .long 0, .long z_11]) (rest := []) (wr := w1_) (bX10_in_0 E z_1 0 z_11) mp_lkX10_97 [] [0, 1] rfl rfl rfl rfl rfl ⟨(Nat.le_of_ble_eq_true rfl), (Nat.le_of_ble_eq_true rfl), (Nat.le_of_ble_eq_true rfl), (Nat.le_of_ble_eq_true rfl)⟩ (Nat.le_of_ble_eq_true rfl) (by first | exact mp_fd_ok mp_k_cX10_isPromise_ok (by decide +kernel) | decide +kernel) (fun v_14 w_15 h_16 => ?_)
  rcases h_16 with ⟨rfl, x_17, rfl⟩ | ⟨rfl, c_18, c_19, rfl⟩
  · skip
    have i_20 : (0 : Int64).toInt = 0 := by decide
    show mp_W E X 2 15 [(0, .ref a0), (1, .int x0)] [.int 0] w1_ 0 0
    exact mp_iret hF hQ rfl (by decide) (Nat.le_of_ble_eq_true rfl) (Nat.le_of_ble_eq_true rfl) [0, 1] (w' := w1_) rfl rfl (Or.inl ⟨rfl, (by first | (first | exact mp_o1393 i_20 e_3 x_17 e_7 e_10 e_13 | omega) | decide | (have h8 : (0 : Int64).toInt = 0 := rfl; have h9 : (-1 : Int32).toInt = -1 := rfl; have h10 : (-2 : Int32).toInt = -2 := rfl; have h11 : (0 : Int32).toInt = 0 := rfl; have h12 : (1 : Int32).toInt = 1 := rfl; have h13 : (-5 : Int32).toInt = -5 := rfl; have h14 : (-3 : Int32).toInt = -3 := rfl; omega)), rfl⟩) (by first | exact mp_fd_ok mp_k_cX10_isPromise_ok (by decide +kernel) | decide +kernel)
  · skip
    have c_18 : 0 ≤ z_1.toInt := c_18
    have c_19 : z_1.toInt ≤ z_11.toInt := c_19
    have i_21 : (0 : Int64).toInt = 0 := by decide
    show mp_W E X 2 15 [(0, .ref a0), (1, .int x0)] [.int 1] w1_ 0 0
    exact mp_iret hF hQ rfl (by decide) (Nat.le_of_ble_eq_true rfl) (Nat.le_of_ble_eq_true rfl) [0, 1] (w' := w1_) rfl rfl (Or.inr ⟨rfl, (by first | (first | exact mp_o921 c_18 e_3 | omega) | decide), (by first | (first | exact mp_o1394 e_3 e_7 e_10 e_13 c_19 | omega) | decide | (have h8 : (0 : Int64).toInt = 0 := rfl; have h9 : (-1 : Int32).toInt = -1 := rfl; have h10 : (-2 : Int32).toInt = -2 := rfl; have h11 : (0 : Int32).toInt = 0 := rfl; have h12 : (1 : Int32).toInt = 1 := rfl; have h13 : (-5 : Int32).toInt = -5 := rfl; have h14 : (-3 : Int32).toInt = -3 := rfl; omega)), (by first | (first | exact mp_o1410 e_3 c_19 e_13 e_10 e_6 | omega) | decide | (have h8 : (0 : Int64).toInt = 0 := rfl; have h9 : (-1 : Int32).toInt = -1 := rfl; have h10 : (-2 : Int32).toInt = -2 := rfl; have h11 : (0 : Int32).toInt = 0 := rfl; have h12 : (1 : Int32).toInt = 1 := rfl; have h13 : (-5 : Int32).toInt = -5 := rfl; have h14 : (-3 : Int32).toInt = -3 := rfl; omega)), (by first | (first | exact mp_o1396 c_18 e_3 e_7 e_10 e_13 c_19 | omega) | decide | (have h8 : (0 : Int64).toInt = 0 := rfl; have h9 : (-1 : Int32).toInt = -1 := rfl; have h10 : (-2 : Int32).toInt = -2 := rfl; have h11 : (0 : Int32).toInt = 0 := rfl; have h12 : (1 : Int32).toInt = 1 := rfl; have h13 : (-5 : Int32).toInt = -5 := rfl; have h14 : (-3 : Int32).toInt = -3 := rfl; omega)), rfl⟩) (by first | exact mp_fd_ok mp_k_cX10_isPromise_ok (by decide +kernel) | decide +kernel)
set_option maxHeartbeats 4000000 in
set_option maxRecDepth 100000 in
theorem bX10_of_56 (E : mp_E) (a0 a1 a2 a3 a4 a5 a6 a7 a8 a9 a10 a11 a12 a13 a14 a15 a16 a17 a18 a19 a20 a21 a22 a23 a24 a25 : Nat) (f0 : Nat → Int32) (y0 : Int32) (y1 : Int32) (y2 : Int32) (y3 : Int32) (y4 : Int32) (y5 : Int32) (y6 : Int64) (y7 : Int32) (y8 : Int32) (y9 : Int32) (y10 : Int32) (y11 : Int32) (y12 : Int32) (y13 : Int32) (y14 : Int32) (y15 : Int32) (y16 : Int32) (y17 : Int32) (y18 : Int32) (y19 : Int32) (y20 : Int32) (y21 : Int32) (x0 : Int32) (x1 : Int32) (p0 : mp_res f0 300 6 0 0 5) (p1 : mp_res f0 300 6 1 0 5) (p2 : mp_res f0 300 6 3 0 99) (p3 : mp_res f0 300 6 4 0 1) (l_x0 : 0 ≤ x0.toInt) (u_x0 : x0.toInt ≤ 9) (l_x1 : 0 ≤ x1.toInt) (u_x1 : x1.toInt ≤ 5) (l_y1 : 0 ≤ y1.toInt) (u_y1 : y1.toInt ≤ 1600) (l_y2 : 0 ≤ y2.toInt) (u_y2 : y2.toInt ≤ 1600) (l_y3 : 0 ≤ y3.toInt) (u_y3 : y3.toInt ≤ 4) (l_y4 : 0 ≤ y4.toInt) (u_y4 : y4.toInt ≤ 1600) (l_y11 : 0 ≤ y11.toInt) (u_y11 : y11.toInt ≤ 99) (l_y12 : 0 ≤ y12.toInt) (u_y12 : y12.toInt ≤ 5) (l_y13 : 0 ≤ y13.toInt) (u_y13 : y13.toInt ≤ 12) : mp_Ct E yX10_of cX10_of 3 (some FieldType.int) 0 0 0 0 [.ref a0, .int x0, .int x1] [(mp_ob10 a0 y0 a2 a3 a4 a5 a6 y1 y2 y3 y4 y5 y6 y7 y8 y9 y10 a7 a8 a9 a10 a11 a1 a12 a13 y11 a14 a15 a16 a17 y12 y13 y14 a18 a19 y15 y16 a20 a21 a22 y17 y18 y19 y20 a23 a24 a25 y21), (mp_arI E a1 0 300 f0)] (fun v w' => ∃ r1 : Int32, v = some (.int r1) ∧ (r1.toInt = (f0 (6 * x0.toInt + x1.toInt).toNat).toInt) ∧ w' = [(mp_ob10 a0 y0 a2 a3 a4 a5 a6 y1 y2 y3 y4 y5 y6 y7 y8 y9 y10 a7 a8 a9 a10 a11 a1 a12 a13 y11 a14 a15 a16 a17 y12 y13 y14 a18 a19 y15 y16 a20 a21 a22 y17 y18 y19 y20 a23 a24 a25 y21), (mp_arI E a1 0 300 f0)]) := by
  refine mp_met false (by decide) (by decide) (Nat.le_of_ble_eq_true rfl) (fun X hF hQ => ?_)
  have hF : mp_F E X (RX10, cX10_of, 3, (0, 0, 0, 0), (some FieldType.int), false) := hF
  let w1_ : va_W := [(mp_ob10 a0 y0 a2 a3 a4 a5 a6 y1 y2 y3 y4 y5 y6 y7 y8 y9 y10 a7 a8 a9 a10 a11 a1 a12 a13 y11 a14 a15 a16 a17 y12 y13 y14 a18 a19 y15 y16 a20 a21 a22 y17 y18 y19 y20 a23 a24 a25 y21), (mp_arI E a1 0 300 f0)]
  show mp_W E X 3 0 [(0, .ref a0), (1, .int x0), (2, .int x1)] [] w1_ 0 0
  refine mp_run mp_k_cX10_of_ok hF mp_tabX10_ok [mp_i (.aload_n 0), mp_h (.getfield 47) [21, 0], mp_c (.bipush 6) 6, mp_i (.iload_n 1), mp_i .imul, mp_i (.iload_n 2), mp_i .iadd, mp_h .iaload [1]] (by decide +kernel) ?_
  refine And.intro rfl (And.intro rfl ?_)
  intro z_1 h_2
  have e_3 : z_1.toInt = 6 * x0.toInt := mp_mul (a := 6) (b := x0.toInt) h_2 (by decide) rfl (by (first | exact mp_o1152 l_x0 | omega)) (by (first | exact mp_o1411 u_x0 | omega))
  intro z_4 h_5
  have e_6 : z_4.toInt = z_1.toInt + x1.toInt := mp_add (a := z_1.toInt) (b := x1.toInt) h_5 rfl rfl (by (first | exact mp_o1412 l_x1 l_x0 e_3 | omega)) (by (first | exact mp_o1413 u_x1 u_x0 e_3 | omega))
  refine And.intro rfl (And.intro rfl (And.intro (vp_in_iff.mpr (by (first | exact mp_o1414 l_x0 u_x0 l_x1 u_x1 e_3 e_6 | omega))) ?_))
  intro z_7 h_8
  have e_9 : z_4.toInt % 6 = 0 → 0 ≤ z_7.toInt ∧ z_7.toInt ≤ 5 := mp_res_ld h_8 p0 (by (first | exact mp_o1415 l_x0 l_x1 e_3 e_6 | omega)) (by (first | exact mp_o1416 u_x1 u_x0 e_3 e_6 | omega))
  have e_10 : z_4.toInt % 6 = 1 → 0 ≤ z_7.toInt ∧ z_7.toInt ≤ 5 := mp_res_ld h_8 p1 (by (first | exact mp_o1415 l_x0 l_x1 e_3 e_6 | omega)) (by (first | exact mp_o1416 u_x1 u_x0 e_3 e_6 | omega))
  have e_11 : z_4.toInt % 6 = 3 → 0 ≤ z_7.toInt ∧ z_7.toInt ≤ 99 := mp_res_ld h_8 p2 (by (first | exact mp_o1415 l_x0 l_x1 e_3 e_6 | omega)) (by (first | exact mp_o1416 u_x1 u_x0 e_3 e_6 | omega))
  have e_12 : z_4.toInt % 6 = 4 → 0 ≤ z_7.toInt ∧ z_7.toInt ≤ 1 := mp_res_ld h_8 p3 (by (first | exact mp_o1415 l_x0 l_x1 e_3 e_6 | omega)) (by (first | exact mp_o1416 u_x1 u_x0 e_3 e_6 | omega))
  have e_13 : z_7.toInt = (f0 (6 * x0.toInt + x1.toInt).toNat).toInt := mp_at_i h_8 (by (first | exact mp_o1417 l_x0 l_x1 e_3 e_6 | omega))
  show mp_W E X 3 11 [(0, .ref a0), (1, .int x0), (2, .int x1)] [.int z_7] w1_ 0 0
  exact mp_iret hF hQ rfl rfl (Nat.le_of_ble_eq_true rfl) (Nat.le_of_ble_eq_true rfl) [0, 1] (w' := w1_) rfl rfl ⟨z_7, rfl, (by first | (first | exact e_13 | omega) | decide | (have h8 : (0 : Int64).toInt = 0 := rfl; have h9 : (-1 : Int32).toInt = -1 := rfl; have h10 : (-2 : Int32).toInt = -2 := rfl; have h11 : (0 : Int32).toInt = 0 := rfl; have h12 : (1 : Int32).toInt = 1 := rfl; have h13 : (-5 : Int32).toInt = -5 := rfl; have h14 : (-3 : Int32).toInt = -3 := rfl; omega)), rfl⟩ (by first | exact mp_fd_ok mp_k_cX10_of_ok (by decide +kernel) | decide +kernel)
set_option maxHeartbeats 4000000 in
set_option maxRecDepth 100000 in
theorem bX10_promise_57 (E : mp_E) (a0 a1 a2 a3 a4 a5 a6 a7 a8 a9 a10 a11 a12 a13 a14 a15 a16 a17 a18 a19 a20 a21 a22 a23 a24 a25 : Nat) (f0 : Nat → Int32) (f1 : Nat → Int32) (y0 : Int32) (y1 : Int32) (y2 : Int32) (y3 : Int32) (y4 : Int32) (y5 : Int32) (y6 : Int64) (y7 : Int32) (y8 : Int32) (y9 : Int32) (y10 : Int32) (y11 : Int32) (y12 : Int32) (y13 : Int32) (y14 : Int32) (y15 : Int32) (y16 : Int32) (y17 : Int32) (y18 : Int32) (y19 : Int32) (y20 : Int32) (y21 : Int32) (x0 : Int32) (x1 : Int32) (p0 : mp_res f0 25 5 0 0 6) (p1 : mp_res f0 25 5 1 0 99) (p2 : mp_res f0 25 5 2 0 6) (p3 : mp_res f0 25 5 3 0 10) (p4 : mp_res f0 25 5 4 0 60) (p5 : mp_res f1 300 6 0 0 5) (p6 : mp_res f1 300 6 1 0 5) (p7 : mp_res f1 300 6 3 0 99) (p8 : mp_res f1 300 6 4 0 1) (l_y1 : 0 ≤ y1.toInt) (u_y1 : y1.toInt ≤ 1600) (l_y2 : 0 ≤ y2.toInt) (u_y2 : y2.toInt ≤ 1600) (l_y3 : 0 ≤ y3.toInt) (u_y3 : y3.toInt ≤ 4) (l_y4 : 0 ≤ y4.toInt) (u_y4 : y4.toInt ≤ 1600) (l_y11 : 0 ≤ y11.toInt) (u_y11 : y11.toInt ≤ 99) (l_y12 : 0 ≤ y12.toInt) (u_y12 : y12.toInt ≤ 5) (l_y13 : 0 ≤ y13.toInt) (u_y13 : y13.toInt ≤ 12) : mp_Ct E yX10_promise cX10_promise 3 (some FieldType.int) 2 0 0 46 [.ref a0, .int x0, .int x1] [(mp_ob10 a0 y0 a3 a4 a5 a6 a7 y1 y2 y3 y4 y5 y6 y7 y8 y9 y10 a8 a1 a9 a10 a11 a2 a12 a13 y11 a14 a15 a16 a17 y12 y13 y14 a18 a19 y15 y16 a20 a21 a22 y17 y18 y19 y20 a23 a24 a25 y21), (mp_arI E a1 0 25 f0), (mp_arI E a2 0 300 f1)] (fun v w' => ∃ r1 : Int32, v = some (.int r1) ∧ (((x0.toInt < 0 ∨ (f0 3).toInt ≤ x0.toInt ∨ x1.toInt < 0 ∨ 5 < x1.toInt) ∧ r1.toInt = -2) ∨ ((0 ≤ x0.toInt ∧ x0.toInt < (f0 3).toInt ∧ 0 ≤ x1.toInt ∧ x1.toInt ≤ 5) ∧ r1.toInt = (f1 (6 * x0.toInt + x1.toInt).toNat).toInt)) ∧ w' = [(mp_ob10 a0 0 a3 a4 a5 a6 a7 y1 y2 y3 y4 y5 y6 y7 y8 y9 y10 a8 a1 a9 a10 a11 a2 a12 a13 y11 a14 a15 a16 a17 y12 y13 y14 a18 a19 y15 y16 a20 a21 a22 y17 y18 y19 y20 a23 a24 a25 y21), (mp_arI E a1 0 25 f0), (mp_arI E a2 0 300 f1)]) := by
  refine mp_met false (by decide) (by decide) (Nat.le_of_ble_eq_true rfl) (fun X hF hQ => ?_)
  have hF : mp_F E X (RX10, cX10_promise, 3, (2, 0, 0, 46), (some FieldType.int), false) := hF
  let w1_ : va_W := [(mp_ob10 a0 y0 a3 a4 a5 a6 a7 y1 y2 y3 y4 y5 y6 y7 y8 y9 y10 a8 a1 a9 a10 a11 a2 a12 a13 y11 a14 a15 a16 a17 y12 y13 y14 a18 a19 y15 y16 a20 a21 a22 y17 y18 y19 y20 a23 a24 a25 y21), (mp_arI E a1 0 25 f0), (mp_arI E a2 0 300 f1)]
  show mp_W E X 3 0 [(0, .ref a0), (1, .int x0), (2, .int x1)] [] w1_ 0 0
  refine mp_run mp_k_cX10_promise_ok hF mp_tabX10_ok [mp_i (.aload_n 0), mp_c (.iconst 0) 0, mp_h (.putfield 92) [0, 0]] (by decide +kernel) ?_
  refine And.intro rfl (And.intro rfl (And.intro rfl (And.intro rfl (And.intro (Nat.le_of_ble_eq_true rfl) ?_))))
  let w2_ : va_W := [(mp_ob10 a0 0 a3 a4 a5 a6 a7 y1 y2 y3 y4 y5 y6 y7 y8 y9 y10 a8 a1 a9 a10 a11 a2 a12 a13 y11 a14 a15 a16 a17 y12 y13 y14 a18 a19 y15 y16 a20 a21 a22 y17 y18 y19 y20 a23 a24 a25 y21), (mp_arI E a1 0 25 f0), (mp_arI E a2 0 300 f1)]
  show mp_W E X 3 5 [(0, .ref a0), (1, .int x0), (2, .int x1)] [] w2_ 0 0
  refine mp_run mp_k_cX10_promise_ok hF mp_tabX10_ok [mp_i (.aload_n 0), mp_i (.iload_n 1)] (by decide +kernel) ?_
  show mp_W E X 3 7 [(0, .ref a0), (1, .int x0), (2, .int x1)] [.int x0, .ref a0] w2_ 0 0
  refine mp_callV hF (As := [.int x0]) (rest := []) (wr := [(mp_arI E a2 0 300 f1)]) (bX10_isPromise_55 E a0 a1 a3 a4 a5 a6 a7 a8 a9 a10 a11 a2 a12 a13 a14 a15 a16 a17 a18 a19 a20 a21 a22 a23 a24 a25 f0 0 y1 y2 y3 y4 y5 y6 y7 y8 y9 y10 y11 y12 y13 y14 y15 y16 y17 y18 y19 y20 y21 x0 p0 p1 p2 p3 p4 l_y1 u_y1 l_y2 u_y2 l_y3 u_y3 l_y4 u_y4 l_y11 u_y11 l_y12 u_y12 l_y13 u_y13) mp_lkX10_262 0 rfl [0, 1] [2] rfl rfl rfl rfl rfl ⟨(Nat.le_of_ble_eq_true rfl), (Nat.le_of_ble_eq_true rfl), (Nat.le_of_ble_eq_true rfl), (Nat.le_of_ble_eq_true rfl)⟩ (Nat.le_of_ble_eq_true rfl) (by first | exact mp_fd_ok mp_k_cX10_promise_ok (by decide +kernel) | decide +kernel) (fun v_1 w_2 h_3 => ?_)
  refine h_3.elim (fun q_9 => ?_) (fun q_10 => ?_)
  · skip
    refine q_9.elim fun e_11 q_12 => q_12.elim fun x_4 e_13 => ?_
    clear h_3 q_9 q_12
    subst e_11
    subst e_13
    let w3_ : va_W := [(mp_arI E a2 0 300 f1), (mp_ob10 a0 0 a3 a4 a5 a6 a7 y1 y2 y3 y4 y5 y6 y7 y8 y9 y10 a8 a1 a9 a10 a11 a2 a12 a13 y11 a14 a15 a16 a17 y12 y13 y14 a18 a19 y15 y16 a20 a21 a22 y17 y18 y19 y20 a23 a24 a25 y21), (mp_arI E a1 0 25 f0)]
    show mp_W E X 3 10 [(0, .ref a0), (1, .int x0), (2, .int x1)] [.int 0] w3_ 0 0
    refine mp_run mp_k_cX10_promise_ok hF mp_tabX10_ok [mp_h (.ifCond .eq 24) [34]] (by decide +kernel) ?_
    refine And.intro (fun _ => ?_) (fun c_14 => absurd c_14 (by decide))
    show mp_W E X 3 34 [(0, .ref a0), (1, .int x0), (2, .int x1)] [] w3_ 0 0
    refine mp_run mp_k_cX10_promise_ok hF mp_tabX10_ok [mp_c (.bipush (-2)) (-2)] (by decide +kernel) ?_
    show mp_W E X 3 36 [(0, .ref a0), (1, .int x0), (2, .int x1)] [.int (-2)] w3_ 0 0
    exact mp_iret hF hQ rfl rfl (Nat.le_of_ble_eq_true rfl) (Nat.le_of_ble_eq_true rfl) [1, 2, 0] (w' := w2_) rfl rfl ⟨(-2), rfl, (by first | fail | decide | (have h8 : (0 : Int64).toInt = 0 := rfl; have h9 : (-1 : Int32).toInt = -1 := rfl; have h10 : (-2 : Int32).toInt = -2 := rfl; have h11 : (0 : Int32).toInt = 0 := rfl; have h12 : (1 : Int32).toInt = 1 := rfl; have h13 : (-5 : Int32).toInt = -5 := rfl; have h14 : (-3 : Int32).toInt = -3 := rfl; (first | exact mp_o1418 x_4 h10 | omega))), rfl⟩ (by first | exact mp_fd_ok mp_k_cX10_promise_ok (by decide +kernel) | decide +kernel)
  · skip
    refine q_10.elim fun e_15 q_16 => q_16.elim fun c_5 q_17 => q_17.elim fun x_6 q_18 => q_18.elim fun x_7 q_19 => q_19.elim fun x_8 e_20 => ?_
    clear h_3 q_10 q_16 q_17 q_18 q_19
    subst e_15
    subst e_20
    have c_5 : 0 ≤ x0.toInt := c_5
    let w4_ : va_W := [(mp_arI E a2 0 300 f1), (mp_ob10 a0 0 a3 a4 a5 a6 a7 y1 y2 y3 y4 y5 y6 y7 y8 y9 y10 a8 a1 a9 a10 a11 a2 a12 a13 y11 a14 a15 a16 a17 y12 y13 y14 a18 a19 y15 y16 a20 a21 a22 y17 y18 y19 y20 a23 a24 a25 y21), (mp_arI E a1 0 25 f0)]
    show mp_W E X 3 10 [(0, .ref a0), (1, .int x0), (2, .int x1)] [.int 1] w4_ 0 0
    refine mp_run mp_k_cX10_promise_ok hF mp_tabX10_ok [mp_h (.ifCond .eq 24) [34]] (by decide +kernel) ?_
    refine And.intro (fun c_21 => absurd c_21 (by decide)) (fun _ => ?_)
    show mp_W E X 3 13 [(0, .ref a0), (1, .int x0), (2, .int x1)] [] w4_ 0 0
    refine mp_run mp_k_cX10_promise_ok hF mp_tabX10_ok [mp_i (.iload_n 2), mp_i .i2l, mp_cl (.lconst 0) 0, mp_cl (.ldc2_w 265) 5] (by decide +kernel) ?_
    intro z_22 h_23
    have e_24 : z_22.toInt = x1.toInt := mp_i2l h_23
    show mp_W E X 3 19 [(0, .ref a0), (1, .int x0), (2, .int x1)] [.long 5, .long 0, .long z_22] w4_ 0 0
    refine mp_callS hF (As := [.long z_22, .long 0, .long 5]) (rest := []) (wr := w4_) (bX10_in_0 E z_22 0 5) mp_lkX10_97 [] [0, 1, 2] rfl rfl rfl rfl rfl ⟨(Nat.le_of_ble_eq_true rfl), (Nat.le_of_ble_eq_true rfl), (Nat.le_of_ble_eq_true rfl), (Nat.le_of_ble_eq_true rfl)⟩ (Nat.le_of_ble_eq_true rfl) (by first | exact mp_fd_ok mp_k_cX10_promise_ok (by decide +kernel) | decide +kernel) (fun v_25 w_26 h_27 => ?_)
    rcases h_27 with ⟨rfl, x_28, rfl⟩ | ⟨rfl, c_29, c_30, rfl⟩
    · skip
      have i_31 : (0 : Int64).toInt = 0 := by decide
      have i_32 : (5 : Int64).toInt = 5 := by decide
      show mp_W E X 3 22 [(0, .ref a0), (1, .int x0), (2, .int x1)] [.int 0] w4_ 0 0
      refine mp_run mp_k_cX10_promise_ok hF mp_tabX10_ok [mp_h (.ifCond .eq 12) [34]] (by decide +kernel) ?_
      refine And.intro (fun _ => ?_) (fun c_33 => absurd c_33 (by decide))
      show mp_W E X 3 34 [(0, .ref a0), (1, .int x0), (2, .int x1)] [] w4_ 0 0
      refine mp_run mp_k_cX10_promise_ok hF mp_tabX10_ok [mp_c (.bipush (-2)) (-2)] (by decide +kernel) ?_
      show mp_W E X 3 36 [(0, .ref a0), (1, .int x0), (2, .int x1)] [.int (-2)] w4_ 0 0
      exact mp_iret hF hQ rfl rfl (Nat.le_of_ble_eq_true rfl) (Nat.le_of_ble_eq_true rfl) [1, 2, 0] (w' := w2_) rfl rfl ⟨(-2), rfl, (by first | fail | decide | (have h8 : (0 : Int64).toInt = 0 := rfl; have h9 : (-1 : Int32).toInt = -1 := rfl; have h10 : (-2 : Int32).toInt = -2 := rfl; have h11 : (0 : Int32).toInt = 0 := rfl; have h12 : (1 : Int32).toInt = 1 := rfl; have h13 : (-5 : Int32).toInt = -5 := rfl; have h14 : (-3 : Int32).toInt = -3 := rfl; (first | exact mp_o1419 h10 i_31 i_32 e_24 x_28 | omega))), rfl⟩ (by first | exact mp_fd_ok mp_k_cX10_promise_ok (by decide +kernel) | decide +kernel)
    · skip
      have c_29 : 0 ≤ z_22.toInt := c_29
      have c_30 : z_22.toInt ≤ 5 := c_30
      have i_34 : (0 : Int64).toInt = 0 := by decide
      have i_35 : (5 : Int64).toInt = 5 := by decide
      show mp_W E X 3 22 [(0, .ref a0), (1, .int x0), (2, .int x1)] [.int 1] w4_ 0 0
      refine mp_run mp_k_cX10_promise_ok hF mp_tabX10_ok [mp_h (.ifCond .eq 12) [34]] (by decide +kernel) ?_
      refine And.intro (fun c_36 => absurd c_36 (by decide)) (fun _ => ?_)
      show mp_W E X 3 25 [(0, .ref a0), (1, .int x0), (2, .int x1)] [] w4_ 0 0
      refine mp_run mp_k_cX10_promise_ok hF mp_tabX10_ok [mp_i (.aload_n 0), mp_i (.iload_n 1), mp_i (.iload_n 2)] (by decide +kernel) ?_
      show mp_W E X 3 28 [(0, .ref a0), (1, .int x0), (2, .int x1)] [.int x1, .int x0, .ref a0] w4_ 0 0
      refine mp_callV hF (As := [.int x0, .int x1]) (rest := []) (wr := [(mp_arI E a1 0 25 f0)]) (bX10_of_56 E a0 a2 a3 a4 a5 a6 a7 a8 a1 a9 a10 a11 a12 a13 a14 a15 a16 a17 a18 a19 a20 a21 a22 a23 a24 a25 f1 0 y1 y2 y3 y4 y5 y6 y7 y8 y9 y10 y11 y12 y13 y14 y15 y16 y17 y18 y19 y20 y21 x0 x1 p5 p6 p7 p8 (by (first | exact c_5 | omega)) (by (first | exact x_7 | omega)) (by (first | exact mp_o921 c_29 e_24 | omega)) (by (first | exact mp_o1420 e_24 c_30 | omega)) l_y1 u_y1 l_y2 u_y2 l_y3 u_y3 l_y4 u_y4 l_y11 u_y11 l_y12 u_y12 l_y13 u_y13) mp_lkX10_267 1 rfl [1, 0] [2] rfl rfl rfl rfl rfl ⟨(Nat.le_of_ble_eq_true rfl), (Nat.le_of_ble_eq_true rfl), (Nat.le_of_ble_eq_true rfl), (Nat.le_of_ble_eq_true rfl)⟩ (Nat.le_of_ble_eq_true rfl) (by first | exact mp_fd_ok mp_k_cX10_promise_ok (by decide +kernel) | decide +kernel) (fun v_37 w_38 h_39 => ?_)
      obtain ⟨r_40, rfl, x_41, rfl⟩ := h_39
      let w5_ : va_W := [(mp_arI E a1 0 25 f0), (mp_ob10 a0 0 a3 a4 a5 a6 a7 y1 y2 y3 y4 y5 y6 y7 y8 y9 y10 a8 a1 a9 a10 a11 a2 a12 a13 y11 a14 a15 a16 a17 y12 y13 y14 a18 a19 y15 y16 a20 a21 a22 y17 y18 y19 y20 a23 a24 a25 y21), (mp_arI E a2 0 300 f1)]
      show mp_W E X 3 31 [(0, .ref a0), (1, .int x0), (2, .int x1)] [.int r_40] w5_ 0 0
      refine mp_run mp_k_cX10_promise_ok hF mp_tabX10_ok [mp_h (.goto 5) [36]] (by decide +kernel) ?_
      show mp_W E X 3 36 [(0, .ref a0), (1, .int x0), (2, .int x1)] [.int r_40] w5_ 0 0
      exact mp_iret hF hQ rfl rfl (Nat.le_of_ble_eq_true rfl) (Nat.le_of_ble_eq_true rfl) [1, 0, 2] (w' := w2_) rfl rfl ⟨r_40, rfl, (by first | (first | exact mp_o1421 c_5 x_6 x_41 c_29 e_24 c_30 | omega) | decide | (have h8 : (0 : Int64).toInt = 0 := rfl; have h9 : (-1 : Int32).toInt = -1 := rfl; have h10 : (-2 : Int32).toInt = -2 := rfl; have h11 : (0 : Int32).toInt = 0 := rfl; have h12 : (1 : Int32).toInt = 1 := rfl; have h13 : (-5 : Int32).toInt = -5 := rfl; have h14 : (-3 : Int32).toInt = -3 := rfl; omega)), rfl⟩ (by first | exact mp_fd_ok mp_k_cX10_promise_ok (by decide +kernel) | decide +kernel)
set_option maxHeartbeats 4000000 in
set_option maxRecDepth 100000 in
theorem bX10_isIsle_58 (E : mp_E) (a0 a1 a2 a3 a4 a5 a6 a7 a8 a9 a10 a11 a12 a13 a14 a15 a16 a17 a18 a19 a20 a21 a22 a23 a24 a25 : Nat) (f0 : Nat → Int32) (y0 : Int32) (y1 : Int32) (y2 : Int32) (y3 : Int32) (y4 : Int32) (y5 : Int32) (y6 : Int64) (y7 : Int32) (y8 : Int32) (y9 : Int32) (y10 : Int32) (y11 : Int32) (y12 : Int32) (y13 : Int32) (y14 : Int32) (y15 : Int32) (y16 : Int32) (y17 : Int32) (y18 : Int32) (y19 : Int32) (y20 : Int32) (y21 : Int32) (x0 : Int32) (p0 : mp_res f0 25 5 0 0 6) (p1 : mp_res f0 25 5 1 0 99) (p2 : mp_res f0 25 5 2 0 6) (p3 : mp_res f0 25 5 3 0 10) (p4 : mp_res f0 25 5 4 0 60) (l_y1 : 0 ≤ y1.toInt) (u_y1 : y1.toInt ≤ 1600) (l_y2 : 0 ≤ y2.toInt) (u_y2 : y2.toInt ≤ 1600) (l_y3 : 0 ≤ y3.toInt) (u_y3 : y3.toInt ≤ 4) (l_y4 : 0 ≤ y4.toInt) (u_y4 : y4.toInt ≤ 1600) (l_y11 : 0 ≤ y11.toInt) (u_y11 : y11.toInt ≤ 99) (l_y12 : 0 ≤ y12.toInt) (u_y12 : y12.toInt ≤ 5) (l_y13 : 0 ≤ y13.toInt) (u_y13 : y13.toInt ≤ 12) : mp_Ct E yX10_isIsle cX10_isIsle 2 (some FieldType.boolean) 1 0 0 25 [.ref a0, .int x0] [(mp_ob10 a0 y0 a2 a3 a4 a5 a6 y1 y2 y3 y4 y5 y6 y7 y8 y9 y10 a7 a1 a8 a9 a10 a11 a12 a13 y11 a14 a15 a16 a17 y12 y13 y14 a18 a19 y15 y16 a20 a21 a22 y17 y18 y19 y20 a23 a24 a25 y21), (mp_arI E a1 0 25 f0)] (fun v w' => (v = some (.int 0) ∧ (x0.toInt < 0 ∨ (f0 0).toInt ≤ x0.toInt) ∧ w' = [(mp_ob10 a0 y0 a2 a3 a4 a5 a6 y1 y2 y3 y4 y5 y6 y7 y8 y9 y10 a7 a1 a8 a9 a10 a11 a12 a13 y11 a14 a15 a16 a17 y12 y13 y14 a18 a19 y15 y16 a20 a21 a22 y17 y18 y19 y20 a23 a24 a25 y21), (mp_arI E a1 0 25 f0)]) ∨ (v = some (.int 1) ∧ 0 ≤ x0.toInt ∧ (x0.toInt < (f0 0).toInt) ∧ (x0.toInt ≤ 5) ∧ (0 ≤ x0.toInt ∧ x0.toInt < (f0 0).toInt) ∧ w' = [(mp_ob10 a0 y0 a2 a3 a4 a5 a6 y1 y2 y3 y4 y5 y6 y7 y8 y9 y10 a7 a1 a8 a9 a10 a11 a12 a13 y11 a14 a15 a16 a17 y12 y13 y14 a18 a19 y15 y16 a20 a21 a22 y17 y18 y19 y20 a23 a24 a25 y21), (mp_arI E a1 0 25 f0)])) := by
  refine mp_met false (by decide) (by decide) (Nat.le_of_ble_eq_true rfl) (fun X hF hQ => ?_)
  have hF : mp_F E X (RX10, cX10_isIsle, 2, (1, 0, 0, 25), (some FieldType.boolean), false) := hF
  let w1_ : va_W := [(mp_ob10 a0 y0 a2 a3 a4 a5 a6 y1 y2 y3 y4 y5 y6 y7 y8 y9 y10 a7 a1 a8 a9 a10 a11 a12 a13 y11 a14 a15 a16 a17 y12 y13 y14 a18 a19 y15 y16 a20 a21 a22 y17 y18 y19 y20 a23 a24 a25 y21), (mp_arI E a1 0 25 f0)]
  show mp_W E X 2 0 [(0, .ref a0), (1, .int x0)] [] w1_ 0 0
  refine mp_run mp_k_cX10_isIsle_ok hF mp_tabX10_ok [mp_i (.iload_n 1), mp_i .i2l, mp_cl (.lconst 0) 0, mp_i (.aload_n 0), mp_h (.getfield 34) [17, 0], mp_c (.iconst 0) 0, mp_h .iaload [1], mp_c (.iconst 1) 1, mp_i .isub, mp_i .i2l] (by decide +kernel) ?_
  intro z_1 h_2
  have e_3 : z_1.toInt = x0.toInt := mp_i2l h_2
  refine And.intro rfl (And.intro rfl ?_)
  refine And.intro rfl (And.intro rfl (And.intro (vp_in_iff.mpr (by decide)) ?_))
  intro z_4 h_5
  have e_6 : 0 ≤ z_4.toInt ∧ z_4.toInt ≤ 6 := mp_res_ld h_5 p0 (by decide) (by decide) (by decide)
  have e_7 : z_4.toInt = (f0 0).toInt := congrArg Int32.toInt (mp_at h_5 (by decide) rfl)
  intro z_8 h_9
  have e_10 : z_8.toInt = z_4.toInt - 1 := mp_subi (a := z_4.toInt) (b := 1) h_9 rfl (by decide) (by (first | exact mp_o1391 e_6 | omega)) (by (first | exact mp_o1392 e_6 | omega))
  intro z_11 h_12
  have e_13 : z_11.toInt = z_8.toInt := mp_i2l h_12
  show mp_W E X 2 12 [(0, .ref a0), (1, .int x0)] [.long z_11, .long 0, .long z_1] w1_ 0 0
  refine mp_callS hF (As := [.long z_1, .long 0, .long z_11]) (rest := []) (wr := w1_) (bX10_in_0 E z_1 0 z_11) mp_lkX10_97 [] [0, 1] rfl rfl rfl rfl rfl ⟨(Nat.le_of_ble_eq_true rfl), (Nat.le_of_ble_eq_true rfl), (Nat.le_of_ble_eq_true rfl), (Nat.le_of_ble_eq_true rfl)⟩ (Nat.le_of_ble_eq_true rfl) (by first | exact mp_fd_ok mp_k_cX10_isIsle_ok (by decide +kernel) | decide +kernel) (fun v_14 w_15 h_16 => ?_)
  rcases h_16 with ⟨rfl, x_17, rfl⟩ | ⟨rfl, c_18, c_19, rfl⟩
  · skip
    have i_20 : (0 : Int64).toInt = 0 := by decide
    show mp_W E X 2 15 [(0, .ref a0), (1, .int x0)] [.int 0] w1_ 0 0
    exact mp_iret hF hQ rfl (by decide) (Nat.le_of_ble_eq_true rfl) (Nat.le_of_ble_eq_true rfl) [0, 1] (w' := w1_) rfl rfl (Or.inl ⟨rfl, (by first | (first | exact mp_o1393 i_20 e_3 x_17 e_7 e_10 e_13 | omega) | decide | (have h8 : (0 : Int64).toInt = 0 := rfl; have h9 : (-1 : Int32).toInt = -1 := rfl; have h10 : (-2 : Int32).toInt = -2 := rfl; have h11 : (0 : Int32).toInt = 0 := rfl; have h12 : (1 : Int32).toInt = 1 := rfl; have h13 : (-5 : Int32).toInt = -5 := rfl; have h14 : (-3 : Int32).toInt = -3 := rfl; omega)), rfl⟩) (by first | exact mp_fd_ok mp_k_cX10_isIsle_ok (by decide +kernel) | decide +kernel)
  · skip
    have c_18 : 0 ≤ z_1.toInt := c_18
    have c_19 : z_1.toInt ≤ z_11.toInt := c_19
    have i_21 : (0 : Int64).toInt = 0 := by decide
    show mp_W E X 2 15 [(0, .ref a0), (1, .int x0)] [.int 1] w1_ 0 0
    exact mp_iret hF hQ rfl (by decide) (Nat.le_of_ble_eq_true rfl) (Nat.le_of_ble_eq_true rfl) [0, 1] (w' := w1_) rfl rfl (Or.inr ⟨rfl, (by first | (first | exact mp_o921 c_18 e_3 | omega) | decide), (by first | (first | exact mp_o1394 e_3 e_7 e_10 e_13 c_19 | omega) | decide | (have h8 : (0 : Int64).toInt = 0 := rfl; have h9 : (-1 : Int32).toInt = -1 := rfl; have h10 : (-2 : Int32).toInt = -2 := rfl; have h11 : (0 : Int32).toInt = 0 := rfl; have h12 : (1 : Int32).toInt = 1 := rfl; have h13 : (-5 : Int32).toInt = -5 := rfl; have h14 : (-3 : Int32).toInt = -3 := rfl; omega)), (by first | (first | exact mp_o1395 e_3 c_19 e_13 e_10 e_6 | omega) | decide | (have h8 : (0 : Int64).toInt = 0 := rfl; have h9 : (-1 : Int32).toInt = -1 := rfl; have h10 : (-2 : Int32).toInt = -2 := rfl; have h11 : (0 : Int32).toInt = 0 := rfl; have h12 : (1 : Int32).toInt = 1 := rfl; have h13 : (-5 : Int32).toInt = -5 := rfl; have h14 : (-3 : Int32).toInt = -3 := rfl; omega)), (by first | (first | exact mp_o1396 c_18 e_3 e_7 e_10 e_13 c_19 | omega) | decide | (have h8 : (0 : Int64).toInt = 0 := rfl; have h9 : (-1 : Int32).toInt = -1 := rfl; have h10 : (-2 : Int32).toInt = -2 := rfl; have h11 : (0 : Int32).toInt = 0 := rfl; have h12 : (1 : Int32).toInt = 1 := rfl; have h13 : (-5 : Int32).toInt = -5 := rfl; have h14 : (-3 : Int32).toInt = -3 := rfl; omega)), rfl⟩) (by first | exact mp_fd_ok mp_k_cX10_isIsle_ok (by decide +kernel) | decide +kernel)
set_option maxHeartbeats 4000000 in
set_option maxRecDepth 100000 in
theorem bX10_sea_59 (E : mp_E) (a0 a1 a2 a3 a4 a5 a6 a7 a8 a9 a10 a11 a12 a13 a14 a15 a16 a17 a18 a19 a20 a21 a22 a23 a24 a25 : Nat) (f0 : Nat → Int32) (f1 : Nat → Int32) (y0 : Int32) (y1 : Int32) (y2 : Int32) (y3 : Int32) (y4 : Int32) (y5 : Int32) (y6 : Int64) (y7 : Int32) (y8 : Int32) (y9 : Int32) (y10 : Int32) (y11 : Int32) (y12 : Int32) (y13 : Int32) (y14 : Int32) (y15 : Int32) (y16 : Int32) (y17 : Int32) (y18 : Int32) (y19 : Int32) (y20 : Int32) (y21 : Int32) (x0 : Int32) (x1 : Int32) (p0 : mp_res f0 25 5 0 0 6) (p1 : mp_res f0 25 5 1 0 99) (p2 : mp_res f0 25 5 2 0 6) (p3 : mp_res f0 25 5 3 0 10) (p4 : mp_res f0 25 5 4 0 60) (p5 : mp_all f1 180 0 20) (l_y1 : 0 ≤ y1.toInt) (u_y1 : y1.toInt ≤ 1600) (l_y2 : 0 ≤ y2.toInt) (u_y2 : y2.toInt ≤ 1600) (l_y3 : 0 ≤ y3.toInt) (u_y3 : y3.toInt ≤ 4) (l_y4 : 0 ≤ y4.toInt) (u_y4 : y4.toInt ≤ 1600) (l_y11 : 0 ≤ y11.toInt) (u_y11 : y11.toInt ≤ 99) (l_y12 : 0 ≤ y12.toInt) (u_y12 : y12.toInt ≤ 5) (l_y13 : 0 ≤ y13.toInt) (u_y13 : y13.toInt ≤ 12) : mp_Ct E yX10_sea cX10_sea 3 (some FieldType.int) 2 0 0 46 [.ref a0, .int x0, .int x1] [(mp_ob10 a0 y0 a3 a4 a5 a6 a7 y1 y2 y3 y4 y5 y6 y7 y8 y9 y10 a8 a1 a2 a9 a10 a11 a12 a13 y11 a14 a15 a16 a17 y12 y13 y14 a18 a19 y15 y16 a20 a21 a22 y17 y18 y19 y20 a23 a24 a25 y21), (mp_arI E a1 0 25 f0), (mp_arI E a2 0 180 f1)] (fun v w' => ∃ r1 : Int32, v = some (.int r1) ∧ (-2) ≤ r1.toInt ∧ r1.toInt ≤ 20 ∧ (((x0.toInt < 0 ∨ (f0 0).toInt ≤ x0.toInt ∨ x1.toInt < 0 ∨ (f0 0).toInt ≤ x1.toInt ∨ x0.toInt = x1.toInt) ∧ r1.toInt = -2) ∨ ((0 ≤ x0.toInt ∧ x0.toInt < (f0 0).toInt ∧ 0 ≤ x1.toInt ∧ x1.toInt < (f0 0).toInt ∧ x0.toInt ≠ x1.toInt) ∧ r1.toInt = (f1 (6 * x0.toInt + x1.toInt).toNat).toInt)) ∧ w' = [(mp_ob10 a0 0 a3 a4 a5 a6 a7 y1 y2 y3 y4 y5 y6 y7 y8 y9 y10 a8 a1 a2 a9 a10 a11 a12 a13 y11 a14 a15 a16 a17 y12 y13 y14 a18 a19 y15 y16 a20 a21 a22 y17 y18 y19 y20 a23 a24 a25 y21), (mp_arI E a1 0 25 f0), (mp_arI E a2 0 180 f1)]) := by
  refine mp_met false (by decide) (by decide) (Nat.le_of_ble_eq_true rfl) (fun X hF hQ => ?_)
  have hF : mp_F E X (RX10, cX10_sea, 3, (2, 0, 0, 46), (some FieldType.int), false) := hF
  let w1_ : va_W := [(mp_ob10 a0 y0 a3 a4 a5 a6 a7 y1 y2 y3 y4 y5 y6 y7 y8 y9 y10 a8 a1 a2 a9 a10 a11 a12 a13 y11 a14 a15 a16 a17 y12 y13 y14 a18 a19 y15 y16 a20 a21 a22 y17 y18 y19 y20 a23 a24 a25 y21), (mp_arI E a1 0 25 f0), (mp_arI E a2 0 180 f1)]
  show mp_W E X 3 0 [(0, .ref a0), (1, .int x0), (2, .int x1)] [] w1_ 0 0
  refine mp_run mp_k_cX10_sea_ok hF mp_tabX10_ok [mp_i (.aload_n 0), mp_c (.iconst 0) 0, mp_h (.putfield 92) [0, 0]] (by decide +kernel) ?_
  refine And.intro rfl (And.intro rfl (And.intro rfl (And.intro rfl (And.intro (Nat.le_of_ble_eq_true rfl) ?_))))
  let w2_ : va_W := [(mp_ob10 a0 0 a3 a4 a5 a6 a7 y1 y2 y3 y4 y5 y6 y7 y8 y9 y10 a8 a1 a2 a9 a10 a11 a12 a13 y11 a14 a15 a16 a17 y12 y13 y14 a18 a19 y15 y16 a20 a21 a22 y17 y18 y19 y20 a23 a24 a25 y21), (mp_arI E a1 0 25 f0), (mp_arI E a2 0 180 f1)]
  show mp_W E X 3 5 [(0, .ref a0), (1, .int x0), (2, .int x1)] [] w2_ 0 0
  refine mp_run mp_k_cX10_sea_ok hF mp_tabX10_ok [mp_i (.aload_n 0), mp_i (.iload_n 1)] (by decide +kernel) ?_
  show mp_W E X 3 7 [(0, .ref a0), (1, .int x0), (2, .int x1)] [.int x0, .ref a0] w2_ 0 0
  refine mp_callV hF (As := [.int x0]) (rest := []) (wr := [(mp_arI E a2 0 180 f1)]) (bX10_isIsle_58 E a0 a1 a3 a4 a5 a6 a7 a8 a2 a9 a10 a11 a12 a13 a14 a15 a16 a17 a18 a19 a20 a21 a22 a23 a24 a25 f0 0 y1 y2 y3 y4 y5 y6 y7 y8 y9 y10 y11 y12 y13 y14 y15 y16 y17 y18 y19 y20 y21 x0 p0 p1 p2 p3 p4 l_y1 u_y1 l_y2 u_y2 l_y3 u_y3 l_y4 u_y4 l_y11 u_y11 l_y12 u_y12 l_y13 u_y13) mp_lkX10_270 0 rfl [0, 1] [2] rfl rfl rfl rfl rfl ⟨(Nat.le_of_ble_eq_true rfl), (Nat.le_of_ble_eq_true rfl), (Nat.le_of_ble_eq_true rfl), (Nat.le_of_ble_eq_true rfl)⟩ (Nat.le_of_ble_eq_true rfl) (by first | exact mp_fd_ok mp_k_cX10_sea_ok (by decide +kernel) | decide +kernel) (fun v_1 w_2 h_3 => ?_)
  refine h_3.elim (fun q_9 => ?_) (fun q_10 => ?_)
  · skip
    refine q_9.elim fun e_11 q_12 => q_12.elim fun x_4 e_13 => ?_
    clear h_3 q_9 q_12
    subst e_11
    subst e_13
    let w3_ : va_W := [(mp_arI E a2 0 180 f1), (mp_ob10 a0 0 a3 a4 a5 a6 a7 y1 y2 y3 y4 y5 y6 y7 y8 y9 y10 a8 a1 a2 a9 a10 a11 a12 a13 y11 a14 a15 a16 a17 y12 y13 y14 a18 a19 y15 y16 a20 a21 a22 y17 y18 y19 y20 a23 a24 a25 y21), (mp_arI E a1 0 25 f0)]
    show mp_W E X 3 10 [(0, .ref a0), (1, .int x0), (2, .int x1)] [.int 0] w3_ 0 0
    refine mp_run mp_k_cX10_sea_ok hF mp_tabX10_ok [mp_h (.ifCond .eq 30) [40]] (by decide +kernel) ?_
    refine And.intro (fun _ => ?_) (fun c_14 => absurd c_14 (by decide))
    show mp_W E X 3 40 [(0, .ref a0), (1, .int x0), (2, .int x1)] [] w3_ 0 0
    refine mp_run mp_k_cX10_sea_ok hF mp_tabX10_ok [mp_c (.bipush (-2)) (-2)] (by decide +kernel) ?_
    show mp_W E X 3 42 [(0, .ref a0), (1, .int x0), (2, .int x1)] [.int (-2)] w3_ 0 0
    exact mp_iret hF hQ rfl rfl (Nat.le_of_ble_eq_true rfl) (Nat.le_of_ble_eq_true rfl) [1, 2, 0] (w' := w2_) rfl rfl ⟨(-2), rfl, (by decide), (by decide), (by first | fail | decide | (have h8 : (0 : Int64).toInt = 0 := rfl; have h9 : (-1 : Int32).toInt = -1 := rfl; have h10 : (-2 : Int32).toInt = -2 := rfl; have h11 : (0 : Int32).toInt = 0 := rfl; have h12 : (1 : Int32).toInt = 1 := rfl; have h13 : (-5 : Int32).toInt = -5 := rfl; have h14 : (-3 : Int32).toInt = -3 := rfl; (first | exact mp_o396 x_4 h10 | omega))), rfl⟩ (by first | exact mp_fd_ok mp_k_cX10_sea_ok (by decide +kernel) | decide +kernel)
  · skip
    refine q_10.elim fun e_15 q_16 => q_16.elim fun c_5 q_17 => q_17.elim fun x_6 q_18 => q_18.elim fun x_7 q_19 => q_19.elim fun x_8 e_20 => ?_
    clear h_3 q_10 q_16 q_17 q_18 q_19
    subst e_15
    subst e_20
    have c_5 : 0 ≤ x0.toInt := c_5
    let w4_ : va_W := [(mp_arI E a2 0 180 f1), (mp_ob10 a0 0 a3 a4 a5 a6 a7 y1 y2 y3 y4 y5 y6 y7 y8 y9 y10 a8 a1 a2 a9 a10 a11 a12 a13 y11 a14 a15 a16 a17 y12 y13 y14 a18 a19 y15 y16 a20 a21 a22 y17 y18 y19 y20 a23 a24 a25 y21), (mp_arI E a1 0 25 f0)]
    show mp_W E X 3 10 [(0, .ref a0), (1, .int x0), (2, .int x1)] [.int 1] w4_ 0 0
    refine mp_run mp_k_cX10_sea_ok hF mp_tabX10_ok [mp_h (.ifCond .eq 30) [40]] (by decide +kernel) ?_
    refine And.intro (fun c_21 => absurd c_21 (by decide)) (fun _ => ?_)
    show mp_W E X 3 13 [(0, .ref a0), (1, .int x0), (2, .int x1)] [] w4_ 0 0
    refine mp_run mp_k_cX10_sea_ok hF mp_tabX10_ok [mp_i (.aload_n 0), mp_i (.iload_n 2)] (by decide +kernel) ?_
    show mp_W E X 3 15 [(0, .ref a0), (1, .int x0), (2, .int x1)] [.int x1, .ref a0] w4_ 0 0
    refine mp_callV hF (As := [.int x1]) (rest := []) (wr := [(mp_arI E a2 0 180 f1)]) (bX10_isIsle_58 E a0 a1 a3 a4 a5 a6 a7 a8 a2 a9 a10 a11 a12 a13 a14 a15 a16 a17 a18 a19 a20 a21 a22 a23 a24 a25 f0 0 y1 y2 y3 y4 y5 y6 y7 y8 y9 y10 y11 y12 y13 y14 y15 y16 y17 y18 y19 y20 y21 x1 p0 p1 p2 p3 p4 l_y1 u_y1 l_y2 u_y2 l_y3 u_y3 l_y4 u_y4 l_y11 u_y11 l_y12 u_y12 l_y13 u_y13) mp_lkX10_270 1 rfl [1, 2] [0] rfl rfl rfl rfl rfl ⟨(Nat.le_of_ble_eq_true rfl), (Nat.le_of_ble_eq_true rfl), (Nat.le_of_ble_eq_true rfl), (Nat.le_of_ble_eq_true rfl)⟩ (Nat.le_of_ble_eq_true rfl) (by first | exact mp_fd_ok mp_k_cX10_sea_ok (by decide +kernel) | decide +kernel) (fun v_22 w_23 h_24 => ?_)
    refine h_24.elim (fun q_30 => ?_) (fun q_31 => ?_)
    · skip
      refine q_30.elim fun e_32 q_33 => q_33.elim fun x_25 e_34 => ?_
      clear h_24 q_30 q_33
      subst e_32
      subst e_34
      show mp_W E X 3 18 [(0, .ref a0), (1, .int x0), (2, .int x1)] [.int 0] w4_ 0 0
      refine mp_run mp_k_cX10_sea_ok hF mp_tabX10_ok [mp_h (.ifCond .eq 22) [40]] (by decide +kernel) ?_
      refine And.intro (fun _ => ?_) (fun c_35 => absurd c_35 (by decide))
      show mp_W E X 3 40 [(0, .ref a0), (1, .int x0), (2, .int x1)] [] w4_ 0 0
      refine mp_run mp_k_cX10_sea_ok hF mp_tabX10_ok [mp_c (.bipush (-2)) (-2)] (by decide +kernel) ?_
      show mp_W E X 3 42 [(0, .ref a0), (1, .int x0), (2, .int x1)] [.int (-2)] w4_ 0 0
      exact mp_iret hF hQ rfl rfl (Nat.le_of_ble_eq_true rfl) (Nat.le_of_ble_eq_true rfl) [1, 2, 0] (w' := w2_) rfl rfl ⟨(-2), rfl, (by decide), (by decide), (by first | fail | decide | (have h8 : (0 : Int64).toInt = 0 := rfl; have h9 : (-1 : Int32).toInt = -1 := rfl; have h10 : (-2 : Int32).toInt = -2 := rfl; have h11 : (0 : Int32).toInt = 0 := rfl; have h12 : (1 : Int32).toInt = 1 := rfl; have h13 : (-5 : Int32).toInt = -5 := rfl; have h14 : (-3 : Int32).toInt = -3 := rfl; (first | exact mp_o397 x_25 h10 | omega))), rfl⟩ (by first | exact mp_fd_ok mp_k_cX10_sea_ok (by decide +kernel) | decide +kernel)
    · skip
      refine q_31.elim fun e_36 q_37 => q_37.elim fun c_26 q_38 => q_38.elim fun x_27 q_39 => q_39.elim fun x_28 q_40 => q_40.elim fun x_29 e_41 => ?_
      clear h_24 q_31 q_37 q_38 q_39 q_40
      subst e_36
      subst e_41
      have c_26 : 0 ≤ x1.toInt := c_26
      show mp_W E X 3 18 [(0, .ref a0), (1, .int x0), (2, .int x1)] [.int 1] w4_ 0 0
      refine mp_run mp_k_cX10_sea_ok hF mp_tabX10_ok [mp_h (.ifCond .eq 22) [40]] (by decide +kernel) ?_
      refine And.intro (fun c_42 => absurd c_42 (by decide)) (fun _ => ?_)
      show mp_W E X 3 21 [(0, .ref a0), (1, .int x0), (2, .int x1)] [] w4_ 0 0
      refine mp_run mp_k_cX10_sea_ok hF mp_tabX10_ok [mp_i (.iload_n 1), mp_i (.iload_n 2), mp_h (.if_icmp .eq 17) [40]] (by decide +kernel) ?_
      refine And.intro (fun c_43 => ?_) (fun c_43 => ?_)
      · have c_43 : x0.toInt = x1.toInt := (congrArg Int32.toInt c_43)
        show mp_W E X 3 40 [(0, .ref a0), (1, .int x0), (2, .int x1)] [] w4_ 0 0
        refine mp_run mp_k_cX10_sea_ok hF mp_tabX10_ok [mp_c (.bipush (-2)) (-2)] (by decide +kernel) ?_
        show mp_W E X 3 42 [(0, .ref a0), (1, .int x0), (2, .int x1)] [.int (-2)] w4_ 0 0
        exact mp_iret hF hQ rfl rfl (Nat.le_of_ble_eq_true rfl) (Nat.le_of_ble_eq_true rfl) [1, 2, 0] (w' := w2_) rfl rfl ⟨(-2), rfl, (by decide), (by decide), (by first | fail | decide | (have h8 : (0 : Int64).toInt = 0 := rfl; have h9 : (-1 : Int32).toInt = -1 := rfl; have h10 : (-2 : Int32).toInt = -2 := rfl; have h11 : (0 : Int32).toInt = 0 := rfl; have h12 : (1 : Int32).toInt = 1 := rfl; have h13 : (-5 : Int32).toInt = -5 := rfl; have h14 : (-3 : Int32).toInt = -3 := rfl; (first | exact mp_o401 c_43 h10 | omega))), rfl⟩ (by first | exact mp_fd_ok mp_k_cX10_sea_ok (by decide +kernel) | decide +kernel)
      · have c_43 : x0.toInt ≠ x1.toInt := c_43
        show mp_W E X 3 26 [(0, .ref a0), (1, .int x0), (2, .int x1)] [] w4_ 0 0
        refine mp_run mp_k_cX10_sea_ok hF mp_tabX10_ok [mp_i (.aload_n 0), mp_h (.getfield 37) [18, 1], mp_c (.bipush 6) 6, mp_i (.iload_n 1), mp_i .imul, mp_i (.iload_n 2), mp_i .iadd, mp_h .iaload [0], mp_h (.goto 5) [42]] (by decide +kernel) ?_
        refine And.intro rfl (And.intro rfl ?_)
        intro z_44 h_45
        have e_46 : z_44.toInt = 6 * x0.toInt := mp_mul (a := 6) (b := x0.toInt) h_45 (by decide) rfl (by (first | exact mp_o1152 c_5 | omega)) (by (first | exact mp_o1153 x_7 | omega))
        intro z_47 h_48
        have e_49 : z_47.toInt = z_44.toInt + x1.toInt := mp_add (a := z_44.toInt) (b := x1.toInt) h_48 rfl rfl (by (first | exact mp_o1412 c_26 c_5 e_46 | omega)) (by (first | exact mp_o1422 x_28 x_7 e_46 | omega))
        refine And.intro rfl (And.intro rfl (And.intro (vp_in_iff.mpr (by (first | exact mp_o1423 c_5 x_7 c_26 x_28 e_46 e_49 | omega))) ?_))
        intro z_50 h_51
        have e_52 : 0 ≤ z_50.toInt ∧ z_50.toInt ≤ 20 := mp_all_ld h_51 p5 (by (first | exact mp_o1415 c_5 c_26 e_46 e_49 | omega)) (by (first | exact mp_o1424 x_7 e_46 x_28 e_49 | omega))
        have e_53 : z_50.toInt = (f1 (6 * x0.toInt + x1.toInt).toNat).toInt := mp_at_i h_51 (by (first | exact mp_o1417 c_5 c_26 e_46 e_49 | omega))
        show mp_W E X 3 42 [(0, .ref a0), (1, .int x0), (2, .int x1)] [.int z_50] w4_ 0 0
        exact mp_iret hF hQ rfl rfl (Nat.le_of_ble_eq_true rfl) (Nat.le_of_ble_eq_true rfl) [1, 2, 0] (w' := w2_) rfl rfl ⟨z_50, rfl, (by (first | exact mp_o1425 e_52 | omega)), e_52.2, (by first | (first | exact mp_o400 c_5 c_26 x_6 c_43 x_27 e_53 | omega) | decide | (have h8 : (0 : Int64).toInt = 0 := rfl; have h9 : (-1 : Int32).toInt = -1 := rfl; have h10 : (-2 : Int32).toInt = -2 := rfl; have h11 : (0 : Int32).toInt = 0 := rfl; have h12 : (1 : Int32).toInt = 1 := rfl; have h13 : (-5 : Int32).toInt = -5 := rfl; have h14 : (-3 : Int32).toInt = -3 := rfl; omega)), rfl⟩ (by first | exact mp_fd_ok mp_k_cX10_sea_ok (by decide +kernel) | decide +kernel)
set_option maxHeartbeats 4000000 in
set_option maxRecDepth 100000 in
theorem bX10_isMoon_60 (E : mp_E) (x0 : Int32) : mp_Ct E yX10_isMoon cX10_isMoon 1 (some FieldType.boolean) 1 0 0 25 [.int x0] [] (fun v w' => (v = some (.int 0) ∧ (x0.toInt < 0 ∨ 99 < x0.toInt) ∧ w' = []) ∨ (v = some (.int 1) ∧ 0 ≤ x0.toInt ∧ x0.toInt ≤ 99 ∧ (0 ≤ x0.toInt ∧ x0.toInt ≤ 99) ∧ w' = [])) := by
  refine mp_met false (by decide) (by decide) (Nat.le_of_ble_eq_true rfl) (fun X hF hQ => ?_)
  have hF : mp_F E X (RX10, cX10_isMoon, 1, (1, 0, 0, 25), (some FieldType.boolean), false) := hF
  show mp_W E X 1 0 [(0, .int x0)] [] [] 0 0
  refine mp_run mp_k_cX10_isMoon_ok hF mp_tabX10_ok [mp_i (.iload_n 0), mp_i .i2l, mp_cl (.lconst 0) 0, mp_cl (.ldc2_w 258) 99] (by decide +kernel) ?_
  intro z_1 h_2
  have e_3 : z_1.toInt = x0.toInt := mp_i2l h_2
  show mp_W E X 1 6 [(0, .int x0)] [.long 99, .long 0, .long z_1] [] 0 0
  refine mp_callS hF (As := [.long z_1, .long 0, .long 99]) (rest := []) (wr := []) (bX10_in_0 E z_1 0 99) mp_lkX10_97 [] [] rfl rfl rfl rfl rfl ⟨(Nat.le_of_ble_eq_true rfl), (Nat.le_of_ble_eq_true rfl), (Nat.le_of_ble_eq_true rfl), (Nat.le_of_ble_eq_true rfl)⟩ (Nat.le_of_ble_eq_true rfl) (by first | exact mp_fd_ok mp_k_cX10_isMoon_ok (by decide +kernel) | decide +kernel) (fun v_4 w_5 h_6 => ?_)
  rcases h_6 with ⟨rfl, x_7, rfl⟩ | ⟨rfl, c_8, c_9, rfl⟩
  · skip
    have i_10 : (0 : Int64).toInt = 0 := by decide
    have i_11 : (99 : Int64).toInt = 99 := by decide
    show mp_W E X 1 9 [(0, .int x0)] [.int 0] [] 0 0
    exact mp_iret hF hQ rfl (by decide) (Nat.le_of_ble_eq_true rfl) (Nat.le_of_ble_eq_true rfl) [] (w' := []) rfl rfl (Or.inl ⟨rfl, (by first | (first | exact mp_o1093 i_10 i_11 e_3 x_7 | omega) | decide | (have h8 : (0 : Int64).toInt = 0 := rfl; have h9 : (-1 : Int32).toInt = -1 := rfl; have h10 : (-2 : Int32).toInt = -2 := rfl; have h11 : (0 : Int32).toInt = 0 := rfl; have h12 : (1 : Int32).toInt = 1 := rfl; have h13 : (-5 : Int32).toInt = -5 := rfl; have h14 : (-3 : Int32).toInt = -3 := rfl; omega)), rfl⟩) (by first | exact mp_fd_ok mp_k_cX10_isMoon_ok (by decide +kernel) | decide +kernel)
  · skip
    have c_8 : 0 ≤ z_1.toInt := c_8
    have c_9 : z_1.toInt ≤ 99 := c_9
    have i_12 : (0 : Int64).toInt = 0 := by decide
    have i_13 : (99 : Int64).toInt = 99 := by decide
    show mp_W E X 1 9 [(0, .int x0)] [.int 1] [] 0 0
    exact mp_iret hF hQ rfl (by decide) (Nat.le_of_ble_eq_true rfl) (Nat.le_of_ble_eq_true rfl) [] (w' := []) rfl rfl (Or.inr ⟨rfl, (by first | (first | exact mp_o921 c_8 e_3 | omega) | decide), (by first | (first | exact mp_o1094 e_3 c_9 | omega) | decide), (by first | (first | exact mp_o1096 c_8 e_3 c_9 | omega) | decide | (have h8 : (0 : Int64).toInt = 0 := rfl; have h9 : (-1 : Int32).toInt = -1 := rfl; have h10 : (-2 : Int32).toInt = -2 := rfl; have h11 : (0 : Int32).toInt = 0 := rfl; have h12 : (1 : Int32).toInt = 1 := rfl; have h13 : (-5 : Int32).toInt = -5 := rfl; have h14 : (-3 : Int32).toInt = -3 := rfl; omega)), rfl⟩) (by first | exact mp_fd_ok mp_k_cX10_isMoon_ok (by decide +kernel) | decide +kernel)
set_option maxHeartbeats 4000000 in
set_option maxRecDepth 100000 in
theorem bX10_open_61 (E : mp_E) (a0 a1 a2 a3 a4 a5 a6 a7 a8 a9 a10 a11 a12 a13 a14 a15 a16 a17 a18 a19 a20 a21 a22 a23 a24 a25 : Nat) (f0 : Nat → Int32) (f1 : Nat → Int32) (y0 : Int32) (y1 : Int32) (y2 : Int32) (y3 : Int32) (y4 : Int32) (y5 : Int32) (y6 : Int64) (y7 : Int32) (y8 : Int32) (y9 : Int32) (y10 : Int32) (y11 : Int32) (y12 : Int32) (y13 : Int32) (y14 : Int32) (y15 : Int32) (y16 : Int32) (y17 : Int32) (y18 : Int32) (y19 : Int32) (y20 : Int32) (y21 : Int32) (x0 : Int32) (x1 : Int32) (p0 : mp_res f0 25 5 0 0 6) (p1 : mp_res f0 25 5 1 0 99) (p2 : mp_res f0 25 5 2 0 6) (p3 : mp_res f0 25 5 3 0 10) (p4 : mp_res f0 25 5 4 0 60) (p5 : mp_all f1 3000 0 1) (l_y1 : 0 ≤ y1.toInt) (u_y1 : y1.toInt ≤ 1600) (l_y2 : 0 ≤ y2.toInt) (u_y2 : y2.toInt ≤ 1600) (l_y3 : 0 ≤ y3.toInt) (u_y3 : y3.toInt ≤ 4) (l_y4 : 0 ≤ y4.toInt) (u_y4 : y4.toInt ≤ 1600) (l_y11 : 0 ≤ y11.toInt) (u_y11 : y11.toInt ≤ 99) (l_y12 : 0 ≤ y12.toInt) (u_y12 : y12.toInt ≤ 5) (l_y13 : 0 ≤ y13.toInt) (u_y13 : y13.toInt ≤ 12) : mp_Ct E yX10_open cX10_open 3 (some FieldType.int) 2 0 0 46 [.ref a0, .int x0, .int x1] [(mp_ob10 a0 y0 a3 a4 a5 a6 a7 y1 y2 y3 y4 y5 y6 y7 y8 y9 y10 a8 a1 a9 a2 a10 a11 a12 a13 y11 a14 a15 a16 a17 y12 y13 y14 a18 a19 y15 y16 a20 a21 a22 y17 y18 y19 y20 a23 a24 a25 y21), (mp_arI E a1 0 25 f0), (mp_arI E a2 3 3000 f1)] (fun v w' => ∃ r1 : Int32, v = some (.int r1) ∧ (-2) ≤ r1.toInt ∧ r1.toInt ≤ 1 ∧ (((x0.toInt < 0 ∨ (f0 0).toInt ≤ x0.toInt ∨ x1.toInt < 0 ∨ 99 < x1.toInt) ∧ r1.toInt = -2) ∨ ((0 ≤ x0.toInt ∧ x0.toInt < (f0 0).toInt ∧ 0 ≤ x1.toInt ∧ x1.toInt ≤ 99) ∧ (((f1 (100 * x0.toInt + x1.toInt).toNat).toInt ≠ 0 ∧ r1.toInt = 0) ∨ ((f1 (100 * x0.toInt + x1.toInt).toNat).toInt = 0 ∧ r1.toInt = 1)))) ∧ w' = [(mp_ob10 a0 0 a3 a4 a5 a6 a7 y1 y2 y3 y4 y5 y6 y7 y8 y9 y10 a8 a1 a9 a2 a10 a11 a12 a13 y11 a14 a15 a16 a17 y12 y13 y14 a18 a19 y15 y16 a20 a21 a22 y17 y18 y19 y20 a23 a24 a25 y21), (mp_arI E a1 0 25 f0), (mp_arI E a2 3 3000 f1)]) := by
  refine mp_met false (by decide) (by decide) (Nat.le_of_ble_eq_true rfl) (fun X hF hQ => ?_)
  have hF : mp_F E X (RX10, cX10_open, 3, (2, 0, 0, 46), (some FieldType.int), false) := hF
  let w1_ : va_W := [(mp_ob10 a0 y0 a3 a4 a5 a6 a7 y1 y2 y3 y4 y5 y6 y7 y8 y9 y10 a8 a1 a9 a2 a10 a11 a12 a13 y11 a14 a15 a16 a17 y12 y13 y14 a18 a19 y15 y16 a20 a21 a22 y17 y18 y19 y20 a23 a24 a25 y21), (mp_arI E a1 0 25 f0), (mp_arI E a2 3 3000 f1)]
  show mp_W E X 3 0 [(0, .ref a0), (1, .int x0), (2, .int x1)] [] w1_ 0 0
  refine mp_run mp_k_cX10_open_ok hF mp_tabX10_ok [mp_i (.aload_n 0), mp_c (.iconst 0) 0, mp_h (.putfield 92) [0, 0]] (by decide +kernel) ?_
  refine And.intro rfl (And.intro rfl (And.intro rfl (And.intro rfl (And.intro (Nat.le_of_ble_eq_true rfl) ?_))))
  let w2_ : va_W := [(mp_ob10 a0 0 a3 a4 a5 a6 a7 y1 y2 y3 y4 y5 y6 y7 y8 y9 y10 a8 a1 a9 a2 a10 a11 a12 a13 y11 a14 a15 a16 a17 y12 y13 y14 a18 a19 y15 y16 a20 a21 a22 y17 y18 y19 y20 a23 a24 a25 y21), (mp_arI E a1 0 25 f0), (mp_arI E a2 3 3000 f1)]
  show mp_W E X 3 5 [(0, .ref a0), (1, .int x0), (2, .int x1)] [] w2_ 0 0
  refine mp_run mp_k_cX10_open_ok hF mp_tabX10_ok [mp_i (.aload_n 0), mp_i (.iload_n 1)] (by decide +kernel) ?_
  show mp_W E X 3 7 [(0, .ref a0), (1, .int x0), (2, .int x1)] [.int x0, .ref a0] w2_ 0 0
  refine mp_callV hF (As := [.int x0]) (rest := []) (wr := [(mp_arI E a2 3 3000 f1)]) (bX10_isIsle_58 E a0 a1 a3 a4 a5 a6 a7 a8 a9 a2 a10 a11 a12 a13 a14 a15 a16 a17 a18 a19 a20 a21 a22 a23 a24 a25 f0 0 y1 y2 y3 y4 y5 y6 y7 y8 y9 y10 y11 y12 y13 y14 y15 y16 y17 y18 y19 y20 y21 x0 p0 p1 p2 p3 p4 l_y1 u_y1 l_y2 u_y2 l_y3 u_y3 l_y4 u_y4 l_y11 u_y11 l_y12 u_y12 l_y13 u_y13) mp_lkX10_270 0 rfl [0, 1] [2] rfl rfl rfl rfl rfl ⟨(Nat.le_of_ble_eq_true rfl), (Nat.le_of_ble_eq_true rfl), (Nat.le_of_ble_eq_true rfl), (Nat.le_of_ble_eq_true rfl)⟩ (Nat.le_of_ble_eq_true rfl) (by first | exact mp_fd_ok mp_k_cX10_open_ok (by decide +kernel) | decide +kernel) (fun v_1 w_2 h_3 => ?_)
  refine h_3.elim (fun q_9 => ?_) (fun q_10 => ?_)
  · skip
    refine q_9.elim fun e_11 q_12 => q_12.elim fun x_4 e_13 => ?_
    clear h_3 q_9 q_12
    subst e_11
    subst e_13
    let w3_ : va_W := [(mp_arI E a2 3 3000 f1), (mp_ob10 a0 0 a3 a4 a5 a6 a7 y1 y2 y3 y4 y5 y6 y7 y8 y9 y10 a8 a1 a9 a2 a10 a11 a12 a13 y11 a14 a15 a16 a17 y12 y13 y14 a18 a19 y15 y16 a20 a21 a22 y17 y18 y19 y20 a23 a24 a25 y21), (mp_arI E a1 0 25 f0)]
    show mp_W E X 3 10 [(0, .ref a0), (1, .int x0), (2, .int x1)] [.int 0] w3_ 0 0
    refine mp_run mp_k_cX10_open_ok hF mp_tabX10_ok [mp_h (.ifCond .eq 32) [42]] (by decide +kernel) ?_
    refine And.intro (fun _ => ?_) (fun c_14 => absurd c_14 (by decide))
    show mp_W E X 3 42 [(0, .ref a0), (1, .int x0), (2, .int x1)] [] w3_ 0 0
    refine mp_run mp_k_cX10_open_ok hF mp_tabX10_ok [mp_c (.bipush (-2)) (-2)] (by decide +kernel) ?_
    show mp_W E X 3 44 [(0, .ref a0), (1, .int x0), (2, .int x1)] [.int (-2)] w3_ 0 0
    exact mp_iret hF hQ rfl rfl (Nat.le_of_ble_eq_true rfl) (Nat.le_of_ble_eq_true rfl) [1, 2, 0] (w' := w2_) rfl rfl ⟨(-2), rfl, (by decide), (by decide), (by first | fail | decide | (have h8 : (0 : Int64).toInt = 0 := rfl; have h9 : (-1 : Int32).toInt = -1 := rfl; have h10 : (-2 : Int32).toInt = -2 := rfl; have h11 : (0 : Int32).toInt = 0 := rfl; have h12 : (1 : Int32).toInt = 1 := rfl; have h13 : (-5 : Int32).toInt = -5 := rfl; have h14 : (-3 : Int32).toInt = -3 := rfl; (first | exact mp_o1426 x_4 h10 | omega))), rfl⟩ (by first | exact mp_fd_ok mp_k_cX10_open_ok (by decide +kernel) | decide +kernel)
  · skip
    refine q_10.elim fun e_15 q_16 => q_16.elim fun c_5 q_17 => q_17.elim fun x_6 q_18 => q_18.elim fun x_7 q_19 => q_19.elim fun x_8 e_20 => ?_
    clear h_3 q_10 q_16 q_17 q_18 q_19
    subst e_15
    subst e_20
    have c_5 : 0 ≤ x0.toInt := c_5
    let w4_ : va_W := [(mp_arI E a2 3 3000 f1), (mp_ob10 a0 0 a3 a4 a5 a6 a7 y1 y2 y3 y4 y5 y6 y7 y8 y9 y10 a8 a1 a9 a2 a10 a11 a12 a13 y11 a14 a15 a16 a17 y12 y13 y14 a18 a19 y15 y16 a20 a21 a22 y17 y18 y19 y20 a23 a24 a25 y21), (mp_arI E a1 0 25 f0)]
    show mp_W E X 3 10 [(0, .ref a0), (1, .int x0), (2, .int x1)] [.int 1] w4_ 0 0
    refine mp_run mp_k_cX10_open_ok hF mp_tabX10_ok [mp_h (.ifCond .eq 32) [42]] (by decide +kernel) ?_
    refine And.intro (fun c_21 => absurd c_21 (by decide)) (fun _ => ?_)
    show mp_W E X 3 13 [(0, .ref a0), (1, .int x0), (2, .int x1)] [] w4_ 0 0
    refine mp_run mp_k_cX10_open_ok hF mp_tabX10_ok [mp_i (.iload_n 2)] (by decide +kernel) ?_
    show mp_W E X 3 14 [(0, .ref a0), (1, .int x0), (2, .int x1)] [.int x1] w4_ 0 0
    refine mp_callS hF (As := [.int x1]) (rest := []) (wr := w4_) (bX10_isMoon_60 E x1) mp_lkX10_273 [] [0, 1, 2] rfl rfl rfl rfl rfl ⟨(Nat.le_of_ble_eq_true rfl), (Nat.le_of_ble_eq_true rfl), (Nat.le_of_ble_eq_true rfl), (Nat.le_of_ble_eq_true rfl)⟩ (Nat.le_of_ble_eq_true rfl) (by first | exact mp_fd_ok mp_k_cX10_open_ok (by decide +kernel) | decide +kernel) (fun v_22 w_23 h_24 => ?_)
    rcases h_24 with ⟨rfl, x_25, rfl⟩ | ⟨rfl, c_26, c_27, x_28, rfl⟩
    · skip
      show mp_W E X 3 17 [(0, .ref a0), (1, .int x0), (2, .int x1)] [.int 0] w4_ 0 0
      refine mp_run mp_k_cX10_open_ok hF mp_tabX10_ok [mp_h (.ifCond .eq 25) [42]] (by decide +kernel) ?_
      refine And.intro (fun _ => ?_) (fun c_29 => absurd c_29 (by decide))
      show mp_W E X 3 42 [(0, .ref a0), (1, .int x0), (2, .int x1)] [] w4_ 0 0
      refine mp_run mp_k_cX10_open_ok hF mp_tabX10_ok [mp_c (.bipush (-2)) (-2)] (by decide +kernel) ?_
      show mp_W E X 3 44 [(0, .ref a0), (1, .int x0), (2, .int x1)] [.int (-2)] w4_ 0 0
      exact mp_iret hF hQ rfl rfl (Nat.le_of_ble_eq_true rfl) (Nat.le_of_ble_eq_true rfl) [1, 2, 0] (w' := w2_) rfl rfl ⟨(-2), rfl, (by decide), (by decide), (by first | fail | decide | (have h8 : (0 : Int64).toInt = 0 := rfl; have h9 : (-1 : Int32).toInt = -1 := rfl; have h10 : (-2 : Int32).toInt = -2 := rfl; have h11 : (0 : Int32).toInt = 0 := rfl; have h12 : (1 : Int32).toInt = 1 := rfl; have h13 : (-5 : Int32).toInt = -5 := rfl; have h14 : (-3 : Int32).toInt = -3 := rfl; (first | exact mp_o1427 x_25 h10 | omega))), rfl⟩ (by first | exact mp_fd_ok mp_k_cX10_open_ok (by decide +kernel) | decide +kernel)
    · skip
      have c_26 : 0 ≤ x1.toInt := c_26
      have c_27 : x1.toInt ≤ 99 := c_27
      show mp_W E X 3 17 [(0, .ref a0), (1, .int x0), (2, .int x1)] [.int 1] w4_ 0 0
      refine mp_run mp_k_cX10_open_ok hF mp_tabX10_ok [mp_h (.ifCond .eq 25) [42]] (by decide +kernel) ?_
      refine And.intro (fun c_30 => absurd c_30 (by decide)) (fun _ => ?_)
      show mp_W E X 3 20 [(0, .ref a0), (1, .int x0), (2, .int x1)] [] w4_ 0 0
      refine mp_run mp_k_cX10_open_ok hF mp_tabX10_ok [mp_i (.aload_n 0), mp_h (.getfield 40) [19, 1], mp_c (.bipush 100) 100, mp_i (.iload_n 1), mp_i .imul, mp_i (.iload_n 2), mp_i .iadd, mp_h .baload [0, 0], mp_h (.ifCond .eq 7) [38]] (by decide +kernel) ?_
      refine And.intro rfl (And.intro rfl ?_)
      intro z_31 h_32
      have e_33 : z_31.toInt = 100 * x0.toInt := mp_mul (a := 100) (b := x0.toInt) h_32 (by decide) rfl (by (first | exact mp_o1273 c_5 | omega)) (by (first | exact mp_o1274 x_7 | omega))
      intro z_34 h_35
      have e_36 : z_34.toInt = z_31.toInt + x1.toInt := mp_add (a := z_31.toInt) (b := x1.toInt) h_35 rfl rfl (by (first | exact mp_o1428 c_26 c_5 e_33 | omega)) (by (first | exact mp_o1429 c_27 x_7 e_33 | omega))
      refine And.intro rfl (And.intro rfl (And.intro (vp_in_iff.mpr (by (first | exact mp_o1430 c_5 x_7 c_26 c_27 e_33 e_36 | omega))) ?_))
      intro z_37 h_38
      have e_39 : 0 ≤ z_37.toInt ∧ z_37.toInt ≤ 1 := mp_all_ld h_38 p5 (by (first | exact mp_o1431 c_5 c_26 e_33 e_36 | omega)) (by (first | exact mp_o1432 x_7 e_33 c_27 e_36 | omega))
      have e_40 : z_37.toInt = (f1 (100 * x0.toInt + x1.toInt).toNat).toInt := mp_at_i h_38 (by (first | exact mp_o1433 c_5 c_26 e_33 e_36 | omega))
      refine And.intro (fun c_41 => ?_) (fun c_41 => ?_)
      · have c_41 : z_37.toInt = 0 := (congrArg Int32.toInt c_41)
        show mp_W E X 3 38 [(0, .ref a0), (1, .int x0), (2, .int x1)] [] w4_ 0 0
        refine mp_run mp_k_cX10_open_ok hF mp_tabX10_ok [mp_c (.iconst 1) 1, mp_h (.goto 5) [44]] (by decide +kernel) ?_
        show mp_W E X 3 44 [(0, .ref a0), (1, .int x0), (2, .int x1)] [.int 1] w4_ 0 0
        exact mp_iret hF hQ rfl rfl (Nat.le_of_ble_eq_true rfl) (Nat.le_of_ble_eq_true rfl) [1, 2, 0] (w' := w2_) rfl rfl ⟨1, rfl, (by decide), (by decide), (by first | fail | decide | (have h8 : (0 : Int64).toInt = 0 := rfl; have h9 : (-1 : Int32).toInt = -1 := rfl; have h10 : (-2 : Int32).toInt = -2 := rfl; have h11 : (0 : Int32).toInt = 0 := rfl; have h12 : (1 : Int32).toInt = 1 := rfl; have h13 : (-5 : Int32).toInt = -5 := rfl; have h14 : (-3 : Int32).toInt = -3 := rfl; (first | exact mp_o1434 c_5 c_26 x_6 c_27 h12 c_41 e_40 | omega))), rfl⟩ (by first | exact mp_fd_ok mp_k_cX10_open_ok (by decide +kernel) | decide +kernel)
      · have c_41 : z_37.toInt ≠ 0 := c_41
        show mp_W E X 3 34 [(0, .ref a0), (1, .int x0), (2, .int x1)] [] w4_ 0 0
        refine mp_run mp_k_cX10_open_ok hF mp_tabX10_ok [mp_c (.iconst 0) 0, mp_h (.goto 9) [44]] (by decide +kernel) ?_
        show mp_W E X 3 44 [(0, .ref a0), (1, .int x0), (2, .int x1)] [.int 0] w4_ 0 0
        exact mp_iret hF hQ rfl rfl (Nat.le_of_ble_eq_true rfl) (Nat.le_of_ble_eq_true rfl) [1, 2, 0] (w' := w2_) rfl rfl ⟨0, rfl, (by decide), (by decide), (by first | fail | decide | (have h8 : (0 : Int64).toInt = 0 := rfl; have h9 : (-1 : Int32).toInt = -1 := rfl; have h10 : (-2 : Int32).toInt = -2 := rfl; have h11 : (0 : Int32).toInt = 0 := rfl; have h12 : (1 : Int32).toInt = 1 := rfl; have h13 : (-5 : Int32).toInt = -5 := rfl; have h14 : (-3 : Int32).toInt = -3 := rfl; (first | exact mp_o1435 c_5 c_26 x_6 c_27 h11 e_40 c_41 | omega))), rfl⟩ (by first | exact mp_fd_ok mp_k_cX10_open_ok (by decide +kernel) | decide +kernel)
set_option maxHeartbeats 4000000 in
set_option maxRecDepth 100000 in
theorem bX10_lays_62 (E : mp_E) (a0 a1 a2 a3 a4 a5 a6 a7 a8 a9 a10 a11 a12 a13 a14 a15 a16 a17 a18 a19 a20 a21 a22 a23 a24 a25 : Nat) (f0 : Nat → Int32) (f1 : Nat → Int32) (f2 : Nat → Int32) (f3 : Nat → Int32) (f4 : Nat → Int32) (f5 : Nat → Int32) (f6 : Nat → Int32) (f7 : Nat → Int32) (y0 : Int32) (y1 : Int32) (y2 : Int32) (y3 : Int32) (y4 : Int32) (y5 : Int32) (y6 : Int64) (y7 : Int32) (y8 : Int32) (y9 : Int32) (y10 : Int32) (y11 : Int32) (y12 : Int32) (y13 : Int32) (y14 : Int32) (y15 : Int32) (y16 : Int32) (y17 : Int32) (y18 : Int32) (y19 : Int32) (y20 : Int32) (y21 : Int32) (p0 : mp_res f0 25 5 0 0 6) (p1 : mp_res f0 25 5 1 0 99) (p2 : mp_res f0 25 5 2 0 6) (p3 : mp_res f0 25 5 3 0 10) (p4 : mp_res f0 25 5 4 0 60) (p5 : mp_all f1 180 0 20) (p6 : mp_res f2 90 3 0 0 5) (p7 : mp_res f2 90 3 1 (-1) 99) (p8 : mp_actm f3) (p9 : mp_all f4 6 0 5) (l_y1 : 0 ≤ y1.toInt) (u_y1 : y1.toInt ≤ 1600) (l_y2 : 0 ≤ y2.toInt) (u_y2 : y2.toInt ≤ 1600) (l_y3 : 0 ≤ y3.toInt) (u_y3 : y3.toInt ≤ 4) (l_y4 : 0 ≤ y4.toInt) (u_y4 : y4.toInt ≤ 1600) (l_y11 : 0 ≤ y11.toInt) (u_y11 : y11.toInt ≤ 99) (l_y12 : 0 ≤ y12.toInt) (u_y12 : y12.toInt ≤ 5) (l_y13 : 0 ≤ y13.toInt) (u_y13 : y13.toInt ≤ 12) (q0 : (f0 1).toInt + mp_k200 f3 (f0 4).toInt ≤ 99) : mp_Ct E yX10_lays cX10_lays 4 none 0 0 0 0 [.ref a0] [(mp_ob10 a0 y0 a9 a10 a11 a12 a13 y1 y2 y3 y4 y5 y6 y7 y8 y9 y10 a14 a1 a2 a15 a3 a16 a4 a17 y11 a5 a6 a7 a8 y12 y13 y14 a18 a19 y15 y16 a20 a21 a22 y17 y18 y19 y20 a23 a24 a25 y21), (mp_arI E a1 0 25 f0), (mp_arI E a2 0 180 f1), (mp_arI E a3 0 90 f2), (mp_arI E a4 0 300 f3), (mp_arI E a5 0 6 f4), (mp_arI E a6 0 6 f5), (mp_arI E a7 0 6 f6), (mp_arI E a8 3 1500 f7)] (fun v w' => ∃ r1 : Int32, ∃ h2 : Nat → Int32, ∃ h3 : Nat → Int32, ∃ h4 : Nat → Int32, ∃ h5 : Nat → Int32, v = none ∧ 0 ≤ r1.toInt ∧ r1.toInt ≤ 99 ∧ mp_all h2 6 0 5 ∧ (r1.toInt = (f0 1).toInt + mp_k200 f3 (f0 4).toInt) ∧ (mp_CS h2 h3 h4 f1 (fun p => f2 (3 * p)) f3 (f0 1).toInt (f0 2).toInt ((f0 4).toInt).toNat) ∧ w' = [(mp_ob10 a0 y0 a9 a10 a11 a12 a13 y1 y2 y3 y4 y5 y6 y7 y8 y9 y10 a14 a1 a2 a15 a3 a16 a4 a17 r1 a5 a6 a7 a8 y12 y13 y14 a18 a19 y15 y16 a20 a21 a22 y17 y18 y19 y20 a23 a24 a25 y21), (mp_arI E a1 0 25 f0), (mp_arI E a2 0 180 f1), (mp_arI E a3 0 90 f2), (mp_arI E a4 0 300 f3), (mp_arI E a5 0 6 h2), (mp_arI E a6 0 6 h3), (mp_arI E a7 0 6 h4), (mp_arI E a8 3 1500 h5)]) := by
  refine mp_met false (by decide) (by decide) (Nat.le_of_ble_eq_true rfl) (fun X hF hQ => ?_)
  have hF : mp_F E X (RX10, cX10_lays, 4, (0, 0, 0, 0), none, false) := hF
  let w1_ : va_W := [(mp_ob10 a0 y0 a9 a10 a11 a12 a13 y1 y2 y3 y4 y5 y6 y7 y8 y9 y10 a14 a1 a2 a15 a3 a16 a4 a17 y11 a5 a6 a7 a8 y12 y13 y14 a18 a19 y15 y16 a20 a21 a22 y17 y18 y19 y20 a23 a24 a25 y21), (mp_arI E a1 0 25 f0), (mp_arI E a2 0 180 f1), (mp_arI E a3 0 90 f2), (mp_arI E a4 0 300 f3), (mp_arI E a5 0 6 f4), (mp_arI E a6 0 6 f5), (mp_arI E a7 0 6 f6), (mp_arI E a8 3 1500 f7)]
  show mp_W E X 4 0 [(0, .ref a0)] [] w1_ 0 0
  refine mp_run mp_k_cX10_lays_ok hF mp_tabX10_ok [mp_i (.aload_n 0), mp_i (.aload_n 0), mp_h (.getfield 34) [17, 0], mp_c (.iconst 1) 1, mp_h .iaload [1], mp_h (.putfield 276) [24, 0]] (by decide +kernel) ?_
  refine And.intro rfl (And.intro rfl ?_)
  refine And.intro rfl (And.intro rfl (And.intro (vp_in_iff.mpr (by decide)) ?_))
  intro z_1 h_2
  have e_3 : 0 ≤ z_1.toInt ∧ z_1.toInt ≤ 99 := mp_res_ld h_2 p1 (by decide) (by decide) (by decide)
  have e_4 : z_1.toInt = (f0 1).toInt := congrArg Int32.toInt (mp_at h_2 (by decide) rfl)
  refine And.intro rfl (And.intro rfl (And.intro rfl (And.intro rfl (And.intro (Nat.le_of_ble_eq_true rfl) ?_))))
  let w2_ : va_W := [(mp_ob10 a0 y0 a9 a10 a11 a12 a13 y1 y2 y3 y4 y5 y6 y7 y8 y9 y10 a14 a1 a2 a15 a3 a16 a4 a17 z_1 a5 a6 a7 a8 y12 y13 y14 a18 a19 y15 y16 a20 a21 a22 y17 y18 y19 y20 a23 a24 a25 y21), (mp_arI E a1 0 25 f0), (mp_arI E a2 0 180 f1), (mp_arI E a3 0 90 f2), (mp_arI E a4 0 300 f3), (mp_arI E a5 0 6 f4), (mp_arI E a6 0 6 f5), (mp_arI E a7 0 6 f6), (mp_arI E a8 3 1500 f7)]
  show mp_W E X 4 10 [(0, .ref a0)] [] w2_ 0 0
  refine mp_run mp_k_cX10_lays_ok hF mp_tabX10_ok [mp_c (.iconst 0) 0, mp_i (.istore_n 1)] (by decide +kernel) ?_
  show mp_W E X 4 12 [(1, .int 0), (0, .ref a0)] [] w2_ 0 0
  have lp_15 : ∀ (d_16 : Nat) (i_5 : Int32) (g_6 : Nat → Int32) (g_7 : Nat → Int32) (g_8 : Nat → Int32), 0 ≤ i_5.toInt → i_5.toInt ≤ 6 → mp_all g_6 6 0 5 → (z_1.toInt = (f0 1).toInt) → (mp_init g_6 g_7 g_8 (fun p => f2 (3 * p)) i_5.toInt) → (0 ≤ i_5.toInt) → (f0 2).toInt - i_5.toInt ≤ (d_16 : Int) → mp_W E X 4 12 [(1, .int i_5), (0, .ref a0)] [] [(mp_ob10 a0 y0 a9 a10 a11 a12 a13 y1 y2 y3 y4 y5 y6 y7 y8 y9 y10 a14 a1 a2 a15 a3 a16 a4 a17 z_1 a5 a6 a7 a8 y12 y13 y14 a18 a19 y15 y16 a20 a21 a22 y17 y18 y19 y20 a23 a24 a25 y21), (mp_arI E a1 0 25 f0), (mp_arI E a2 0 180 f1), (mp_arI E a3 0 90 f2), (mp_arI E a4 0 300 f3), (mp_arI E a5 0 6 g_6), (mp_arI E a6 0 6 g_7), (mp_arI E a7 0 6 g_8), (mp_arI E a8 3 1500 f7)] 0 0 := by
    intro d_16
    induction d_16 using Nat.strongRecOn with
    | ind d_16 ih_17 =>
      intro i_5 g_6 g_7 g_8 l_9 u_10 p_11 x_12 x_13 x_14 hm_18
      refine mp_run mp_k_cX10_lays_ok hF mp_tabX10_ok [mp_i (.iload_n 1), mp_i (.aload_n 0), mp_h (.getfield 34) [17, 0], mp_c (.iconst 2) 2, mp_h .iaload [1], mp_h (.if_icmp .ge 37) [56]] (by decide +kernel) ?_
      refine And.intro rfl (And.intro rfl ?_)
      refine And.intro rfl (And.intro rfl (And.intro (vp_in_iff.mpr (by decide)) ?_))
      intro z_19 h_20
      have e_21 : 0 ≤ z_19.toInt ∧ z_19.toInt ≤ 6 := mp_res_ld h_20 p2 (by decide) (by decide) (by decide)
      have e_22 : z_19.toInt = (f0 2).toInt := congrArg Int32.toInt (mp_at h_20 (by decide) rfl)
      refine And.intro (fun c_23 => ?_) (fun c_23 => ?_)
      · have c_23 : z_19.toInt ≤ i_5.toInt := c_23
        let w3_ : va_W := [(mp_ob10 a0 y0 a9 a10 a11 a12 a13 y1 y2 y3 y4 y5 y6 y7 y8 y9 y10 a14 a1 a2 a15 a3 a16 a4 a17 z_1 a5 a6 a7 a8 y12 y13 y14 a18 a19 y15 y16 a20 a21 a22 y17 y18 y19 y20 a23 a24 a25 y21), (mp_arI E a1 0 25 f0), (mp_arI E a2 0 180 f1), (mp_arI E a3 0 90 f2), (mp_arI E a4 0 300 f3), (mp_arI E a5 0 6 g_6), (mp_arI E a6 0 6 g_7), (mp_arI E a7 0 6 g_8), (mp_arI E a8 3 1500 f7)]
        show mp_W E X 4 56 [(1, .int i_5), (0, .ref a0)] [] w3_ 0 0
        refine mp_run mp_k_cX10_lays_ok hF mp_tabX10_ok [mp_c (.iconst 0) 0, mp_i (.istore_n 1)] (by decide +kernel) ?_
        show mp_W E X 4 58 [(1, .int 0), (0, .ref a0)] [] w3_ 0 0
        have lp_29 : ∀ (d_30 : Nat) (i_24 : Int32) (g_25 : Nat → Int32), 0 ≤ i_24.toInt → i_24.toInt ≤ 1600 → (z_1.toInt = (f0 1).toInt) → -(i_24.toInt) + 1500 ≤ (d_30 : Int) → mp_W E X 4 58 [(1, .int i_24), (0, .ref a0)] [] [(mp_ob10 a0 y0 a9 a10 a11 a12 a13 y1 y2 y3 y4 y5 y6 y7 y8 y9 y10 a14 a1 a2 a15 a3 a16 a4 a17 z_1 a5 a6 a7 a8 y12 y13 y14 a18 a19 y15 y16 a20 a21 a22 y17 y18 y19 y20 a23 a24 a25 y21), (mp_arI E a1 0 25 f0), (mp_arI E a2 0 180 f1), (mp_arI E a3 0 90 f2), (mp_arI E a4 0 300 f3), (mp_arI E a5 0 6 g_6), (mp_arI E a6 0 6 g_7), (mp_arI E a7 0 6 g_8), (mp_arI E a8 3 1500 g_25)] 0 0 := by
          intro d_30
          induction d_30 using Nat.strongRecOn with
          | ind d_30 ih_31 =>
            intro i_24 g_25 l_26 u_27 x_28 hm_32
            refine mp_run mp_k_cX10_lays_ok hF mp_tabX10_ok [mp_i (.iload_n 1), mp_c (.sipush 1500) 1500, mp_h (.if_icmp .ge 16) [78]] (by decide +kernel) ?_
            refine And.intro (fun c_33 => ?_) (fun c_33 => ?_)
            · have c_33 : 1500 ≤ i_24.toInt := c_33
              let w4_ : va_W := [(mp_ob10 a0 y0 a9 a10 a11 a12 a13 y1 y2 y3 y4 y5 y6 y7 y8 y9 y10 a14 a1 a2 a15 a3 a16 a4 a17 z_1 a5 a6 a7 a8 y12 y13 y14 a18 a19 y15 y16 a20 a21 a22 y17 y18 y19 y20 a23 a24 a25 y21), (mp_arI E a1 0 25 f0), (mp_arI E a2 0 180 f1), (mp_arI E a3 0 90 f2), (mp_arI E a4 0 300 f3), (mp_arI E a5 0 6 g_6), (mp_arI E a6 0 6 g_7), (mp_arI E a7 0 6 g_8), (mp_arI E a8 3 1500 g_25)]
              show mp_W E X 4 78 [(1, .int i_24), (0, .ref a0)] [] w4_ 0 0
              refine mp_run mp_k_cX10_lays_ok hF mp_tabX10_ok [mp_c (.iconst 0) 0, mp_i (.istore_n 1)] (by decide +kernel) ?_
              show mp_W E X 4 80 [(1, .int 0), (0, .ref a0)] [] w4_ 0 0
              have lp_49 : ∀ (d_50 : Nat) (i_34 : Int32) (g_35 : Nat → Int32) (g_36 : Nat → Int32) (g_37 : Nat → Int32) (g_38 : Nat → Int32) (i_39 : Int32), 0 ≤ i_34.toInt → i_34.toInt ≤ 60 → mp_all g_35 6 0 5 → 0 ≤ i_39.toInt → i_39.toInt ≤ 99 → (i_39.toInt = (f0 1).toInt + mp_k200 f3 i_34.toInt) → (i_34.toInt ≤ (f0 4).toInt) → (mp_CS g_35 g_36 g_37 f1 (fun p => f2 (3 * p)) f3 (f0 1).toInt (f0 2).toInt i_34.toInt.toNat) → (0 ≤ i_34.toInt) → (f0 4).toInt - i_34.toInt ≤ (d_50 : Int) → mp_W E X 4 80 [(1, .int i_34), (0, .ref a0)] [] [(mp_ob10 a0 y0 a9 a10 a11 a12 a13 y1 y2 y3 y4 y5 y6 y7 y8 y9 y10 a14 a1 a2 a15 a3 a16 a4 a17 i_39 a5 a6 a7 a8 y12 y13 y14 a18 a19 y15 y16 a20 a21 a22 y17 y18 y19 y20 a23 a24 a25 y21), (mp_arI E a1 0 25 f0), (mp_arI E a2 0 180 f1), (mp_arI E a3 0 90 f2), (mp_arI E a4 0 300 f3), (mp_arI E a5 0 6 g_35), (mp_arI E a6 0 6 g_36), (mp_arI E a7 0 6 g_37), (mp_arI E a8 3 1500 g_38)] 0 0 := by
                intro d_50
                induction d_50 using Nat.strongRecOn with
                | ind d_50 ih_51 =>
                  intro i_34 g_35 g_36 g_37 g_38 i_39 l_40 u_41 p_42 l_43 u_44 x_45 x_46 x_47 x_48 hm_52
                  refine mp_run mp_k_cX10_lays_ok hF mp_tabX10_ok [mp_i (.iload_n 1), mp_i (.aload_n 0), mp_h (.getfield 34) [17, 0], mp_c (.iconst 4) 4, mp_h .iaload [1], mp_h (.if_icmp .ge 117) [204]] (by decide +kernel) ?_
                  refine And.intro rfl (And.intro rfl ?_)
                  refine And.intro rfl (And.intro rfl (And.intro (vp_in_iff.mpr (by decide)) ?_))
                  intro z_53 h_54
                  have e_55 : 0 ≤ z_53.toInt ∧ z_53.toInt ≤ 60 := mp_res_ld h_54 p4 (by decide) (by decide) (by decide)
                  have e_56 : z_53.toInt = (f0 4).toInt := congrArg Int32.toInt (mp_at h_54 (by decide) rfl)
                  refine And.intro (fun c_57 => ?_) (fun c_57 => ?_)
                  · have c_57 : z_53.toInt ≤ i_34.toInt := c_57
                    let w5_ : va_W := [(mp_ob10 a0 y0 a9 a10 a11 a12 a13 y1 y2 y3 y4 y5 y6 y7 y8 y9 y10 a14 a1 a2 a15 a3 a16 a4 a17 i_39 a5 a6 a7 a8 y12 y13 y14 a18 a19 y15 y16 a20 a21 a22 y17 y18 y19 y20 a23 a24 a25 y21), (mp_arI E a1 0 25 f0), (mp_arI E a2 0 180 f1), (mp_arI E a3 0 90 f2), (mp_arI E a4 0 300 f3), (mp_arI E a5 0 6 g_35), (mp_arI E a6 0 6 g_36), (mp_arI E a7 0 6 g_37), (mp_arI E a8 3 1500 g_38)]
                    show mp_W E X 4 204 [(1, .int i_34), (0, .ref a0)] [] w5_ 0 0
                    exact mp_vret hF hQ rfl (Nat.le_of_ble_eq_true rfl) (Nat.le_of_ble_eq_true rfl) [0, 1, 2, 3, 4, 5, 6, 7, 8] (w' := w5_) rfl rfl ⟨i_39, g_35, g_36, g_37, g_38, rfl, l_43, u_44, p_42, (by have k9 := mp_k200_eq (f := f3) (a := i_34.toInt) (b := (f0 4).toInt) (by (first | exact mp_o1436 x_46 e_56 c_57 | omega)); (first | exact mp_o335 k9 x_45 | omega)), (mp_CS_to x_47 (by (first | exact mp_o1437 x_46 e_56 c_57 | omega))), rfl⟩ (by first | exact mp_fd_ok mp_k_cX10_lays_ok (by decide +kernel) | decide +kernel)
                  · have c_57 : i_34.toInt < z_53.toInt := c_57
                    let w6_ : va_W := [(mp_ob10 a0 y0 a9 a10 a11 a12 a13 y1 y2 y3 y4 y5 y6 y7 y8 y9 y10 a14 a1 a2 a15 a3 a16 a4 a17 i_39 a5 a6 a7 a8 y12 y13 y14 a18 a19 y15 y16 a20 a21 a22 y17 y18 y19 y20 a23 a24 a25 y21), (mp_arI E a1 0 25 f0), (mp_arI E a2 0 180 f1), (mp_arI E a3 0 90 f2), (mp_arI E a4 0 300 f3), (mp_arI E a5 0 6 g_35), (mp_arI E a6 0 6 g_36), (mp_arI E a7 0 6 g_37), (mp_arI E a8 3 1500 g_38)]
                    show mp_W E X 4 90 [(1, .int i_34), (0, .ref a0)] [] w6_ 0 0
                    refine mp_run mp_k_cX10_lays_ok hF mp_tabX10_ok [mp_i (.aload_n 0), mp_h (.getfield 50) [22, 0], mp_i (.iload_n 1), mp_h .iaload [4], mp_i (.istore_n 2), mp_i (.iload_n 2), mp_c (.sipush 200) 200, mp_h (.if_icmp .ne 16) [117]] (by decide +kernel) ?_
                    refine And.intro rfl (And.intro rfl ?_)
                    refine And.intro rfl (And.intro rfl (And.intro (vp_in_iff.mpr (by (first | exact mp_o1438 l_40 u_41 | omega))) ?_))
                    intro z_58 h_59
                    have e_60 := mp_actm_ld h_59 p8 (by (first | exact x_48 | omega)) (by (first | exact mp_o1439 u_41 | omega))
                    have e_61 := mp_k200_ld h_59 (by (first | exact x_48 | omega))
                    have e_62 := mp_k200_mono (f := f3) (a := i_34.toInt + 1) (b := (f0 4).toInt) (by (first | exact mp_o1440 e_56 c_57 | omega))
                    have e_63 : z_58.toInt = (f3 (i_34.toInt.toNat)).toInt := mp_at_i h_59 (by (first | exact mp_o369 l_40 | omega))
                    refine And.intro (fun c_64 => ?_) (fun c_64 => ?_)
                    · have c_64 : z_58.toInt ≠ 200 := c_64
                      show mp_W E X 4 117 [(2, .int z_58), (1, .int i_34), (0, .ref a0)] [] w6_ 0 0
                      refine mp_run mp_k_cX10_lays_ok hF mp_tabX10_ok [mp_i (.iload_n 2), mp_c (.bipush 100) 100, mp_h (.if_icmp .lt 25) [145]] (by decide +kernel) ?_
                      refine And.intro (fun c_65 => ?_) (fun c_65 => ?_)
                      · have c_65 : z_58.toInt < 100 := c_65
                        show mp_W E X 4 145 [(2, .int z_58), (1, .int i_34), (0, .ref a0)] [] w6_ 0 0
                        refine mp_run mp_k_cX10_lays_ok hF mp_tabX10_ok [mp_i (.iload_n 2), mp_c (.bipush 10) 10, mp_i .idiv, mp_i (.istore_n 3), mp_i (.aload_n 0), mp_h (.getfield 59) [26, 0], mp_i (.iload_n 3), mp_i .dup2, mp_h .iaload [6], mp_i (.aload_n 0), mp_h (.getfield 37) [18, 0], mp_c (.bipush 6) 6, mp_i (.aload_n 0), mp_h (.getfield 56) [25, 0], mp_i (.iload_n 3), mp_h .iaload [5], mp_i .imul, mp_i (.iload_n 2), mp_c (.bipush 10) 10, mp_i .irem, mp_i .iadd, mp_h .iaload [2], mp_i .iadd, mp_h .iastore [6]] (by decide +kernel) ?_
                        refine And.intro (by decide) ?_
                        intro z_66 h_67
                        have e_68 : z_66.toInt = z_58.toInt / 10 := mp_div (a := z_58.toInt) (b := 10) h_67 rfl (by decide) (by (first | exact mp_o340 e_60 | omega)) (by decide)
                        refine And.intro rfl (And.intro rfl ?_)
                        refine And.intro rfl (And.intro rfl (And.intro (vp_in_iff.mpr (by (first | exact mp_o1441 c_65 e_60 e_68 | omega))) ?_))
                        intro z_69 h_70
                        have e_71 : z_69.toInt = (g_36 ((z_58.toInt / 10).toNat)).toInt := mp_at_i h_70 (by (first | exact mp_o1442 e_60 e_68 | omega))
                        refine And.intro rfl (And.intro rfl ?_)
                        refine And.intro rfl (And.intro rfl ?_)
                        refine And.intro rfl (And.intro rfl (And.intro (vp_in_iff.mpr (by (first | exact mp_o1441 c_65 e_60 e_68 | omega))) ?_))
                        intro z_72 h_73
                        have e_74 : 0 ≤ z_72.toInt ∧ z_72.toInt ≤ 5 := mp_all_ld h_73 p_42 (by (first | exact mp_o1443 e_68 e_60 | omega)) (by (first | exact mp_o1444 c_65 e_60 e_68 | omega))
                        have e_75 : z_72.toInt = (g_35 ((z_58.toInt / 10).toNat)).toInt := mp_at_i h_73 (by (first | exact mp_o1442 e_60 e_68 | omega))
                        intro z_76 h_77
                        have e_78 : z_76.toInt = 6 * z_72.toInt := mp_mul (a := 6) (b := z_72.toInt) h_77 (by decide) rfl (by (first | exact mp_o1445 e_74 | omega)) (by (first | exact mp_o1446 e_74 | omega))
                        refine And.intro (by decide) ?_
                        intro z_79 h_80
                        have e_81 : z_79.toInt = z_58.toInt % 10 := mp_rem (a := z_58.toInt) (b := 10) h_80 rfl (by decide) (by (first | exact mp_o340 e_60 | omega)) (by decide)
                        intro z_82 h_83
                        have e_84 : z_82.toInt = z_76.toInt + z_79.toInt := mp_add (a := z_76.toInt) (b := z_79.toInt) h_83 rfl rfl (by (first | exact mp_o1447 e_78 e_74 e_81 | omega)) (by (first | exact mp_o1448 e_78 e_74 e_81 | omega))
                        refine And.intro rfl (And.intro rfl (And.intro (vp_in_iff.mpr (by (first | exact mp_o1449 e_74 e_78 e_84 e_81 | omega))) ?_))
                        intro z_85 h_86
                        have e_87 : 0 ≤ z_85.toInt ∧ z_85.toInt ≤ 20 := mp_all_ld h_86 p5 (by (first | exact mp_o1450 e_74 e_78 e_84 e_81 | omega)) (by (first | exact mp_o1451 e_74 e_78 e_84 e_81 | omega))
                        have e_88 : z_85.toInt = (f1 ((6 * (g_35 (z_58.toInt / 10).toNat).toInt + z_58.toInt % 10).toNat)).toInt := mp_at_i h_86 (by (first | exact mp_o1452 e_81 e_75 e_74 e_78 e_84 | omega))
                        intro z_89 h_90
                        refine And.intro rfl (And.intro rfl (And.intro (vp_in_iff.mpr (by (first | exact mp_o1441 c_65 e_60 e_68 | omega))) ?_))
                        intro g_92 h_93
                        let w7_ : va_W := [(mp_ob10 a0 y0 a9 a10 a11 a12 a13 y1 y2 y3 y4 y5 y6 y7 y8 y9 y10 a14 a1 a2 a15 a3 a16 a4 a17 i_39 a5 a6 a7 a8 y12 y13 y14 a18 a19 y15 y16 a20 a21 a22 y17 y18 y19 y20 a23 a24 a25 y21), (mp_arI E a1 0 25 f0), (mp_arI E a2 0 180 f1), (mp_arI E a3 0 90 f2), (mp_arI E a4 0 300 f3), (mp_arI E a5 0 6 g_35), (mp_arI E a6 0 6 g_92), (mp_arI E a7 0 6 g_37), (mp_arI E a8 3 1500 g_38)]
                        show mp_W E X 4 178 [(3, .int z_66), (2, .int z_58), (1, .int i_34), (0, .ref a0)] [] w7_ 0 0
                        refine mp_run mp_k_cX10_lays_ok hF mp_tabX10_ok [mp_i (.aload_n 0), mp_h (.getfield 56) [25, 0], mp_i (.iload_n 3), mp_i (.iload_n 2), mp_c (.bipush 10) 10, mp_i .irem, mp_h .iastore [5]] (by decide +kernel) ?_
                        refine And.intro rfl (And.intro rfl ?_)
                        refine And.intro (by decide) ?_
                        intro z_94 h_95
                        have e_96 : z_94.toInt = z_58.toInt % 10 := mp_rem (a := z_58.toInt) (b := 10) h_95 rfl (by decide) (by (first | exact mp_o340 e_60 | omega)) (by decide)
                        refine And.intro rfl (And.intro rfl (And.intro (vp_in_iff.mpr (by (first | exact mp_o1441 c_65 e_60 e_68 | omega))) ?_))
                        intro g_97 h_98
                        have p_99 : mp_all g_97 6 0 5 := mp_all_st h_98 p_42 (by (first | exact mp_o318 e_96 | omega)) (by (first | exact mp_o1453 c_65 e_60 e_96 | omega))
                        let w8_ : va_W := [(mp_ob10 a0 y0 a9 a10 a11 a12 a13 y1 y2 y3 y4 y5 y6 y7 y8 y9 y10 a14 a1 a2 a15 a3 a16 a4 a17 i_39 a5 a6 a7 a8 y12 y13 y14 a18 a19 y15 y16 a20 a21 a22 y17 y18 y19 y20 a23 a24 a25 y21), (mp_arI E a1 0 25 f0), (mp_arI E a2 0 180 f1), (mp_arI E a3 0 90 f2), (mp_arI E a4 0 300 f3), (mp_arI E a5 0 6 g_97), (mp_arI E a6 0 6 g_92), (mp_arI E a7 0 6 g_37), (mp_arI E a8 3 1500 g_38)]
                        show mp_W E X 4 188 [(3, .int z_66), (2, .int z_58), (1, .int i_34), (0, .ref a0)] [] w8_ 0 0
                        refine mp_run mp_k_cX10_lays_ok hF mp_tabX10_ok [mp_i (.aload_n 0), mp_h (.getfield 62) [27, 0], mp_i (.iload_n 3), mp_i (.aload_n 0), mp_h (.getfield 276) [24, 0], mp_h .iastore [7]] (by decide +kernel) ?_
                        refine And.intro rfl (And.intro rfl ?_)
                        refine And.intro rfl (And.intro rfl ?_)
                        refine And.intro rfl (And.intro rfl (And.intro (vp_in_iff.mpr (by (first | exact mp_o1441 c_65 e_60 e_68 | omega))) ?_))
                        intro g_100 h_101
                        let w9_ : va_W := [(mp_ob10 a0 y0 a9 a10 a11 a12 a13 y1 y2 y3 y4 y5 y6 y7 y8 y9 y10 a14 a1 a2 a15 a3 a16 a4 a17 i_39 a5 a6 a7 a8 y12 y13 y14 a18 a19 y15 y16 a20 a21 a22 y17 y18 y19 y20 a23 a24 a25 y21), (mp_arI E a1 0 25 f0), (mp_arI E a2 0 180 f1), (mp_arI E a3 0 90 f2), (mp_arI E a4 0 300 f3), (mp_arI E a5 0 6 g_97), (mp_arI E a6 0 6 g_92), (mp_arI E a7 0 6 g_100), (mp_arI E a8 3 1500 g_38)]
                        show mp_W E X 4 198 [(3, .int z_66), (2, .int z_58), (1, .int i_34), (0, .ref a0)] [] w9_ 0 0
                        refine mp_run mp_k_cX10_lays_ok hF mp_tabX10_ok [mp_c (.iinc 1 1) 1, mp_h (.goto (-121)) [80]] (by decide +kernel) ?_
                        intro z_102 h_103
                        have e_104 : z_102.toInt = i_34.toInt + 1 := mp_add (a := i_34.toInt) (b := 1) h_103 rfl (by decide) (by (first | exact mp_o2 l_40 | omega)) (by (first | exact mp_o343 u_41 | omega))
                        show mp_W E X 4 80 [(1, .int z_102), (3, .int z_66), (2, .int z_58), (0, .ref a0)] [] w9_ 0 0
                        exact mp_sub [0, 3] rfl [0, 1, 2, 3, 4, 5, 6, 7, 8] rfl rfl (ih_51 (d_50 - 1) (by (first | exact mp_o1454 hm_52 e_56 c_57 | omega)) z_102 g_97 g_92 g_100 g_38 i_39 (by (first | exact mp_o51 l_40 e_104 | omega)) (by (first | exact mp_o1455 e_104 c_57 e_55 | omega)) p_99 l_43 u_44 (by first | fail | (rw [e_104]; (first | exact mp_o1456 c_65 x_45 e_61 | omega)) | (rw [mp_k200_z]; omega)) (by first | (first | exact mp_o1457 e_56 c_57 e_104 | omega) | (have := mp_res_at p4 4 (by decide) (by decide); first | fail | (show (0 : Int) ≤ _; omega))) (mp_CS_to (mp_CS_s (code := z_58.toInt) (mo := i_39.toInt) x_47 (mp_AP_row h_93 h_90 h_70 e_88 h_98 h_101 (by (first | exact e_68 | omega)) (by (first | exact e_68 | omega)) (by (first | exact e_68 | omega)) (by (first | exact e_68 | omega)) (by (first | exact e_96 | omega)) (by first | rfl | omega) (by (first | exact c_65 | omega))) (by (first | exact mp_o346 e_60 e_63 | omega)) (show _ = _ + mp_k200 _ i_34.toInt by first | (first | exact x_45 | omega) | rfl)) (by (first | exact mp_o347 l_40 e_104 | omega))) (by (first | exact mp_o51 l_40 e_104 | omega)) (by (first | exact mp_o77 hm_52 e_104 | omega)))
                      · have c_65 : 100 ≤ z_58.toInt := c_65
                        show mp_W E X 4 123 [(2, .int z_58), (1, .int i_34), (0, .ref a0)] [] w6_ 0 0
                        refine mp_run mp_k_cX10_lays_ok hF mp_tabX10_ok [mp_i (.aload_n 0), mp_h (.getfield 65) [28, 0], mp_c (.sipush 150) 150, mp_i (.iload_n 2), mp_c (.bipush 100) 100, mp_i .isub, mp_i .imul, mp_i (.aload_n 0), mp_h (.getfield 276) [24, 0], mp_i .iadd, mp_c (.iconst 1) 1, mp_h .bastore [8, 0]] (by decide +kernel) ?_
                        refine And.intro rfl (And.intro rfl ?_)
                        intro z_105 h_106
                        have e_107 : z_105.toInt = z_58.toInt - 100 := mp_subi (a := z_58.toInt) (b := 100) h_106 rfl (by decide) (by (first | exact mp_o1458 c_65 | omega)) (by (first | exact mp_o1459 e_60 | omega))
                        intro z_108 h_109
                        have e_110 : z_108.toInt = 150 * z_105.toInt := mp_mul (a := 150) (b := z_105.toInt) h_109 (by decide) rfl (by (first | exact mp_o1460 c_65 e_107 | omega)) (by (first | exact mp_o1461 e_107 e_60 | omega))
                        refine And.intro rfl (And.intro rfl ?_)
                        intro z_111 h_112
                        have e_113 : z_111.toInt = z_108.toInt + i_39.toInt := mp_add (a := z_108.toInt) (b := i_39.toInt) h_112 rfl rfl (by (first | exact mp_o1462 l_43 c_65 e_107 e_110 | omega)) (by (first | exact mp_o1463 u_44 e_110 e_107 e_60 | omega))
                        refine And.intro rfl (And.intro rfl (And.intro (vp_in_iff.mpr (by (first | exact mp_o1464 l_43 u_44 c_65 e_60 c_64 e_107 e_110 e_113 | omega))) ?_))
                        intro g_114 h_115
                        have h_116 : g_114 = upd g_38 z_111.toNatClampNeg 1 := h_115.trans (congrArg (upd _ _) (by decide))
                        let w10_ : va_W := [(mp_ob10 a0 y0 a9 a10 a11 a12 a13 y1 y2 y3 y4 y5 y6 y7 y8 y9 y10 a14 a1 a2 a15 a3 a16 a4 a17 i_39 a5 a6 a7 a8 y12 y13 y14 a18 a19 y15 y16 a20 a21 a22 y17 y18 y19 y20 a23 a24 a25 y21), (mp_arI E a1 0 25 f0), (mp_arI E a2 0 180 f1), (mp_arI E a3 0 90 f2), (mp_arI E a4 0 300 f3), (mp_arI E a5 0 6 g_35), (mp_arI E a6 0 6 g_36), (mp_arI E a7 0 6 g_37), (mp_arI E a8 3 1500 g_114)]
                        show mp_W E X 4 142 [(2, .int z_58), (1, .int i_34), (0, .ref a0)] [] w10_ 0 0
                        refine mp_run mp_k_cX10_lays_ok hF mp_tabX10_ok [mp_h (.goto 56) [198], mp_c (.iinc 1 1) 1, mp_h (.goto (-121)) [80]] (by decide +kernel) ?_
                        intro z_117 h_118
                        have e_119 : z_117.toInt = i_34.toInt + 1 := mp_add (a := i_34.toInt) (b := 1) h_118 rfl (by decide) (by (first | exact mp_o2 l_40 | omega)) (by (first | exact mp_o343 u_41 | omega))
                        show mp_W E X 4 80 [(1, .int z_117), (2, .int z_58), (0, .ref a0)] [] w10_ 0 0
                        exact mp_sub [0, 2] rfl [0, 1, 2, 3, 4, 5, 6, 7, 8] rfl rfl (ih_51 (d_50 - 1) (by (first | exact mp_o1454 hm_52 e_56 c_57 | omega)) z_117 g_35 g_36 g_37 g_114 i_39 (by (first | exact mp_o51 l_40 e_119 | omega)) (by (first | exact mp_o1455 e_119 c_57 e_55 | omega)) p_42 l_43 u_44 (by first | fail | (rw [e_119]; (first | exact mp_o1465 c_64 x_45 e_61 | omega)) | (rw [mp_k200_z]; omega)) (by first | (first | exact mp_o1457 e_56 c_57 e_119 | omega) | (have := mp_res_at p4 4 (by decide) (by decide); first | fail | (show (0 : Int) ≤ _; omega))) (mp_CS_to (mp_CS_s (code := z_58.toInt) (mo := (f0 1).toInt + mp_k200 f3 i_34.toInt) x_47 (Or.inl ⟨(by first | (first | exact c_65 | omega) | (have h8 : (100 : Int32).toInt = 100 := rfl; have h9 : (200 : Int32).toInt = 200 := rfl; omega)), rfl, rfl, rfl⟩) (by (first | exact mp_o1466 c_65 e_63 | omega)) (show _ = _ + mp_k200 _ i_34.toInt by first | (first | exact mp_o1467 | omega) | rfl)) (by (first | exact mp_o347 l_40 e_119 | omega))) (by (first | exact mp_o51 l_40 e_119 | omega)) (by (first | exact mp_o77 hm_52 e_119 | omega)))
                    · have c_64 : z_58.toInt = 200 := (congrArg Int32.toInt c_64)
                      show mp_W E X 4 104 [(2, .int z_58), (1, .int i_34), (0, .ref a0)] [] w6_ 0 0
                      refine mp_run mp_k_cX10_lays_ok hF mp_tabX10_ok [mp_i (.aload_n 0), mp_i .dup, mp_h (.getfield 276) [24, 0], mp_c (.iconst 1) 1, mp_i .iadd, mp_h (.putfield 276) [24, 0]] (by decide +kernel) ?_
                      refine And.intro rfl ?_
                      refine And.intro rfl (And.intro rfl ?_)
                      intro z_120 h_121
                      have e_122 : z_120.toInt = i_39.toInt + 1 := mp_add (a := i_39.toInt) (b := 1) h_121 rfl (by decide) (by (first | exact mp_o2 l_43 | omega)) (by (first | exact mp_o330 u_44 | omega))
                      refine And.intro rfl (And.intro rfl (And.intro rfl (And.intro rfl (And.intro (Nat.le_of_ble_eq_true rfl) ?_))))
                      let w11_ : va_W := [(mp_ob10 a0 y0 a9 a10 a11 a12 a13 y1 y2 y3 y4 y5 y6 y7 y8 y9 y10 a14 a1 a2 a15 a3 a16 a4 a17 z_120 a5 a6 a7 a8 y12 y13 y14 a18 a19 y15 y16 a20 a21 a22 y17 y18 y19 y20 a23 a24 a25 y21), (mp_arI E a1 0 25 f0), (mp_arI E a2 0 180 f1), (mp_arI E a3 0 90 f2), (mp_arI E a4 0 300 f3), (mp_arI E a5 0 6 g_35), (mp_arI E a6 0 6 g_36), (mp_arI E a7 0 6 g_37), (mp_arI E a8 3 1500 g_38)]
                      show mp_W E X 4 114 [(2, .int z_58), (1, .int i_34), (0, .ref a0)] [] w11_ 0 0
                      refine mp_run mp_k_cX10_lays_ok hF mp_tabX10_ok [mp_h (.goto 84) [198], mp_c (.iinc 1 1) 1, mp_h (.goto (-121)) [80]] (by decide +kernel) ?_
                      intro z_123 h_124
                      have e_125 : z_123.toInt = i_34.toInt + 1 := mp_add (a := i_34.toInt) (b := 1) h_124 rfl (by decide) (by (first | exact mp_o2 l_40 | omega)) (by (first | exact mp_o343 u_41 | omega))
                      show mp_W E X 4 80 [(1, .int z_123), (2, .int z_58), (0, .ref a0)] [] w11_ 0 0
                      exact mp_sub [0, 2] rfl [0, 1, 2, 3, 4, 5, 6, 7, 8] rfl rfl (ih_51 (d_50 - 1) (by (first | exact mp_o1454 hm_52 e_56 c_57 | omega)) z_123 g_35 g_36 g_37 g_38 z_120 (by (first | exact mp_o51 l_40 e_125 | omega)) (by (first | exact mp_o1455 e_125 c_57 e_55 | omega)) p_42 (by (first | exact mp_o51 l_43 e_122 | omega)) (by (first | exact mp_o1468 c_64 e_122 q0 e_62 x_45 e_61 | omega)) (by first | fail | (rw [e_125]; (first | exact mp_o1469 c_64 e_122 x_45 e_61 | omega)) | (rw [mp_k200_z]; omega)) (by first | (first | exact mp_o1457 e_56 c_57 e_125 | omega) | (have := mp_res_at p4 4 (by decide) (by decide); first | fail | (show (0 : Int) ≤ _; omega))) (mp_CS_to (mp_CS_s (code := z_58.toInt) (mo := (f0 1).toInt + mp_k200 f3 i_34.toInt) x_47 (Or.inl ⟨(by first | (first | exact mp_o333 c_64 | omega) | (have h8 : (100 : Int32).toInt = 100 := rfl; have h9 : (200 : Int32).toInt = 200 := rfl; omega)), rfl, rfl, rfl⟩) (by (first | exact mp_o1470 c_64 e_63 | omega)) (show _ = _ + mp_k200 _ i_34.toInt by first | (first | exact mp_o1467 | omega) | rfl)) (by (first | exact mp_o347 l_40 e_125 | omega))) (by (first | exact mp_o51 l_40 e_125 | omega)) (by (first | exact mp_o77 hm_52 e_125 | omega)))
              exact mp_sub [0, 1] rfl [0, 1, 2, 3, 4, 5, 6, 7, 8] rfl rfl (lp_49 _ 0 g_6 g_7 g_8 g_25 z_1 (by decide) (by decide) p_11 e_3.1 e_3.2 (by first | fail | (rw [rfl]; omega) | (rw [mp_k200_z]; (first | exact mp_o1471 e_4 | omega))) (by first | fail | (have := mp_res_at p4 4 (by decide) (by decide); first | fail | (show (0 : Int) ≤ _; (first | exact mp_o1472 this | omega)))) (mp_CS_to (i := 0) (mp_CS_0 x_13 (by (first | exact mp_o787 e_22 c_23 | omega))) (by first | rfl | decide)) (by first | fail | decide) (Int.self_le_toNat _))
            · have c_33 : i_24.toInt < 1500 := c_33
              let w12_ : va_W := [(mp_ob10 a0 y0 a9 a10 a11 a12 a13 y1 y2 y3 y4 y5 y6 y7 y8 y9 y10 a14 a1 a2 a15 a3 a16 a4 a17 z_1 a5 a6 a7 a8 y12 y13 y14 a18 a19 y15 y16 a20 a21 a22 y17 y18 y19 y20 a23 a24 a25 y21), (mp_arI E a1 0 25 f0), (mp_arI E a2 0 180 f1), (mp_arI E a3 0 90 f2), (mp_arI E a4 0 300 f3), (mp_arI E a5 0 6 g_6), (mp_arI E a6 0 6 g_7), (mp_arI E a7 0 6 g_8), (mp_arI E a8 3 1500 g_25)]
              show mp_W E X 4 65 [(1, .int i_24), (0, .ref a0)] [] w12_ 0 0
              refine mp_run mp_k_cX10_lays_ok hF mp_tabX10_ok [mp_i (.aload_n 0), mp_h (.getfield 65) [28, 0], mp_i (.iload_n 1), mp_c (.iconst 0) 0, mp_h .bastore [8, 0]] (by decide +kernel) ?_
              refine And.intro rfl (And.intro rfl ?_)
              refine And.intro rfl (And.intro rfl (And.intro (vp_in_iff.mpr (by (first | exact mp_o1473 l_26 c_33 | omega))) ?_))
              intro g_126 h_127
              have h_128 : g_126 = upd g_25 i_24.toNatClampNeg 0 := h_127.trans (congrArg (upd _ _) (by decide))
              let w13_ : va_W := [(mp_ob10 a0 y0 a9 a10 a11 a12 a13 y1 y2 y3 y4 y5 y6 y7 y8 y9 y10 a14 a1 a2 a15 a3 a16 a4 a17 z_1 a5 a6 a7 a8 y12 y13 y14 a18 a19 y15 y16 a20 a21 a22 y17 y18 y19 y20 a23 a24 a25 y21), (mp_arI E a1 0 25 f0), (mp_arI E a2 0 180 f1), (mp_arI E a3 0 90 f2), (mp_arI E a4 0 300 f3), (mp_arI E a5 0 6 g_6), (mp_arI E a6 0 6 g_7), (mp_arI E a7 0 6 g_8), (mp_arI E a8 3 1500 g_126)]
              show mp_W E X 4 72 [(1, .int i_24), (0, .ref a0)] [] w13_ 0 0
              refine mp_run mp_k_cX10_lays_ok hF mp_tabX10_ok [mp_c (.iinc 1 1) 1, mp_h (.goto (-17)) [58]] (by decide +kernel) ?_
              intro z_129 h_130
              have e_131 : z_129.toInt = i_24.toInt + 1 := mp_add (a := i_24.toInt) (b := 1) h_130 rfl (by decide) (by (first | exact mp_o2 l_26 | omega)) (by (first | exact mp_o1474 c_33 | omega))
              show mp_W E X 4 58 [(1, .int z_129), (0, .ref a0)] [] w13_ 0 0
              exact mp_sub [0, 1] rfl [0, 1, 2, 3, 4, 5, 6, 7, 8] rfl rfl (ih_31 (d_30 - 1) (by (first | exact mp_o1475 hm_32 c_33 | omega)) z_129 g_126 (by (first | exact mp_o51 l_26 e_131 | omega)) (by (first | exact mp_o1476 c_33 e_131 | omega)) (by first | (first | exact x_28 | omega) | decide | (show z_1.toInt = (f0 1).toInt; first | fail | decide)) (by (first | exact mp_o1477 hm_32 e_131 | omega)))
        exact mp_sub [0, 1] rfl [0, 1, 2, 3, 4, 5, 6, 7, 8] rfl rfl (lp_29 _ 0 f7 (by decide) (by decide) (by first | (first | exact x_12 | omega) | decide | (show z_1.toInt = (f0 1).toInt; first | fail | decide)) (Int.self_le_toNat _))
      · have c_23 : i_5.toInt < z_19.toInt := c_23
        let w14_ : va_W := [(mp_ob10 a0 y0 a9 a10 a11 a12 a13 y1 y2 y3 y4 y5 y6 y7 y8 y9 y10 a14 a1 a2 a15 a3 a16 a4 a17 z_1 a5 a6 a7 a8 y12 y13 y14 a18 a19 y15 y16 a20 a21 a22 y17 y18 y19 y20 a23 a24 a25 y21), (mp_arI E a1 0 25 f0), (mp_arI E a2 0 180 f1), (mp_arI E a3 0 90 f2), (mp_arI E a4 0 300 f3), (mp_arI E a5 0 6 g_6), (mp_arI E a6 0 6 g_7), (mp_arI E a7 0 6 g_8), (mp_arI E a8 3 1500 f7)]
        show mp_W E X 4 22 [(1, .int i_5), (0, .ref a0)] [] w14_ 0 0
        refine mp_run mp_k_cX10_lays_ok hF mp_tabX10_ok [mp_i (.aload_n 0), mp_h (.getfield 56) [25, 0], mp_i (.iload_n 1), mp_i (.aload_n 0), mp_h (.getfield 44) [20, 0], mp_c (.iconst 3) 3, mp_i (.iload_n 1), mp_i .imul, mp_h .iaload [3], mp_h .iastore [5]] (by decide +kernel) ?_
        refine And.intro rfl (And.intro rfl ?_)
        refine And.intro rfl (And.intro rfl ?_)
        intro z_132 h_133
        have e_134 : z_132.toInt = 3 * i_5.toInt := mp_mul (a := 3) (b := i_5.toInt) h_133 (by decide) rfl (by (first | exact mp_o1399 l_9 | omega)) (by (first | exact mp_o1478 u_10 | omega))
        refine And.intro rfl (And.intro rfl (And.intro (vp_in_iff.mpr (by (first | exact mp_o1479 l_9 e_134 u_10 | omega))) ?_))
        intro z_135 h_136
        have e_137 : 0 ≤ z_135.toInt ∧ z_135.toInt ≤ 5 := mp_res_ld h_136 p6 (by (first | exact mp_o1480 l_9 e_134 | omega)) (by (first | exact mp_o1481 e_134 c_23 e_21 | omega)) (by (first | exact mp_o1482 e_134 | omega))
        have e_138 : z_135.toInt = (f2 (3 * i_5.toInt.toNat)).toInt := mp_at_i h_136 (by (first | exact mp_o1483 l_9 e_134 | omega))
        refine And.intro rfl (And.intro rfl (And.intro (vp_in_iff.mpr (by (first | exact mp_o1484 l_9 c_23 e_21 | omega))) ?_))
        intro g_139 h_140
        have p_141 : mp_all g_139 6 0 5 := mp_all_st h_140 p_11 e_137.1 e_137.2
        let w15_ : va_W := [(mp_ob10 a0 y0 a9 a10 a11 a12 a13 y1 y2 y3 y4 y5 y6 y7 y8 y9 y10 a14 a1 a2 a15 a3 a16 a4 a17 z_1 a5 a6 a7 a8 y12 y13 y14 a18 a19 y15 y16 a20 a21 a22 y17 y18 y19 y20 a23 a24 a25 y21), (mp_arI E a1 0 25 f0), (mp_arI E a2 0 180 f1), (mp_arI E a3 0 90 f2), (mp_arI E a4 0 300 f3), (mp_arI E a5 0 6 g_139), (mp_arI E a6 0 6 g_7), (mp_arI E a7 0 6 g_8), (mp_arI E a8 3 1500 f7)]
        show mp_W E X 4 36 [(1, .int i_5), (0, .ref a0)] [] w15_ 0 0
        refine mp_run mp_k_cX10_lays_ok hF mp_tabX10_ok [mp_i (.aload_n 0), mp_h (.getfield 59) [26, 0], mp_i (.iload_n 1), mp_c (.iconst 0) 0, mp_h .iastore [6]] (by decide +kernel) ?_
        refine And.intro rfl (And.intro rfl ?_)
        refine And.intro rfl (And.intro rfl (And.intro (vp_in_iff.mpr (by (first | exact mp_o1484 l_9 c_23 e_21 | omega))) ?_))
        intro g_142 h_143
        let w16_ : va_W := [(mp_ob10 a0 y0 a9 a10 a11 a12 a13 y1 y2 y3 y4 y5 y6 y7 y8 y9 y10 a14 a1 a2 a15 a3 a16 a4 a17 z_1 a5 a6 a7 a8 y12 y13 y14 a18 a19 y15 y16 a20 a21 a22 y17 y18 y19 y20 a23 a24 a25 y21), (mp_arI E a1 0 25 f0), (mp_arI E a2 0 180 f1), (mp_arI E a3 0 90 f2), (mp_arI E a4 0 300 f3), (mp_arI E a5 0 6 g_139), (mp_arI E a6 0 6 g_142), (mp_arI E a7 0 6 g_8), (mp_arI E a8 3 1500 f7)]
        show mp_W E X 4 43 [(1, .int i_5), (0, .ref a0)] [] w16_ 0 0
        refine mp_run mp_k_cX10_lays_ok hF mp_tabX10_ok [mp_i (.aload_n 0), mp_h (.getfield 62) [27, 0], mp_i (.iload_n 1), mp_c (.iconst (-1)) (-1), mp_h .iastore [7]] (by decide +kernel) ?_
        refine And.intro rfl (And.intro rfl ?_)
        refine And.intro rfl (And.intro rfl (And.intro (vp_in_iff.mpr (by (first | exact mp_o1484 l_9 c_23 e_21 | omega))) ?_))
        intro g_144 h_145
        let w17_ : va_W := [(mp_ob10 a0 y0 a9 a10 a11 a12 a13 y1 y2 y3 y4 y5 y6 y7 y8 y9 y10 a14 a1 a2 a15 a3 a16 a4 a17 z_1 a5 a6 a7 a8 y12 y13 y14 a18 a19 y15 y16 a20 a21 a22 y17 y18 y19 y20 a23 a24 a25 y21), (mp_arI E a1 0 25 f0), (mp_arI E a2 0 180 f1), (mp_arI E a3 0 90 f2), (mp_arI E a4 0 300 f3), (mp_arI E a5 0 6 g_139), (mp_arI E a6 0 6 g_142), (mp_arI E a7 0 6 g_144), (mp_arI E a8 3 1500 f7)]
        show mp_W E X 4 50 [(1, .int i_5), (0, .ref a0)] [] w17_ 0 0
        refine mp_run mp_k_cX10_lays_ok hF mp_tabX10_ok [mp_c (.iinc 1 1) 1, mp_h (.goto (-41)) [12]] (by decide +kernel) ?_
        intro z_146 h_147
        have e_148 : z_146.toInt = i_5.toInt + 1 := mp_add (a := i_5.toInt) (b := 1) h_147 rfl (by decide) (by (first | exact mp_o2 l_9 | omega)) (by (first | exact mp_o351 u_10 | omega))
        show mp_W E X 4 12 [(1, .int z_146), (0, .ref a0)] [] w17_ 0 0
        exact mp_sub [0, 1] rfl [0, 1, 2, 3, 4, 5, 6, 7, 8] rfl rfl (ih_17 (d_16 - 1) (by (first | exact mp_o1454 hm_18 e_22 c_23 | omega)) z_146 g_139 g_142 g_144 (by (first | exact mp_o51 l_9 e_148 | omega)) (by (first | exact mp_o1485 e_148 c_23 e_21 | omega)) p_141 (by (first | exact x_12 | omega)) (mp_init_s x_13 h_140 e_138 h_143 h_145 (by (first | exact mp_o353 l_9 e_148 | omega))) (by (first | exact mp_o51 l_9 e_148 | omega)) (by (first | exact mp_o77 hm_18 e_148 | omega)))
  exact mp_sub [0, 1] rfl [0, 1, 2, 3, 4, 5, 6, 7, 8] rfl rfl (lp_15 _ 0 f4 f5 f6 (by decide) (by decide) p9 (by first | (first | exact e_4 | omega) | rfl) (mp_init_0 (by first | fail | decide)) (by first | fail | decide) (Int.self_le_toNat _))
set_option maxHeartbeats 4000000 in
set_option maxRecDepth 100000 in
theorem bX10_of_63 (E : mp_E) (a0 a1 a2 a3 a4 a5 a6 a7 a8 a9 a10 a11 a12 a13 a14 a15 a16 a17 a18 a19 a20 a21 a22 a23 a24 a25 : Nat) (f0 : Nat → Int32) (y0 : Int32) (y1 : Int32) (y2 : Int32) (y3 : Int32) (y4 : Int32) (y5 : Int32) (y6 : Int64) (y7 : Int32) (y8 : Int32) (y9 : Int32) (y10 : Int32) (y11 : Int32) (y12 : Int32) (y13 : Int32) (y14 : Int32) (y15 : Int32) (y16 : Int32) (y17 : Int32) (y18 : Int32) (y19 : Int32) (y20 : Int32) (y21 : Int32) (x0 : Int32) (p0 : mp_res f0 300 6 0 0 5) (p1 : mp_res f0 300 6 1 0 5) (p2 : mp_res f0 300 6 3 0 99) (p3 : mp_res f0 300 6 4 0 1) (l_x0 : 0 ≤ x0.toInt) (u_x0 : x0.toInt ≤ 9) (l_y1 : 0 ≤ y1.toInt) (u_y1 : y1.toInt ≤ 1600) (l_y2 : 0 ≤ y2.toInt) (u_y2 : y2.toInt ≤ 1600) (l_y3 : 0 ≤ y3.toInt) (u_y3 : y3.toInt ≤ 4) (l_y4 : 0 ≤ y4.toInt) (u_y4 : y4.toInt ≤ 1600) (l_y11 : 0 ≤ y11.toInt) (u_y11 : y11.toInt ≤ 99) (l_y12 : 0 ≤ y12.toInt) (u_y12 : y12.toInt ≤ 5) (l_y13 : 0 ≤ y13.toInt) (u_y13 : y13.toInt ≤ 12) : mp_Ct E yX10_of cX10_of 3 (some FieldType.int) 0 0 0 0 [.ref a0, .int x0, .int 3] [(mp_ob10 a0 y0 a2 a3 a4 a5 a6 y1 y2 y3 y4 y5 y6 y7 y8 y9 y10 a7 a8 a9 a10 a11 a1 a12 a13 y11 a14 a15 a16 a17 y12 y13 y14 a18 a19 y15 y16 a20 a21 a22 y17 y18 y19 y20 a23 a24 a25 y21), (mp_arI E a1 0 300 f0)] (fun v w' => ∃ r1 : Int32, v = some (.int r1) ∧ 0 ≤ r1.toInt ∧ r1.toInt ≤ 99 ∧ (r1.toInt = (f0 (6 * x0.toInt.toNat + 3)).toInt) ∧ w' = [(mp_ob10 a0 y0 a2 a3 a4 a5 a6 y1 y2 y3 y4 y5 y6 y7 y8 y9 y10 a7 a8 a9 a10 a11 a1 a12 a13 y11 a14 a15 a16 a17 y12 y13 y14 a18 a19 y15 y16 a20 a21 a22 y17 y18 y19 y20 a23 a24 a25 y21), (mp_arI E a1 0 300 f0)]) := by
  refine mp_met false (by decide) (by decide) (Nat.le_of_ble_eq_true rfl) (fun X hF hQ => ?_)
  have hF : mp_F E X (RX10, cX10_of, 3, (0, 0, 0, 0), (some FieldType.int), false) := hF
  let w1_ : va_W := [(mp_ob10 a0 y0 a2 a3 a4 a5 a6 y1 y2 y3 y4 y5 y6 y7 y8 y9 y10 a7 a8 a9 a10 a11 a1 a12 a13 y11 a14 a15 a16 a17 y12 y13 y14 a18 a19 y15 y16 a20 a21 a22 y17 y18 y19 y20 a23 a24 a25 y21), (mp_arI E a1 0 300 f0)]
  show mp_W E X 3 0 [(0, .ref a0), (1, .int x0), (2, .int 3)] [] w1_ 0 0
  refine mp_run mp_k_cX10_of_ok hF mp_tabX10_ok [mp_i (.aload_n 0), mp_h (.getfield 47) [21, 0], mp_c (.bipush 6) 6, mp_i (.iload_n 1), mp_i .imul, mp_i (.iload_n 2), mp_i .iadd, mp_h .iaload [1]] (by decide +kernel) ?_
  refine And.intro rfl (And.intro rfl ?_)
  intro z_1 h_2
  have e_3 : z_1.toInt = 6 * x0.toInt := mp_mul (a := 6) (b := x0.toInt) h_2 (by decide) rfl (by (first | exact mp_o1152 l_x0 | omega)) (by (first | exact mp_o1152 l_x0 | omega))
  intro z_4 h_5
  have e_6 : z_4.toInt = z_1.toInt + 3 := mp_add (a := z_1.toInt) (b := 3) h_5 rfl (by decide) (by (first | exact mp_o1486 l_x0 e_3 | omega)) (by (first | exact mp_o1486 l_x0 e_3 | omega))
  refine And.intro rfl (And.intro rfl (And.intro (vp_in_iff.mpr (by (first | exact mp_o1487 l_x0 u_x0 e_3 e_6 | omega))) ?_))
  intro z_7 h_8
  have e_9 : 0 ≤ z_7.toInt ∧ z_7.toInt ≤ 99 := mp_res_ld h_8 p2 (by (first | exact mp_o1487 l_x0 u_x0 e_3 e_6 | omega)) (by (first | exact mp_o1488 l_x0 e_3 e_6 | omega)) (by (first | exact mp_o1489 e_6 e_3 | omega))
  have e_10 : z_7.toInt = (f0 (6 * x0.toInt + 3).toNat).toInt := mp_at_i h_8 (by (first | exact mp_o1490 l_x0 e_3 e_6 | omega))
  show mp_W E X 3 11 [(0, .ref a0), (1, .int x0), (2, .int 3)] [.int z_7] w1_ 0 0
  exact mp_iret hF hQ rfl rfl (Nat.le_of_ble_eq_true rfl) (Nat.le_of_ble_eq_true rfl) [0, 1] (w' := w1_) rfl rfl ⟨z_7, rfl, e_9.1, e_9.2, (mp_of_at h_8 (by (first | exact l_x0 | omega)) (by (first | exact mp_o1491 e_3 e_6 | omega))), rfl⟩ (by first | exact mp_fd_ok mp_k_cX10_of_ok (by decide +kernel) | decide +kernel)
set_option maxHeartbeats 4000000 in
set_option maxRecDepth 100000 in
theorem bX10_of_64 (E : mp_E) (a0 a1 a2 a3 a4 a5 a6 a7 a8 a9 a10 a11 a12 a13 a14 a15 a16 a17 a18 a19 a20 a21 a22 a23 a24 a25 : Nat) (f0 : Nat → Int32) (y0 : Int32) (y1 : Int32) (y2 : Int32) (y3 : Int32) (y4 : Int32) (y5 : Int32) (y6 : Int64) (y7 : Int32) (y8 : Int32) (y9 : Int32) (y10 : Int32) (y11 : Int32) (y12 : Int32) (y13 : Int32) (y14 : Int32) (y15 : Int32) (y16 : Int32) (y17 : Int32) (y18 : Int32) (y19 : Int32) (y20 : Int32) (y21 : Int32) (x0 : Int32) (p0 : mp_res f0 300 6 0 0 5) (p1 : mp_res f0 300 6 1 0 5) (p2 : mp_res f0 300 6 3 0 99) (p3 : mp_res f0 300 6 4 0 1) (l_x0 : 0 ≤ x0.toInt) (u_x0 : x0.toInt ≤ 9) (l_y1 : 0 ≤ y1.toInt) (u_y1 : y1.toInt ≤ 1600) (l_y2 : 0 ≤ y2.toInt) (u_y2 : y2.toInt ≤ 1600) (l_y3 : 0 ≤ y3.toInt) (u_y3 : y3.toInt ≤ 4) (l_y4 : 0 ≤ y4.toInt) (u_y4 : y4.toInt ≤ 1600) (l_y11 : 0 ≤ y11.toInt) (u_y11 : y11.toInt ≤ 99) (l_y12 : 0 ≤ y12.toInt) (u_y12 : y12.toInt ≤ 5) (l_y13 : 0 ≤ y13.toInt) (u_y13 : y13.toInt ≤ 12) : mp_Ct E yX10_of cX10_of 3 (some FieldType.int) 0 0 0 0 [.ref a0, .int x0, .int 0] [(mp_ob10 a0 y0 a2 a3 a4 a5 a6 y1 y2 y3 y4 y5 y6 y7 y8 y9 y10 a7 a8 a9 a10 a11 a1 a12 a13 y11 a14 a15 a16 a17 y12 y13 y14 a18 a19 y15 y16 a20 a21 a22 y17 y18 y19 y20 a23 a24 a25 y21), (mp_arI E a1 0 300 f0)] (fun v w' => ∃ r1 : Int32, v = some (.int r1) ∧ 0 ≤ r1.toInt ∧ r1.toInt ≤ 5 ∧ (r1.toInt = (f0 (6 * x0.toInt.toNat + 0)).toInt) ∧ w' = [(mp_ob10 a0 y0 a2 a3 a4 a5 a6 y1 y2 y3 y4 y5 y6 y7 y8 y9 y10 a7 a8 a9 a10 a11 a1 a12 a13 y11 a14 a15 a16 a17 y12 y13 y14 a18 a19 y15 y16 a20 a21 a22 y17 y18 y19 y20 a23 a24 a25 y21), (mp_arI E a1 0 300 f0)]) := by
  refine mp_met false (by decide) (by decide) (Nat.le_of_ble_eq_true rfl) (fun X hF hQ => ?_)
  have hF : mp_F E X (RX10, cX10_of, 3, (0, 0, 0, 0), (some FieldType.int), false) := hF
  let w1_ : va_W := [(mp_ob10 a0 y0 a2 a3 a4 a5 a6 y1 y2 y3 y4 y5 y6 y7 y8 y9 y10 a7 a8 a9 a10 a11 a1 a12 a13 y11 a14 a15 a16 a17 y12 y13 y14 a18 a19 y15 y16 a20 a21 a22 y17 y18 y19 y20 a23 a24 a25 y21), (mp_arI E a1 0 300 f0)]
  show mp_W E X 3 0 [(0, .ref a0), (1, .int x0), (2, .int 0)] [] w1_ 0 0
  refine mp_run mp_k_cX10_of_ok hF mp_tabX10_ok [mp_i (.aload_n 0), mp_h (.getfield 47) [21, 0], mp_c (.bipush 6) 6, mp_i (.iload_n 1), mp_i .imul, mp_i (.iload_n 2), mp_i .iadd, mp_h .iaload [1]] (by decide +kernel) ?_
  refine And.intro rfl (And.intro rfl ?_)
  intro z_1 h_2
  have e_3 : z_1.toInt = 6 * x0.toInt := mp_mul (a := 6) (b := x0.toInt) h_2 (by decide) rfl (by (first | exact mp_o1152 l_x0 | omega)) (by (first | exact mp_o1152 l_x0 | omega))
  intro z_4 h_5
  have e_6 : z_4.toInt = z_1.toInt + 0 := mp_add (a := z_1.toInt) (b := 0) h_5 rfl (by decide) (by (first | exact mp_o1492 l_x0 e_3 | omega)) (by (first | exact mp_o1492 l_x0 e_3 | omega))
  refine And.intro rfl (And.intro rfl (And.intro (vp_in_iff.mpr (by (first | exact mp_o1493 l_x0 u_x0 e_3 e_6 | omega))) ?_))
  intro z_7 h_8
  have e_9 : 0 ≤ z_7.toInt ∧ z_7.toInt ≤ 5 := mp_res_ld h_8 p0 (by (first | exact mp_o1493 l_x0 u_x0 e_3 e_6 | omega)) (by (first | exact mp_o1493 l_x0 u_x0 e_3 e_6 | omega)) (by (first | exact mp_o1494 e_6 e_3 | omega))
  have e_10 : z_7.toInt = (f0 (6 * x0.toInt).toNat).toInt := mp_at_i h_8 (by (first | exact mp_o1495 l_x0 e_3 e_6 | omega))
  show mp_W E X 3 11 [(0, .ref a0), (1, .int x0), (2, .int 0)] [.int z_7] w1_ 0 0
  exact mp_iret hF hQ rfl rfl (Nat.le_of_ble_eq_true rfl) (Nat.le_of_ble_eq_true rfl) [0, 1] (w' := w1_) rfl rfl ⟨z_7, rfl, e_9.1, e_9.2, (mp_of_at h_8 (by (first | exact l_x0 | omega)) (by (first | exact mp_o1496 e_3 e_6 | omega))), rfl⟩ (by first | exact mp_fd_ok mp_k_cX10_of_ok (by decide +kernel) | decide +kernel)
set_option maxHeartbeats 4000000 in
set_option maxRecDepth 100000 in
theorem bX10_of_65 (E : mp_E) (a0 a1 a2 a3 a4 a5 a6 a7 a8 a9 a10 a11 a12 a13 a14 a15 a16 a17 a18 a19 a20 a21 a22 a23 a24 a25 : Nat) (f0 : Nat → Int32) (y0 : Int32) (y1 : Int32) (y2 : Int32) (y3 : Int32) (y4 : Int32) (y5 : Int32) (y6 : Int64) (y7 : Int32) (y8 : Int32) (y9 : Int32) (y10 : Int32) (y11 : Int32) (y12 : Int32) (y13 : Int32) (y14 : Int32) (y15 : Int32) (y16 : Int32) (y17 : Int32) (y18 : Int32) (y19 : Int32) (y20 : Int32) (y21 : Int32) (x0 : Int32) (p0 : mp_res f0 300 6 0 0 5) (p1 : mp_res f0 300 6 1 0 5) (p2 : mp_res f0 300 6 3 0 99) (p3 : mp_res f0 300 6 4 0 1) (l_x0 : 0 ≤ x0.toInt) (u_x0 : x0.toInt ≤ 9) (l_y1 : 0 ≤ y1.toInt) (u_y1 : y1.toInt ≤ 1600) (l_y2 : 0 ≤ y2.toInt) (u_y2 : y2.toInt ≤ 1600) (l_y3 : 0 ≤ y3.toInt) (u_y3 : y3.toInt ≤ 4) (l_y4 : 0 ≤ y4.toInt) (u_y4 : y4.toInt ≤ 1600) (l_y11 : 0 ≤ y11.toInt) (u_y11 : y11.toInt ≤ 99) (l_y12 : 0 ≤ y12.toInt) (u_y12 : y12.toInt ≤ 5) (l_y13 : 0 ≤ y13.toInt) (u_y13 : y13.toInt ≤ 12) : mp_Ct E yX10_of cX10_of 3 (some FieldType.int) 0 0 0 0 [.ref a0, .int x0, .int 4] [(mp_ob10 a0 y0 a2 a3 a4 a5 a6 y1 y2 y3 y4 y5 y6 y7 y8 y9 y10 a7 a8 a9 a10 a11 a1 a12 a13 y11 a14 a15 a16 a17 y12 y13 y14 a18 a19 y15 y16 a20 a21 a22 y17 y18 y19 y20 a23 a24 a25 y21), (mp_arI E a1 0 300 f0)] (fun v w' => ∃ r1 : Int32, v = some (.int r1) ∧ 0 ≤ r1.toInt ∧ r1.toInt ≤ 1 ∧ (r1.toInt = (f0 (6 * x0.toInt.toNat + 4)).toInt) ∧ w' = [(mp_ob10 a0 y0 a2 a3 a4 a5 a6 y1 y2 y3 y4 y5 y6 y7 y8 y9 y10 a7 a8 a9 a10 a11 a1 a12 a13 y11 a14 a15 a16 a17 y12 y13 y14 a18 a19 y15 y16 a20 a21 a22 y17 y18 y19 y20 a23 a24 a25 y21), (mp_arI E a1 0 300 f0)]) := by
  refine mp_met false (by decide) (by decide) (Nat.le_of_ble_eq_true rfl) (fun X hF hQ => ?_)
  have hF : mp_F E X (RX10, cX10_of, 3, (0, 0, 0, 0), (some FieldType.int), false) := hF
  let w1_ : va_W := [(mp_ob10 a0 y0 a2 a3 a4 a5 a6 y1 y2 y3 y4 y5 y6 y7 y8 y9 y10 a7 a8 a9 a10 a11 a1 a12 a13 y11 a14 a15 a16 a17 y12 y13 y14 a18 a19 y15 y16 a20 a21 a22 y17 y18 y19 y20 a23 a24 a25 y21), (mp_arI E a1 0 300 f0)]
  show mp_W E X 3 0 [(0, .ref a0), (1, .int x0), (2, .int 4)] [] w1_ 0 0
  refine mp_run mp_k_cX10_of_ok hF mp_tabX10_ok [mp_i (.aload_n 0), mp_h (.getfield 47) [21, 0], mp_c (.bipush 6) 6, mp_i (.iload_n 1), mp_i .imul, mp_i (.iload_n 2), mp_i .iadd, mp_h .iaload [1]] (by decide +kernel) ?_
  refine And.intro rfl (And.intro rfl ?_)
  intro z_1 h_2
  have e_3 : z_1.toInt = 6 * x0.toInt := mp_mul (a := 6) (b := x0.toInt) h_2 (by decide) rfl (by (first | exact mp_o1152 l_x0 | omega)) (by (first | exact mp_o1152 l_x0 | omega))
  intro z_4 h_5
  have e_6 : z_4.toInt = z_1.toInt + 4 := mp_add (a := z_1.toInt) (b := 4) h_5 rfl (by decide) (by (first | exact mp_o1497 l_x0 e_3 | omega)) (by (first | exact mp_o1497 l_x0 e_3 | omega))
  refine And.intro rfl (And.intro rfl (And.intro (vp_in_iff.mpr (by (first | exact mp_o1498 l_x0 u_x0 e_3 e_6 | omega))) ?_))
  intro z_7 h_8
  have e_9 : 0 ≤ z_7.toInt ∧ z_7.toInt ≤ 1 := mp_res_ld h_8 p3 (by (first | exact mp_o1498 l_x0 u_x0 e_3 e_6 | omega)) (by (first | exact mp_o1498 l_x0 u_x0 e_3 e_6 | omega)) (by (first | exact mp_o1250 e_6 e_3 | omega))
  have e_10 : z_7.toInt = (f0 (6 * x0.toInt + 4).toNat).toInt := mp_at_i h_8 (by (first | exact mp_o1499 l_x0 e_3 e_6 | omega))
  show mp_W E X 3 11 [(0, .ref a0), (1, .int x0), (2, .int 4)] [.int z_7] w1_ 0 0
  exact mp_iret hF hQ rfl rfl (Nat.le_of_ble_eq_true rfl) (Nat.le_of_ble_eq_true rfl) [0, 1] (w' := w1_) rfl rfl ⟨z_7, rfl, e_9.1, e_9.2, (mp_of_at h_8 (by (first | exact l_x0 | omega)) (by (first | exact mp_o1500 e_3 e_6 | omega))), rfl⟩ (by first | exact mp_fd_ok mp_k_cX10_of_ok (by decide +kernel) | decide +kernel)
set_option maxHeartbeats 4000000 in
set_option maxRecDepth 100000 in
theorem bX10_ownOf_66 (E : mp_E) (a0 a1 a2 a3 a4 a5 a6 a7 a8 a9 a10 a11 a12 a13 a14 a15 a16 a17 a18 a19 a20 a21 a22 a23 a24 a25 : Nat) (f0 : Nat → Int32) (f1 : Nat → Int32) (f2 : Nat → Int32) (y0 : Int32) (y1 : Int32) (y2 : Int32) (y3 : Int32) (y4 : Int32) (y5 : Int32) (y6 : Int64) (y7 : Int32) (y8 : Int32) (y9 : Int32) (y10 : Int32) (y11 : Int32) (y12 : Int32) (y13 : Int32) (y14 : Int32) (y15 : Int32) (y16 : Int32) (y17 : Int32) (y18 : Int32) (y19 : Int32) (y20 : Int32) (y21 : Int32) (x0 : Int32) (x1 : Int32) (p0 : mp_res f0 90 3 0 0 5) (p1 : mp_res f0 90 3 1 (-1) 99) (p2 : mp_res f1 300 6 0 0 5) (p3 : mp_res f1 300 6 1 0 5) (p4 : mp_res f1 300 6 3 0 99) (p5 : mp_res f1 300 6 4 0 1) (l_x0 : 0 ≤ x0.toInt) (u_x0 : x0.toInt ≤ 9) (l_x1 : 0 ≤ x1.toInt) (u_x1 : x1.toInt ≤ 139) (l_y1 : 0 ≤ y1.toInt) (u_y1 : y1.toInt ≤ 1600) (l_y2 : 0 ≤ y2.toInt) (u_y2 : y2.toInt ≤ 1600) (l_y3 : 0 ≤ y3.toInt) (u_y3 : y3.toInt ≤ 4) (l_y4 : 0 ≤ y4.toInt) (u_y4 : y4.toInt ≤ 1600) (l_y11 : 0 ≤ y11.toInt) (u_y11 : y11.toInt ≤ 99) (l_y12 : 0 ≤ y12.toInt) (u_y12 : y12.toInt ≤ 5) (l_y13 : 0 ≤ y13.toInt) (u_y13 : y13.toInt ≤ 12) : mp_Ct E yX10_ownOf cX10_ownOf 6 (some FieldType.int) 1 0 0 22 [.ref a0, .int x0, .int x1] [(mp_ob10 a0 y0 a4 a5 a6 a7 a8 y1 y2 y3 y4 y5 y6 y7 y8 y9 y10 a9 a10 a11 a12 a1 a2 a13 a14 y11 a15 a16 a17 a3 y12 y13 y14 a18 a19 y15 y16 a20 a21 a22 y17 y18 y19 y20 a23 a24 a25 y21), (mp_arI E a1 0 90 f0), (mp_arI E a2 0 300 f1), (mp_arI E a3 3 1500 f2)] (fun v w' => ∃ r1 : Int32, v = some (.int r1) ∧ (-237) ≤ r1.toInt ∧ r1.toInt ≤ 279 ∧ (mp_ownr f2 x0.toInt.toNat (f1 (6 * x0.toInt.toNat + 3)).toInt (f0 (3 * (f1 (6 * x0.toInt.toNat + 0)).toInt.toNat + 1)).toInt (f1 (6 * x0.toInt.toNat + 4)).toInt x1.toInt r1.toInt) ∧ w' = [(mp_ob10 a0 y0 a4 a5 a6 a7 a8 y1 y2 y3 y4 y5 y6 y7 y8 y9 y10 a9 a10 a11 a12 a1 a2 a13 a14 y11 a15 a16 a17 a3 y12 y13 y14 a18 a19 y15 y16 a20 a21 a22 y17 y18 y19 y20 a23 a24 a25 y21), (mp_arI E a1 0 90 f0), (mp_arI E a2 0 300 f1), (mp_arI E a3 3 1500 f2)]) := by
  refine mp_met false (by decide) (by decide) (Nat.le_of_ble_eq_true rfl) (fun X hF hQ => ?_)
  have hF : mp_F E X (RX10, cX10_ownOf, 6, (1, 0, 0, 22), (some FieldType.int), false) := hF
  let w1_ : va_W := [(mp_ob10 a0 y0 a4 a5 a6 a7 a8 y1 y2 y3 y4 y5 y6 y7 y8 y9 y10 a9 a10 a11 a12 a1 a2 a13 a14 y11 a15 a16 a17 a3 y12 y13 y14 a18 a19 y15 y16 a20 a21 a22 y17 y18 y19 y20 a23 a24 a25 y21), (mp_arI E a1 0 90 f0), (mp_arI E a2 0 300 f1), (mp_arI E a3 3 1500 f2)]
  show mp_W E X 6 0 [(0, .ref a0), (1, .int x0), (2, .int x1)] [] w1_ 0 0
  refine mp_run mp_k_cX10_ownOf_ok hF mp_tabX10_ok [mp_i (.iload_n 2), mp_i (.aload_n 0), mp_i (.iload_n 1), mp_c (.iconst 3) 3] (by decide +kernel) ?_
  show mp_W E X 6 4 [(0, .ref a0), (1, .int x0), (2, .int x1)] [.int 3, .int x0, .ref a0, .int x1] w1_ 0 0
  refine mp_callV hF (As := [.int x0, .int 3]) (rest := [.int x1]) (wr := [(mp_arI E a1 0 90 f0), (mp_arI E a3 3 1500 f2)]) (bX10_of_63 E a0 a2 a4 a5 a6 a7 a8 a9 a10 a11 a12 a1 a13 a14 a15 a16 a17 a3 a18 a19 a20 a21 a22 a23 a24 a25 f1 y0 y1 y2 y3 y4 y5 y6 y7 y8 y9 y10 y11 y12 y13 y14 y15 y16 y17 y18 y19 y20 y21 x0 p2 p3 p4 p5 l_x0 u_x0 l_y1 u_y1 l_y2 u_y2 l_y3 u_y3 l_y4 u_y4 l_y11 u_y11 l_y12 u_y12 l_y13 u_y13) mp_lkX10_267 0 rfl [0, 2] [1, 3] rfl rfl rfl rfl rfl ⟨(Nat.le_of_ble_eq_true rfl), (Nat.le_of_ble_eq_true rfl), (Nat.le_of_ble_eq_true rfl), (Nat.le_of_ble_eq_true rfl)⟩ (Nat.le_of_ble_eq_true rfl) (by first | exact mp_fd_ok mp_k_cX10_ownOf_ok (by decide +kernel) | decide +kernel) (fun v_1 w_2 h_3 => ?_)
  refine h_3.elim fun r_4 q_8 => q_8.elim fun e_9 q_10 => q_10.elim fun l_5 q_11 => q_11.elim fun u_6 q_12 => q_12.elim fun x_7 e_13 => ?_
  clear h_3 q_8 q_10 q_11 q_12
  subst e_9
  subst e_13
  let w2_ : va_W := [(mp_arI E a1 0 90 f0), (mp_arI E a3 3 1500 f2), (mp_ob10 a0 y0 a4 a5 a6 a7 a8 y1 y2 y3 y4 y5 y6 y7 y8 y9 y10 a9 a10 a11 a12 a1 a2 a13 a14 y11 a15 a16 a17 a3 y12 y13 y14 a18 a19 y15 y16 a20 a21 a22 y17 y18 y19 y20 a23 a24 a25 y21), (mp_arI E a2 0 300 f1)]
  show mp_W E X 6 7 [(0, .ref a0), (1, .int x0), (2, .int x1)] [.int r_4, .int x1] w2_ 0 0
  refine mp_run mp_k_cX10_ownOf_ok hF mp_tabX10_ok [mp_h (.if_icmp .ge 5) [12]] (by decide +kernel) ?_
  refine And.intro (fun c_14 => ?_) (fun c_14 => ?_)
  · have c_14 : r_4.toInt ≤ x1.toInt := c_14
    show mp_W E X 6 12 [(0, .ref a0), (1, .int x0), (2, .int x1)] [] w2_ 0 0
    refine mp_run mp_k_cX10_ownOf_ok hF mp_tabX10_ok [mp_i (.iload_n 2), mp_i (.istore_n 3)] (by decide +kernel) ?_
    show mp_W E X 6 14 [(3, .int x1), (0, .ref a0), (1, .int x0), (2, .int x1)] [] w2_ 0 0
    have lp_21 : ∀ (d_22 : Nat) (i_15 : Int32), 0 ≤ i_15.toInt → i_15.toInt ≤ 139 → (∀ j : Nat, i_15.toInt < (j : Int) → (j : Int) ≤ x1.toInt → (f2 (150 * x0.toInt.toNat + j)).toInt = 0) → ((f1 (6 * x0.toInt.toNat + 3)).toInt ≤ i_15.toInt) → (i_15.toInt ≤ x1.toInt) → i_15.toInt ≤ (d_22 : Int) → mp_W E X 6 14 [(3, .int i_15), (0, .ref a0), (1, .int x0), (2, .int x1)] [] [(mp_arI E a1 0 90 f0), (mp_arI E a3 3 1500 f2), (mp_ob10 a0 y0 a4 a5 a6 a7 a8 y1 y2 y3 y4 y5 y6 y7 y8 y9 y10 a9 a10 a11 a12 a1 a2 a13 a14 y11 a15 a16 a17 a3 y12 y13 y14 a18 a19 y15 y16 a20 a21 a22 y17 y18 y19 y20 a23 a24 a25 y21), (mp_arI E a2 0 300 f1)] 0 0 := by
      intro d_22
      induction d_22 using Nat.strongRecOn with
      | ind d_22 ih_23 =>
        intro i_15 l_16 u_17 x_18 x_19 x_20 hm_24
        refine mp_run mp_k_cX10_ownOf_ok hF mp_tabX10_ok [mp_i (.iload_n 3), mp_i (.aload_n 0), mp_i (.iload_n 1), mp_c (.iconst 3) 3] (by decide +kernel) ?_
        show mp_W E X 6 18 [(3, .int i_15), (0, .ref a0), (1, .int x0), (2, .int x1)] [.int 3, .int x0, .ref a0, .int i_15] w2_ 0 0
        refine mp_callV hF (As := [.int x0, .int 3]) (rest := [.int i_15]) (wr := [(mp_arI E a1 0 90 f0), (mp_arI E a3 3 1500 f2)]) (bX10_of_63 E a0 a2 a4 a5 a6 a7 a8 a9 a10 a11 a12 a1 a13 a14 a15 a16 a17 a3 a18 a19 a20 a21 a22 a23 a24 a25 f1 y0 y1 y2 y3 y4 y5 y6 y7 y8 y9 y10 y11 y12 y13 y14 y15 y16 y17 y18 y19 y20 y21 x0 p2 p3 p4 p5 l_x0 u_x0 l_y1 u_y1 l_y2 u_y2 l_y3 u_y3 l_y4 u_y4 l_y11 u_y11 l_y12 u_y12 l_y13 u_y13) mp_lkX10_267 2 rfl [2, 3] [0, 1] rfl rfl rfl rfl rfl ⟨(Nat.le_of_ble_eq_true rfl), (Nat.le_of_ble_eq_true rfl), (Nat.le_of_ble_eq_true rfl), (Nat.le_of_ble_eq_true rfl)⟩ (Nat.le_of_ble_eq_true rfl) (by first | exact mp_fd_ok mp_k_cX10_ownOf_ok (by decide +kernel) | decide +kernel) (fun v_25 w_26 h_27 => ?_)
        refine h_27.elim fun r_28 q_32 => q_32.elim fun e_33 q_34 => q_34.elim fun l_29 q_35 => q_35.elim fun u_30 q_36 => q_36.elim fun x_31 e_37 => ?_
        clear h_27 q_32 q_34 q_35 q_36
        subst e_33
        subst e_37
        show mp_W E X 6 21 [(3, .int i_15), (0, .ref a0), (1, .int x0), (2, .int x1)] [.int r_28, .int i_15] w2_ 0 0
        refine mp_run mp_k_cX10_ownOf_ok hF mp_tabX10_ok [mp_h (.if_icmp .le 24) [45]] (by decide +kernel) ?_
        refine And.intro (fun c_38 => ?_) (fun c_38 => ?_)
        · have c_38 : i_15.toInt ≤ r_28.toInt := c_38
          show mp_W E X 6 45 [(3, .int i_15), (0, .ref a0), (1, .int x0), (2, .int x1)] [] w2_ 0 0
          refine mp_run mp_k_cX10_ownOf_ok hF mp_tabX10_ok [mp_i (.iload_n 3), mp_i (.aload_n 0), mp_i (.iload_n 1), mp_c (.iconst 3) 3] (by decide +kernel) ?_
          show mp_W E X 6 49 [(3, .int i_15), (0, .ref a0), (1, .int x0), (2, .int x1)] [.int 3, .int x0, .ref a0, .int i_15] w2_ 0 0
          refine mp_callV hF (As := [.int x0, .int 3]) (rest := [.int i_15]) (wr := [(mp_arI E a1 0 90 f0), (mp_arI E a3 3 1500 f2)]) (bX10_of_63 E a0 a2 a4 a5 a6 a7 a8 a9 a10 a11 a12 a1 a13 a14 a15 a16 a17 a3 a18 a19 a20 a21 a22 a23 a24 a25 f1 y0 y1 y2 y3 y4 y5 y6 y7 y8 y9 y10 y11 y12 y13 y14 y15 y16 y17 y18 y19 y20 y21 x0 p2 p3 p4 p5 l_x0 u_x0 l_y1 u_y1 l_y2 u_y2 l_y3 u_y3 l_y4 u_y4 l_y11 u_y11 l_y12 u_y12 l_y13 u_y13) mp_lkX10_267 2 rfl [2, 3] [0, 1] rfl rfl rfl rfl rfl ⟨(Nat.le_of_ble_eq_true rfl), (Nat.le_of_ble_eq_true rfl), (Nat.le_of_ble_eq_true rfl), (Nat.le_of_ble_eq_true rfl)⟩ (Nat.le_of_ble_eq_true rfl) (by first | exact mp_fd_ok mp_k_cX10_ownOf_ok (by decide +kernel) | decide +kernel) (fun v_39 w_40 h_41 => ?_)
          refine h_41.elim fun r_42 q_46 => q_46.elim fun e_47 q_48 => q_48.elim fun l_43 q_49 => q_49.elim fun u_44 q_50 => q_50.elim fun x_45 e_51 => ?_
          clear h_41 q_46 q_48 q_49 q_50
          subst e_47
          subst e_51
          show mp_W E X 6 52 [(3, .int i_15), (0, .ref a0), (1, .int x0), (2, .int x1)] [.int r_42, .int i_15] w2_ 0 0
          refine mp_run mp_k_cX10_ownOf_ok hF mp_tabX10_ok [mp_h (.if_icmp .ne 22) [74]] (by decide +kernel) ?_
          refine And.intro (fun c_52 => ?_) (fun c_52 => ?_)
          · have c_52 : i_15.toInt ≠ r_42.toInt := c_52
            show mp_W E X 6 74 [(3, .int i_15), (0, .ref a0), (1, .int x0), (2, .int x1)] [] w2_ 0 0
            refine mp_run mp_k_cX10_ownOf_ok hF mp_tabX10_ok [mp_c (.iconst 0) 0, mp_i (.istore 4), mp_i (.aload_n 0), mp_h (.getfield 44) [20, 2], mp_c (.iconst 3) 3, mp_i (.aload_n 0), mp_i (.iload_n 1), mp_c (.iconst 0) 0] (by decide +kernel) ?_
            refine And.intro rfl (And.intro rfl ?_)
            show mp_W E X 6 85 [(4, .int 0), (3, .int i_15), (0, .ref a0), (1, .int x0), (2, .int x1)] [.int 0, .int x0, .ref a0, .int 3, .ref a1] w2_ 0 0
            refine mp_callV hF (As := [.int x0, .int 0]) (rest := [.int 3, .ref a1]) (wr := [(mp_arI E a1 0 90 f0), (mp_arI E a3 3 1500 f2)]) (bX10_of_64 E a0 a2 a4 a5 a6 a7 a8 a9 a10 a11 a12 a1 a13 a14 a15 a16 a17 a3 a18 a19 a20 a21 a22 a23 a24 a25 f1 y0 y1 y2 y3 y4 y5 y6 y7 y8 y9 y10 y11 y12 y13 y14 y15 y16 y17 y18 y19 y20 y21 x0 p2 p3 p4 p5 l_x0 u_x0 l_y1 u_y1 l_y2 u_y2 l_y3 u_y3 l_y4 u_y4 l_y11 u_y11 l_y12 u_y12 l_y13 u_y13) mp_lkX10_267 2 rfl [2, 3] [0, 1] rfl rfl rfl rfl rfl ⟨(Nat.le_of_ble_eq_true rfl), (Nat.le_of_ble_eq_true rfl), (Nat.le_of_ble_eq_true rfl), (Nat.le_of_ble_eq_true rfl)⟩ (Nat.le_of_ble_eq_true rfl) (by first | exact mp_fd_ok mp_k_cX10_ownOf_ok (by decide +kernel) | decide +kernel) (fun v_53 w_54 h_55 => ?_)
            refine h_55.elim fun r_56 q_60 => q_60.elim fun e_61 q_62 => q_62.elim fun l_57 q_63 => q_63.elim fun u_58 q_64 => q_64.elim fun x_59 e_65 => ?_
            clear h_55 q_60 q_62 q_63 q_64
            subst e_61
            subst e_65
            show mp_W E X 6 88 [(4, .int 0), (3, .int i_15), (0, .ref a0), (1, .int x0), (2, .int x1)] [.int r_56, .int 3, .ref a1] w2_ 0 0
            refine mp_run mp_k_cX10_ownOf_ok hF mp_tabX10_ok [mp_i .imul, mp_c (.iconst 1) 1, mp_i .iadd, mp_h .iaload [0], mp_i (.istore 5), mp_i (.iload_n 2), mp_i (.iload_n 3), mp_i .isub, mp_i (.iload 4), mp_h (.ifCond .eq 12) [111]] (by decide +kernel) ?_
            intro z_66 h_67
            have e_68 : z_66.toInt = 3 * r_56.toInt := mp_mul (a := 3) (b := r_56.toInt) h_67 (by decide) rfl (by omega) (by omega)
            intro z_69 h_70
            have e_71 : z_69.toInt = z_66.toInt + 1 := mp_add (a := z_66.toInt) (b := 1) h_70 rfl (by decide) (by omega) (by omega)
            refine And.intro rfl (And.intro rfl (And.intro (vp_in_iff.mpr (by omega)) ?_))
            intro z_72 h_73
            have e_74 : (-1) ≤ z_72.toInt ∧ z_72.toInt ≤ 99 := mp_res_ld h_73 p1 (by omega) (by omega) (by omega)
            have e_75 : z_72.toInt = (f0 (3 * (f1 (6 * x0.toInt.toNat + 0)).toInt.toNat + 1)).toInt := mp_at_i h_73 (by omega)
            intro z_76 h_77
            have e_78 : z_76.toInt = x1.toInt - i_15.toInt := mp_subi (a := x1.toInt) (b := i_15.toInt) h_77 rfl rfl (by omega) (by omega)
            refine And.intro (fun _ => ?_) (fun c_79 => absurd c_79 (by decide))
            show mp_W E X 6 111 [(5, .int z_72), (4, .int 0), (3, .int i_15), (0, .ref a0), (1, .int x0), (2, .int x1)] [.int z_76] w2_ 0 0
            refine mp_run mp_k_cX10_ownOf_ok hF mp_tabX10_ok [mp_c (.iconst 0) 0, mp_i .iadd, mp_i (.iload 5), mp_c (.iconst (-1)) (-1), mp_h (.if_icmp .eq 16) [132]] (by decide +kernel) ?_
            intro z_80 h_81
            have e_82 : z_80.toInt = z_76.toInt + 0 := mp_add (a := z_76.toInt) (b := 0) h_81 rfl (by decide) (by omega) (by omega)
            refine And.intro (fun c_83 => ?_) (fun c_83 => ?_)
            · have c_83 : z_72.toInt = (-1) := (congrArg Int32.toInt c_83)
              show mp_W E X 6 132 [(5, .int z_72), (4, .int 0), (3, .int i_15), (0, .ref a0), (1, .int x0), (2, .int x1)] [.int z_80] w2_ 0 0
              refine mp_run mp_k_cX10_ownOf_ok hF mp_tabX10_ok [mp_c (.iconst 0) 0, mp_i .iadd] (by decide +kernel) ?_
              intro z_84 h_85
              have e_86 : z_84.toInt = z_80.toInt + 0 := mp_add (a := z_80.toInt) (b := 0) h_85 rfl (by decide) (by omega) (by omega)
              show mp_W E X 6 134 [(5, .int z_72), (4, .int 0), (3, .int i_15), (0, .ref a0), (1, .int x0), (2, .int x1)] [.int z_84] w2_ 0 0
              exact mp_iret hF hQ rfl rfl (Nat.le_of_ble_eq_true rfl) (Nat.le_of_ble_eq_true rfl) [2, 0, 3, 1] (w' := w1_) rfl rfl ⟨z_84, rfl, (by omega), (by omega), (by first | exact mp_own_e (a := 0) (b := 0) x_18 (by omega) (by omega) (by omega) (fun q => by omega) (by first | exact Or.inl ⟨by omega, by omega, rfl⟩ | exact Or.inr ⟨by omega, rfl⟩) (by first | exact Or.inl ⟨by omega, by omega, rfl⟩ | exact Or.inr ⟨by omega, rfl⟩) (by omega) | exact mp_own_e (a := (f1 (6 * x0.toInt.toNat + 4)).toInt) (b := x1.toInt - (f0 (3 * (f1 (6 * x0.toInt.toNat + 0)).toInt.toNat + 1)).toInt) x_18 (by omega) (by omega) (by omega) (fun q => by omega) (by first | exact Or.inl ⟨by omega, by omega, rfl⟩ | exact Or.inr ⟨by omega, rfl⟩) (by first | exact Or.inl ⟨by omega, by omega, rfl⟩ | exact Or.inr ⟨by omega, rfl⟩) (by omega) | exact mp_own_e (a := (f1 (6 * x0.toInt.toNat + 4)).toInt) (b := 0) x_18 (by omega) (by omega) (by omega) (fun q => by omega) (by first | exact Or.inl ⟨by omega, by omega, rfl⟩ | exact Or.inr ⟨by omega, rfl⟩) (by first | exact Or.inl ⟨by omega, by omega, rfl⟩ | exact Or.inr ⟨by omega, rfl⟩) (by omega) | exact mp_own_e (a := 0) (b := x1.toInt - (f0 (3 * (f1 (6 * x0.toInt.toNat + 0)).toInt.toNat + 1)).toInt) x_18 (by omega) (by omega) (by omega) (fun q => by omega) (by first | exact Or.inl ⟨by omega, by omega, rfl⟩ | exact Or.inr ⟨by omega, rfl⟩) (by first | exact Or.inl ⟨by omega, by omega, rfl⟩ | exact Or.inr ⟨by omega, rfl⟩) (by omega)), rfl⟩ (by first | exact mp_fd_ok mp_k_cX10_ownOf_ok (by decide +kernel) | decide +kernel)
            · have c_83 : z_72.toInt ≠ (-1) := c_83
              show mp_W E X 6 119 [(5, .int z_72), (4, .int 0), (3, .int i_15), (0, .ref a0), (1, .int x0), (2, .int x1)] [.int z_80] w2_ 0 0
              refine mp_run mp_k_cX10_ownOf_ok hF mp_tabX10_ok [mp_i (.iload_n 2), mp_i (.iload 5), mp_h (.if_icmp .le 10) [132]] (by decide +kernel) ?_
              refine And.intro (fun c_87 => ?_) (fun c_87 => ?_)
              · have c_87 : x1.toInt ≤ z_72.toInt := c_87
                show mp_W E X 6 132 [(5, .int z_72), (4, .int 0), (3, .int i_15), (0, .ref a0), (1, .int x0), (2, .int x1)] [.int z_80] w2_ 0 0
                refine mp_run mp_k_cX10_ownOf_ok hF mp_tabX10_ok [mp_c (.iconst 0) 0, mp_i .iadd] (by decide +kernel) ?_
                intro z_88 h_89
                have e_90 : z_88.toInt = z_80.toInt + 0 := mp_add (a := z_80.toInt) (b := 0) h_89 rfl (by decide) (by omega) (by omega)
                show mp_W E X 6 134 [(5, .int z_72), (4, .int 0), (3, .int i_15), (0, .ref a0), (1, .int x0), (2, .int x1)] [.int z_88] w2_ 0 0
                exact mp_iret hF hQ rfl rfl (Nat.le_of_ble_eq_true rfl) (Nat.le_of_ble_eq_true rfl) [2, 0, 3, 1] (w' := w1_) rfl rfl ⟨z_88, rfl, (by omega), (by omega), (by first | exact mp_own_e (a := 0) (b := 0) x_18 (by omega) (by omega) (by omega) (fun q => by omega) (by first | exact Or.inl ⟨by omega, by omega, rfl⟩ | exact Or.inr ⟨by omega, rfl⟩) (by first | exact Or.inl ⟨by omega, by omega, rfl⟩ | exact Or.inr ⟨by omega, rfl⟩) (by omega) | exact mp_own_e (a := (f1 (6 * x0.toInt.toNat + 4)).toInt) (b := x1.toInt - (f0 (3 * (f1 (6 * x0.toInt.toNat + 0)).toInt.toNat + 1)).toInt) x_18 (by omega) (by omega) (by omega) (fun q => by omega) (by first | exact Or.inl ⟨by omega, by omega, rfl⟩ | exact Or.inr ⟨by omega, rfl⟩) (by first | exact Or.inl ⟨by omega, by omega, rfl⟩ | exact Or.inr ⟨by omega, rfl⟩) (by omega) | exact mp_own_e (a := (f1 (6 * x0.toInt.toNat + 4)).toInt) (b := 0) x_18 (by omega) (by omega) (by omega) (fun q => by omega) (by first | exact Or.inl ⟨by omega, by omega, rfl⟩ | exact Or.inr ⟨by omega, rfl⟩) (by first | exact Or.inl ⟨by omega, by omega, rfl⟩ | exact Or.inr ⟨by omega, rfl⟩) (by omega) | exact mp_own_e (a := 0) (b := x1.toInt - (f0 (3 * (f1 (6 * x0.toInt.toNat + 0)).toInt.toNat + 1)).toInt) x_18 (by omega) (by omega) (by omega) (fun q => by omega) (by first | exact Or.inl ⟨by omega, by omega, rfl⟩ | exact Or.inr ⟨by omega, rfl⟩) (by first | exact Or.inl ⟨by omega, by omega, rfl⟩ | exact Or.inr ⟨by omega, rfl⟩) (by omega)), rfl⟩ (by first | exact mp_fd_ok mp_k_cX10_ownOf_ok (by decide +kernel) | decide +kernel)
              · have c_87 : z_72.toInt < x1.toInt := c_87
                show mp_W E X 6 125 [(5, .int z_72), (4, .int 0), (3, .int i_15), (0, .ref a0), (1, .int x0), (2, .int x1)] [.int z_80] w2_ 0 0
                refine mp_run mp_k_cX10_ownOf_ok hF mp_tabX10_ok [mp_i (.iload_n 2), mp_i (.iload 5), mp_i .isub, mp_h (.goto 4) [133], mp_i .iadd] (by decide +kernel) ?_
                intro z_91 h_92
                have e_93 : z_91.toInt = x1.toInt - z_72.toInt := mp_subi (a := x1.toInt) (b := z_72.toInt) h_92 rfl rfl (by omega) (by omega)
                intro z_94 h_95
                have e_96 : z_94.toInt = z_80.toInt + z_91.toInt := mp_add (a := z_80.toInt) (b := z_91.toInt) h_95 rfl rfl (by omega) (by omega)
                show mp_W E X 6 134 [(5, .int z_72), (4, .int 0), (3, .int i_15), (0, .ref a0), (1, .int x0), (2, .int x1)] [.int z_94] w2_ 0 0
                exact mp_iret hF hQ rfl rfl (Nat.le_of_ble_eq_true rfl) (Nat.le_of_ble_eq_true rfl) [2, 0, 3, 1] (w' := w1_) rfl rfl ⟨z_94, rfl, (by omega), (by omega), (by first | exact mp_own_e (a := 0) (b := x1.toInt - (f0 (3 * (f1 (6 * x0.toInt.toNat + 0)).toInt.toNat + 1)).toInt) x_18 (by omega) (by omega) (by omega) (fun q => by omega) (by first | exact Or.inl ⟨by omega, by omega, rfl⟩ | exact Or.inr ⟨by omega, rfl⟩) (by first | exact Or.inl ⟨by omega, by omega, rfl⟩ | exact Or.inr ⟨by omega, rfl⟩) (by omega) | exact mp_own_e (a := (f1 (6 * x0.toInt.toNat + 4)).toInt) (b := x1.toInt - (f0 (3 * (f1 (6 * x0.toInt.toNat + 0)).toInt.toNat + 1)).toInt) x_18 (by omega) (by omega) (by omega) (fun q => by omega) (by first | exact Or.inl ⟨by omega, by omega, rfl⟩ | exact Or.inr ⟨by omega, rfl⟩) (by first | exact Or.inl ⟨by omega, by omega, rfl⟩ | exact Or.inr ⟨by omega, rfl⟩) (by omega) | exact mp_own_e (a := (f1 (6 * x0.toInt.toNat + 4)).toInt) (b := 0) x_18 (by omega) (by omega) (by omega) (fun q => by omega) (by first | exact Or.inl ⟨by omega, by omega, rfl⟩ | exact Or.inr ⟨by omega, rfl⟩) (by first | exact Or.inl ⟨by omega, by omega, rfl⟩ | exact Or.inr ⟨by omega, rfl⟩) (by omega) | exact mp_own_e (a := 0) (b := 0) x_18 (by omega) (by omega) (by omega) (fun q => by omega) (by first | exact Or.inl ⟨by omega, by omega, rfl⟩ | exact Or.inr ⟨by omega, rfl⟩) (by first | exact Or.inl ⟨by omega, by omega, rfl⟩ | exact Or.inr ⟨by omega, rfl⟩) (by omega)), rfl⟩ (by first | exact mp_fd_ok mp_k_cX10_ownOf_ok (by decide +kernel) | decide +kernel)
          · have c_52 : i_15.toInt = r_42.toInt := (congrArg Int32.toInt c_52)
            show mp_W E X 6 55 [(3, .int i_15), (0, .ref a0), (1, .int x0), (2, .int x1)] [] w2_ 0 0
            refine mp_run mp_k_cX10_ownOf_ok hF mp_tabX10_ok [mp_i (.aload_n 0), mp_h (.getfield 65) [28, 2], mp_c (.sipush 150) 150, mp_i (.iload_n 1), mp_i .imul, mp_i (.iload_n 3), mp_i .iadd, mp_h .baload [1, 0], mp_h (.ifCond .ne 7) [74]] (by decide +kernel) ?_
            refine And.intro rfl (And.intro rfl ?_)
            intro z_97 h_98
            have e_99 : z_97.toInt = 150 * x0.toInt := mp_mul (a := 150) (b := x0.toInt) h_98 (by decide) rfl (by omega) (by omega)
            intro z_100 h_101
            have e_102 : z_100.toInt = z_97.toInt + i_15.toInt := mp_add (a := z_97.toInt) (b := i_15.toInt) h_101 rfl rfl (by omega) (by omega)
            refine And.intro rfl (And.intro rfl (And.intro (vp_in_iff.mpr (by omega)) ?_))
            intro z_103 h_104
            have e_106 : z_103.toInt = (f2 (150 * x0.toInt.toNat + i_15.toInt.toNat)).toInt := mp_at_i h_104 (by omega)
            refine And.intro (fun c_107 => ?_) (fun c_107 => ?_)
            · have c_107 : z_103.toInt ≠ 0 := c_107
              show mp_W E X 6 74 [(3, .int i_15), (0, .ref a0), (1, .int x0), (2, .int x1)] [] w2_ 0 0
              refine mp_run mp_k_cX10_ownOf_ok hF mp_tabX10_ok [mp_c (.iconst 0) 0, mp_i (.istore 4), mp_i (.aload_n 0), mp_h (.getfield 44) [20, 2], mp_c (.iconst 3) 3, mp_i (.aload_n 0), mp_i (.iload_n 1), mp_c (.iconst 0) 0] (by decide +kernel) ?_
              refine And.intro rfl (And.intro rfl ?_)
              show mp_W E X 6 85 [(4, .int 0), (3, .int i_15), (0, .ref a0), (1, .int x0), (2, .int x1)] [.int 0, .int x0, .ref a0, .int 3, .ref a1] w2_ 0 0
              refine mp_callV hF (As := [.int x0, .int 0]) (rest := [.int 3, .ref a1]) (wr := [(mp_arI E a1 0 90 f0), (mp_arI E a3 3 1500 f2)]) (bX10_of_64 E a0 a2 a4 a5 a6 a7 a8 a9 a10 a11 a12 a1 a13 a14 a15 a16 a17 a3 a18 a19 a20 a21 a22 a23 a24 a25 f1 y0 y1 y2 y3 y4 y5 y6 y7 y8 y9 y10 y11 y12 y13 y14 y15 y16 y17 y18 y19 y20 y21 x0 p2 p3 p4 p5 l_x0 u_x0 l_y1 u_y1 l_y2 u_y2 l_y3 u_y3 l_y4 u_y4 l_y11 u_y11 l_y12 u_y12 l_y13 u_y13) mp_lkX10_267 2 rfl [2, 3] [0, 1] rfl rfl rfl rfl rfl ⟨(Nat.le_of_ble_eq_true rfl), (Nat.le_of_ble_eq_true rfl), (Nat.le_of_ble_eq_true rfl), (Nat.le_of_ble_eq_true rfl)⟩ (Nat.le_of_ble_eq_true rfl) (by first | exact mp_fd_ok mp_k_cX10_ownOf_ok (by decide +kernel) | decide +kernel) (fun v_108 w_109 h_110 => ?_)
              refine h_110.elim fun r_111 q_115 => q_115.elim fun e_116 q_117 => q_117.elim fun l_112 q_118 => q_118.elim fun u_113 q_119 => q_119.elim fun x_114 e_120 => ?_
              clear h_110 q_115 q_117 q_118 q_119
              subst e_116
              subst e_120
              show mp_W E X 6 88 [(4, .int 0), (3, .int i_15), (0, .ref a0), (1, .int x0), (2, .int x1)] [.int r_111, .int 3, .ref a1] w2_ 0 0
              refine mp_run mp_k_cX10_ownOf_ok hF mp_tabX10_ok [mp_i .imul, mp_c (.iconst 1) 1, mp_i .iadd, mp_h .iaload [0], mp_i (.istore 5), mp_i (.iload_n 2), mp_i (.iload_n 3), mp_i .isub, mp_i (.iload 4), mp_h (.ifCond .eq 12) [111]] (by decide +kernel) ?_
              intro z_121 h_122
              have e_123 : z_121.toInt = 3 * r_111.toInt := mp_mul (a := 3) (b := r_111.toInt) h_122 (by decide) rfl (by omega) (by omega)
              intro z_124 h_125
              have e_126 : z_124.toInt = z_121.toInt + 1 := mp_add (a := z_121.toInt) (b := 1) h_125 rfl (by decide) (by omega) (by omega)
              refine And.intro rfl (And.intro rfl (And.intro (vp_in_iff.mpr (by omega)) ?_))
              intro z_127 h_128
              have e_129 : (-1) ≤ z_127.toInt ∧ z_127.toInt ≤ 99 := mp_res_ld h_128 p1 (by omega) (by omega) (by omega)
              have e_130 : z_127.toInt = (f0 (3 * (f1 (6 * x0.toInt.toNat + 0)).toInt.toNat + 1)).toInt := mp_at_i h_128 (by omega)
              intro z_131 h_132
              have e_133 : z_131.toInt = x1.toInt - i_15.toInt := mp_subi (a := x1.toInt) (b := i_15.toInt) h_132 rfl rfl (by omega) (by omega)
              refine And.intro (fun _ => ?_) (fun c_134 => absurd c_134 (by decide))
              show mp_W E X 6 111 [(5, .int z_127), (4, .int 0), (3, .int i_15), (0, .ref a0), (1, .int x0), (2, .int x1)] [.int z_131] w2_ 0 0
              refine mp_run mp_k_cX10_ownOf_ok hF mp_tabX10_ok [mp_c (.iconst 0) 0, mp_i .iadd, mp_i (.iload 5), mp_c (.iconst (-1)) (-1), mp_h (.if_icmp .eq 16) [132]] (by decide +kernel) ?_
              intro z_135 h_136
              have e_137 : z_135.toInt = z_131.toInt + 0 := mp_add (a := z_131.toInt) (b := 0) h_136 rfl (by decide) (by omega) (by omega)
              refine And.intro (fun c_138 => ?_) (fun c_138 => ?_)
              · have c_138 : z_127.toInt = (-1) := (congrArg Int32.toInt c_138)
                show mp_W E X 6 132 [(5, .int z_127), (4, .int 0), (3, .int i_15), (0, .ref a0), (1, .int x0), (2, .int x1)] [.int z_135] w2_ 0 0
                refine mp_run mp_k_cX10_ownOf_ok hF mp_tabX10_ok [mp_c (.iconst 0) 0, mp_i .iadd] (by decide +kernel) ?_
                intro z_139 h_140
                have e_141 : z_139.toInt = z_135.toInt + 0 := mp_add (a := z_135.toInt) (b := 0) h_140 rfl (by decide) (by omega) (by omega)
                show mp_W E X 6 134 [(5, .int z_127), (4, .int 0), (3, .int i_15), (0, .ref a0), (1, .int x0), (2, .int x1)] [.int z_139] w2_ 0 0
                exact mp_iret hF hQ rfl rfl (Nat.le_of_ble_eq_true rfl) (Nat.le_of_ble_eq_true rfl) [2, 0, 3, 1] (w' := w1_) rfl rfl ⟨z_139, rfl, (by omega), (by omega), (by first | exact mp_own_e (a := 0) (b := 0) x_18 (by omega) (by omega) (by omega) (fun q => by omega) (by first | exact Or.inl ⟨by omega, by omega, rfl⟩ | exact Or.inr ⟨by omega, rfl⟩) (by first | exact Or.inl ⟨by omega, by omega, rfl⟩ | exact Or.inr ⟨by omega, rfl⟩) (by omega) | exact mp_own_e (a := (f1 (6 * x0.toInt.toNat + 4)).toInt) (b := x1.toInt - (f0 (3 * (f1 (6 * x0.toInt.toNat + 0)).toInt.toNat + 1)).toInt) x_18 (by omega) (by omega) (by omega) (fun q => by omega) (by first | exact Or.inl ⟨by omega, by omega, rfl⟩ | exact Or.inr ⟨by omega, rfl⟩) (by first | exact Or.inl ⟨by omega, by omega, rfl⟩ | exact Or.inr ⟨by omega, rfl⟩) (by omega) | exact mp_own_e (a := (f1 (6 * x0.toInt.toNat + 4)).toInt) (b := 0) x_18 (by omega) (by omega) (by omega) (fun q => by omega) (by first | exact Or.inl ⟨by omega, by omega, rfl⟩ | exact Or.inr ⟨by omega, rfl⟩) (by first | exact Or.inl ⟨by omega, by omega, rfl⟩ | exact Or.inr ⟨by omega, rfl⟩) (by omega) | exact mp_own_e (a := 0) (b := x1.toInt - (f0 (3 * (f1 (6 * x0.toInt.toNat + 0)).toInt.toNat + 1)).toInt) x_18 (by omega) (by omega) (by omega) (fun q => by omega) (by first | exact Or.inl ⟨by omega, by omega, rfl⟩ | exact Or.inr ⟨by omega, rfl⟩) (by first | exact Or.inl ⟨by omega, by omega, rfl⟩ | exact Or.inr ⟨by omega, rfl⟩) (by omega)), rfl⟩ (by first | exact mp_fd_ok mp_k_cX10_ownOf_ok (by decide +kernel) | decide +kernel)
              · have c_138 : z_127.toInt ≠ (-1) := c_138
                show mp_W E X 6 119 [(5, .int z_127), (4, .int 0), (3, .int i_15), (0, .ref a0), (1, .int x0), (2, .int x1)] [.int z_135] w2_ 0 0
                refine mp_run mp_k_cX10_ownOf_ok hF mp_tabX10_ok [mp_i (.iload_n 2), mp_i (.iload 5), mp_h (.if_icmp .le 10) [132]] (by decide +kernel) ?_
                refine And.intro (fun c_142 => ?_) (fun c_142 => ?_)
                · have c_142 : x1.toInt ≤ z_127.toInt := c_142
                  show mp_W E X 6 132 [(5, .int z_127), (4, .int 0), (3, .int i_15), (0, .ref a0), (1, .int x0), (2, .int x1)] [.int z_135] w2_ 0 0
                  refine mp_run mp_k_cX10_ownOf_ok hF mp_tabX10_ok [mp_c (.iconst 0) 0, mp_i .iadd] (by decide +kernel) ?_
                  intro z_143 h_144
                  have e_145 : z_143.toInt = z_135.toInt + 0 := mp_add (a := z_135.toInt) (b := 0) h_144 rfl (by decide) (by omega) (by omega)
                  show mp_W E X 6 134 [(5, .int z_127), (4, .int 0), (3, .int i_15), (0, .ref a0), (1, .int x0), (2, .int x1)] [.int z_143] w2_ 0 0
                  exact mp_iret hF hQ rfl rfl (Nat.le_of_ble_eq_true rfl) (Nat.le_of_ble_eq_true rfl) [2, 0, 3, 1] (w' := w1_) rfl rfl ⟨z_143, rfl, (by omega), (by omega), (by first | exact mp_own_e (a := 0) (b := 0) x_18 (by omega) (by omega) (by omega) (fun q => by omega) (by first | exact Or.inl ⟨by omega, by omega, rfl⟩ | exact Or.inr ⟨by omega, rfl⟩) (by first | exact Or.inl ⟨by omega, by omega, rfl⟩ | exact Or.inr ⟨by omega, rfl⟩) (by omega) | exact mp_own_e (a := (f1 (6 * x0.toInt.toNat + 4)).toInt) (b := x1.toInt - (f0 (3 * (f1 (6 * x0.toInt.toNat + 0)).toInt.toNat + 1)).toInt) x_18 (by omega) (by omega) (by omega) (fun q => by omega) (by first | exact Or.inl ⟨by omega, by omega, rfl⟩ | exact Or.inr ⟨by omega, rfl⟩) (by first | exact Or.inl ⟨by omega, by omega, rfl⟩ | exact Or.inr ⟨by omega, rfl⟩) (by omega) | exact mp_own_e (a := (f1 (6 * x0.toInt.toNat + 4)).toInt) (b := 0) x_18 (by omega) (by omega) (by omega) (fun q => by omega) (by first | exact Or.inl ⟨by omega, by omega, rfl⟩ | exact Or.inr ⟨by omega, rfl⟩) (by first | exact Or.inl ⟨by omega, by omega, rfl⟩ | exact Or.inr ⟨by omega, rfl⟩) (by omega) | exact mp_own_e (a := 0) (b := x1.toInt - (f0 (3 * (f1 (6 * x0.toInt.toNat + 0)).toInt.toNat + 1)).toInt) x_18 (by omega) (by omega) (by omega) (fun q => by omega) (by first | exact Or.inl ⟨by omega, by omega, rfl⟩ | exact Or.inr ⟨by omega, rfl⟩) (by first | exact Or.inl ⟨by omega, by omega, rfl⟩ | exact Or.inr ⟨by omega, rfl⟩) (by omega)), rfl⟩ (by first | exact mp_fd_ok mp_k_cX10_ownOf_ok (by decide +kernel) | decide +kernel)
                · have c_142 : z_127.toInt < x1.toInt := c_142
                  show mp_W E X 6 125 [(5, .int z_127), (4, .int 0), (3, .int i_15), (0, .ref a0), (1, .int x0), (2, .int x1)] [.int z_135] w2_ 0 0
                  refine mp_run mp_k_cX10_ownOf_ok hF mp_tabX10_ok [mp_i (.iload_n 2), mp_i (.iload 5), mp_i .isub, mp_h (.goto 4) [133], mp_i .iadd] (by decide +kernel) ?_
                  intro z_146 h_147
                  have e_148 : z_146.toInt = x1.toInt - z_127.toInt := mp_subi (a := x1.toInt) (b := z_127.toInt) h_147 rfl rfl (by omega) (by omega)
                  intro z_149 h_150
                  have e_151 : z_149.toInt = z_135.toInt + z_146.toInt := mp_add (a := z_135.toInt) (b := z_146.toInt) h_150 rfl rfl (by omega) (by omega)
                  show mp_W E X 6 134 [(5, .int z_127), (4, .int 0), (3, .int i_15), (0, .ref a0), (1, .int x0), (2, .int x1)] [.int z_149] w2_ 0 0
                  exact mp_iret hF hQ rfl rfl (Nat.le_of_ble_eq_true rfl) (Nat.le_of_ble_eq_true rfl) [2, 0, 3, 1] (w' := w1_) rfl rfl ⟨z_149, rfl, (by omega), (by omega), (by first | exact mp_own_e (a := 0) (b := x1.toInt - (f0 (3 * (f1 (6 * x0.toInt.toNat + 0)).toInt.toNat + 1)).toInt) x_18 (by omega) (by omega) (by omega) (fun q => by omega) (by first | exact Or.inl ⟨by omega, by omega, rfl⟩ | exact Or.inr ⟨by omega, rfl⟩) (by first | exact Or.inl ⟨by omega, by omega, rfl⟩ | exact Or.inr ⟨by omega, rfl⟩) (by omega) | exact mp_own_e (a := (f1 (6 * x0.toInt.toNat + 4)).toInt) (b := x1.toInt - (f0 (3 * (f1 (6 * x0.toInt.toNat + 0)).toInt.toNat + 1)).toInt) x_18 (by omega) (by omega) (by omega) (fun q => by omega) (by first | exact Or.inl ⟨by omega, by omega, rfl⟩ | exact Or.inr ⟨by omega, rfl⟩) (by first | exact Or.inl ⟨by omega, by omega, rfl⟩ | exact Or.inr ⟨by omega, rfl⟩) (by omega) | exact mp_own_e (a := (f1 (6 * x0.toInt.toNat + 4)).toInt) (b := 0) x_18 (by omega) (by omega) (by omega) (fun q => by omega) (by first | exact Or.inl ⟨by omega, by omega, rfl⟩ | exact Or.inr ⟨by omega, rfl⟩) (by first | exact Or.inl ⟨by omega, by omega, rfl⟩ | exact Or.inr ⟨by omega, rfl⟩) (by omega) | exact mp_own_e (a := 0) (b := 0) x_18 (by omega) (by omega) (by omega) (fun q => by omega) (by first | exact Or.inl ⟨by omega, by omega, rfl⟩ | exact Or.inr ⟨by omega, rfl⟩) (by first | exact Or.inl ⟨by omega, by omega, rfl⟩ | exact Or.inr ⟨by omega, rfl⟩) (by omega)), rfl⟩ (by first | exact mp_fd_ok mp_k_cX10_ownOf_ok (by decide +kernel) | decide +kernel)
            · have c_107 : z_103.toInt = 0 := (congrArg Int32.toInt c_107)
              show mp_W E X 6 70 [(3, .int i_15), (0, .ref a0), (1, .int x0), (2, .int x1)] [] w2_ 0 0
              refine mp_run mp_k_cX10_ownOf_ok hF mp_tabX10_ok [mp_c (.iconst 1) 1, mp_h (.goto 4) [75], mp_i (.istore 4), mp_i (.aload_n 0), mp_h (.getfield 44) [20, 2], mp_c (.iconst 3) 3, mp_i (.aload_n 0), mp_i (.iload_n 1), mp_c (.iconst 0) 0] (by decide +kernel) ?_
              refine And.intro rfl (And.intro rfl ?_)
              show mp_W E X 6 85 [(4, .int 1), (3, .int i_15), (0, .ref a0), (1, .int x0), (2, .int x1)] [.int 0, .int x0, .ref a0, .int 3, .ref a1] w2_ 0 0
              refine mp_callV hF (As := [.int x0, .int 0]) (rest := [.int 3, .ref a1]) (wr := [(mp_arI E a1 0 90 f0), (mp_arI E a3 3 1500 f2)]) (bX10_of_64 E a0 a2 a4 a5 a6 a7 a8 a9 a10 a11 a12 a1 a13 a14 a15 a16 a17 a3 a18 a19 a20 a21 a22 a23 a24 a25 f1 y0 y1 y2 y3 y4 y5 y6 y7 y8 y9 y10 y11 y12 y13 y14 y15 y16 y17 y18 y19 y20 y21 x0 p2 p3 p4 p5 l_x0 u_x0 l_y1 u_y1 l_y2 u_y2 l_y3 u_y3 l_y4 u_y4 l_y11 u_y11 l_y12 u_y12 l_y13 u_y13) mp_lkX10_267 2 rfl [2, 3] [0, 1] rfl rfl rfl rfl rfl ⟨(Nat.le_of_ble_eq_true rfl), (Nat.le_of_ble_eq_true rfl), (Nat.le_of_ble_eq_true rfl), (Nat.le_of_ble_eq_true rfl)⟩ (Nat.le_of_ble_eq_true rfl) (by first | exact mp_fd_ok mp_k_cX10_ownOf_ok (by decide +kernel) | decide +kernel) (fun v_152 w_153 h_154 => ?_)
              refine h_154.elim fun r_155 q_159 => q_159.elim fun e_160 q_161 => q_161.elim fun l_156 q_162 => q_162.elim fun u_157 q_163 => q_163.elim fun x_158 e_164 => ?_
              clear h_154 q_159 q_161 q_162 q_163
              subst e_160
              subst e_164
              show mp_W E X 6 88 [(4, .int 1), (3, .int i_15), (0, .ref a0), (1, .int x0), (2, .int x1)] [.int r_155, .int 3, .ref a1] w2_ 0 0
              refine mp_run mp_k_cX10_ownOf_ok hF mp_tabX10_ok [mp_i .imul, mp_c (.iconst 1) 1, mp_i .iadd, mp_h .iaload [0], mp_i (.istore 5), mp_i (.iload_n 2), mp_i (.iload_n 3), mp_i .isub, mp_i (.iload 4), mp_h (.ifCond .eq 12) [111]] (by decide +kernel) ?_
              intro z_165 h_166
              have e_167 : z_165.toInt = 3 * r_155.toInt := mp_mul (a := 3) (b := r_155.toInt) h_166 (by decide) rfl (by omega) (by omega)
              intro z_168 h_169
              have e_170 : z_168.toInt = z_165.toInt + 1 := mp_add (a := z_165.toInt) (b := 1) h_169 rfl (by decide) (by omega) (by omega)
              refine And.intro rfl (And.intro rfl (And.intro (vp_in_iff.mpr (by omega)) ?_))
              intro z_171 h_172
              have e_173 : (-1) ≤ z_171.toInt ∧ z_171.toInt ≤ 99 := mp_res_ld h_172 p1 (by omega) (by omega) (by omega)
              have e_174 : z_171.toInt = (f0 (3 * (f1 (6 * x0.toInt.toNat + 0)).toInt.toNat + 1)).toInt := mp_at_i h_172 (by omega)
              intro z_175 h_176
              have e_177 : z_175.toInt = x1.toInt - i_15.toInt := mp_subi (a := x1.toInt) (b := i_15.toInt) h_176 rfl rfl (by omega) (by omega)
              refine And.intro (fun c_178 => absurd c_178 (by decide)) (fun _ => ?_)
              show mp_W E X 6 102 [(5, .int z_171), (4, .int 1), (3, .int i_15), (0, .ref a0), (1, .int x0), (2, .int x1)] [.int z_175] w2_ 0 0
              refine mp_run mp_k_cX10_ownOf_ok hF mp_tabX10_ok [mp_i (.aload_n 0), mp_i (.iload_n 1), mp_c (.iconst 4) 4] (by decide +kernel) ?_
              show mp_W E X 6 105 [(5, .int z_171), (4, .int 1), (3, .int i_15), (0, .ref a0), (1, .int x0), (2, .int x1)] [.int 4, .int x0, .ref a0, .int z_175] w2_ 0 0
              refine mp_callV hF (As := [.int x0, .int 4]) (rest := [.int z_175]) (wr := [(mp_arI E a1 0 90 f0), (mp_arI E a3 3 1500 f2)]) (bX10_of_65 E a0 a2 a4 a5 a6 a7 a8 a9 a10 a11 a12 a1 a13 a14 a15 a16 a17 a3 a18 a19 a20 a21 a22 a23 a24 a25 f1 y0 y1 y2 y3 y4 y5 y6 y7 y8 y9 y10 y11 y12 y13 y14 y15 y16 y17 y18 y19 y20 y21 x0 p2 p3 p4 p5 l_x0 u_x0 l_y1 u_y1 l_y2 u_y2 l_y3 u_y3 l_y4 u_y4 l_y11 u_y11 l_y12 u_y12 l_y13 u_y13) mp_lkX10_267 2 rfl [2, 3] [0, 1] rfl rfl rfl rfl rfl ⟨(Nat.le_of_ble_eq_true rfl), (Nat.le_of_ble_eq_true rfl), (Nat.le_of_ble_eq_true rfl), (Nat.le_of_ble_eq_true rfl)⟩ (Nat.le_of_ble_eq_true rfl) (by first | exact mp_fd_ok mp_k_cX10_ownOf_ok (by decide +kernel) | decide +kernel) (fun v_179 w_180 h_181 => ?_)
              refine h_181.elim fun r_182 q_186 => q_186.elim fun e_187 q_188 => q_188.elim fun l_183 q_189 => q_189.elim fun u_184 q_190 => q_190.elim fun x_185 e_191 => ?_
              clear h_181 q_186 q_188 q_189 q_190
              subst e_187
              subst e_191
              show mp_W E X 6 108 [(5, .int z_171), (4, .int 1), (3, .int i_15), (0, .ref a0), (1, .int x0), (2, .int x1)] [.int r_182, .int z_175] w2_ 0 0
              refine mp_run mp_k_cX10_ownOf_ok hF mp_tabX10_ok [mp_h (.goto 4) [112], mp_i .iadd, mp_i (.iload 5), mp_c (.iconst (-1)) (-1), mp_h (.if_icmp .eq 16) [132]] (by decide +kernel) ?_
              intro z_192 h_193
              have e_194 : z_192.toInt = z_175.toInt + r_182.toInt := mp_add (a := z_175.toInt) (b := r_182.toInt) h_193 rfl rfl (by omega) (by omega)
              refine And.intro (fun c_195 => ?_) (fun c_195 => ?_)
              · have c_195 : z_171.toInt = (-1) := (congrArg Int32.toInt c_195)
                show mp_W E X 6 132 [(5, .int z_171), (4, .int 1), (3, .int i_15), (0, .ref a0), (1, .int x0), (2, .int x1)] [.int z_192] w2_ 0 0
                refine mp_run mp_k_cX10_ownOf_ok hF mp_tabX10_ok [mp_c (.iconst 0) 0, mp_i .iadd] (by decide +kernel) ?_
                intro z_196 h_197
                have e_198 : z_196.toInt = z_192.toInt + 0 := mp_add (a := z_192.toInt) (b := 0) h_197 rfl (by decide) (by omega) (by omega)
                show mp_W E X 6 134 [(5, .int z_171), (4, .int 1), (3, .int i_15), (0, .ref a0), (1, .int x0), (2, .int x1)] [.int z_196] w2_ 0 0
                exact mp_iret hF hQ rfl rfl (Nat.le_of_ble_eq_true rfl) (Nat.le_of_ble_eq_true rfl) [2, 0, 3, 1] (w' := w1_) rfl rfl ⟨z_196, rfl, (by omega), (by omega), (by first | exact mp_own_e (a := (f1 (6 * x0.toInt.toNat + 4)).toInt) (b := 0) x_18 (by omega) (by omega) (by omega) (fun q => by omega) (by first | exact Or.inl ⟨by omega, by omega, rfl⟩ | exact Or.inr ⟨by omega, rfl⟩) (by first | exact Or.inl ⟨by omega, by omega, rfl⟩ | exact Or.inr ⟨by omega, rfl⟩) (by omega) | exact mp_own_e (a := (f1 (6 * x0.toInt.toNat + 4)).toInt) (b := x1.toInt - (f0 (3 * (f1 (6 * x0.toInt.toNat + 0)).toInt.toNat + 1)).toInt) x_18 (by omega) (by omega) (by omega) (fun q => by omega) (by first | exact Or.inl ⟨by omega, by omega, rfl⟩ | exact Or.inr ⟨by omega, rfl⟩) (by first | exact Or.inl ⟨by omega, by omega, rfl⟩ | exact Or.inr ⟨by omega, rfl⟩) (by omega) | exact mp_own_e (a := 0) (b := x1.toInt - (f0 (3 * (f1 (6 * x0.toInt.toNat + 0)).toInt.toNat + 1)).toInt) x_18 (by omega) (by omega) (by omega) (fun q => by omega) (by first | exact Or.inl ⟨by omega, by omega, rfl⟩ | exact Or.inr ⟨by omega, rfl⟩) (by first | exact Or.inl ⟨by omega, by omega, rfl⟩ | exact Or.inr ⟨by omega, rfl⟩) (by omega) | exact mp_own_e (a := 0) (b := 0) x_18 (by omega) (by omega) (by omega) (fun q => by omega) (by first | exact Or.inl ⟨by omega, by omega, rfl⟩ | exact Or.inr ⟨by omega, rfl⟩) (by first | exact Or.inl ⟨by omega, by omega, rfl⟩ | exact Or.inr ⟨by omega, rfl⟩) (by omega)), rfl⟩ (by first | exact mp_fd_ok mp_k_cX10_ownOf_ok (by decide +kernel) | decide +kernel)
              · have c_195 : z_171.toInt ≠ (-1) := c_195
                show mp_W E X 6 119 [(5, .int z_171), (4, .int 1), (3, .int i_15), (0, .ref a0), (1, .int x0), (2, .int x1)] [.int z_192] w2_ 0 0
                refine mp_run mp_k_cX10_ownOf_ok hF mp_tabX10_ok [mp_i (.iload_n 2), mp_i (.iload 5), mp_h (.if_icmp .le 10) [132]] (by decide +kernel) ?_
                refine And.intro (fun c_199 => ?_) (fun c_199 => ?_)
                · have c_199 : x1.toInt ≤ z_171.toInt := c_199
                  show mp_W E X 6 132 [(5, .int z_171), (4, .int 1), (3, .int i_15), (0, .ref a0), (1, .int x0), (2, .int x1)] [.int z_192] w2_ 0 0
                  refine mp_run mp_k_cX10_ownOf_ok hF mp_tabX10_ok [mp_c (.iconst 0) 0, mp_i .iadd] (by decide +kernel) ?_
                  intro z_200 h_201
                  have e_202 : z_200.toInt = z_192.toInt + 0 := mp_add (a := z_192.toInt) (b := 0) h_201 rfl (by decide) (by omega) (by omega)
                  show mp_W E X 6 134 [(5, .int z_171), (4, .int 1), (3, .int i_15), (0, .ref a0), (1, .int x0), (2, .int x1)] [.int z_200] w2_ 0 0
                  exact mp_iret hF hQ rfl rfl (Nat.le_of_ble_eq_true rfl) (Nat.le_of_ble_eq_true rfl) [2, 0, 3, 1] (w' := w1_) rfl rfl ⟨z_200, rfl, (by omega), (by omega), (by first | exact mp_own_e (a := (f1 (6 * x0.toInt.toNat + 4)).toInt) (b := 0) x_18 (by omega) (by omega) (by omega) (fun q => by omega) (by first | exact Or.inl ⟨by omega, by omega, rfl⟩ | exact Or.inr ⟨by omega, rfl⟩) (by first | exact Or.inl ⟨by omega, by omega, rfl⟩ | exact Or.inr ⟨by omega, rfl⟩) (by omega) | exact mp_own_e (a := (f1 (6 * x0.toInt.toNat + 4)).toInt) (b := x1.toInt - (f0 (3 * (f1 (6 * x0.toInt.toNat + 0)).toInt.toNat + 1)).toInt) x_18 (by omega) (by omega) (by omega) (fun q => by omega) (by first | exact Or.inl ⟨by omega, by omega, rfl⟩ | exact Or.inr ⟨by omega, rfl⟩) (by first | exact Or.inl ⟨by omega, by omega, rfl⟩ | exact Or.inr ⟨by omega, rfl⟩) (by omega) | exact mp_own_e (a := 0) (b := x1.toInt - (f0 (3 * (f1 (6 * x0.toInt.toNat + 0)).toInt.toNat + 1)).toInt) x_18 (by omega) (by omega) (by omega) (fun q => by omega) (by first | exact Or.inl ⟨by omega, by omega, rfl⟩ | exact Or.inr ⟨by omega, rfl⟩) (by first | exact Or.inl ⟨by omega, by omega, rfl⟩ | exact Or.inr ⟨by omega, rfl⟩) (by omega) | exact mp_own_e (a := 0) (b := 0) x_18 (by omega) (by omega) (by omega) (fun q => by omega) (by first | exact Or.inl ⟨by omega, by omega, rfl⟩ | exact Or.inr ⟨by omega, rfl⟩) (by first | exact Or.inl ⟨by omega, by omega, rfl⟩ | exact Or.inr ⟨by omega, rfl⟩) (by omega)), rfl⟩ (by first | exact mp_fd_ok mp_k_cX10_ownOf_ok (by decide +kernel) | decide +kernel)
                · have c_199 : z_171.toInt < x1.toInt := c_199
                  show mp_W E X 6 125 [(5, .int z_171), (4, .int 1), (3, .int i_15), (0, .ref a0), (1, .int x0), (2, .int x1)] [.int z_192] w2_ 0 0
                  refine mp_run mp_k_cX10_ownOf_ok hF mp_tabX10_ok [mp_i (.iload_n 2), mp_i (.iload 5), mp_i .isub, mp_h (.goto 4) [133], mp_i .iadd] (by decide +kernel) ?_
                  intro z_203 h_204
                  have e_205 : z_203.toInt = x1.toInt - z_171.toInt := mp_subi (a := x1.toInt) (b := z_171.toInt) h_204 rfl rfl (by omega) (by omega)
                  intro z_206 h_207
                  have e_208 : z_206.toInt = z_192.toInt + z_203.toInt := mp_add (a := z_192.toInt) (b := z_203.toInt) h_207 rfl rfl (by omega) (by omega)
                  show mp_W E X 6 134 [(5, .int z_171), (4, .int 1), (3, .int i_15), (0, .ref a0), (1, .int x0), (2, .int x1)] [.int z_206] w2_ 0 0
                  exact mp_iret hF hQ rfl rfl (Nat.le_of_ble_eq_true rfl) (Nat.le_of_ble_eq_true rfl) [2, 0, 3, 1] (w' := w1_) rfl rfl ⟨z_206, rfl, (by omega), (by omega), (by first | exact mp_own_e (a := (f1 (6 * x0.toInt.toNat + 4)).toInt) (b := x1.toInt - (f0 (3 * (f1 (6 * x0.toInt.toNat + 0)).toInt.toNat + 1)).toInt) x_18 (by omega) (by omega) (by omega) (fun q => by omega) (by first | exact Or.inl ⟨by omega, by omega, rfl⟩ | exact Or.inr ⟨by omega, rfl⟩) (by first | exact Or.inl ⟨by omega, by omega, rfl⟩ | exact Or.inr ⟨by omega, rfl⟩) (by omega) | exact mp_own_e (a := (f1 (6 * x0.toInt.toNat + 4)).toInt) (b := 0) x_18 (by omega) (by omega) (by omega) (fun q => by omega) (by first | exact Or.inl ⟨by omega, by omega, rfl⟩ | exact Or.inr ⟨by omega, rfl⟩) (by first | exact Or.inl ⟨by omega, by omega, rfl⟩ | exact Or.inr ⟨by omega, rfl⟩) (by omega) | exact mp_own_e (a := 0) (b := x1.toInt - (f0 (3 * (f1 (6 * x0.toInt.toNat + 0)).toInt.toNat + 1)).toInt) x_18 (by omega) (by omega) (by omega) (fun q => by omega) (by first | exact Or.inl ⟨by omega, by omega, rfl⟩ | exact Or.inr ⟨by omega, rfl⟩) (by first | exact Or.inl ⟨by omega, by omega, rfl⟩ | exact Or.inr ⟨by omega, rfl⟩) (by omega) | exact mp_own_e (a := 0) (b := 0) x_18 (by omega) (by omega) (by omega) (fun q => by omega) (by first | exact Or.inl ⟨by omega, by omega, rfl⟩ | exact Or.inr ⟨by omega, rfl⟩) (by first | exact Or.inl ⟨by omega, by omega, rfl⟩ | exact Or.inr ⟨by omega, rfl⟩) (by omega)), rfl⟩ (by first | exact mp_fd_ok mp_k_cX10_ownOf_ok (by decide +kernel) | decide +kernel)
        · have c_38 : r_28.toInt < i_15.toInt := c_38
          show mp_W E X 6 24 [(3, .int i_15), (0, .ref a0), (1, .int x0), (2, .int x1)] [] w2_ 0 0
          refine mp_run mp_k_cX10_ownOf_ok hF mp_tabX10_ok [mp_i (.aload_n 0), mp_h (.getfield 65) [28, 2], mp_c (.sipush 150) 150, mp_i (.iload_n 1), mp_i .imul, mp_i (.iload_n 3), mp_i .iadd, mp_h .baload [1, 0], mp_h (.ifCond .ne 9) [45]] (by decide +kernel) ?_
          refine And.intro rfl (And.intro rfl ?_)
          intro z_209 h_210
          have e_211 : z_209.toInt = 150 * x0.toInt := mp_mul (a := 150) (b := x0.toInt) h_210 (by decide) rfl (by omega) (by omega)
          intro z_212 h_213
          have e_214 : z_212.toInt = z_209.toInt + i_15.toInt := mp_add (a := z_209.toInt) (b := i_15.toInt) h_213 rfl rfl (by omega) (by omega)
          refine And.intro rfl (And.intro rfl (And.intro (vp_in_iff.mpr (by omega)) ?_))
          intro z_215 h_216
          have e_218 : z_215.toInt = (f2 (150 * x0.toInt.toNat + i_15.toInt.toNat)).toInt := mp_at_i h_216 (by omega)
          refine And.intro (fun c_219 => ?_) (fun c_219 => ?_)
          · have c_219 : z_215.toInt ≠ 0 := c_219
            show mp_W E X 6 45 [(3, .int i_15), (0, .ref a0), (1, .int x0), (2, .int x1)] [] w2_ 0 0
            refine mp_run mp_k_cX10_ownOf_ok hF mp_tabX10_ok [mp_i (.iload_n 3), mp_i (.aload_n 0), mp_i (.iload_n 1), mp_c (.iconst 3) 3] (by decide +kernel) ?_
            show mp_W E X 6 49 [(3, .int i_15), (0, .ref a0), (1, .int x0), (2, .int x1)] [.int 3, .int x0, .ref a0, .int i_15] w2_ 0 0
            refine mp_callV hF (As := [.int x0, .int 3]) (rest := [.int i_15]) (wr := [(mp_arI E a1 0 90 f0), (mp_arI E a3 3 1500 f2)]) (bX10_of_63 E a0 a2 a4 a5 a6 a7 a8 a9 a10 a11 a12 a1 a13 a14 a15 a16 a17 a3 a18 a19 a20 a21 a22 a23 a24 a25 f1 y0 y1 y2 y3 y4 y5 y6 y7 y8 y9 y10 y11 y12 y13 y14 y15 y16 y17 y18 y19 y20 y21 x0 p2 p3 p4 p5 l_x0 u_x0 l_y1 u_y1 l_y2 u_y2 l_y3 u_y3 l_y4 u_y4 l_y11 u_y11 l_y12 u_y12 l_y13 u_y13) mp_lkX10_267 2 rfl [2, 3] [0, 1] rfl rfl rfl rfl rfl ⟨(Nat.le_of_ble_eq_true rfl), (Nat.le_of_ble_eq_true rfl), (Nat.le_of_ble_eq_true rfl), (Nat.le_of_ble_eq_true rfl)⟩ (Nat.le_of_ble_eq_true rfl) (by first | exact mp_fd_ok mp_k_cX10_ownOf_ok (by decide +kernel) | decide +kernel) (fun v_220 w_221 h_222 => ?_)
            refine h_222.elim fun r_223 q_227 => q_227.elim fun e_228 q_229 => q_229.elim fun l_224 q_230 => q_230.elim fun u_225 q_231 => q_231.elim fun x_226 e_232 => ?_
            clear h_222 q_227 q_229 q_230 q_231
            subst e_228
            subst e_232
            show mp_W E X 6 52 [(3, .int i_15), (0, .ref a0), (1, .int x0), (2, .int x1)] [.int r_223, .int i_15] w2_ 0 0
            refine mp_run mp_k_cX10_ownOf_ok hF mp_tabX10_ok [mp_h (.if_icmp .ne 22) [74]] (by decide +kernel) ?_
            refine And.intro (fun c_233 => ?_) (fun c_233 => ?_)
            · have c_233 : i_15.toInt ≠ r_223.toInt := c_233
              show mp_W E X 6 74 [(3, .int i_15), (0, .ref a0), (1, .int x0), (2, .int x1)] [] w2_ 0 0
              refine mp_run mp_k_cX10_ownOf_ok hF mp_tabX10_ok [mp_c (.iconst 0) 0, mp_i (.istore 4), mp_i (.aload_n 0), mp_h (.getfield 44) [20, 2], mp_c (.iconst 3) 3, mp_i (.aload_n 0), mp_i (.iload_n 1), mp_c (.iconst 0) 0] (by decide +kernel) ?_
              refine And.intro rfl (And.intro rfl ?_)
              show mp_W E X 6 85 [(4, .int 0), (3, .int i_15), (0, .ref a0), (1, .int x0), (2, .int x1)] [.int 0, .int x0, .ref a0, .int 3, .ref a1] w2_ 0 0
              refine mp_callV hF (As := [.int x0, .int 0]) (rest := [.int 3, .ref a1]) (wr := [(mp_arI E a1 0 90 f0), (mp_arI E a3 3 1500 f2)]) (bX10_of_64 E a0 a2 a4 a5 a6 a7 a8 a9 a10 a11 a12 a1 a13 a14 a15 a16 a17 a3 a18 a19 a20 a21 a22 a23 a24 a25 f1 y0 y1 y2 y3 y4 y5 y6 y7 y8 y9 y10 y11 y12 y13 y14 y15 y16 y17 y18 y19 y20 y21 x0 p2 p3 p4 p5 l_x0 u_x0 l_y1 u_y1 l_y2 u_y2 l_y3 u_y3 l_y4 u_y4 l_y11 u_y11 l_y12 u_y12 l_y13 u_y13) mp_lkX10_267 2 rfl [2, 3] [0, 1] rfl rfl rfl rfl rfl ⟨(Nat.le_of_ble_eq_true rfl), (Nat.le_of_ble_eq_true rfl), (Nat.le_of_ble_eq_true rfl), (Nat.le_of_ble_eq_true rfl)⟩ (Nat.le_of_ble_eq_true rfl) (by first | exact mp_fd_ok mp_k_cX10_ownOf_ok (by decide +kernel) | decide +kernel) (fun v_234 w_235 h_236 => ?_)
              refine h_236.elim fun r_237 q_241 => q_241.elim fun e_242 q_243 => q_243.elim fun l_238 q_244 => q_244.elim fun u_239 q_245 => q_245.elim fun x_240 e_246 => ?_
              clear h_236 q_241 q_243 q_244 q_245
              subst e_242
              subst e_246
              show mp_W E X 6 88 [(4, .int 0), (3, .int i_15), (0, .ref a0), (1, .int x0), (2, .int x1)] [.int r_237, .int 3, .ref a1] w2_ 0 0
              refine mp_run mp_k_cX10_ownOf_ok hF mp_tabX10_ok [mp_i .imul, mp_c (.iconst 1) 1, mp_i .iadd, mp_h .iaload [0], mp_i (.istore 5), mp_i (.iload_n 2), mp_i (.iload_n 3), mp_i .isub, mp_i (.iload 4), mp_h (.ifCond .eq 12) [111]] (by decide +kernel) ?_
              intro z_247 h_248
              have e_249 : z_247.toInt = 3 * r_237.toInt := mp_mul (a := 3) (b := r_237.toInt) h_248 (by decide) rfl (by omega) (by omega)
              intro z_250 h_251
              have e_252 : z_250.toInt = z_247.toInt + 1 := mp_add (a := z_247.toInt) (b := 1) h_251 rfl (by decide) (by omega) (by omega)
              refine And.intro rfl (And.intro rfl (And.intro (vp_in_iff.mpr (by omega)) ?_))
              intro z_253 h_254
              have e_255 : (-1) ≤ z_253.toInt ∧ z_253.toInt ≤ 99 := mp_res_ld h_254 p1 (by omega) (by omega) (by omega)
              have e_256 : z_253.toInt = (f0 (3 * (f1 (6 * x0.toInt.toNat + 0)).toInt.toNat + 1)).toInt := mp_at_i h_254 (by omega)
              intro z_257 h_258
              have e_259 : z_257.toInt = x1.toInt - i_15.toInt := mp_subi (a := x1.toInt) (b := i_15.toInt) h_258 rfl rfl (by omega) (by omega)
              refine And.intro (fun _ => ?_) (fun c_260 => absurd c_260 (by decide))
              show mp_W E X 6 111 [(5, .int z_253), (4, .int 0), (3, .int i_15), (0, .ref a0), (1, .int x0), (2, .int x1)] [.int z_257] w2_ 0 0
              refine mp_run mp_k_cX10_ownOf_ok hF mp_tabX10_ok [mp_c (.iconst 0) 0, mp_i .iadd, mp_i (.iload 5), mp_c (.iconst (-1)) (-1), mp_h (.if_icmp .eq 16) [132]] (by decide +kernel) ?_
              intro z_261 h_262
              have e_263 : z_261.toInt = z_257.toInt + 0 := mp_add (a := z_257.toInt) (b := 0) h_262 rfl (by decide) (by omega) (by omega)
              refine And.intro (fun c_264 => ?_) (fun c_264 => ?_)
              · have c_264 : z_253.toInt = (-1) := (congrArg Int32.toInt c_264)
                show mp_W E X 6 132 [(5, .int z_253), (4, .int 0), (3, .int i_15), (0, .ref a0), (1, .int x0), (2, .int x1)] [.int z_261] w2_ 0 0
                refine mp_run mp_k_cX10_ownOf_ok hF mp_tabX10_ok [mp_c (.iconst 0) 0, mp_i .iadd] (by decide +kernel) ?_
                intro z_265 h_266
                have e_267 : z_265.toInt = z_261.toInt + 0 := mp_add (a := z_261.toInt) (b := 0) h_266 rfl (by decide) (by omega) (by omega)
                show mp_W E X 6 134 [(5, .int z_253), (4, .int 0), (3, .int i_15), (0, .ref a0), (1, .int x0), (2, .int x1)] [.int z_265] w2_ 0 0
                exact mp_iret hF hQ rfl rfl (Nat.le_of_ble_eq_true rfl) (Nat.le_of_ble_eq_true rfl) [2, 0, 3, 1] (w' := w1_) rfl rfl ⟨z_265, rfl, (by omega), (by omega), (by first | exact mp_own_e (a := 0) (b := 0) x_18 (by omega) (by omega) (by omega) (fun q => by omega) (by first | exact Or.inl ⟨by omega, by omega, rfl⟩ | exact Or.inr ⟨by omega, rfl⟩) (by first | exact Or.inl ⟨by omega, by omega, rfl⟩ | exact Or.inr ⟨by omega, rfl⟩) (by omega) | exact mp_own_e (a := (f1 (6 * x0.toInt.toNat + 4)).toInt) (b := x1.toInt - (f0 (3 * (f1 (6 * x0.toInt.toNat + 0)).toInt.toNat + 1)).toInt) x_18 (by omega) (by omega) (by omega) (fun q => by omega) (by first | exact Or.inl ⟨by omega, by omega, rfl⟩ | exact Or.inr ⟨by omega, rfl⟩) (by first | exact Or.inl ⟨by omega, by omega, rfl⟩ | exact Or.inr ⟨by omega, rfl⟩) (by omega) | exact mp_own_e (a := (f1 (6 * x0.toInt.toNat + 4)).toInt) (b := 0) x_18 (by omega) (by omega) (by omega) (fun q => by omega) (by first | exact Or.inl ⟨by omega, by omega, rfl⟩ | exact Or.inr ⟨by omega, rfl⟩) (by first | exact Or.inl ⟨by omega, by omega, rfl⟩ | exact Or.inr ⟨by omega, rfl⟩) (by omega) | exact mp_own_e (a := 0) (b := x1.toInt - (f0 (3 * (f1 (6 * x0.toInt.toNat + 0)).toInt.toNat + 1)).toInt) x_18 (by omega) (by omega) (by omega) (fun q => by omega) (by first | exact Or.inl ⟨by omega, by omega, rfl⟩ | exact Or.inr ⟨by omega, rfl⟩) (by first | exact Or.inl ⟨by omega, by omega, rfl⟩ | exact Or.inr ⟨by omega, rfl⟩) (by omega)), rfl⟩ (by first | exact mp_fd_ok mp_k_cX10_ownOf_ok (by decide +kernel) | decide +kernel)
              · have c_264 : z_253.toInt ≠ (-1) := c_264
                show mp_W E X 6 119 [(5, .int z_253), (4, .int 0), (3, .int i_15), (0, .ref a0), (1, .int x0), (2, .int x1)] [.int z_261] w2_ 0 0
                refine mp_run mp_k_cX10_ownOf_ok hF mp_tabX10_ok [mp_i (.iload_n 2), mp_i (.iload 5), mp_h (.if_icmp .le 10) [132]] (by decide +kernel) ?_
                refine And.intro (fun c_268 => ?_) (fun c_268 => ?_)
                · have c_268 : x1.toInt ≤ z_253.toInt := c_268
                  show mp_W E X 6 132 [(5, .int z_253), (4, .int 0), (3, .int i_15), (0, .ref a0), (1, .int x0), (2, .int x1)] [.int z_261] w2_ 0 0
                  refine mp_run mp_k_cX10_ownOf_ok hF mp_tabX10_ok [mp_c (.iconst 0) 0, mp_i .iadd] (by decide +kernel) ?_
                  intro z_269 h_270
                  have e_271 : z_269.toInt = z_261.toInt + 0 := mp_add (a := z_261.toInt) (b := 0) h_270 rfl (by decide) (by omega) (by omega)
                  show mp_W E X 6 134 [(5, .int z_253), (4, .int 0), (3, .int i_15), (0, .ref a0), (1, .int x0), (2, .int x1)] [.int z_269] w2_ 0 0
                  exact mp_iret hF hQ rfl rfl (Nat.le_of_ble_eq_true rfl) (Nat.le_of_ble_eq_true rfl) [2, 0, 3, 1] (w' := w1_) rfl rfl ⟨z_269, rfl, (by omega), (by omega), (by first | exact mp_own_e (a := 0) (b := 0) x_18 (by omega) (by omega) (by omega) (fun q => by omega) (by first | exact Or.inl ⟨by omega, by omega, rfl⟩ | exact Or.inr ⟨by omega, rfl⟩) (by first | exact Or.inl ⟨by omega, by omega, rfl⟩ | exact Or.inr ⟨by omega, rfl⟩) (by omega) | exact mp_own_e (a := (f1 (6 * x0.toInt.toNat + 4)).toInt) (b := x1.toInt - (f0 (3 * (f1 (6 * x0.toInt.toNat + 0)).toInt.toNat + 1)).toInt) x_18 (by omega) (by omega) (by omega) (fun q => by omega) (by first | exact Or.inl ⟨by omega, by omega, rfl⟩ | exact Or.inr ⟨by omega, rfl⟩) (by first | exact Or.inl ⟨by omega, by omega, rfl⟩ | exact Or.inr ⟨by omega, rfl⟩) (by omega) | exact mp_own_e (a := (f1 (6 * x0.toInt.toNat + 4)).toInt) (b := 0) x_18 (by omega) (by omega) (by omega) (fun q => by omega) (by first | exact Or.inl ⟨by omega, by omega, rfl⟩ | exact Or.inr ⟨by omega, rfl⟩) (by first | exact Or.inl ⟨by omega, by omega, rfl⟩ | exact Or.inr ⟨by omega, rfl⟩) (by omega) | exact mp_own_e (a := 0) (b := x1.toInt - (f0 (3 * (f1 (6 * x0.toInt.toNat + 0)).toInt.toNat + 1)).toInt) x_18 (by omega) (by omega) (by omega) (fun q => by omega) (by first | exact Or.inl ⟨by omega, by omega, rfl⟩ | exact Or.inr ⟨by omega, rfl⟩) (by first | exact Or.inl ⟨by omega, by omega, rfl⟩ | exact Or.inr ⟨by omega, rfl⟩) (by omega)), rfl⟩ (by first | exact mp_fd_ok mp_k_cX10_ownOf_ok (by decide +kernel) | decide +kernel)
                · have c_268 : z_253.toInt < x1.toInt := c_268
                  show mp_W E X 6 125 [(5, .int z_253), (4, .int 0), (3, .int i_15), (0, .ref a0), (1, .int x0), (2, .int x1)] [.int z_261] w2_ 0 0
                  refine mp_run mp_k_cX10_ownOf_ok hF mp_tabX10_ok [mp_i (.iload_n 2), mp_i (.iload 5), mp_i .isub, mp_h (.goto 4) [133], mp_i .iadd] (by decide +kernel) ?_
                  intro z_272 h_273
                  have e_274 : z_272.toInt = x1.toInt - z_253.toInt := mp_subi (a := x1.toInt) (b := z_253.toInt) h_273 rfl rfl (by omega) (by omega)
                  intro z_275 h_276
                  have e_277 : z_275.toInt = z_261.toInt + z_272.toInt := mp_add (a := z_261.toInt) (b := z_272.toInt) h_276 rfl rfl (by omega) (by omega)
                  show mp_W E X 6 134 [(5, .int z_253), (4, .int 0), (3, .int i_15), (0, .ref a0), (1, .int x0), (2, .int x1)] [.int z_275] w2_ 0 0
                  exact mp_iret hF hQ rfl rfl (Nat.le_of_ble_eq_true rfl) (Nat.le_of_ble_eq_true rfl) [2, 0, 3, 1] (w' := w1_) rfl rfl ⟨z_275, rfl, (by omega), (by omega), (by first | exact mp_own_e (a := 0) (b := x1.toInt - (f0 (3 * (f1 (6 * x0.toInt.toNat + 0)).toInt.toNat + 1)).toInt) x_18 (by omega) (by omega) (by omega) (fun q => by omega) (by first | exact Or.inl ⟨by omega, by omega, rfl⟩ | exact Or.inr ⟨by omega, rfl⟩) (by first | exact Or.inl ⟨by omega, by omega, rfl⟩ | exact Or.inr ⟨by omega, rfl⟩) (by omega) | exact mp_own_e (a := (f1 (6 * x0.toInt.toNat + 4)).toInt) (b := x1.toInt - (f0 (3 * (f1 (6 * x0.toInt.toNat + 0)).toInt.toNat + 1)).toInt) x_18 (by omega) (by omega) (by omega) (fun q => by omega) (by first | exact Or.inl ⟨by omega, by omega, rfl⟩ | exact Or.inr ⟨by omega, rfl⟩) (by first | exact Or.inl ⟨by omega, by omega, rfl⟩ | exact Or.inr ⟨by omega, rfl⟩) (by omega) | exact mp_own_e (a := (f1 (6 * x0.toInt.toNat + 4)).toInt) (b := 0) x_18 (by omega) (by omega) (by omega) (fun q => by omega) (by first | exact Or.inl ⟨by omega, by omega, rfl⟩ | exact Or.inr ⟨by omega, rfl⟩) (by first | exact Or.inl ⟨by omega, by omega, rfl⟩ | exact Or.inr ⟨by omega, rfl⟩) (by omega) | exact mp_own_e (a := 0) (b := 0) x_18 (by omega) (by omega) (by omega) (fun q => by omega) (by first | exact Or.inl ⟨by omega, by omega, rfl⟩ | exact Or.inr ⟨by omega, rfl⟩) (by first | exact Or.inl ⟨by omega, by omega, rfl⟩ | exact Or.inr ⟨by omega, rfl⟩) (by omega)), rfl⟩ (by first | exact mp_fd_ok mp_k_cX10_ownOf_ok (by decide +kernel) | decide +kernel)
            · have c_233 : i_15.toInt = r_223.toInt := (congrArg Int32.toInt c_233)
              show mp_W E X 6 55 [(3, .int i_15), (0, .ref a0), (1, .int x0), (2, .int x1)] [] w2_ 0 0
              refine mp_run mp_k_cX10_ownOf_ok hF mp_tabX10_ok [mp_i (.aload_n 0), mp_h (.getfield 65) [28, 2], mp_c (.sipush 150) 150, mp_i (.iload_n 1), mp_i .imul, mp_i (.iload_n 3), mp_i .iadd, mp_h .baload [1, 0], mp_h (.ifCond .ne 7) [74]] (by decide +kernel) ?_
              refine And.intro rfl (And.intro rfl ?_)
              intro z_278 h_279
              have e_280 : z_278.toInt = 150 * x0.toInt := mp_mul (a := 150) (b := x0.toInt) h_279 (by decide) rfl (by omega) (by omega)
              intro z_281 h_282
              have e_283 : z_281.toInt = z_278.toInt + i_15.toInt := mp_add (a := z_278.toInt) (b := i_15.toInt) h_282 rfl rfl (by omega) (by omega)
              refine And.intro rfl (And.intro rfl (And.intro (vp_in_iff.mpr (by omega)) ?_))
              intro z_284 h_285
              have e_287 : z_284.toInt = (f2 (150 * x0.toInt.toNat + i_15.toInt.toNat)).toInt := mp_at_i h_285 (by omega)
              refine And.intro (fun c_288 => ?_) (fun c_288 => ?_)
              · have c_288 : z_284.toInt ≠ 0 := c_288
                show mp_W E X 6 74 [(3, .int i_15), (0, .ref a0), (1, .int x0), (2, .int x1)] [] w2_ 0 0
                refine mp_run mp_k_cX10_ownOf_ok hF mp_tabX10_ok [mp_c (.iconst 0) 0, mp_i (.istore 4), mp_i (.aload_n 0), mp_h (.getfield 44) [20, 2], mp_c (.iconst 3) 3, mp_i (.aload_n 0), mp_i (.iload_n 1), mp_c (.iconst 0) 0] (by decide +kernel) ?_
                refine And.intro rfl (And.intro rfl ?_)
                show mp_W E X 6 85 [(4, .int 0), (3, .int i_15), (0, .ref a0), (1, .int x0), (2, .int x1)] [.int 0, .int x0, .ref a0, .int 3, .ref a1] w2_ 0 0
                refine mp_callV hF (As := [.int x0, .int 0]) (rest := [.int 3, .ref a1]) (wr := [(mp_arI E a1 0 90 f0), (mp_arI E a3 3 1500 f2)]) (bX10_of_64 E a0 a2 a4 a5 a6 a7 a8 a9 a10 a11 a12 a1 a13 a14 a15 a16 a17 a3 a18 a19 a20 a21 a22 a23 a24 a25 f1 y0 y1 y2 y3 y4 y5 y6 y7 y8 y9 y10 y11 y12 y13 y14 y15 y16 y17 y18 y19 y20 y21 x0 p2 p3 p4 p5 l_x0 u_x0 l_y1 u_y1 l_y2 u_y2 l_y3 u_y3 l_y4 u_y4 l_y11 u_y11 l_y12 u_y12 l_y13 u_y13) mp_lkX10_267 2 rfl [2, 3] [0, 1] rfl rfl rfl rfl rfl ⟨(Nat.le_of_ble_eq_true rfl), (Nat.le_of_ble_eq_true rfl), (Nat.le_of_ble_eq_true rfl), (Nat.le_of_ble_eq_true rfl)⟩ (Nat.le_of_ble_eq_true rfl) (by first | exact mp_fd_ok mp_k_cX10_ownOf_ok (by decide +kernel) | decide +kernel) (fun v_289 w_290 h_291 => ?_)
                refine h_291.elim fun r_292 q_296 => q_296.elim fun e_297 q_298 => q_298.elim fun l_293 q_299 => q_299.elim fun u_294 q_300 => q_300.elim fun x_295 e_301 => ?_
                clear h_291 q_296 q_298 q_299 q_300
                subst e_297
                subst e_301
                show mp_W E X 6 88 [(4, .int 0), (3, .int i_15), (0, .ref a0), (1, .int x0), (2, .int x1)] [.int r_292, .int 3, .ref a1] w2_ 0 0
                refine mp_run mp_k_cX10_ownOf_ok hF mp_tabX10_ok [mp_i .imul, mp_c (.iconst 1) 1, mp_i .iadd, mp_h .iaload [0], mp_i (.istore 5), mp_i (.iload_n 2), mp_i (.iload_n 3), mp_i .isub, mp_i (.iload 4), mp_h (.ifCond .eq 12) [111]] (by decide +kernel) ?_
                intro z_302 h_303
                have e_304 : z_302.toInt = 3 * r_292.toInt := mp_mul (a := 3) (b := r_292.toInt) h_303 (by decide) rfl (by omega) (by omega)
                intro z_305 h_306
                have e_307 : z_305.toInt = z_302.toInt + 1 := mp_add (a := z_302.toInt) (b := 1) h_306 rfl (by decide) (by omega) (by omega)
                refine And.intro rfl (And.intro rfl (And.intro (vp_in_iff.mpr (by omega)) ?_))
                intro z_308 h_309
                have e_310 : (-1) ≤ z_308.toInt ∧ z_308.toInt ≤ 99 := mp_res_ld h_309 p1 (by omega) (by omega) (by omega)
                have e_311 : z_308.toInt = (f0 (3 * (f1 (6 * x0.toInt.toNat + 0)).toInt.toNat + 1)).toInt := mp_at_i h_309 (by omega)
                intro z_312 h_313
                have e_314 : z_312.toInt = x1.toInt - i_15.toInt := mp_subi (a := x1.toInt) (b := i_15.toInt) h_313 rfl rfl (by omega) (by omega)
                refine And.intro (fun _ => ?_) (fun c_315 => absurd c_315 (by decide))
                show mp_W E X 6 111 [(5, .int z_308), (4, .int 0), (3, .int i_15), (0, .ref a0), (1, .int x0), (2, .int x1)] [.int z_312] w2_ 0 0
                refine mp_run mp_k_cX10_ownOf_ok hF mp_tabX10_ok [mp_c (.iconst 0) 0, mp_i .iadd, mp_i (.iload 5), mp_c (.iconst (-1)) (-1), mp_h (.if_icmp .eq 16) [132]] (by decide +kernel) ?_
                intro z_316 h_317
                have e_318 : z_316.toInt = z_312.toInt + 0 := mp_add (a := z_312.toInt) (b := 0) h_317 rfl (by decide) (by omega) (by omega)
                refine And.intro (fun c_319 => ?_) (fun c_319 => ?_)
                · have c_319 : z_308.toInt = (-1) := (congrArg Int32.toInt c_319)
                  show mp_W E X 6 132 [(5, .int z_308), (4, .int 0), (3, .int i_15), (0, .ref a0), (1, .int x0), (2, .int x1)] [.int z_316] w2_ 0 0
                  refine mp_run mp_k_cX10_ownOf_ok hF mp_tabX10_ok [mp_c (.iconst 0) 0, mp_i .iadd] (by decide +kernel) ?_
                  intro z_320 h_321
                  have e_322 : z_320.toInt = z_316.toInt + 0 := mp_add (a := z_316.toInt) (b := 0) h_321 rfl (by decide) (by omega) (by omega)
                  show mp_W E X 6 134 [(5, .int z_308), (4, .int 0), (3, .int i_15), (0, .ref a0), (1, .int x0), (2, .int x1)] [.int z_320] w2_ 0 0
                  exact mp_iret hF hQ rfl rfl (Nat.le_of_ble_eq_true rfl) (Nat.le_of_ble_eq_true rfl) [2, 0, 3, 1] (w' := w1_) rfl rfl ⟨z_320, rfl, (by omega), (by omega), (by first | exact mp_own_e (a := 0) (b := 0) x_18 (by omega) (by omega) (by omega) (fun q => by omega) (by first | exact Or.inl ⟨by omega, by omega, rfl⟩ | exact Or.inr ⟨by omega, rfl⟩) (by first | exact Or.inl ⟨by omega, by omega, rfl⟩ | exact Or.inr ⟨by omega, rfl⟩) (by omega) | exact mp_own_e (a := (f1 (6 * x0.toInt.toNat + 4)).toInt) (b := x1.toInt - (f0 (3 * (f1 (6 * x0.toInt.toNat + 0)).toInt.toNat + 1)).toInt) x_18 (by omega) (by omega) (by omega) (fun q => by omega) (by first | exact Or.inl ⟨by omega, by omega, rfl⟩ | exact Or.inr ⟨by omega, rfl⟩) (by first | exact Or.inl ⟨by omega, by omega, rfl⟩ | exact Or.inr ⟨by omega, rfl⟩) (by omega) | exact mp_own_e (a := (f1 (6 * x0.toInt.toNat + 4)).toInt) (b := 0) x_18 (by omega) (by omega) (by omega) (fun q => by omega) (by first | exact Or.inl ⟨by omega, by omega, rfl⟩ | exact Or.inr ⟨by omega, rfl⟩) (by first | exact Or.inl ⟨by omega, by omega, rfl⟩ | exact Or.inr ⟨by omega, rfl⟩) (by omega) | exact mp_own_e (a := 0) (b := x1.toInt - (f0 (3 * (f1 (6 * x0.toInt.toNat + 0)).toInt.toNat + 1)).toInt) x_18 (by omega) (by omega) (by omega) (fun q => by omega) (by first | exact Or.inl ⟨by omega, by omega, rfl⟩ | exact Or.inr ⟨by omega, rfl⟩) (by first | exact Or.inl ⟨by omega, by omega, rfl⟩ | exact Or.inr ⟨by omega, rfl⟩) (by omega)), rfl⟩ (by first | exact mp_fd_ok mp_k_cX10_ownOf_ok (by decide +kernel) | decide +kernel)
                · have c_319 : z_308.toInt ≠ (-1) := c_319
                  show mp_W E X 6 119 [(5, .int z_308), (4, .int 0), (3, .int i_15), (0, .ref a0), (1, .int x0), (2, .int x1)] [.int z_316] w2_ 0 0
                  refine mp_run mp_k_cX10_ownOf_ok hF mp_tabX10_ok [mp_i (.iload_n 2), mp_i (.iload 5), mp_h (.if_icmp .le 10) [132]] (by decide +kernel) ?_
                  refine And.intro (fun c_323 => ?_) (fun c_323 => ?_)
                  · have c_323 : x1.toInt ≤ z_308.toInt := c_323
                    show mp_W E X 6 132 [(5, .int z_308), (4, .int 0), (3, .int i_15), (0, .ref a0), (1, .int x0), (2, .int x1)] [.int z_316] w2_ 0 0
                    refine mp_run mp_k_cX10_ownOf_ok hF mp_tabX10_ok [mp_c (.iconst 0) 0, mp_i .iadd] (by decide +kernel) ?_
                    intro z_324 h_325
                    have e_326 : z_324.toInt = z_316.toInt + 0 := mp_add (a := z_316.toInt) (b := 0) h_325 rfl (by decide) (by omega) (by omega)
                    show mp_W E X 6 134 [(5, .int z_308), (4, .int 0), (3, .int i_15), (0, .ref a0), (1, .int x0), (2, .int x1)] [.int z_324] w2_ 0 0
                    exact mp_iret hF hQ rfl rfl (Nat.le_of_ble_eq_true rfl) (Nat.le_of_ble_eq_true rfl) [2, 0, 3, 1] (w' := w1_) rfl rfl ⟨z_324, rfl, (by omega), (by omega), (by first | exact mp_own_e (a := 0) (b := 0) x_18 (by omega) (by omega) (by omega) (fun q => by omega) (by first | exact Or.inl ⟨by omega, by omega, rfl⟩ | exact Or.inr ⟨by omega, rfl⟩) (by first | exact Or.inl ⟨by omega, by omega, rfl⟩ | exact Or.inr ⟨by omega, rfl⟩) (by omega) | exact mp_own_e (a := (f1 (6 * x0.toInt.toNat + 4)).toInt) (b := x1.toInt - (f0 (3 * (f1 (6 * x0.toInt.toNat + 0)).toInt.toNat + 1)).toInt) x_18 (by omega) (by omega) (by omega) (fun q => by omega) (by first | exact Or.inl ⟨by omega, by omega, rfl⟩ | exact Or.inr ⟨by omega, rfl⟩) (by first | exact Or.inl ⟨by omega, by omega, rfl⟩ | exact Or.inr ⟨by omega, rfl⟩) (by omega) | exact mp_own_e (a := (f1 (6 * x0.toInt.toNat + 4)).toInt) (b := 0) x_18 (by omega) (by omega) (by omega) (fun q => by omega) (by first | exact Or.inl ⟨by omega, by omega, rfl⟩ | exact Or.inr ⟨by omega, rfl⟩) (by first | exact Or.inl ⟨by omega, by omega, rfl⟩ | exact Or.inr ⟨by omega, rfl⟩) (by omega) | exact mp_own_e (a := 0) (b := x1.toInt - (f0 (3 * (f1 (6 * x0.toInt.toNat + 0)).toInt.toNat + 1)).toInt) x_18 (by omega) (by omega) (by omega) (fun q => by omega) (by first | exact Or.inl ⟨by omega, by omega, rfl⟩ | exact Or.inr ⟨by omega, rfl⟩) (by first | exact Or.inl ⟨by omega, by omega, rfl⟩ | exact Or.inr ⟨by omega, rfl⟩) (by omega)), rfl⟩ (by first | exact mp_fd_ok mp_k_cX10_ownOf_ok (by decide +kernel) | decide +kernel)
                  · have c_323 : z_308.toInt < x1.toInt := c_323
                    show mp_W E X 6 125 [(5, .int z_308), (4, .int 0), (3, .int i_15), (0, .ref a0), (1, .int x0), (2, .int x1)] [.int z_316] w2_ 0 0
                    refine mp_run mp_k_cX10_ownOf_ok hF mp_tabX10_ok [mp_i (.iload_n 2), mp_i (.iload 5), mp_i .isub, mp_h (.goto 4) [133], mp_i .iadd] (by decide +kernel) ?_
                    intro z_327 h_328
                    have e_329 : z_327.toInt = x1.toInt - z_308.toInt := mp_subi (a := x1.toInt) (b := z_308.toInt) h_328 rfl rfl (by omega) (by omega)
                    intro z_330 h_331
                    have e_332 : z_330.toInt = z_316.toInt + z_327.toInt := mp_add (a := z_316.toInt) (b := z_327.toInt) h_331 rfl rfl (by omega) (by omega)
                    show mp_W E X 6 134 [(5, .int z_308), (4, .int 0), (3, .int i_15), (0, .ref a0), (1, .int x0), (2, .int x1)] [.int z_330] w2_ 0 0
                    exact mp_iret hF hQ rfl rfl (Nat.le_of_ble_eq_true rfl) (Nat.le_of_ble_eq_true rfl) [2, 0, 3, 1] (w' := w1_) rfl rfl ⟨z_330, rfl, (by omega), (by omega), (by first | exact mp_own_e (a := 0) (b := x1.toInt - (f0 (3 * (f1 (6 * x0.toInt.toNat + 0)).toInt.toNat + 1)).toInt) x_18 (by omega) (by omega) (by omega) (fun q => by omega) (by first | exact Or.inl ⟨by omega, by omega, rfl⟩ | exact Or.inr ⟨by omega, rfl⟩) (by first | exact Or.inl ⟨by omega, by omega, rfl⟩ | exact Or.inr ⟨by omega, rfl⟩) (by omega) | exact mp_own_e (a := (f1 (6 * x0.toInt.toNat + 4)).toInt) (b := x1.toInt - (f0 (3 * (f1 (6 * x0.toInt.toNat + 0)).toInt.toNat + 1)).toInt) x_18 (by omega) (by omega) (by omega) (fun q => by omega) (by first | exact Or.inl ⟨by omega, by omega, rfl⟩ | exact Or.inr ⟨by omega, rfl⟩) (by first | exact Or.inl ⟨by omega, by omega, rfl⟩ | exact Or.inr ⟨by omega, rfl⟩) (by omega) | exact mp_own_e (a := (f1 (6 * x0.toInt.toNat + 4)).toInt) (b := 0) x_18 (by omega) (by omega) (by omega) (fun q => by omega) (by first | exact Or.inl ⟨by omega, by omega, rfl⟩ | exact Or.inr ⟨by omega, rfl⟩) (by first | exact Or.inl ⟨by omega, by omega, rfl⟩ | exact Or.inr ⟨by omega, rfl⟩) (by omega) | exact mp_own_e (a := 0) (b := 0) x_18 (by omega) (by omega) (by omega) (fun q => by omega) (by first | exact Or.inl ⟨by omega, by omega, rfl⟩ | exact Or.inr ⟨by omega, rfl⟩) (by first | exact Or.inl ⟨by omega, by omega, rfl⟩ | exact Or.inr ⟨by omega, rfl⟩) (by omega)), rfl⟩ (by first | exact mp_fd_ok mp_k_cX10_ownOf_ok (by decide +kernel) | decide +kernel)
              · have c_288 : z_284.toInt = 0 := (congrArg Int32.toInt c_288)
                show mp_W E X 6 70 [(3, .int i_15), (0, .ref a0), (1, .int x0), (2, .int x1)] [] w2_ 0 0
                refine mp_run mp_k_cX10_ownOf_ok hF mp_tabX10_ok [mp_c (.iconst 1) 1, mp_h (.goto 4) [75], mp_i (.istore 4), mp_i (.aload_n 0), mp_h (.getfield 44) [20, 2], mp_c (.iconst 3) 3, mp_i (.aload_n 0), mp_i (.iload_n 1), mp_c (.iconst 0) 0] (by decide +kernel) ?_
                refine And.intro rfl (And.intro rfl ?_)
                show mp_W E X 6 85 [(4, .int 1), (3, .int i_15), (0, .ref a0), (1, .int x0), (2, .int x1)] [.int 0, .int x0, .ref a0, .int 3, .ref a1] w2_ 0 0
                refine mp_callV hF (As := [.int x0, .int 0]) (rest := [.int 3, .ref a1]) (wr := [(mp_arI E a1 0 90 f0), (mp_arI E a3 3 1500 f2)]) (bX10_of_64 E a0 a2 a4 a5 a6 a7 a8 a9 a10 a11 a12 a1 a13 a14 a15 a16 a17 a3 a18 a19 a20 a21 a22 a23 a24 a25 f1 y0 y1 y2 y3 y4 y5 y6 y7 y8 y9 y10 y11 y12 y13 y14 y15 y16 y17 y18 y19 y20 y21 x0 p2 p3 p4 p5 l_x0 u_x0 l_y1 u_y1 l_y2 u_y2 l_y3 u_y3 l_y4 u_y4 l_y11 u_y11 l_y12 u_y12 l_y13 u_y13) mp_lkX10_267 2 rfl [2, 3] [0, 1] rfl rfl rfl rfl rfl ⟨(Nat.le_of_ble_eq_true rfl), (Nat.le_of_ble_eq_true rfl), (Nat.le_of_ble_eq_true rfl), (Nat.le_of_ble_eq_true rfl)⟩ (Nat.le_of_ble_eq_true rfl) (by first | exact mp_fd_ok mp_k_cX10_ownOf_ok (by decide +kernel) | decide +kernel) (fun v_333 w_334 h_335 => ?_)
                refine h_335.elim fun r_336 q_340 => q_340.elim fun e_341 q_342 => q_342.elim fun l_337 q_343 => q_343.elim fun u_338 q_344 => q_344.elim fun x_339 e_345 => ?_
                clear h_335 q_340 q_342 q_343 q_344
                subst e_341
                subst e_345
                show mp_W E X 6 88 [(4, .int 1), (3, .int i_15), (0, .ref a0), (1, .int x0), (2, .int x1)] [.int r_336, .int 3, .ref a1] w2_ 0 0
                refine mp_run mp_k_cX10_ownOf_ok hF mp_tabX10_ok [mp_i .imul, mp_c (.iconst 1) 1, mp_i .iadd, mp_h .iaload [0], mp_i (.istore 5), mp_i (.iload_n 2), mp_i (.iload_n 3), mp_i .isub, mp_i (.iload 4), mp_h (.ifCond .eq 12) [111]] (by decide +kernel) ?_
                intro z_346 h_347
                have e_348 : z_346.toInt = 3 * r_336.toInt := mp_mul (a := 3) (b := r_336.toInt) h_347 (by decide) rfl (by omega) (by omega)
                intro z_349 h_350
                have e_351 : z_349.toInt = z_346.toInt + 1 := mp_add (a := z_346.toInt) (b := 1) h_350 rfl (by decide) (by omega) (by omega)
                refine And.intro rfl (And.intro rfl (And.intro (vp_in_iff.mpr (by omega)) ?_))
                intro z_352 h_353
                have e_354 : (-1) ≤ z_352.toInt ∧ z_352.toInt ≤ 99 := mp_res_ld h_353 p1 (by omega) (by omega) (by omega)
                have e_355 : z_352.toInt = (f0 (3 * (f1 (6 * x0.toInt.toNat + 0)).toInt.toNat + 1)).toInt := mp_at_i h_353 (by omega)
                intro z_356 h_357
                have e_358 : z_356.toInt = x1.toInt - i_15.toInt := mp_subi (a := x1.toInt) (b := i_15.toInt) h_357 rfl rfl (by omega) (by omega)
                refine And.intro (fun c_359 => absurd c_359 (by decide)) (fun _ => ?_)
                show mp_W E X 6 102 [(5, .int z_352), (4, .int 1), (3, .int i_15), (0, .ref a0), (1, .int x0), (2, .int x1)] [.int z_356] w2_ 0 0
                refine mp_run mp_k_cX10_ownOf_ok hF mp_tabX10_ok [mp_i (.aload_n 0), mp_i (.iload_n 1), mp_c (.iconst 4) 4] (by decide +kernel) ?_
                show mp_W E X 6 105 [(5, .int z_352), (4, .int 1), (3, .int i_15), (0, .ref a0), (1, .int x0), (2, .int x1)] [.int 4, .int x0, .ref a0, .int z_356] w2_ 0 0
                refine mp_callV hF (As := [.int x0, .int 4]) (rest := [.int z_356]) (wr := [(mp_arI E a1 0 90 f0), (mp_arI E a3 3 1500 f2)]) (bX10_of_65 E a0 a2 a4 a5 a6 a7 a8 a9 a10 a11 a12 a1 a13 a14 a15 a16 a17 a3 a18 a19 a20 a21 a22 a23 a24 a25 f1 y0 y1 y2 y3 y4 y5 y6 y7 y8 y9 y10 y11 y12 y13 y14 y15 y16 y17 y18 y19 y20 y21 x0 p2 p3 p4 p5 l_x0 u_x0 l_y1 u_y1 l_y2 u_y2 l_y3 u_y3 l_y4 u_y4 l_y11 u_y11 l_y12 u_y12 l_y13 u_y13) mp_lkX10_267 2 rfl [2, 3] [0, 1] rfl rfl rfl rfl rfl ⟨(Nat.le_of_ble_eq_true rfl), (Nat.le_of_ble_eq_true rfl), (Nat.le_of_ble_eq_true rfl), (Nat.le_of_ble_eq_true rfl)⟩ (Nat.le_of_ble_eq_true rfl) (by first | exact mp_fd_ok mp_k_cX10_ownOf_ok (by decide +kernel) | decide +kernel) (fun v_360 w_361 h_362 => ?_)
                refine h_362.elim fun r_363 q_367 => q_367.elim fun e_368 q_369 => q_369.elim fun l_364 q_370 => q_370.elim fun u_365 q_371 => q_371.elim fun x_366 e_372 => ?_
                clear h_362 q_367 q_369 q_370 q_371
                subst e_368
                subst e_372
                show mp_W E X 6 108 [(5, .int z_352), (4, .int 1), (3, .int i_15), (0, .ref a0), (1, .int x0), (2, .int x1)] [.int r_363, .int z_356] w2_ 0 0
                refine mp_run mp_k_cX10_ownOf_ok hF mp_tabX10_ok [mp_h (.goto 4) [112], mp_i .iadd, mp_i (.iload 5), mp_c (.iconst (-1)) (-1), mp_h (.if_icmp .eq 16) [132]] (by decide +kernel) ?_
                intro z_373 h_374
                have e_375 : z_373.toInt = z_356.toInt + r_363.toInt := mp_add (a := z_356.toInt) (b := r_363.toInt) h_374 rfl rfl (by omega) (by omega)
                refine And.intro (fun c_376 => ?_) (fun c_376 => ?_)
                · have c_376 : z_352.toInt = (-1) := (congrArg Int32.toInt c_376)
                  show mp_W E X 6 132 [(5, .int z_352), (4, .int 1), (3, .int i_15), (0, .ref a0), (1, .int x0), (2, .int x1)] [.int z_373] w2_ 0 0
                  refine mp_run mp_k_cX10_ownOf_ok hF mp_tabX10_ok [mp_c (.iconst 0) 0, mp_i .iadd] (by decide +kernel) ?_
                  intro z_377 h_378
                  have e_379 : z_377.toInt = z_373.toInt + 0 := mp_add (a := z_373.toInt) (b := 0) h_378 rfl (by decide) (by omega) (by omega)
                  show mp_W E X 6 134 [(5, .int z_352), (4, .int 1), (3, .int i_15), (0, .ref a0), (1, .int x0), (2, .int x1)] [.int z_377] w2_ 0 0
                  exact mp_iret hF hQ rfl rfl (Nat.le_of_ble_eq_true rfl) (Nat.le_of_ble_eq_true rfl) [2, 0, 3, 1] (w' := w1_) rfl rfl ⟨z_377, rfl, (by omega), (by omega), (by first | exact mp_own_e (a := (f1 (6 * x0.toInt.toNat + 4)).toInt) (b := 0) x_18 (by omega) (by omega) (by omega) (fun q => by omega) (by first | exact Or.inl ⟨by omega, by omega, rfl⟩ | exact Or.inr ⟨by omega, rfl⟩) (by first | exact Or.inl ⟨by omega, by omega, rfl⟩ | exact Or.inr ⟨by omega, rfl⟩) (by omega) | exact mp_own_e (a := (f1 (6 * x0.toInt.toNat + 4)).toInt) (b := x1.toInt - (f0 (3 * (f1 (6 * x0.toInt.toNat + 0)).toInt.toNat + 1)).toInt) x_18 (by omega) (by omega) (by omega) (fun q => by omega) (by first | exact Or.inl ⟨by omega, by omega, rfl⟩ | exact Or.inr ⟨by omega, rfl⟩) (by first | exact Or.inl ⟨by omega, by omega, rfl⟩ | exact Or.inr ⟨by omega, rfl⟩) (by omega) | exact mp_own_e (a := 0) (b := x1.toInt - (f0 (3 * (f1 (6 * x0.toInt.toNat + 0)).toInt.toNat + 1)).toInt) x_18 (by omega) (by omega) (by omega) (fun q => by omega) (by first | exact Or.inl ⟨by omega, by omega, rfl⟩ | exact Or.inr ⟨by omega, rfl⟩) (by first | exact Or.inl ⟨by omega, by omega, rfl⟩ | exact Or.inr ⟨by omega, rfl⟩) (by omega) | exact mp_own_e (a := 0) (b := 0) x_18 (by omega) (by omega) (by omega) (fun q => by omega) (by first | exact Or.inl ⟨by omega, by omega, rfl⟩ | exact Or.inr ⟨by omega, rfl⟩) (by first | exact Or.inl ⟨by omega, by omega, rfl⟩ | exact Or.inr ⟨by omega, rfl⟩) (by omega)), rfl⟩ (by first | exact mp_fd_ok mp_k_cX10_ownOf_ok (by decide +kernel) | decide +kernel)
                · have c_376 : z_352.toInt ≠ (-1) := c_376
                  show mp_W E X 6 119 [(5, .int z_352), (4, .int 1), (3, .int i_15), (0, .ref a0), (1, .int x0), (2, .int x1)] [.int z_373] w2_ 0 0
                  refine mp_run mp_k_cX10_ownOf_ok hF mp_tabX10_ok [mp_i (.iload_n 2), mp_i (.iload 5), mp_h (.if_icmp .le 10) [132]] (by decide +kernel) ?_
                  refine And.intro (fun c_380 => ?_) (fun c_380 => ?_)
                  · have c_380 : x1.toInt ≤ z_352.toInt := c_380
                    show mp_W E X 6 132 [(5, .int z_352), (4, .int 1), (3, .int i_15), (0, .ref a0), (1, .int x0), (2, .int x1)] [.int z_373] w2_ 0 0
                    refine mp_run mp_k_cX10_ownOf_ok hF mp_tabX10_ok [mp_c (.iconst 0) 0, mp_i .iadd] (by decide +kernel) ?_
                    intro z_381 h_382
                    have e_383 : z_381.toInt = z_373.toInt + 0 := mp_add (a := z_373.toInt) (b := 0) h_382 rfl (by decide) (by omega) (by omega)
                    show mp_W E X 6 134 [(5, .int z_352), (4, .int 1), (3, .int i_15), (0, .ref a0), (1, .int x0), (2, .int x1)] [.int z_381] w2_ 0 0
                    exact mp_iret hF hQ rfl rfl (Nat.le_of_ble_eq_true rfl) (Nat.le_of_ble_eq_true rfl) [2, 0, 3, 1] (w' := w1_) rfl rfl ⟨z_381, rfl, (by omega), (by omega), (by first | exact mp_own_e (a := (f1 (6 * x0.toInt.toNat + 4)).toInt) (b := 0) x_18 (by omega) (by omega) (by omega) (fun q => by omega) (by first | exact Or.inl ⟨by omega, by omega, rfl⟩ | exact Or.inr ⟨by omega, rfl⟩) (by first | exact Or.inl ⟨by omega, by omega, rfl⟩ | exact Or.inr ⟨by omega, rfl⟩) (by omega) | exact mp_own_e (a := (f1 (6 * x0.toInt.toNat + 4)).toInt) (b := x1.toInt - (f0 (3 * (f1 (6 * x0.toInt.toNat + 0)).toInt.toNat + 1)).toInt) x_18 (by omega) (by omega) (by omega) (fun q => by omega) (by first | exact Or.inl ⟨by omega, by omega, rfl⟩ | exact Or.inr ⟨by omega, rfl⟩) (by first | exact Or.inl ⟨by omega, by omega, rfl⟩ | exact Or.inr ⟨by omega, rfl⟩) (by omega) | exact mp_own_e (a := 0) (b := x1.toInt - (f0 (3 * (f1 (6 * x0.toInt.toNat + 0)).toInt.toNat + 1)).toInt) x_18 (by omega) (by omega) (by omega) (fun q => by omega) (by first | exact Or.inl ⟨by omega, by omega, rfl⟩ | exact Or.inr ⟨by omega, rfl⟩) (by first | exact Or.inl ⟨by omega, by omega, rfl⟩ | exact Or.inr ⟨by omega, rfl⟩) (by omega) | exact mp_own_e (a := 0) (b := 0) x_18 (by omega) (by omega) (by omega) (fun q => by omega) (by first | exact Or.inl ⟨by omega, by omega, rfl⟩ | exact Or.inr ⟨by omega, rfl⟩) (by first | exact Or.inl ⟨by omega, by omega, rfl⟩ | exact Or.inr ⟨by omega, rfl⟩) (by omega)), rfl⟩ (by first | exact mp_fd_ok mp_k_cX10_ownOf_ok (by decide +kernel) | decide +kernel)
                  · have c_380 : z_352.toInt < x1.toInt := c_380
                    show mp_W E X 6 125 [(5, .int z_352), (4, .int 1), (3, .int i_15), (0, .ref a0), (1, .int x0), (2, .int x1)] [.int z_373] w2_ 0 0
                    refine mp_run mp_k_cX10_ownOf_ok hF mp_tabX10_ok [mp_i (.iload_n 2), mp_i (.iload 5), mp_i .isub, mp_h (.goto 4) [133], mp_i .iadd] (by decide +kernel) ?_
                    intro z_384 h_385
                    have e_386 : z_384.toInt = x1.toInt - z_352.toInt := mp_subi (a := x1.toInt) (b := z_352.toInt) h_385 rfl rfl (by omega) (by omega)
                    intro z_387 h_388
                    have e_389 : z_387.toInt = z_373.toInt + z_384.toInt := mp_add (a := z_373.toInt) (b := z_384.toInt) h_388 rfl rfl (by omega) (by omega)
                    show mp_W E X 6 134 [(5, .int z_352), (4, .int 1), (3, .int i_15), (0, .ref a0), (1, .int x0), (2, .int x1)] [.int z_387] w2_ 0 0
                    exact mp_iret hF hQ rfl rfl (Nat.le_of_ble_eq_true rfl) (Nat.le_of_ble_eq_true rfl) [2, 0, 3, 1] (w' := w1_) rfl rfl ⟨z_387, rfl, (by omega), (by omega), (by first | exact mp_own_e (a := (f1 (6 * x0.toInt.toNat + 4)).toInt) (b := x1.toInt - (f0 (3 * (f1 (6 * x0.toInt.toNat + 0)).toInt.toNat + 1)).toInt) x_18 (by omega) (by omega) (by omega) (fun q => by omega) (by first | exact Or.inl ⟨by omega, by omega, rfl⟩ | exact Or.inr ⟨by omega, rfl⟩) (by first | exact Or.inl ⟨by omega, by omega, rfl⟩ | exact Or.inr ⟨by omega, rfl⟩) (by omega) | exact mp_own_e (a := (f1 (6 * x0.toInt.toNat + 4)).toInt) (b := 0) x_18 (by omega) (by omega) (by omega) (fun q => by omega) (by first | exact Or.inl ⟨by omega, by omega, rfl⟩ | exact Or.inr ⟨by omega, rfl⟩) (by first | exact Or.inl ⟨by omega, by omega, rfl⟩ | exact Or.inr ⟨by omega, rfl⟩) (by omega) | exact mp_own_e (a := 0) (b := x1.toInt - (f0 (3 * (f1 (6 * x0.toInt.toNat + 0)).toInt.toNat + 1)).toInt) x_18 (by omega) (by omega) (by omega) (fun q => by omega) (by first | exact Or.inl ⟨by omega, by omega, rfl⟩ | exact Or.inr ⟨by omega, rfl⟩) (by first | exact Or.inl ⟨by omega, by omega, rfl⟩ | exact Or.inr ⟨by omega, rfl⟩) (by omega) | exact mp_own_e (a := 0) (b := 0) x_18 (by omega) (by omega) (by omega) (fun q => by omega) (by first | exact Or.inl ⟨by omega, by omega, rfl⟩ | exact Or.inr ⟨by omega, rfl⟩) (by first | exact Or.inl ⟨by omega, by omega, rfl⟩ | exact Or.inr ⟨by omega, rfl⟩) (by omega)), rfl⟩ (by first | exact mp_fd_ok mp_k_cX10_ownOf_ok (by decide +kernel) | decide +kernel)
          · have c_219 : z_215.toInt = 0 := (congrArg Int32.toInt c_219)
            show mp_W E X 6 39 [(3, .int i_15), (0, .ref a0), (1, .int x0), (2, .int x1)] [] w2_ 0 0
            refine mp_run mp_k_cX10_ownOf_ok hF mp_tabX10_ok [mp_c (.iinc 3 (-1)) (-1), mp_h (.goto (-28)) [14]] (by decide +kernel) ?_
            intro z_390 h_391
            have e_392 : z_390.toInt = i_15.toInt + (-1) := mp_add (a := i_15.toInt) (b := (-1)) h_391 rfl (by decide) (by omega) (by omega)
            show mp_W E X 6 14 [(3, .int z_390), (0, .ref a0), (1, .int x0), (2, .int x1)] [] w2_ 0 0
            exact mp_sub [0, 1, 2, 3] rfl [0, 1, 2, 3] rfl rfl (ih_23 (d_22 - 1) (by omega) z_390 (by omega) (by omega) (mp_own_s x_18 (by omega) (by omega) (by omega)) (by omega) (by omega) (by omega))
    exact mp_sub [0, 1, 2, 3] rfl [0, 1, 2, 3] rfl rfl (lp_21 _ x1 l_x1 u_x1 (mp_own_0 (by omega)) (by omega) (by omega) (Int.self_le_toNat _))
  · have c_14 : x1.toInt < r_4.toInt := c_14
    show mp_W E X 6 10 [(0, .ref a0), (1, .int x0), (2, .int x1)] [] w2_ 0 0
    refine mp_run mp_k_cX10_ownOf_ok hF mp_tabX10_ok [mp_c (.iconst (-1)) (-1)] (by decide +kernel) ?_
    show mp_W E X 6 11 [(0, .ref a0), (1, .int x0), (2, .int x1)] [.int (-1)] w2_ 0 0
    exact mp_iret hF hQ rfl rfl (Nat.le_of_ble_eq_true rfl) (Nat.le_of_ble_eq_true rfl) [2, 0, 3, 1] (w' := w1_) rfl rfl ⟨(-1), rfl, (by decide), (by decide), (Or.inl ⟨by omega, by decide⟩), rfl⟩ (by first | exact mp_fd_ok mp_k_cX10_ownOf_ok (by decide +kernel) | decide +kernel)
