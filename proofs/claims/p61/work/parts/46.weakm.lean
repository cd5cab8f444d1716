set_option maxHeartbeats 4000000 in
set_option maxRecDepth 100000 in
theorem bX10_of_67 (E : mp_E) (a0 a1 a2 a3 a4 a5 a6 a7 a8 a9 a10 a11 a12 a13 a14 a15 a16 a17 a18 a19 a20 a21 a22 a23 a24 a25 : Nat) (f0 : Nat → Int32) (y0 : Int32) (y1 : Int32) (y2 : Int32) (y3 : Int32) (y4 : Int32) (y5 : Int32) (y6 : Int64) (y7 : Int32) (y8 : Int32) (y9 : Int32) (y10 : Int32) (y11 : Int32) (y12 : Int32) (y13 : Int32) (y14 : Int32) (y15 : Int32) (y16 : Int32) (y17 : Int32) (y18 : Int32) (y19 : Int32) (y20 : Int32) (y21 : Int32) (x0 : Int32) (p0 : mp_res f0 300 6 0 0 5) (p1 : mp_res f0 300 6 1 0 5) (p2 : mp_res f0 300 6 3 0 99) (p3 : mp_res f0 300 6 4 0 1) (l_x0 : 0 ≤ x0.toInt) (u_x0 : x0.toInt ≤ 9) (l_y1 : 0 ≤ y1.toInt) (u_y1 : y1.toInt ≤ 1600) (l_y2 : 0 ≤ y2.toInt) (u_y2 : y2.toInt ≤ 1600) (l_y3 : 0 ≤ y3.toInt) (u_y3 : y3.toInt ≤ 4) (l_y4 : 0 ≤ y4.toInt) (u_y4 : y4.toInt ≤ 1600) (l_y11 : 0 ≤ y11.toInt) (u_y11 : y11.toInt ≤ 99) (l_y12 : 0 ≤ y12.toInt) (u_y12 : y12.toInt ≤ 5) (l_y13 : 0 ≤ y13.toInt) (u_y13 : y13.toInt ≤ 12) : mp_Ct E yX10_of cX10_of 3 (some FieldType.int) 0 0 0 0 [.ref a0, .int x0, .int 5] [(mp_ob10 a0 y0 a2 a3 a4 a5 a6 y1 y2 y3 y4 y5 y6 y7 y8 y9 y10 a7 a8 a9 a10 a11 a1 a12 a13 y11 a14 a15 a16 a17 y12 y13 y14 a18 a19 y15 y16 a20 a21 a22 y17 y18 y19 y20 a23 a24 a25 y21), (mp_arI E a1 0 300 f0)] (fun v w' => ∃ r1 : Int32, v = some (.int r1) ∧ (r1.toInt = (f0 (6 * x0.toInt.toNat + 5)).toInt) ∧ w' = [(mp_ob10 a0 y0 a2 a3 a4 a5 a6 y1 y2 y3 y4 y5 y6 y7 y8 y9 y10 a7 a8 a9 a10 a11 a1 a12 a13 y11 a14 a15 a16 a17 y12 y13 y14 a18 a19 y15 y16 a20 a21 a22 y17 y18 y19 y20 a23 a24 a25 y21), (mp_arI E a1 0 300 f0)]) := by
  refine mp_met false (by decide) (by decide) (Nat.le_of_ble_eq_true rfl) (fun X hF hQ => ?_)
  have hF : mp_F E X (RX10, cX10_of, 3, (0, 0, 0, 0), (some FieldType.int), false) := hF
  let w1_ : va_W := [(mp_ob10 a0 y0 a2 a3 a4 a5 a6 y1 y2 y3 y4 y5 y6 y7 y8 y9 y10 a7 a8 a9 a10 a11 a1 a12 a13 y11 a14 a15 a16 a17 y12 y13 y14 a18 a19 y15 y16 a20 a21 a22 y17 y18 y19 y20 a23 a24 a25 y21), (mp_arI E a1 0 300 f0)]
  show mp_W E X 3 0 [(0, .ref a0), (1, .int x0), (2, .int 5)] [] w1_ 0 0
  refine mp_run mp_k_cX10_of_ok hF mp_tabX10_ok [mp_i (.aload_n 0), mp_h (.getfield 47) [21, 0], mp_c (.bipush 6) 6, mp_i (.iload_n 1), mp_i .imul, mp_i (.iload_n 2), mp_i .iadd, mp_h .iaload [1]] (by decide +kernel) ?_
  refine And.intro rfl (And.intro rfl ?_)
  intro z_1 h_2
  have e_3 : z_1.toInt = 6 * x0.toInt := mp_mul (a := 6) (b := x0.toInt) h_2 (by decide) rfl (by (first | exact mp_o1152 l_x0 | omega)) (by (first | exact mp_o1411 u_x0 | omega))
  intro z_4 h_5
  have e_6 : z_4.toInt = z_1.toInt + 5 := mp_add (a := z_1.toInt) (b := 5) h_5 rfl (by decide) (by (first | exact mp_o1501 l_x0 e_3 | omega)) (by (first | exact mp_o1502 u_x0 e_3 | omega))
  refine And.intro rfl (And.intro rfl (And.intro (vp_in_iff.mpr (by (first | exact mp_o1503 l_x0 u_x0 e_3 e_6 | omega))) ?_))
  intro z_7 h_8
  have e_9 : z_7.toInt = (f0 (6 * x0.toInt + 5).toNat).toInt := mp_at_i h_8 (by (first | exact mp_o1504 l_x0 e_3 e_6 | omega))
  show mp_W E X 3 11 [(0, .ref a0), (1, .int x0), (2, .int 5)] [.int z_7] w1_ 0 0
  exact mp_iret hF hQ rfl rfl (Nat.le_of_ble_eq_true rfl) (Nat.le_of_ble_eq_true rfl) [0, 1] (w' := w1_) rfl rfl ⟨z_7, rfl, (mp_of_at h_8 (by (first | exact l_x0 | omega)) (by (first | exact mp_o1505 e_3 e_6 | omega))), rfl⟩ (by first | exact mp_fd_ok mp_k_cX10_of_ok (by decide +kernel) | decide +kernel)
set_option maxHeartbeats 4000000 in
set_option maxRecDepth 100000 in
theorem bX10_halvedOf_68 (E : mp_E) : ∀ (d : Nat) (a0 a1 a2 a3 a4 a5 a6 a7 a8 a9 a10 a11 a12 a13 a14 a15 a16 a17 a18 a19 a20 a21 a22 a23 a24 a25 : Nat) (f0 : Nat → Int32) (f1 : Nat → Int32) (f2 : Nat → Int32) (f3 : Nat → Int32) (y0 : Int32) (y1 : Int32) (y2 : Int32) (y3 : Int32) (y4 : Int32) (y5 : Int32) (y6 : Int64) (y7 : Int32) (y8 : Int32) (y9 : Int32) (y10 : Int32) (y11 : Int32) (y12 : Int32) (y13 : Int32) (y14 : Int32) (y15 : Int32) (y16 : Int32) (y17 : Int32) (y18 : Int32) (y19 : Int32) (y20 : Int32) (y21 : Int32) (x0 : Int32) (x1 : Int32) (p0 : mp_res f0 25 5 0 0 6) (p1 : mp_res f0 25 5 1 0 99) (p2 : mp_res f0 25 5 2 0 6) (p3 : mp_res f0 25 5 3 0 10) (p4 : mp_res f0 25 5 4 0 60) (p5 : mp_res f1 90 3 0 0 5) (p6 : mp_res f1 90 3 1 (-1) 99) (p7 : mp_res f2 300 6 0 0 5) (p8 : mp_res f2 300 6 1 0 5) (p9 : mp_res f2 300 6 3 0 99) (p10 : mp_res f2 300 6 4 0 1) (l_x0 : 0 ≤ x0.toInt) (u_x0 : x0.toInt ≤ 9) (l_x1 : 0 ≤ x1.toInt) (u_x1 : x1.toInt ≤ 139) (l_y1 : 0 ≤ y1.toInt) (u_y1 : y1.toInt ≤ 1600) (l_y2 : 0 ≤ y2.toInt) (u_y2 : y2.toInt ≤ 1600) (l_y3 : 0 ≤ y3.toInt) (u_y3 : y3.toInt ≤ 4) (l_y4 : 0 ≤ y4.toInt) (u_y4 : y4.toInt ≤ 1600) (l_y11 : 0 ≤ y11.toInt) (u_y11 : y11.toInt ≤ 99) (l_y12 : 0 ≤ y12.toInt) (u_y12 : y12.toInt ≤ 5) (l_y13 : 0 ≤ y13.toInt) (u_y13 : y13.toInt ≤ 12) (q0 : mp_prm f2 (f0 3).toInt) (q1 : x0.toInt < (f0 3).toInt), x0.toInt < (d : Int) → mp_Ct E yX10_halvedOf cX10_halvedOf 5 (some FieldType.int) (2 + 1 * d) 0 0 (47 + 24 * d) [.ref a0, .int x0, .int x1] [(mp_ob10 a0 y0 a5 a6 a7 a8 a9 y1 y2 y3 y4 y5 y6 y7 y8 y9 y10 a10 a1 a11 a12 a2 a3 a13 a14 y11 a15 a16 a17 a4 y12 y13 y14 a18 a19 y15 y16 a20 a21 a22 y17 y18 y19 y20 a23 a24 a25 y21), (mp_arI E a1 0 25 f0), (mp_arI E a2 0 90 f1), (mp_arI E a3 0 300 f2), (mp_arI E a4 3 1500 f3)] (fun v w' => ∃ r1 : Int32, v = some (.int r1) ∧ w' = [(mp_ob10 a0 y0 a5 a6 a7 a8 a9 y1 y2 y3 y4 y5 y6 y7 y8 y9 y10 a10 a1 a11 a12 a2 a3 a13 a14 y11 a15 a16 a17 a4 y12 y13 y14 a18 a19 y15 y16 a20 a21 a22 y17 y18 y19 y20 a23 a24 a25 y21), (mp_arI E a1 0 25 f0), (mp_arI E a2 0 90 f1), (mp_arI E a3 0 300 f2), (mp_arI E a4 3 1500 f3)]) := by
  intro d
  induction d using Nat.strongRecOn with
  | ind d ih_d =>
  intro a0 a1 a2 a3 a4 a5 a6 a7 a8 a9 a10 a11 a12 a13 a14 a15 a16 a17 a18 a19 a20 a21 a22 a23 a24 a25 f0 f1 f2 f3 y0 y1 y2 y3 y4 y5 y6 y7 y8 y9 y10 y11 y12 y13 y14 y15 y16 y17 y18 y19 y20 y21 x0 x1 p0 p1 p2 p3 p4 p5 p6 p7 p8 p9 p10 l_x0 u_x0 l_x1 u_x1 l_y1 u_y1 l_y2 u_y2 l_y3 u_y3 l_y4 u_y4 l_y11 u_y11 l_y12 u_y12 l_y13 u_y13 q0 q1 hd_d
  refine mp_met false (by decide) (by decide) (Nat.le_of_ble_eq_true rfl) (fun X hF hQ => ?_)
  have hF : mp_F E X (RX10, cX10_halvedOf, 5, (2 + 1 * d, 0, 0, 47 + 24 * d), (some FieldType.int), false) := hF
  let w1_ : va_W := [(mp_ob10 a0 y0 a5 a6 a7 a8 a9 y1 y2 y3 y4 y5 y6 y7 y8 y9 y10 a10 a1 a11 a12 a2 a3 a13 a14 y11 a15 a16 a17 a4 y12 y13 y14 a18 a19 y15 y16 a20 a21 a22 y17 y18 y19 y20 a23 a24 a25 y21), (mp_arI E a1 0 25 f0), (mp_arI E a2 0 90 f1), (mp_arI E a3 0 300 f2), (mp_arI E a4 3 1500 f3)]
  show mp_W E X 5 0 [(0, .ref a0), (1, .int x0), (2, .int x1)] [] w1_ 0 0
  refine mp_runR mp_k_cX10_halvedOf_ok hF mp_tabX10_ok (nL := 5) (ini := false) rfl rfl [mp_i (.aload_n 0), mp_i (.iload_n 1), mp_i (.iload_n 2)] (by decide +kernel) ?_
  show mp_W E X 5 3 [(0, .ref a0), (1, .int x0), (2, .int x1)] [.int x1, .int x0, .ref a0] w1_ 0 0
  refine mp_callV hF (As := [.int x0, .int x1]) (rest := []) (wr := [(mp_arI E a1 0 25 f0)]) (bX10_ownOf_66 E a0 a2 a3 a4 a5 a6 a7 a8 a9 a10 a1 a11 a12 a13 a14 a15 a16 a17 a18 a19 a20 a21 a22 a23 a24 a25 f1 f2 f3 y0 y1 y2 y3 y4 y5 y6 y7 y8 y9 y10 y11 y12 y13 y14 y15 y16 y17 y18 y19 y20 y21 x0 x1 p5 p6 p7 p8 p9 p10 l_x0 u_x0 l_x1 u_x1 l_y1 u_y1 l_y2 u_y2 l_y3 u_y3 l_y4 u_y4 l_y11 u_y11 l_y12 u_y12 l_y13 u_y13) mp_lkX10_279 0 rfl [0, 2, 3, 4] [1] rfl rfl rfl rfl rfl ⟨(Nat.le_trans (m := 2) (Nat.le_of_ble_eq_true rfl) (Nat.le_add_right _ _)), (Nat.le_trans (m := 47) (Nat.le_of_ble_eq_true rfl) (Nat.le_add_right _ _)), (Nat.le_of_ble_eq_true rfl), (Nat.le_of_ble_eq_true rfl)⟩ (Nat.le_of_ble_eq_true rfl) (by first | exact mp_fd_ok mp_k_cX10_halvedOf_ok (by decide +kernel) | decide +kernel | (dsimp only; decide +kernel)) (fun v_1 w_2 h_3 => ?_)
  refine h_3.elim fun r_4 q_8 => q_8.elim fun e_9 q_10 => q_10.elim fun l_5 q_11 => q_11.elim fun u_6 q_12 => q_12.elim fun x_7 e_13 => ?_
  clear h_3 q_8 q_10 q_11 q_12
  subst e_9
  subst e_13
  let w2_ : va_W := [(mp_arI E a1 0 25 f0), (mp_ob10 a0 y0 a5 a6 a7 a8 a9 y1 y2 y3 y4 y5 y6 y7 y8 y9 y10 a10 a1 a11 a12 a2 a3 a13 a14 y11 a15 a16 a17 a4 y12 y13 y14 a18 a19 y15 y16 a20 a21 a22 y17 y18 y19 y20 a23 a24 a25 y21), (mp_arI E a2 0 90 f1), (mp_arI E a3 0 300 f2), (mp_arI E a4 3 1500 f3)]
  show mp_W E X 5 6 [(0, .ref a0), (1, .int x0), (2, .int x1)] [.int r_4] w2_ 0 0
  refine mp_runR mp_k_cX10_halvedOf_ok hF mp_tabX10_ok (nL := 5) (ini := false) rfl rfl [mp_i (.istore_n 3), mp_i (.iload_n 3), mp_c (.iconst (-1)) (-1), mp_h (.if_icmp .eq 13) [22]] (by decide +kernel) ?_
  refine And.intro (fun c_14 => ?_) (fun c_14 => ?_)
  · have c_14 : r_4.toInt = (-1) := (congrArg Int32.toInt c_14)
    show mp_W E X 5 22 [(3, .int r_4), (0, .ref a0), (1, .int x0), (2, .int x1)] [] w2_ 0 0
    refine mp_runR mp_k_cX10_halvedOf_ok hF mp_tabX10_ok (nL := 5) (ini := false) rfl rfl [mp_i (.iload_n 3)] (by decide +kernel) ?_
    show mp_W E X 5 23 [(3, .int r_4), (0, .ref a0), (1, .int x0), (2, .int x1)] [.int r_4] w2_ 0 0
    exact mp_iret hF hQ rfl rfl (Nat.le_of_ble_eq_true rfl) (Nat.le_of_ble_eq_true rfl) [1, 0, 2, 3, 4] (w' := w1_) rfl rfl ⟨r_4, rfl, rfl⟩ (by first | exact mp_fd_ok mp_k_cX10_halvedOf_ok (by decide +kernel) | decide +kernel | (dsimp only; decide +kernel))
  · have c_14 : r_4.toInt ≠ (-1) := c_14
    show mp_W E X 5 12 [(3, .int r_4), (0, .ref a0), (1, .int x0), (2, .int x1)] [] w2_ 0 0
    refine mp_runR mp_k_cX10_halvedOf_ok hF mp_tabX10_ok (nL := 5) (ini := false) rfl rfl [mp_i (.aload_n 0), mp_i (.iload_n 1), mp_c (.iconst 5) 5] (by decide +kernel) ?_
    show mp_W E X 5 15 [(3, .int r_4), (0, .ref a0), (1, .int x0), (2, .int x1)] [.int 5, .int x0, .ref a0] w2_ 0 0
    refine mp_callV hF (As := [.int x0, .int 5]) (rest := []) (wr := [(mp_arI E a1 0 25 f0), (mp_arI E a2 0 90 f1), (mp_arI E a4 3 1500 f3)]) (bX10_of_67 E a0 a3 a5 a6 a7 a8 a9 a10 a1 a11 a12 a2 a13 a14 a15 a16 a17 a4 a18 a19 a20 a21 a22 a23 a24 a25 f2 y0 y1 y2 y3 y4 y5 y6 y7 y8 y9 y10 y11 y12 y13 y14 y15 y16 y17 y18 y19 y20 y21 x0 p7 p8 p9 p10 l_x0 u_x0 l_y1 u_y1 l_y2 u_y2 l_y3 u_y3 l_y4 u_y4 l_y11 u_y11 l_y12 u_y12 l_y13 u_y13) mp_lkX10_267 1 rfl [1, 3] [0, 2, 4] rfl rfl rfl rfl rfl ⟨(Nat.le_trans (m := 2) (Nat.le_of_ble_eq_true rfl) (Nat.le_add_right _ _)), (Nat.le_trans (m := 47) (Nat.le_of_ble_eq_true rfl) (Nat.le_add_right _ _)), (Nat.le_of_ble_eq_true rfl), (Nat.le_of_ble_eq_true rfl)⟩ (Nat.le_of_ble_eq_true rfl) (by first | exact mp_fd_ok mp_k_cX10_halvedOf_ok (by decide +kernel) | decide +kernel | (dsimp only; decide +kernel)) (fun v_15 w_16 h_17 => ?_)
    obtain ⟨r_18, rfl, x_19, rfl⟩ := h_17
    have e_20 := mp_prm_use (f := f2) (n := (f0 3).toInt) (by assumption) x0 (by (first | exact l_x0 | omega)) (by (first | exact q1 | omega))
    let w3_ : va_W := [(mp_arI E a1 0 25 f0), (mp_arI E a2 0 90 f1), (mp_arI E a4 3 1500 f3), (mp_ob10 a0 y0 a5 a6 a7 a8 a9 y1 y2 y3 y4 y5 y6 y7 y8 y9 y10 a10 a1 a11 a12 a2 a3 a13 a14 y11 a15 a16 a17 a4 y12 y13 y14 a18 a19 y15 y16 a20 a21 a22 y17 y18 y19 y20 a23 a24 a25 y21), (mp_arI E a3 0 300 f2)]
    show mp_W E X 5 18 [(3, .int r_4), (0, .ref a0), (1, .int x0), (2, .int x1)] [.int r_18] w3_ 0 0
    refine mp_runR mp_k_cX10_halvedOf_ok hF mp_tabX10_ok (nL := 5) (ini := false) rfl rfl [mp_c (.iconst (-1)) (-1), mp_h (.if_icmp .ne 5) [24]] (by decide +kernel) ?_
    refine And.intro (fun c_21 => ?_) (fun c_21 => ?_)
    · have c_21 : r_18.toInt ≠ (-1) := c_21
      show mp_W E X 5 24 [(3, .int r_4), (0, .ref a0), (1, .int x0), (2, .int x1)] [] w3_ 0 0
      refine mp_runR mp_k_cX10_halvedOf_ok hF mp_tabX10_ok (nL := 5) (ini := false) rfl rfl [mp_i (.aload_n 0), mp_i (.aload_n 0), mp_i (.iload_n 1), mp_c (.iconst 5) 5] (by decide +kernel) ?_
      show mp_W E X 5 28 [(3, .int r_4), (0, .ref a0), (1, .int x0), (2, .int x1)] [.int 5, .int x0, .ref a0, .ref a0] w3_ 0 0
      refine mp_callV hF (As := [.int x0, .int 5]) (rest := [.ref a0]) (wr := [(mp_arI E a1 0 25 f0), (mp_arI E a2 0 90 f1), (mp_arI E a4 3 1500 f3)]) (bX10_of_67 E a0 a3 a5 a6 a7 a8 a9 a10 a1 a11 a12 a2 a13 a14 a15 a16 a17 a4 a18 a19 a20 a21 a22 a23 a24 a25 f2 y0 y1 y2 y3 y4 y5 y6 y7 y8 y9 y10 y11 y12 y13 y14 y15 y16 y17 y18 y19 y20 y21 x0 p7 p8 p9 p10 l_x0 u_x0 l_y1 u_y1 l_y2 u_y2 l_y3 u_y3 l_y4 u_y4 l_y11 u_y11 l_y12 u_y12 l_y13 u_y13) mp_lkX10_267 3 rfl [3, 4] [0, 1, 2] rfl rfl rfl rfl rfl ⟨(Nat.le_trans (m := 2) (Nat.le_of_ble_eq_true rfl) (Nat.le_add_right _ _)), (Nat.le_trans (m := 47) (Nat.le_of_ble_eq_true rfl) (Nat.le_add_right _ _)), (Nat.le_of_ble_eq_true rfl), (Nat.le_of_ble_eq_true rfl)⟩ (Nat.le_of_ble_eq_true rfl) (by first | exact mp_fd_ok mp_k_cX10_halvedOf_ok (by decide +kernel) | decide +kernel | (dsimp only; decide +kernel)) (fun v_22 w_23 h_24 => ?_)
      obtain ⟨r_25, rfl, x_26, rfl⟩ := h_24
      have e_27 := mp_prm_use (f := f2) (n := (f0 3).toInt) (by assumption) x0 (by (first | exact l_x0 | omega)) (by (first | exact q1 | omega))
      show mp_W E X 5 31 [(3, .int r_4), (0, .ref a0), (1, .int x0), (2, .int x1)] [.int r_25, .ref a0] w3_ 0 0
      refine mp_runR mp_k_cX10_halvedOf_ok hF mp_tabX10_ok (nL := 5) (ini := false) rfl rfl [mp_i (.iload_n 2)] (by decide +kernel) ?_
      show mp_W E X 5 32 [(3, .int r_4), (0, .ref a0), (1, .int x0), (2, .int x1)] [.int x1, .int r_25, .ref a0] w3_ 0 0
      refine mp_callV hF (As := [.int r_25, .int x1]) (rest := []) (wr := []) (ih_d (d - 1) (by (first | exact mp_o1506 hd_d e_20 | omega)) a0 a1 a2 a3 a4 a5 a6 a7 a8 a9 a10 a11 a12 a13 a14 a15 a16 a17 a18 a19 a20 a21 a22 a23 a24 a25 f0 f1 f2 f3 y0 y1 y2 y3 y4 y5 y6 y7 y8 y9 y10 y11 y12 y13 y14 y15 y16 y17 y18 y19 y20 y21 r_25 x1 p0 p1 p2 p3 p4 p5 p6 p7 p8 p9 p10 (by (first | exact mp_o1507 c_21 x_26 x_19 e_20 | omega)) (by (first | exact mp_o1508 u_x0 x_26 e_20 | omega)) l_x1 u_x1 l_y1 u_y1 l_y2 u_y2 l_y3 u_y3 l_y4 u_y4 l_y11 u_y11 l_y12 u_y12 l_y13 u_y13 (by first | assumption | (rw [rfl]; assumption)) (by (first | exact mp_o1509 q1 x_26 e_20 | omega)) (by (first | exact mp_o1510 hd_d x_26 e_20 | omega))) mp_lkX10_282 3 rfl [3, 0, 1, 4, 2] [] rfl rfl rfl rfl rfl ⟨(by show 2 + 1 * (d - 1) + 1 ≤ 2 + 1 * d; (first | exact mp_o1511 hd_d e_20 | omega)), (by show 8 + (5 + 11) + (47 + 24 * (d - 1)) ≤ 47 + 24 * d; (first | exact mp_o1512 hd_d e_20 | omega)), (Nat.le_of_ble_eq_true rfl), (Nat.le_of_ble_eq_true rfl)⟩ (Nat.le_of_ble_eq_true rfl) (by first | exact mp_fd_ok mp_k_cX10_halvedOf_ok (by decide +kernel) | decide +kernel | (dsimp only; decide +kernel)) (fun v_28 w_29 h_30 => ?_)
      obtain ⟨r_31, rfl, rfl⟩ := h_30
      show mp_W E X 5 35 [(3, .int r_4), (0, .ref a0), (1, .int x0), (2, .int x1)] [.int r_31] w1_ 0 0
      refine mp_runR mp_k_cX10_halvedOf_ok hF mp_tabX10_ok (nL := 5) (ini := false) rfl rfl [mp_i (.istore 4), mp_i (.iload 4), mp_c (.iconst (-1)) (-1), mp_h (.if_icmp .ne 7) [47]] (by decide +kernel) ?_
      refine And.intro (fun c_32 => ?_) (fun c_32 => ?_)
      · have c_32 : r_31.toInt ≠ (-1) := c_32
        show mp_W E X 5 47 [(4, .int r_31), (3, .int r_4), (0, .ref a0), (1, .int x0), (2, .int x1)] [] w1_ 0 0
        refine mp_runR mp_k_cX10_halvedOf_ok hF mp_tabX10_ok (nL := 5) (ini := false) rfl rfl [mp_i (.iload_n 3), mp_i (.iload 4), mp_i .iadd] (by decide +kernel) ?_
        intro z_33 h_34
        have e_35 := mp_bnd r_31
        show mp_W E X 5 51 [(4, .int r_31), (3, .int r_4), (0, .ref a0), (1, .int x0), (2, .int x1)] [.int z_33] w1_ 0 0
        exact mp_iret hF hQ rfl rfl (Nat.le_of_ble_eq_true rfl) (Nat.le_of_ble_eq_true rfl) [0, 1, 2, 3, 4] (w' := w1_) rfl rfl ⟨z_33, rfl, rfl⟩ (by first | exact mp_fd_ok mp_k_cX10_halvedOf_ok (by decide +kernel) | decide +kernel | (dsimp only; decide +kernel))
      · have c_32 : r_31.toInt = (-1) := (congrArg Int32.toInt c_32)
        show mp_W E X 5 43 [(4, .int r_31), (3, .int r_4), (0, .ref a0), (1, .int x0), (2, .int x1)] [] w1_ 0 0
        refine mp_runR mp_k_cX10_halvedOf_ok hF mp_tabX10_ok (nL := 5) (ini := false) rfl rfl [mp_c (.iconst (-1)) (-1), mp_h (.goto 7) [51]] (by decide +kernel) ?_
        show mp_W E X 5 51 [(4, .int r_31), (3, .int r_4), (0, .ref a0), (1, .int x0), (2, .int x1)] [.int (-1)] w1_ 0 0
        exact mp_iret hF hQ rfl rfl (Nat.le_of_ble_eq_true rfl) (Nat.le_of_ble_eq_true rfl) [0, 1, 2, 3, 4] (w' := w1_) rfl rfl ⟨(-1), rfl, rfl⟩ (by first | exact mp_fd_ok mp_k_cX10_halvedOf_ok (by decide +kernel) | decide +kernel | (dsimp only; decide +kernel))
    · have c_21 : r_18.toInt = (-1) := (congrArg Int32.toInt c_21)
      show mp_W E X 5 22 [(3, .int r_4), (0, .ref a0), (1, .int x0), (2, .int x1)] [] w3_ 0 0
      refine mp_runR mp_k_cX10_halvedOf_ok hF mp_tabX10_ok (nL := 5) (ini := false) rfl rfl [mp_i (.iload_n 3)] (by decide +kernel) ?_
      show mp_W E X 5 23 [(3, .int r_4), (0, .ref a0), (1, .int x0), (2, .int x1)] [.int r_4] w3_ 0 0
      exact mp_iret hF hQ rfl rfl (Nat.le_of_ble_eq_true rfl) (Nat.le_of_ble_eq_true rfl) [3, 0, 1, 4, 2] (w' := w1_) rfl rfl ⟨r_4, rfl, rfl⟩ (by first | exact mp_fd_ok mp_k_cX10_halvedOf_ok (by decide +kernel) | decide +kernel | (dsimp only; decide +kernel))
set_option maxHeartbeats 4000000 in
set_option maxRecDepth 100000 in
theorem bX10_halvings_69 (E : mp_E) (a0 a1 a2 a3 a4 a5 a6 a7 a8 a9 a10 a11 a12 a13 a14 a15 a16 a17 a18 a19 a20 a21 a22 a23 a24 a25 : Nat) (f0 : Nat → Int32) (f1 : Nat → Int32) (f2 : Nat → Int32) (f3 : Nat → Int32) (f4 : Nat → Int32) (f5 : Nat → Int32) (f6 : Nat → Int32) (f7 : Nat → Int32) (f8 : Nat → Int32) (y0 : Int32) (y1 : Int32) (y2 : Int32) (y3 : Int32) (y4 : Int32) (y5 : Int32) (y6 : Int64) (y7 : Int32) (y8 : Int32) (y9 : Int32) (y10 : Int32) (y11 : Int32) (y12 : Int32) (y13 : Int32) (y14 : Int32) (y15 : Int32) (y16 : Int32) (y17 : Int32) (y18 : Int32) (y19 : Int32) (y20 : Int32) (y21 : Int32) (x0 : Int32) (x1 : Int32) (p0 : mp_res f0 25 5 0 0 6) (p1 : mp_res f0 25 5 1 0 99) (p2 : mp_res f0 25 5 2 0 6) (p3 : mp_res f0 25 5 3 0 10) (p4 : mp_res f0 25 5 4 0 60) (p5 : mp_all f1 180 0 20) (p6 : mp_res f2 90 3 0 0 5) (p7 : mp_res f2 90 3 1 (-1) 99) (p8 : mp_res f3 300 6 0 0 5) (p9 : mp_res f3 300 6 1 0 5) (p10 : mp_res f3 300 6 3 0 99) (p11 : mp_res f3 300 6 4 0 1) (p12 : mp_actm f4) (p13 : mp_all f5 6 0 5) (l_y1 : 0 ≤ y1.toInt) (u_y1 : y1.toInt ≤ 1600) (l_y2 : 0 ≤ y2.toInt) (u_y2 : y2.toInt ≤ 1600) (l_y3 : 0 ≤ y3.toInt) (u_y3 : y3.toInt ≤ 4) (l_y4 : 0 ≤ y4.toInt) (u_y4 : y4.toInt ≤ 1600) (l_y11 : 0 ≤ y11.toInt) (u_y11 : y11.toInt ≤ 99) (l_y12 : 0 ≤ y12.toInt) (u_y12 : y12.toInt ≤ 5) (l_y13 : 0 ≤ y13.toInt) (u_y13 : y13.toInt ≤ 12) (q0 : mp_prm f3 (f0 3).toInt) (q1 : (f0 1).toInt + mp_k200 f4 (f0 4).toInt ≤ 99) : mp_Ct E yX10_halvings cX10_halvings 3 (some FieldType.int) 13 0 0 311 [.ref a0, .int x0, .int x1] [(mp_ob10 a0 y0 a10 a11 a12 a13 a14 y1 y2 y3 y4 y5 y6 y7 y8 y9 y10 a15 a1 a2 a16 a3 a4 a5 a17 y11 a6 a7 a8 a9 y12 y13 y14 a18 a19 y15 y16 a20 a21 a22 y17 y18 y19 y20 a23 a24 a25 y21), (mp_arI E a1 0 25 f0), (mp_arI E a2 0 180 f1), (mp_arI E a3 0 90 f2), (mp_arI E a4 0 300 f3), (mp_arI E a5 0 300 f4), (mp_arI E a6 0 6 f5), (mp_arI E a7 0 6 f6), (mp_arI E a8 0 6 f7), (mp_arI E a9 3 1500 f8)] (fun v w' => ∃ r1 : Int32, ∃ h2 : Nat → Int32, ∃ h3 : Nat → Int32, ∃ h4 : Nat → Int32, ∃ h5 : Nat → Int32, ∃ r6 : Int32, v = some (.int r6) ∧ 0 ≤ r1.toInt ∧ r1.toInt ≤ 99 ∧ mp_all h2 6 0 5 ∧ w' = [(mp_ob10 a0 0 a10 a11 a12 a13 a14 y1 y2 y3 y4 y5 y6 y7 y8 y9 y10 a15 a1 a2 a16 a3 a4 a5 a17 r1 a6 a7 a8 a9 y12 y13 y14 a18 a19 y15 y16 a20 a21 a22 y17 y18 y19 y20 a23 a24 a25 y21), (mp_arI E a1 0 25 f0), (mp_arI E a2 0 180 f1), (mp_arI E a3 0 90 f2), (mp_arI E a4 0 300 f3), (mp_arI E a5 0 300 f4), (mp_arI E a6 0 6 h2), (mp_arI E a7 0 6 h3), (mp_arI E a8 0 6 h4), (mp_arI E a9 3 1500 h5)]) := by
  refine mp_met false (by decide) (by decide) (Nat.le_of_ble_eq_true rfl) (fun X hF hQ => ?_)
  have hF : mp_F E X (RX10, cX10_halvings, 3, (13, 0, 0, 311), (some FieldType.int), false) := hF
  let w1_ : va_W := [(mp_ob10 a0 y0 a10 a11 a12 a13 a14 y1 y2 y3 y4 y5 y6 y7 y8 y9 y10 a15 a1 a2 a16 a3 a4 a5 a17 y11 a6 a7 a8 a9 y12 y13 y14 a18 a19 y15 y16 a20 a21 a22 y17 y18 y19 y20 a23 a24 a25 y21), (mp_arI E a1 0 25 f0), (mp_arI E a2 0 180 f1), (mp_arI E a3 0 90 f2), (mp_arI E a4 0 300 f3), (mp_arI E a5 0 300 f4), (mp_arI E a6 0 6 f5), (mp_arI E a7 0 6 f6), (mp_arI E a8 0 6 f7), (mp_arI E a9 3 1500 f8)]
  show mp_W E X 3 0 [(0, .ref a0), (1, .int x0), (2, .int x1)] [] w1_ 0 0
  refine mp_run mp_k_cX10_halvings_ok hF mp_tabX10_ok [mp_i (.aload_n 0), mp_c (.iconst 0) 0, mp_h (.putfield 92) [0, 0]] (by decide +kernel) ?_
  refine And.intro rfl (And.intro rfl (And.intro rfl (And.intro rfl (And.intro (Nat.le_of_ble_eq_true rfl) ?_))))
  let w2_ : va_W := [(mp_ob10 a0 0 a10 a11 a12 a13 a14 y1 y2 y3 y4 y5 y6 y7 y8 y9 y10 a15 a1 a2 a16 a3 a4 a5 a17 y11 a6 a7 a8 a9 y12 y13 y14 a18 a19 y15 y16 a20 a21 a22 y17 y18 y19 y20 a23 a24 a25 y21), (mp_arI E a1 0 25 f0), (mp_arI E a2 0 180 f1), (mp_arI E a3 0 90 f2), (mp_arI E a4 0 300 f3), (mp_arI E a5 0 300 f4), (mp_arI E a6 0 6 f5), (mp_arI E a7 0 6 f6), (mp_arI E a8 0 6 f7), (mp_arI E a9 3 1500 f8)]
  show mp_W E X 3 5 [(0, .ref a0), (1, .int x0), (2, .int x1)] [] w2_ 0 0
  refine mp_run mp_k_cX10_halvings_ok hF mp_tabX10_ok [mp_i (.aload_n 0), mp_i (.iload_n 1)] (by decide +kernel) ?_
  show mp_W E X 3 7 [(0, .ref a0), (1, .int x0), (2, .int x1)] [.int x0, .ref a0] w2_ 0 0
  refine mp_callV hF (As := [.int x0]) (rest := []) (wr := [(mp_arI E a2 0 180 f1), (mp_arI E a3 0 90 f2), (mp_arI E a4 0 300 f3), (mp_arI E a5 0 300 f4), (mp_arI E a6 0 6 f5), (mp_arI E a7 0 6 f6), (mp_arI E a8 0 6 f7), (mp_arI E a9 3 1500 f8)]) (bX10_isPromise_55 E a0 a1 a10 a11 a12 a13 a14 a15 a2 a16 a3 a4 a5 a17 a6 a7 a8 a9 a18 a19 a20 a21 a22 a23 a24 a25 f0 0 y1 y2 y3 y4 y5 y6 y7 y8 y9 y10 y11 y12 y13 y14 y15 y16 y17 y18 y19 y20 y21 x0 p0 p1 p2 p3 p4 l_y1 u_y1 l_y2 u_y2 l_y3 u_y3 l_y4 u_y4 l_y11 u_y11 l_y12 u_y12 l_y13 u_y13) mp_lkX10_262 0 rfl [0, 1] [2, 3, 4, 5, 6, 7, 8, 9] rfl rfl rfl rfl rfl ⟨(Nat.le_of_ble_eq_true rfl), (Nat.le_of_ble_eq_true rfl), (Nat.le_of_ble_eq_true rfl), (Nat.le_of_ble_eq_true rfl)⟩ (Nat.le_of_ble_eq_true rfl) (by first | exact mp_fd_ok mp_k_cX10_halvings_ok (by decide +kernel) | decide +kernel) (fun v_1 w_2 h_3 => ?_)
  refine h_3.elim (fun q_9 => ?_) (fun q_10 => ?_)
  · skip
    refine q_9.elim fun e_11 q_12 => q_12.elim fun x_4 e_13 => ?_
    clear h_3 q_9 q_12
    subst e_11
    subst e_13
    let w3_ : va_W := [(mp_arI E a2 0 180 f1), (mp_arI E a3 0 90 f2), (mp_arI E a4 0 300 f3), (mp_arI E a5 0 300 f4), (mp_arI E a6 0 6 f5), (mp_arI E a7 0 6 f6), (mp_arI E a8 0 6 f7), (mp_arI E a9 3 1500 f8), (mp_ob10 a0 0 a10 a11 a12 a13 a14 y1 y2 y3 y4 y5 y6 y7 y8 y9 y10 a15 a1 a2 a16 a3 a4 a5 a17 y11 a6 a7 a8 a9 y12 y13 y14 a18 a19 y15 y16 a20 a21 a22 y17 y18 y19 y20 a23 a24 a25 y21), (mp_arI E a1 0 25 f0)]
    show mp_W E X 3 10 [(0, .ref a0), (1, .int x0), (2, .int x1)] [.int 0] w3_ 0 0
    refine mp_run mp_k_cX10_halvings_ok hF mp_tabX10_ok [mp_h (.ifCond .eq 10) [20]] (by decide +kernel) ?_
    refine And.intro (fun _ => ?_) (fun c_14 => absurd c_14 (by decide))
    show mp_W E X 3 20 [(0, .ref a0), (1, .int x0), (2, .int x1)] [] w3_ 0 0
    refine mp_run mp_k_cX10_halvings_ok hF mp_tabX10_ok [mp_c (.bipush (-2)) (-2)] (by decide +kernel) ?_
    show mp_W E X 3 22 [(0, .ref a0), (1, .int x0), (2, .int x1)] [.int (-2)] w3_ 0 0
    exact mp_iret hF hQ rfl rfl (Nat.le_of_ble_eq_true rfl) (Nat.le_of_ble_eq_true rfl) [8, 9, 0, 1, 2, 3, 4, 5, 6, 7] (w' := w2_) rfl rfl ⟨y11, f5, f6, f7, f8, (-2), rfl, l_y11, u_y11, p13, rfl⟩ (by first | exact mp_fd_ok mp_k_cX10_halvings_ok (by decide +kernel) | decide +kernel)
  · skip
    refine q_10.elim fun e_15 q_16 => q_16.elim fun c_5 q_17 => q_17.elim fun x_6 q_18 => q_18.elim fun x_7 q_19 => q_19.elim fun x_8 e_20 => ?_
    clear h_3 q_10 q_16 q_17 q_18 q_19
    subst e_15
    subst e_20
    have c_5 : 0 ≤ x0.toInt := c_5
    let w4_ : va_W := [(mp_arI E a2 0 180 f1), (mp_arI E a3 0 90 f2), (mp_arI E a4 0 300 f3), (mp_arI E a5 0 300 f4), (mp_arI E a6 0 6 f5), (mp_arI E a7 0 6 f6), (mp_arI E a8 0 6 f7), (mp_arI E a9 3 1500 f8), (mp_ob10 a0 0 a10 a11 a12 a13 a14 y1 y2 y3 y4 y5 y6 y7 y8 y9 y10 a15 a1 a2 a16 a3 a4 a5 a17 y11 a6 a7 a8 a9 y12 y13 y14 a18 a19 y15 y16 a20 a21 a22 y17 y18 y19 y20 a23 a24 a25 y21), (mp_arI E a1 0 25 f0)]
    show mp_W E X 3 10 [(0, .ref a0), (1, .int x0), (2, .int x1)] [.int 1] w4_ 0 0
    refine mp_run mp_k_cX10_halvings_ok hF mp_tabX10_ok [mp_h (.ifCond .eq 10) [20]] (by decide +kernel) ?_
    refine And.intro (fun c_21 => absurd c_21 (by decide)) (fun _ => ?_)
    show mp_W E X 3 13 [(0, .ref a0), (1, .int x0), (2, .int x1)] [] w4_ 0 0
    refine mp_run mp_k_cX10_halvings_ok hF mp_tabX10_ok [mp_i (.iload_n 2)] (by decide +kernel) ?_
    show mp_W E X 3 14 [(0, .ref a0), (1, .int x0), (2, .int x1)] [.int x1] w4_ 0 0
    refine mp_callS hF (As := [.int x1]) (rest := []) (wr := w4_) (bX10_isMoon_60 E x1) mp_lkX10_273 [] [0, 1, 2, 3, 4, 5, 6, 7, 8, 9] rfl rfl rfl rfl rfl ⟨(Nat.le_of_ble_eq_true rfl), (Nat.le_of_ble_eq_true rfl), (Nat.le_of_ble_eq_true rfl), (Nat.le_of_ble_eq_true rfl)⟩ (Nat.le_of_ble_eq_true rfl) (by first | exact mp_fd_ok mp_k_cX10_halvings_ok (by decide +kernel) | decide +kernel) (fun v_22 w_23 h_24 => ?_)
    rcases h_24 with ⟨rfl, x_25, rfl⟩ | ⟨rfl, c_26, c_27, x_28, rfl⟩
    · skip
      show mp_W E X 3 17 [(0, .ref a0), (1, .int x0), (2, .int x1)] [.int 0] w4_ 0 0
      refine mp_run mp_k_cX10_halvings_ok hF mp_tabX10_ok [mp_h (.ifCond .ne 6) [23]] (by decide +kernel) ?_
      refine And.intro (fun c_29 => absurd c_29 (by decide)) (fun _ => ?_)
      show mp_W E X 3 20 [(0, .ref a0), (1, .int x0), (2, .int x1)] [] w4_ 0 0
      refine mp_run mp_k_cX10_halvings_ok hF mp_tabX10_ok [mp_c (.bipush (-2)) (-2)] (by decide +kernel) ?_
      show mp_W E X 3 22 [(0, .ref a0), (1, .int x0), (2, .int x1)] [.int (-2)] w4_ 0 0
      exact mp_iret hF hQ rfl rfl (Nat.le_of_ble_eq_true rfl) (Nat.le_of_ble_eq_true rfl) [8, 9, 0, 1, 2, 3, 4, 5, 6, 7] (w' := w2_) rfl rfl ⟨y11, f5, f6, f7, f8, (-2), rfl, l_y11, u_y11, p13, rfl⟩ (by first | exact mp_fd_ok mp_k_cX10_halvings_ok (by decide +kernel) | decide +kernel)
    · skip
      have c_26 : 0 ≤ x1.toInt := c_26
      have c_27 : x1.toInt ≤ 99 := c_27
      show mp_W E X 3 17 [(0, .ref a0), (1, .int x0), (2, .int x1)] [.int 1] w4_ 0 0
      refine mp_run mp_k_cX10_halvings_ok hF mp_tabX10_ok [mp_h (.ifCond .ne 6) [23]] (by decide +kernel) ?_
      refine And.intro (fun _ => ?_) (fun c_30 => absurd c_30 (by decide))
      show mp_W E X 3 23 [(0, .ref a0), (1, .int x0), (2, .int x1)] [] w4_ 0 0
      refine mp_run mp_k_cX10_halvings_ok hF mp_tabX10_ok [mp_i (.aload_n 0)] (by decide +kernel) ?_
      show mp_W E X 3 24 [(0, .ref a0), (1, .int x0), (2, .int x1)] [.ref a0] w4_ 0 0
      refine mp_callV hF (As := []) (rest := []) (wr := [(mp_arI E a4 0 300 f3)]) (bX10_lays_62 E a0 a1 a2 a3 a5 a6 a7 a8 a9 a10 a11 a12 a13 a14 a15 a16 a4 a17 a18 a19 a20 a21 a22 a23 a24 a25 f0 f1 f2 f4 f5 f6 f7 f8 0 y1 y2 y3 y4 y5 y6 y7 y8 y9 y10 y11 y12 y13 y14 y15 y16 y17 y18 y19 y20 y21 p0 p1 p2 p3 p4 p5 p6 p7 p12 p13 l_y1 u_y1 l_y2 u_y2 l_y3 u_y3 l_y4 u_y4 l_y11 u_y11 l_y12 u_y12 l_y13 u_y13 (by (first | exact q1 | omega))) mp_lkX10_288 8 rfl [8, 9, 0, 1, 3, 4, 5, 6, 7] [2] rfl rfl rfl rfl rfl ⟨(Nat.le_of_ble_eq_true rfl), (Nat.le_of_ble_eq_true rfl), (Nat.le_of_ble_eq_true rfl), (Nat.le_of_ble_eq_true rfl)⟩ (Nat.le_of_ble_eq_true rfl) (by first | exact mp_fd_ok mp_k_cX10_halvings_ok (by decide +kernel) | decide +kernel) (fun v_31 w_32 h_33 => ?_)
      refine h_33.elim fun r_34 q_44 => q_44.elim fun g_35 q_45 => q_45.elim fun g_36 q_46 => q_46.elim fun g_37 q_47 => q_47.elim fun g_38 q_48 => q_48.elim fun e_49 q_50 => q_50.elim fun l_39 q_51 => q_51.elim fun u_40 q_52 => q_52.elim fun p_41 q_53 => q_53.elim fun x_42 q_54 => q_54.elim fun x_43 e_55 => ?_
      clear h_33 q_44 q_45 q_46 q_47 q_48 q_50 q_51 q_52 q_53 q_54
      subst e_49
      subst e_55
      let w5_ : va_W := [(mp_arI E a4 0 300 f3), (mp_ob10 a0 0 a10 a11 a12 a13 a14 y1 y2 y3 y4 y5 y6 y7 y8 y9 y10 a15 a1 a2 a16 a3 a4 a5 a17 r_34 a6 a7 a8 a9 y12 y13 y14 a18 a19 y15 y16 a20 a21 a22 y17 y18 y19 y20 a23 a24 a25 y21), (mp_arI E a1 0 25 f0), (mp_arI E a2 0 180 f1), (mp_arI E a3 0 90 f2), (mp_arI E a5 0 300 f4), (mp_arI E a6 0 6 g_35), (mp_arI E a7 0 6 g_36), (mp_arI E a8 0 6 g_37), (mp_arI E a9 3 1500 g_38)]
      show mp_W E X 3 27 [(0, .ref a0), (1, .int x0), (2, .int x1)] [] w5_ 0 0
      refine mp_run mp_k_cX10_halvings_ok hF mp_tabX10_ok [mp_i (.aload_n 0), mp_i (.iload_n 1), mp_i (.iload_n 2)] (by decide +kernel) ?_
      show mp_W E X 3 30 [(0, .ref a0), (1, .int x0), (2, .int x1)] [.int x1, .int x0, .ref a0] w5_ 0 0
      refine mp_callV hF (As := [.int x0, .int x1]) (rest := []) (wr := [(mp_arI E a2 0 180 f1), (mp_arI E a5 0 300 f4), (mp_arI E a6 0 6 g_35), (mp_arI E a7 0 6 g_36), (mp_arI E a8 0 6 g_37)]) (bX10_halvedOf_68 E 10 a0 a1 a3 a4 a9 a10 a11 a12 a13 a14 a15 a2 a16 a5 a17 a6 a7 a8 a18 a19 a20 a21 a22 a23 a24 a25 f0 f2 f3 g_38 0 y1 y2 y3 y4 y5 y6 y7 y8 y9 y10 r_34 y12 y13 y14 y15 y16 y17 y18 y19 y20 y21 x0 x1 p0 p1 p2 p3 p4 p6 p7 p8 p9 p10 p11 (by (first | exact c_5 | omega)) (by (first | exact x_7 | omega)) (by (first | exact c_26 | omega)) (by (first | exact mp_o1513 c_27 | omega)) l_y1 u_y1 l_y2 u_y2 l_y3 u_y3 l_y4 u_y4 l_39 u_40 l_y12 u_y12 l_y13 u_y13 (by first | assumption | (rw [rfl]; assumption)) (by (first | exact x_6 | omega)) (by first | (first | exact mp_o208 x_7 | omega) | (have h8 : (0 : Int32).toInt = 0 := rfl; omega))) mp_lkX10_282 1 rfl [1, 2, 4, 0, 9] [3, 5, 6, 7, 8] rfl rfl rfl rfl rfl ⟨(Nat.le_of_ble_eq_true rfl), (Nat.le_of_ble_eq_true rfl), (Nat.le_of_ble_eq_true rfl), (Nat.le_of_ble_eq_true rfl)⟩ (Nat.le_of_ble_eq_true rfl) (by first | exact mp_fd_ok mp_k_cX10_halvings_ok (by decide +kernel) | decide +kernel) (fun v_56 w_57 h_58 => ?_)
      obtain ⟨r_59, rfl, rfl⟩ := h_58
      let w6_ : va_W := [(mp_arI E a2 0 180 f1), (mp_arI E a5 0 300 f4), (mp_arI E a6 0 6 g_35), (mp_arI E a7 0 6 g_36), (mp_arI E a8 0 6 g_37), (mp_ob10 a0 0 a10 a11 a12 a13 a14 y1 y2 y3 y4 y5 y6 y7 y8 y9 y10 a15 a1 a2 a16 a3 a4 a5 a17 r_34 a6 a7 a8 a9 y12 y13 y14 a18 a19 y15 y16 a20 a21 a22 y17 y18 y19 y20 a23 a24 a25 y21), (mp_arI E a1 0 25 f0), (mp_arI E a3 0 90 f2), (mp_arI E a4 0 300 f3), (mp_arI E a9 3 1500 g_38)]
      show mp_W E X 3 33 [(0, .ref a0), (1, .int x0), (2, .int x1)] [.int r_59] w6_ 0 0
      exact mp_iret hF hQ rfl rfl (Nat.le_of_ble_eq_true rfl) (Nat.le_of_ble_eq_true rfl) [5, 6, 0, 7, 8, 1, 2, 3, 4, 9] (w' := [(mp_ob10 a0 0 a10 a11 a12 a13 a14 y1 y2 y3 y4 y5 y6 y7 y8 y9 y10 a15 a1 a2 a16 a3 a4 a5 a17 r_34 a6 a7 a8 a9 y12 y13 y14 a18 a19 y15 y16 a20 a21 a22 y17 y18 y19 y20 a23 a24 a25 y21), (mp_arI E a1 0 25 f0), (mp_arI E a2 0 180 f1), (mp_arI E a3 0 90 f2), (mp_arI E a4 0 300 f3), (mp_arI E a5 0 300 f4), (mp_arI E a6 0 6 g_35), (mp_arI E a7 0 6 g_36), (mp_arI E a8 0 6 g_37), (mp_arI E a9 3 1500 g_38)]) rfl rfl ⟨r_34, g_35, g_36, g_37, g_38, r_59, rfl, l_39, u_40, p_41, rfl⟩ (by first | exact mp_fd_ok mp_k_cX10_halvings_ok (by decide +kernel) | decide +kernel)
set_option maxHeartbeats 4000000 in
set_option maxRecDepth 100000 in
theorem bX10_of_70 (E : mp_E) (a0 a1 a2 a3 a4 a5 a6 a7 a8 a9 a10 a11 a12 a13 a14 a15 a16 a17 a18 a19 a20 a21 a22 a23 a24 a25 : Nat) (f0 : Nat → Int32) (y0 : Int32) (y1 : Int32) (y2 : Int32) (y3 : Int32) (y4 : Int32) (y5 : Int32) (y6 : Int64) (y7 : Int32) (y8 : Int32) (y9 : Int32) (y10 : Int32) (y11 : Int32) (y12 : Int32) (y13 : Int32) (y14 : Int32) (y15 : Int32) (y16 : Int32) (y17 : Int32) (y18 : Int32) (y19 : Int32) (y20 : Int32) (y21 : Int32) (x0 : Int32) (p0 : mp_res f0 300 6 0 0 5) (p1 : mp_res f0 300 6 1 0 5) (p2 : mp_res f0 300 6 3 0 99) (p3 : mp_res f0 300 6 4 0 1) (l_x0 : 0 ≤ x0.toInt) (u_x0 : x0.toInt ≤ 9) (l_y1 : 0 ≤ y1.toInt) (u_y1 : y1.toInt ≤ 1600) (l_y2 : 0 ≤ y2.toInt) (u_y2 : y2.toInt ≤ 1600) (l_y3 : 0 ≤ y3.toInt) (u_y3 : y3.toInt ≤ 4) (l_y4 : 0 ≤ y4.toInt) (u_y4 : y4.toInt ≤ 1600) (l_y11 : 0 ≤ y11.toInt) (u_y11 : y11.toInt ≤ 99) (l_y12 : 0 ≤ y12.toInt) (u_y12 : y12.toInt ≤ 5) (l_y13 : 0 ≤ y13.toInt) (u_y13 : y13.toInt ≤ 12) : mp_Ct E yX10_of cX10_of 3 (some FieldType.int) 0 0 0 0 [.ref a0, .int x0, .int 2] [(mp_ob10 a0 y0 a2 a3 a4 a5 a6 y1 y2 y3 y4 y5 y6 y7 y8 y9 y10 a7 a8 a9 a10 a11 a1 a12 a13 y11 a14 a15 a16 a17 y12 y13 y14 a18 a19 y15 y16 a20 a21 a22 y17 y18 y19 y20 a23 a24 a25 y21), (mp_arI E a1 0 300 f0)] (fun v w' => ∃ r1 : Int32, v = some (.int r1) ∧ (r1.toInt = (f0 (6 * x0.toInt.toNat + 2)).toInt) ∧ w' = [(mp_ob10 a0 y0 a2 a3 a4 a5 a6 y1 y2 y3 y4 y5 y6 y7 y8 y9 y10 a7 a8 a9 a10 a11 a1 a12 a13 y11 a14 a15 a16 a17 y12 y13 y14 a18 a19 y15 y16 a20 a21 a22 y17 y18 y19 y20 a23 a24 a25 y21), (mp_arI E a1 0 300 f0)]) := by
  refine mp_met false (by decide) (by decide) (Nat.le_of_ble_eq_true rfl) (fun X hF hQ => ?_)
  have hF : mp_F E X (RX10, cX10_of, 3, (0, 0, 0, 0), (some FieldType.int), false) := hF
  let w1_ : va_W := [(mp_ob10 a0 y0 a2 a3 a4 a5 a6 y1 y2 y3 y4 y5 y6 y7 y8 y9 y10 a7 a8 a9 a10 a11 a1 a12 a13 y11 a14 a15 a16 a17 y12 y13 y14 a18 a19 y15 y16 a20 a21 a22 y17 y18 y19 y20 a23 a24 a25 y21), (mp_arI E a1 0 300 f0)]
  show mp_W E X 3 0 [(0, .ref a0), (1, .int x0), (2, .int 2)] [] w1_ 0 0
  refine mp_run mp_k_cX10_of_ok hF mp_tabX10_ok [mp_i (.aload_n 0), mp_h (.getfield 47) [21, 0], mp_c (.bipush 6) 6, mp_i (.iload_n 1), mp_i .imul, mp_i (.iload_n 2), mp_i .iadd, mp_h .iaload [1]] (by decide +kernel) ?_
  refine And.intro rfl (And.intro rfl ?_)
  intro z_1 h_2
  have e_3 : z_1.toInt = 6 * x0.toInt := mp_mul (a := 6) (b := x0.toInt) h_2 (by decide) rfl (by (first | exact mp_o1152 l_x0 | omega)) (by (first | exact mp_o1411 u_x0 | omega))
  intro z_4 h_5
  have e_6 : z_4.toInt = z_1.toInt + 2 := mp_add (a := z_1.toInt) (b := 2) h_5 rfl (by decide) (by (first | exact mp_o1514 l_x0 e_3 | omega)) (by (first | exact mp_o1515 u_x0 e_3 | omega))
  refine And.intro rfl (And.intro rfl (And.intro (vp_in_iff.mpr (by (first | exact mp_o1516 l_x0 u_x0 e_3 e_6 | omega))) ?_))
  intro z_7 h_8
  have e_9 : z_7.toInt = (f0 (6 * x0.toInt + 2).toNat).toInt := mp_at_i h_8 (by (first | exact mp_o1517 l_x0 e_3 e_6 | omega))
  show mp_W E X 3 11 [(0, .ref a0), (1, .int x0), (2, .int 2)] [.int z_7] w1_ 0 0
  exact mp_iret hF hQ rfl rfl (Nat.le_of_ble_eq_true rfl) (Nat.le_of_ble_eq_true rfl) [0, 1] (w' := w1_) rfl rfl ⟨z_7, rfl, (mp_of_at h_8 (by (first | exact l_x0 | omega)) (by (first | exact mp_o1518 e_3 e_6 | omega))), rfl⟩ (by first | exact mp_fd_ok mp_k_cX10_of_ok (by decide +kernel) | decide +kernel)
set_option maxHeartbeats 4000000 in
set_option maxRecDepth 100000 in
theorem bX10_halved_71 (E : mp_E) (x0 : Int32) (x1 : Int32) : mp_Ct E yX10_halved cX10_halved 2 (some FieldType.int) 0 0 0 0 [.int x0, .int x1] [] (fun v w' => ∃ r1 : Int32, v = some (.int r1) ∧ (r1 = mp_hv x0 x1) ∧ w' = []) := by
  refine mp_met false (by decide) (by decide) (Nat.le_of_ble_eq_true rfl) (fun X hF hQ => ?_)
  have hF : mp_F E X (RX10, cX10_halved, 2, (0, 0, 0, 0), (some FieldType.int), false) := hF
  show mp_W E X 2 0 [(0, .int x0), (1, .int x1)] [] [] 0 0
  refine mp_run mp_k_cX10_halved_ok hF mp_tabX10_ok [mp_i (.iload_n 1), mp_c (.bipush 20) 20, mp_h (.if_icmp .le 7) [10]] (by decide +kernel) ?_
  refine And.intro (fun c_1 => ?_) (fun c_1 => ?_)
  · have c_1 : x1.toInt ≤ 20 := c_1
    show mp_W E X 2 10 [(0, .int x0), (1, .int x1)] [] [] 0 0
    refine mp_run mp_k_cX10_halved_ok hF mp_tabX10_ok [mp_i (.iload_n 0), mp_i .i2l, mp_cl (.lconst 1) 1, mp_i (.iload_n 1), mp_i .lshl, mp_i .ladd, mp_cl (.lconst 1) 1, mp_i .lsub, mp_i (.iload_n 1), mp_i .lshr, mp_i .l2i] (by decide +kernel) ?_
    intro z_2 h_3
    have e_4 : z_2.toInt = x0.toInt := mp_i2l h_3
    intro z_5 h_6
    intro z_7 h_8
    intro z_9 h_10
    intro z_11 h_12
    intro z_13 h_14
    show mp_W E X 2 21 [(0, .int x0), (1, .int x1)] [.int z_13] [] 0 0
    exact mp_iret hF hQ rfl rfl (Nat.le_of_ble_eq_true rfl) (Nat.le_of_ble_eq_true rfl) [] (w' := []) rfl rfl ⟨z_13, rfl, (by subst_vars; rw [mp_hv, if_neg (by (first | exact mp_o1519 c_1 | omega))]), rfl⟩ (by first | exact mp_fd_ok mp_k_cX10_halved_ok (by decide +kernel) | decide +kernel)
  · have c_1 : 20 < x1.toInt := c_1
    show mp_W E X 2 6 [(0, .int x0), (1, .int x1)] [] [] 0 0
    refine mp_run mp_k_cX10_halved_ok hF mp_tabX10_ok [mp_c (.iconst 1) 1, mp_h (.goto 14) [21]] (by decide +kernel) ?_
    show mp_W E X 2 21 [(0, .int x0), (1, .int x1)] [.int 1] [] 0 0
    exact mp_iret hF hQ rfl rfl (Nat.le_of_ble_eq_true rfl) (Nat.le_of_ble_eq_true rfl) [] (w' := []) rfl rfl ⟨1, rfl, (by rw [mp_hv, if_pos (by (first | exact c_1 | omega))]), rfl⟩ (by first | exact mp_fd_ok mp_k_cX10_halved_ok (by decide +kernel) | decide +kernel)
set_option maxHeartbeats 4000000 in
set_option maxRecDepth 100000 in
theorem bX10_worthOf_72 (E : mp_E) (a0 a1 a2 a3 a4 a5 a6 a7 a8 a9 a10 a11 a12 a13 a14 a15 a16 a17 a18 a19 a20 a21 a22 a23 a24 a25 : Nat) (f0 : Nat → Int32) (f1 : Nat → Int32) (f2 : Nat → Int32) (f3 : Nat → Int32) (y0 : Int32) (y1 : Int32) (y2 : Int32) (y3 : Int32) (y4 : Int32) (y5 : Int32) (y6 : Int64) (y7 : Int32) (y8 : Int32) (y9 : Int32) (y10 : Int32) (y11 : Int32) (y12 : Int32) (y13 : Int32) (y14 : Int32) (y15 : Int32) (y16 : Int32) (y17 : Int32) (y18 : Int32) (y19 : Int32) (y20 : Int32) (y21 : Int32) (x0 : Int32) (x1 : Int32) (p0 : mp_res f0 25 5 0 0 6) (p1 : mp_res f0 25 5 1 0 99) (p2 : mp_res f0 25 5 2 0 6) (p3 : mp_res f0 25 5 3 0 10) (p4 : mp_res f0 25 5 4 0 60) (p5 : mp_res f1 90 3 0 0 5) (p6 : mp_res f1 90 3 1 (-1) 99) (p7 : mp_res f2 300 6 0 0 5) (p8 : mp_res f2 300 6 1 0 5) (p9 : mp_res f2 300 6 3 0 99) (p10 : mp_res f2 300 6 4 0 1) (l_x0 : 0 ≤ x0.toInt) (u_x0 : x0.toInt ≤ 9) (l_x1 : 0 ≤ x1.toInt) (u_x1 : x1.toInt ≤ 139) (l_y1 : 0 ≤ y1.toInt) (u_y1 : y1.toInt ≤ 1600) (l_y2 : 0 ≤ y2.toInt) (u_y2 : y2.toInt ≤ 1600) (l_y3 : 0 ≤ y3.toInt) (u_y3 : y3.toInt ≤ 4) (l_y4 : 0 ≤ y4.toInt) (u_y4 : y4.toInt ≤ 1600) (l_y11 : 0 ≤ y11.toInt) (u_y11 : y11.toInt ≤ 99) (l_y12 : 0 ≤ y12.toInt) (u_y12 : y12.toInt ≤ 5) (l_y13 : 0 ≤ y13.toInt) (u_y13 : y13.toInt ≤ 12) (q0 : mp_prm f2 (f0 3).toInt) (q1 : x0.toInt < (f0 3).toInt) : mp_Ct E yX10_worthOf cX10_worthOf 4 (some FieldType.int) 13 0 0 311 [.ref a0, .int x0, .int x1] [(mp_ob10 a0 y0 a5 a6 a7 a8 a9 y1 y2 y3 y4 y5 y6 y7 y8 y9 y10 a10 a1 a11 a12 a2 a3 a13 a14 y11 a15 a16 a17 a4 y12 y13 y14 a18 a19 y15 y16 a20 a21 a22 y17 y18 y19 y20 a23 a24 a25 y21), (mp_arI E a1 0 25 f0), (mp_arI E a2 0 90 f1), (mp_arI E a3 0 300 f2), (mp_arI E a4 3 1500 f3)] (fun v w' => ∃ r1 : Int32, v = some (.int r1) ∧ w' = [(mp_ob10 a0 y0 a5 a6 a7 a8 a9 y1 y2 y3 y4 y5 y6 y7 y8 y9 y10 a10 a1 a11 a12 a2 a3 a13 a14 y11 a15 a16 a17 a4 y12 y13 y14 a18 a19 y15 y16 a20 a21 a22 y17 y18 y19 y20 a23 a24 a25 y21), (mp_arI E a1 0 25 f0), (mp_arI E a2 0 90 f1), (mp_arI E a3 0 300 f2), (mp_arI E a4 3 1500 f3)]) := by
  refine mp_met false (by decide) (by decide) (Nat.le_of_ble_eq_true rfl) (fun X hF hQ => ?_)
  have hF : mp_F E X (RX10, cX10_worthOf, 4, (13, 0, 0, 311), (some FieldType.int), false) := hF
  let w1_ : va_W := [(mp_ob10 a0 y0 a5 a6 a7 a8 a9 y1 y2 y3 y4 y5 y6 y7 y8 y9 y10 a10 a1 a11 a12 a2 a3 a13 a14 y11 a15 a16 a17 a4 y12 y13 y14 a18 a19 y15 y16 a20 a21 a22 y17 y18 y19 y20 a23 a24 a25 y21), (mp_arI E a1 0 25 f0), (mp_arI E a2 0 90 f1), (mp_arI E a3 0 300 f2), (mp_arI E a4 3 1500 f3)]
  show mp_W E X 4 0 [(0, .ref a0), (1, .int x0), (2, .int x1)] [] w1_ 0 0
  refine mp_run mp_k_cX10_worthOf_ok hF mp_tabX10_ok [mp_i (.aload_n 0), mp_i (.iload_n 1), mp_i (.iload_n 2)] (by decide +kernel) ?_
  show mp_W E X 4 3 [(0, .ref a0), (1, .int x0), (2, .int x1)] [.int x1, .int x0, .ref a0] w1_ 0 0
  refine mp_callV hF (As := [.int x0, .int x1]) (rest := []) (wr := []) (bX10_halvedOf_68 E 10 a0 a1 a2 a3 a4 a5 a6 a7 a8 a9 a10 a11 a12 a13 a14 a15 a16 a17 a18 a19 a20 a21 a22 a23 a24 a25 f0 f1 f2 f3 y0 y1 y2 y3 y4 y5 y6 y7 y8 y9 y10 y11 y12 y13 y14 y15 y16 y17 y18 y19 y20 y21 x0 x1 p0 p1 p2 p3 p4 p5 p6 p7 p8 p9 p10 l_x0 u_x0 l_x1 u_x1 l_y1 u_y1 l_y2 u_y2 l_y3 u_y3 l_y4 u_y4 l_y11 u_y11 l_y12 u_y12 l_y13 u_y13 (by first | assumption | (rw [rfl]; assumption)) (by (first | exact q1 | omega)) (by first | (first | exact mp_o208 u_x0 | omega) | (have h8 : (0 : Int32).toInt = 0 := rfl; omega))) mp_lkX10_282 0 rfl [0, 1, 2, 3, 4] [] rfl rfl rfl rfl rfl ⟨(Nat.le_of_ble_eq_true rfl), (Nat.le_of_ble_eq_true rfl), (Nat.le_of_ble_eq_true rfl), (Nat.le_of_ble_eq_true rfl)⟩ (Nat.le_of_ble_eq_true rfl) (by first | exact mp_fd_ok mp_k_cX10_worthOf_ok (by decide +kernel) | decide +kernel) (fun v_1 w_2 h_3 => ?_)
  obtain ⟨r_4, rfl, rfl⟩ := h_3
  show mp_W E X 4 6 [(0, .ref a0), (1, .int x0), (2, .int x1)] [.int r_4] w1_ 0 0
  refine mp_run mp_k_cX10_worthOf_ok hF mp_tabX10_ok [mp_i (.istore_n 3), mp_i (.iload_n 3), mp_c (.iconst (-1)) (-1), mp_h (.if_icmp .ne 7) [16]] (by decide +kernel) ?_
  refine And.intro (fun c_5 => ?_) (fun c_5 => ?_)
  · have c_5 : r_4.toInt ≠ (-1) := c_5
    show mp_W E X 4 16 [(3, .int r_4), (0, .ref a0), (1, .int x0), (2, .int x1)] [] w1_ 0 0
    refine mp_run mp_k_cX10_worthOf_ok hF mp_tabX10_ok [mp_i (.aload_n 0), mp_i (.iload_n 1), mp_c (.iconst 2) 2] (by decide +kernel) ?_
    show mp_W E X 4 19 [(3, .int r_4), (0, .ref a0), (1, .int x0), (2, .int x1)] [.int 2, .int x0, .ref a0] w1_ 0 0
    refine mp_callV hF (As := [.int x0, .int 2]) (rest := []) (wr := [(mp_arI E a1 0 25 f0), (mp_arI E a2 0 90 f1), (mp_arI E a4 3 1500 f3)]) (bX10_of_70 E a0 a3 a5 a6 a7 a8 a9 a10 a1 a11 a12 a2 a13 a14 a15 a16 a17 a4 a18 a19 a20 a21 a22 a23 a24 a25 f2 y0 y1 y2 y3 y4 y5 y6 y7 y8 y9 y10 y11 y12 y13 y14 y15 y16 y17 y18 y19 y20 y21 x0 p7 p8 p9 p10 l_x0 u_x0 l_y1 u_y1 l_y2 u_y2 l_y3 u_y3 l_y4 u_y4 l_y11 u_y11 l_y12 u_y12 l_y13 u_y13) mp_lkX10_267 0 rfl [0, 3] [1, 2, 4] rfl rfl rfl rfl rfl ⟨(Nat.le_of_ble_eq_true rfl), (Nat.le_of_ble_eq_true rfl), (Nat.le_of_ble_eq_true rfl), (Nat.le_of_ble_eq_true rfl)⟩ (Nat.le_of_ble_eq_true rfl) (by first | exact mp_fd_ok mp_k_cX10_worthOf_ok (by decide +kernel) | decide +kernel) (fun v_6 w_7 h_8 => ?_)
    obtain ⟨r_9, rfl, x_10, rfl⟩ := h_8
    let w2_ : va_W := [(mp_arI E a1 0 25 f0), (mp_arI E a2 0 90 f1), (mp_arI E a4 3 1500 f3), (mp_ob10 a0 y0 a5 a6 a7 a8 a9 y1 y2 y3 y4 y5 y6 y7 y8 y9 y10 a10 a1 a11 a12 a2 a3 a13 a14 y11 a15 a16 a17 a4 y12 y13 y14 a18 a19 y15 y16 a20 a21 a22 y17 y18 y19 y20 a23 a24 a25 y21), (mp_arI E a3 0 300 f2)]
    show mp_W E X 4 22 [(3, .int r_4), (0, .ref a0), (1, .int x0), (2, .int x1)] [.int r_9] w2_ 0 0
    refine mp_run mp_k_cX10_worthOf_ok hF mp_tabX10_ok [mp_i (.iload_n 3)] (by decide +kernel) ?_
    show mp_W E X 4 23 [(3, .int r_4), (0, .ref a0), (1, .int x0), (2, .int x1)] [.int r_4, .int r_9] w2_ 0 0
    refine mp_callS hF (As := [.int r_9, .int r_4]) (rest := []) (wr := w2_) (bX10_halved_71 E r_9 r_4) mp_lkX10_285 [] [0, 1, 2, 3, 4] rfl rfl rfl rfl rfl ⟨(Nat.le_of_ble_eq_true rfl), (Nat.le_of_ble_eq_true rfl), (Nat.le_of_ble_eq_true rfl), (Nat.le_of_ble_eq_true rfl)⟩ (Nat.le_of_ble_eq_true rfl) (by first | exact mp_fd_ok mp_k_cX10_worthOf_ok (by decide +kernel) | decide +kernel) (fun v_11 w_12 h_13 => ?_)
    obtain ⟨r_14, rfl, x_15, rfl⟩ := h_13
    show mp_W E X 4 26 [(3, .int r_4), (0, .ref a0), (1, .int x0), (2, .int x1)] [.int r_14] w2_ 0 0
    exact mp_iret hF hQ rfl rfl (Nat.le_of_ble_eq_true rfl) (Nat.le_of_ble_eq_true rfl) [3, 0, 1, 4, 2] (w' := w1_) rfl rfl ⟨r_14, rfl, rfl⟩ (by first | exact mp_fd_ok mp_k_cX10_worthOf_ok (by decide +kernel) | decide +kernel)
  · have c_5 : r_4.toInt = (-1) := (congrArg Int32.toInt c_5)
    show mp_W E X 4 12 [(3, .int r_4), (0, .ref a0), (1, .int x0), (2, .int x1)] [] w1_ 0 0
    refine mp_run mp_k_cX10_worthOf_ok hF mp_tabX10_ok [mp_c (.iconst 0) 0, mp_h (.goto 13) [26]] (by decide +kernel) ?_
    show mp_W E X 4 26 [(3, .int r_4), (0, .ref a0), (1, .int x0), (2, .int x1)] [.int 0] w1_ 0 0
    exact mp_iret hF hQ rfl rfl (Nat.le_of_ble_eq_true rfl) (Nat.le_of_ble_eq_true rfl) [0, 1, 2, 3, 4] (w' := w1_) rfl rfl ⟨0, rfl, rfl⟩ (by first | exact mp_fd_ok mp_k_cX10_worthOf_ok (by decide +kernel) | decide +kernel)
set_option maxHeartbeats 4000000 in
set_option maxRecDepth 100000 in
theorem bX10_worth_73 (E : mp_E) (a0 a1 a2 a3 a4 a5 a6 a7 a8 a9 a10 a11 a12 a13 a14 a15 a16 a17 a18 a19 a20 a21 a22 a23 a24 a25 : Nat) (f0 : Nat → Int32) (f1 : Nat → Int32) (f2 : Nat → Int32) (f3 : Nat → Int32) (f4 : Nat → Int32) (f5 : Nat → Int32) (f6 : Nat → Int32) (f7 : Nat → Int32) (f8 : Nat → Int32) (y0 : Int32) (y1 : Int32) (y2 : Int32) (y3 : Int32) (y4 : Int32) (y5 : Int32) (y6 : Int64) (y7 : Int32) (y8 : Int32) (y9 : Int32) (y10 : Int32) (y11 : Int32) (y12 : Int32) (y13 : Int32) (y14 : Int32) (y15 : Int32) (y16 : Int32) (y17 : Int32) (y18 : Int32) (y19 : Int32) (y20 : Int32) (y21 : Int32) (x0 : Int32) (x1 : Int32) (p0 : mp_res f0 25 5 0 0 6) (p1 : mp_res f0 25 5 1 0 99) (p2 : mp_res f0 25 5 2 0 6) (p3 : mp_res f0 25 5 3 0 10) (p4 : mp_res f0 25 5 4 0 60) (p5 : mp_all f1 180 0 20) (p6 : mp_res f2 90 3 0 0 5) (p7 : mp_res f2 90 3 1 (-1) 99) (p8 : mp_res f3 300 6 0 0 5) (p9 : mp_res f3 300 6 1 0 5) (p10 : mp_res f3 300 6 3 0 99) (p11 : mp_res f3 300 6 4 0 1) (p12 : mp_actm f4) (p13 : mp_all f5 6 0 5) (l_y1 : 0 ≤ y1.toInt) (u_y1 : y1.toInt ≤ 1600) (l_y2 : 0 ≤ y2.toInt) (u_y2 : y2.toInt ≤ 1600) (l_y3 : 0 ≤ y3.toInt) (u_y3 : y3.toInt ≤ 4) (l_y4 : 0 ≤ y4.toInt) (u_y4 : y4.toInt ≤ 1600) (l_y11 : 0 ≤ y11.toInt) (u_y11 : y11.toInt ≤ 99) (l_y12 : 0 ≤ y12.toInt) (u_y12 : y12.toInt ≤ 5) (l_y13 : 0 ≤ y13.toInt) (u_y13 : y13.toInt ≤ 12) (q0 : mp_prm f3 (f0 3).toInt) (q1 : (f0 1).toInt + mp_k200 f4 (f0 4).toInt ≤ 99) : mp_Ct E yX10_worth cX10_worth 3 (some FieldType.int) 14 0 0 334 [.ref a0, .int x0, .int x1] [(mp_ob10 a0 y0 a10 a11 a12 a13 a14 y1 y2 y3 y4 y5 y6 y7 y8 y9 y10 a15 a1 a2 a16 a3 a4 a5 a17 y11 a6 a7 a8 a9 y12 y13 y14 a18 a19 y15 y16 a20 a21 a22 y17 y18 y19 y20 a23 a24 a25 y21), (mp_arI E a1 0 25 f0), (mp_arI E a2 0 180 f1), (mp_arI E a3 0 90 f2), (mp_arI E a4 0 300 f3), (mp_arI E a5 0 300 f4), (mp_arI E a6 0 6 f5), (mp_arI E a7 0 6 f6), (mp_arI E a8 0 6 f7), (mp_arI E a9 3 1500 f8)] (fun v w' => ∃ r1 : Int32, ∃ h2 : Nat → Int32, ∃ h3 : Nat → Int32, ∃ h4 : Nat → Int32, ∃ h5 : Nat → Int32, ∃ r6 : Int32, v = some (.int r6) ∧ 0 ≤ r1.toInt ∧ r1.toInt ≤ 99 ∧ mp_all h2 6 0 5 ∧ w' = [(mp_ob10 a0 0 a10 a11 a12 a13 a14 y1 y2 y3 y4 y5 y6 y7 y8 y9 y10 a15 a1 a2 a16 a3 a4 a5 a17 r1 a6 a7 a8 a9 y12 y13 y14 a18 a19 y15 y16 a20 a21 a22 y17 y18 y19 y20 a23 a24 a25 y21), (mp_arI E a1 0 25 f0), (mp_arI E a2 0 180 f1), (mp_arI E a3 0 90 f2), (mp_arI E a4 0 300 f3), (mp_arI E a5 0 300 f4), (mp_arI E a6 0 6 h2), (mp_arI E a7 0 6 h3), (mp_arI E a8 0 6 h4), (mp_arI E a9 3 1500 h5)]) := by
  refine mp_met false (by decide) (by decide) (Nat.le_of_ble_eq_true rfl) (fun X hF hQ => ?_)
  have hF : mp_F E X (RX10, cX10_worth, 3, (14, 0, 0, 334), (some FieldType.int), false) := hF
  let w1_ : va_W := [(mp_ob10 a0 y0 a10 a11 a12 a13 a14 y1 y2 y3 y4 y5 y6 y7 y8 y9 y10 a15 a1 a2 a16 a3 a4 a5 a17 y11 a6 a7 a8 a9 y12 y13 y14 a18 a19 y15 y16 a20 a21 a22 y17 y18 y19 y20 a23 a24 a25 y21), (mp_arI E a1 0 25 f0), (mp_arI E a2 0 180 f1), (mp_arI E a3 0 90 f2), (mp_arI E a4 0 300 f3), (mp_arI E a5 0 300 f4), (mp_arI E a6 0 6 f5), (mp_arI E a7 0 6 f6), (mp_arI E a8 0 6 f7), (mp_arI E a9 3 1500 f8)]
  show mp_W E X 3 0 [(0, .ref a0), (1, .int x0), (2, .int x1)] [] w1_ 0 0
  refine mp_run mp_k_cX10_worth_ok hF mp_tabX10_ok [mp_i (.aload_n 0), mp_c (.iconst 0) 0, mp_h (.putfield 92) [0, 0]] (by decide +kernel) ?_
  refine And.intro rfl (And.intro rfl (And.intro rfl (And.intro rfl (And.intro (Nat.le_of_ble_eq_true rfl) ?_))))
  let w2_ : va_W := [(mp_ob10 a0 0 a10 a11 a12 a13 a14 y1 y2 y3 y4 y5 y6 y7 y8 y9 y10 a15 a1 a2 a16 a3 a4 a5 a17 y11 a6 a7 a8 a9 y12 y13 y14 a18 a19 y15 y16 a20 a21 a22 y17 y18 y19 y20 a23 a24 a25 y21), (mp_arI E a1 0 25 f0), (mp_arI E a2 0 180 f1), (mp_arI E a3 0 90 f2), (mp_arI E a4 0 300 f3), (mp_arI E a5 0 300 f4), (mp_arI E a6 0 6 f5), (mp_arI E a7 0 6 f6), (mp_arI E a8 0 6 f7), (mp_arI E a9 3 1500 f8)]
  show mp_W E X 3 5 [(0, .ref a0), (1, .int x0), (2, .int x1)] [] w2_ 0 0
  refine mp_run mp_k_cX10_worth_ok hF mp_tabX10_ok [mp_i (.aload_n 0), mp_i (.iload_n 1)] (by decide +kernel) ?_
  show mp_W E X 3 7 [(0, .ref a0), (1, .int x0), (2, .int x1)] [.int x0, .ref a0] w2_ 0 0
  refine mp_callV hF (As := [.int x0]) (rest := []) (wr := [(mp_arI E a2 0 180 f1), (mp_arI E a3 0 90 f2), (mp_arI E a4 0 300 f3), (mp_arI E a5 0 300 f4), (mp_arI E a6 0 6 f5), (mp_arI E a7 0 6 f6), (mp_arI E a8 0 6 f7), (mp_arI E a9 3 1500 f8)]) (bX10_isPromise_55 E a0 a1 a10 a11 a12 a13 a14 a15 a2 a16 a3 a4 a5 a17 a6 a7 a8 a9 a18 a19 a20 a21 a22 a23 a24 a25 f0 0 y1 y2 y3 y4 y5 y6 y7 y8 y9 y10 y11 y12 y13 y14 y15 y16 y17 y18 y19 y20 y21 x0 p0 p1 p2 p3 p4 l_y1 u_y1 l_y2 u_y2 l_y3 u_y3 l_y4 u_y4 l_y11 u_y11 l_y12 u_y12 l_y13 u_y13) mp_lkX10_262 0 rfl [0, 1] [2, 3, 4, 5, 6, 7, 8, 9] rfl rfl rfl rfl rfl ⟨(Nat.le_of_ble_eq_true rfl), (Nat.le_of_ble_eq_true rfl), (Nat.le_of_ble_eq_true rfl), (Nat.le_of_ble_eq_true rfl)⟩ (Nat.le_of_ble_eq_true rfl) (by first | exact mp_fd_ok mp_k_cX10_worth_ok (by decide +kernel) | decide +kernel) (fun v_1 w_2 h_3 => ?_)
  refine h_3.elim (fun q_9 => ?_) (fun q_10 => ?_)
  · skip
    refine q_9.elim fun e_11 q_12 => q_12.elim fun x_4 e_13 => ?_
    clear h_3 q_9 q_12
    subst e_11
    subst e_13
    let w3_ : va_W := [(mp_arI E a2 0 180 f1), (mp_arI E a3 0 90 f2), (mp_arI E a4 0 300 f3), (mp_arI E a5 0 300 f4), (mp_arI E a6 0 6 f5), (mp_arI E a7 0 6 f6), (mp_arI E a8 0 6 f7), (mp_arI E a9 3 1500 f8), (mp_ob10 a0 0 a10 a11 a12 a13 a14 y1 y2 y3 y4 y5 y6 y7 y8 y9 y10 a15 a1 a2 a16 a3 a4 a5 a17 y11 a6 a7 a8 a9 y12 y13 y14 a18 a19 y15 y16 a20 a21 a22 y17 y18 y19 y20 a23 a24 a25 y21), (mp_arI E a1 0 25 f0)]
    show mp_W E X 3 10 [(0, .ref a0), (1, .int x0), (2, .int x1)] [.int 0] w3_ 0 0
    refine mp_run mp_k_cX10_worth_ok hF mp_tabX10_ok [mp_h (.ifCond .eq 10) [20]] (by decide +kernel) ?_
    refine And.intro (fun _ => ?_) (fun c_14 => absurd c_14 (by decide))
    show mp_W E X 3 20 [(0, .ref a0), (1, .int x0), (2, .int x1)] [] w3_ 0 0
    refine mp_run mp_k_cX10_worth_ok hF mp_tabX10_ok [mp_c (.bipush (-2)) (-2)] (by decide +kernel) ?_
    show mp_W E X 3 22 [(0, .ref a0), (1, .int x0), (2, .int x1)] [.int (-2)] w3_ 0 0
    exact mp_iret hF hQ rfl rfl (Nat.le_of_ble_eq_true rfl) (Nat.le_of_ble_eq_true rfl) [8, 9, 0, 1, 2, 3, 4, 5, 6, 7] (w' := w2_) rfl rfl ⟨y11, f5, f6, f7, f8, (-2), rfl, l_y11, u_y11, p13, rfl⟩ (by first | exact mp_fd_ok mp_k_cX10_worth_ok (by decide +kernel) | decide +kernel)
  · skip
    refine q_10.elim fun e_15 q_16 => q_16.elim fun c_5 q_17 => q_17.elim fun x_6 q_18 => q_18.elim fun x_7 q_19 => q_19.elim fun x_8 e_20 => ?_
    clear h_3 q_10 q_16 q_17 q_18 q_19
    subst e_15
    subst e_20
    have c_5 : 0 ≤ x0.toInt := c_5
    let w4_ : va_W := [(mp_arI E a2 0 180 f1), (mp_arI E a3 0 90 f2), (mp_arI E a4 0 300 f3), (mp_arI E a5 0 300 f4), (mp_arI E a6 0 6 f5), (mp_arI E a7 0 6 f6), (mp_arI E a8 0 6 f7), (mp_arI E a9 3 1500 f8), (mp_ob10 a0 0 a10 a11 a12 a13 a14 y1 y2 y3 y4 y5 y6 y7 y8 y9 y10 a15 a1 a2 a16 a3 a4 a5 a17 y11 a6 a7 a8 a9 y12 y13 y14 a18 a19 y15 y16 a20 a21 a22 y17 y18 y19 y20 a23 a24 a25 y21), (mp_arI E a1 0 25 f0)]
    show mp_W E X 3 10 [(0, .ref a0), (1, .int x0), (2, .int x1)] [.int 1] w4_ 0 0
    refine mp_run mp_k_cX10_worth_ok hF mp_tabX10_ok [mp_h (.ifCond .eq 10) [20]] (by decide +kernel) ?_
    refine And.intro (fun c_21 => absurd c_21 (by decide)) (fun _ => ?_)
    show mp_W E X 3 13 [(0, .ref a0), (1, .int x0), (2, .int x1)] [] w4_ 0 0
    refine mp_run mp_k_cX10_worth_ok hF mp_tabX10_ok [mp_i (.iload_n 2)] (by decide +kernel) ?_
    show mp_W E X 3 14 [(0, .ref a0), (1, .int x0), (2, .int x1)] [.int x1] w4_ 0 0
    refine mp_callS hF (As := [.int x1]) (rest := []) (wr := w4_) (bX10_isMoon_60 E x1) mp_lkX10_273 [] [0, 1, 2, 3, 4, 5, 6, 7, 8, 9] rfl rfl rfl rfl rfl ⟨(Nat.le_of_ble_eq_true rfl), (Nat.le_of_ble_eq_true rfl), (Nat.le_of_ble_eq_true rfl), (Nat.le_of_ble_eq_true rfl)⟩ (Nat.le_of_ble_eq_true rfl) (by first | exact mp_fd_ok mp_k_cX10_worth_ok (by decide +kernel) | decide +kernel) (fun v_22 w_23 h_24 => ?_)
    rcases h_24 with ⟨rfl, x_25, rfl⟩ | ⟨rfl, c_26, c_27, x_28, rfl⟩
    · skip
      show mp_W E X 3 17 [(0, .ref a0), (1, .int x0), (2, .int x1)] [.int 0] w4_ 0 0
      refine mp_run mp_k_cX10_worth_ok hF mp_tabX10_ok [mp_h (.ifCond .ne 6) [23]] (by decide +kernel) ?_
      refine And.intro (fun c_29 => absurd c_29 (by decide)) (fun _ => ?_)
      show mp_W E X 3 20 [(0, .ref a0), (1, .int x0), (2, .int x1)] [] w4_ 0 0
      refine mp_run mp_k_cX10_worth_ok hF mp_tabX10_ok [mp_c (.bipush (-2)) (-2)] (by decide +kernel) ?_
      show mp_W E X 3 22 [(0, .ref a0), (1, .int x0), (2, .int x1)] [.int (-2)] w4_ 0 0
      exact mp_iret hF hQ rfl rfl (Nat.le_of_ble_eq_true rfl) (Nat.le_of_ble_eq_true rfl) [8, 9, 0, 1, 2, 3, 4, 5, 6, 7] (w' := w2_) rfl rfl ⟨y11, f5, f6, f7, f8, (-2), rfl, l_y11, u_y11, p13, rfl⟩ (by first | exact mp_fd_ok mp_k_cX10_worth_ok (by decide +kernel) | decide +kernel)
    · skip
      have c_26 : 0 ≤ x1.toInt := c_26
      have c_27 : x1.toInt ≤ 99 := c_27
      show mp_W E X 3 17 [(0, .ref a0), (1, .int x0), (2, .int x1)] [.int 1] w4_ 0 0
      refine mp_run mp_k_cX10_worth_ok hF mp_tabX10_ok [mp_h (.ifCond .ne 6) [23]] (by decide +kernel) ?_
      refine And.intro (fun _ => ?_) (fun c_30 => absurd c_30 (by decide))
      show mp_W E X 3 23 [(0, .ref a0), (1, .int x0), (2, .int x1)] [] w4_ 0 0
      refine mp_run mp_k_cX10_worth_ok hF mp_tabX10_ok [mp_i (.aload_n 0)] (by decide +kernel) ?_
      show mp_W E X 3 24 [(0, .ref a0), (1, .int x0), (2, .int x1)] [.ref a0] w4_ 0 0
      refine mp_callV hF (As := []) (rest := []) (wr := [(mp_arI E a4 0 300 f3)]) (bX10_lays_62 E a0 a1 a2 a3 a5 a6 a7 a8 a9 a10 a11 a12 a13 a14 a15 a16 a4 a17 a18 a19 a20 a21 a22 a23 a24 a25 f0 f1 f2 f4 f5 f6 f7 f8 0 y1 y2 y3 y4 y5 y6 y7 y8 y9 y10 y11 y12 y13 y14 y15 y16 y17 y18 y19 y20 y21 p0 p1 p2 p3 p4 p5 p6 p7 p12 p13 l_y1 u_y1 l_y2 u_y2 l_y3 u_y3 l_y4 u_y4 l_y11 u_y11 l_y12 u_y12 l_y13 u_y13 (by (first | exact q1 | omega))) mp_lkX10_288 8 rfl [8, 9, 0, 1, 3, 4, 5, 6, 7] [2] rfl rfl rfl rfl rfl ⟨(Nat.le_of_ble_eq_true rfl), (Nat.le_of_ble_eq_true rfl), (Nat.le_of_ble_eq_true rfl), (Nat.le_of_ble_eq_true rfl)⟩ (Nat.le_of_ble_eq_true rfl) (by first | exact mp_fd_ok mp_k_cX10_worth_ok (by decide +kernel) | decide +kernel) (fun v_31 w_32 h_33 => ?_)
      refine h_33.elim fun r_34 q_44 => q_44.elim fun g_35 q_45 => q_45.elim fun g_36 q_46 => q_46.elim fun g_37 q_47 => q_47.elim fun g_38 q_48 => q_48.elim fun e_49 q_50 => q_50.elim fun l_39 q_51 => q_51.elim fun u_40 q_52 => q_52.elim fun p_41 q_53 => q_53.elim fun x_42 q_54 => q_54.elim fun x_43 e_55 => ?_
      clear h_33 q_44 q_45 q_46 q_47 q_48 q_50 q_51 q_52 q_53 q_54
      subst e_49
      subst e_55
      let w5_ : va_W := [(mp_arI E a4 0 300 f3), (mp_ob10 a0 0 a10 a11 a12 a13 a14 y1 y2 y3 y4 y5 y6 y7 y8 y9 y10 a15 a1 a2 a16 a3 a4 a5 a17 r_34 a6 a7 a8 a9 y12 y13 y14 a18 a19 y15 y16 a20 a21 a22 y17 y18 y19 y20 a23 a24 a25 y21), (mp_arI E a1 0 25 f0), (mp_arI E a2 0 180 f1), (mp_arI E a3 0 90 f2), (mp_arI E a5 0 300 f4), (mp_arI E a6 0 6 g_35), (mp_arI E a7 0 6 g_36), (mp_arI E a8 0 6 g_37), (mp_arI E a9 3 1500 g_38)]
      show mp_W E X 3 27 [(0, .ref a0), (1, .int x0), (2, .int x1)] [] w5_ 0 0
      refine mp_run mp_k_cX10_worth_ok hF mp_tabX10_ok [mp_i (.aload_n 0), mp_i (.iload_n 1), mp_i (.iload_n 2)] (by decide +kernel) ?_
      show mp_W E X 3 30 [(0, .ref a0), (1, .int x0), (2, .int x1)] [.int x1, .int x0, .ref a0] w5_ 0 0
      refine mp_callV hF (As := [.int x0, .int x1]) (rest := []) (wr := [(mp_arI E a2 0 180 f1), (mp_arI E a5 0 300 f4), (mp_arI E a6 0 6 g_35), (mp_arI E a7 0 6 g_36), (mp_arI E a8 0 6 g_37)]) (bX10_worthOf_72 E a0 a1 a3 a4 a9 a10 a11 a12 a13 a14 a15 a2 a16 a5 a17 a6 a7 a8 a18 a19 a20 a21 a22 a23 a24 a25 f0 f2 f3 g_38 0 y1 y2 y3 y4 y5 y6 y7 y8 y9 y10 r_34 y12 y13 y14 y15 y16 y17 y18 y19 y20 y21 x0 x1 p0 p1 p2 p3 p4 p6 p7 p8 p9 p10 p11 (by (first | exact c_5 | omega)) (by (first | exact x_7 | omega)) (by (first | exact c_26 | omega)) (by (first | exact mp_o1513 c_27 | omega)) l_y1 u_y1 l_y2 u_y2 l_y3 u_y3 l_y4 u_y4 l_39 u_40 l_y12 u_y12 l_y13 u_y13 (by first | assumption | (rw [rfl]; assumption)) (by (first | exact x_6 | omega))) mp_lkX10_291 1 rfl [1, 2, 4, 0, 9] [3, 5, 6, 7, 8] rfl rfl rfl rfl rfl ⟨(Nat.le_of_ble_eq_true rfl), (Nat.le_of_ble_eq_true rfl), (Nat.le_of_ble_eq_true rfl), (Nat.le_of_ble_eq_true rfl)⟩ (Nat.le_of_ble_eq_true rfl) (by first | exact mp_fd_ok mp_k_cX10_worth_ok (by decide +kernel) | decide +kernel) (fun v_56 w_57 h_58 => ?_)
      obtain ⟨r_59, rfl, rfl⟩ := h_58
      let w6_ : va_W := [(mp_arI E a2 0 180 f1), (mp_arI E a5 0 300 f4), (mp_arI E a6 0 6 g_35), (mp_arI E a7 0 6 g_36), (mp_arI E a8 0 6 g_37), (mp_ob10 a0 0 a10 a11 a12 a13 a14 y1 y2 y3 y4 y5 y6 y7 y8 y9 y10 a15 a1 a2 a16 a3 a4 a5 a17 r_34 a6 a7 a8 a9 y12 y13 y14 a18 a19 y15 y16 a20 a21 a22 y17 y18 y19 y20 a23 a24 a25 y21), (mp_arI E a1 0 25 f0), (mp_arI E a3 0 90 f2), (mp_arI E a4 0 300 f3), (mp_arI E a9 3 1500 g_38)]
      show mp_W E X 3 33 [(0, .ref a0), (1, .int x0), (2, .int x1)] [.int r_59] w6_ 0 0
      exact mp_iret hF hQ rfl rfl (Nat.le_of_ble_eq_true rfl) (Nat.le_of_ble_eq_true rfl) [5, 6, 0, 7, 8, 1, 2, 3, 4, 9] (w' := [(mp_ob10 a0 0 a10 a11 a12 a13 a14 y1 y2 y3 y4 y5 y6 y7 y8 y9 y10 a15 a1 a2 a16 a3 a4 a5 a17 r_34 a6 a7 a8 a9 y12 y13 y14 a18 a19 y15 y16 a20 a21 a22 y17 y18 y19 y20 a23 a24 a25 y21), (mp_arI E a1 0 25 f0), (mp_arI E a2 0 180 f1), (mp_arI E a3 0 90 f2), (mp_arI E a4 0 300 f3), (mp_arI E a5 0 300 f4), (mp_arI E a6 0 6 g_35), (mp_arI E a7 0 6 g_36), (mp_arI E a8 0 6 g_37), (mp_arI E a9 3 1500 g_38)]) rfl rfl ⟨r_34, g_35, g_36, g_37, g_38, r_59, rfl, l_39, u_40, p_41, rfl⟩ (by first | exact mp_fd_ok mp_k_cX10_worth_ok (by decide +kernel) | decide +kernel)
set_option maxHeartbeats 4000000 in
set_option maxRecDepth 100000 in
theorem bX10_falls_74 (E : mp_E) (a0 a1 a2 a3 a4 a5 a6 a7 a8 a9 a10 a11 a12 a13 a14 a15 a16 a17 a18 a19 a20 a21 a22 a23 a24 a25 : Nat) (f0 : Nat → Int32) (f1 : Nat → Int32) (f2 : Nat → Int32) (f3 : Nat → Int32) (f4 : Nat → Int32) (f5 : Nat → Int32) (f6 : Nat → Int32) (f7 : Nat → Int32) (f8 : Nat → Int32) (y0 : Int32) (y1 : Int32) (y2 : Int32) (y3 : Int32) (y4 : Int32) (y5 : Int32) (y6 : Int64) (y7 : Int32) (y8 : Int32) (y9 : Int32) (y10 : Int32) (y11 : Int32) (y12 : Int32) (y13 : Int32) (y14 : Int32) (y15 : Int32) (y16 : Int32) (y17 : Int32) (y18 : Int32) (y19 : Int32) (y20 : Int32) (y21 : Int32) (x0 : Int32) (x1 : Int32) (p0 : mp_res f0 25 5 0 0 6) (p1 : mp_res f0 25 5 1 0 99) (p2 : mp_res f0 25 5 2 0 6) (p3 : mp_res f0 25 5 3 0 10) (p4 : mp_res f0 25 5 4 0 60) (p5 : mp_all f1 180 0 20) (p6 : mp_res f2 90 3 0 0 5) (p7 : mp_res f2 90 3 1 (-1) 99) (p8 : mp_res f3 300 6 0 0 5) (p9 : mp_res f3 300 6 1 0 5) (p10 : mp_res f3 300 6 3 0 99) (p11 : mp_res f3 300 6 4 0 1) (p12 : mp_actm f4) (p13 : mp_all f5 6 0 5) (l_y1 : 0 ≤ y1.toInt) (u_y1 : y1.toInt ≤ 1600) (l_y2 : 0 ≤ y2.toInt) (u_y2 : y2.toInt ≤ 1600) (l_y3 : 0 ≤ y3.toInt) (u_y3 : y3.toInt ≤ 4) (l_y4 : 0 ≤ y4.toInt) (u_y4 : y4.toInt ≤ 1600) (l_y11 : 0 ≤ y11.toInt) (u_y11 : y11.toInt ≤ 99) (l_y12 : 0 ≤ y12.toInt) (u_y12 : y12.toInt ≤ 5) (l_y13 : 0 ≤ y13.toInt) (u_y13 : y13.toInt ≤ 12) (q0 : mp_prm f3 (f0 3).toInt) (q1 : (f0 1).toInt + mp_k200 f4 (f0 4).toInt ≤ 99) : mp_Ct E yX10_falls cX10_falls 4 (some FieldType.int) 14 0 0 334 [.ref a0, .int x0, .int x1] [(mp_ob10 a0 y0 a10 a11 a12 a13 a14 y1 y2 y3 y4 y5 y6 y7 y8 y9 y10 a15 a1 a2 a16 a3 a4 a5 a17 y11 a6 a7 a8 a9 y12 y13 y14 a18 a19 y15 y16 a20 a21 a22 y17 y18 y19 y20 a23 a24 a25 y21), (mp_arI E a1 0 25 f0), (mp_arI E a2 0 180 f1), (mp_arI E a3 0 90 f2), (mp_arI E a4 0 300 f3), (mp_arI E a5 0 300 f4), (mp_arI E a6 0 6 f5), (mp_arI E a7 0 6 f6), (mp_arI E a8 0 6 f7), (mp_arI E a9 3 1500 f8)] (fun v w' => ∃ r1 : Int32, ∃ h2 : Nat → Int32, ∃ h3 : Nat → Int32, ∃ h4 : Nat → Int32, ∃ h5 : Nat → Int32, ∃ r6 : Int32, v = some (.int r6) ∧ 0 ≤ r1.toInt ∧ r1.toInt ≤ 99 ∧ (-2) ≤ r6.toInt ∧ r6.toInt ≤ 99 ∧ mp_all h2 6 0 5 ∧ w' = [(mp_ob10 a0 0 a10 a11 a12 a13 a14 y1 y2 y3 y4 y5 y6 y7 y8 y9 y10 a15 a1 a2 a16 a3 a4 a5 a17 r1 a6 a7 a8 a9 y12 y13 y14 a18 a19 y15 y16 a20 a21 a22 y17 y18 y19 y20 a23 a24 a25 y21), (mp_arI E a1 0 25 f0), (mp_arI E a2 0 180 f1), (mp_arI E a3 0 90 f2), (mp_arI E a4 0 300 f3), (mp_arI E a5 0 300 f4), (mp_arI E a6 0 6 h2), (mp_arI E a7 0 6 h3), (mp_arI E a8 0 6 h4), (mp_arI E a9 3 1500 h5)]) := by
  refine mp_met false (by decide) (by decide) (Nat.le_of_ble_eq_true rfl) (fun X hF hQ => ?_)
  have hF : mp_F E X (RX10, cX10_falls, 4, (14, 0, 0, 334), (some FieldType.int), false) := hF
  let w1_ : va_W := [(mp_ob10 a0 y0 a10 a11 a12 a13 a14 y1 y2 y3 y4 y5 y6 y7 y8 y9 y10 a15 a1 a2 a16 a3 a4 a5 a17 y11 a6 a7 a8 a9 y12 y13 y14 a18 a19 y15 y16 a20 a21 a22 y17 y18 y19 y20 a23 a24 a25 y21), (mp_arI E a1 0 25 f0), (mp_arI E a2 0 180 f1), (mp_arI E a3 0 90 f2), (mp_arI E a4 0 300 f3), (mp_arI E a5 0 300 f4), (mp_arI E a6 0 6 f5), (mp_arI E a7 0 6 f6), (mp_arI E a8 0 6 f7), (mp_arI E a9 3 1500 f8)]
  show mp_W E X 4 0 [(0, .ref a0), (1, .int x0), (2, .int x1)] [] w1_ 0 0
  refine mp_run mp_k_cX10_falls_ok hF mp_tabX10_ok [mp_i (.aload_n 0), mp_c (.iconst 0) 0, mp_h (.putfield 92) [0, 0]] (by decide +kernel) ?_
  refine And.intro rfl (And.intro rfl (And.intro rfl (And.intro rfl (And.intro (Nat.le_of_ble_eq_true rfl) ?_))))
  let w2_ : va_W := [(mp_ob10 a0 0 a10 a11 a12 a13 a14 y1 y2 y3 y4 y5 y6 y7 y8 y9 y10 a15 a1 a2 a16 a3 a4 a5 a17 y11 a6 a7 a8 a9 y12 y13 y14 a18 a19 y15 y16 a20 a21 a22 y17 y18 y19 y20 a23 a24 a25 y21), (mp_arI E a1 0 25 f0), (mp_arI E a2 0 180 f1), (mp_arI E a3 0 90 f2), (mp_arI E a4 0 300 f3), (mp_arI E a5 0 300 f4), (mp_arI E a6 0 6 f5), (mp_arI E a7 0 6 f6), (mp_arI E a8 0 6 f7), (mp_arI E a9 3 1500 f8)]
  show mp_W E X 4 5 [(0, .ref a0), (1, .int x0), (2, .int x1)] [] w2_ 0 0
  refine mp_run mp_k_cX10_falls_ok hF mp_tabX10_ok [mp_i (.aload_n 0), mp_i (.iload_n 1)] (by decide +kernel) ?_
  show mp_W E X 4 7 [(0, .ref a0), (1, .int x0), (2, .int x1)] [.int x0, .ref a0] w2_ 0 0
  refine mp_callV hF (As := [.int x0]) (rest := []) (wr := [(mp_arI E a2 0 180 f1), (mp_arI E a3 0 90 f2), (mp_arI E a4 0 300 f3), (mp_arI E a5 0 300 f4), (mp_arI E a6 0 6 f5), (mp_arI E a7 0 6 f6), (mp_arI E a8 0 6 f7), (mp_arI E a9 3 1500 f8)]) (bX10_isPromise_55 E a0 a1 a10 a11 a12 a13 a14 a15 a2 a16 a3 a4 a5 a17 a6 a7 a8 a9 a18 a19 a20 a21 a22 a23 a24 a25 f0 0 y1 y2 y3 y4 y5 y6 y7 y8 y9 y10 y11 y12 y13 y14 y15 y16 y17 y18 y19 y20 y21 x0 p0 p1 p2 p3 p4 l_y1 u_y1 l_y2 u_y2 l_y3 u_y3 l_y4 u_y4 l_y11 u_y11 l_y12 u_y12 l_y13 u_y13) mp_lkX10_262 0 rfl [0, 1] [2, 3, 4, 5, 6, 7, 8, 9] rfl rfl rfl rfl rfl ⟨(Nat.le_of_ble_eq_true rfl), (Nat.le_of_ble_eq_true rfl), (Nat.le_of_ble_eq_true rfl), (Nat.le_of_ble_eq_true rfl)⟩ (Nat.le_of_ble_eq_true rfl) (by first | exact mp_fd_ok mp_k_cX10_falls_ok (by decide +kernel) | decide +kernel) (fun v_1 w_2 h_3 => ?_)
  refine h_3.elim (fun q_9 => ?_) (fun q_10 => ?_)
  · skip
    refine q_9.elim fun e_11 q_12 => q_12.elim fun x_4 e_13 => ?_
    clear h_3 q_9 q_12
    subst e_11
    subst e_13
    let w3_ : va_W := [(mp_arI E a2 0 180 f1), (mp_arI E a3 0 90 f2), (mp_arI E a4 0 300 f3), (mp_arI E a5 0 300 f4), (mp_arI E a6 0 6 f5), (mp_arI E a7 0 6 f6), (mp_arI E a8 0 6 f7), (mp_arI E a9 3 1500 f8), (mp_ob10 a0 0 a10 a11 a12 a13 a14 y1 y2 y3 y4 y5 y6 y7 y8 y9 y10 a15 a1 a2 a16 a3 a4 a5 a17 y11 a6 a7 a8 a9 y12 y13 y14 a18 a19 y15 y16 a20 a21 a22 y17 y18 y19 y20 a23 a24 a25 y21), (mp_arI E a1 0 25 f0)]
    show mp_W E X 4 10 [(0, .ref a0), (1, .int x0), (2, .int x1)] [.int 0] w3_ 0 0
    refine mp_run mp_k_cX10_falls_ok hF mp_tabX10_ok [mp_h (.ifCond .ne 6) [16]] (by decide +kernel) ?_
    refine And.intro (fun c_14 => absurd c_14 (by decide)) (fun _ => ?_)
    show mp_W E X 4 13 [(0, .ref a0), (1, .int x0), (2, .int x1)] [] w3_ 0 0
    refine mp_run mp_k_cX10_falls_ok hF mp_tabX10_ok [mp_c (.bipush (-2)) (-2)] (by decide +kernel) ?_
    show mp_W E X 4 15 [(0, .ref a0), (1, .int x0), (2, .int x1)] [.int (-2)] w3_ 0 0
    exact mp_iret hF hQ rfl rfl (Nat.le_of_ble_eq_true rfl) (Nat.le_of_ble_eq_true rfl) [8, 9, 0, 1, 2, 3, 4, 5, 6, 7] (w' := w2_) rfl rfl ⟨y11, f5, f6, f7, f8, (-2), rfl, l_y11, u_y11, (by decide), (by decide), p13, rfl⟩ (by first | exact mp_fd_ok mp_k_cX10_falls_ok (by decide +kernel) | decide +kernel)
  · skip
    refine q_10.elim fun e_15 q_16 => q_16.elim fun c_5 q_17 => q_17.elim fun x_6 q_18 => q_18.elim fun x_7 q_19 => q_19.elim fun x_8 e_20 => ?_
    clear h_3 q_10 q_16 q_17 q_18 q_19
    subst e_15
    subst e_20
    have c_5 : 0 ≤ x0.toInt := c_5
    let w4_ : va_W := [(mp_arI E a2 0 180 f1), (mp_arI E a3 0 90 f2), (mp_arI E a4 0 300 f3), (mp_arI E a5 0 300 f4), (mp_arI E a6 0 6 f5), (mp_arI E a7 0 6 f6), (mp_arI E a8 0 6 f7), (mp_arI E a9 3 1500 f8), (mp_ob10 a0 0 a10 a11 a12 a13 a14 y1 y2 y3 y4 y5 y6 y7 y8 y9 y10 a15 a1 a2 a16 a3 a4 a5 a17 y11 a6 a7 a8 a9 y12 y13 y14 a18 a19 y15 y16 a20 a21 a22 y17 y18 y19 y20 a23 a24 a25 y21), (mp_arI E a1 0 25 f0)]
    show mp_W E X 4 10 [(0, .ref a0), (1, .int x0), (2, .int x1)] [.int 1] w4_ 0 0
    refine mp_run mp_k_cX10_falls_ok hF mp_tabX10_ok [mp_h (.ifCond .ne 6) [16]] (by decide +kernel) ?_
    refine And.intro (fun _ => ?_) (fun c_21 => absurd c_21 (by decide))
    show mp_W E X 4 16 [(0, .ref a0), (1, .int x0), (2, .int x1)] [] w4_ 0 0
    refine mp_run mp_k_cX10_falls_ok hF mp_tabX10_ok [mp_i (.aload_n 0)] (by decide +kernel) ?_
    show mp_W E X 4 17 [(0, .ref a0), (1, .int x0), (2, .int x1)] [.ref a0] w4_ 0 0
    refine mp_callV hF (As := []) (rest := []) (wr := [(mp_arI E a4 0 300 f3)]) (bX10_lays_62 E a0 a1 a2 a3 a5 a6 a7 a8 a9 a10 a11 a12 a13 a14 a15 a16 a4 a17 a18 a19 a20 a21 a22 a23 a24 a25 f0 f1 f2 f4 f5 f6 f7 f8 0 y1 y2 y3 y4 y5 y6 y7 y8 y9 y10 y11 y12 y13 y14 y15 y16 y17 y18 y19 y20 y21 p0 p1 p2 p3 p4 p5 p6 p7 p12 p13 l_y1 u_y1 l_y2 u_y2 l_y3 u_y3 l_y4 u_y4 l_y11 u_y11 l_y12 u_y12 l_y13 u_y13 (by (first | exact q1 | omega))) mp_lkX10_288 8 rfl [8, 9, 0, 1, 3, 4, 5, 6, 7] [2] rfl rfl rfl rfl rfl ⟨(Nat.le_of_ble_eq_true rfl), (Nat.le_of_ble_eq_true rfl), (Nat.le_of_ble_eq_true rfl), (Nat.le_of_ble_eq_true rfl)⟩ (Nat.le_of_ble_eq_true rfl) (by first | exact mp_fd_ok mp_k_cX10_falls_ok (by decide +kernel) | decide +kernel) (fun v_22 w_23 h_24 => ?_)
    refine h_24.elim fun r_25 q_35 => q_35.elim fun g_26 q_36 => q_36.elim fun g_27 q_37 => q_37.elim fun g_28 q_38 => q_38.elim fun g_29 q_39 => q_39.elim fun e_40 q_41 => q_41.elim fun l_30 q_42 => q_42.elim fun u_31 q_43 => q_43.elim fun p_32 q_44 => q_44.elim fun x_33 q_45 => q_45.elim fun x_34 e_46 => ?_
    clear h_24 q_35 q_36 q_37 q_38 q_39 q_41 q_42 q_43 q_44 q_45
    subst e_40
    subst e_46
    let w5_ : va_W := [(mp_arI E a4 0 300 f3), (mp_ob10 a0 0 a10 a11 a12 a13 a14 y1 y2 y3 y4 y5 y6 y7 y8 y9 y10 a15 a1 a2 a16 a3 a4 a5 a17 r_25 a6 a7 a8 a9 y12 y13 y14 a18 a19 y15 y16 a20 a21 a22 y17 y18 y19 y20 a23 a24 a25 y21), (mp_arI E a1 0 25 f0), (mp_arI E a2 0 180 f1), (mp_arI E a3 0 90 f2), (mp_arI E a5 0 300 f4), (mp_arI E a6 0 6 g_26), (mp_arI E a7 0 6 g_27), (mp_arI E a8 0 6 g_28), (mp_arI E a9 3 1500 g_29)]
    show mp_W E X 4 20 [(0, .ref a0), (1, .int x0), (2, .int x1)] [] w5_ 0 0
    refine mp_run mp_k_cX10_falls_ok hF mp_tabX10_ok [mp_i (.aload_n 0), mp_h (.getfield 276) [24, 1], mp_i (.istore_n 3)] (by decide +kernel) ?_
    refine And.intro rfl (And.intro rfl ?_)
    show mp_W E X 4 25 [(3, .int r_25), (0, .ref a0), (1, .int x0), (2, .int x1)] [] w5_ 0 0
    have lp_50 : ∀ (d_51 : Nat) (i_47 : Int32), 0 ≤ i_47.toInt → i_47.toInt ≤ 100 → -(i_47.toInt) + 100 ≤ (d_51 : Int) → mp_W E X 4 25 [(3, .int i_47), (0, .ref a0), (1, .int x0), (2, .int x1)] [] [(mp_arI E a4 0 300 f3), (mp_ob10 a0 0 a10 a11 a12 a13 a14 y1 y2 y3 y4 y5 y6 y7 y8 y9 y10 a15 a1 a2 a16 a3 a4 a5 a17 r_25 a6 a7 a8 a9 y12 y13 y14 a18 a19 y15 y16 a20 a21 a22 y17 y18 y19 y20 a23 a24 a25 y21), (mp_arI E a1 0 25 f0), (mp_arI E a2 0 180 f1), (mp_arI E a3 0 90 f2), (mp_arI E a5 0 300 f4), (mp_arI E a6 0 6 g_26), (mp_arI E a7 0 6 g_27), (mp_arI E a8 0 6 g_28), (mp_arI E a9 3 1500 g_29)] 0 0 := by
      intro d_51
      induction d_51 using Nat.strongRecOn with
      | ind d_51 ih_52 =>
        intro i_47 l_48 u_49 hm_53
        refine mp_run mp_k_cX10_falls_ok hF mp_tabX10_ok [mp_i (.iload_n 3), mp_c (.bipush 100) 100, mp_h (.if_icmp .ge 21) [49]] (by decide +kernel) ?_
        refine And.intro (fun c_54 => ?_) (fun c_54 => ?_)
        · have c_54 : 100 ≤ i_47.toInt := c_54
          show mp_W E X 4 49 [(3, .int i_47), (0, .ref a0), (1, .int x0), (2, .int x1)] [] w5_ 0 0
          refine mp_run mp_k_cX10_falls_ok hF mp_tabX10_ok [mp_c (.iconst (-1)) (-1)] (by decide +kernel) ?_
          show mp_W E X 4 50 [(3, .int i_47), (0, .ref a0), (1, .int x0), (2, .int x1)] [.int (-1)] w5_ 0 0
          exact mp_iret hF hQ rfl rfl (Nat.le_of_ble_eq_true rfl) (Nat.le_of_ble_eq_true rfl) [1, 2, 3, 4, 0, 5, 6, 7, 8, 9] (w' := [(mp_ob10 a0 0 a10 a11 a12 a13 a14 y1 y2 y3 y4 y5 y6 y7 y8 y9 y10 a15 a1 a2 a16 a3 a4 a5 a17 r_25 a6 a7 a8 a9 y12 y13 y14 a18 a19 y15 y16 a20 a21 a22 y17 y18 y19 y20 a23 a24 a25 y21), (mp_arI E a1 0 25 f0), (mp_arI E a2 0 180 f1), (mp_arI E a3 0 90 f2), (mp_arI E a4 0 300 f3), (mp_arI E a5 0 300 f4), (mp_arI E a6 0 6 g_26), (mp_arI E a7 0 6 g_27), (mp_arI E a8 0 6 g_28), (mp_arI E a9 3 1500 g_29)]) rfl rfl ⟨r_25, g_26, g_27, g_28, g_29, (-1), rfl, l_30, u_31, (by decide), (by decide), p_32, rfl⟩ (by first | exact mp_fd_ok mp_k_cX10_falls_ok (by decide +kernel) | decide +kernel)
        · have c_54 : i_47.toInt < 100 := c_54
          show mp_W E X 4 31 [(3, .int i_47), (0, .ref a0), (1, .int x0), (2, .int x1)] [] w5_ 0 0
          refine mp_run mp_k_cX10_falls_ok hF mp_tabX10_ok [mp_i (.aload_n 0), mp_i (.iload_n 1), mp_i (.iload_n 3)] (by decide +kernel) ?_
          show mp_W E X 4 34 [(3, .int i_47), (0, .ref a0), (1, .int x0), (2, .int x1)] [.int i_47, .int x0, .ref a0] w5_ 0 0
          refine mp_callV hF (As := [.int x0, .int i_47]) (rest := []) (wr := [(mp_arI E a2 0 180 f1), (mp_arI E a5 0 300 f4), (mp_arI E a6 0 6 g_26), (mp_arI E a7 0 6 g_27), (mp_arI E a8 0 6 g_28)]) (bX10_worthOf_72 E a0 a1 a3 a4 a9 a10 a11 a12 a13 a14 a15 a2 a16 a5 a17 a6 a7 a8 a18 a19 a20 a21 a22 a23 a24 a25 f0 f2 f3 g_29 0 y1 y2 y3 y4 y5 y6 y7 y8 y9 y10 r_25 y12 y13 y14 y15 y16 y17 y18 y19 y20 y21 x0 i_47 p0 p1 p2 p3 p4 p6 p7 p8 p9 p10 p11 (by (first | exact c_5 | omega)) (by (first | exact x_7 | omega)) l_48 (by (first | exact mp_o1520 c_54 | omega)) l_y1 u_y1 l_y2 u_y2 l_y3 u_y3 l_y4 u_y4 l_30 u_31 l_y12 u_y12 l_y13 u_y13 (by first | assumption | (rw [rfl]; assumption)) (by (first | exact x_6 | omega))) mp_lkX10_291 1 rfl [1, 2, 4, 0, 9] [3, 5, 6, 7, 8] rfl rfl rfl rfl rfl ⟨(Nat.le_of_ble_eq_true rfl), (Nat.le_of_ble_eq_true rfl), (Nat.le_of_ble_eq_true rfl), (Nat.le_of_ble_eq_true rfl)⟩ (Nat.le_of_ble_eq_true rfl) (by first | exact mp_fd_ok mp_k_cX10_falls_ok (by decide +kernel) | decide +kernel) (fun v_55 w_56 h_57 => ?_)
          obtain ⟨r_58, rfl, rfl⟩ := h_57
          let w6_ : va_W := [(mp_arI E a2 0 180 f1), (mp_arI E a5 0 300 f4), (mp_arI E a6 0 6 g_26), (mp_arI E a7 0 6 g_27), (mp_arI E a8 0 6 g_28), (mp_ob10 a0 0 a10 a11 a12 a13 a14 y1 y2 y3 y4 y5 y6 y7 y8 y9 y10 a15 a1 a2 a16 a3 a4 a5 a17 r_25 a6 a7 a8 a9 y12 y13 y14 a18 a19 y15 y16 a20 a21 a22 y17 y18 y19 y20 a23 a24 a25 y21), (mp_arI E a1 0 25 f0), (mp_arI E a3 0 90 f2), (mp_arI E a4 0 300 f3), (mp_arI E a9 3 1500 g_29)]
          show mp_W E X 4 37 [(3, .int i_47), (0, .ref a0), (1, .int x0), (2, .int x1)] [.int r_58] w6_ 0 0
          refine mp_run mp_k_cX10_falls_ok hF mp_tabX10_ok [mp_i (.iload_n 2), mp_h (.if_icmp .gt 5) [43]] (by decide +kernel) ?_
          refine And.intro (fun c_59 => ?_) (fun c_59 => ?_)
          · have c_59 : x1.toInt < r_58.toInt := c_59
            show mp_W E X 4 43 [(3, .int i_47), (0, .ref a0), (1, .int x0), (2, .int x1)] [] w6_ 0 0
            refine mp_run mp_k_cX10_falls_ok hF mp_tabX10_ok [mp_c (.iinc 3 1) 1, mp_h (.goto (-21)) [25]] (by decide +kernel) ?_
            intro z_60 h_61
            have e_62 : z_60.toInt = i_47.toInt + 1 := mp_add (a := i_47.toInt) (b := 1) h_61 rfl (by decide) (by (first | exact mp_o2 l_48 | omega)) (by (first | exact mp_o1521 c_54 | omega))
            show mp_W E X 4 25 [(3, .int z_60), (0, .ref a0), (1, .int x0), (2, .int x1)] [] w6_ 0 0
            exact mp_sub [0, 1, 2, 3] rfl [8, 5, 6, 0, 7, 1, 2, 3, 4, 9] rfl rfl (ih_52 (d_51 - 1) (by (first | exact mp_o1522 hm_53 c_54 | omega)) z_60 (by (first | exact mp_o51 l_48 e_62 | omega)) (by (first | exact mp_o1523 c_54 e_62 | omega)) (by (first | exact mp_o435 hm_53 e_62 | omega)))
          · have c_59 : r_58.toInt ≤ x1.toInt := c_59
            show mp_W E X 4 41 [(3, .int i_47), (0, .ref a0), (1, .int x0), (2, .int x1)] [] w6_ 0 0
            refine mp_run mp_k_cX10_falls_ok hF mp_tabX10_ok [mp_i (.iload_n 3)] (by decide +kernel) ?_
            show mp_W E X 4 42 [(3, .int i_47), (0, .ref a0), (1, .int x0), (2, .int x1)] [.int i_47] w6_ 0 0
            exact mp_iret hF hQ rfl rfl (Nat.le_of_ble_eq_true rfl) (Nat.le_of_ble_eq_true rfl) [5, 6, 0, 7, 8, 1, 2, 3, 4, 9] (w' := [(mp_ob10 a0 0 a10 a11 a12 a13 a14 y1 y2 y3 y4 y5 y6 y7 y8 y9 y10 a15 a1 a2 a16 a3 a4 a5 a17 r_25 a6 a7 a8 a9 y12 y13 y14 a18 a19 y15 y16 a20 a21 a22 y17 y18 y19 y20 a23 a24 a25 y21), (mp_arI E a1 0 25 f0), (mp_arI E a2 0 180 f1), (mp_arI E a3 0 90 f2), (mp_arI E a4 0 300 f3), (mp_arI E a5 0 300 f4), (mp_arI E a6 0 6 g_26), (mp_arI E a7 0 6 g_27), (mp_arI E a8 0 6 g_28), (mp_arI E a9 3 1500 g_29)]) rfl rfl ⟨r_25, g_26, g_27, g_28, g_29, i_47, rfl, l_30, u_31, (by (first | exact mp_o399 l_48 | omega)), (by (first | exact mp_o1524 c_54 | omega)), p_32, rfl⟩ (by first | exact mp_fd_ok mp_k_cX10_falls_ok (by decide +kernel) | decide +kernel)
    exact mp_sub [0, 1, 2, 3] rfl [0, 1, 2, 3, 4, 5, 6, 7, 8, 9] rfl rfl (lp_50 _ r_25 l_30 (by (first | exact mp_o436 u_31 | omega)) (Int.self_le_toNat _))
set_option maxHeartbeats 4000000 in
set_option maxRecDepth 100000 in
theorem bX10_areTwo_75 (E : mp_E) (a0 a1 a2 a3 a4 a5 a6 a7 a8 a9 a10 a11 a12 a13 a14 a15 a16 a17 a18 a19 a20 a21 a22 a23 a24 a25 : Nat) (f0 : Nat → Int32) (y0 : Int32) (y1 : Int32) (y2 : Int32) (y3 : Int32) (y4 : Int32) (y5 : Int32) (y6 : Int64) (y7 : Int32) (y8 : Int32) (y9 : Int32) (y10 : Int32) (y11 : Int32) (y12 : Int32) (y13 : Int32) (y14 : Int32) (y15 : Int32) (y16 : Int32) (y17 : Int32) (y18 : Int32) (y19 : Int32) (y20 : Int32) (y21 : Int32) (x0 : Int32) (x1 : Int32) (p0 : mp_res f0 25 5 0 0 6) (p1 : mp_res f0 25 5 1 0 99) (p2 : mp_res f0 25 5 2 0 6) (p3 : mp_res f0 25 5 3 0 10) (p4 : mp_res f0 25 5 4 0 60) (l_y1 : 0 ≤ y1.toInt) (u_y1 : y1.toInt ≤ 1600) (l_y2 : 0 ≤ y2.toInt) (u_y2 : y2.toInt ≤ 1600) (l_y3 : 0 ≤ y3.toInt) (u_y3 : y3.toInt ≤ 4) (l_y4 : 0 ≤ y4.toInt) (u_y4 : y4.toInt ≤ 1600) (l_y11 : 0 ≤ y11.toInt) (u_y11 : y11.toInt ≤ 99) (l_y12 : 0 ≤ y12.toInt) (u_y12 : y12.toInt ≤ 5) (l_y13 : 0 ≤ y13.toInt) (u_y13 : y13.toInt ≤ 12) : mp_Ct E yX10_areTwo cX10_areTwo 3 (some FieldType.boolean) 2 0 0 46 [.ref a0, .int x0, .int x1] [(mp_ob10 a0 y0 a2 a3 a4 a5 a6 y1 y2 y3 y4 y5 y6 y7 y8 y9 y10 a7 a1 a8 a9 a10 a11 a12 a13 y11 a14 a15 a16 a17 y12 y13 y14 a18 a19 y15 y16 a20 a21 a22 y17 y18 y19 y20 a23 a24 a25 y21), (mp_arI E a1 0 25 f0)] (fun v w' => (v = some (.int 0) ∧ (x0.toInt < 0 ∨ (f0 2).toInt ≤ x0.toInt ∨ x1.toInt < 0 ∨ (f0 2).toInt ≤ x1.toInt ∨ x0.toInt = x1.toInt) ∧ w' = [(mp_ob10 a0 y0 a2 a3 a4 a5 a6 y1 y2 y3 y4 y5 y6 y7 y8 y9 y10 a7 a1 a8 a9 a10 a11 a12 a13 y11 a14 a15 a16 a17 y12 y13 y14 a18 a19 y15 y16 a20 a21 a22 y17 y18 y19 y20 a23 a24 a25 y21), (mp_arI E a1 0 25 f0)]) ∨ (v = some (.int 1) ∧ 0 ≤ x0.toInt ∧ 0 ≤ x1.toInt ∧ x0.toInt ≠ x1.toInt ∧ (0 ≤ x0.toInt) ∧ (x0.toInt ≤ 5) ∧ (0 ≤ x1.toInt) ∧ (x1.toInt ≤ 5) ∧ (0 ≤ x0.toInt ∧ x0.toInt < (f0 2).toInt ∧ 0 ≤ x1.toInt ∧ x1.toInt < (f0 2).toInt ∧ x0.toInt ≠ x1.toInt) ∧ w' = [(mp_ob10 a0 y0 a2 a3 a4 a5 a6 y1 y2 y3 y4 y5 y6 y7 y8 y9 y10 a7 a1 a8 a9 a10 a11 a12 a13 y11 a14 a15 a16 a17 y12 y13 y14 a18 a19 y15 y16 a20 a21 a22 y17 y18 y19 y20 a23 a24 a25 y21), (mp_arI E a1 0 25 f0)])) := by
  refine mp_met false (by decide) (by decide) (Nat.le_of_ble_eq_true rfl) (fun X hF hQ => ?_)
  have hF : mp_F E X (RX10, cX10_areTwo, 3, (2, 0, 0, 46), (some FieldType.boolean), false) := hF
  let w1_ : va_W := [(mp_ob10 a0 y0 a2 a3 a4 a5 a6 y1 y2 y3 y4 y5 y6 y7 y8 y9 y10 a7 a1 a8 a9 a10 a11 a12 a13 y11 a14 a15 a16 a17 y12 y13 y14 a18 a19 y15 y16 a20 a21 a22 y17 y18 y19 y20 a23 a24 a25 y21), (mp_arI E a1 0 25 f0)]
  show mp_W E X 3 0 [(0, .ref a0), (1, .int x0), (2, .int x1)] [] w1_ 0 0
  refine mp_run mp_k_cX10_areTwo_ok hF mp_tabX10_ok [mp_i (.aload_n 0), mp_i (.iload_n 1)] (by decide +kernel) ?_
  show mp_W E X 3 2 [(0, .ref a0), (1, .int x0), (2, .int x1)] [.int x0, .ref a0] w1_ 0 0
  refine mp_callV hF (As := [.int x0]) (rest := []) (wr := []) (bX10_isPerson_53 E a0 a1 a2 a3 a4 a5 a6 a7 a8 a9 a10 a11 a12 a13 a14 a15 a16 a17 a18 a19 a20 a21 a22 a23 a24 a25 f0 y0 y1 y2 y3 y4 y5 y6 y7 y8 y9 y10 y11 y12 y13 y14 y15 y16 y17 y18 y19 y20 y21 x0 p0 p1 p2 p3 p4 l_y1 u_y1 l_y2 u_y2 l_y3 u_y3 l_y4 u_y4 l_y11 u_y11 l_y12 u_y12 l_y13 u_y13) mp_lkX10_255 0 rfl [0, 1] [] rfl rfl rfl rfl rfl ⟨(Nat.le_of_ble_eq_true rfl), (Nat.le_of_ble_eq_true rfl), (Nat.le_of_ble_eq_true rfl), (Nat.le_of_ble_eq_true rfl)⟩ (Nat.le_of_ble_eq_true rfl) (by first | exact mp_fd_ok mp_k_cX10_areTwo_ok (by decide +kernel) | decide +kernel) (fun v_1 w_2 h_3 => ?_)
  refine h_3.elim (fun q_9 => ?_) (fun q_10 => ?_)
  · skip
    refine q_9.elim fun e_11 q_12 => q_12.elim fun x_4 e_13 => ?_
    clear h_3 q_9 q_12
    subst e_11
    subst e_13
    show mp_W E X 3 5 [(0, .ref a0), (1, .int x0), (2, .int x1)] [.int 0] w1_ 0 0
    refine mp_run mp_k_cX10_areTwo_ok hF mp_tabX10_ok [mp_h (.ifCond .eq 20) [25]] (by decide +kernel) ?_
    refine And.intro (fun _ => ?_) (fun c_14 => absurd c_14 (by decide))
    show mp_W E X 3 25 [(0, .ref a0), (1, .int x0), (2, .int x1)] [] w1_ 0 0
    refine mp_run mp_k_cX10_areTwo_ok hF mp_tabX10_ok [mp_c (.iconst 0) 0] (by decide +kernel) ?_
    show mp_W E X 3 26 [(0, .ref a0), (1, .int x0), (2, .int x1)] [.int 0] w1_ 0 0
    exact mp_iret hF hQ rfl (by decide) (Nat.le_of_ble_eq_true rfl) (Nat.le_of_ble_eq_true rfl) [0, 1] (w' := w1_) rfl rfl (Or.inl ⟨rfl, (by first | (first | exact mp_o437 x_4 | omega) | decide | (have h8 : (0 : Int64).toInt = 0 := rfl; have h9 : (-1 : Int32).toInt = -1 := rfl; have h10 : (-2 : Int32).toInt = -2 := rfl; have h11 : (0 : Int32).toInt = 0 := rfl; have h12 : (1 : Int32).toInt = 1 := rfl; have h13 : (-5 : Int32).toInt = -5 := rfl; have h14 : (-3 : Int32).toInt = -3 := rfl; omega)), rfl⟩) (by first | exact mp_fd_ok mp_k_cX10_areTwo_ok (by decide +kernel) | decide +kernel)
  · skip
    refine q_10.elim fun e_15 q_16 => q_16.elim fun c_5 q_17 => q_17.elim fun x_6 q_18 => q_18.elim fun x_7 q_19 => q_19.elim fun x_8 e_20 => ?_
    clear h_3 q_10 q_16 q_17 q_18 q_19
    subst e_15
    subst e_20
    have c_5 : 0 ≤ x0.toInt := c_5
    show mp_W E X 3 5 [(0, .ref a0), (1, .int x0), (2, .int x1)] [.int 1] w1_ 0 0
    refine mp_run mp_k_cX10_areTwo_ok hF mp_tabX10_ok [mp_h (.ifCond .eq 20) [25]] (by decide +kernel) ?_
    refine And.intro (fun c_21 => absurd c_21 (by decide)) (fun _ => ?_)
    show mp_W E X 3 8 [(0, .ref a0), (1, .int x0), (2, .int x1)] [] w1_ 0 0
    refine mp_run mp_k_cX10_areTwo_ok hF mp_tabX10_ok [mp_i (.aload_n 0), mp_i (.iload_n 2)] (by decide +kernel) ?_
    show mp_W E X 3 10 [(0, .ref a0), (1, .int x0), (2, .int x1)] [.int x1, .ref a0] w1_ 0 0
    refine mp_callV hF (As := [.int x1]) (rest := []) (wr := []) (bX10_isPerson_53 E a0 a1 a2 a3 a4 a5 a6 a7 a8 a9 a10 a11 a12 a13 a14 a15 a16 a17 a18 a19 a20 a21 a22 a23 a24 a25 f0 y0 y1 y2 y3 y4 y5 y6 y7 y8 y9 y10 y11 y12 y13 y14 y15 y16 y17 y18 y19 y20 y21 x1 p0 p1 p2 p3 p4 l_y1 u_y1 l_y2 u_y2 l_y3 u_y3 l_y4 u_y4 l_y11 u_y11 l_y12 u_y12 l_y13 u_y13) mp_lkX10_255 0 rfl [0, 1] [] rfl rfl rfl rfl rfl ⟨(Nat.le_of_ble_eq_true rfl), (Nat.le_of_ble_eq_true rfl), (Nat.le_of_ble_eq_true rfl), (Nat.le_of_ble_eq_true rfl)⟩ (Nat.le_of_ble_eq_true rfl) (by first | exact mp_fd_ok mp_k_cX10_areTwo_ok (by decide +kernel) | decide +kernel) (fun v_22 w_23 h_24 => ?_)
    refine h_24.elim (fun q_30 => ?_) (fun q_31 => ?_)
    · skip
      refine q_30.elim fun e_32 q_33 => q_33.elim fun x_25 e_34 => ?_
      clear h_24 q_30 q_33
      subst e_32
      subst e_34
      show mp_W E X 3 13 [(0, .ref a0), (1, .int x0), (2, .int x1)] [.int 0] w1_ 0 0
      refine mp_run mp_k_cX10_areTwo_ok hF mp_tabX10_ok [mp_h (.ifCond .eq 12) [25]] (by decide +kernel) ?_
      refine And.intro (fun _ => ?_) (fun c_35 => absurd c_35 (by decide))
      show mp_W E X 3 25 [(0, .ref a0), (1, .int x0), (2, .int x1)] [] w1_ 0 0
      refine mp_run mp_k_cX10_areTwo_ok hF mp_tabX10_ok [mp_c (.iconst 0) 0] (by decide +kernel) ?_
      show mp_W E X 3 26 [(0, .ref a0), (1, .int x0), (2, .int x1)] [.int 0] w1_ 0 0
      exact mp_iret hF hQ rfl (by decide) (Nat.le_of_ble_eq_true rfl) (Nat.le_of_ble_eq_true rfl) [0, 1] (w' := w1_) rfl rfl (Or.inl ⟨rfl, (by first | (first | exact mp_o438 x_25 | omega) | decide | (have h8 : (0 : Int64).toInt = 0 := rfl; have h9 : (-1 : Int32).toInt = -1 := rfl; have h10 : (-2 : Int32).toInt = -2 := rfl; have h11 : (0 : Int32).toInt = 0 := rfl; have h12 : (1 : Int32).toInt = 1 := rfl; have h13 : (-5 : Int32).toInt = -5 := rfl; have h14 : (-3 : Int32).toInt = -3 := rfl; omega)), rfl⟩) (by first | exact mp_fd_ok mp_k_cX10_areTwo_ok (by decide +kernel) | decide +kernel)
    · skip
      refine q_31.elim fun e_36 q_37 => q_37.elim fun c_26 q_38 => q_38.elim fun x_27 q_39 => q_39.elim fun x_28 q_40 => q_40.elim fun x_29 e_41 => ?_
      clear h_24 q_31 q_37 q_38 q_39 q_40
      subst e_36
      subst e_41
      have c_26 : 0 ≤ x1.toInt := c_26
      show mp_W E X 3 13 [(0, .ref a0), (1, .int x0), (2, .int x1)] [.int 1] w1_ 0 0
      refine mp_run mp_k_cX10_areTwo_ok hF mp_tabX10_ok [mp_h (.ifCond .eq 12) [25]] (by decide +kernel) ?_
      refine And.intro (fun c_42 => absurd c_42 (by decide)) (fun _ => ?_)
      show mp_W E X 3 16 [(0, .ref a0), (1, .int x0), (2, .int x1)] [] w1_ 0 0
      refine mp_run mp_k_cX10_areTwo_ok hF mp_tabX10_ok [mp_i (.iload_n 1), mp_i (.iload_n 2), mp_h (.if_icmp .eq 7) [25]] (by decide +kernel) ?_
      refine And.intro (fun c_43 => ?_) (fun c_43 => ?_)
      · have c_43 : x0.toInt = x1.toInt := (congrArg Int32.toInt c_43)
        show mp_W E X 3 25 [(0, .ref a0), (1, .int x0), (2, .int x1)] [] w1_ 0 0
        refine mp_run mp_k_cX10_areTwo_ok hF mp_tabX10_ok [mp_c (.iconst 0) 0] (by decide +kernel) ?_
        show mp_W E X 3 26 [(0, .ref a0), (1, .int x0), (2, .int x1)] [.int 0] w1_ 0 0
        exact mp_iret hF hQ rfl (by decide) (Nat.le_of_ble_eq_true rfl) (Nat.le_of_ble_eq_true rfl) [0, 1] (w' := w1_) rfl rfl (Or.inl ⟨rfl, (by first | (first | exact mp_o439 c_43 | omega) | decide | (have h8 : (0 : Int64).toInt = 0 := rfl; have h9 : (-1 : Int32).toInt = -1 := rfl; have h10 : (-2 : Int32).toInt = -2 := rfl; have h11 : (0 : Int32).toInt = 0 := rfl; have h12 : (1 : Int32).toInt = 1 := rfl; have h13 : (-5 : Int32).toInt = -5 := rfl; have h14 : (-3 : Int32).toInt = -3 := rfl; omega)), rfl⟩) (by first | exact mp_fd_ok mp_k_cX10_areTwo_ok (by decide +kernel) | decide +kernel)
      · have c_43 : x0.toInt ≠ x1.toInt := c_43
        show mp_W E X 3 21 [(0, .ref a0), (1, .int x0), (2, .int x1)] [] w1_ 0 0
        refine mp_run mp_k_cX10_areTwo_ok hF mp_tabX10_ok [mp_c (.iconst 1) 1, mp_h (.goto 4) [26]] (by decide +kernel) ?_
        show mp_W E X 3 26 [(0, .ref a0), (1, .int x0), (2, .int x1)] [.int 1] w1_ 0 0
        exact mp_iret hF hQ rfl (by decide) (Nat.le_of_ble_eq_true rfl) (Nat.le_of_ble_eq_true rfl) [0, 1] (w' := w1_) rfl rfl (Or.inr ⟨rfl, (by first | (first | exact c_5 | omega) | decide), (by first | (first | exact c_26 | omega) | decide), (by first | (first | exact c_43 | omega) | decide), (by first | (first | exact c_5 | omega) | decide | (have h8 : (0 : Int64).toInt = 0 := rfl; have h9 : (-1 : Int32).toInt = -1 := rfl; have h10 : (-2 : Int32).toInt = -2 := rfl; have h11 : (0 : Int32).toInt = 0 := rfl; have h12 : (1 : Int32).toInt = 1 := rfl; have h13 : (-5 : Int32).toInt = -5 := rfl; have h14 : (-3 : Int32).toInt = -3 := rfl; omega)), (by first | (first | exact x_7 | omega) | decide | (have h8 : (0 : Int64).toInt = 0 := rfl; have h9 : (-1 : Int32).toInt = -1 := rfl; have h10 : (-2 : Int32).toInt = -2 := rfl; have h11 : (0 : Int32).toInt = 0 := rfl; have h12 : (1 : Int32).toInt = 1 := rfl; have h13 : (-5 : Int32).toInt = -5 := rfl; have h14 : (-3 : Int32).toInt = -3 := rfl; omega)), (by first | (first | exact c_26 | omega) | decide | (have h8 : (0 : Int64).toInt = 0 := rfl; have h9 : (-1 : Int32).toInt = -1 := rfl; have h10 : (-2 : Int32).toInt = -2 := rfl; have h11 : (0 : Int32).toInt = 0 := rfl; have h12 : (1 : Int32).toInt = 1 := rfl; have h13 : (-5 : Int32).toInt = -5 := rfl; have h14 : (-3 : Int32).toInt = -3 := rfl; omega)), (by first | (first | exact x_28 | omega) | decide | (have h8 : (0 : Int64).toInt = 0 := rfl; have h9 : (-1 : Int32).toInt = -1 := rfl; have h10 : (-2 : Int32).toInt = -2 := rfl; have h11 : (0 : Int32).toInt = 0 := rfl; have h12 : (1 : Int32).toInt = 1 := rfl; have h13 : (-5 : Int32).toInt = -5 := rfl; have h14 : (-3 : Int32).toInt = -3 := rfl; omega)), (by first | (first | exact mp_o440 c_5 c_26 x_6 c_43 x_27 | omega) | decide | (have h8 : (0 : Int64).toInt = 0 := rfl; have h9 : (-1 : Int32).toInt = -1 := rfl; have h10 : (-2 : Int32).toInt = -2 := rfl; have h11 : (0 : Int32).toInt = 0 := rfl; have h12 : (1 : Int32).toInt = 1 := rfl; have h13 : (-5 : Int32).toInt = -5 := rfl; have h14 : (-3 : Int32).toInt = -3 := rfl; omega)), rfl⟩) (by first | exact mp_fd_ok mp_k_cX10_areTwo_ok (by decide +kernel) | decide +kernel)
set_option maxHeartbeats 4000000 in
set_option maxRecDepth 100000 in
theorem bX10_of_76 (E : mp_E) (a0 a1 a2 a3 a4 a5 a6 a7 a8 a9 a10 a11 a12 a13 a14 a15 a16 a17 a18 a19 a20 a21 a22 a23 a24 a25 : Nat) (f0 : Nat → Int32) (y0 : Int32) (y1 : Int32) (y2 : Int32) (y3 : Int32) (y4 : Int32) (y5 : Int32) (y6 : Int64) (y7 : Int32) (y8 : Int32) (y9 : Int32) (y10 : Int32) (y11 : Int32) (y12 : Int32) (y13 : Int32) (y14 : Int32) (y15 : Int32) (y16 : Int32) (y17 : Int32) (y18 : Int32) (y19 : Int32) (y20 : Int32) (y21 : Int32) (x0 : Int32) (p0 : mp_res f0 300 6 0 0 5) (p1 : mp_res f0 300 6 1 0 5) (p2 : mp_res f0 300 6 3 0 99) (p3 : mp_res f0 300 6 4 0 1) (l_x0 : 0 ≤ x0.toInt) (u_x0 : x0.toInt ≤ 9) (l_y1 : 0 ≤ y1.toInt) (u_y1 : y1.toInt ≤ 1600) (l_y2 : 0 ≤ y2.toInt) (u_y2 : y2.toInt ≤ 1600) (l_y3 : 0 ≤ y3.toInt) (u_y3 : y3.toInt ≤ 4) (l_y4 : 0 ≤ y4.toInt) (u_y4 : y4.toInt ≤ 1600) (l_y11 : 0 ≤ y11.toInt) (u_y11 : y11.toInt ≤ 99) (l_y12 : 0 ≤ y12.toInt) (u_y12 : y12.toInt ≤ 5) (l_y13 : 0 ≤ y13.toInt) (u_y13 : y13.toInt ≤ 12) : mp_Ct E yX10_of cX10_of 3 (some FieldType.int) 0 0 0 0 [.ref a0, .int x0, .int 1] [(mp_ob10 a0 y0 a2 a3 a4 a5 a6 y1 y2 y3 y4 y5 y6 y7 y8 y9 y10 a7 a8 a9 a10 a11 a1 a12 a13 y11 a14 a15 a16 a17 y12 y13 y14 a18 a19 y15 y16 a20 a21 a22 y17 y18 y19 y20 a23 a24 a25 y21), (mp_arI E a1 0 300 f0)] (fun v w' => ∃ r1 : Int32, v = some (.int r1) ∧ 0 ≤ r1.toInt ∧ r1.toInt ≤ 5 ∧ (r1.toInt = (f0 (6 * x0.toInt.toNat + 1)).toInt) ∧ w' = [(mp_ob10 a0 y0 a2 a3 a4 a5 a6 y1 y2 y3 y4 y5 y6 y7 y8 y9 y10 a7 a8 a9 a10 a11 a1 a12 a13 y11 a14 a15 a16 a17 y12 y13 y14 a18 a19 y15 y16 a20 a21 a22 y17 y18 y19 y20 a23 a24 a25 y21), (mp_arI E a1 0 300 f0)]) := by
  refine mp_met false (by decide) (by decide) (Nat.le_of_ble_eq_true rfl) (fun X hF hQ => ?_)
  have hF : mp_F E X (RX10, cX10_of, 3, (0, 0, 0, 0), (some FieldType.int), false) := hF
  let w1_ : va_W := [(mp_ob10 a0 y0 a2 a3 a4 a5 a6 y1 y2 y3 y4 y5 y6 y7 y8 y9 y10 a7 a8 a9 a10 a11 a1 a12 a13 y11 a14 a15 a16 a17 y12 y13 y14 a18 a19 y15 y16 a20 a21 a22 y17 y18 y19 y20 a23 a24 a25 y21), (mp_arI E a1 0 300 f0)]
  show mp_W E X 3 0 [(0, .ref a0), (1, .int x0), (2, .int 1)] [] w1_ 0 0
  refine mp_run mp_k_cX10_of_ok hF mp_tabX10_ok [mp_i (.aload_n 0), mp_h (.getfield 47) [21, 0], mp_c (.bipush 6) 6, mp_i (.iload_n 1), mp_i .imul, mp_i (.iload_n 2), mp_i .iadd, mp_h .iaload [1]] (by decide +kernel) ?_
  refine And.intro rfl (And.intro rfl ?_)
  intro z_1 h_2
  have e_3 : z_1.toInt = 6 * x0.toInt := mp_mul (a := 6) (b := x0.toInt) h_2 (by decide) rfl (by (first | exact mp_o1152 l_x0 | omega)) (by (first | exact mp_o1411 u_x0 | omega))
  intro z_4 h_5
  have e_6 : z_4.toInt = z_1.toInt + 1 := mp_add (a := z_1.toInt) (b := 1) h_5 rfl (by decide) (by (first | exact mp_o1525 l_x0 e_3 | omega)) (by (first | exact mp_o1526 u_x0 e_3 | omega))
  refine And.intro rfl (And.intro rfl (And.intro (vp_in_iff.mpr (by (first | exact mp_o1527 l_x0 u_x0 e_3 e_6 | omega))) ?_))
  intro z_7 h_8
  have e_9 : 0 ≤ z_7.toInt ∧ z_7.toInt ≤ 5 := mp_res_ld h_8 p1 (by (first | exact mp_o1528 l_x0 e_3 e_6 | omega)) (by (first | exact mp_o1529 u_x0 e_3 e_6 | omega)) (by (first | exact mp_o1530 e_6 e_3 | omega))
  have e_10 : z_7.toInt = (f0 (6 * x0.toInt + 1).toNat).toInt := mp_at_i h_8 (by (first | exact mp_o1531 l_x0 e_3 e_6 | omega))
  show mp_W E X 3 11 [(0, .ref a0), (1, .int x0), (2, .int 1)] [.int z_7] w1_ 0 0
  exact mp_iret hF hQ rfl rfl (Nat.le_of_ble_eq_true rfl) (Nat.le_of_ble_eq_true rfl) [0, 1] (w' := w1_) rfl rfl ⟨z_7, rfl, e_9.1, e_9.2, (mp_of_at h_8 (by (first | exact l_x0 | omega)) (by (first | exact mp_o1532 e_3 e_6 | omega))), rfl⟩ (by first | exact mp_fd_ok mp_k_cX10_of_ok (by decide +kernel) | decide +kernel)
set_option maxHeartbeats 4000000 in
set_option maxRecDepth 100000 in
theorem bX10_owedOf_77 (E : mp_E) (a0 a1 a2 a3 a4 a5 a6 a7 a8 a9 a10 a11 a12 a13 a14 a15 a16 a17 a18 a19 a20 a21 a22 a23 a24 a25 : Nat) (f0 : Nat → Int32) (f1 : Nat → Int32) (f2 : Nat → Int32) (f3 : Nat → Int32) (y0 : Int32) (y1 : Int32) (y2 : Int32) (y3 : Int32) (y4 : Int32) (y5 : Int32) (y6 : Int64) (y7 : Int32) (y8 : Int32) (y9 : Int32) (y10 : Int32) (y11 : Int32) (y12 : Int32) (y13 : Int32) (y14 : Int32) (y15 : Int32) (y16 : Int32) (y17 : Int32) (y18 : Int32) (y19 : Int32) (y20 : Int32) (y21 : Int32) (x0 : Int32) (x1 : Int32) (x2 : Int32) (p0 : mp_res f0 25 5 0 0 6) (p1 : mp_res f0 25 5 1 0 99) (p2 : mp_res f0 25 5 2 0 6) (p3 : mp_res f0 25 5 3 0 10) (p4 : mp_res f0 25 5 4 0 60) (p5 : mp_res f1 90 3 0 0 5) (p6 : mp_res f1 90 3 1 (-1) 99) (p7 : mp_res f2 300 6 0 0 5) (p8 : mp_res f2 300 6 1 0 5) (p9 : mp_res f2 300 6 3 0 99) (p10 : mp_res f2 300 6 4 0 1) (l_x2 : 0 ≤ x2.toInt) (u_x2 : x2.toInt ≤ 139) (l_y1 : 0 ≤ y1.toInt) (u_y1 : y1.toInt ≤ 1600) (l_y2 : 0 ≤ y2.toInt) (u_y2 : y2.toInt ≤ 1600) (l_y3 : 0 ≤ y3.toInt) (u_y3 : y3.toInt ≤ 4) (l_y4 : 0 ≤ y4.toInt) (u_y4 : y4.toInt ≤ 1600) (l_y11 : 0 ≤ y11.toInt) (u_y11 : y11.toInt ≤ 99) (l_y12 : 0 ≤ y12.toInt) (u_y12 : y12.toInt ≤ 5) (l_y13 : 0 ≤ y13.toInt) (u_y13 : y13.toInt ≤ 12) (q0 : mp_prm f2 (f0 3).toInt) : mp_Ct E yX10_owedOf cX10_owedOf 6 (some FieldType.int) 14 0 0 334 [.ref a0, .int x0, .int x1, .int x2] [(mp_ob10 a0 y0 a5 a6 a7 a8 a9 y1 y2 y3 y4 y5 y6 y7 y8 y9 y10 a10 a1 a11 a12 a2 a3 a13 a14 y11 a15 a16 a17 a4 y12 y13 y14 a18 a19 y15 y16 a20 a21 a22 y17 y18 y19 y20 a23 a24 a25 y21), (mp_arI E a1 0 25 f0), (mp_arI E a2 0 90 f1), (mp_arI E a3 0 300 f2), (mp_arI E a4 3 1500 f3)] (fun v w' => ∃ r1 : Int32, v = some (.int r1) ∧ w' = [(mp_ob10 a0 y0 a5 a6 a7 a8 a9 y1 y2 y3 y4 y5 y6 y7 y8 y9 y10 a10 a1 a11 a12 a2 a3 a13 a14 y11 a15 a16 a17 a4 y12 y13 y14 a18 a19 y15 y16 a20 a21 a22 y17 y18 y19 y20 a23 a24 a25 y21), (mp_arI E a1 0 25 f0), (mp_arI E a2 0 90 f1), (mp_arI E a3 0 300 f2), (mp_arI E a4 3 1500 f3)]) := by
  refine mp_met false (by decide) (by decide) (Nat.le_of_ble_eq_true rfl) (fun X hF hQ => ?_)
  have hF : mp_F E X (RX10, cX10_owedOf, 6, (14, 0, 0, 334), (some FieldType.int), false) := hF
  let w1_ : va_W := [(mp_ob10 a0 y0 a5 a6 a7 a8 a9 y1 y2 y3 y4 y5 y6 y7 y8 y9 y10 a10 a1 a11 a12 a2 a3 a13 a14 y11 a15 a16 a17 a4 y12 y13 y14 a18 a19 y15 y16 a20 a21 a22 y17 y18 y19 y20 a23 a24 a25 y21), (mp_arI E a1 0 25 f0), (mp_arI E a2 0 90 f1), (mp_arI E a3 0 300 f2), (mp_arI E a4 3 1500 f3)]
  show mp_W E X 6 0 [(0, .ref a0), (1, .int x0), (2, .int x1), (3, .int x2)] [] w1_ 0 0
  refine mp_run mp_k_cX10_owedOf_ok hF mp_tabX10_ok [mp_c (.iconst 0) 0, mp_i (.istore 4), mp_c (.iconst 0) 0, mp_i (.istore 5)] (by decide +kernel) ?_
  show mp_W E X 6 6 [(5, .int 0), (4, .int 0), (0, .ref a0), (1, .int x0), (2, .int x1), (3, .int x2)] [] w1_ 0 0
  have lp_5 : ∀ (d_6 : Nat) (i_1 : Int32) (i_2 : Int32), 0 ≤ i_1.toInt → i_1.toInt ≤ 10 → (f0 3).toInt - i_1.toInt ≤ (d_6 : Int) → mp_W E X 6 6 [(5, .int i_1), (4, .int i_2), (0, .ref a0), (1, .int x0), (2, .int x1), (3, .int x2)] [] [(mp_ob10 a0 y0 a5 a6 a7 a8 a9 y1 y2 y3 y4 y5 y6 y7 y8 y9 y10 a10 a1 a11 a12 a2 a3 a13 a14 y11 a15 a16 a17 a4 y12 y13 y14 a18 a19 y15 y16 a20 a21 a22 y17 y18 y19 y20 a23 a24 a25 y21), (mp_arI E a1 0 25 f0), (mp_arI E a2 0 90 f1), (mp_arI E a3 0 300 f2), (mp_arI E a4 3 1500 f3)] 0 0 := by
    intro d_6
    induction d_6 using Nat.strongRecOn with
    | ind d_6 ih_7 =>
      intro i_1 i_2 l_3 u_4 hm_8
      refine mp_run mp_k_cX10_owedOf_ok hF mp_tabX10_ok [mp_i (.iload 5), mp_i (.aload_n 0), mp_h (.getfield 34) [17, 0], mp_c (.iconst 3) 3, mp_h .iaload [1], mp_h (.if_icmp .ge 47) [61]] (by decide +kernel) ?_
      refine And.intro rfl (And.intro rfl ?_)
      refine And.intro rfl (And.intro rfl (And.intro (vp_in_iff.mpr (by decide)) ?_))
      intro z_9 h_10
      have e_11 : 0 ≤ z_9.toInt ∧ z_9.toInt ≤ 10 := mp_res_ld h_10 p3 (by decide) (by decide) (by decide)
      have e_12 : z_9.toInt = (f0 3).toInt := congrArg Int32.toInt (mp_at h_10 (by decide) rfl)
      refine And.intro (fun c_13 => ?_) (fun c_13 => ?_)
      · have c_13 : z_9.toInt ≤ i_1.toInt := c_13
        show mp_W E X 6 61 [(5, .int i_1), (4, .int i_2), (0, .ref a0), (1, .int x0), (2, .int x1), (3, .int x2)] [] w1_ 0 0
        refine mp_run mp_k_cX10_owedOf_ok hF mp_tabX10_ok [mp_i (.iload 4)] (by decide +kernel) ?_
        show mp_W E X 6 63 [(5, .int i_1), (4, .int i_2), (0, .ref a0), (1, .int x0), (2, .int x1), (3, .int x2)] [.int i_2] w1_ 0 0
        exact mp_iret hF hQ rfl rfl (Nat.le_of_ble_eq_true rfl) (Nat.le_of_ble_eq_true rfl) [0, 1, 2, 3, 4] (w' := w1_) rfl rfl ⟨i_2, rfl, rfl⟩ (by first | exact mp_fd_ok mp_k_cX10_owedOf_ok (by decide +kernel) | decide +kernel)
      · have c_13 : i_1.toInt < z_9.toInt := c_13
        show mp_W E X 6 17 [(5, .int i_1), (4, .int i_2), (0, .ref a0), (1, .int x0), (2, .int x1), (3, .int x2)] [] w1_ 0 0
        refine mp_run mp_k_cX10_owedOf_ok hF mp_tabX10_ok [mp_i (.iload 4), mp_i (.aload_n 0), mp_i (.iload 5), mp_c (.iconst 0) 0] (by decide +kernel) ?_
        show mp_W E X 6 23 [(5, .int i_1), (4, .int i_2), (0, .ref a0), (1, .int x0), (2, .int x1), (3, .int x2)] [.int 0, .int i_1, .ref a0, .int i_2] w1_ 0 0
        refine mp_callV hF (As := [.int i_1, .int 0]) (rest := [.int i_2]) (wr := [(mp_arI E a1 0 25 f0), (mp_arI E a2 0 90 f1), (mp_arI E a4 3 1500 f3)]) (bX10_of_64 E a0 a3 a5 a6 a7 a8 a9 a10 a1 a11 a12 a2 a13 a14 a15 a16 a17 a4 a18 a19 a20 a21 a22 a23 a24 a25 f2 y0 y1 y2 y3 y4 y5 y6 y7 y8 y9 y10 y11 y12 y13 y14 y15 y16 y17 y18 y19 y20 y21 i_1 p7 p8 p9 p10 l_3 (by (first | exact mp_o1533 c_13 e_11 | omega)) l_y1 u_y1 l_y2 u_y2 l_y3 u_y3 l_y4 u_y4 l_y11 u_y11 l_y12 u_y12 l_y13 u_y13) mp_lkX10_267 0 rfl [0, 3] [1, 2, 4] rfl rfl rfl rfl rfl ⟨(Nat.le_of_ble_eq_true rfl), (Nat.le_of_ble_eq_true rfl), (Nat.le_of_ble_eq_true rfl), (Nat.le_of_ble_eq_true rfl)⟩ (Nat.le_of_ble_eq_true rfl) (by first | exact mp_fd_ok mp_k_cX10_owedOf_ok (by decide +kernel) | decide +kernel) (fun v_14 w_15 h_16 => ?_)
        refine h_16.elim fun r_17 q_21 => q_21.elim fun e_22 q_23 => q_23.elim fun l_18 q_24 => q_24.elim fun u_19 q_25 => q_25.elim fun x_20 e_26 => ?_
        clear h_16 q_21 q_23 q_24 q_25
        subst e_22
        subst e_26
        let w2_ : va_W := [(mp_arI E a1 0 25 f0), (mp_arI E a2 0 90 f1), (mp_arI E a4 3 1500 f3), (mp_ob10 a0 y0 a5 a6 a7 a8 a9 y1 y2 y3 y4 y5 y6 y7 y8 y9 y10 a10 a1 a11 a12 a2 a3 a13 a14 y11 a15 a16 a17 a4 y12 y13 y14 a18 a19 y15 y16 a20 a21 a22 y17 y18 y19 y20 a23 a24 a25 y21), (mp_arI E a3 0 300 f2)]
        show mp_W E X 6 26 [(5, .int i_1), (4, .int i_2), (0, .ref a0), (1, .int x0), (2, .int x1), (3, .int x2)] [.int r_17, .int i_2] w2_ 0 0
        refine mp_run mp_k_cX10_owedOf_ok hF mp_tabX10_ok [mp_i (.iload_n 1), mp_h (.if_icmp .ne 24) [51]] (by decide +kernel) ?_
        refine And.intro (fun c_27 => ?_) (fun c_27 => ?_)
        · have c_27 : r_17.toInt ≠ x0.toInt := c_27
          show mp_W E X 6 51 [(5, .int i_1), (4, .int i_2), (0, .ref a0), (1, .int x0), (2, .int x1), (3, .int x2)] [.int i_2] w2_ 0 0
          refine mp_run mp_k_cX10_owedOf_ok hF mp_tabX10_ok [mp_c (.iconst 0) 0, mp_i .iadd, mp_i (.istore 4), mp_c (.iinc 5 1) 1, mp_h (.goto (-52)) [6]] (by decide +kernel) ?_
          intro z_28 h_29
          have e_30 := mp_bnd i_2
          have e_31 : z_28.toInt = i_2.toInt + 0 := mp_add (a := i_2.toInt) (b := 0) h_29 rfl (by decide) (by (first | exact mp_o827 e_30 | omega)) (by (first | exact mp_o828 e_30 | omega))
          intro z_32 h_33
          have e_34 : z_32.toInt = i_1.toInt + 1 := mp_add (a := i_1.toInt) (b := 1) h_33 rfl (by decide) (by (first | exact mp_o2 l_3 | omega)) (by (first | exact mp_o420 u_4 | omega))
          show mp_W E X 6 6 [(5, .int z_32), (4, .int z_28), (0, .ref a0), (1, .int x0), (2, .int x1), (3, .int x2)] [] w2_ 0 0
          exact mp_sub [0, 1, 2, 3, 4, 5] rfl [3, 0, 1, 4, 2] rfl rfl (ih_7 (d_6 - 1) (by (first | exact mp_o1454 hm_8 e_12 c_13 | omega)) z_32 z_28 (by (first | exact mp_o51 l_3 e_34 | omega)) (by (first | exact mp_o1534 e_34 c_13 e_11 | omega)) (by (first | exact mp_o77 hm_8 e_34 | omega)))
        · have c_27 : r_17.toInt = x0.toInt := (congrArg Int32.toInt c_27)
          show mp_W E X 6 30 [(5, .int i_1), (4, .int i_2), (0, .ref a0), (1, .int x0), (2, .int x1), (3, .int x2)] [.int i_2] w2_ 0 0
          refine mp_run mp_k_cX10_owedOf_ok hF mp_tabX10_ok [mp_i (.aload_n 0), mp_i (.iload 5), mp_c (.iconst 1) 1] (by decide +kernel) ?_
          show mp_W E X 6 34 [(5, .int i_1), (4, .int i_2), (0, .ref a0), (1, .int x0), (2, .int x1), (3, .int x2)] [.int 1, .int i_1, .ref a0, .int i_2] w2_ 0 0
          refine mp_callV hF (As := [.int i_1, .int 1]) (rest := [.int i_2]) (wr := [(mp_arI E a1 0 25 f0), (mp_arI E a2 0 90 f1), (mp_arI E a4 3 1500 f3)]) (bX10_of_76 E a0 a3 a5 a6 a7 a8 a9 a10 a1 a11 a12 a2 a13 a14 a15 a16 a17 a4 a18 a19 a20 a21 a22 a23 a24 a25 f2 y0 y1 y2 y3 y4 y5 y6 y7 y8 y9 y10 y11 y12 y13 y14 y15 y16 y17 y18 y19 y20 y21 i_1 p7 p8 p9 p10 l_3 (by (first | exact mp_o1533 c_13 e_11 | omega)) l_y1 u_y1 l_y2 u_y2 l_y3 u_y3 l_y4 u_y4 l_y11 u_y11 l_y12 u_y12 l_y13 u_y13) mp_lkX10_267 3 rfl [3, 4] [0, 1, 2] rfl rfl rfl rfl rfl ⟨(Nat.le_of_ble_eq_true rfl), (Nat.le_of_ble_eq_true rfl), (Nat.le_of_ble_eq_true rfl), (Nat.le_of_ble_eq_true rfl)⟩ (Nat.le_of_ble_eq_true rfl) (by first | exact mp_fd_ok mp_k_cX10_owedOf_ok (by decide +kernel) | decide +kernel) (fun v_35 w_36 h_37 => ?_)
          refine h_37.elim fun r_38 q_42 => q_42.elim fun e_43 q_44 => q_44.elim fun l_39 q_45 => q_45.elim fun u_40 q_46 => q_46.elim fun x_41 e_47 => ?_
          clear h_37 q_42 q_44 q_45 q_46
          subst e_43
          subst e_47
          show mp_W E X 6 37 [(5, .int i_1), (4, .int i_2), (0, .ref a0), (1, .int x0), (2, .int x1), (3, .int x2)] [.int r_38, .int i_2] w2_ 0 0
          refine mp_run mp_k_cX10_owedOf_ok hF mp_tabX10_ok [mp_i (.iload_n 2), mp_h (.if_icmp .ne 13) [51]] (by decide +kernel) ?_
          refine And.intro (fun c_48 => ?_) (fun c_48 => ?_)
          · have c_48 : r_38.toInt ≠ x1.toInt := c_48
            show mp_W E X 6 51 [(5, .int i_1), (4, .int i_2), (0, .ref a0), (1, .int x0), (2, .int x1), (3, .int x2)] [.int i_2] w2_ 0 0
            refine mp_run mp_k_cX10_owedOf_ok hF mp_tabX10_ok [mp_c (.iconst 0) 0, mp_i .iadd, mp_i (.istore 4), mp_c (.iinc 5 1) 1, mp_h (.goto (-52)) [6]] (by decide +kernel) ?_
            intro z_49 h_50
            have e_51 := mp_bnd i_2
            have e_52 : z_49.toInt = i_2.toInt + 0 := mp_add (a := i_2.toInt) (b := 0) h_50 rfl (by decide) (by (first | exact mp_o827 e_51 | omega)) (by (first | exact mp_o828 e_51 | omega))
            intro z_53 h_54
            have e_55 : z_53.toInt = i_1.toInt + 1 := mp_add (a := i_1.toInt) (b := 1) h_54 rfl (by decide) (by (first | exact mp_o2 l_3 | omega)) (by (first | exact mp_o420 u_4 | omega))
            show mp_W E X 6 6 [(5, .int z_53), (4, .int z_49), (0, .ref a0), (1, .int x0), (2, .int x1), (3, .int x2)] [] w2_ 0 0
            exact mp_sub [0, 1, 2, 3, 4, 5] rfl [3, 0, 1, 4, 2] rfl rfl (ih_7 (d_6 - 1) (by (first | exact mp_o1454 hm_8 e_12 c_13 | omega)) z_53 z_49 (by (first | exact mp_o51 l_3 e_55 | omega)) (by (first | exact mp_o1534 e_55 c_13 e_11 | omega)) (by (first | exact mp_o77 hm_8 e_55 | omega)))
          · have c_48 : r_38.toInt = x1.toInt := (congrArg Int32.toInt c_48)
            show mp_W E X 6 41 [(5, .int i_1), (4, .int i_2), (0, .ref a0), (1, .int x0), (2, .int x1), (3, .int x2)] [.int i_2] w2_ 0 0
            refine mp_run mp_k_cX10_owedOf_ok hF mp_tabX10_ok [mp_i (.aload_n 0), mp_i (.iload 5), mp_i (.iload_n 3)] (by decide +kernel) ?_
            show mp_W E X 6 45 [(5, .int i_1), (4, .int i_2), (0, .ref a0), (1, .int x0), (2, .int x1), (3, .int x2)] [.int x2, .int i_1, .ref a0, .int i_2] w2_ 0 0
            refine mp_callV hF (As := [.int i_1, .int x2]) (rest := [.int i_2]) (wr := []) (bX10_worthOf_72 E a0 a1 a2 a3 a4 a5 a6 a7 a8 a9 a10 a11 a12 a13 a14 a15 a16 a17 a18 a19 a20 a21 a22 a23 a24 a25 f0 f1 f2 f3 y0 y1 y2 y3 y4 y5 y6 y7 y8 y9 y10 y11 y12 y13 y14 y15 y16 y17 y18 y19 y20 y21 i_1 x2 p0 p1 p2 p3 p4 p5 p6 p7 p8 p9 p10 l_3 (by (first | exact mp_o1533 c_13 e_11 | omega)) l_x2 u_x2 l_y1 u_y1 l_y2 u_y2 l_y3 u_y3 l_y4 u_y4 l_y11 u_y11 l_y12 u_y12 l_y13 u_y13 (by first | assumption | (rw [rfl]; assumption)) (by (first | exact mp_o1535 e_12 c_13 | omega))) mp_lkX10_291 3 rfl [3, 0, 1, 4, 2] [] rfl rfl rfl rfl rfl ⟨(Nat.le_of_ble_eq_true rfl), (Nat.le_of_ble_eq_true rfl), (Nat.le_of_ble_eq_true rfl), (Nat.le_of_ble_eq_true rfl)⟩ (Nat.le_of_ble_eq_true rfl) (by first | exact mp_fd_ok mp_k_cX10_owedOf_ok (by decide +kernel) | decide +kernel) (fun v_56 w_57 h_58 => ?_)
            obtain ⟨r_59, rfl, rfl⟩ := h_58
            show mp_W E X 6 48 [(5, .int i_1), (4, .int i_2), (0, .ref a0), (1, .int x0), (2, .int x1), (3, .int x2)] [.int r_59, .int i_2] w1_ 0 0
            refine mp_run mp_k_cX10_owedOf_ok hF mp_tabX10_ok [mp_h (.goto 4) [52], mp_i .iadd, mp_i (.istore 4), mp_c (.iinc 5 1) 1, mp_h (.goto (-52)) [6]] (by decide +kernel) ?_
            intro z_60 h_61
            intro z_63 h_64
            have e_65 : z_63.toInt = i_1.toInt + 1 := mp_add (a := i_1.toInt) (b := 1) h_64 rfl (by decide) (by (first | exact mp_o2 l_3 | omega)) (by (first | exact mp_o420 u_4 | omega))
            show mp_W E X 6 6 [(5, .int z_63), (4, .int z_60), (0, .ref a0), (1, .int x0), (2, .int x1), (3, .int x2)] [] w1_ 0 0
            exact mp_sub [0, 1, 2, 3, 4, 5] rfl [0, 1, 2, 3, 4] rfl rfl (ih_7 (d_6 - 1) (by (first | exact mp_o1454 hm_8 e_12 c_13 | omega)) z_63 z_60 (by (first | exact mp_o51 l_3 e_65 | omega)) (by (first | exact mp_o1534 e_65 c_13 e_11 | omega)) (by (first | exact mp_o77 hm_8 e_65 | omega)))
  exact mp_sub [0, 1, 2, 3, 4, 5] rfl [0, 1, 2, 3, 4] rfl rfl (lp_5 _ 0 0 (by decide) (by decide) (Int.self_le_toNat _))
set_option maxHeartbeats 4000000 in
set_option maxRecDepth 100000 in
theorem bX10_owed_78 (E : mp_E) (a0 a1 a2 a3 a4 a5 a6 a7 a8 a9 a10 a11 a12 a13 a14 a15 a16 a17 a18 a19 a20 a21 a22 a23 a24 a25 : Nat) (f0 : Nat → Int32) (f1 : Nat → Int32) (f2 : Nat → Int32) (f3 : Nat → Int32) (f4 : Nat → Int32) (f5 : Nat → Int32) (f6 : Nat → Int32) (f7 : Nat → Int32) (f8 : Nat → Int32) (y0 : Int32) (y1 : Int32) (y2 : Int32) (y3 : Int32) (y4 : Int32) (y5 : Int32) (y6 : Int64) (y7 : Int32) (y8 : Int32) (y9 : Int32) (y10 : Int32) (y11 : Int32) (y12 : Int32) (y13 : Int32) (y14 : Int32) (y15 : Int32) (y16 : Int32) (y17 : Int32) (y18 : Int32) (y19 : Int32) (y20 : Int32) (y21 : Int32) (x0 : Int32) (x1 : Int32) (x2 : Int32) (p0 : mp_res f0 25 5 0 0 6) (p1 : mp_res f0 25 5 1 0 99) (p2 : mp_res f0 25 5 2 0 6) (p3 : mp_res f0 25 5 3 0 10) (p4 : mp_res f0 25 5 4 0 60) (p5 : mp_all f1 180 0 20) (p6 : mp_res f2 90 3 0 0 5) (p7 : mp_res f2 90 3 1 (-1) 99) (p8 : mp_res f3 300 6 0 0 5) (p9 : mp_res f3 300 6 1 0 5) (p10 : mp_res f3 300 6 3 0 99) (p11 : mp_res f3 300 6 4 0 1) (p12 : mp_actm f4) (p13 : mp_all f5 6 0 5) (l_y1 : 0 ≤ y1.toInt) (u_y1 : y1.toInt ≤ 1600) (l_y2 : 0 ≤ y2.toInt) (u_y2 : y2.toInt ≤ 1600) (l_y3 : 0 ≤ y3.toInt) (u_y3 : y3.toInt ≤ 4) (l_y4 : 0 ≤ y4.toInt) (u_y4 : y4.toInt ≤ 1600) (l_y11 : 0 ≤ y11.toInt) (u_y11 : y11.toInt ≤ 99) (l_y12 : 0 ≤ y12.toInt) (u_y12 : y12.toInt ≤ 5) (l_y13 : 0 ≤ y13.toInt) (u_y13 : y13.toInt ≤ 12) (q0 : mp_prm f3 (f0 3).toInt) (q1 : (f0 1).toInt + mp_k200 f4 (f0 4).toInt ≤ 99) : mp_Ct E yX10_owed cX10_owed 4 (some FieldType.int) 15 0 0 359 [.ref a0, .int x0, .int x1, .int x2] [(mp_ob10 a0 y0 a10 a11 a12 a13 a14 y1 y2 y3 y4 y5 y6 y7 y8 y9 y10 a15 a1 a2 a16 a3 a4 a5 a17 y11 a6 a7 a8 a9 y12 y13 y14 a18 a19 y15 y16 a20 a21 a22 y17 y18 y19 y20 a23 a24 a25 y21), (mp_arI E a1 0 25 f0), (mp_arI E a2 0 180 f1), (mp_arI E a3 0 90 f2), (mp_arI E a4 0 300 f3), (mp_arI E a5 0 300 f4), (mp_arI E a6 0 6 f5), (mp_arI E a7 0 6 f6), (mp_arI E a8 0 6 f7), (mp_arI E a9 3 1500 f8)] (fun v w' => ∃ r1 : Int32, ∃ h2 : Nat → Int32, ∃ h3 : Nat → Int32, ∃ h4 : Nat → Int32, ∃ h5 : Nat → Int32, ∃ r6 : Int32, v = some (.int r6) ∧ 0 ≤ r1.toInt ∧ r1.toInt ≤ 99 ∧ mp_all h2 6 0 5 ∧ w' = [(mp_ob10 a0 0 a10 a11 a12 a13 a14 y1 y2 y3 y4 y5 y6 y7 y8 y9 y10 a15 a1 a2 a16 a3 a4 a5 a17 r1 a6 a7 a8 a9 y12 y13 y14 a18 a19 y15 y16 a20 a21 a22 y17 y18 y19 y20 a23 a24 a25 y21), (mp_arI E a1 0 25 f0), (mp_arI E a2 0 180 f1), (mp_arI E a3 0 90 f2), (mp_arI E a4 0 300 f3), (mp_arI E a5 0 300 f4), (mp_arI E a6 0 6 h2), (mp_arI E a7 0 6 h3), (mp_arI E a8 0 6 h4), (mp_arI E a9 3 1500 h5)]) := by
  refine mp_met false (by decide) (by decide) (Nat.le_of_ble_eq_true rfl) (fun X hF hQ => ?_)
  have hF : mp_F E X (RX10, cX10_owed, 4, (15, 0, 0, 359), (some FieldType.int), false) := hF
  let w1_ : va_W := [(mp_ob10 a0 y0 a10 a11 a12 a13 a14 y1 y2 y3 y4 y5 y6 y7 y8 y9 y10 a15 a1 a2 a16 a3 a4 a5 a17 y11 a6 a7 a8 a9 y12 y13 y14 a18 a19 y15 y16 a20 a21 a22 y17 y18 y19 y20 a23 a24 a25 y21), (mp_arI E a1 0 25 f0), (mp_arI E a2 0 180 f1), (mp_arI E a3 0 90 f2), (mp_arI E a4 0 300 f3), (mp_arI E a5 0 300 f4), (mp_arI E a6 0 6 f5), (mp_arI E a7 0 6 f6), (mp_arI E a8 0 6 f7), (mp_arI E a9 3 1500 f8)]
  show mp_W E X 4 0 [(0, .ref a0), (1, .int x0), (2, .int x1), (3, .int x2)] [] w1_ 0 0
  refine mp_run mp_k_cX10_owed_ok hF mp_tabX10_ok [mp_i (.aload_n 0), mp_c (.iconst 0) 0, mp_h (.putfield 92) [0, 0]] (by decide +kernel) ?_
  refine And.intro rfl (And.intro rfl (And.intro rfl (And.intro rfl (And.intro (Nat.le_of_ble_eq_true rfl) ?_))))
  let w2_ : va_W := [(mp_ob10 a0 0 a10 a11 a12 a13 a14 y1 y2 y3 y4 y5 y6 y7 y8 y9 y10 a15 a1 a2 a16 a3 a4 a5 a17 y11 a6 a7 a8 a9 y12 y13 y14 a18 a19 y15 y16 a20 a21 a22 y17 y18 y19 y20 a23 a24 a25 y21), (mp_arI E a1 0 25 f0), (mp_arI E a2 0 180 f1), (mp_arI E a3 0 90 f2), (mp_arI E a4 0 300 f3), (mp_arI E a5 0 300 f4), (mp_arI E a6 0 6 f5), (mp_arI E a7 0 6 f6), (mp_arI E a8 0 6 f7), (mp_arI E a9 3 1500 f8)]
  show mp_W E X 4 5 [(0, .ref a0), (1, .int x0), (2, .int x1), (3, .int x2)] [] w2_ 0 0
  refine mp_run mp_k_cX10_owed_ok hF mp_tabX10_ok [mp_i (.aload_n 0), mp_i (.iload_n 1), mp_i (.iload_n 2)] (by decide +kernel) ?_
  show mp_W E X 4 8 [(0, .ref a0), (1, .int x0), (2, .int x1), (3, .int x2)] [.int x1, .int x0, .ref a0] w2_ 0 0
  refine mp_callV hF (As := [.int x0, .int x1]) (rest := []) (wr := [(mp_arI E a2 0 180 f1), (mp_arI E a3 0 90 f2), (mp_arI E a4 0 300 f3), (mp_arI E a5 0 300 f4), (mp_arI E a6 0 6 f5), (mp_arI E a7 0 6 f6), (mp_arI E a8 0 6 f7), (mp_arI E a9 3 1500 f8)]) (bX10_areTwo_75 E a0 a1 a10 a11 a12 a13 a14 a15 a2 a16 a3 a4 a5 a17 a6 a7 a8 a9 a18 a19 a20 a21 a22 a23 a24 a25 f0 0 y1 y2 y3 y4 y5 y6 y7 y8 y9 y10 y11 y12 y13 y14 y15 y16 y17 y18 y19 y20 y21 x0 x1 p0 p1 p2 p3 p4 l_y1 u_y1 l_y2 u_y2 l_y3 u_y3 l_y4 u_y4 l_y11 u_y11 l_y12 u_y12 l_y13 u_y13) mp_lkX10_294 0 rfl [0, 1] [2, 3, 4, 5, 6, 7, 8, 9] rfl rfl rfl rfl rfl ⟨(Nat.le_of_ble_eq_true rfl), (Nat.le_of_ble_eq_true rfl), (Nat.le_of_ble_eq_true rfl), (Nat.le_of_ble_eq_true rfl)⟩ (Nat.le_of_ble_eq_true rfl) (by first | exact mp_fd_ok mp_k_cX10_owed_ok (by decide +kernel) | decide +kernel) (fun v_1 w_2 h_3 => ?_)
  refine h_3.elim (fun q_13 => ?_) (fun q_14 => ?_)
  · skip
    refine q_13.elim fun e_15 q_16 => q_16.elim fun x_4 e_17 => ?_
    clear h_3 q_13 q_16
    subst e_15
    subst e_17
    let w3_ : va_W := [(mp_arI E a2 0 180 f1), (mp_arI E a3 0 90 f2), (mp_arI E a4 0 300 f3), (mp_arI E a5 0 300 f4), (mp_arI E a6 0 6 f5), (mp_arI E a7 0 6 f6), (mp_arI E a8 0 6 f7), (mp_arI E a9 3 1500 f8), (mp_ob10 a0 0 a10 a11 a12 a13 a14 y1 y2 y3 y4 y5 y6 y7 y8 y9 y10 a15 a1 a2 a16 a3 a4 a5 a17 y11 a6 a7 a8 a9 y12 y13 y14 a18 a19 y15 y16 a20 a21 a22 y17 y18 y19 y20 a23 a24 a25 y21), (mp_arI E a1 0 25 f0)]
    show mp_W E X 4 11 [(0, .ref a0), (1, .int x0), (2, .int x1), (3, .int x2)] [.int 0] w3_ 0 0
    refine mp_run mp_k_cX10_owed_ok hF mp_tabX10_ok [mp_h (.ifCond .eq 10) [21]] (by decide +kernel) ?_
    refine And.intro (fun _ => ?_) (fun c_18 => absurd c_18 (by decide))
    show mp_W E X 4 21 [(0, .ref a0), (1, .int x0), (2, .int x1), (3, .int x2)] [] w3_ 0 0
    refine mp_run mp_k_cX10_owed_ok hF mp_tabX10_ok [mp_c (.bipush (-2)) (-2)] (by decide +kernel) ?_
    show mp_W E X 4 23 [(0, .ref a0), (1, .int x0), (2, .int x1), (3, .int x2)] [.int (-2)] w3_ 0 0
    exact mp_iret hF hQ rfl rfl (Nat.le_of_ble_eq_true rfl) (Nat.le_of_ble_eq_true rfl) [8, 9, 0, 1, 2, 3, 4, 5, 6, 7] (w' := w2_) rfl rfl ⟨y11, f5, f6, f7, f8, (-2), rfl, l_y11, u_y11, p13, rfl⟩ (by first | exact mp_fd_ok mp_k_cX10_owed_ok (by decide +kernel) | decide +kernel)
  · skip
    refine q_14.elim fun e_19 q_20 => q_20.elim fun c_5 q_21 => q_21.elim fun c_6 q_22 => q_22.elim fun c_7 q_23 => q_23.elim fun x_8 q_24 => q_24.elim fun x_9 q_25 => q_25.elim fun x_10 q_26 => q_26.elim fun x_11 q_27 => q_27.elim fun x_12 e_28 => ?_
    clear h_3 q_14 q_20 q_21 q_22 q_23 q_24 q_25 q_26 q_27
    subst e_19
    subst e_28
    have c_5 : 0 ≤ x0.toInt := c_5
    have c_6 : 0 ≤ x1.toInt := c_6
    have c_7 : x0.toInt ≠ x1.toInt := c_7
    let w4_ : va_W := [(mp_arI E a2 0 180 f1), (mp_arI E a3 0 90 f2), (mp_arI E a4 0 300 f3), (mp_arI E a5 0 300 f4), (mp_arI E a6 0 6 f5), (mp_arI E a7 0 6 f6), (mp_arI E a8 0 6 f7), (mp_arI E a9 3 1500 f8), (mp_ob10 a0 0 a10 a11 a12 a13 a14 y1 y2 y3 y4 y5 y6 y7 y8 y9 y10 a15 a1 a2 a16 a3 a4 a5 a17 y11 a6 a7 a8 a9 y12 y13 y14 a18 a19 y15 y16 a20 a21 a22 y17 y18 y19 y20 a23 a24 a25 y21), (mp_arI E a1 0 25 f0)]
    show mp_W E X 4 11 [(0, .ref a0), (1, .int x0), (2, .int x1), (3, .int x2)] [.int 1] w4_ 0 0
    refine mp_run mp_k_cX10_owed_ok hF mp_tabX10_ok [mp_h (.ifCond .eq 10) [21]] (by decide +kernel) ?_
    refine And.intro (fun c_29 => absurd c_29 (by decide)) (fun _ => ?_)
    show mp_W E X 4 14 [(0, .ref a0), (1, .int x0), (2, .int x1), (3, .int x2)] [] w4_ 0 0
    refine mp_run mp_k_cX10_owed_ok hF mp_tabX10_ok [mp_i (.iload_n 3)] (by decide +kernel) ?_
    show mp_W E X 4 15 [(0, .ref a0), (1, .int x0), (2, .int x1), (3, .int x2)] [.int x2] w4_ 0 0
    refine mp_callS hF (As := [.int x2]) (rest := []) (wr := w4_) (bX10_isMoon_60 E x2) mp_lkX10_273 [] [0, 1, 2, 3, 4, 5, 6, 7, 8, 9] rfl rfl rfl rfl rfl ⟨(Nat.le_of_ble_eq_true rfl), (Nat.le_of_ble_eq_true rfl), (Nat.le_of_ble_eq_true rfl), (Nat.le_of_ble_eq_true rfl)⟩ (Nat.le_of_ble_eq_true rfl) (by first | exact mp_fd_ok mp_k_cX10_owed_ok (by decide +kernel) | decide +kernel) (fun v_30 w_31 h_32 => ?_)
    rcases h_32 with ⟨rfl, x_33, rfl⟩ | ⟨rfl, c_34, c_35, x_36, rfl⟩
    · skip
      show mp_W E X 4 18 [(0, .ref a0), (1, .int x0), (2, .int x1), (3, .int x2)] [.int 0] w4_ 0 0
      refine mp_run mp_k_cX10_owed_ok hF mp_tabX10_ok [mp_h (.ifCond .ne 6) [24]] (by decide +kernel) ?_
      refine And.intro (fun c_37 => absurd c_37 (by decide)) (fun _ => ?_)
      show mp_W E X 4 21 [(0, .ref a0), (1, .int x0), (2, .int x1), (3, .int x2)] [] w4_ 0 0
      refine mp_run mp_k_cX10_owed_ok hF mp_tabX10_ok [mp_c (.bipush (-2)) (-2)] (by decide +kernel) ?_
      show mp_W E X 4 23 [(0, .ref a0), (1, .int x0), (2, .int x1), (3, .int x2)] [.int (-2)] w4_ 0 0
      exact mp_iret hF hQ rfl rfl (Nat.le_of_ble_eq_true rfl) (Nat.le_of_ble_eq_true rfl) [8, 9, 0, 1, 2, 3, 4, 5, 6, 7] (w' := w2_) rfl rfl ⟨y11, f5, f6, f7, f8, (-2), rfl, l_y11, u_y11, p13, rfl⟩ (by first | exact mp_fd_ok mp_k_cX10_owed_ok (by decide +kernel) | decide +kernel)
    · skip
      have c_34 : 0 ≤ x2.toInt := c_34
      have c_35 : x2.toInt ≤ 99 := c_35
      show mp_W E X 4 18 [(0, .ref a0), (1, .int x0), (2, .int x1), (3, .int x2)] [.int 1] w4_ 0 0
      refine mp_run mp_k_cX10_owed_ok hF mp_tabX10_ok [mp_h (.ifCond .ne 6) [24]] (by decide +kernel) ?_
      refine And.intro (fun _ => ?_) (fun c_38 => absurd c_38 (by decide))
      show mp_W E X 4 24 [(0, .ref a0), (1, .int x0), (2, .int x1), (3, .int x2)] [] w4_ 0 0
      refine mp_run mp_k_cX10_owed_ok hF mp_tabX10_ok [mp_i (.aload_n 0)] (by decide +kernel) ?_
      show mp_W E X 4 25 [(0, .ref a0), (1, .int x0), (2, .int x1), (3, .int x2)] [.ref a0] w4_ 0 0
      refine mp_callV hF (As := []) (rest := []) (wr := [(mp_arI E a4 0 300 f3)]) (bX10_lays_62 E a0 a1 a2 a3 a5 a6 a7 a8 a9 a10 a11 a12 a13 a14 a15 a16 a4 a17 a18 a19 a20 a21 a22 a23 a24 a25 f0 f1 f2 f4 f5 f6 f7 f8 0 y1 y2 y3 y4 y5 y6 y7 y8 y9 y10 y11 y12 y13 y14 y15 y16 y17 y18 y19 y20 y21 p0 p1 p2 p3 p4 p5 p6 p7 p12 p13 l_y1 u_y1 l_y2 u_y2 l_y3 u_y3 l_y4 u_y4 l_y11 u_y11 l_y12 u_y12 l_y13 u_y13 (by (first | exact q1 | omega))) mp_lkX10_288 8 rfl [8, 9, 0, 1, 3, 4, 5, 6, 7] [2] rfl rfl rfl rfl rfl ⟨(Nat.le_of_ble_eq_true rfl), (Nat.le_of_ble_eq_true rfl), (Nat.le_of_ble_eq_true rfl), (Nat.le_of_ble_eq_true rfl)⟩ (Nat.le_of_ble_eq_true rfl) (by first | exact mp_fd_ok mp_k_cX10_owed_ok (by decide +kernel) | decide +kernel) (fun v_39 w_40 h_41 => ?_)
      refine h_41.elim fun r_42 q_52 => q_52.elim fun g_43 q_53 => q_53.elim fun g_44 q_54 => q_54.elim fun g_45 q_55 => q_55.elim fun g_46 q_56 => q_56.elim fun e_57 q_58 => q_58.elim fun l_47 q_59 => q_59.elim fun u_48 q_60 => q_60.elim fun p_49 q_61 => q_61.elim fun x_50 q_62 => q_62.elim fun x_51 e_63 => ?_
      clear h_41 q_52 q_53 q_54 q_55 q_56 q_58 q_59 q_60 q_61 q_62
      subst e_57
      subst e_63
      let w5_ : va_W := [(mp_arI E a4 0 300 f3), (mp_ob10 a0 0 a10 a11 a12 a13 a14 y1 y2 y3 y4 y5 y6 y7 y8 y9 y10 a15 a1 a2 a16 a3 a4 a5 a17 r_42 a6 a7 a8 a9 y12 y13 y14 a18 a19 y15 y16 a20 a21 a22 y17 y18 y19 y20 a23 a24 a25 y21), (mp_arI E a1 0 25 f0), (mp_arI E a2 0 180 f1), (mp_arI E a3 0 90 f2), (mp_arI E a5 0 300 f4), (mp_arI E a6 0 6 g_43), (mp_arI E a7 0 6 g_44), (mp_arI E a8 0 6 g_45), (mp_arI E a9 3 1500 g_46)]
      show mp_W E X 4 28 [(0, .ref a0), (1, .int x0), (2, .int x1), (3, .int x2)] [] w5_ 0 0
      refine mp_run mp_k_cX10_owed_ok hF mp_tabX10_ok [mp_i (.aload_n 0), mp_i (.iload_n 1), mp_i (.iload_n 2), mp_i (.iload_n 3)] (by decide +kernel) ?_
      show mp_W E X 4 32 [(0, .ref a0), (1, .int x0), (2, .int x1), (3, .int x2)] [.int x2, .int x1, .int x0, .ref a0] w5_ 0 0
      refine mp_callV hF (As := [.int x0, .int x1, .int x2]) (rest := []) (wr := [(mp_arI E a2 0 180 f1), (mp_arI E a5 0 300 f4), (mp_arI E a6 0 6 g_43), (mp_arI E a7 0 6 g_44), (mp_arI E a8 0 6 g_45)]) (bX10_owedOf_77 E a0 a1 a3 a4 a9 a10 a11 a12 a13 a14 a15 a2 a16 a5 a17 a6 a7 a8 a18 a19 a20 a21 a22 a23 a24 a25 f0 f2 f3 g_46 0 y1 y2 y3 y4 y5 y6 y7 y8 y9 y10 r_42 y12 y13 y14 y15 y16 y17 y18 y19 y20 y21 x0 x1 x2 p0 p1 p2 p3 p4 p6 p7 p8 p9 p10 p11 (by (first | exact c_34 | omega)) (by (first | exact mp_o1513 c_35 | omega)) l_y1 u_y1 l_y2 u_y2 l_y3 u_y3 l_y4 u_y4 l_47 u_48 l_y12 u_y12 l_y13 u_y13 (by first | assumption | (rw [rfl]; assumption))) mp_lkX10_298 1 rfl [1, 2, 4, 0, 9] [3, 5, 6, 7, 8] rfl rfl rfl rfl rfl ⟨(Nat.le_of_ble_eq_true rfl), (Nat.le_of_ble_eq_true rfl), (Nat.le_of_ble_eq_true rfl), (Nat.le_of_ble_eq_true rfl)⟩ (Nat.le_of_ble_eq_true rfl) (by first | exact mp_fd_ok mp_k_cX10_owed_ok (by decide +kernel) | decide +kernel) (fun v_64 w_65 h_66 => ?_)
      obtain ⟨r_67, rfl, rfl⟩ := h_66
      let w6_ : va_W := [(mp_arI E a2 0 180 f1), (mp_arI E a5 0 300 f4), (mp_arI E a6 0 6 g_43), (mp_arI E a7 0 6 g_44), (mp_arI E a8 0 6 g_45), (mp_ob10 a0 0 a10 a11 a12 a13 a14 y1 y2 y3 y4 y5 y6 y7 y8 y9 y10 a15 a1 a2 a16 a3 a4 a5 a17 r_42 a6 a7 a8 a9 y12 y13 y14 a18 a19 y15 y16 a20 a21 a22 y17 y18 y19 y20 a23 a24 a25 y21), (mp_arI E a1 0 25 f0), (mp_arI E a3 0 90 f2), (mp_arI E a4 0 300 f3), (mp_arI E a9 3 1500 g_46)]
      show mp_W E X 4 35 [(0, .ref a0), (1, .int x0), (2, .int x1), (3, .int x2)] [.int r_67] w6_ 0 0
      exact mp_iret hF hQ rfl rfl (Nat.le_of_ble_eq_true rfl) (Nat.le_of_ble_eq_true rfl) [5, 6, 0, 7, 8, 1, 2, 3, 4, 9] (w' := [(mp_ob10 a0 0 a10 a11 a12 a13 a14 y1 y2 y3 y4 y5 y6 y7 y8 y9 y10 a15 a1 a2 a16 a3 a4 a5 a17 r_42 a6 a7 a8 a9 y12 y13 y14 a18 a19 y15 y16 a20 a21 a22 y17 y18 y19 y20 a23 a24 a25 y21), (mp_arI E a1 0 25 f0), (mp_arI E a2 0 180 f1), (mp_arI E a3 0 90 f2), (mp_arI E a4 0 300 f3), (mp_arI E a5 0 300 f4), (mp_arI E a6 0 6 g_43), (mp_arI E a7 0 6 g_44), (mp_arI E a8 0 6 g_45), (mp_arI E a9 3 1500 g_46)]) rfl rfl ⟨r_42, g_43, g_44, g_45, g_46, r_67, rfl, l_47, u_48, p_49, rfl⟩ (by first | exact mp_fd_ok mp_k_cX10_owed_ok (by decide +kernel) | decide +kernel)
set_option maxHeartbeats 4000000 in
set_option maxRecDepth 100000 in
theorem bX10_sumOf_79 (E : mp_E) (a0 a1 a2 a3 a4 a5 a6 a7 a8 a9 a10 a11 a12 a13 a14 a15 a16 a17 a18 a19 a20 a21 a22 a23 a24 a25 : Nat) (f0 : Nat → Int32) (f1 : Nat → Int32) (f2 : Nat → Int32) (f3 : Nat → Int32) (y0 : Int32) (y1 : Int32) (y2 : Int32) (y3 : Int32) (y4 : Int32) (y5 : Int32) (y6 : Int64) (y7 : Int32) (y8 : Int32) (y9 : Int32) (y10 : Int32) (y11 : Int32) (y12 : Int32) (y13 : Int32) (y14 : Int32) (y15 : Int32) (y16 : Int32) (y17 : Int32) (y18 : Int32) (y19 : Int32) (y20 : Int32) (y21 : Int32) (x0 : Int32) (x1 : Int32) (x2 : Int32) (p0 : mp_res f0 25 5 0 0 6) (p1 : mp_res f0 25 5 1 0 99) (p2 : mp_res f0 25 5 2 0 6) (p3 : mp_res f0 25 5 3 0 10) (p4 : mp_res f0 25 5 4 0 60) (p5 : mp_res f1 90 3 0 0 5) (p6 : mp_res f1 90 3 1 (-1) 99) (p7 : mp_res f2 300 6 0 0 5) (p8 : mp_res f2 300 6 1 0 5) (p9 : mp_res f2 300 6 3 0 99) (p10 : mp_res f2 300 6 4 0 1) (l_x1 : 0 ≤ x1.toInt) (u_x1 : x1.toInt ≤ 139) (l_y1 : 0 ≤ y1.toInt) (u_y1 : y1.toInt ≤ 1600) (l_y2 : 0 ≤ y2.toInt) (u_y2 : y2.toInt ≤ 1600) (l_y3 : 0 ≤ y3.toInt) (u_y3 : y3.toInt ≤ 4) (l_y4 : 0 ≤ y4.toInt) (u_y4 : y4.toInt ≤ 1600) (l_y11 : 0 ≤ y11.toInt) (u_y11 : y11.toInt ≤ 99) (l_y12 : 0 ≤ y12.toInt) (u_y12 : y12.toInt ≤ 5) (l_y13 : 0 ≤ y13.toInt) (u_y13 : y13.toInt ≤ 12) (q0 : mp_prm f2 (f0 3).toInt) : mp_Ct E yX10_sumOf cX10_sumOf 7 (some FieldType.int) 15 0 0 359 [.ref a0, .int x0, .int x1, .int x2] [(mp_ob10 a0 y0 a5 a6 a7 a8 a9 y1 y2 y3 y4 y5 y6 y7 y8 y9 y10 a10 a1 a11 a12 a2 a3 a13 a14 y11 a15 a16 a17 a4 y12 y13 y14 a18 a19 y15 y16 a20 a21 a22 y17 y18 y19 y20 a23 a24 a25 y21), (mp_arI E a1 0 25 f0), (mp_arI E a2 0 90 f1), (mp_arI E a3 0 300 f2), (mp_arI E a4 3 1500 f3)] (fun v w' => ∃ r1 : Int32, v = some (.int r1) ∧ w' = [(mp_ob10 a0 y0 a5 a6 a7 a8 a9 y1 y2 y3 y4 y5 y6 y7 y8 y9 y10 a10 a1 a11 a12 a2 a3 a13 a14 y11 a15 a16 a17 a4 y12 y13 y14 a18 a19 y15 y16 a20 a21 a22 y17 y18 y19 y20 a23 a24 a25 y21), (mp_arI E a1 0 25 f0), (mp_arI E a2 0 90 f1), (mp_arI E a3 0 300 f2), (mp_arI E a4 3 1500 f3)]) := by
  refine mp_met false (by decide) (by decide) (Nat.le_of_ble_eq_true rfl) (fun X hF hQ => ?_)
  have hF : mp_F E X (RX10, cX10_sumOf, 7, (15, 0, 0, 359), (some FieldType.int), false) := hF
  let w1_ : va_W := [(mp_ob10 a0 y0 a5 a6 a7 a8 a9 y1 y2 y3 y4 y5 y6 y7 y8 y9 y10 a10 a1 a11 a12 a2 a3 a13 a14 y11 a15 a16 a17 a4 y12 y13 y14 a18 a19 y15 y16 a20 a21 a22 y17 y18 y19 y20 a23 a24 a25 y21), (mp_arI E a1 0 25 f0), (mp_arI E a2 0 90 f1), (mp_arI E a3 0 300 f2), (mp_arI E a4 3 1500 f3)]
  show mp_W E X 7 0 [(0, .ref a0), (1, .int x0), (2, .int x1), (3, .int x2)] [] w1_ 0 0
  refine mp_run mp_k_cX10_sumOf_ok hF mp_tabX10_ok [mp_c (.iconst 0) 0, mp_i (.istore 4), mp_c (.iconst 0) 0, mp_i (.istore 5), mp_c (.iconst 0) 0, mp_i (.istore 6)] (by decide +kernel) ?_
  show mp_W E X 7 9 [(6, .int 0), (5, .int 0), (4, .int 0), (0, .ref a0), (1, .int x0), (2, .int x1), (3, .int x2)] [] w1_ 0 0
  have lp_6 : ∀ (d_7 : Nat) (i_1 : Int32) (i_2 : Int32) (i_3 : Int32), 0 ≤ i_1.toInt → i_1.toInt ≤ 6 → (f0 2).toInt - i_1.toInt ≤ (d_7 : Int) → mp_W E X 7 9 [(6, .int i_1), (5, .int i_2), (4, .int i_3), (0, .ref a0), (1, .int x0), (2, .int x1), (3, .int x2)] [] [(mp_ob10 a0 y0 a5 a6 a7 a8 a9 y1 y2 y3 y4 y5 y6 y7 y8 y9 y10 a10 a1 a11 a12 a2 a3 a13 a14 y11 a15 a16 a17 a4 y12 y13 y14 a18 a19 y15 y16 a20 a21 a22 y17 y18 y19 y20 a23 a24 a25 y21), (mp_arI E a1 0 25 f0), (mp_arI E a2 0 90 f1), (mp_arI E a3 0 300 f2), (mp_arI E a4 3 1500 f3)] 0 0 := by
    intro d_7
    induction d_7 using Nat.strongRecOn with
    | ind d_7 ih_8 =>
      intro i_1 i_2 i_3 l_4 u_5 hm_9
      refine mp_run mp_k_cX10_sumOf_ok hF mp_tabX10_ok [mp_i (.iload 6), mp_i (.aload_n 0), mp_h (.getfield 34) [17, 0], mp_c (.iconst 2) 2, mp_h .iaload [1], mp_h (.if_icmp .ge 55) [72]] (by decide +kernel) ?_
      refine And.intro rfl (And.intro rfl ?_)
      refine And.intro rfl (And.intro rfl (And.intro (vp_in_iff.mpr (by decide)) ?_))
      intro z_10 h_11
      have e_12 : 0 ≤ z_10.toInt ∧ z_10.toInt ≤ 6 := mp_res_ld h_11 p2 (by decide) (by decide) (by decide)
      have e_13 : z_10.toInt = (f0 2).toInt := congrArg Int32.toInt (mp_at h_11 (by decide) rfl)
      refine And.intro (fun c_14 => ?_) (fun c_14 => ?_)
      · have c_14 : z_10.toInt ≤ i_1.toInt := c_14
        show mp_W E X 7 72 [(6, .int i_1), (5, .int i_2), (4, .int i_3), (0, .ref a0), (1, .int x0), (2, .int x1), (3, .int x2)] [] w1_ 0 0
        refine mp_run mp_k_cX10_sumOf_ok hF mp_tabX10_ok [mp_i (.iload_n 3), mp_h (.ifCond .ne 8) [81]] (by decide +kernel) ?_
        refine And.intro (fun c_15 => ?_) (fun c_15 => ?_)
        · have c_15 : x2.toInt ≠ 0 := c_15
          show mp_W E X 7 81 [(6, .int i_1), (5, .int i_2), (4, .int i_3), (0, .ref a0), (1, .int x0), (2, .int x1), (3, .int x2)] [] w1_ 0 0
          refine mp_run mp_k_cX10_sumOf_ok hF mp_tabX10_ok [mp_i (.iload_n 3), mp_c (.iconst 1) 1, mp_h (.if_icmp .ne 8) [91]] (by decide +kernel) ?_
          refine And.intro (fun c_16 => ?_) (fun c_16 => ?_)
          · have c_16 : x2.toInt ≠ 1 := c_16
            show mp_W E X 7 91 [(6, .int i_1), (5, .int i_2), (4, .int i_3), (0, .ref a0), (1, .int x0), (2, .int x1), (3, .int x2)] [] w1_ 0 0
            refine mp_run mp_k_cX10_sumOf_ok hF mp_tabX10_ok [mp_i (.iload 5), mp_i (.iload 4), mp_i .isub] (by decide +kernel) ?_
            intro z_17 h_18
            show mp_W E X 7 96 [(6, .int i_1), (5, .int i_2), (4, .int i_3), (0, .ref a0), (1, .int x0), (2, .int x1), (3, .int x2)] [.int z_17] w1_ 0 0
            exact mp_iret hF hQ rfl rfl (Nat.le_of_ble_eq_true rfl) (Nat.le_of_ble_eq_true rfl) [0, 1, 2, 3, 4] (w' := w1_) rfl rfl ⟨z_17, rfl, rfl⟩ (by first | exact mp_fd_ok mp_k_cX10_sumOf_ok (by decide +kernel) | decide +kernel)
          · have c_16 : x2.toInt = 1 := (congrArg Int32.toInt c_16)
            show mp_W E X 7 86 [(6, .int i_1), (5, .int i_2), (4, .int i_3), (0, .ref a0), (1, .int x0), (2, .int x1), (3, .int x2)] [] w1_ 0 0
            refine mp_run mp_k_cX10_sumOf_ok hF mp_tabX10_ok [mp_i (.iload 5), mp_h (.goto 8) [96]] (by decide +kernel) ?_
            show mp_W E X 7 96 [(6, .int i_1), (5, .int i_2), (4, .int i_3), (0, .ref a0), (1, .int x0), (2, .int x1), (3, .int x2)] [.int i_2] w1_ 0 0
            exact mp_iret hF hQ rfl rfl (Nat.le_of_ble_eq_true rfl) (Nat.le_of_ble_eq_true rfl) [0, 1, 2, 3, 4] (w' := w1_) rfl rfl ⟨i_2, rfl, rfl⟩ (by first | exact mp_fd_ok mp_k_cX10_sumOf_ok (by decide +kernel) | decide +kernel)
        · have c_15 : x2.toInt = 0 := (congrArg Int32.toInt c_15)
          show mp_W E X 7 76 [(6, .int i_1), (5, .int i_2), (4, .int i_3), (0, .ref a0), (1, .int x0), (2, .int x1), (3, .int x2)] [] w1_ 0 0
          refine mp_run mp_k_cX10_sumOf_ok hF mp_tabX10_ok [mp_i (.iload 4), mp_h (.goto 18) [96]] (by decide +kernel) ?_
          show mp_W E X 7 96 [(6, .int i_1), (5, .int i_2), (4, .int i_3), (0, .ref a0), (1, .int x0), (2, .int x1), (3, .int x2)] [.int i_3] w1_ 0 0
          exact mp_iret hF hQ rfl rfl (Nat.le_of_ble_eq_true rfl) (Nat.le_of_ble_eq_true rfl) [0, 1, 2, 3, 4] (w' := w1_) rfl rfl ⟨i_3, rfl, rfl⟩ (by first | exact mp_fd_ok mp_k_cX10_sumOf_ok (by decide +kernel) | decide +kernel)
      · have c_14 : i_1.toInt < z_10.toInt := c_14
        show mp_W E X 7 20 [(6, .int i_1), (5, .int i_2), (4, .int i_3), (0, .ref a0), (1, .int x0), (2, .int x1), (3, .int x2)] [] w1_ 0 0
        refine mp_run mp_k_cX10_sumOf_ok hF mp_tabX10_ok [mp_i (.iload 4), mp_i (.iload 6), mp_i (.iload_n 1), mp_h (.if_icmp .ne 7) [32]] (by decide +kernel) ?_
        refine And.intro (fun c_20 => ?_) (fun c_20 => ?_)
        · have c_20 : i_1.toInt ≠ x0.toInt := c_20
          show mp_W E X 7 32 [(6, .int i_1), (5, .int i_2), (4, .int i_3), (0, .ref a0), (1, .int x0), (2, .int x1), (3, .int x2)] [.int i_3] w1_ 0 0
          refine mp_run mp_k_cX10_sumOf_ok hF mp_tabX10_ok [mp_i (.aload_n 0), mp_i (.iload_n 1), mp_i (.iload 6), mp_i (.iload_n 2)] (by decide +kernel) ?_
          show mp_W E X 7 37 [(6, .int i_1), (5, .int i_2), (4, .int i_3), (0, .ref a0), (1, .int x0), (2, .int x1), (3, .int x2)] [.int x1, .int i_1, .int x0, .ref a0, .int i_3] w1_ 0 0
          refine mp_callV hF (As := [.int x0, .int i_1, .int x1]) (rest := [.int i_3]) (wr := []) (bX10_owedOf_77 E a0 a1 a2 a3 a4 a5 a6 a7 a8 a9 a10 a11 a12 a13 a14 a15 a16 a17 a18 a19 a20 a21 a22 a23 a24 a25 f0 f1 f2 f3 y0 y1 y2 y3 y4 y5 y6 y7 y8 y9 y10 y11 y12 y13 y14 y15 y16 y17 y18 y19 y20 y21 x0 i_1 x1 p0 p1 p2 p3 p4 p5 p6 p7 p8 p9 p10 l_x1 u_x1 l_y1 u_y1 l_y2 u_y2 l_y3 u_y3 l_y4 u_y4 l_y11 u_y11 l_y12 u_y12 l_y13 u_y13 (by first | assumption | (rw [rfl]; assumption))) mp_lkX10_298 0 rfl [0, 1, 2, 3, 4] [] rfl rfl rfl rfl rfl ⟨(Nat.le_of_ble_eq_true rfl), (Nat.le_of_ble_eq_true rfl), (Nat.le_of_ble_eq_true rfl), (Nat.le_of_ble_eq_true rfl)⟩ (Nat.le_of_ble_eq_true rfl) (by first | exact mp_fd_ok mp_k_cX10_sumOf_ok (by decide +kernel) | decide +kernel) (fun v_21 w_22 h_23 => ?_)
          obtain ⟨r_24, rfl, rfl⟩ := h_23
          show mp_W E X 7 40 [(6, .int i_1), (5, .int i_2), (4, .int i_3), (0, .ref a0), (1, .int x0), (2, .int x1), (3, .int x2)] [.int r_24, .int i_3] w1_ 0 0
          refine mp_run mp_k_cX10_sumOf_ok hF mp_tabX10_ok [mp_i .iadd, mp_i (.istore 4), mp_i (.iload 5), mp_i (.iload 6), mp_i (.iload_n 1), mp_h (.if_icmp .ne 7) [55]] (by decide +kernel) ?_
          intro z_25 h_26
          refine And.intro (fun c_28 => ?_) (fun c_28 => ?_)
          · have c_28 : i_1.toInt ≠ x0.toInt := c_28
            show mp_W E X 7 55 [(4, .int z_25), (6, .int i_1), (5, .int i_2), (0, .ref a0), (1, .int x0), (2, .int x1), (3, .int x2)] [.int i_2] w1_ 0 0
            refine mp_run mp_k_cX10_sumOf_ok hF mp_tabX10_ok [mp_i (.aload_n 0), mp_i (.iload 6), mp_i (.iload_n 1), mp_i (.iload_n 2)] (by decide +kernel) ?_
            show mp_W E X 7 60 [(4, .int z_25), (6, .int i_1), (5, .int i_2), (0, .ref a0), (1, .int x0), (2, .int x1), (3, .int x2)] [.int x1, .int x0, .int i_1, .ref a0, .int i_2] w1_ 0 0
            refine mp_callV hF (As := [.int i_1, .int x0, .int x1]) (rest := [.int i_2]) (wr := []) (bX10_owedOf_77 E a0 a1 a2 a3 a4 a5 a6 a7 a8 a9 a10 a11 a12 a13 a14 a15 a16 a17 a18 a19 a20 a21 a22 a23 a24 a25 f0 f1 f2 f3 y0 y1 y2 y3 y4 y5 y6 y7 y8 y9 y10 y11 y12 y13 y14 y15 y16 y17 y18 y19 y20 y21 i_1 x0 x1 p0 p1 p2 p3 p4 p5 p6 p7 p8 p9 p10 l_x1 u_x1 l_y1 u_y1 l_y2 u_y2 l_y3 u_y3 l_y4 u_y4 l_y11 u_y11 l_y12 u_y12 l_y13 u_y13 (by first | assumption | (rw [rfl]; assumption))) mp_lkX10_298 0 rfl [0, 1, 2, 3, 4] [] rfl rfl rfl rfl rfl ⟨(Nat.le_of_ble_eq_true rfl), (Nat.le_of_ble_eq_true rfl), (Nat.le_of_ble_eq_true rfl), (Nat.le_of_ble_eq_true rfl)⟩ (Nat.le_of_ble_eq_true rfl) (by first | exact mp_fd_ok mp_k_cX10_sumOf_ok (by decide +kernel) | decide +kernel) (fun v_29 w_30 h_31 => ?_)
            obtain ⟨r_32, rfl, rfl⟩ := h_31
            show mp_W E X 7 63 [(4, .int z_25), (6, .int i_1), (5, .int i_2), (0, .ref a0), (1, .int x0), (2, .int x1), (3, .int x2)] [.int r_32, .int i_2] w1_ 0 0
            refine mp_run mp_k_cX10_sumOf_ok hF mp_tabX10_ok [mp_i .iadd, mp_i (.istore 5), mp_c (.iinc 6 1) 1, mp_h (.goto (-60)) [9]] (by decide +kernel) ?_
            intro z_33 h_34
            intro z_36 h_37
            have e_38 : z_36.toInt = i_1.toInt + 1 := mp_add (a := i_1.toInt) (b := 1) h_37 rfl (by decide) (by (first | exact mp_o2 l_4 | omega)) (by (first | exact mp_o351 u_5 | omega))
            show mp_W E X 7 9 [(6, .int z_36), (5, .int z_33), (4, .int z_25), (0, .ref a0), (1, .int x0), (2, .int x1), (3, .int x2)] [] w1_ 0 0
            exact mp_sub [0, 1, 2, 3, 4, 5, 6] rfl [0, 1, 2, 3, 4] rfl rfl (ih_8 (d_7 - 1) (by (first | exact mp_o1454 hm_9 e_13 c_14 | omega)) z_36 z_33 z_25 (by (first | exact mp_o51 l_4 e_38 | omega)) (by (first | exact mp_o1485 e_38 c_14 e_12 | omega)) (by (first | exact mp_o77 hm_9 e_38 | omega)))
          · have c_28 : i_1.toInt = x0.toInt := (congrArg Int32.toInt c_28)
            show mp_W E X 7 51 [(4, .int z_25), (6, .int i_1), (5, .int i_2), (0, .ref a0), (1, .int x0), (2, .int x1), (3, .int x2)] [.int i_2] w1_ 0 0
            refine mp_run mp_k_cX10_sumOf_ok hF mp_tabX10_ok [mp_c (.iconst 0) 0, mp_h (.goto 11) [63], mp_i .iadd, mp_i (.istore 5), mp_c (.iinc 6 1) 1, mp_h (.goto (-60)) [9]] (by decide +kernel) ?_
            intro z_39 h_40
            have e_41 := mp_bnd i_2
            have e_42 : z_39.toInt = i_2.toInt + 0 := mp_add (a := i_2.toInt) (b := 0) h_40 rfl (by decide) (by (first | exact mp_o827 e_41 | omega)) (by (first | exact mp_o828 e_41 | omega))
            intro z_43 h_44
            have e_45 : z_43.toInt = i_1.toInt + 1 := mp_add (a := i_1.toInt) (b := 1) h_44 rfl (by decide) (by (first | exact mp_o2 l_4 | omega)) (by (first | exact mp_o351 u_5 | omega))
            show mp_W E X 7 9 [(6, .int z_43), (5, .int z_39), (4, .int z_25), (0, .ref a0), (1, .int x0), (2, .int x1), (3, .int x2)] [] w1_ 0 0
            exact mp_sub [0, 1, 2, 3, 4, 5, 6] rfl [0, 1, 2, 3, 4] rfl rfl (ih_8 (d_7 - 1) (by (first | exact mp_o1454 hm_9 e_13 c_14 | omega)) z_43 z_39 z_25 (by (first | exact mp_o51 l_4 e_45 | omega)) (by (first | exact mp_o1485 e_45 c_14 e_12 | omega)) (by (first | exact mp_o77 hm_9 e_45 | omega)))
        · have c_20 : i_1.toInt = x0.toInt := (congrArg Int32.toInt c_20)
          show mp_W E X 7 28 [(6, .int i_1), (5, .int i_2), (4, .int i_3), (0, .ref a0), (1, .int x0), (2, .int x1), (3, .int x2)] [.int i_3] w1_ 0 0
          refine mp_run mp_k_cX10_sumOf_ok hF mp_tabX10_ok [mp_c (.iconst 0) 0, mp_h (.goto 11) [40], mp_i .iadd, mp_i (.istore 4), mp_i (.iload 5), mp_i (.iload 6), mp_i (.iload_n 1), mp_h (.if_icmp .ne 7) [55]] (by decide +kernel) ?_
          intro z_46 h_47
          have e_48 := mp_bnd i_3
          have e_49 : z_46.toInt = i_3.toInt + 0 := mp_add (a := i_3.toInt) (b := 0) h_47 rfl (by decide) (by omega) (by omega)
          refine And.intro (fun c_50 => ?_) (fun c_50 => ?_)
          · have c_50 : i_1.toInt ≠ x0.toInt := c_50
            show mp_W E X 7 55 [(4, .int z_46), (6, .int i_1), (5, .int i_2), (0, .ref a0), (1, .int x0), (2, .int x1), (3, .int x2)] [.int i_2] w1_ 0 0
            refine mp_run mp_k_cX10_sumOf_ok hF mp_tabX10_ok [mp_i (.aload_n 0), mp_i (.iload 6), mp_i (.iload_n 1), mp_i (.iload_n 2)] (by decide +kernel) ?_
            show mp_W E X 7 60 [(4, .int z_46), (6, .int i_1), (5, .int i_2), (0, .ref a0), (1, .int x0), (2, .int x1), (3, .int x2)] [.int x1, .int x0, .int i_1, .ref a0, .int i_2] w1_ 0 0
            refine mp_callV hF (As := [.int i_1, .int x0, .int x1]) (rest := [.int i_2]) (wr := []) (bX10_owedOf_77 E a0 a1 a2 a3 a4 a5 a6 a7 a8 a9 a10 a11 a12 a13 a14 a15 a16 a17 a18 a19 a20 a21 a22 a23 a24 a25 f0 f1 f2 f3 y0 y1 y2 y3 y4 y5 y6 y7 y8 y9 y10 y11 y12 y13 y14 y15 y16 y17 y18 y19 y20 y21 i_1 x0 x1 p0 p1 p2 p3 p4 p5 p6 p7 p8 p9 p10 l_x1 u_x1 l_y1 u_y1 l_y2 u_y2 l_y3 u_y3 l_y4 u_y4 l_y11 u_y11 l_y12 u_y12 l_y13 u_y13 (by first | assumption | (rw [rfl]; assumption))) mp_lkX10_298 0 rfl [0, 1, 2, 3, 4] [] rfl rfl rfl rfl rfl ⟨(Nat.le_of_ble_eq_true rfl), (Nat.le_of_ble_eq_true rfl), (Nat.le_of_ble_eq_true rfl), (Nat.le_of_ble_eq_true rfl)⟩ (Nat.le_of_ble_eq_true rfl) (by first | exact mp_fd_ok mp_k_cX10_sumOf_ok (by decide +kernel) | decide +kernel) (fun v_51 w_52 h_53 => ?_)
            obtain ⟨r_54, rfl, rfl⟩ := h_53
            show mp_W E X 7 63 [(4, .int z_46), (6, .int i_1), (5, .int i_2), (0, .ref a0), (1, .int x0), (2, .int x1), (3, .int x2)] [.int r_54, .int i_2] w1_ 0 0
            refine mp_run mp_k_cX10_sumOf_ok hF mp_tabX10_ok [mp_i .iadd, mp_i (.istore 5), mp_c (.iinc 6 1) 1, mp_h (.goto (-60)) [9]] (by decide +kernel) ?_
            intro z_55 h_56
            intro z_58 h_59
            have e_60 : z_58.toInt = i_1.toInt + 1 := mp_add (a := i_1.toInt) (b := 1) h_59 rfl (by decide) (by omega) (by omega)
            show mp_W E X 7 9 [(6, .int z_58), (5, .int z_55), (4, .int z_46), (0, .ref a0), (1, .int x0), (2, .int x1), (3, .int x2)] [] w1_ 0 0
            exact mp_sub [0, 1, 2, 3, 4, 5, 6] rfl [0, 1, 2, 3, 4] rfl rfl (ih_8 (d_7 - 1) (by omega) z_58 z_55 z_46 (by omega) (by omega) (by omega))
          · have c_50 : i_1.toInt = x0.toInt := (congrArg Int32.toInt c_50)
            show mp_W E X 7 51 [(4, .int z_46), (6, .int i_1), (5, .int i_2), (0, .ref a0), (1, .int x0), (2, .int x1), (3, .int x2)] [.int i_2] w1_ 0 0
            refine mp_run mp_k_cX10_sumOf_ok hF mp_tabX10_ok [mp_c (.iconst 0) 0, mp_h (.goto 11) [63], mp_i .iadd, mp_i (.istore 5), mp_c (.iinc 6 1) 1, mp_h (.goto (-60)) [9]] (by decide +kernel) ?_
            intro z_61 h_62
            have e_63 := mp_bnd i_2
            have e_64 : z_61.toInt = i_2.toInt + 0 := mp_add (a := i_2.toInt) (b := 0) h_62 rfl (by decide) (by (first | exact mp_o827 e_63 | omega)) (by (first | exact mp_o828 e_63 | omega))
            intro z_65 h_66
            have e_67 : z_65.toInt = i_1.toInt + 1 := mp_add (a := i_1.toInt) (b := 1) h_66 rfl (by decide) (by (first | exact mp_o2 l_4 | omega)) (by (first | exact mp_o351 u_5 | omega))
            show mp_W E X 7 9 [(6, .int z_65), (5, .int z_61), (4, .int z_46), (0, .ref a0), (1, .int x0), (2, .int x1), (3, .int x2)] [] w1_ 0 0
            exact mp_sub [0, 1, 2, 3, 4, 5, 6] rfl [0, 1, 2, 3, 4] rfl rfl (ih_8 (d_7 - 1) (by (first | exact mp_o1454 hm_9 e_13 c_14 | omega)) z_65 z_61 z_46 (by (first | exact mp_o51 l_4 e_67 | omega)) (by (first | exact mp_o1485 e_67 c_14 e_12 | omega)) (by (first | exact mp_o77 hm_9 e_67 | omega)))
  exact mp_sub [0, 1, 2, 3, 4, 5, 6] rfl [0, 1, 2, 3, 4] rfl rfl (lp_6 _ 0 0 0 (by decide) (by decide) (Int.self_le_toNat _))
