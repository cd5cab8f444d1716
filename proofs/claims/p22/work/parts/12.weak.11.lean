set_option maxHeartbeats 4000000 in
set_option maxRecDepth 100000 in
theorem bX9_sea_56 (E : mp_E) (a0 a1 a2 a3 a4 a5 a6 a7 a8 a9 a10 a11 a12 a13 a14 a15 a16 a17 a18 a19 a20 a21 a22 a23 a24 a25 a26 a27 a28 : Nat) (f0 : Nat → Int32) (y0 : Int32) (y1 : Int32) (y2 : Int32) (y3 : Int32) (y4 : Int32) (y5 : Int32) (y6 : Int32) (x0 : Int32) (x1 : Int32) (p0 : mp_all f0 36 0 20) (l_y0 : 0 ≤ y0.toInt) (u_y0 : y0.toInt ≤ 99) (l_y2 : 0 ≤ y2.toInt) (u_y2 : y2.toInt ≤ 6) (l_y3 : 0 ≤ y3.toInt) (u_y3 : y3.toInt ≤ 99) (l_y4 : 0 ≤ y4.toInt) (u_y4 : y4.toInt ≤ 6) (l_y5 : 0 ≤ y5.toInt) (u_y5 : y5.toInt ≤ 10) (l_y6 : 0 ≤ y6.toInt) (u_y6 : y6.toInt ≤ 60) : mp_Ct E yX9_sea cX9_sea 4 (some FieldType.int) 1 0 0 22 [.ref a0, .int x0, .int x1] [(mp_ob9 a0 a4 a1 a5 a6 a7 a8 a9 a10 a11), (mp_ob0 a1 a2 y0 a12 a13 a14 a15 a16 a17), (mp_ob7 a2 y1 y2 y3 y4 y5 y6 a3 a18 a19 a20 a21 a22 a23 a24 a25 a26 a27 a28), (mp_arI E a3 0 36 f0)] (fun v w' => ∃ r1 : Int32, v = some (.int r1) ∧ (-2) ≤ r1.toInt ∧ r1.toInt ≤ 20 ∧ (((x0.toInt < 0 ∨ y2.toInt ≤ x0.toInt ∨ x1.toInt < 0 ∨ y2.toInt ≤ x1.toInt ∨ x0.toInt = x1.toInt) ∧ r1.toInt = -2) ∨ ((0 ≤ x0.toInt ∧ x0.toInt < y2.toInt ∧ 0 ≤ x1.toInt ∧ x1.toInt < y2.toInt ∧ x0.toInt ≠ x1.toInt) ∧ r1.toInt = (f0 (6 * x0.toInt + x1.toInt).toNat).toInt)) ∧ w' = [(mp_ob9 a0 a4 a1 a5 a6 a7 a8 a9 a10 a11), (mp_ob0 a1 a2 y0 a12 a13 a14 a15 a16 a17), (mp_ob7 a2 y1 y2 y3 y4 y5 y6 a3 a18 a19 a20 a21 a22 a23 a24 a25 a26 a27 a28), (mp_arI E a3 0 36 f0)]) := by
  refine mp_met false (by decide) (by decide) (Nat.le_of_ble_eq_true rfl) (fun X hF hQ => ?_)
  have hF : mp_F E X (RX9, cX9_sea, 4, (1, 0, 0, 22), (some FieldType.int), false) := hF
  let w1_ : va_W := [(mp_ob9 a0 a4 a1 a5 a6 a7 a8 a9 a10 a11), (mp_ob0 a1 a2 y0 a12 a13 a14 a15 a16 a17), (mp_ob7 a2 y1 y2 y3 y4 y5 y6 a3 a18 a19 a20 a21 a22 a23 a24 a25 a26 a27 a28), (mp_arI E a3 0 36 f0)]
  show mp_W E X 4 0 [(0, .ref a0), (1, .int x0), (2, .int x1)] [] w1_ 0 0
  refine mp_run mp_k_cX9_sea_ok hF mp_tabX9_ok [mp_i (.aload_n 0), mp_h (.getfield 19) [37, 0], mp_h (.getfield 83) [20, 1], mp_i (.astore_n 3), mp_i (.aload_n 3), mp_i (.iload_n 1)] (by decide +kernel) ?_
  refine And.intro rfl (And.intro rfl ?_)
  refine And.intro rfl (And.intro rfl ?_)
  show mp_W E X 4 10 [(3, .ref a2), (0, .ref a0), (1, .int x0), (2, .int x1)] [.int x0, .ref a2] w1_ 0 0
  refine mp_callV hF (As := [.int x0]) (rest := []) (wr := [(mp_ob9 a0 a4 a1 a5 a6 a7 a8 a9 a10 a11), (mp_ob0 a1 a2 y0 a12 a13 a14 a15 a16 a17), (mp_arI E a3 0 36 f0)]) (bX7_isIsle_55 E a2 a3 a18 a19 a20 a21 a22 a23 a24 a25 a26 a27 a28 y1 y2 y3 y4 y5 y6 x0 l_y2 u_y2 l_y3 u_y3 l_y4 u_y4 l_y5 u_y5 l_y6 u_y6) mp_lkX9_141 2 rfl [2] [0, 1, 3] rfl rfl rfl rfl rfl ⟨(Nat.le_of_ble_eq_true rfl), (Nat.le_of_ble_eq_true rfl), (Nat.le_of_ble_eq_true rfl), (Nat.le_of_ble_eq_true rfl)⟩ (Nat.le_of_ble_eq_true rfl) (by first | exact mp_fd_ok mp_k_cX9_sea_ok (by decide +kernel) | decide +kernel) (fun v_1 w_2 h_3 => ?_)
  rcases h_3 with ⟨rfl, x_4, rfl⟩ | ⟨rfl, c_5, c_6, x_7, rfl⟩
  · skip
    let w2_ : va_W := [(mp_ob9 a0 a4 a1 a5 a6 a7 a8 a9 a10 a11), (mp_ob0 a1 a2 y0 a12 a13 a14 a15 a16 a17), (mp_arI E a3 0 36 f0), (mp_ob7 a2 y1 y2 y3 y4 y5 y6 a3 a18 a19 a20 a21 a22 a23 a24 a25 a26 a27 a28)]
    show mp_W E X 4 13 [(3, .ref a2), (0, .ref a0), (1, .int x0), (2, .int x1)] [.int 0] w2_ 0 0
    refine mp_run mp_k_cX9_sea_ok hF mp_tabX9_ok [mp_h (.ifCond .eq 16) [29]] (by decide +kernel) ?_
    refine And.intro (fun _ => ?_) (fun c_8 => absurd c_8 (by decide))
    show mp_W E X 4 29 [(3, .ref a2), (0, .ref a0), (1, .int x0), (2, .int x1)] [] w2_ 0 0
    refine mp_run mp_k_cX9_sea_ok hF mp_tabX9_ok [mp_c (.bipush (-2)) (-2)] (by decide +kernel) ?_
    show mp_W E X 4 31 [(3, .ref a2), (0, .ref a0), (1, .int x0), (2, .int x1)] [.int (-2)] w2_ 0 0
    exact mp_iret hF hQ rfl rfl (Nat.le_of_ble_eq_true rfl) (Nat.le_of_ble_eq_true rfl) [0, 1, 3, 2] (w' := w1_) rfl rfl ⟨(-2), rfl, (by decide), (by decide), (by first | fail | decide | (have h8 : (0 : Int64).toInt = 0 := rfl; have h9 : (-1 : Int32).toInt = -1 := rfl; have h10 : (-2 : Int32).toInt = -2 := rfl; have h11 : (0 : Int32).toInt = 0 := rfl; have h12 : (1 : Int32).toInt = 1 := rfl; have h13 : (-5 : Int32).toInt = -5 := rfl; have h14 : (-3 : Int32).toInt = -3 := rfl; (first | exact mp_o396 x_4 h10 | omega))), rfl⟩ (by first | exact mp_fd_ok mp_k_cX9_sea_ok (by decide +kernel) | decide +kernel)
  · skip
    have c_5 : 0 ≤ x0.toInt := c_5
    have c_6 : x0.toInt < y2.toInt := c_6
    let w3_ : va_W := [(mp_ob9 a0 a4 a1 a5 a6 a7 a8 a9 a10 a11), (mp_ob0 a1 a2 y0 a12 a13 a14 a15 a16 a17), (mp_arI E a3 0 36 f0), (mp_ob7 a2 y1 y2 y3 y4 y5 y6 a3 a18 a19 a20 a21 a22 a23 a24 a25 a26 a27 a28)]
    show mp_W E X 4 13 [(3, .ref a2), (0, .ref a0), (1, .int x0), (2, .int x1)] [.int 1] w3_ 0 0
    refine mp_run mp_k_cX9_sea_ok hF mp_tabX9_ok [mp_h (.ifCond .eq 16) [29]] (by decide +kernel) ?_
    refine And.intro (fun c_9 => absurd c_9 (by decide)) (fun _ => ?_)
    show mp_W E X 4 16 [(3, .ref a2), (0, .ref a0), (1, .int x0), (2, .int x1)] [] w3_ 0 0
    refine mp_run mp_k_cX9_sea_ok hF mp_tabX9_ok [mp_i (.aload_n 3), mp_i (.iload_n 2)] (by decide +kernel) ?_
    show mp_W E X 4 18 [(3, .ref a2), (0, .ref a0), (1, .int x0), (2, .int x1)] [.int x1, .ref a2] w3_ 0 0
    refine mp_callV hF (As := [.int x1]) (rest := []) (wr := [(mp_ob9 a0 a4 a1 a5 a6 a7 a8 a9 a10 a11), (mp_ob0 a1 a2 y0 a12 a13 a14 a15 a16 a17), (mp_arI E a3 0 36 f0)]) (bX7_isIsle_55 E a2 a3 a18 a19 a20 a21 a22 a23 a24 a25 a26 a27 a28 y1 y2 y3 y4 y5 y6 x1 l_y2 u_y2 l_y3 u_y3 l_y4 u_y4 l_y5 u_y5 l_y6 u_y6) mp_lkX9_141 3 rfl [3] [0, 1, 2] rfl rfl rfl rfl rfl ⟨(Nat.le_of_ble_eq_true rfl), (Nat.le_of_ble_eq_true rfl), (Nat.le_of_ble_eq_true rfl), (Nat.le_of_ble_eq_true rfl)⟩ (Nat.le_of_ble_eq_true rfl) (by first | exact mp_fd_ok mp_k_cX9_sea_ok (by decide +kernel) | decide +kernel) (fun v_10 w_11 h_12 => ?_)
    rcases h_12 with ⟨rfl, x_13, rfl⟩ | ⟨rfl, c_14, c_15, x_16, rfl⟩
    · skip
      show mp_W E X 4 21 [(3, .ref a2), (0, .ref a0), (1, .int x0), (2, .int x1)] [.int 0] w3_ 0 0
      refine mp_run mp_k_cX9_sea_ok hF mp_tabX9_ok [mp_h (.ifCond .eq 8) [29]] (by decide +kernel) ?_
      refine And.intro (fun _ => ?_) (fun c_17 => absurd c_17 (by decide))
      show mp_W E X 4 29 [(3, .ref a2), (0, .ref a0), (1, .int x0), (2, .int x1)] [] w3_ 0 0
      refine mp_run mp_k_cX9_sea_ok hF mp_tabX9_ok [mp_c (.bipush (-2)) (-2)] (by decide +kernel) ?_
      show mp_W E X 4 31 [(3, .ref a2), (0, .ref a0), (1, .int x0), (2, .int x1)] [.int (-2)] w3_ 0 0
      exact mp_iret hF hQ rfl rfl (Nat.le_of_ble_eq_true rfl) (Nat.le_of_ble_eq_true rfl) [0, 1, 3, 2] (w' := w1_) rfl rfl ⟨(-2), rfl, (by decide), (by decide), (by first | fail | decide | (have h8 : (0 : Int64).toInt = 0 := rfl; have h9 : (-1 : Int32).toInt = -1 := rfl; have h10 : (-2 : Int32).toInt = -2 := rfl; have h11 : (0 : Int32).toInt = 0 := rfl; have h12 : (1 : Int32).toInt = 1 := rfl; have h13 : (-5 : Int32).toInt = -5 := rfl; have h14 : (-3 : Int32).toInt = -3 := rfl; (first | exact mp_o397 x_13 h10 | omega))), rfl⟩ (by first | exact mp_fd_ok mp_k_cX9_sea_ok (by decide +kernel) | decide +kernel)
    · skip
      have c_14 : 0 ≤ x1.toInt := c_14
      have c_15 : x1.toInt < y2.toInt := c_15
      show mp_W E X 4 21 [(3, .ref a2), (0, .ref a0), (1, .int x0), (2, .int x1)] [.int 1] w3_ 0 0
      refine mp_run mp_k_cX9_sea_ok hF mp_tabX9_ok [mp_h (.ifCond .eq 8) [29]] (by decide +kernel) ?_
      refine And.intro (fun c_18 => absurd c_18 (by decide)) (fun _ => ?_)
      show mp_W E X 4 24 [(3, .ref a2), (0, .ref a0), (1, .int x0), (2, .int x1)] [] w3_ 0 0
      refine mp_run mp_k_cX9_sea_ok hF mp_tabX9_ok [mp_i (.iload_n 1), mp_i (.iload_n 2), mp_h (.if_icmp .ne 6) [32]] (by decide +kernel) ?_
      refine And.intro (fun c_19 => ?_) (fun c_19 => ?_)
      · have c_19 : x0.toInt ≠ x1.toInt := c_19
        show mp_W E X 4 32 [(3, .ref a2), (0, .ref a0), (1, .int x0), (2, .int x1)] [] w3_ 0 0
        refine mp_run mp_k_cX9_sea_ok hF mp_tabX9_ok [mp_i (.aload_n 3), mp_i (.iload_n 1), mp_i (.iload_n 2)] (by decide +kernel) ?_
        show mp_W E X 4 35 [(3, .ref a2), (0, .ref a0), (1, .int x0), (2, .int x1)] [.int x1, .int x0, .ref a2] w3_ 0 0
        refine mp_callV hF (As := [.int x0, .int x1]) (rest := []) (wr := [(mp_ob9 a0 a4 a1 a5 a6 a7 a8 a9 a10 a11), (mp_ob0 a1 a2 y0 a12 a13 a14 a15 a16 a17)]) (bX7_oarsBetween_46 E a2 a3 a18 a19 a20 a21 a22 a23 a24 a25 a26 a27 a28 f0 y1 y2 y3 y4 y5 y6 x0 x1 p0 (by (first | exact c_5 | omega)) (by (first | exact mp_o398 u_y2 c_6 | omega)) (by (first | exact c_14 | omega)) (by (first | exact mp_o398 u_y2 c_15 | omega)) l_y2 u_y2 l_y3 u_y3 l_y4 u_y4 l_y5 u_y5 l_y6 u_y6) mp_lkX9_144 3 rfl [3, 2] [0, 1] rfl rfl rfl rfl rfl ⟨(Nat.le_of_ble_eq_true rfl), (Nat.le_of_ble_eq_true rfl), (Nat.le_of_ble_eq_true rfl), (Nat.le_of_ble_eq_true rfl)⟩ (Nat.le_of_ble_eq_true rfl) (by first | exact mp_fd_ok mp_k_cX9_sea_ok (by decide +kernel) | decide +kernel) (fun v_20 w_21 h_22 => ?_)
        refine h_22.elim fun r_23 q_27 => q_27.elim fun e_28 q_29 => q_29.elim fun l_24 q_30 => q_30.elim fun u_25 q_31 => q_31.elim fun x_26 e_32 => ?_
        clear h_22 q_27 q_29 q_30 q_31
        subst e_28
        subst e_32
        show mp_W E X 4 38 [(3, .ref a2), (0, .ref a0), (1, .int x0), (2, .int x1)] [.int r_23] w1_ 0 0
        exact mp_iret hF hQ rfl rfl (Nat.le_of_ble_eq_true rfl) (Nat.le_of_ble_eq_true rfl) [0, 1, 2, 3] (w' := w1_) rfl rfl ⟨r_23, rfl, (by (first | exact mp_o399 l_24 | omega)), u_25, (by first | (first | exact mp_o400 c_5 c_14 c_6 c_19 c_15 x_26 | omega) | decide | (have h8 : (0 : Int64).toInt = 0 := rfl; have h9 : (-1 : Int32).toInt = -1 := rfl; have h10 : (-2 : Int32).toInt = -2 := rfl; have h11 : (0 : Int32).toInt = 0 := rfl; have h12 : (1 : Int32).toInt = 1 := rfl; have h13 : (-5 : Int32).toInt = -5 := rfl; have h14 : (-3 : Int32).toInt = -3 := rfl; omega)), rfl⟩ (by first | exact mp_fd_ok mp_k_cX9_sea_ok (by decide +kernel) | decide +kernel)
      · have c_19 : x0.toInt = x1.toInt := (congrArg Int32.toInt c_19)
        show mp_W E X 4 29 [(3, .ref a2), (0, .ref a0), (1, .int x0), (2, .int x1)] [] w3_ 0 0
        refine mp_run mp_k_cX9_sea_ok hF mp_tabX9_ok [mp_c (.bipush (-2)) (-2)] (by decide +kernel) ?_
        show mp_W E X 4 31 [(3, .ref a2), (0, .ref a0), (1, .int x0), (2, .int x1)] [.int (-2)] w3_ 0 0
        exact mp_iret hF hQ rfl rfl (Nat.le_of_ble_eq_true rfl) (Nat.le_of_ble_eq_true rfl) [0, 1, 3, 2] (w' := w1_) rfl rfl ⟨(-2), rfl, (by decide), (by decide), (by first | fail | decide | (have h8 : (0 : Int64).toInt = 0 := rfl; have h9 : (-1 : Int32).toInt = -1 := rfl; have h10 : (-2 : Int32).toInt = -2 := rfl; have h11 : (0 : Int32).toInt = 0 := rfl; have h12 : (1 : Int32).toInt = 1 := rfl; have h13 : (-5 : Int32).toInt = -5 := rfl; have h14 : (-3 : Int32).toInt = -3 := rfl; (first | exact mp_o401 c_19 h10 | omega))), rfl⟩ (by first | exact mp_fd_ok mp_k_cX9_sea_ok (by decide +kernel) | decide +kernel)
