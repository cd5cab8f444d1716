set_option maxHeartbeats 4000000 in
set_option maxRecDepth 100000 in
theorem bX9_open_59 (E : mp_E) (a0 a1 a2 a3 a4 a5 a6 a7 a8 a9 a10 a11 a12 a13 a14 a15 a16 a17 a18 a19 a20 a21 a22 a23 a24 a25 a26 a27 a28 : Nat) (f0 : Nat → Int64) (y0 : Int32) (y1 : Int32) (y2 : Int32) (y3 : Int32) (y4 : Int32) (y5 : Int32) (y6 : Int32) (x0 : Int32) (x1 : Int32) (l_y0 : 0 ≤ y0.toInt) (u_y0 : y0.toInt ≤ 99) (l_y2 : 0 ≤ y2.toInt) (u_y2 : y2.toInt ≤ 6) (l_y3 : 0 ≤ y3.toInt) (u_y3 : y3.toInt ≤ 99) (l_y4 : 0 ≤ y4.toInt) (u_y4 : y4.toInt ≤ 6) (l_y5 : 0 ≤ y5.toInt) (u_y5 : y5.toInt ≤ 10) (l_y6 : 0 ≤ y6.toInt) (u_y6 : y6.toInt ≤ 60) : mp_Ct E yX9_open cX9_open 3 (some FieldType.int) 1 0 0 22 [.ref a0, .int x0, .int x1] [(mp_ob9 a0 a4 a1 a5 a6 a7 a8 a9 a10 a11), (mp_ob0 a1 a2 y0 a12 a13 a14 a15 a16 a17), (mp_ob7 a2 y1 y2 y3 y4 y5 y6 a18 a3 a19 a20 a21 a22 a23 a24 a25 a26 a27 a28), (mp_arL E a3 12 f0)] (fun v w' => ∃ r1 : Int32, v = some (.int r1) ∧ (-2) ≤ r1.toInt ∧ r1.toInt ≤ 1 ∧ (((x0.toInt < 0 ∨ y2.toInt ≤ x0.toInt ∨ x1.toInt < 0 ∨ 99 < x1.toInt) ∧ r1.toInt = -2) ∨ ((0 ≤ x0.toInt ∧ x0.toInt < y2.toInt ∧ 0 ≤ x1.toInt ∧ x1.toInt ≤ 99) ∧ ((mp_shb f0 (100 * x0.toInt + x1.toInt).toNat = true ∧ r1.toInt = 0) ∨ (mp_shb f0 (100 * x0.toInt + x1.toInt).toNat = false ∧ r1.toInt = 1)))) ∧ w' = [(mp_ob9 a0 a4 a1 a5 a6 a7 a8 a9 a10 a11), (mp_ob0 a1 a2 y0 a12 a13 a14 a15 a16 a17), (mp_ob7 a2 y1 y2 y3 y4 y5 y6 a18 a3 a19 a20 a21 a22 a23 a24 a25 a26 a27 a28), (mp_arL E a3 12 f0)]) := by
  refine mp_met false (by decide) (by decide) (Nat.le_of_ble_eq_true rfl) (fun X hF hQ => ?_)
  have hF : mp_F E X (RX9, cX9_open, 3, (1, 0, 0, 22), (some FieldType.int), false) := hF
  let w1_ : va_W := [(mp_ob9 a0 a4 a1 a5 a6 a7 a8 a9 a10 a11), (mp_ob0 a1 a2 y0 a12 a13 a14 a15 a16 a17), (mp_ob7 a2 y1 y2 y3 y4 y5 y6 a18 a3 a19 a20 a21 a22 a23 a24 a25 a26 a27 a28), (mp_arL E a3 12 f0)]
  show mp_W E X 3 0 [(0, .ref a0), (1, .int x0), (2, .int x1)] [] w1_ 0 0
  refine mp_run mp_k_cX9_open_ok hF mp_tabX9_ok [mp_i (.aload_n 0), mp_h (.getfield 19) [37, 0], mp_h (.getfield 83) [20, 1], mp_i (.iload_n 1)] (by decide +kernel) ?_
  refine And.intro rfl (And.intro rfl ?_)
  refine And.intro rfl (And.intro rfl ?_)
  show mp_W E X 3 8 [(0, .ref a0), (1, .int x0), (2, .int x1)] [.int x0, .ref a2] w1_ 0 0
  refine mp_callV hF (As := [.int x0]) (rest := []) (wr := [(mp_ob9 a0 a4 a1 a5 a6 a7 a8 a9 a10 a11), (mp_ob0 a1 a2 y0 a12 a13 a14 a15 a16 a17), (mp_arL E a3 12 f0)]) (bX7_isIsle_55 E a2 a18 a3 a19 a20 a21 a22 a23 a24 a25 a26 a27 a28 y1 y2 y3 y4 y5 y6 x0 l_y2 u_y2 l_y3 u_y3 l_y4 u_y4 l_y5 u_y5 l_y6 u_y6) mp_lkX9_141 2 rfl [2] [0, 1, 3] rfl rfl rfl rfl rfl ⟨(Nat.le_of_ble_eq_true rfl), (Nat.le_of_ble_eq_true rfl), (Nat.le_of_ble_eq_true rfl), (Nat.le_of_ble_eq_true rfl)⟩ (Nat.le_of_ble_eq_true rfl) (by first | exact mp_fd_ok mp_k_cX9_open_ok (by decide +kernel) | decide +kernel) (fun v_1 w_2 h_3 => ?_)
  rcases h_3 with ⟨rfl, x_4, rfl⟩ | ⟨rfl, c_5, c_6, x_7, rfl⟩
  · skip
    let w2_ : va_W := [(mp_ob9 a0 a4 a1 a5 a6 a7 a8 a9 a10 a11), (mp_ob0 a1 a2 y0 a12 a13 a14 a15 a16 a17), (mp_arL E a3 12 f0), (mp_ob7 a2 y1 y2 y3 y4 y5 y6 a18 a3 a19 a20 a21 a22 a23 a24 a25 a26 a27 a28)]
    show mp_W E X 3 11 [(0, .ref a0), (1, .int x0), (2, .int x1)] [.int 0] w2_ 0 0
    refine mp_run mp_k_cX9_open_ok hF mp_tabX9_ok [mp_h (.ifCond .eq 10) [21]] (by decide +kernel) ?_
    refine And.intro (fun _ => ?_) (fun c_8 => absurd c_8 (by decide))
    show mp_W E X 3 21 [(0, .ref a0), (1, .int x0), (2, .int x1)] [] w2_ 0 0
    refine mp_run mp_k_cX9_open_ok hF mp_tabX9_ok [mp_c (.bipush (-2)) (-2)] (by decide +kernel) ?_
    show mp_W E X 3 23 [(0, .ref a0), (1, .int x0), (2, .int x1)] [.int (-2)] w2_ 0 0
    exact mp_iret hF hQ rfl rfl (Nat.le_of_ble_eq_true rfl) (Nat.le_of_ble_eq_true rfl) [0, 1, 3, 2] (w' := w1_) rfl rfl ⟨(-2), rfl, (by decide), (by decide), (Or.inl ⟨by (first | exact mp_o406 x_4 | omega), (by first | fail | decide | (have h8 : (0 : Int64).toInt = 0 := rfl; have h9 : (-1 : Int32).toInt = -1 := rfl; have h10 : (-2 : Int32).toInt = -2 := rfl; have h11 : (0 : Int32).toInt = 0 := rfl; have h12 : (1 : Int32).toInt = 1 := rfl; have h13 : (-5 : Int32).toInt = -5 := rfl; have h14 : (-3 : Int32).toInt = -3 := rfl; omega))⟩), rfl⟩ (by first | exact mp_fd_ok mp_k_cX9_open_ok (by decide +kernel) | decide +kernel)
  · skip
    have c_5 : 0 ≤ x0.toInt := c_5
    have c_6 : x0.toInt < y2.toInt := c_6
    let w3_ : va_W := [(mp_ob9 a0 a4 a1 a5 a6 a7 a8 a9 a10 a11), (mp_ob0 a1 a2 y0 a12 a13 a14 a15 a16 a17), (mp_arL E a3 12 f0), (mp_ob7 a2 y1 y2 y3 y4 y5 y6 a18 a3 a19 a20 a21 a22 a23 a24 a25 a26 a27 a28)]
    show mp_W E X 3 11 [(0, .ref a0), (1, .int x0), (2, .int x1)] [.int 1] w3_ 0 0
    refine mp_run mp_k_cX9_open_ok hF mp_tabX9_ok [mp_h (.ifCond .eq 10) [21]] (by decide +kernel) ?_
    refine And.intro (fun c_9 => absurd c_9 (by decide)) (fun _ => ?_)
    show mp_W E X 3 14 [(0, .ref a0), (1, .int x0), (2, .int x1)] [] w3_ 0 0
    refine mp_run mp_k_cX9_open_ok hF mp_tabX9_ok [mp_i (.iload_n 2)] (by decide +kernel) ?_
    show mp_W E X 3 15 [(0, .ref a0), (1, .int x0), (2, .int x1)] [.int x1] w3_ 0 0
    refine mp_callS hF (As := [.int x1]) (rest := []) (wr := w3_) (bX9_isMoon_57 E x1) mp_lkX9_148 [] [0, 1, 2, 3] rfl rfl rfl rfl rfl ⟨(Nat.le_of_ble_eq_true rfl), (Nat.le_of_ble_eq_true rfl), (Nat.le_of_ble_eq_true rfl), (Nat.le_of_ble_eq_true rfl)⟩ (Nat.le_of_ble_eq_true rfl) (by first | exact mp_fd_ok mp_k_cX9_open_ok (by decide +kernel) | decide +kernel) (fun v_10 w_11 h_12 => ?_)
    rcases h_12 with ⟨rfl, x_13, rfl⟩ | ⟨rfl, c_14, c_15, x_16, rfl⟩
    · skip
      show mp_W E X 3 18 [(0, .ref a0), (1, .int x0), (2, .int x1)] [.int 0] w3_ 0 0
      refine mp_run mp_k_cX9_open_ok hF mp_tabX9_ok [mp_h (.ifCond .ne 6) [24]] (by decide +kernel) ?_
      refine And.intro (fun c_17 => absurd c_17 (by decide)) (fun _ => ?_)
      show mp_W E X 3 21 [(0, .ref a0), (1, .int x0), (2, .int x1)] [] w3_ 0 0
      refine mp_run mp_k_cX9_open_ok hF mp_tabX9_ok [mp_c (.bipush (-2)) (-2)] (by decide +kernel) ?_
      show mp_W E X 3 23 [(0, .ref a0), (1, .int x0), (2, .int x1)] [.int (-2)] w3_ 0 0
      exact mp_iret hF hQ rfl rfl (Nat.le_of_ble_eq_true rfl) (Nat.le_of_ble_eq_true rfl) [0, 1, 3, 2] (w' := w1_) rfl rfl ⟨(-2), rfl, (by decide), (by decide), (Or.inl ⟨by (first | exact mp_o407 x_13 | omega), (by first | fail | decide | (have h8 : (0 : Int64).toInt = 0 := rfl; have h9 : (-1 : Int32).toInt = -1 := rfl; have h10 : (-2 : Int32).toInt = -2 := rfl; have h11 : (0 : Int32).toInt = 0 := rfl; have h12 : (1 : Int32).toInt = 1 := rfl; have h13 : (-5 : Int32).toInt = -5 := rfl; have h14 : (-3 : Int32).toInt = -3 := rfl; omega))⟩), rfl⟩ (by first | exact mp_fd_ok mp_k_cX9_open_ok (by decide +kernel) | decide +kernel)
    · skip
      have c_14 : 0 ≤ x1.toInt := c_14
      have c_15 : x1.toInt ≤ 99 := c_15
      show mp_W E X 3 18 [(0, .ref a0), (1, .int x0), (2, .int x1)] [.int 1] w3_ 0 0
      refine mp_run mp_k_cX9_open_ok hF mp_tabX9_ok [mp_h (.ifCond .ne 6) [24]] (by decide +kernel) ?_
      refine And.intro (fun _ => ?_) (fun c_18 => absurd c_18 (by decide))
      show mp_W E X 3 24 [(0, .ref a0), (1, .int x0), (2, .int x1)] [] w3_ 0 0
      refine mp_run mp_k_cX9_open_ok hF mp_tabX9_ok [mp_i (.aload_n 0), mp_h (.getfield 19) [37, 0], mp_h (.getfield 83) [20, 1], mp_i (.iload_n 1), mp_i (.iload_n 2)] (by decide +kernel) ?_
      refine And.intro rfl (And.intro rfl ?_)
      refine And.intro rfl (And.intro rfl ?_)
      show mp_W E X 3 33 [(0, .ref a0), (1, .int x0), (2, .int x1)] [.int x1, .int x0, .ref a2] w3_ 0 0
      refine mp_callV hF (As := [.int x0, .int x1]) (rest := []) (wr := [(mp_ob9 a0 a4 a1 a5 a6 a7 a8 a9 a10 a11), (mp_ob0 a1 a2 y0 a12 a13 a14 a15 a16 a17)]) (bX7_isShut_58 E a2 a3 a18 a19 a20 a21 a22 a23 a24 a25 a26 a27 a28 f0 y1 y2 y3 y4 y5 y6 x0 x1 (by (first | exact c_5 | omega)) (by (first | exact mp_o398 u_y2 c_6 | omega)) (by (first | exact c_14 | omega)) (by (first | exact c_15 | omega)) l_y2 u_y2 l_y3 u_y3 l_y4 u_y4 l_y5 u_y5 l_y6 u_y6) mp_lkX9_151 3 rfl [3, 2] [0, 1] rfl rfl rfl rfl rfl ⟨(Nat.le_of_ble_eq_true rfl), (Nat.le_of_ble_eq_true rfl), (Nat.le_of_ble_eq_true rfl), (Nat.le_of_ble_eq_true rfl)⟩ (Nat.le_of_ble_eq_true rfl) (by first | exact mp_fd_ok mp_k_cX9_open_ok (by decide +kernel) | decide +kernel) (fun v_19 w_20 h_21 => ?_)
      rcases h_21 with ⟨rfl, x_22, rfl⟩ | ⟨rfl, x_23, rfl⟩
      · skip
        show mp_W E X 3 36 [(0, .ref a0), (1, .int x0), (2, .int x1)] [.int 0] w1_ 0 0
        refine mp_run mp_k_cX9_open_ok hF mp_tabX9_ok [mp_h (.ifCond .eq 7) [43]] (by decide +kernel) ?_
        refine And.intro (fun _ => ?_) (fun c_24 => absurd c_24 (by decide))
        show mp_W E X 3 43 [(0, .ref a0), (1, .int x0), (2, .int x1)] [] w1_ 0 0
        refine mp_run mp_k_cX9_open_ok hF mp_tabX9_ok [mp_c (.iconst 1) 1] (by decide +kernel) ?_
        show mp_W E X 3 44 [(0, .ref a0), (1, .int x0), (2, .int x1)] [.int 1] w1_ 0 0
        exact mp_iret hF hQ rfl rfl (Nat.le_of_ble_eq_true rfl) (Nat.le_of_ble_eq_true rfl) [0, 1, 2, 3] (w' := w1_) rfl rfl ⟨1, rfl, (by decide), (by decide), (Or.inr ⟨by (first | exact mp_o408 c_5 c_14 c_6 c_15 | omega), Or.inr ⟨x_22, (by first | fail | decide | (have h8 : (0 : Int64).toInt = 0 := rfl; have h9 : (-1 : Int32).toInt = -1 := rfl; have h10 : (-2 : Int32).toInt = -2 := rfl; have h11 : (0 : Int32).toInt = 0 := rfl; have h12 : (1 : Int32).toInt = 1 := rfl; have h13 : (-5 : Int32).toInt = -5 := rfl; have h14 : (-3 : Int32).toInt = -3 := rfl; omega))⟩⟩), rfl⟩ (by first | exact mp_fd_ok mp_k_cX9_open_ok (by decide +kernel) | decide +kernel)
      · skip
        show mp_W E X 3 36 [(0, .ref a0), (1, .int x0), (2, .int x1)] [.int 1] w1_ 0 0
        refine mp_run mp_k_cX9_open_ok hF mp_tabX9_ok [mp_h (.ifCond .eq 7) [43]] (by decide +kernel) ?_
        refine And.intro (fun c_25 => absurd c_25 (by decide)) (fun _ => ?_)
        show mp_W E X 3 39 [(0, .ref a0), (1, .int x0), (2, .int x1)] [] w1_ 0 0
        refine mp_run mp_k_cX9_open_ok hF mp_tabX9_ok [mp_c (.iconst 0) 0, mp_h (.goto 4) [44]] (by decide +kernel) ?_
        show mp_W E X 3 44 [(0, .ref a0), (1, .int x0), (2, .int x1)] [.int 0] w1_ 0 0
        exact mp_iret hF hQ rfl rfl (Nat.le_of_ble_eq_true rfl) (Nat.le_of_ble_eq_true rfl) [0, 1, 2, 3] (w' := w1_) rfl rfl ⟨0, rfl, (by decide), (by decide), (Or.inr ⟨by (first | exact mp_o408 c_5 c_14 c_6 c_15 | omega), Or.inl ⟨x_23, (by first | fail | decide | (have h8 : (0 : Int64).toInt = 0 := rfl; have h9 : (-1 : Int32).toInt = -1 := rfl; have h10 : (-2 : Int32).toInt = -2 := rfl; have h11 : (0 : Int32).toInt = 0 := rfl; have h12 : (1 : Int32).toInt = 1 := rfl; have h13 : (-5 : Int32).toInt = -5 := rfl; have h14 : (-3 : Int32).toInt = -3 := rfl; omega))⟩⟩), rfl⟩ (by first | exact mp_fd_ok mp_k_cX9_open_ok (by decide +kernel) | decide +kernel)
