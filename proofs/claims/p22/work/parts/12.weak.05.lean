set_option maxHeartbeats 4000000 in
set_option maxRecDepth 100000 in
theorem bX9_fault_50 (E : mp_E) (a0 a1 a2 a3 a4 a5 a6 a7 a8 a9 a10 a11 : Nat) (y0 : Int32) (y1 : Int32) (y2 : Int32) (y3 : Int32) (y4 : Int32) (y5 : Int32) (y6 : Int32) (y7 : Int32) (x0 : Int32) (l_y0 : 0 ≤ y0.toInt) (u_y0 : y0.toInt ≤ 1600) (l_y4 : 0 ≤ y4.toInt) (u_y4 : y4.toInt ≤ 1600) (l_y5 : 0 ≤ y5.toInt) (u_y5 : y5.toInt ≤ 1600) : mp_Ct E yX9_fault cX9_fault 2 (some FieldType.int) 0 0 0 0 [.ref a0, .int x0] [(mp_ob9 a0 a1 a2 a3 a4 a5 a6 a7 a8 a9), (mp_ob3 a1 a10 y0 a11 y1 y2 y3 y4 y5 y6 y7)] (fun v w' => ∃ r1 : Int32, v = some (.int r1) ∧ ((x0.toInt = 0 ∧ r1.toInt = y1.toInt) ∨ (x0.toInt = 1 ∧ r1.toInt = y2.toInt) ∨ (x0.toInt ≠ 0 ∧ x0.toInt ≠ 1 ∧ r1.toInt = -1)) ∧ w' = [(mp_ob9 a0 a1 a2 a3 a4 a5 a6 a7 a8 a9), (mp_ob3 a1 a10 y0 a11 y1 y2 y3 y4 y5 y6 y7)]) := by
  refine mp_met false (by decide) (by decide) (Nat.le_of_ble_eq_true rfl) (fun X hF hQ => ?_)
  have hF : mp_F E X (RX9, cX9_fault, 2, (0, 0, 0, 0), (some FieldType.int), false) := hF
  let w1_ : va_W := [(mp_ob9 a0 a1 a2 a3 a4 a5 a6 a7 a8 a9), (mp_ob3 a1 a10 y0 a11 y1 y2 y3 y4 y5 y6 y7)]
  show mp_W E X 2 0 [(0, .ref a0), (1, .int x0)] [] w1_ 0 0
  refine mp_run mp_k_cX9_fault_ok hF mp_tabX9_ok [mp_i (.iload_n 1), mp_h (.ifCond .ne 11) [12]] (by decide +kernel) ?_
  refine And.intro (fun c_1 => ?_) (fun c_1 => ?_)
  · have c_1 : x0.toInt ≠ 0 := c_1
    show mp_W E X 2 12 [(0, .ref a0), (1, .int x0)] [] w1_ 0 0
    refine mp_run mp_k_cX9_fault_ok hF mp_tabX9_ok [mp_i (.iload_n 1), mp_c (.iconst 1) 1, mp_h (.if_icmp .ne 13) [27]] (by decide +kernel) ?_
    refine And.intro (fun c_2 => ?_) (fun c_2 => ?_)
    · have c_2 : x0.toInt ≠ 1 := c_2
      show mp_W E X 2 27 [(0, .ref a0), (1, .int x0)] [] w1_ 0 0
      refine mp_run mp_k_cX9_fault_ok hF mp_tabX9_ok [mp_c (.iconst (-1)) (-1)] (by decide +kernel) ?_
      show mp_W E X 2 28 [(0, .ref a0), (1, .int x0)] [.int (-1)] w1_ 0 0
      exact mp_iret hF hQ rfl rfl (Nat.le_of_ble_eq_true rfl) (Nat.le_of_ble_eq_true rfl) [0, 1] (w' := w1_) rfl rfl ⟨(-1), rfl, (by first | fail | (have h8 : (-1 : Int32).toInt = -1 := rfl; (first | exact mp_o358 c_1 c_2 h8 | omega))), rfl⟩ (by first | exact mp_fd_ok mp_k_cX9_fault_ok (by decide +kernel) | decide +kernel)
    · have c_2 : x0.toInt = 1 := (congrArg Int32.toInt c_2)
      show mp_W E X 2 17 [(0, .ref a0), (1, .int x0)] [] w1_ 0 0
      refine mp_run mp_k_cX9_fault_ok hF mp_tabX9_ok [mp_i (.aload_n 0), mp_h (.getfield 10) [36, 0], mp_h (.getfield 103) [19, 1], mp_h (.goto 4) [28]] (by decide +kernel) ?_
      refine And.intro rfl (And.intro rfl ?_)
      refine And.intro rfl (And.intro rfl ?_)
      show mp_W E X 2 28 [(0, .ref a0), (1, .int x0)] [.int y2] w1_ 0 0
      exact mp_iret hF hQ rfl rfl (Nat.le_of_ble_eq_true rfl) (Nat.le_of_ble_eq_true rfl) [0, 1] (w' := w1_) rfl rfl ⟨y2, rfl, (by first | (first | exact mp_o359 c_2 | omega) | (have h8 : (-1 : Int32).toInt = -1 := rfl; omega)), rfl⟩ (by first | exact mp_fd_ok mp_k_cX9_fault_ok (by decide +kernel) | decide +kernel)
  · have c_1 : x0.toInt = 0 := (congrArg Int32.toInt c_1)
    show mp_W E X 2 4 [(0, .ref a0), (1, .int x0)] [] w1_ 0 0
    refine mp_run mp_k_cX9_fault_ok hF mp_tabX9_ok [mp_i (.aload_n 0), mp_h (.getfield 10) [36, 0], mp_h (.getfield 100) [18, 1]] (by decide +kernel) ?_
    refine And.intro rfl (And.intro rfl ?_)
    refine And.intro rfl (And.intro rfl ?_)
    show mp_W E X 2 11 [(0, .ref a0), (1, .int x0)] [.int y1] w1_ 0 0
    exact mp_iret hF hQ rfl rfl (Nat.le_of_ble_eq_true rfl) (Nat.le_of_ble_eq_true rfl) [0, 1] (w' := w1_) rfl rfl ⟨y1, rfl, (by first | (first | exact mp_o360 c_1 | omega) | (have h8 : (-1 : Int32).toInt = -1 := rfl; omega)), rfl⟩ (by first | exact mp_fd_ok mp_k_cX9_fault_ok (by decide +kernel) | decide +kernel)
