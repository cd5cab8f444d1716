set_option maxHeartbeats 4000000 in
set_option maxRecDepth 100000 in
theorem bX7_isPerson_51 (E : mp_E) (a0 a1 a2 a3 a4 a5 a6 a7 a8 a9 a10 a11 a12 : Nat) (y0 : Int32) (y1 : Int32) (y2 : Int32) (y3 : Int32) (y4 : Int32) (y5 : Int32) (x0 : Int32) (l_y1 : 0 ≤ y1.toInt) (u_y1 : y1.toInt ≤ 6) (l_y2 : 0 ≤ y2.toInt) (u_y2 : y2.toInt ≤ 99) (l_y3 : 0 ≤ y3.toInt) (u_y3 : y3.toInt ≤ 6) (l_y4 : 0 ≤ y4.toInt) (u_y4 : y4.toInt ≤ 10) (l_y5 : 0 ≤ y5.toInt) (u_y5 : y5.toInt ≤ 60) : mp_Ct E yX7_isPerson cX7_isPerson 2 (some FieldType.boolean) 0 0 0 0 [.ref a0, .int x0] [(mp_ob7 a0 y0 y1 y2 y3 y4 y5 a1 a2 a3 a4 a5 a6 a7 a8 a9 a10 a11 a12)] (fun v w' => (v = some (.int 0) ∧ (x0.toInt < 0 ∨ y3.toInt ≤ x0.toInt) ∧ w' = [(mp_ob7 a0 y0 y1 y2 y3 y4 y5 a1 a2 a3 a4 a5 a6 a7 a8 a9 a10 a11 a12)]) ∨ (v = some (.int 1) ∧ 0 ≤ x0.toInt ∧ x0.toInt < y3.toInt ∧ (0 ≤ x0.toInt ∧ x0.toInt < y3.toInt) ∧ w' = [(mp_ob7 a0 y0 y1 y2 y3 y4 y5 a1 a2 a3 a4 a5 a6 a7 a8 a9 a10 a11 a12)])) := by
  refine mp_met false (by decide) (by decide) (Nat.le_of_ble_eq_true rfl) (fun X hF hQ => ?_)
  have hF : mp_F E X (RX7, cX7_isPerson, 2, (0, 0, 0, 0), (some FieldType.boolean), false) := hF
  let w1_ : va_W := [(mp_ob7 a0 y0 y1 y2 y3 y4 y5 a1 a2 a3 a4 a5 a6 a7 a8 a9 a10 a11 a12)]
  show mp_W E X 2 0 [(0, .ref a0), (1, .int x0)] [] w1_ 0 0
  refine mp_run mp_k_cX7_isPerson_ok hF mp_tabX7_ok [mp_i (.iload_n 1), mp_h (.ifCond .lt 15) [16]] (by decide +kernel) ?_
  refine And.intro (fun c_1 => ?_) (fun c_1 => ?_)
  · have c_1 : x0.toInt < 0 := c_1
    show mp_W E X 2 16 [(0, .ref a0), (1, .int x0)] [] w1_ 0 0
    refine mp_run mp_k_cX7_isPerson_ok hF mp_tabX7_ok [mp_c (.iconst 0) 0] (by decide +kernel) ?_
    show mp_W E X 2 17 [(0, .ref a0), (1, .int x0)] [.int 0] w1_ 0 0
    exact mp_iret hF hQ rfl (by decide) (Nat.le_of_ble_eq_true rfl) (Nat.le_of_ble_eq_true rfl) [0] (w' := w1_) rfl rfl (Or.inl ⟨rfl, (by first | (first | exact mp_o361 c_1 | omega) | decide | (have h8 : (0 : Int64).toInt = 0 := rfl; have h9 : (-1 : Int32).toInt = -1 := rfl; have h10 : (-2 : Int32).toInt = -2 := rfl; have h11 : (0 : Int32).toInt = 0 := rfl; have h12 : (1 : Int32).toInt = 1 := rfl; have h13 : (-5 : Int32).toInt = -5 := rfl; have h14 : (-3 : Int32).toInt = -3 := rfl; omega)), rfl⟩) (by first | exact mp_fd_ok mp_k_cX7_isPerson_ok (by decide +kernel) | decide +kernel)
  · have c_1 : 0 ≤ x0.toInt := c_1
    show mp_W E X 2 4 [(0, .ref a0), (1, .int x0)] [] w1_ 0 0
    refine mp_run mp_k_cX7_isPerson_ok hF mp_tabX7_ok [mp_i (.iload_n 1), mp_i (.aload_n 0), mp_h (.getfield 59) [3, 0], mp_h (.if_icmp .ge 7) [16]] (by decide +kernel) ?_
    refine And.intro rfl (And.intro rfl ?_)
    refine And.intro (fun c_2 => ?_) (fun c_2 => ?_)
    · have c_2 : y3.toInt ≤ x0.toInt := c_2
      show mp_W E X 2 16 [(0, .ref a0), (1, .int x0)] [] w1_ 0 0
      refine mp_run mp_k_cX7_isPerson_ok hF mp_tabX7_ok [mp_c (.iconst 0) 0] (by decide +kernel) ?_
      show mp_W E X 2 17 [(0, .ref a0), (1, .int x0)] [.int 0] w1_ 0 0
      exact mp_iret hF hQ rfl (by decide) (Nat.le_of_ble_eq_true rfl) (Nat.le_of_ble_eq_true rfl) [0] (w' := w1_) rfl rfl (Or.inl ⟨rfl, (by first | (first | exact mp_o362 c_2 | omega) | decide | (have h8 : (0 : Int64).toInt = 0 := rfl; have h9 : (-1 : Int32).toInt = -1 := rfl; have h10 : (-2 : Int32).toInt = -2 := rfl; have h11 : (0 : Int32).toInt = 0 := rfl; have h12 : (1 : Int32).toInt = 1 := rfl; have h13 : (-5 : Int32).toInt = -5 := rfl; have h14 : (-3 : Int32).toInt = -3 := rfl; omega)), rfl⟩) (by first | exact mp_fd_ok mp_k_cX7_isPerson_ok (by decide +kernel) | decide +kernel)
    · have c_2 : x0.toInt < y3.toInt := c_2
      show mp_W E X 2 12 [(0, .ref a0), (1, .int x0)] [] w1_ 0 0
      refine mp_run mp_k_cX7_isPerson_ok hF mp_tabX7_ok [mp_c (.iconst 1) 1, mp_h (.goto 4) [17]] (by decide +kernel) ?_
      show mp_W E X 2 17 [(0, .ref a0), (1, .int x0)] [.int 1] w1_ 0 0
      exact mp_iret hF hQ rfl (by decide) (Nat.le_of_ble_eq_true rfl) (Nat.le_of_ble_eq_true rfl) [0] (w' := w1_) rfl rfl (Or.inr ⟨rfl, (by first | (first | exact c_1 | omega) | decide), (by first | (first | exact c_2 | omega) | decide), (by first | (first | exact mp_o80 c_1 c_2 | omega) | decide | (have h8 : (0 : Int64).toInt = 0 := rfl; have h9 : (-1 : Int32).toInt = -1 := rfl; have h10 : (-2 : Int32).toInt = -2 := rfl; have h11 : (0 : Int32).toInt = 0 := rfl; have h12 : (1 : Int32).toInt = 1 := rfl; have h13 : (-5 : Int32).toInt = -5 := rfl; have h14 : (-3 : Int32).toInt = -3 := rfl; omega)), rfl⟩) (by first | exact mp_fd_ok mp_k_cX7_isPerson_ok (by decide +kernel) | decide +kernel)
