set_option maxHeartbeats 4000000 in
set_option maxRecDepth 100000 in
theorem bX9_isMoon_57 (E : mp_E) (x0 : Int32) : mp_Ct E yX9_isMoon cX9_isMoon 1 (some FieldType.boolean) 0 0 0 0 [.int x0] [] (fun v w' => (v = some (.int 0) ∧ (x0.toInt < 0 ∨ 99 < x0.toInt) ∧ w' = []) ∨ (v = some (.int 1) ∧ 0 ≤ x0.toInt ∧ x0.toInt ≤ 99 ∧ (0 ≤ x0.toInt ∧ x0.toInt ≤ 99) ∧ w' = [])) := by
  refine mp_met false (by decide) (by decide) (Nat.le_of_ble_eq_true rfl) (fun X hF hQ => ?_)
  have hF : mp_F E X (RX9, cX9_isMoon, 1, (0, 0, 0, 0), (some FieldType.boolean), false) := hF
  show mp_W E X 1 0 [(0, .int x0)] [] [] 0 0
  refine mp_run mp_k_cX9_isMoon_ok hF mp_tabX9_ok [mp_i (.iload_n 0), mp_h (.ifCond .lt 13) [14]] (by decide +kernel) ?_
  refine And.intro (fun c_1 => ?_) (fun c_1 => ?_)
  · have c_1 : x0.toInt < 0 := c_1
    show mp_W E X 1 14 [(0, .int x0)] [] [] 0 0
    refine mp_run mp_k_cX9_isMoon_ok hF mp_tabX9_ok [mp_c (.iconst 0) 0] (by decide +kernel) ?_
    show mp_W E X 1 15 [(0, .int x0)] [.int 0] [] 0 0
    exact mp_iret hF hQ rfl (by decide) (Nat.le_of_ble_eq_true rfl) (Nat.le_of_ble_eq_true rfl) [] (w' := []) rfl rfl (Or.inl ⟨rfl, (by first | (first | exact mp_o402 c_1 | omega) | decide | (have h8 : (0 : Int64).toInt = 0 := rfl; have h9 : (-1 : Int32).toInt = -1 := rfl; have h10 : (-2 : Int32).toInt = -2 := rfl; have h11 : (0 : Int32).toInt = 0 := rfl; have h12 : (1 : Int32).toInt = 1 := rfl; have h13 : (-5 : Int32).toInt = -5 := rfl; have h14 : (-3 : Int32).toInt = -3 := rfl; omega)), rfl⟩) (by first | exact mp_fd_ok mp_k_cX9_isMoon_ok (by decide +kernel) | decide +kernel)
  · have c_1 : 0 ≤ x0.toInt := c_1
    show mp_W E X 1 4 [(0, .int x0)] [] [] 0 0
    refine mp_run mp_k_cX9_isMoon_ok hF mp_tabX9_ok [mp_i (.iload_n 0), mp_c (.bipush 99) 99, mp_h (.if_icmp .gt 7) [14]] (by decide +kernel) ?_
    refine And.intro (fun c_2 => ?_) (fun c_2 => ?_)
    · have c_2 : 99 < x0.toInt := c_2
      show mp_W E X 1 14 [(0, .int x0)] [] [] 0 0
      refine mp_run mp_k_cX9_isMoon_ok hF mp_tabX9_ok [mp_c (.iconst 0) 0] (by decide +kernel) ?_
      show mp_W E X 1 15 [(0, .int x0)] [.int 0] [] 0 0
      exact mp_iret hF hQ rfl (by decide) (Nat.le_of_ble_eq_true rfl) (Nat.le_of_ble_eq_true rfl) [] (w' := []) rfl rfl (Or.inl ⟨rfl, (by first | (first | exact mp_o403 c_2 | omega) | decide | (have h8 : (0 : Int64).toInt = 0 := rfl; have h9 : (-1 : Int32).toInt = -1 := rfl; have h10 : (-2 : Int32).toInt = -2 := rfl; have h11 : (0 : Int32).toInt = 0 := rfl; have h12 : (1 : Int32).toInt = 1 := rfl; have h13 : (-5 : Int32).toInt = -5 := rfl; have h14 : (-3 : Int32).toInt = -3 := rfl; omega)), rfl⟩) (by first | exact mp_fd_ok mp_k_cX9_isMoon_ok (by decide +kernel) | decide +kernel)
    · have c_2 : x0.toInt ≤ 99 := c_2
      show mp_W E X 1 10 [(0, .int x0)] [] [] 0 0
      refine mp_run mp_k_cX9_isMoon_ok hF mp_tabX9_ok [mp_c (.iconst 1) 1, mp_h (.goto 4) [15]] (by decide +kernel) ?_
      show mp_W E X 1 15 [(0, .int x0)] [.int 1] [] 0 0
      exact mp_iret hF hQ rfl (by decide) (Nat.le_of_ble_eq_true rfl) (Nat.le_of_ble_eq_true rfl) [] (w' := []) rfl rfl (Or.inr ⟨rfl, (by first | (first | exact c_1 | omega) | decide), (by first | (first | exact c_2 | omega) | decide), (by first | (first | exact mp_o404 c_1 c_2 | omega) | decide | (have h8 : (0 : Int64).toInt = 0 := rfl; have h9 : (-1 : Int32).toInt = -1 := rfl; have h10 : (-2 : Int32).toInt = -2 := rfl; have h11 : (0 : Int32).toInt = 0 := rfl; have h12 : (1 : Int32).toInt = 1 := rfl; have h13 : (-5 : Int32).toInt = -5 := rfl; have h14 : (-3 : Int32).toInt = -3 := rfl; omega)), rfl⟩) (by first | exact mp_fd_ok mp_k_cX9_isMoon_ok (by decide +kernel) | decide +kernel)
