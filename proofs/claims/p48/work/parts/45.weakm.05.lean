set_option maxHeartbeats 4000000 in
set_option maxRecDepth 100000 in
theorem bX10_isMoon_60 (E : mp_E) (x0 : Int32) : mp_Ct E yX10_isMoon cX10_isMoon 1 (some FieldType.boolean) 1 0 0 25 [.int x0] [] (fun v w' => (v = some (.int 0) ∧ (x0.toInt < 0 ∨ 99 < x0.toInt) ∧ w' = []) ∨ (v = some (.int 1) ∧ 0 ≤ x0.toInt ∧ x0.toInt ≤ 99 ∧ (0 ≤ x0.toInt ∧ x0.toInt ≤ 99) ∧ w' = [])) := by
  refine mp_met false (by decide) (by decide) (Nat.le_of_ble_eq_true rfl) (fun X hF hQ => ?_)
  have hF : mp_F E X (RX10, cX10_isMoon, 1, (1, 0, 0, 25), (some FieldType.boolean), false) := hF
  show mp_W E X 1 0 [(0, .int x0)] [] [] 0 0
  refine mp_run mp_k_cX10_isMoon_ok hF mp_tabX10_ok [mp_i (.iload_n 0), mp_i .i2l, mp_cl (.lconst 0) 0, mp_cl (.ldc2_w 258) 99] (by decide +kernel) ?_
  intro z_1 h_2
  have e_3 : z_1.toInt = x0.toInt := mp_i2l h_2
  show mp_W E X 1 6 [(0, .int x0)] [.long 99, .long 0, .long z_1] [] 0 0
  refine mp_callS hF (As := [.long z_1, .long 0, .long 99]) (rest := []) (wr := []) (bX10_in_0 E z_1 0 99) mp_lkX10_97 [] [] rfl rfl rfl rfl rfl ⟨(Nat.le_of_ble_eq_true rfl), (Nat.le_of_ble_eq_true rfl), (Nat.le_of_ble_eq_true rfl), (Nat.le_of_ble_eq_true rfl)⟩ (Nat.le_of_ble_eq_true rfl) (by first | exact mp_fd_ok mp_k_cX10_isMoon_ok (by decide +kernel) | decide +kernel) (fun v_4 w_5 h_6 => ?_)
  rcases h_6 with ⟨rfl, x_7, rfl⟩ | ⟨rfl, c_8, c_9, rfl⟩
  · skip
    have i_10 : (0 : Int64).toInt = 0 := by decide
    have i_11 : (99 : Int64).toInt = 99 := by decide
    show mp_W E X 1 9 [(0, .int x0)] [.int 0] [] 0 0
    exact mp_iret hF hQ rfl (by decide) (Nat.le_of_ble_eq_true rfl) (Nat.le_of_ble_eq_true rfl) [] (w' := []) rfl rfl (Or.inl ⟨rfl, (by first | omega | decide | (have h8 : (0 : Int64).toInt = 0 := rfl; have h9 : (-1 : Int32).toInt = -1 := rfl; have h10 : (-2 : Int32).toInt = -2 := rfl; have h11 : (0 : Int32).toInt = 0 := rfl; have h12 : (1 : Int32).toInt = 1 := rfl; have h13 : (-5 : Int32).toInt = -5 := rfl; have h14 : (-3 : Int32).toInt = -3 := rfl; omega)), rfl⟩) (by first | exact mp_fd_ok mp_k_cX10_isMoon_ok (by decide +kernel) | decide +kernel)
  · skip
    have c_8 : 0 ≤ z_1.toInt := c_8
    have c_9 : z_1.toInt ≤ 99 := c_9
    have i_12 : (0 : Int64).toInt = 0 := by decide
    have i_13 : (99 : Int64).toInt = 99 := by decide
    show mp_W E X 1 9 [(0, .int x0)] [.int 1] [] 0 0
    exact mp_iret hF hQ rfl (by decide) (Nat.le_of_ble_eq_true rfl) (Nat.le_of_ble_eq_true rfl) [] (w' := []) rfl rfl (Or.inr ⟨rfl, (by first | omega | decide), (by first | omega | decide), (by first | omega | decide | (have h8 : (0 : Int64).toInt = 0 := rfl; have h9 : (-1 : Int32).toInt = -1 := rfl; have h10 : (-2 : Int32).toInt = -2 := rfl; have h11 : (0 : Int32).toInt = 0 := rfl; have h12 : (1 : Int32).toInt = 1 := rfl; have h13 : (-5 : Int32).toInt = -5 := rfl; have h14 : (-3 : Int32).toInt = -3 := rfl; omega)), rfl⟩) (by first | exact mp_fd_ok mp_k_cX10_isMoon_ok (by decide +kernel) | decide +kernel)
