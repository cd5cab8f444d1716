set_option maxHeartbeats 4000000 in
set_option maxRecDepth 100000 in
theorem bX10_sizeOf_116 (E : mp_E) (x0 : Int32) : mp_Ct E yX10_sizeOf cX10_sizeOf 3 (some FieldType.int) 0 0 0 0 [.int x0] [] (fun v w' => ∃ r1 : Int32, v = some (.int r1) ∧ w' = []) := by
  refine mp_met false (by decide) (by decide) (Nat.le_of_ble_eq_true rfl) (fun X hF hQ => ?_)
  have hF : mp_F E X (RX10, cX10_sizeOf, 3, (0, 0, 0, 0), (some FieldType.int), false) := hF
  show mp_W E X 3 0 [(0, .int x0)] [] [] 0 0
  refine mp_run mp_k_cX10_sizeOf_ok hF mp_tabX10_ok [mp_c (.iconst 0) 0, mp_i (.istore_n 1), mp_i (.iload_n 0), mp_i (.istore_n 2)] (by decide +kernel) ?_
  show mp_W E X 3 4 [(2, .int x0), (1, .int 0), (0, .int x0)] [] [] 0 0
  have lp_3 : ∀ (d_4 : Nat) (i_1 : Int32) (i_2 : Int32), (i_1.toUInt32.toNat : Int) ≤ (d_4 : Int) → mp_W E X 3 4 [(2, .int i_1), (1, .int i_2), (0, .int x0)] [] [] 0 0 := by
    intro d_4
    induction d_4 using Nat.strongRecOn with
    | ind d_4 ih_5 =>
      intro i_1 i_2 hm_6
      refine mp_run mp_k_cX10_sizeOf_ok hF mp_tabX10_ok [mp_i (.iload_n 2), mp_h (.ifCond .eq 15) [20]] (by decide +kernel) ?_
      refine And.intro (fun c_7 => ?_) (fun c_7 => ?_)
      · have c_7 : i_1.toInt = 0 := (congrArg Int32.toInt c_7)
        show mp_W E X 3 20 [(2, .int i_1), (1, .int i_2), (0, .int x0)] [] [] 0 0
        refine mp_run mp_k_cX10_sizeOf_ok hF mp_tabX10_ok [mp_i (.iload_n 1)] (by decide +kernel) ?_
        show mp_W E X 3 21 [(2, .int i_1), (1, .int i_2), (0, .int x0)] [.int i_2] [] 0 0
        exact mp_iret hF hQ rfl rfl (Nat.le_of_ble_eq_true rfl) (Nat.le_of_ble_eq_true rfl) [] (w' := []) rfl rfl ⟨i_2, rfl, rfl⟩ (by first | exact mp_fd_ok mp_k_cX10_sizeOf_ok (by decide +kernel) | decide +kernel)
      · have c_7 : i_1.toInt ≠ 0 := c_7
        show mp_W E X 3 8 [(2, .int i_1), (1, .int i_2), (0, .int x0)] [] [] 0 0
        refine mp_run mp_k_cX10_sizeOf_ok hF mp_tabX10_ok [mp_c (.iinc 1 1) 1, mp_i (.iload_n 2), mp_i (.iload_n 2), mp_c (.iconst 1) 1, mp_i .isub, mp_i .iand, mp_i (.istore_n 2), mp_h (.goto (-13)) [4]] (by decide +kernel) ?_
        intro z_8 h_9
        have e_10 := mp_bnd i_2
        intro z_12 h_13
        have e_14 := mp_bnd i_1
        have e_15 := mp_bnd i_1
        intro z_17 h_18
        have e_19 := mp_bnd i_1
        have e_21 := mp_lowbit h_13 h_18
        show mp_W E X 3 4 [(2, .int z_17), (1, .int z_8), (0, .int x0)] [] [] 0 0
        exact mp_sub [0, 1, 2] rfl [] rfl rfl (ih_5 (d_4 - 1) (by omega) z_17 z_8 (by omega))
  exact mp_sub [0, 1, 2] rfl [] rfl rfl (lp_3 _ x0 0 (Int.self_le_toNat _))
