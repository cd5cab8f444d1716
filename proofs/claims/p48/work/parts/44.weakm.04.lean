set_option maxHeartbeats 4000000 in
set_option maxRecDepth 100000 in
theorem bX10_copyRow_46 (E : mp_E) (a0 : Nat) (f0 : Nat → Int32) (p0 : mp_res f0 25 5 0 0 6) (p1 : mp_res f0 25 5 1 0 99) (p2 : mp_res f0 25 5 2 0 6) (p3 : mp_res f0 25 5 3 0 10) (p4 : mp_res f0 25 5 4 0 60) : mp_Ct E yX10_copyRow cX10_copyRow 5 none 0 0 0 0 [.ref a0, .int 5, .int 4, .int 0] [(mp_arI E a0 0 25 f0)] (fun v w' => ∃ h1 : Nat → Int32, v = none ∧ mp_res h1 25 5 0 0 6 ∧ mp_res h1 25 5 1 0 99 ∧ mp_res h1 25 5 2 0 6 ∧ mp_res h1 25 5 3 0 10 ∧ mp_res h1 25 5 4 0 60 ∧ (h1 = mp_cpr f0 20 0 5) ∧ w' = [(mp_arI E a0 0 25 h1)]) := by
  refine mp_met false (by decide) (by decide) (Nat.le_of_ble_eq_true rfl) (fun X hF hQ => ?_)
  have hF : mp_F E X (RX10, cX10_copyRow, 5, (0, 0, 0, 0), none, false) := hF
  show mp_W E X 5 0 [(0, .ref a0), (1, .int 5), (2, .int 4), (3, .int 0)] [] [(mp_arI E a0 0 25 f0)] 0 0
  refine mp_run mp_k_cX10_copyRow_ok hF mp_tabX10_ok [mp_c (.iconst 0) 0, mp_i (.istore 4)] (by decide +kernel) ?_
  show mp_W E X 5 3 [(4, .int 0), (0, .ref a0), (1, .int 5), (2, .int 4), (3, .int 0)] [] [(mp_arI E a0 0 25 f0)] 0 0
  have lp_12 : ∀ (d_13 : Nat) (i_1 : Int32) (g_2 : Nat → Int32), 0 ≤ i_1.toInt → i_1.toInt ≤ 5 → mp_res g_2 25 5 0 0 6 → mp_res g_2 25 5 1 0 99 → mp_res g_2 25 5 2 0 6 → mp_res g_2 25 5 3 0 10 → mp_res g_2 25 5 4 0 60 → (g_2 = mp_cpr f0 20 0 i_1.toInt.toNat) → (i_1.toInt ≤ 5) → -(i_1.toInt) + 5 ≤ (d_13 : Int) → mp_W E X 5 3 [(4, .int i_1), (0, .ref a0), (1, .int 5), (2, .int 4), (3, .int 0)] [] [(mp_arI E a0 0 25 g_2)] 0 0 := by
    intro d_13
    induction d_13 using Nat.strongRecOn with
    | ind d_13 ih_14 =>
      intro i_1 g_2 l_3 u_4 p_5 p_6 p_7 p_8 p_9 x_10 x_11 hm_15
      refine mp_run mp_k_cX10_copyRow_ok hF mp_tabX10_ok [mp_i (.iload 4), mp_i (.iload_n 1), mp_h (.if_icmp .ge 25) [31]] (by decide +kernel) ?_
      refine And.intro (fun c_16 => ?_) (fun c_16 => ?_)
      · have c_16 : 5 ≤ i_1.toInt := c_16
        show mp_W E X 5 31 [(4, .int i_1), (0, .ref a0), (1, .int 5), (2, .int 4), (3, .int 0)] [] [(mp_arI E a0 0 25 g_2)] 0 0
        exact mp_vret hF hQ rfl (Nat.le_of_ble_eq_true rfl) (Nat.le_of_ble_eq_true rfl) [0] (w' := [(mp_arI E a0 0 25 g_2)]) rfl rfl ⟨g_2, rfl, p_5, p_6, p_7, p_8, p_9, (by rw [show i_1.toInt.toNat = 5 by omega] at x_10; exact x_10), rfl⟩ (by first | exact mp_fd_ok mp_k_cX10_copyRow_ok (by decide +kernel) | decide +kernel)
      · have c_16 : i_1.toInt < 5 := c_16
        show mp_W E X 5 9 [(4, .int i_1), (0, .ref a0), (1, .int 5), (2, .int 4), (3, .int 0)] [] [(mp_arI E a0 0 25 g_2)] 0 0
        refine mp_run mp_k_cX10_copyRow_ok hF mp_tabX10_ok [mp_i (.aload_n 0), mp_i (.iload_n 1), mp_i (.iload_n 3), mp_i .imul, mp_i (.iload 4), mp_i .iadd, mp_i (.aload_n 0), mp_i (.iload_n 1), mp_i (.iload_n 2), mp_i .imul, mp_i (.iload 4), mp_i .iadd, mp_h .iaload [0], mp_h .iastore [0]] (by decide +kernel) ?_
        intro z_17 h_18
        obtain rfl : z_17 = 0 := h_18.trans (by decide)
        intro z_19 h_20
        have e_21 : z_19.toInt = 0 + i_1.toInt := mp_add (a := 0) (b := i_1.toInt) h_20 (by decide) rfl (by omega) (by omega)
        intro z_22 h_23
        obtain rfl : z_22 = 20 := h_23.trans (by decide)
        intro z_24 h_25
        have e_26 : z_24.toInt = 20 + i_1.toInt := mp_add (a := 20) (b := i_1.toInt) h_25 (by decide) rfl (by omega) (by omega)
        refine And.intro rfl (And.intro rfl (And.intro (vp_in_iff.mpr (by omega)) ?_))
        intro z_27 h_28
        have e_29 : z_24.toInt % 5 = 0 → 0 ≤ z_27.toInt ∧ z_27.toInt ≤ 6 := mp_res_ld h_28 p_5 (by omega) (by omega)
        have e_30 : z_24.toInt % 5 = 1 → 0 ≤ z_27.toInt ∧ z_27.toInt ≤ 99 := mp_res_ld h_28 p_6 (by omega) (by omega)
        have e_31 : z_24.toInt % 5 = 2 → 0 ≤ z_27.toInt ∧ z_27.toInt ≤ 6 := mp_res_ld h_28 p_7 (by omega) (by omega)
        have e_32 : z_24.toInt % 5 = 3 → 0 ≤ z_27.toInt ∧ z_27.toInt ≤ 10 := mp_res_ld h_28 p_8 (by omega) (by omega)
        have e_33 : z_24.toInt % 5 = 4 → 0 ≤ z_27.toInt ∧ z_27.toInt ≤ 60 := mp_res_ld h_28 p_9 (by omega) (by omega)
        refine And.intro rfl (And.intro rfl (And.intro (vp_in_iff.mpr (by omega)) ?_))
        intro g_34 h_35
        have p_36 : mp_res g_34 25 5 0 0 6 := mp_res_st h_35 p_5 (by omega) (by omega)
        have p_37 : mp_res g_34 25 5 1 0 99 := mp_res_st h_35 p_6 (by omega) (by omega)
        have p_38 : mp_res g_34 25 5 2 0 6 := mp_res_st h_35 p_7 (by omega) (by omega)
        have p_39 : mp_res g_34 25 5 3 0 10 := mp_res_st h_35 p_8 (by omega) (by omega)
        have p_40 : mp_res g_34 25 5 4 0 60 := mp_res_st h_35 p_9 (by omega) (by omega)
        show mp_W E X 5 25 [(4, .int i_1), (0, .ref a0), (1, .int 5), (2, .int 4), (3, .int 0)] [] [(mp_arI E a0 0 25 g_34)] 0 0
        refine mp_run mp_k_cX10_copyRow_ok hF mp_tabX10_ok [mp_c (.iinc 4 1) 1, mp_h (.goto (-25)) [3]] (by decide +kernel) ?_
        intro z_41 h_42
        have e_43 : z_41.toInt = i_1.toInt + 1 := mp_add (a := i_1.toInt) (b := 1) h_42 rfl (by decide) (by omega) (by omega)
        show mp_W E X 5 3 [(4, .int z_41), (0, .ref a0), (1, .int 5), (2, .int 4), (3, .int 0)] [] [(mp_arI E a0 0 25 g_34)] 0 0
        exact mp_sub [0, 1, 2, 3, 4] rfl [0] rfl rfl (ih_14 (d_13 - 1) (by omega) z_41 g_34 (by omega) (by omega) p_36 p_37 p_38 p_39 p_40 (mp_cpr_st (m := 5) h_35 h_28 x_10 (by omega) (by omega) (by omega) (by omega) (by omega)) (by omega) (by omega))
  exact mp_sub [0, 1, 2, 3, 4] rfl [0] rfl rfl (lp_12 _ 0 f0 (by decide) (by decide) p0 p1 p2 p3 p4 (mp_cpr_0 (by decide)) (by decide) (Int.self_le_toNat _))
