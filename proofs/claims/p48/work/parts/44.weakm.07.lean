set_option maxHeartbeats 4000000 in
set_option maxRecDepth 100000 in
theorem bX10_copyRow_49 (E : mp_E) (a0 : Nat) (f0 : Nat → Int32) (p0 : mp_res f0 300 6 0 0 5) (p1 : mp_res f0 300 6 1 0 5) (p2 : mp_res f0 300 6 3 0 99) (p3 : mp_res f0 300 6 4 0 1) : mp_Ct E yX10_copyRow cX10_copyRow 5 none 0 0 0 0 [.ref a0, .int 60, .int 4, .int 0] [(mp_arI E a0 0 300 f0)] (fun v w' => ∃ h1 : Nat → Int32, v = none ∧ mp_res h1 300 6 0 0 5 ∧ mp_res h1 300 6 1 0 5 ∧ mp_res h1 300 6 3 0 99 ∧ mp_res h1 300 6 4 0 1 ∧ (h1 = mp_cpr f0 240 0 60) ∧ w' = [(mp_arI E a0 0 300 h1)]) := by
  refine mp_met false (by decide) (by decide) (Nat.le_of_ble_eq_true rfl) (fun X hF hQ => ?_)
  have hF : mp_F E X (RX10, cX10_copyRow, 5, (0, 0, 0, 0), none, false) := hF
  show mp_W E X 5 0 [(0, .ref a0), (1, .int 60), (2, .int 4), (3, .int 0)] [] [(mp_arI E a0 0 300 f0)] 0 0
  refine mp_run mp_k_cX10_copyRow_ok hF mp_tabX10_ok [mp_c (.iconst 0) 0, mp_i (.istore 4)] (by decide +kernel) ?_
  show mp_W E X 5 3 [(4, .int 0), (0, .ref a0), (1, .int 60), (2, .int 4), (3, .int 0)] [] [(mp_arI E a0 0 300 f0)] 0 0
  have lp_11 : ∀ (d_12 : Nat) (i_1 : Int32) (g_2 : Nat → Int32), 0 ≤ i_1.toInt → i_1.toInt ≤ 60 → mp_res g_2 300 6 0 0 5 → mp_res g_2 300 6 1 0 5 → mp_res g_2 300 6 3 0 99 → mp_res g_2 300 6 4 0 1 → (g_2 = mp_cpr f0 240 0 i_1.toInt.toNat) → (i_1.toInt ≤ 60) → -(i_1.toInt) + 60 ≤ (d_12 : Int) → mp_W E X 5 3 [(4, .int i_1), (0, .ref a0), (1, .int 60), (2, .int 4), (3, .int 0)] [] [(mp_arI E a0 0 300 g_2)] 0 0 := by
    intro d_12
    induction d_12 using Nat.strongRecOn with
    | ind d_12 ih_13 =>
      intro i_1 g_2 l_3 u_4 p_5 p_6 p_7 p_8 x_9 x_10 hm_14
      refine mp_run mp_k_cX10_copyRow_ok hF mp_tabX10_ok [mp_i (.iload 4), mp_i (.iload_n 1), mp_h (.if_icmp .ge 25) [31]] (by decide +kernel) ?_
      refine And.intro (fun c_15 => ?_) (fun c_15 => ?_)
      · have c_15 : 60 ≤ i_1.toInt := c_15
        show mp_W E X 5 31 [(4, .int i_1), (0, .ref a0), (1, .int 60), (2, .int 4), (3, .int 0)] [] [(mp_arI E a0 0 300 g_2)] 0 0
        exact mp_vret hF hQ rfl (Nat.le_of_ble_eq_true rfl) (Nat.le_of_ble_eq_true rfl) [0] (w' := [(mp_arI E a0 0 300 g_2)]) rfl rfl ⟨g_2, rfl, p_5, p_6, p_7, p_8, (by rw [show i_1.toInt.toNat = 60 by omega] at x_9; exact x_9), rfl⟩ (by first | exact mp_fd_ok mp_k_cX10_copyRow_ok (by decide +kernel) | decide +kernel)
      · have c_15 : i_1.toInt < 60 := c_15
        show mp_W E X 5 9 [(4, .int i_1), (0, .ref a0), (1, .int 60), (2, .int 4), (3, .int 0)] [] [(mp_arI E a0 0 300 g_2)] 0 0
        refine mp_run mp_k_cX10_copyRow_ok hF mp_tabX10_ok [mp_i (.aload_n 0), mp_i (.iload_n 1), mp_i (.iload_n 3), mp_i .imul, mp_i (.iload 4), mp_i .iadd, mp_i (.aload_n 0), mp_i (.iload_n 1), mp_i (.iload_n 2), mp_i .imul, mp_i (.iload 4), mp_i .iadd, mp_h .iaload [0], mp_h .iastore [0]] (by decide +kernel) ?_
        intro z_16 h_17
        obtain rfl : z_16 = 0 := h_17.trans (by decide)
        intro z_18 h_19
        have e_20 : z_18.toInt = 0 + i_1.toInt := mp_add (a := 0) (b := i_1.toInt) h_19 (by decide) rfl (by omega) (by omega)
        intro z_21 h_22
        obtain rfl : z_21 = 240 := h_22.trans (by decide)
        intro z_23 h_24
        have e_25 : z_23.toInt = 240 + i_1.toInt := mp_add (a := 240) (b := i_1.toInt) h_24 (by decide) rfl (by omega) (by omega)
        refine And.intro rfl (And.intro rfl (And.intro (vp_in_iff.mpr (by omega)) ?_))
        intro z_26 h_27
        have e_28 : z_23.toInt % 6 = 0 → 0 ≤ z_26.toInt ∧ z_26.toInt ≤ 5 := mp_res_ld h_27 p_5 (by omega) (by omega)
        have e_29 : z_23.toInt % 6 = 1 → 0 ≤ z_26.toInt ∧ z_26.toInt ≤ 5 := mp_res_ld h_27 p_6 (by omega) (by omega)
        have e_30 : z_23.toInt % 6 = 3 → 0 ≤ z_26.toInt ∧ z_26.toInt ≤ 99 := mp_res_ld h_27 p_7 (by omega) (by omega)
        have e_31 : z_23.toInt % 6 = 4 → 0 ≤ z_26.toInt ∧ z_26.toInt ≤ 1 := mp_res_ld h_27 p_8 (by omega) (by omega)
        refine And.intro rfl (And.intro rfl (And.intro (vp_in_iff.mpr (by omega)) ?_))
        intro g_32 h_33
        have p_34 : mp_res g_32 300 6 0 0 5 := mp_res_st h_33 p_5 (by omega) (by omega)
        have p_35 : mp_res g_32 300 6 1 0 5 := mp_res_st h_33 p_6 (by omega) (by omega)
        have p_36 : mp_res g_32 300 6 3 0 99 := mp_res_st h_33 p_7 (by omega) (by omega)
        have p_37 : mp_res g_32 300 6 4 0 1 := mp_res_st h_33 p_8 (by omega) (by omega)
        show mp_W E X 5 25 [(4, .int i_1), (0, .ref a0), (1, .int 60), (2, .int 4), (3, .int 0)] [] [(mp_arI E a0 0 300 g_32)] 0 0
        refine mp_run mp_k_cX10_copyRow_ok hF mp_tabX10_ok [mp_c (.iinc 4 1) 1, mp_h (.goto (-25)) [3]] (by decide +kernel) ?_
        intro z_38 h_39
        have e_40 : z_38.toInt = i_1.toInt + 1 := mp_add (a := i_1.toInt) (b := 1) h_39 rfl (by decide) (by omega) (by omega)
        show mp_W E X 5 3 [(4, .int z_38), (0, .ref a0), (1, .int 60), (2, .int 4), (3, .int 0)] [] [(mp_arI E a0 0 300 g_32)] 0 0
        exact mp_sub [0, 1, 2, 3, 4] rfl [0] rfl rfl (ih_13 (d_12 - 1) (by omega) z_38 g_32 (by omega) (by omega) p_34 p_35 p_36 p_37 (mp_cpr_st (m := 60) h_33 h_27 x_9 (by omega) (by omega) (by omega) (by omega) (by omega)) (by omega) (by omega))
  exact mp_sub [0, 1, 2, 3, 4] rfl [0] rfl rfl (lp_11 _ 0 f0 (by decide) (by decide) p0 p1 p2 p3 (mp_cpr_0 (by decide)) (by decide) (Int.self_le_toNat _))
