set_option maxHeartbeats 4000000 in
set_option maxRecDepth 100000 in
theorem bX10_copyRow_48 (E : mp_E) (a0 : Nat) (f0 : Nat → Int32) (p0 : mp_res f0 90 3 0 0 5) (p1 : mp_res f0 90 3 1 (-1) 99) : mp_Ct E yX10_copyRow cX10_copyRow 5 none 0 0 0 0 [.ref a0, .int 18, .int 4, .int 0] [(mp_arI E a0 0 90 f0)] (fun v w' => ∃ h1 : Nat → Int32, v = none ∧ mp_res h1 90 3 0 0 5 ∧ mp_res h1 90 3 1 (-1) 99 ∧ (h1 = mp_cpr f0 72 0 18) ∧ w' = [(mp_arI E a0 0 90 h1)]) := by
  refine mp_met false (by decide) (by decide) (Nat.le_of_ble_eq_true rfl) (fun X hF hQ => ?_)
  have hF : mp_F E X (RX10, cX10_copyRow, 5, (0, 0, 0, 0), none, false) := hF
  show mp_W E X 5 0 [(0, .ref a0), (1, .int 18), (2, .int 4), (3, .int 0)] [] [(mp_arI E a0 0 90 f0)] 0 0
  refine mp_run mp_k_cX10_copyRow_ok hF mp_tabX10_ok [mp_c (.iconst 0) 0, mp_i (.istore 4)] (by decide +kernel) ?_
  show mp_W E X 5 3 [(4, .int 0), (0, .ref a0), (1, .int 18), (2, .int 4), (3, .int 0)] [] [(mp_arI E a0 0 90 f0)] 0 0
  have lp_9 : ∀ (d_10 : Nat) (i_1 : Int32) (g_2 : Nat → Int32), 0 ≤ i_1.toInt → i_1.toInt ≤ 20 → mp_res g_2 90 3 0 0 5 → mp_res g_2 90 3 1 (-1) 99 → (g_2 = mp_cpr f0 72 0 i_1.toInt.toNat) → (i_1.toInt ≤ 18) → -(i_1.toInt) + 18 ≤ (d_10 : Int) → mp_W E X 5 3 [(4, .int i_1), (0, .ref a0), (1, .int 18), (2, .int 4), (3, .int 0)] [] [(mp_arI E a0 0 90 g_2)] 0 0 := by
    intro d_10
    induction d_10 using Nat.strongRecOn with
    | ind d_10 ih_11 =>
      intro i_1 g_2 l_3 u_4 p_5 p_6 x_7 x_8 hm_12
      refine mp_run mp_k_cX10_copyRow_ok hF mp_tabX10_ok [mp_i (.iload 4), mp_i (.iload_n 1), mp_h (.if_icmp .ge 25) [31]] (by decide +kernel) ?_
      refine And.intro (fun c_13 => ?_) (fun c_13 => ?_)
      · have c_13 : 18 ≤ i_1.toInt := c_13
        show mp_W E X 5 31 [(4, .int i_1), (0, .ref a0), (1, .int 18), (2, .int 4), (3, .int 0)] [] [(mp_arI E a0 0 90 g_2)] 0 0
        exact mp_vret hF hQ rfl (Nat.le_of_ble_eq_true rfl) (Nat.le_of_ble_eq_true rfl) [0] (w' := [(mp_arI E a0 0 90 g_2)]) rfl rfl ⟨g_2, rfl, p_5, p_6, (by rw [show i_1.toInt.toNat = 18 by omega] at x_7; exact x_7), rfl⟩ (by first | exact mp_fd_ok mp_k_cX10_copyRow_ok (by decide +kernel) | decide +kernel)
      · have c_13 : i_1.toInt < 18 := c_13
        show mp_W E X 5 9 [(4, .int i_1), (0, .ref a0), (1, .int 18), (2, .int 4), (3, .int 0)] [] [(mp_arI E a0 0 90 g_2)] 0 0
        refine mp_run mp_k_cX10_copyRow_ok hF mp_tabX10_ok [mp_i (.aload_n 0), mp_i (.iload_n 1), mp_i (.iload_n 3), mp_i .imul, mp_i (.iload 4), mp_i .iadd, mp_i (.aload_n 0), mp_i (.iload_n 1), mp_i (.iload_n 2), mp_i .imul, mp_i (.iload 4), mp_i .iadd, mp_h .iaload [0], mp_h .iastore [0]] (by decide +kernel) ?_
        intro z_14 h_15
        obtain rfl : z_14 = 0 := h_15.trans (by decide)
        intro z_16 h_17
        have e_18 : z_16.toInt = 0 + i_1.toInt := mp_add (a := 0) (b := i_1.toInt) h_17 (by decide) rfl (by omega) (by omega)
        intro z_19 h_20
        obtain rfl : z_19 = 72 := h_20.trans (by decide)
        intro z_21 h_22
        have e_23 : z_21.toInt = 72 + i_1.toInt := mp_add (a := 72) (b := i_1.toInt) h_22 (by decide) rfl (by omega) (by omega)
        refine And.intro rfl (And.intro rfl (And.intro (vp_in_iff.mpr (by omega)) ?_))
        intro z_24 h_25
        have e_26 : z_21.toInt % 3 = 0 → 0 ≤ z_24.toInt ∧ z_24.toInt ≤ 5 := mp_res_ld h_25 p_5 (by omega) (by omega)
        have e_27 : z_21.toInt % 3 = 1 → (-1) ≤ z_24.toInt ∧ z_24.toInt ≤ 99 := mp_res_ld h_25 p_6 (by omega) (by omega)
        refine And.intro rfl (And.intro rfl (And.intro (vp_in_iff.mpr (by omega)) ?_))
        intro g_28 h_29
        have p_30 : mp_res g_28 90 3 0 0 5 := mp_res_st h_29 p_5 (by omega) (by omega)
        have p_31 : mp_res g_28 90 3 1 (-1) 99 := mp_res_st h_29 p_6 (by omega) (by omega)
        show mp_W E X 5 25 [(4, .int i_1), (0, .ref a0), (1, .int 18), (2, .int 4), (3, .int 0)] [] [(mp_arI E a0 0 90 g_28)] 0 0
        refine mp_run mp_k_cX10_copyRow_ok hF mp_tabX10_ok [mp_c (.iinc 4 1) 1, mp_h (.goto (-25)) [3]] (by decide +kernel) ?_
        intro z_32 h_33
        have e_34 : z_32.toInt = i_1.toInt + 1 := mp_add (a := i_1.toInt) (b := 1) h_33 rfl (by decide) (by omega) (by omega)
        show mp_W E X 5 3 [(4, .int z_32), (0, .ref a0), (1, .int 18), (2, .int 4), (3, .int 0)] [] [(mp_arI E a0 0 90 g_28)] 0 0
        exact mp_sub [0, 1, 2, 3, 4] rfl [0] rfl rfl (ih_11 (d_10 - 1) (by omega) z_32 g_28 (by omega) (by omega) p_30 p_31 (mp_cpr_st (m := 18) h_29 h_25 x_7 (by omega) (by omega) (by omega) (by omega) (by omega)) (by omega) (by omega))
  exact mp_sub [0, 1, 2, 3, 4] rfl [0] rfl rfl (lp_9 _ 0 f0 (by decide) (by decide) p0 p1 (mp_cpr_0 (by decide)) (by decide) (Int.self_le_toNat _))
