set_option maxHeartbeats 4000000 in
set_option maxRecDepth 100000 in
theorem bX10_copyRow_50 (E : mp_E) (a0 : Nat) (f0 : Nat → Int32) (p0 : mp_actm f0) : mp_Ct E yX10_copyRow cX10_copyRow 5 none 0 0 0 0 [.ref a0, .int 60, .int 4, .int 0] [(mp_arI E a0 0 300 f0)] (fun v w' => ∃ h1 : Nat → Int32, v = none ∧ mp_actm h1 ∧ (h1 = mp_cpr f0 240 0 60) ∧ w' = [(mp_arI E a0 0 300 h1)]) := by
  refine mp_met false (by decide) (by decide) (Nat.le_of_ble_eq_true rfl) (fun X hF hQ => ?_)
  have hF : mp_F E X (RX10, cX10_copyRow, 5, (0, 0, 0, 0), none, false) := hF
  show mp_W E X 5 0 [(0, .ref a0), (1, .int 60), (2, .int 4), (3, .int 0)] [] [(mp_arI E a0 0 300 f0)] 0 0
  refine mp_run mp_k_cX10_copyRow_ok hF mp_tabX10_ok [mp_c (.iconst 0) 0, mp_i (.istore 4)] (by decide +kernel) ?_
  show mp_W E X 5 3 [(4, .int 0), (0, .ref a0), (1, .int 60), (2, .int 4), (3, .int 0)] [] [(mp_arI E a0 0 300 f0)] 0 0
  have lp_8 : ∀ (d_9 : Nat) (i_1 : Int32) (g_2 : Nat → Int32), 0 ≤ i_1.toInt → i_1.toInt ≤ 60 → mp_actm g_2 → (g_2 = mp_cpr f0 240 0 i_1.toInt.toNat) → (i_1.toInt ≤ 60) → -(i_1.toInt) + 60 ≤ (d_9 : Int) → mp_W E X 5 3 [(4, .int i_1), (0, .ref a0), (1, .int 60), (2, .int 4), (3, .int 0)] [] [(mp_arI E a0 0 300 g_2)] 0 0 := by
    intro d_9
    induction d_9 using Nat.strongRecOn with
    | ind d_9 ih_10 =>
      intro i_1 g_2 l_3 u_4 p_5 x_6 x_7 hm_11
      refine mp_run mp_k_cX10_copyRow_ok hF mp_tabX10_ok [mp_i (.iload 4), mp_i (.iload_n 1), mp_h (.if_icmp .ge 25) [31]] (by decide +kernel) ?_
      refine And.intro (fun c_12 => ?_) (fun c_12 => ?_)
      · have c_12 : 60 ≤ i_1.toInt := c_12
        show mp_W E X 5 31 [(4, .int i_1), (0, .ref a0), (1, .int 60), (2, .int 4), (3, .int 0)] [] [(mp_arI E a0 0 300 g_2)] 0 0
        exact mp_vret hF hQ rfl (Nat.le_of_ble_eq_true rfl) (Nat.le_of_ble_eq_true rfl) [0] (w' := [(mp_arI E a0 0 300 g_2)]) rfl rfl ⟨g_2, rfl, p_5, (by rw [show i_1.toInt.toNat = 60 by omega] at x_6; exact x_6), rfl⟩ (by first | exact mp_fd_ok mp_k_cX10_copyRow_ok (by decide +kernel) | decide +kernel)
      · have c_12 : i_1.toInt < 60 := c_12
        show mp_W E X 5 9 [(4, .int i_1), (0, .ref a0), (1, .int 60), (2, .int 4), (3, .int 0)] [] [(mp_arI E a0 0 300 g_2)] 0 0
        refine mp_run mp_k_cX10_copyRow_ok hF mp_tabX10_ok [mp_i (.aload_n 0), mp_i (.iload_n 1), mp_i (.iload_n 3), mp_i .imul, mp_i (.iload 4), mp_i .iadd, mp_i (.aload_n 0), mp_i (.iload_n 1), mp_i (.iload_n 2), mp_i .imul, mp_i (.iload 4), mp_i .iadd, mp_h .iaload [0], mp_h .iastore [0]] (by decide +kernel) ?_
        intro z_13 h_14
        obtain rfl : z_13 = 0 := h_14.trans (by decide)
        intro z_15 h_16
        have e_17 : z_15.toInt = 0 + i_1.toInt := mp_add (a := 0) (b := i_1.toInt) h_16 (by decide) rfl (by omega) (by omega)
        intro z_18 h_19
        obtain rfl : z_18 = 240 := h_19.trans (by decide)
        intro z_20 h_21
        have e_22 : z_20.toInt = 240 + i_1.toInt := mp_add (a := 240) (b := i_1.toInt) h_21 (by decide) rfl (by omega) (by omega)
        refine And.intro rfl (And.intro rfl (And.intro (vp_in_iff.mpr (by omega)) ?_))
        intro z_23 h_24
        have e_25 := mp_actm_ld h_24 p_5 (by omega) (by omega)
        refine And.intro rfl (And.intro rfl (And.intro (vp_in_iff.mpr (by omega)) ?_))
        intro g_26 h_27
        have p_28 : mp_actm g_26 := mp_actm_st h_27 p_5 (by omega)
        show mp_W E X 5 25 [(4, .int i_1), (0, .ref a0), (1, .int 60), (2, .int 4), (3, .int 0)] [] [(mp_arI E a0 0 300 g_26)] 0 0
        refine mp_run mp_k_cX10_copyRow_ok hF mp_tabX10_ok [mp_c (.iinc 4 1) 1, mp_h (.goto (-25)) [3]] (by decide +kernel) ?_
        intro z_29 h_30
        have e_31 : z_29.toInt = i_1.toInt + 1 := mp_add (a := i_1.toInt) (b := 1) h_30 rfl (by decide) (by omega) (by omega)
        show mp_W E X 5 3 [(4, .int z_29), (0, .ref a0), (1, .int 60), (2, .int 4), (3, .int 0)] [] [(mp_arI E a0 0 300 g_26)] 0 0
        exact mp_sub [0, 1, 2, 3, 4] rfl [0] rfl rfl (ih_10 (d_9 - 1) (by omega) z_29 g_26 (by omega) (by omega) p_28 (mp_cpr_st (m := 60) h_27 h_24 x_6 (by omega) (by omega) (by omega) (by omega) (by omega)) (by omega) (by omega))
  exact mp_sub [0, 1, 2, 3, 4] rfl [0] rfl rfl (lp_8 _ 0 f0 (by decide) (by decide) p0 (mp_cpr_0 (by decide)) (by decide) (Int.self_le_toNat _))
