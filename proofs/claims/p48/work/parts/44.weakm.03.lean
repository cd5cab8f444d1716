set_option maxHeartbeats 4000000 in
set_option maxRecDepth 100000 in
theorem bX10_copyRow_45 (E : mp_E) (a0 : Nat) (f0 : Nat → Int32) : mp_Ct E yX10_copyRow cX10_copyRow 5 none 0 0 0 0 [.ref a0, .int 1, .int 4, .int 0] [(mp_arI E a0 0 5 f0)] (fun v w' => ∃ h1 : Nat → Int32, v = none ∧ (h1 = mp_cpr f0 4 0 1) ∧ w' = [(mp_arI E a0 0 5 h1)]) := by
  refine mp_met false (by decide) (by decide) (Nat.le_of_ble_eq_true rfl) (fun X hF hQ => ?_)
  have hF : mp_F E X (RX10, cX10_copyRow, 5, (0, 0, 0, 0), none, false) := hF
  show mp_W E X 5 0 [(0, .ref a0), (1, .int 1), (2, .int 4), (3, .int 0)] [] [(mp_arI E a0 0 5 f0)] 0 0
  refine mp_run mp_k_cX10_copyRow_ok hF mp_tabX10_ok [mp_c (.iconst 0) 0, mp_i (.istore 4)] (by decide +kernel) ?_
  show mp_W E X 5 3 [(4, .int 0), (0, .ref a0), (1, .int 1), (2, .int 4), (3, .int 0)] [] [(mp_arI E a0 0 5 f0)] 0 0
  have lp_7 : ∀ (d_8 : Nat) (i_1 : Int32) (g_2 : Nat → Int32), 0 ≤ i_1.toInt → i_1.toInt ≤ 1 → (g_2 = mp_cpr f0 4 0 i_1.toInt.toNat) → (i_1.toInt ≤ 1) → -(i_1.toInt) + 1 ≤ (d_8 : Int) → mp_W E X 5 3 [(4, .int i_1), (0, .ref a0), (1, .int 1), (2, .int 4), (3, .int 0)] [] [(mp_arI E a0 0 5 g_2)] 0 0 := by
    intro d_8
    induction d_8 using Nat.strongRecOn with
    | ind d_8 ih_9 =>
      intro i_1 g_2 l_3 u_4 x_5 x_6 hm_10
      refine mp_run mp_k_cX10_copyRow_ok hF mp_tabX10_ok [mp_i (.iload 4), mp_i (.iload_n 1), mp_h (.if_icmp .ge 25) [31]] (by decide +kernel) ?_
      refine And.intro (fun c_11 => ?_) (fun c_11 => ?_)
      · have c_11 : 1 ≤ i_1.toInt := c_11
        show mp_W E X 5 31 [(4, .int i_1), (0, .ref a0), (1, .int 1), (2, .int 4), (3, .int 0)] [] [(mp_arI E a0 0 5 g_2)] 0 0
        exact mp_vret hF hQ rfl (Nat.le_of_ble_eq_true rfl) (Nat.le_of_ble_eq_true rfl) [0] (w' := [(mp_arI E a0 0 5 g_2)]) rfl rfl ⟨g_2, rfl, (by rw [show i_1.toInt.toNat = 1 by omega] at x_5; exact x_5), rfl⟩ (by first | exact mp_fd_ok mp_k_cX10_copyRow_ok (by decide +kernel) | decide +kernel)
      · have c_11 : i_1.toInt < 1 := c_11
        show mp_W E X 5 9 [(4, .int i_1), (0, .ref a0), (1, .int 1), (2, .int 4), (3, .int 0)] [] [(mp_arI E a0 0 5 g_2)] 0 0
        refine mp_run mp_k_cX10_copyRow_ok hF mp_tabX10_ok [mp_i (.aload_n 0), mp_i (.iload_n 1), mp_i (.iload_n 3), mp_i .imul, mp_i (.iload 4), mp_i .iadd, mp_i (.aload_n 0), mp_i (.iload_n 1), mp_i (.iload_n 2), mp_i .imul, mp_i (.iload 4), mp_i .iadd, mp_h .iaload [0], mp_h .iastore [0]] (by decide +kernel) ?_
        intro z_12 h_13
        obtain rfl : z_12 = 0 := h_13.trans (by decide)
        intro z_14 h_15
        have e_16 : z_14.toInt = 0 + i_1.toInt := mp_add (a := 0) (b := i_1.toInt) h_15 (by decide) rfl (by omega) (by omega)
        intro z_17 h_18
        obtain rfl : z_17 = 4 := h_18.trans (by decide)
        intro z_19 h_20
        have e_21 : z_19.toInt = 4 + i_1.toInt := mp_add (a := 4) (b := i_1.toInt) h_20 (by decide) rfl (by omega) (by omega)
        refine And.intro rfl (And.intro rfl (And.intro (vp_in_iff.mpr (by omega)) ?_))
        intro z_22 h_23
        refine And.intro rfl (And.intro rfl (And.intro (vp_in_iff.mpr (by omega)) ?_))
        intro g_24 h_25
        show mp_W E X 5 25 [(4, .int i_1), (0, .ref a0), (1, .int 1), (2, .int 4), (3, .int 0)] [] [(mp_arI E a0 0 5 g_24)] 0 0
        refine mp_run mp_k_cX10_copyRow_ok hF mp_tabX10_ok [mp_c (.iinc 4 1) 1, mp_h (.goto (-25)) [3]] (by decide +kernel) ?_
        intro z_26 h_27
        have e_28 : z_26.toInt = i_1.toInt + 1 := mp_add (a := i_1.toInt) (b := 1) h_27 rfl (by decide) (by omega) (by omega)
        show mp_W E X 5 3 [(4, .int z_26), (0, .ref a0), (1, .int 1), (2, .int 4), (3, .int 0)] [] [(mp_arI E a0 0 5 g_24)] 0 0
        exact mp_sub [0, 1, 2, 3, 4] rfl [0] rfl rfl (ih_9 (d_8 - 1) (by omega) z_26 g_24 (by omega) (by omega) (mp_cpr_st (m := 1) h_25 h_23 x_5 (by omega) (by omega) (by omega) (by omega) (by omega)) (by omega) (by omega))
  exact mp_sub [0, 1, 2, 3, 4] rfl [0] rfl rfl (lp_7 _ 0 f0 (by decide) (by decide) (mp_cpr_0 (by decide)) (by decide) (Int.self_le_toNat _))
