set_option maxHeartbeats 4000000 in
set_option maxRecDepth 100000 in
theorem bX0_lastSaid_60 (E : mp_E) (a0 a1 a2 a3 a4 a5 a6 a7 a8 a9 a10 a11 a12 a13 a14 a15 a16 a17 a18 a19 : Nat) (f0 : Nat → Int32) (f1 : Nat → Int64) (y0 : Int32) (y1 : Int32) (y2 : Int32) (y3 : Int32) (y4 : Int32) (y5 : Int32) (y6 : Int32) (x0 : Int32) (x1 : Int32) (p0 : mp_all f0 10 0 99) (l_x0 : 0 ≤ x0.toInt) (u_x0 : x0.toInt ≤ 9) (l_y0 : 0 ≤ y0.toInt) (u_y0 : y0.toInt ≤ 99) (l_y2 : 0 ≤ y2.toInt) (u_y2 : y2.toInt ≤ 6) (l_y3 : 0 ≤ y3.toInt) (u_y3 : y3.toInt ≤ 99) (l_y4 : 0 ≤ y4.toInt) (u_y4 : y4.toInt ≤ 6) (l_y5 : 0 ≤ y5.toInt) (u_y5 : y5.toInt ≤ 10) (l_y6 : 0 ≤ y6.toInt) (u_y6 : y6.toInt ≤ 60) : mp_Ct E yX0_lastSaid cX0_lastSaid 5 (some FieldType.int) 1 0 0 16 [.ref a0, .int x0, .int x1] [(mp_ob0 a0 a1 y0 a4 a5 a6 a3 a7 a8), (mp_ob7 a1 y1 y2 y3 y4 y5 y6 a9 a10 a11 a12 a13 a14 a15 a16 a2 a17 a18 a19), (mp_arI E a2 0 10 f0), (mp_arL E a3 20 f1)] (fun v w' => ∃ r1 : Int32, v = some (.int r1) ∧ (-1) ≤ r1.toInt ∧ r1.toInt ≤ 99 ∧ w' = [(mp_ob0 a0 a1 y0 a4 a5 a6 a3 a7 a8), (mp_ob7 a1 y1 y2 y3 y4 y5 y6 a9 a10 a11 a12 a13 a14 a15 a16 a2 a17 a18 a19), (mp_arI E a2 0 10 f0), (mp_arL E a3 20 f1)]) := by
  refine mp_met false (by decide) (by decide) (Nat.le_of_ble_eq_true rfl) (fun X hF hQ => ?_)
  have hF : mp_F E X (RX0, cX0_lastSaid, 5, (1, 0, 0, 16), (some FieldType.int), false) := hF
  let w1_ : va_W := [(mp_ob0 a0 a1 y0 a4 a5 a6 a3 a7 a8), (mp_ob7 a1 y1 y2 y3 y4 y5 y6 a9 a10 a11 a12 a13 a14 a15 a16 a2 a17 a18 a19), (mp_arI E a2 0 10 f0), (mp_arL E a3 20 f1)]
  show mp_W E X 5 0 [(0, .ref a0), (1, .int x0), (2, .int x1)] [] w1_ 0 0
  refine mp_run mp_k_cX0_lastSaid_ok hF mp_tabX0_ok [mp_i (.aload_n 0), mp_h (.getfield 12) [11, 0], mp_h (.getfield 89) [8, 1], mp_i (.iload_n 1), mp_h .iaload [2], mp_i (.istore_n 3), mp_i (.iload_n 2), mp_i (.iload_n 3), mp_h (.if_icmp .ge 5) [17]] (by decide +kernel) ?_
  refine And.intro rfl (And.intro rfl ?_)
  refine And.intro rfl (And.intro rfl ?_)
  refine And.intro rfl (And.intro rfl (And.intro (vp_in_iff.mpr (by omega)) ?_))
  intro z_1 h_2
  have e_3 : 0 ≤ z_1.toInt ∧ z_1.toInt ≤ 99 := mp_all_ld h_2 p0 (by omega) (by omega)
  refine And.intro (fun c_4 => ?_) (fun c_4 => ?_)
  · have c_4 : z_1.toInt ≤ x1.toInt := c_4
    show mp_W E X 5 17 [(3, .int z_1), (0, .ref a0), (1, .int x0), (2, .int x1)] [] w1_ 0 0
    refine mp_run mp_k_cX0_lastSaid_ok hF mp_tabX0_ok [mp_i (.iload_n 2), mp_i (.aload_n 0), mp_h (.getfield 42) [12, 0]] (by decide +kernel) ?_
    refine And.intro rfl (And.intro rfl ?_)
    show mp_W E X 5 22 [(3, .int z_1), (0, .ref a0), (1, .int x0), (2, .int x1)] [.int y0, .int x1] w1_ 0 0
    refine mp_mmin hF (idx := 92) (mp_gm (j := 3181) (by decide +kernel)) (mp_gm (j := 2219) (by decide +kernel)) (mp_gm (j := 1013) (by decide +kernel)) (mp_gm (j := 2220) (by decide +kernel)) ⟨(Nat.le_of_ble_eq_true rfl), (Nat.le_of_ble_eq_true rfl), (Nat.le_of_ble_eq_true rfl), (Nat.le_of_ble_eq_true rfl)⟩ (by first | exact mp_fd_ok mp_k_cX0_lastSaid_ok (by decide +kernel) | decide +kernel) (fun z_5 m_6 m_7 m_8 => ?_)
    have m_7 : z_5.toInt ≤ x1.toInt := m_7
    have m_8 : z_5.toInt ≤ y0.toInt := m_8
    have m_6 : z_5.toInt = x1.toInt ∨ z_5.toInt = y0.toInt := m_6
    show mp_W E X 5 25 [(3, .int z_1), (0, .ref a0), (1, .int x0), (2, .int x1)] [.int z_5] w1_ 0 0
    refine mp_run mp_k_cX0_lastSaid_ok hF mp_tabX0_ok [mp_i (.istore 4)] (by decide +kernel) ?_
    show mp_W E X 5 27 [(4, .int z_5), (3, .int z_1), (0, .ref a0), (1, .int x0), (2, .int x1)] [] w1_ 0 0
    have lp_12 : ∀ (d_13 : Nat) (i_9 : Int32), 0 ≤ i_9.toInt → i_9.toInt ≤ 99 → i_9.toInt - z_1.toInt ≤ (d_13 : Int) → mp_W E X 5 27 [(4, .int i_9), (3, .int z_1), (0, .ref a0), (1, .int x0), (2, .int x1)] [] [(mp_ob0 a0 a1 y0 a4 a5 a6 a3 a7 a8), (mp_ob7 a1 y1 y2 y3 y4 y5 y6 a9 a10 a11 a12 a13 a14 a15 a16 a2 a17 a18 a19), (mp_arI E a2 0 10 f0), (mp_arL E a3 20 f1)] 0 0 := by
      intro d_13
      induction d_13 using Nat.strongRecOn with
      | ind d_13 ih_14 =>
        intro i_9 l_10 u_11 hm_15
        refine mp_run mp_k_cX0_lastSaid_ok hF mp_tabX0_ok [mp_i (.iload 4), mp_i (.iload_n 3), mp_h (.if_icmp .le 39) [69]] (by decide +kernel) ?_
        refine And.intro (fun c_16 => ?_) (fun c_16 => ?_)
        · have c_16 : i_9.toInt ≤ z_1.toInt := c_16
          show mp_W E X 5 69 [(4, .int i_9), (3, .int z_1), (0, .ref a0), (1, .int x0), (2, .int x1)] [] w1_ 0 0
          refine mp_run mp_k_cX0_lastSaid_ok hF mp_tabX0_ok [mp_i (.iload_n 3)] (by decide +kernel) ?_
          show mp_W E X 5 70 [(4, .int i_9), (3, .int z_1), (0, .ref a0), (1, .int x0), (2, .int x1)] [.int z_1] w1_ 0 0
          exact mp_iret hF hQ rfl rfl (Nat.le_of_ble_eq_true rfl) (Nat.le_of_ble_eq_true rfl) [0, 1, 2, 3] (w' := w1_) rfl rfl ⟨z_1, rfl, (by omega), e_3.2, rfl⟩ (by first | exact mp_fd_ok mp_k_cX0_lastSaid_ok (by decide +kernel) | decide +kernel)
        · have c_16 : z_1.toInt < i_9.toInt := c_16
          show mp_W E X 5 33 [(4, .int i_9), (3, .int z_1), (0, .ref a0), (1, .int x0), (2, .int x1)] [] w1_ 0 0
          refine mp_run mp_k_cX0_lastSaid_ok hF mp_tabX0_ok [mp_i (.aload_n 0), mp_h (.getfield 28) [16, 0], mp_c (.iconst 2) 2, mp_i (.iload_n 1), mp_i .imul, mp_i (.iload 4), mp_c (.bipush 50) 50, mp_i .idiv, mp_i .iadd, mp_h .laload [3], mp_i (.iload 4), mp_c (.bipush 50) 50, mp_i .irem, mp_i .lshr, mp_cl (.lconst 1) 1, mp_i .land, mp_cl (.lconst 0) 0, mp_i .lcmp, mp_h (.ifCond .eq 6) [63]] (by decide +kernel) ?_
          refine And.intro rfl (And.intro rfl ?_)
          intro z_17 h_18
          have e_19 : z_17.toInt = 2 * x0.toInt := mp_mul (a := 2) (b := x0.toInt) h_18 (by decide) rfl (by omega) (by omega)
          refine And.intro (by decide) ?_
          intro z_20 h_21
          have e_22 : z_20.toInt = i_9.toInt / 50 := mp_div (a := i_9.toInt) (b := 50) h_21 rfl (by decide) (by omega) (by decide)
          intro z_23 h_24
          have e_25 : z_23.toInt = z_17.toInt + z_20.toInt := mp_add (a := z_17.toInt) (b := z_20.toInt) h_24 rfl rfl (by omega) (by omega)
          refine And.intro rfl (And.intro rfl (And.intro (vp_in_iff.mpr (by omega)) ?_))
          intro z_26 h_27
          refine And.intro (by decide) ?_
          intro z_28 h_29
          have e_30 : z_28.toInt = i_9.toInt % 50 := mp_rem (a := i_9.toInt) (b := 50) h_29 rfl (by decide) (by omega) (by decide)
          intro z_31 h_32
          intro z_33 h_34
          intro z_35 h_36
          refine And.intro (fun c_37 => ?_) (fun c_37 => ?_)
          · have c_37 : z_33.toInt = 0 := mp_lc_eq h_36 c_37
            show mp_W E X 5 63 [(4, .int i_9), (3, .int z_1), (0, .ref a0), (1, .int x0), (2, .int x1)] [] w1_ 0 0
            refine mp_run mp_k_cX0_lastSaid_ok hF mp_tabX0_ok [mp_c (.iinc 4 (-1)) (-1), mp_h (.goto (-39)) [27]] (by decide +kernel) ?_
            intro z_38 h_39
            have e_40 : z_38.toInt = i_9.toInt + (-1) := mp_add (a := i_9.toInt) (b := (-1)) h_39 rfl (by decide) (by omega) (by omega)
            show mp_W E X 5 27 [(4, .int z_38), (3, .int z_1), (0, .ref a0), (1, .int x0), (2, .int x1)] [] w1_ 0 0
            exact mp_sub [0, 1, 2, 3, 4] rfl [0, 1, 2, 3] rfl rfl (ih_14 (d_13 - 1) (by omega) z_38 (by omega) (by omega) (by omega))
          · have c_37 : z_33.toInt ≠ 0 := mp_lc_ne h_36 c_37
            show mp_W E X 5 60 [(4, .int i_9), (3, .int z_1), (0, .ref a0), (1, .int x0), (2, .int x1)] [] w1_ 0 0
            refine mp_run mp_k_cX0_lastSaid_ok hF mp_tabX0_ok [mp_i (.iload 4)] (by decide +kernel) ?_
            show mp_W E X 5 62 [(4, .int i_9), (3, .int z_1), (0, .ref a0), (1, .int x0), (2, .int x1)] [.int i_9] w1_ 0 0
            exact mp_iret hF hQ rfl rfl (Nat.le_of_ble_eq_true rfl) (Nat.le_of_ble_eq_true rfl) [0, 1, 2, 3] (w' := w1_) rfl rfl ⟨i_9, rfl, (by omega), u_11, rfl⟩ (by first | exact mp_fd_ok mp_k_cX0_lastSaid_ok (by decide +kernel) | decide +kernel)
    exact mp_sub [0, 1, 2, 3, 4] rfl [0, 1, 2, 3] rfl rfl (lp_12 _ z_5 (by omega) (by omega) (Int.self_le_toNat _))
  · have c_4 : x1.toInt < z_1.toInt := c_4
    show mp_W E X 5 15 [(3, .int z_1), (0, .ref a0), (1, .int x0), (2, .int x1)] [] w1_ 0 0
    refine mp_run mp_k_cX0_lastSaid_ok hF mp_tabX0_ok [mp_c (.iconst (-1)) (-1)] (by decide +kernel) ?_
    show mp_W E X 5 16 [(3, .int z_1), (0, .ref a0), (1, .int x0), (2, .int x1)] [.int (-1)] w1_ 0 0
    exact mp_iret hF hQ rfl rfl (Nat.le_of_ble_eq_true rfl) (Nat.le_of_ble_eq_true rfl) [0, 1, 2, 3] (w' := w1_) rfl rfl ⟨(-1), rfl, (by decide), (by decide), rfl⟩ (by first | exact mp_fd_ok mp_k_cX0_lastSaid_ok (by decide +kernel) | decide +kernel)

