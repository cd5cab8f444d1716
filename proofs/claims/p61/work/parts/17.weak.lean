set_option maxHeartbeats 4000000 in
set_option maxRecDepth 100000 in
theorem bX2_leastFallen_118 (E : mp_E) (a0 a1 a2 a3 a4 a5 : Nat) (f0 : Nat → Int32) (f1 : Nat → Int32) (y0 : Int32) (y1 : Int32) (y2 : Int32) (y3 : Int32) (y4 : Int32) (y5 : Int32) (l_y0 : 0 ≤ y0.toInt) (u_y0 : y0.toInt ≤ 6) (l_y1 : 0 ≤ y1.toInt) (u_y1 : y1.toInt ≤ 12) (l_y2 : 0 ≤ y2.toInt) (u_y2 : y2.toInt ≤ 5) : mp_Ct E yX2_leastFallen cX2_leastFallen 5 (some FieldType.int) 3 0 0 73 [.ref a0] [(mp_ob2 a0 y0 y1 y2 y3 a1 a2 a3 a4 a5 y4 y5), (mp_arI E a1 0 432 f0), (mp_arI E a2 0 432 f1)] (fun v w' => ∃ r1 : Int32, v = some (.int r1) ∧ w' = [(mp_ob2 a0 y0 y1 y2 y3 a1 a2 a3 a4 a5 y4 y5), (mp_arI E a1 0 432 f0), (mp_arI E a2 0 432 f1)]) := by
  refine mp_met false (by decide) (by decide) (Nat.le_of_ble_eq_true rfl) (fun X hF hQ => ?_)
  have hF : mp_F E X (RX2, cX2_leastFallen, 5, (3, 0, 0, 73), (some FieldType.int), false) := hF
  let w1_ : va_W := [(mp_ob2 a0 y0 y1 y2 y3 a1 a2 a3 a4 a5 y4 y5), (mp_arI E a1 0 432 f0), (mp_arI E a2 0 432 f1)]
  show mp_W E X 5 0 [(0, .ref a0)] [] w1_ 0 0
  refine mp_run mp_k_cX2_leastFallen_ok hF mp_tabX2_ok [mp_i (.aload_n 0), mp_h (.getfield 95) [10, 0], mp_i (.istore_n 1), mp_i (.aload_n 0), mp_h (.getfield 95) [10, 0]] (by decide +kernel) ?_
  refine And.intro rfl (And.intro rfl ?_)
  refine And.intro rfl (And.intro rfl ?_)
  show mp_W E X 5 9 [(1, .int y3), (0, .ref a0)] [.int y3] w1_ 0 0
  refine mp_callS hF (As := [.int y3]) (rest := []) (wr := w1_) (bJ6_bitCount_0f7a4_115 E y3) mp_lkX2_112 [] [0, 1, 2] rfl rfl rfl rfl rfl ⟨(Nat.le_of_ble_eq_true rfl), (Nat.le_of_ble_eq_true rfl), (Nat.le_of_ble_eq_true rfl), (Nat.le_of_ble_eq_true rfl)⟩ (Nat.le_of_ble_eq_true rfl) (by first | exact mp_fd_ok mp_k_cX2_leastFallen_ok (by decide +kernel) | decide +kernel) (fun v_1 w_2 h_3 => ?_)
  obtain ⟨r_4, rfl, rfl⟩ := h_3
  show mp_W E X 5 12 [(1, .int y3), (0, .ref a0)] [.int r_4] w1_ 0 0
  refine mp_run mp_k_cX2_leastFallen_ok hF mp_tabX2_ok [mp_i (.istore_n 2), mp_c (.iconst 0) 0, mp_i (.istore_n 3)] (by decide +kernel) ?_
  show mp_W E X 5 15 [(3, .int 0), (2, .int r_4), (1, .int y3), (0, .ref a0)] [] w1_ 0 0
  have lp_9 : ∀ (d_10 : Nat) (i_5 : Int32) (i_6 : Int32) (i_7 : Int32), 0 ≤ i_5.toInt → y3.toInt - i_5.toInt ≤ (d_10 : Int) → mp_W E X 5 15 [(3, .int i_5), (2, .int i_6), (1, .int i_7), (0, .ref a0)] [] [(mp_ob2 a0 y0 y1 y2 y3 a1 a2 a3 a4 a5 y4 y5), (mp_arI E a1 0 432 f0), (mp_arI E a2 0 432 f1)] 0 0 := by
    intro d_10
    induction d_10 using Nat.strongRecOn with
    | ind d_10 ih_11 =>
      intro i_5 i_6 i_7 l_8 hm_12
      refine mp_run mp_k_cX2_leastFallen_ok hF mp_tabX2_ok [mp_i (.iload_n 3), mp_i (.aload_n 0), mp_h (.getfield 95) [10, 0], mp_h (.if_icmp .ge 52) [72]] (by decide +kernel) ?_
      refine And.intro rfl (And.intro rfl ?_)
      refine And.intro (fun c_13 => ?_) (fun c_13 => ?_)
      · have c_13 : y3.toInt ≤ i_5.toInt := c_13
        show mp_W E X 5 72 [(3, .int i_5), (2, .int i_6), (1, .int i_7), (0, .ref a0)] [] w1_ 0 0
        refine mp_run mp_k_cX2_leastFallen_ok hF mp_tabX2_ok [mp_i (.iload_n 1)] (by decide +kernel) ?_
        show mp_W E X 5 73 [(3, .int i_5), (2, .int i_6), (1, .int i_7), (0, .ref a0)] [.int i_7] w1_ 0 0
        exact mp_iret hF hQ rfl rfl (Nat.le_of_ble_eq_true rfl) (Nat.le_of_ble_eq_true rfl) [0, 1, 2] (w' := w1_) rfl rfl ⟨i_7, rfl, rfl⟩ (by first | exact mp_fd_ok mp_k_cX2_leastFallen_ok (by decide +kernel) | decide +kernel)
      · have c_13 : i_5.toInt < y3.toInt := c_13
        show mp_W E X 5 23 [(3, .int i_5), (2, .int i_6), (1, .int i_7), (0, .ref a0)] [] w1_ 0 0
        refine mp_run mp_k_cX2_leastFallen_ok hF mp_tabX2_ok [mp_i (.iload_n 3)] (by decide +kernel) ?_
        show mp_W E X 5 24 [(3, .int i_5), (2, .int i_6), (1, .int i_7), (0, .ref a0)] [.int i_5] w1_ 0 0
        refine mp_callS hF (As := [.int i_5]) (rest := []) (wr := w1_) (bJ6_bitCount_0f7a4_115 E i_5) mp_lkX2_112 [] [0, 1, 2] rfl rfl rfl rfl rfl ⟨(Nat.le_of_ble_eq_true rfl), (Nat.le_of_ble_eq_true rfl), (Nat.le_of_ble_eq_true rfl), (Nat.le_of_ble_eq_true rfl)⟩ (Nat.le_of_ble_eq_true rfl) (by first | exact mp_fd_ok mp_k_cX2_leastFallen_ok (by decide +kernel) | decide +kernel) (fun v_14 w_15 h_16 => ?_)
        obtain ⟨r_17, rfl, rfl⟩ := h_16
        show mp_W E X 5 27 [(3, .int i_5), (2, .int i_6), (1, .int i_7), (0, .ref a0)] [.int r_17] w1_ 0 0
        refine mp_run mp_k_cX2_leastFallen_ok hF mp_tabX2_ok [mp_i (.istore 4), mp_i (.iload_n 3), mp_i (.aload_n 0), mp_h (.getfield 95) [10, 0], mp_c (.iconst (-1)) (-1), mp_i .ixor, mp_i .iand, mp_h (.ifCond .ne 29) [66]] (by decide +kernel) ?_
        refine And.intro rfl (And.intro rfl ?_)
        intro z_18 h_19
        have e_20 := mp_bnd i_5
        have e_21 := mp_bnd y3
        intro z_23 h_24
        have e_25 := mp_bnd i_5
        have e_26 := mp_bnd y3
        refine And.intro (fun c_28 => ?_) (fun c_28 => ?_)
        · have c_28 : z_23.toInt ≠ 0 := c_28
          show mp_W E X 5 66 [(4, .int r_17), (3, .int i_5), (2, .int i_6), (1, .int i_7), (0, .ref a0)] [] w1_ 0 0
          refine mp_run mp_k_cX2_leastFallen_ok hF mp_tabX2_ok [mp_c (.iinc 3 1) 1, mp_h (.goto (-54)) [15]] (by decide +kernel) ?_
          intro z_29 h_30
          have e_31 := mp_bnd i_5
          have e_32 := mp_bnd i_5
          have e_33 := mp_bnd y3
          have e_34 : z_29.toInt = i_5.toInt + 1 := mp_add (a := i_5.toInt) (b := 1) h_30 rfl (by decide) (by (first | exact mp_o2 l_8 | omega)) (by (first | exact mp_o596 c_13 e_21 | omega))
          show mp_W E X 5 15 [(3, .int z_29), (4, .int r_17), (2, .int i_6), (1, .int i_7), (0, .ref a0)] [] w1_ 0 0
          exact mp_sub [0, 2, 3, 4] rfl [0, 1, 2] rfl rfl (ih_11 (d_10 - 1) (by (first | exact mp_o72 hm_12 c_13 | omega)) z_29 i_6 i_7 (by (first | exact mp_o51 l_8 e_34 | omega)) (by (first | exact mp_o77 hm_12 e_34 | omega)))
        · have c_28 : z_23.toInt = 0 := (congrArg Int32.toInt c_28)
          show mp_W E X 5 40 [(4, .int r_17), (3, .int i_5), (2, .int i_6), (1, .int i_7), (0, .ref a0)] [] w1_ 0 0
          refine mp_run mp_k_cX2_leastFallen_ok hF mp_tabX2_ok [mp_i (.iload 4), mp_i (.iload_n 2), mp_h (.if_icmp .ge 23) [66]] (by decide +kernel) ?_
          refine And.intro (fun c_35 => ?_) (fun c_35 => ?_)
          · have c_35 : i_6.toInt ≤ r_17.toInt := c_35
            show mp_W E X 5 66 [(4, .int r_17), (3, .int i_5), (2, .int i_6), (1, .int i_7), (0, .ref a0)] [] w1_ 0 0
            refine mp_run mp_k_cX2_leastFallen_ok hF mp_tabX2_ok [mp_c (.iinc 3 1) 1, mp_h (.goto (-54)) [15]] (by decide +kernel) ?_
            intro z_36 h_37
            have e_38 := mp_bnd i_5
            have e_39 := mp_bnd i_5
            have e_40 := mp_bnd y3
            have e_41 : z_36.toInt = i_5.toInt + 1 := mp_add (a := i_5.toInt) (b := 1) h_37 rfl (by decide) (by (first | exact mp_o2 l_8 | omega)) (by (first | exact mp_o596 c_13 e_21 | omega))
            show mp_W E X 5 15 [(3, .int z_36), (4, .int r_17), (2, .int i_6), (1, .int i_7), (0, .ref a0)] [] w1_ 0 0
            exact mp_sub [0, 2, 3, 4] rfl [0, 1, 2] rfl rfl (ih_11 (d_10 - 1) (by (first | exact mp_o72 hm_12 c_13 | omega)) z_36 i_6 i_7 (by (first | exact mp_o51 l_8 e_41 | omega)) (by (first | exact mp_o77 hm_12 e_41 | omega)))
          · have c_35 : r_17.toInt < i_6.toInt := c_35
            show mp_W E X 5 46 [(4, .int r_17), (3, .int i_5), (2, .int i_6), (1, .int i_7), (0, .ref a0)] [] w1_ 0 0
            refine mp_run mp_k_cX2_leastFallen_ok hF mp_tabX2_ok [mp_i (.aload_n 0), mp_i (.aload_n 0), mp_h (.getfield 95) [10, 0], mp_i (.iload_n 3), mp_c (.iconst (-1)) (-1), mp_i .ixor, mp_i .iand] (by decide +kernel) ?_
            refine And.intro rfl (And.intro rfl ?_)
            intro z_42 h_43
            have e_44 := mp_bnd i_5
            have e_45 := mp_bnd y3
            intro z_47 h_48
            have e_49 := mp_bnd i_5
            have e_50 := mp_bnd y3
            show mp_W E X 5 55 [(4, .int r_17), (3, .int i_5), (2, .int i_6), (1, .int i_7), (0, .ref a0)] [.int z_47, .ref a0] w1_ 0 0
            refine mp_callV hF (As := [.int z_47]) (rest := []) (wr := []) (bX2_canKeep_117 E a0 a1 a2 a3 a4 a5 f0 f1 y0 y1 y2 y3 y4 y5 z_47 l_y0 u_y0 l_y1 u_y1 l_y2 u_y2) mp_lkX2_118 0 rfl [0, 1, 2] [] rfl rfl rfl rfl rfl ⟨(Nat.le_of_ble_eq_true rfl), (Nat.le_of_ble_eq_true rfl), (Nat.le_of_ble_eq_true rfl), (Nat.le_of_ble_eq_true rfl)⟩ (Nat.le_of_ble_eq_true rfl) (by first | exact mp_fd_ok mp_k_cX2_leastFallen_ok (by decide +kernel) | decide +kernel) (fun v_52 w_53 h_54 => ?_)
            rcases h_54 with ⟨rfl, rfl⟩ | ⟨rfl, rfl⟩
            · skip
              show mp_W E X 5 58 [(4, .int r_17), (3, .int i_5), (2, .int i_6), (1, .int i_7), (0, .ref a0)] [.int 0] w1_ 0 0
              refine mp_run mp_k_cX2_leastFallen_ok hF mp_tabX2_ok [mp_h (.ifCond .eq 8) [66]] (by decide +kernel) ?_
              refine And.intro (fun _ => ?_) (fun c_55 => absurd c_55 (by decide))
              show mp_W E X 5 66 [(4, .int r_17), (3, .int i_5), (2, .int i_6), (1, .int i_7), (0, .ref a0)] [] w1_ 0 0
              refine mp_run mp_k_cX2_leastFallen_ok hF mp_tabX2_ok [mp_c (.iinc 3 1) 1, mp_h (.goto (-54)) [15]] (by decide +kernel) ?_
              intro z_56 h_57
              have e_58 := mp_bnd i_5
              have e_59 := mp_bnd i_5
              have e_60 := mp_bnd y3
              have e_61 : z_56.toInt = i_5.toInt + 1 := mp_add (a := i_5.toInt) (b := 1) h_57 rfl (by decide) (by (first | exact mp_o2 l_8 | omega)) (by (first | exact mp_o596 c_13 e_21 | omega))
              show mp_W E X 5 15 [(3, .int z_56), (4, .int r_17), (2, .int i_6), (1, .int i_7), (0, .ref a0)] [] w1_ 0 0
              exact mp_sub [0, 2, 3, 4] rfl [0, 1, 2] rfl rfl (ih_11 (d_10 - 1) (by omega) z_56 i_6 i_7 (by omega) (by omega))
            · skip
              show mp_W E X 5 58 [(4, .int r_17), (3, .int i_5), (2, .int i_6), (1, .int i_7), (0, .ref a0)] [.int 1] w1_ 0 0
              refine mp_run mp_k_cX2_leastFallen_ok hF mp_tabX2_ok [mp_h (.ifCond .eq 8) [66]] (by decide +kernel) ?_
              refine And.intro (fun c_62 => absurd c_62 (by decide)) (fun _ => ?_)
              show mp_W E X 5 61 [(4, .int r_17), (3, .int i_5), (2, .int i_6), (1, .int i_7), (0, .ref a0)] [] w1_ 0 0
              refine mp_run mp_k_cX2_leastFallen_ok hF mp_tabX2_ok [mp_i (.iload_n 3), mp_i (.istore_n 1), mp_i (.iload 4), mp_i (.istore_n 2), mp_c (.iinc 3 1) 1, mp_h (.goto (-54)) [15]] (by decide +kernel) ?_
              intro z_63 h_64
              have e_65 := mp_bnd i_5
              have e_66 := mp_bnd i_5
              have e_67 := mp_bnd y3
              have e_68 : z_63.toInt = i_5.toInt + 1 := mp_add (a := i_5.toInt) (b := 1) h_64 rfl (by decide) (by (first | exact mp_o2 l_8 | omega)) (by (first | exact mp_o596 c_13 e_21 | omega))
              show mp_W E X 5 15 [(3, .int z_63), (2, .int r_17), (1, .int i_5), (4, .int r_17), (0, .ref a0)] [] w1_ 0 0
              exact mp_sub [0, 1, 2, 4] rfl [0, 1, 2] rfl rfl (ih_11 (d_10 - 1) (by omega) z_63 r_17 i_5 (by omega) (by omega))
  exact mp_sub [0, 1, 2, 3] rfl [0, 1, 2] rfl rfl (lp_9 _ 0 r_4 y3 (by decide) (Int.self_le_toNat _))
set_option maxHeartbeats 4000000 in
set_option maxRecDepth 100000 in
theorem bX9_lets_119 (E : mp_E) (a0 a1 a2 a3 a4 a5 a6 a7 a8 a9 a10 a11 a12 a13 a14 a15 a16 a17 a18 a19 a20 a21 a22 a23 a24 a25 a26 a27 a28 a29 a30 a31 a32 a33 : Nat) (f0 : Nat → Int32) (f1 : Nat → Int64) (f2 : Nat → Int32) (f3 : Nat → Int32) (f4 : Nat → Int32) (f5 : Nat → Int32) (f6 : Nat → Int32) (f7 : Nat → Int32) (f8 : Nat → Int64) (f9 : Nat → Int32) (f10 : Nat → Int32) (f11 : Nat → Int32) (f12 : Nat → Int32) (y0 : Int32) (y1 : Int32) (y2 : Int32) (y3 : Int32) (y4 : Int32) (y5 : Int32) (y6 : Int32) (y7 : Int32) (y8 : Int32) (y9 : Int32) (y10 : Int32) (y11 : Int32) (y12 : Int32) (x0 : Int32) (x1 : Int32) (p0 : mp_all f0 36 0 20) (p1 : mp_all f3 10 0 5) (p2 : mp_all f4 10 0 5) (p3 : mp_all f5 10 0 99) (p4 : mp_all f6 10 0 1) (p5 : mp_all f7 6 0 5) (l_y0 : 0 ≤ y0.toInt) (u_y0 : y0.toInt ≤ 99) (l_y2 : 0 ≤ y2.toInt) (u_y2 : y2.toInt ≤ 6) (l_y3 : 0 ≤ y3.toInt) (u_y3 : y3.toInt ≤ 99) (l_y4 : 0 ≤ y4.toInt) (u_y4 : y4.toInt ≤ 6) (l_y5 : 0 ≤ y5.toInt) (u_y5 : y5.toInt ≤ 10) (l_y6 : 0 ≤ y6.toInt) (u_y6 : y6.toInt ≤ 60) (l_y7 : 0 ≤ y7.toInt) (u_y7 : y7.toInt ≤ 6) (l_y8 : 0 ≤ y8.toInt) (u_y8 : y8.toInt ≤ 12) (l_y9 : 0 ≤ y9.toInt) (u_y9 : y9.toInt ≤ 5) : mp_Ct E yX9_lets cX9_lets 3 (some FieldType.int) 5 0 0 114 [.ref a0, .int x0, .int x1] [(mp_ob9 a0 a17 a1 a18 a19 a13 a20 a21 a22 a23), (mp_ob0 a1 a2 y0 a10 a24 a25 a11 a12 a26), (mp_ob7 a2 y1 y2 y3 y4 y5 y6 a3 a4 a27 a5 a28 a6 a7 a29 a8 a9 a30 a31), (mp_arI E a3 0 36 f0), (mp_arL E a4 12 f1), (mp_arI E a5 0 6 f2), (mp_arI E a6 0 10 f3), (mp_arI E a7 0 10 f4), (mp_arI E a8 0 10 f5), (mp_arI E a9 0 10 f6), (mp_arI E a10 0 6 f7), (mp_arL E a11 20 f8), (mp_arI E a12 0 10 f9), (mp_ob2 a13 y7 y8 y9 y10 a14 a15 a16 a32 a33 y11 y12), (mp_arI E a14 0 432 f10), (mp_arI E a15 0 432 f11), (mp_arI E a16 0 72 f12)] (fun v w' => ∃ h1 : Nat → Int32, ∃ r2 : Int32, ∃ r3 : Int32, ∃ r4 : Int32, ∃ r5 : Int32, ∃ h6 : Nat → Int32, ∃ h7 : Nat → Int32, ∃ h8 : Nat → Int32, ∃ r9 : Int32, v = some (.int r9) ∧ 0 ≤ r2.toInt ∧ r2.toInt ≤ 6 ∧ 0 ≤ r3.toInt ∧ r3.toInt ≤ 12 ∧ 0 ≤ r4.toInt ∧ r4.toInt ≤ 5 ∧ w' = [(mp_ob9 a0 a17 a1 a18 a19 a13 a20 a21 a22 a23), (mp_ob0 a1 a2 y0 a10 a24 a25 a11 a12 a26), (mp_ob7 a2 y1 y2 y3 y4 y5 y6 a3 a4 a27 a5 a28 a6 a7 a29 a8 a9 a30 a31), (mp_arI E a3 0 36 f0), (mp_arL E a4 12 f1), (mp_arI E a5 0 6 f2), (mp_arI E a6 0 10 f3), (mp_arI E a7 0 10 f4), (mp_arI E a8 0 10 f5), (mp_arI E a9 0 10 f6), (mp_arI E a10 0 6 f7), (mp_arL E a11 20 f8), (mp_arI E a12 0 10 h1), (mp_ob2 a13 r2 r3 r4 r5 a14 a15 a16 a32 a33 y11 y12), (mp_arI E a14 0 432 h6), (mp_arI E a15 0 432 h7), (mp_arI E a16 0 72 h8)]) := by
  refine mp_met false (by decide) (by decide) (Nat.le_of_ble_eq_true rfl) (fun X hF hQ => ?_)
  have hF : mp_F E X (RX9, cX9_lets, 3, (5, 0, 0, 114), (some FieldType.int), false) := hF
  let w1_ : va_W := [(mp_ob9 a0 a17 a1 a18 a19 a13 a20 a21 a22 a23), (mp_ob0 a1 a2 y0 a10 a24 a25 a11 a12 a26), (mp_ob7 a2 y1 y2 y3 y4 y5 y6 a3 a4 a27 a5 a28 a6 a7 a29 a8 a9 a30 a31), (mp_arI E a3 0 36 f0), (mp_arL E a4 12 f1), (mp_arI E a5 0 6 f2), (mp_arI E a6 0 10 f3), (mp_arI E a7 0 10 f4), (mp_arI E a8 0 10 f5), (mp_arI E a9 0 10 f6), (mp_arI E a10 0 6 f7), (mp_arL E a11 20 f8), (mp_arI E a12 0 10 f9), (mp_ob2 a13 y7 y8 y9 y10 a14 a15 a16 a32 a33 y11 y12), (mp_arI E a14 0 432 f10), (mp_arI E a15 0 432 f11), (mp_arI E a16 0 72 f12)]
  show mp_W E X 3 0 [(0, .ref a0), (1, .int x0), (2, .int x1)] [] w1_ 0 0
  refine mp_run mp_k_cX9_lets_ok hF mp_tabX9_ok [mp_i (.aload_n 0), mp_i (.iload_n 1), mp_i (.iload_n 2)] (by decide +kernel) ?_
  show mp_W E X 3 3 [(0, .ref a0), (1, .int x0), (2, .int x1)] [.int x1, .int x0, .ref a0] w1_ 0 0
  refine mp_callV hF (As := [.int x0, .int x1]) (rest := []) (wr := [(mp_arI E a3 0 36 f0), (mp_arL E a4 12 f1), (mp_arI E a5 0 6 f2), (mp_arI E a6 0 10 f3), (mp_arI E a7 0 10 f4), (mp_arI E a8 0 10 f5), (mp_arI E a9 0 10 f6), (mp_arI E a10 0 6 f7), (mp_arL E a11 20 f8), (mp_arI E a12 0 10 f9), (mp_ob2 a13 y7 y8 y9 y10 a14 a15 a16 a32 a33 y11 y12), (mp_arI E a14 0 432 f10), (mp_arI E a15 0 432 f11), (mp_arI E a16 0 72 f12)]) (bX9_canPlan_101 E a0 a1 a2 a17 a18 a19 a13 a20 a21 a22 a23 a10 a24 a25 a11 a12 a26 a3 a4 a27 a5 a28 a6 a7 a29 a8 a9 a30 a31 y0 y1 y2 y3 y4 y5 y6 x0 x1 l_y0 u_y0 l_y2 u_y2 l_y3 u_y3 l_y4 u_y4 l_y5 u_y5 l_y6 u_y6) mp_lkX9_223 0 rfl [0, 1, 2] [3, 4, 5, 6, 7, 8, 9, 10, 11, 12, 13, 14, 15, 16] rfl rfl rfl rfl rfl ⟨(Nat.le_of_ble_eq_true rfl), (Nat.le_of_ble_eq_true rfl), (Nat.le_of_ble_eq_true rfl), (Nat.le_of_ble_eq_true rfl)⟩ (Nat.le_of_ble_eq_true rfl) (by first | exact mp_fd_ok mp_k_cX9_lets_ok (by decide +kernel) | decide +kernel) (fun v_1 w_2 h_3 => ?_)
  refine h_3.elim (fun q_9 => ?_) (fun q_10 => ?_)
  · skip
    refine q_9.elim fun e_11 e_12 => ?_
    clear h_3 q_9
    subst e_11
    subst e_12
    let w2_ : va_W := [(mp_arI E a3 0 36 f0), (mp_arL E a4 12 f1), (mp_arI E a5 0 6 f2), (mp_arI E a6 0 10 f3), (mp_arI E a7 0 10 f4), (mp_arI E a8 0 10 f5), (mp_arI E a9 0 10 f6), (mp_arI E a10 0 6 f7), (mp_arL E a11 20 f8), (mp_arI E a12 0 10 f9), (mp_ob2 a13 y7 y8 y9 y10 a14 a15 a16 a32 a33 y11 y12), (mp_arI E a14 0 432 f10), (mp_arI E a15 0 432 f11), (mp_arI E a16 0 72 f12), (mp_ob9 a0 a17 a1 a18 a19 a13 a20 a21 a22 a23), (mp_ob0 a1 a2 y0 a10 a24 a25 a11 a12 a26), (mp_ob7 a2 y1 y2 y3 y4 y5 y6 a3 a4 a27 a5 a28 a6 a7 a29 a8 a9 a30 a31)]
    show mp_W E X 3 6 [(0, .ref a0), (1, .int x0), (2, .int x1)] [.int 0] w2_ 0 0
    refine mp_run mp_k_cX9_lets_ok hF mp_tabX9_ok [mp_h (.ifCond .ne 6) [12]] (by decide +kernel) ?_
    refine And.intro (fun c_13 => absurd c_13 (by decide)) (fun _ => ?_)
    show mp_W E X 3 9 [(0, .ref a0), (1, .int x0), (2, .int x1)] [] w2_ 0 0
    refine mp_run mp_k_cX9_lets_ok hF mp_tabX9_ok [mp_c (.bipush (-2)) (-2)] (by decide +kernel) ?_
    show mp_W E X 3 11 [(0, .ref a0), (1, .int x0), (2, .int x1)] [.int (-2)] w2_ 0 0
    exact mp_iret hF hQ rfl rfl (Nat.le_of_ble_eq_true rfl) (Nat.le_of_ble_eq_true rfl) [14, 15, 16, 0, 1, 2, 3, 4, 5, 6, 7, 8, 9, 10, 11, 12, 13] (w' := w1_) rfl rfl ⟨f9, y7, y8, y9, y10, f10, f11, f12, (-2), rfl, l_y7, u_y7, l_y8, u_y8, l_y9, u_y9, rfl⟩ (by first | exact mp_fd_ok mp_k_cX9_lets_ok (by decide +kernel) | decide +kernel)
  · skip
    refine q_10.elim fun e_14 q_15 => q_15.elim fun c_4 q_16 => q_16.elim fun c_5 q_17 => q_17.elim fun c_6 q_18 => q_18.elim fun c_7 q_19 => q_19.elim fun c_8 e_20 => ?_
    clear h_3 q_10 q_15 q_16 q_17 q_18 q_19
    subst e_14
    subst e_20
    have c_4 : 0 ≤ x0.toInt := c_4
    have c_5 : x0.toInt < y4.toInt := c_5
    have c_6 : 1 ≤ x1.toInt := c_6
    have c_7 : x1.toInt ≤ 12 := c_7
    have c_8 : y0.toInt + x1.toInt ≤ 99 := c_8
    let w3_ : va_W := [(mp_arI E a3 0 36 f0), (mp_arL E a4 12 f1), (mp_arI E a5 0 6 f2), (mp_arI E a6 0 10 f3), (mp_arI E a7 0 10 f4), (mp_arI E a8 0 10 f5), (mp_arI E a9 0 10 f6), (mp_arI E a10 0 6 f7), (mp_arL E a11 20 f8), (mp_arI E a12 0 10 f9), (mp_ob2 a13 y7 y8 y9 y10 a14 a15 a16 a32 a33 y11 y12), (mp_arI E a14 0 432 f10), (mp_arI E a15 0 432 f11), (mp_arI E a16 0 72 f12), (mp_ob9 a0 a17 a1 a18 a19 a13 a20 a21 a22 a23), (mp_ob0 a1 a2 y0 a10 a24 a25 a11 a12 a26), (mp_ob7 a2 y1 y2 y3 y4 y5 y6 a3 a4 a27 a5 a28 a6 a7 a29 a8 a9 a30 a31)]
    show mp_W E X 3 6 [(0, .ref a0), (1, .int x0), (2, .int x1)] [.int 1] w3_ 0 0
    refine mp_run mp_k_cX9_lets_ok hF mp_tabX9_ok [mp_h (.ifCond .ne 6) [12]] (by decide +kernel) ?_
    refine And.intro (fun _ => ?_) (fun c_21 => absurd c_21 (by decide))
    show mp_W E X 3 12 [(0, .ref a0), (1, .int x0), (2, .int x1)] [] w3_ 0 0
    refine mp_run mp_k_cX9_lets_ok hF mp_tabX9_ok [mp_i (.aload_n 0), mp_h (.getfield 39) [40, 14], mp_i (.aload_n 0), mp_h (.getfield 19) [37, 14], mp_i (.iload_n 1), mp_i (.iload_n 2)] (by decide +kernel) ?_
    refine And.intro rfl (And.intro rfl ?_)
    refine And.intro rfl (And.intro rfl ?_)
    show mp_W E X 3 22 [(0, .ref a0), (1, .int x0), (2, .int x1)] [.int x1, .int x0, .ref a1, .ref a13] w3_ 0 0
    refine mp_callV hF (As := [.ref a1, .int x0, .int x1]) (rest := []) (wr := [(mp_ob9 a0 a17 a1 a18 a19 a13 a20 a21 a22 a23)]) (bX2_prepare_107 E a13 a1 a14 a15 a16 a2 a3 a4 a5 a6 a7 a8 a9 a10 a11 a12 a32 a33 a24 a25 a26 a27 a28 a29 a30 a31 f10 f11 f12 f0 f1 f2 f3 f4 f5 f6 f7 f8 f9 y7 y8 y9 y10 y11 y12 y0 y1 y2 y3 y4 y5 y6 x0 x1 p0 p1 p2 p3 p4 p5 (by (first | exact c_4 | omega)) (by (first | exact mp_o398 u_y4 c_5 | omega)) (by (first | exact mp_o254 c_6 | omega)) (by (first | exact c_7 | omega)) l_y7 u_y7 l_y8 u_y8 l_y9 u_y9 l_y0 u_y0 l_y2 u_y2 l_y3 u_y3 l_y4 u_y4 l_y5 u_y5 l_y6 u_y6 (by first | (first | exact c_8 | omega) | (show y0.toInt + x1.toInt ≤ 99; omega))) mp_lkX9_226 10 rfl [10, 11, 12, 13, 15, 16, 0, 1, 2, 3, 4, 5, 6, 7, 8, 9] [14] rfl rfl rfl rfl rfl ⟨(Nat.le_of_ble_eq_true rfl), (Nat.le_of_ble_eq_true rfl), (Nat.le_of_ble_eq_true rfl), (Nat.le_of_ble_eq_true rfl)⟩ (Nat.le_of_ble_eq_true rfl) (by first | exact mp_fd_ok mp_k_cX9_lets_ok (by decide +kernel) | decide +kernel) (fun v_22 w_23 h_24 => ?_)
    refine h_24.elim fun r_25 q_35 => q_35.elim fun r_26 q_36 => q_36.elim fun g_27 q_37 => q_37.elim fun g_28 q_38 => q_38.elim fun g_29 q_39 => q_39.elim fun g_30 q_40 => q_40.elim fun e_41 q_42 => q_42.elim fun l_31 q_43 => q_43.elim fun u_32 q_44 => q_44.elim fun l_33 q_45 => q_45.elim fun u_34 e_46 => ?_
    clear h_24 q_35 q_36 q_37 q_38 q_39 q_40 q_42 q_43 q_44 q_45
    subst e_41
    subst e_46
    let w4_ : va_W := [(mp_ob9 a0 a17 a1 a18 a19 a13 a20 a21 a22 a23), (mp_ob2 a13 y2 x1 r_25 r_26 a14 a15 a16 a32 a33 y11 y12), (mp_arI E a14 0 432 g_27), (mp_arI E a15 0 432 g_28), (mp_arI E a16 0 72 g_29), (mp_ob0 a1 a2 y0 a10 a24 a25 a11 a12 a26), (mp_ob7 a2 y1 y2 y3 y4 y5 y6 a3 a4 a27 a5 a28 a6 a7 a29 a8 a9 a30 a31), (mp_arI E a3 0 36 f0), (mp_arL E a4 12 f1), (mp_arI E a5 0 6 f2), (mp_arI E a6 0 10 f3), (mp_arI E a7 0 10 f4), (mp_arI E a8 0 10 f5), (mp_arI E a9 0 10 f6), (mp_arI E a10 0 6 f7), (mp_arL E a11 20 f8), (mp_arI E a12 0 10 g_30)]
    show mp_W E X 3 25 [(0, .ref a0), (1, .int x0), (2, .int x1)] [] w4_ 0 0
    refine mp_run mp_k_cX9_lets_ok hF mp_tabX9_ok [mp_i (.aload_n 0), mp_h (.getfield 39) [40, 0]] (by decide +kernel) ?_
    refine And.intro rfl (And.intro rfl ?_)
    show mp_W E X 3 29 [(0, .ref a0), (1, .int x0), (2, .int x1)] [.ref a13] w4_ 0 0
    refine mp_callV hF (As := []) (rest := []) (wr := [(mp_ob9 a0 a17 a1 a18 a19 a13 a20 a21 a22 a23), (mp_arI E a16 0 72 g_29), (mp_ob0 a1 a2 y0 a10 a24 a25 a11 a12 a26), (mp_ob7 a2 y1 y2 y3 y4 y5 y6 a3 a4 a27 a5 a28 a6 a7 a29 a8 a9 a30 a31), (mp_arI E a3 0 36 f0), (mp_arL E a4 12 f1), (mp_arI E a5 0 6 f2), (mp_arI E a6 0 10 f3), (mp_arI E a7 0 10 f4), (mp_arI E a8 0 10 f5), (mp_arI E a9 0 10 f6), (mp_arI E a10 0 6 f7), (mp_arL E a11 20 f8), (mp_arI E a12 0 10 g_30)]) (bX2_leastFallen_118 E a13 a14 a15 a16 a32 a33 g_27 g_28 y2 x1 r_25 r_26 y11 y12 l_y2 u_y2 (by (first | exact mp_o254 c_6 | omega)) (by (first | exact c_7 | omega)) l_31 u_32) mp_lkX9_236 1 rfl [1, 2, 3] [0, 4, 5, 6, 7, 8, 9, 10, 11, 12, 13, 14, 15, 16] rfl rfl rfl rfl rfl ⟨(Nat.le_of_ble_eq_true rfl), (Nat.le_of_ble_eq_true rfl), (Nat.le_of_ble_eq_true rfl), (Nat.le_of_ble_eq_true rfl)⟩ (Nat.le_of_ble_eq_true rfl) (by first | exact mp_fd_ok mp_k_cX9_lets_ok (by decide +kernel) | decide +kernel) (fun v_47 w_48 h_49 => ?_)
    obtain ⟨r_50, rfl, rfl⟩ := h_49
    let w5_ : va_W := [(mp_ob9 a0 a17 a1 a18 a19 a13 a20 a21 a22 a23), (mp_arI E a16 0 72 g_29), (mp_ob0 a1 a2 y0 a10 a24 a25 a11 a12 a26), (mp_ob7 a2 y1 y2 y3 y4 y5 y6 a3 a4 a27 a5 a28 a6 a7 a29 a8 a9 a30 a31), (mp_arI E a3 0 36 f0), (mp_arL E a4 12 f1), (mp_arI E a5 0 6 f2), (mp_arI E a6 0 10 f3), (mp_arI E a7 0 10 f4), (mp_arI E a8 0 10 f5), (mp_arI E a9 0 10 f6), (mp_arI E a10 0 6 f7), (mp_arL E a11 20 f8), (mp_arI E a12 0 10 g_30), (mp_ob2 a13 y2 x1 r_25 r_26 a14 a15 a16 a32 a33 y11 y12), (mp_arI E a14 0 432 g_27), (mp_arI E a15 0 432 g_28)]
    show mp_W E X 3 32 [(0, .ref a0), (1, .int x0), (2, .int x1)] [.int r_50] w5_ 0 0
    refine mp_callS hF (As := [.int r_50]) (rest := []) (wr := w5_) (bJ6_bitCount_0f7a4_115 E r_50) mp_lkX9_239 [] [0, 1, 2, 3, 4, 5, 6, 7, 8, 9, 10, 11, 12, 13, 14, 15, 16] rfl rfl rfl rfl rfl ⟨(Nat.le_of_ble_eq_true rfl), (Nat.le_of_ble_eq_true rfl), (Nat.le_of_ble_eq_true rfl), (Nat.le_of_ble_eq_true rfl)⟩ (Nat.le_of_ble_eq_true rfl) (by first | exact mp_fd_ok mp_k_cX9_lets_ok (by decide +kernel) | decide +kernel) (fun v_51 w_52 h_53 => ?_)
    obtain ⟨r_54, rfl, rfl⟩ := h_53
    show mp_W E X 3 35 [(0, .ref a0), (1, .int x0), (2, .int x1)] [.int r_54] w5_ 0 0
    exact mp_iret hF hQ rfl rfl (Nat.le_of_ble_eq_true rfl) (Nat.le_of_ble_eq_true rfl) [0, 2, 3, 4, 5, 6, 7, 8, 9, 10, 11, 12, 13, 14, 15, 16, 1] (w' := [(mp_ob9 a0 a17 a1 a18 a19 a13 a20 a21 a22 a23), (mp_ob0 a1 a2 y0 a10 a24 a25 a11 a12 a26), (mp_ob7 a2 y1 y2 y3 y4 y5 y6 a3 a4 a27 a5 a28 a6 a7 a29 a8 a9 a30 a31), (mp_arI E a3 0 36 f0), (mp_arL E a4 12 f1), (mp_arI E a5 0 6 f2), (mp_arI E a6 0 10 f3), (mp_arI E a7 0 10 f4), (mp_arI E a8 0 10 f5), (mp_arI E a9 0 10 f6), (mp_arI E a10 0 6 f7), (mp_arL E a11 20 f8), (mp_arI E a12 0 10 g_30), (mp_ob2 a13 y2 x1 r_25 r_26 a14 a15 a16 a32 a33 y11 y12), (mp_arI E a14 0 432 g_27), (mp_arI E a15 0 432 g_28), (mp_arI E a16 0 72 g_29)]) rfl rfl ⟨g_30, y2, x1, r_25, r_26, g_27, g_28, g_29, r_54, rfl, l_y2, u_y2, (by (first | exact mp_o254 c_6 | omega)), (by (first | exact c_7 | omega)), l_31, u_32, rfl⟩ (by first | exact mp_fd_ok mp_k_cX9_lets_ok (by decide +kernel) | decide +kernel)
set_option maxHeartbeats 4000000 in
set_option maxRecDepth 100000 in
theorem bX9_fallen_120 (E : mp_E) (a0 a1 a2 a3 a4 a5 a6 a7 a8 a9 a10 a11 a12 a13 a14 a15 a16 a17 a18 a19 a20 a21 a22 a23 a24 a25 a26 a27 a28 a29 a30 a31 a32 a33 : Nat) (f0 : Nat → Int32) (f1 : Nat → Int64) (f2 : Nat → Int32) (f3 : Nat → Int32) (f4 : Nat → Int32) (f5 : Nat → Int32) (f6 : Nat → Int32) (f7 : Nat → Int32) (f8 : Nat → Int64) (f9 : Nat → Int32) (f10 : Nat → Int32) (f11 : Nat → Int32) (f12 : Nat → Int32) (y0 : Int32) (y1 : Int32) (y2 : Int32) (y3 : Int32) (y4 : Int32) (y5 : Int32) (y6 : Int32) (y7 : Int32) (y8 : Int32) (y9 : Int32) (y10 : Int32) (y11 : Int32) (y12 : Int32) (x0 : Int32) (x1 : Int32) (p0 : mp_all f0 36 0 20) (p1 : mp_all f3 10 0 5) (p2 : mp_all f4 10 0 5) (p3 : mp_all f5 10 0 99) (p4 : mp_all f6 10 0 1) (p5 : mp_all f7 6 0 5) (l_y0 : 0 ≤ y0.toInt) (u_y0 : y0.toInt ≤ 99) (l_y2 : 0 ≤ y2.toInt) (u_y2 : y2.toInt ≤ 6) (l_y3 : 0 ≤ y3.toInt) (u_y3 : y3.toInt ≤ 99) (l_y4 : 0 ≤ y4.toInt) (u_y4 : y4.toInt ≤ 6) (l_y5 : 0 ≤ y5.toInt) (u_y5 : y5.toInt ≤ 10) (l_y6 : 0 ≤ y6.toInt) (u_y6 : y6.toInt ≤ 60) (l_y7 : 0 ≤ y7.toInt) (u_y7 : y7.toInt ≤ 6) (l_y8 : 0 ≤ y8.toInt) (u_y8 : y8.toInt ≤ 12) (l_y9 : 0 ≤ y9.toInt) (u_y9 : y9.toInt ≤ 5) : mp_Ct E yX9_fallen cX9_fallen 3 (some FieldType.int) 5 0 0 114 [.ref a0, .int x0, .int x1] [(mp_ob9 a0 a17 a1 a18 a19 a13 a20 a21 a22 a23), (mp_ob0 a1 a2 y0 a10 a24 a25 a11 a12 a26), (mp_ob7 a2 y1 y2 y3 y4 y5 y6 a3 a4 a27 a5 a28 a6 a7 a29 a8 a9 a30 a31), (mp_arI E a3 0 36 f0), (mp_arL E a4 12 f1), (mp_arI E a5 0 6 f2), (mp_arI E a6 0 10 f3), (mp_arI E a7 0 10 f4), (mp_arI E a8 0 10 f5), (mp_arI E a9 0 10 f6), (mp_arI E a10 0 6 f7), (mp_arL E a11 20 f8), (mp_arI E a12 0 10 f9), (mp_ob2 a13 y7 y8 y9 y10 a14 a15 a16 a32 a33 y11 y12), (mp_arI E a14 0 432 f10), (mp_arI E a15 0 432 f11), (mp_arI E a16 0 72 f12)] (fun v w' => ∃ h1 : Nat → Int32, ∃ r2 : Int32, ∃ r3 : Int32, ∃ r4 : Int32, ∃ r5 : Int32, ∃ h6 : Nat → Int32, ∃ h7 : Nat → Int32, ∃ h8 : Nat → Int32, ∃ r9 : Int32, v = some (.int r9) ∧ 0 ≤ r2.toInt ∧ r2.toInt ≤ 6 ∧ 0 ≤ r3.toInt ∧ r3.toInt ≤ 12 ∧ 0 ≤ r4.toInt ∧ r4.toInt ≤ 5 ∧ w' = [(mp_ob9 a0 a17 a1 a18 a19 a13 a20 a21 a22 a23), (mp_ob0 a1 a2 y0 a10 a24 a25 a11 a12 a26), (mp_ob7 a2 y1 y2 y3 y4 y5 y6 a3 a4 a27 a5 a28 a6 a7 a29 a8 a9 a30 a31), (mp_arI E a3 0 36 f0), (mp_arL E a4 12 f1), (mp_arI E a5 0 6 f2), (mp_arI E a6 0 10 f3), (mp_arI E a7 0 10 f4), (mp_arI E a8 0 10 f5), (mp_arI E a9 0 10 f6), (mp_arI E a10 0 6 f7), (mp_arL E a11 20 f8), (mp_arI E a12 0 10 h1), (mp_ob2 a13 r2 r3 r4 r5 a14 a15 a16 a32 a33 y11 y12), (mp_arI E a14 0 432 h6), (mp_arI E a15 0 432 h7), (mp_arI E a16 0 72 h8)]) := by
  refine mp_met false (by decide) (by decide) (Nat.le_of_ble_eq_true rfl) (fun X hF hQ => ?_)
  have hF : mp_F E X (RX9, cX9_fallen, 3, (5, 0, 0, 114), (some FieldType.int), false) := hF
  let w1_ : va_W := [(mp_ob9 a0 a17 a1 a18 a19 a13 a20 a21 a22 a23), (mp_ob0 a1 a2 y0 a10 a24 a25 a11 a12 a26), (mp_ob7 a2 y1 y2 y3 y4 y5 y6 a3 a4 a27 a5 a28 a6 a7 a29 a8 a9 a30 a31), (mp_arI E a3 0 36 f0), (mp_arL E a4 12 f1), (mp_arI E a5 0 6 f2), (mp_arI E a6 0 10 f3), (mp_arI E a7 0 10 f4), (mp_arI E a8 0 10 f5), (mp_arI E a9 0 10 f6), (mp_arI E a10 0 6 f7), (mp_arL E a11 20 f8), (mp_arI E a12 0 10 f9), (mp_ob2 a13 y7 y8 y9 y10 a14 a15 a16 a32 a33 y11 y12), (mp_arI E a14 0 432 f10), (mp_arI E a15 0 432 f11), (mp_arI E a16 0 72 f12)]
  show mp_W E X 3 0 [(0, .ref a0), (1, .int x0), (2, .int x1)] [] w1_ 0 0
  refine mp_run mp_k_cX9_fallen_ok hF mp_tabX9_ok [mp_i (.aload_n 0), mp_i (.iload_n 1), mp_i (.iload_n 2)] (by decide +kernel) ?_
  show mp_W E X 3 3 [(0, .ref a0), (1, .int x0), (2, .int x1)] [.int x1, .int x0, .ref a0] w1_ 0 0
  refine mp_callV hF (As := [.int x0, .int x1]) (rest := []) (wr := [(mp_arI E a3 0 36 f0), (mp_arL E a4 12 f1), (mp_arI E a5 0 6 f2), (mp_arI E a6 0 10 f3), (mp_arI E a7 0 10 f4), (mp_arI E a8 0 10 f5), (mp_arI E a9 0 10 f6), (mp_arI E a10 0 6 f7), (mp_arL E a11 20 f8), (mp_arI E a12 0 10 f9), (mp_ob2 a13 y7 y8 y9 y10 a14 a15 a16 a32 a33 y11 y12), (mp_arI E a14 0 432 f10), (mp_arI E a15 0 432 f11), (mp_arI E a16 0 72 f12)]) (bX9_canPlan_101 E a0 a1 a2 a17 a18 a19 a13 a20 a21 a22 a23 a10 a24 a25 a11 a12 a26 a3 a4 a27 a5 a28 a6 a7 a29 a8 a9 a30 a31 y0 y1 y2 y3 y4 y5 y6 x0 x1 l_y0 u_y0 l_y2 u_y2 l_y3 u_y3 l_y4 u_y4 l_y5 u_y5 l_y6 u_y6) mp_lkX9_223 0 rfl [0, 1, 2] [3, 4, 5, 6, 7, 8, 9, 10, 11, 12, 13, 14, 15, 16] rfl rfl rfl rfl rfl ⟨(Nat.le_of_ble_eq_true rfl), (Nat.le_of_ble_eq_true rfl), (Nat.le_of_ble_eq_true rfl), (Nat.le_of_ble_eq_true rfl)⟩ (Nat.le_of_ble_eq_true rfl) (by first | exact mp_fd_ok mp_k_cX9_fallen_ok (by decide +kernel) | decide +kernel) (fun v_1 w_2 h_3 => ?_)
  refine h_3.elim (fun q_9 => ?_) (fun q_10 => ?_)
  · skip
    refine q_9.elim fun e_11 e_12 => ?_
    clear h_3 q_9
    subst e_11
    subst e_12
    let w2_ : va_W := [(mp_arI E a3 0 36 f0), (mp_arL E a4 12 f1), (mp_arI E a5 0 6 f2), (mp_arI E a6 0 10 f3), (mp_arI E a7 0 10 f4), (mp_arI E a8 0 10 f5), (mp_arI E a9 0 10 f6), (mp_arI E a10 0 6 f7), (mp_arL E a11 20 f8), (mp_arI E a12 0 10 f9), (mp_ob2 a13 y7 y8 y9 y10 a14 a15 a16 a32 a33 y11 y12), (mp_arI E a14 0 432 f10), (mp_arI E a15 0 432 f11), (mp_arI E a16 0 72 f12), (mp_ob9 a0 a17 a1 a18 a19 a13 a20 a21 a22 a23), (mp_ob0 a1 a2 y0 a10 a24 a25 a11 a12 a26), (mp_ob7 a2 y1 y2 y3 y4 y5 y6 a3 a4 a27 a5 a28 a6 a7 a29 a8 a9 a30 a31)]
    show mp_W E X 3 6 [(0, .ref a0), (1, .int x0), (2, .int x1)] [.int 0] w2_ 0 0
    refine mp_run mp_k_cX9_fallen_ok hF mp_tabX9_ok [mp_h (.ifCond .ne 6) [12]] (by decide +kernel) ?_
    refine And.intro (fun c_13 => absurd c_13 (by decide)) (fun _ => ?_)
    show mp_W E X 3 9 [(0, .ref a0), (1, .int x0), (2, .int x1)] [] w2_ 0 0
    refine mp_run mp_k_cX9_fallen_ok hF mp_tabX9_ok [mp_c (.bipush (-2)) (-2)] (by decide +kernel) ?_
    show mp_W E X 3 11 [(0, .ref a0), (1, .int x0), (2, .int x1)] [.int (-2)] w2_ 0 0
    exact mp_iret hF hQ rfl rfl (Nat.le_of_ble_eq_true rfl) (Nat.le_of_ble_eq_true rfl) [14, 15, 16, 0, 1, 2, 3, 4, 5, 6, 7, 8, 9, 10, 11, 12, 13] (w' := w1_) rfl rfl ⟨f9, y7, y8, y9, y10, f10, f11, f12, (-2), rfl, l_y7, u_y7, l_y8, u_y8, l_y9, u_y9, rfl⟩ (by first | exact mp_fd_ok mp_k_cX9_fallen_ok (by decide +kernel) | decide +kernel)
  · skip
    refine q_10.elim fun e_14 q_15 => q_15.elim fun c_4 q_16 => q_16.elim fun c_5 q_17 => q_17.elim fun c_6 q_18 => q_18.elim fun c_7 q_19 => q_19.elim fun c_8 e_20 => ?_
    clear h_3 q_10 q_15 q_16 q_17 q_18 q_19
    subst e_14
    subst e_20
    have c_4 : 0 ≤ x0.toInt := c_4
    have c_5 : x0.toInt < y4.toInt := c_5
    have c_6 : 1 ≤ x1.toInt := c_6
    have c_7 : x1.toInt ≤ 12 := c_7
    have c_8 : y0.toInt + x1.toInt ≤ 99 := c_8
    let w3_ : va_W := [(mp_arI E a3 0 36 f0), (mp_arL E a4 12 f1), (mp_arI E a5 0 6 f2), (mp_arI E a6 0 10 f3), (mp_arI E a7 0 10 f4), (mp_arI E a8 0 10 f5), (mp_arI E a9 0 10 f6), (mp_arI E a10 0 6 f7), (mp_arL E a11 20 f8), (mp_arI E a12 0 10 f9), (mp_ob2 a13 y7 y8 y9 y10 a14 a15 a16 a32 a33 y11 y12), (mp_arI E a14 0 432 f10), (mp_arI E a15 0 432 f11), (mp_arI E a16 0 72 f12), (mp_ob9 a0 a17 a1 a18 a19 a13 a20 a21 a22 a23), (mp_ob0 a1 a2 y0 a10 a24 a25 a11 a12 a26), (mp_ob7 a2 y1 y2 y3 y4 y5 y6 a3 a4 a27 a5 a28 a6 a7 a29 a8 a9 a30 a31)]
    show mp_W E X 3 6 [(0, .ref a0), (1, .int x0), (2, .int x1)] [.int 1] w3_ 0 0
    refine mp_run mp_k_cX9_fallen_ok hF mp_tabX9_ok [mp_h (.ifCond .ne 6) [12]] (by decide +kernel) ?_
    refine And.intro (fun _ => ?_) (fun c_21 => absurd c_21 (by decide))
    show mp_W E X 3 12 [(0, .ref a0), (1, .int x0), (2, .int x1)] [] w3_ 0 0
    refine mp_run mp_k_cX9_fallen_ok hF mp_tabX9_ok [mp_i (.aload_n 0), mp_h (.getfield 39) [40, 14], mp_i (.aload_n 0), mp_h (.getfield 19) [37, 14], mp_i (.iload_n 1), mp_i (.iload_n 2)] (by decide +kernel) ?_
    refine And.intro rfl (And.intro rfl ?_)
    refine And.intro rfl (And.intro rfl ?_)
    show mp_W E X 3 22 [(0, .ref a0), (1, .int x0), (2, .int x1)] [.int x1, .int x0, .ref a1, .ref a13] w3_ 0 0
    refine mp_callV hF (As := [.ref a1, .int x0, .int x1]) (rest := []) (wr := [(mp_ob9 a0 a17 a1 a18 a19 a13 a20 a21 a22 a23)]) (bX2_prepare_107 E a13 a1 a14 a15 a16 a2 a3 a4 a5 a6 a7 a8 a9 a10 a11 a12 a32 a33 a24 a25 a26 a27 a28 a29 a30 a31 f10 f11 f12 f0 f1 f2 f3 f4 f5 f6 f7 f8 f9 y7 y8 y9 y10 y11 y12 y0 y1 y2 y3 y4 y5 y6 x0 x1 p0 p1 p2 p3 p4 p5 (by (first | exact c_4 | omega)) (by (first | exact mp_o398 u_y4 c_5 | omega)) (by (first | exact mp_o254 c_6 | omega)) (by (first | exact c_7 | omega)) l_y7 u_y7 l_y8 u_y8 l_y9 u_y9 l_y0 u_y0 l_y2 u_y2 l_y3 u_y3 l_y4 u_y4 l_y5 u_y5 l_y6 u_y6 (by first | (first | exact c_8 | omega) | (show y0.toInt + x1.toInt ≤ 99; omega))) mp_lkX9_226 10 rfl [10, 11, 12, 13, 15, 16, 0, 1, 2, 3, 4, 5, 6, 7, 8, 9] [14] rfl rfl rfl rfl rfl ⟨(Nat.le_of_ble_eq_true rfl), (Nat.le_of_ble_eq_true rfl), (Nat.le_of_ble_eq_true rfl), (Nat.le_of_ble_eq_true rfl)⟩ (Nat.le_of_ble_eq_true rfl) (by first | exact mp_fd_ok mp_k_cX9_fallen_ok (by decide +kernel) | decide +kernel) (fun v_22 w_23 h_24 => ?_)
    refine h_24.elim fun r_25 q_35 => q_35.elim fun r_26 q_36 => q_36.elim fun g_27 q_37 => q_37.elim fun g_28 q_38 => q_38.elim fun g_29 q_39 => q_39.elim fun g_30 q_40 => q_40.elim fun e_41 q_42 => q_42.elim fun l_31 q_43 => q_43.elim fun u_32 q_44 => q_44.elim fun l_33 q_45 => q_45.elim fun u_34 e_46 => ?_
    clear h_24 q_35 q_36 q_37 q_38 q_39 q_40 q_42 q_43 q_44 q_45
    subst e_41
    subst e_46
    let w4_ : va_W := [(mp_ob9 a0 a17 a1 a18 a19 a13 a20 a21 a22 a23), (mp_ob2 a13 y2 x1 r_25 r_26 a14 a15 a16 a32 a33 y11 y12), (mp_arI E a14 0 432 g_27), (mp_arI E a15 0 432 g_28), (mp_arI E a16 0 72 g_29), (mp_ob0 a1 a2 y0 a10 a24 a25 a11 a12 a26), (mp_ob7 a2 y1 y2 y3 y4 y5 y6 a3 a4 a27 a5 a28 a6 a7 a29 a8 a9 a30 a31), (mp_arI E a3 0 36 f0), (mp_arL E a4 12 f1), (mp_arI E a5 0 6 f2), (mp_arI E a6 0 10 f3), (mp_arI E a7 0 10 f4), (mp_arI E a8 0 10 f5), (mp_arI E a9 0 10 f6), (mp_arI E a10 0 6 f7), (mp_arL E a11 20 f8), (mp_arI E a12 0 10 g_30)]
    show mp_W E X 3 25 [(0, .ref a0), (1, .int x0), (2, .int x1)] [] w4_ 0 0
    refine mp_run mp_k_cX9_fallen_ok hF mp_tabX9_ok [mp_i (.aload_n 0), mp_h (.getfield 39) [40, 0]] (by decide +kernel) ?_
    refine And.intro rfl (And.intro rfl ?_)
    show mp_W E X 3 29 [(0, .ref a0), (1, .int x0), (2, .int x1)] [.ref a13] w4_ 0 0
    refine mp_callV hF (As := []) (rest := []) (wr := [(mp_ob9 a0 a17 a1 a18 a19 a13 a20 a21 a22 a23), (mp_arI E a16 0 72 g_29), (mp_ob0 a1 a2 y0 a10 a24 a25 a11 a12 a26), (mp_ob7 a2 y1 y2 y3 y4 y5 y6 a3 a4 a27 a5 a28 a6 a7 a29 a8 a9 a30 a31), (mp_arI E a3 0 36 f0), (mp_arL E a4 12 f1), (mp_arI E a5 0 6 f2), (mp_arI E a6 0 10 f3), (mp_arI E a7 0 10 f4), (mp_arI E a8 0 10 f5), (mp_arI E a9 0 10 f6), (mp_arI E a10 0 6 f7), (mp_arL E a11 20 f8), (mp_arI E a12 0 10 g_30)]) (bX2_leastFallen_118 E a13 a14 a15 a16 a32 a33 g_27 g_28 y2 x1 r_25 r_26 y11 y12 l_y2 u_y2 (by (first | exact mp_o254 c_6 | omega)) (by (first | exact c_7 | omega)) l_31 u_32) mp_lkX9_236 1 rfl [1, 2, 3] [0, 4, 5, 6, 7, 8, 9, 10, 11, 12, 13, 14, 15, 16] rfl rfl rfl rfl rfl ⟨(Nat.le_of_ble_eq_true rfl), (Nat.le_of_ble_eq_true rfl), (Nat.le_of_ble_eq_true rfl), (Nat.le_of_ble_eq_true rfl)⟩ (Nat.le_of_ble_eq_true rfl) (by first | exact mp_fd_ok mp_k_cX9_fallen_ok (by decide +kernel) | decide +kernel) (fun v_47 w_48 h_49 => ?_)
    obtain ⟨r_50, rfl, rfl⟩ := h_49
    let w5_ : va_W := [(mp_ob9 a0 a17 a1 a18 a19 a13 a20 a21 a22 a23), (mp_arI E a16 0 72 g_29), (mp_ob0 a1 a2 y0 a10 a24 a25 a11 a12 a26), (mp_ob7 a2 y1 y2 y3 y4 y5 y6 a3 a4 a27 a5 a28 a6 a7 a29 a8 a9 a30 a31), (mp_arI E a3 0 36 f0), (mp_arL E a4 12 f1), (mp_arI E a5 0 6 f2), (mp_arI E a6 0 10 f3), (mp_arI E a7 0 10 f4), (mp_arI E a8 0 10 f5), (mp_arI E a9 0 10 f6), (mp_arI E a10 0 6 f7), (mp_arL E a11 20 f8), (mp_arI E a12 0 10 g_30), (mp_ob2 a13 y2 x1 r_25 r_26 a14 a15 a16 a32 a33 y11 y12), (mp_arI E a14 0 432 g_27), (mp_arI E a15 0 432 g_28)]
    show mp_W E X 3 32 [(0, .ref a0), (1, .int x0), (2, .int x1)] [.int r_50] w5_ 0 0
    exact mp_iret hF hQ rfl rfl (Nat.le_of_ble_eq_true rfl) (Nat.le_of_ble_eq_true rfl) [0, 2, 3, 4, 5, 6, 7, 8, 9, 10, 11, 12, 13, 14, 15, 16, 1] (w' := [(mp_ob9 a0 a17 a1 a18 a19 a13 a20 a21 a22 a23), (mp_ob0 a1 a2 y0 a10 a24 a25 a11 a12 a26), (mp_ob7 a2 y1 y2 y3 y4 y5 y6 a3 a4 a27 a5 a28 a6 a7 a29 a8 a9 a30 a31), (mp_arI E a3 0 36 f0), (mp_arL E a4 12 f1), (mp_arI E a5 0 6 f2), (mp_arI E a6 0 10 f3), (mp_arI E a7 0 10 f4), (mp_arI E a8 0 10 f5), (mp_arI E a9 0 10 f6), (mp_arI E a10 0 6 f7), (mp_arL E a11 20 f8), (mp_arI E a12 0 10 g_30), (mp_ob2 a13 y2 x1 r_25 r_26 a14 a15 a16 a32 a33 y11 y12), (mp_arI E a14 0 432 g_27), (mp_arI E a15 0 432 g_28), (mp_arI E a16 0 72 g_29)]) rfl rfl ⟨g_30, y2, x1, r_25, r_26, g_27, g_28, g_29, r_50, rfl, l_y2, u_y2, (by (first | exact mp_o254 c_6 | omega)), (by (first | exact c_7 | omega)), l_31, u_32, rfl⟩ (by first | exact mp_fd_ok mp_k_cX9_fallen_ok (by decide +kernel) | decide +kernel)
set_option maxHeartbeats 4000000 in
set_option maxRecDepth 100000 in
theorem bX2_countPlans_121 (E : mp_E) (a0 a1 a2 a3 a4 a5 : Nat) (f0 : Nat → Int32) (f1 : Nat → Int32) (f2 : Nat → Int64) (y0 : Int32) (y1 : Int32) (y2 : Int32) (y3 : Int32) (y4 : Int32) (y5 : Int32) (l_y0 : 0 ≤ y0.toInt) (u_y0 : y0.toInt ≤ 6) (l_y1 : 0 ≤ y1.toInt) (u_y1 : y1.toInt ≤ 12) (l_y2 : 0 ≤ y2.toInt) (u_y2 : y2.toInt ≤ 5) : mp_Ct E yX2_countPlans cX2_countPlans 6 (some FieldType.long) 1 0 0 22 [.ref a0] [(mp_ob2 a0 y0 y1 y2 y3 a1 a2 a4 a5 a3 y4 y5), (mp_arI E a1 0 432 f0), (mp_arI E a2 0 432 f1), (mp_arL E a3 78 f2)] (fun v w' => ∃ h1 : Nat → Int64, ∃ r2 : Int64, v = some (.long r2) ∧ w' = [(mp_ob2 a0 y0 y1 y2 y3 a1 a2 a4 a5 a3 y4 y5), (mp_arI E a1 0 432 f0), (mp_arI E a2 0 432 f1), (mp_arL E a3 78 h1)]) := by
  refine mp_met false (by decide) (by decide) (Nat.le_of_ble_eq_true rfl) (fun X hF hQ => ?_)
  have hF : mp_F E X (RX2, cX2_countPlans, 6, (1, 0, 0, 22), (some FieldType.long), false) := hF
  let w1_ : va_W := [(mp_ob2 a0 y0 y1 y2 y3 a1 a2 a4 a5 a3 y4 y5), (mp_arI E a1 0 432 f0), (mp_arI E a2 0 432 f1), (mp_arL E a3 78 f2)]
  show mp_W E X 6 0 [(0, .ref a0)] [] w1_ 0 0
  refine mp_run mp_k_cX2_countPlans_ok hF mp_tabX2_ok [mp_c (.iconst 0) 0, mp_i (.istore_n 1)] (by decide +kernel) ?_
  show mp_W E X 6 2 [(1, .int 0), (0, .ref a0)] [] w1_ 0 0
  have lp_5 : ∀ (d_6 : Nat) (i_1 : Int32) (g_2 : Nat → Int64), 0 ≤ i_1.toInt → i_1.toInt ≤ 6 → y0.toInt - i_1.toInt ≤ (d_6 : Int) → mp_W E X 6 2 [(1, .int i_1), (0, .ref a0)] [] [(mp_ob2 a0 y0 y1 y2 y3 a1 a2 a4 a5 a3 y4 y5), (mp_arI E a1 0 432 f0), (mp_arI E a2 0 432 f1), (mp_arL E a3 78 g_2)] 0 0 := by
    intro d_6
    induction d_6 using Nat.strongRecOn with
    | ind d_6 ih_7 =>
      intro i_1 g_2 l_3 u_4 hm_8
      refine mp_run mp_k_cX2_countPlans_ok hF mp_tabX2_ok [mp_i (.iload_n 1), mp_i (.aload_n 0), mp_h (.getfield 51) [7, 0], mp_h (.if_icmp .ge 24) [31]] (by decide +kernel) ?_
      refine And.intro rfl (And.intro rfl ?_)
      refine And.intro (fun c_9 => ?_) (fun c_9 => ?_)
      · have c_9 : y0.toInt ≤ i_1.toInt := c_9
        let w2_ : va_W := [(mp_ob2 a0 y0 y1 y2 y3 a1 a2 a4 a5 a3 y4 y5), (mp_arI E a1 0 432 f0), (mp_arI E a2 0 432 f1), (mp_arL E a3 78 g_2)]
        show mp_W E X 6 31 [(1, .int i_1), (0, .ref a0)] [] w2_ 0 0
        refine mp_run mp_k_cX2_countPlans_ok hF mp_tabX2_ok [mp_i (.aload_n 0), mp_h (.getfield 52) [8, 0], mp_c (.iconst 1) 1, mp_i .isub, mp_i (.istore_n 1)] (by decide +kernel) ?_
        refine And.intro rfl (And.intro rfl ?_)
        intro z_10 h_11
        have e_12 : z_10.toInt = y1.toInt - 1 := mp_subi (a := y1.toInt) (b := 1) h_11 rfl (by decide) (by (first | exact mp_o157 l_y1 | omega)) (by (first | exact mp_o555 u_y1 | omega))
        show mp_W E X 6 38 [(1, .int z_10), (0, .ref a0)] [] w2_ 0 0
        have lp_17 : ∀ (d_18 : Nat) (i_13 : Int32) (g_14 : Nat → Int64), (-1) ≤ i_13.toInt → i_13.toInt ≤ 11 → i_13.toInt + 1 ≤ (d_18 : Int) → mp_W E X 6 38 [(1, .int i_13), (0, .ref a0)] [] [(mp_ob2 a0 y0 y1 y2 y3 a1 a2 a4 a5 a3 y4 y5), (mp_arI E a1 0 432 f0), (mp_arI E a2 0 432 f1), (mp_arL E a3 78 g_14)] 0 0 := by
          intro d_18
          induction d_18 using Nat.strongRecOn with
          | ind d_18 ih_19 =>
            intro i_13 g_14 l_15 u_16 hm_20
            refine mp_run mp_k_cX2_countPlans_ok hF mp_tabX2_ok [mp_i (.iload_n 1), mp_h (.ifCond .lt 88) [127]] (by decide +kernel) ?_
            refine And.intro (fun c_21 => ?_) (fun c_21 => ?_)
            · have c_21 : i_13.toInt < 0 := c_21
              let w3_ : va_W := [(mp_ob2 a0 y0 y1 y2 y3 a1 a2 a4 a5 a3 y4 y5), (mp_arI E a1 0 432 f0), (mp_arI E a2 0 432 f1), (mp_arL E a3 78 g_14)]
              show mp_W E X 6 127 [(1, .int i_13), (0, .ref a0)] [] w3_ 0 0
              refine mp_run mp_k_cX2_countPlans_ok hF mp_tabX2_ok [mp_i (.aload_n 0), mp_h (.getfield 24) [15, 0], mp_i (.aload_n 0), mp_h (.getfield 58) [9, 0], mp_h .laload [3]] (by decide +kernel) ?_
              refine And.intro rfl (And.intro rfl ?_)
              refine And.intro rfl (And.intro rfl ?_)
              refine And.intro rfl (And.intro rfl (And.intro (vp_in_iff.mpr (by (first | exact mp_o575 l_y2 u_y2 | omega))) ?_))
              intro z_22 h_23
              show mp_W E X 6 136 [(1, .int i_13), (0, .ref a0)] [.long z_22] w3_ 0 0
              exact mp_lret hF hQ rfl (Nat.le_of_ble_eq_true rfl) (Nat.le_of_ble_eq_true rfl) [0, 1, 2, 3] (w' := w3_) rfl rfl ⟨g_14, z_22, rfl, rfl⟩ (by first | exact mp_fd_ok mp_k_cX2_countPlans_ok (by decide +kernel) | decide +kernel)
            · have c_21 : 0 ≤ i_13.toInt := c_21
              let w4_ : va_W := [(mp_ob2 a0 y0 y1 y2 y3 a1 a2 a4 a5 a3 y4 y5), (mp_arI E a1 0 432 f0), (mp_arI E a2 0 432 f1), (mp_arL E a3 78 g_14)]
              show mp_W E X 6 42 [(1, .int i_13), (0, .ref a0)] [] w4_ 0 0
              refine mp_run mp_k_cX2_countPlans_ok hF mp_tabX2_ok [mp_c (.iconst 0) 0, mp_i (.istore_n 2)] (by decide +kernel) ?_
              show mp_W E X 6 44 [(2, .int 0), (1, .int i_13), (0, .ref a0)] [] w4_ 0 0
              have lp_28 : ∀ (d_29 : Nat) (i_24 : Int32) (g_25 : Nat → Int64), 0 ≤ i_24.toInt → i_24.toInt ≤ 6 → y0.toInt - i_24.toInt ≤ (d_29 : Int) → mp_W E X 6 44 [(2, .int i_24), (1, .int i_13), (0, .ref a0)] [] [(mp_ob2 a0 y0 y1 y2 y3 a1 a2 a4 a5 a3 y4 y5), (mp_arI E a1 0 432 f0), (mp_arI E a2 0 432 f1), (mp_arL E a3 78 g_25)] 0 0 := by
                intro d_29
                induction d_29 using Nat.strongRecOn with
                | ind d_29 ih_30 =>
                  intro i_24 g_25 l_26 u_27 hm_31
                  refine mp_run mp_k_cX2_countPlans_ok hF mp_tabX2_ok [mp_i (.iload_n 2), mp_i (.aload_n 0), mp_h (.getfield 51) [7, 0], mp_h (.if_icmp .ge 72) [121]] (by decide +kernel) ?_
                  refine And.intro rfl (And.intro rfl ?_)
                  refine And.intro (fun c_32 => ?_) (fun c_32 => ?_)
                  · have c_32 : y0.toInt ≤ i_24.toInt := c_32
                    let w5_ : va_W := [(mp_ob2 a0 y0 y1 y2 y3 a1 a2 a4 a5 a3 y4 y5), (mp_arI E a1 0 432 f0), (mp_arI E a2 0 432 f1), (mp_arL E a3 78 g_25)]
                    show mp_W E X 6 121 [(2, .int i_24), (1, .int i_13), (0, .ref a0)] [] w5_ 0 0
                    refine mp_run mp_k_cX2_countPlans_ok hF mp_tabX2_ok [mp_c (.iinc 1 (-1)) (-1), mp_h (.goto (-86)) [38]] (by decide +kernel) ?_
                    intro z_33 h_34
                    have e_35 : z_33.toInt = i_13.toInt + (-1) := mp_add (a := i_13.toInt) (b := (-1)) h_34 rfl (by decide) (by (first | exact mp_o413 c_21 | omega)) (by (first | exact mp_o576 u_16 | omega))
                    show mp_W E X 6 38 [(1, .int z_33), (2, .int i_24), (0, .ref a0)] [] w5_ 0 0
                    exact mp_sub [0, 2] rfl [0, 1, 2, 3] rfl rfl (ih_19 (d_18 - 1) (by (first | exact mp_o577 hm_20 c_21 | omega)) z_33 g_25 (by (first | exact mp_o578 c_21 e_35 | omega)) (by (first | exact mp_o579 u_16 e_35 | omega)) (by (first | exact mp_o580 hm_20 e_35 | omega)))
                  · have c_32 : i_24.toInt < y0.toInt := c_32
                    let w6_ : va_W := [(mp_ob2 a0 y0 y1 y2 y3 a1 a2 a4 a5 a3 y4 y5), (mp_arI E a1 0 432 f0), (mp_arI E a2 0 432 f1), (mp_arL E a3 78 g_25)]
                    show mp_W E X 6 52 [(2, .int i_24), (1, .int i_13), (0, .ref a0)] [] w6_ 0 0
                    refine mp_run mp_k_cX2_countPlans_ok hF mp_tabX2_ok [mp_cl (.lconst 0) 0, mp_i (.lstore_n 3), mp_c (.iconst 0) 0, mp_i (.istore 5)] (by decide +kernel) ?_
                    show mp_W E X 6 57 [(5, .int 0), (3, .long 0), (2, .int i_24), (1, .int i_13), (0, .ref a0)] [] w6_ 0 0
                    have lp_40 : ∀ (d_41 : Nat) (i_36 : Int32) (i_37 : Int64), 0 ≤ i_36.toInt → i_36.toInt ≤ 6 → y0.toInt - i_36.toInt ≤ (d_41 : Int) → mp_W E X 6 57 [(5, .int i_36), (3, .long i_37), (2, .int i_24), (1, .int i_13), (0, .ref a0)] [] [(mp_ob2 a0 y0 y1 y2 y3 a1 a2 a4 a5 a3 y4 y5), (mp_arI E a1 0 432 f0), (mp_arI E a2 0 432 f1), (mp_arL E a3 78 g_25)] 0 0 := by
                      intro d_41
                      induction d_41 using Nat.strongRecOn with
                      | ind d_41 ih_42 =>
                        intro i_36 i_37 l_38 u_39 hm_43
                        refine mp_run mp_k_cX2_countPlans_ok hF mp_tabX2_ok [mp_i (.iload 5), mp_i (.aload_n 0), mp_h (.getfield 51) [7, 0], mp_h (.if_icmp .ge 40) [103]] (by decide +kernel) ?_
                        refine And.intro rfl (And.intro rfl ?_)
                        refine And.intro (fun c_44 => ?_) (fun c_44 => ?_)
                        · have c_44 : y0.toInt ≤ i_36.toInt := c_44
                          show mp_W E X 6 103 [(5, .int i_36), (3, .long i_37), (2, .int i_24), (1, .int i_13), (0, .ref a0)] [] w6_ 0 0
                          refine mp_run mp_k_cX2_countPlans_ok hF mp_tabX2_ok [mp_i (.aload_n 0), mp_h (.getfield 24) [15, 0], mp_i (.iload_n 1), mp_c (.bipush 6) 6, mp_i .imul, mp_i (.iload_n 2), mp_i .iadd, mp_i (.lload_n 3), mp_h .lastore [3]] (by decide +kernel) ?_
                          refine And.intro rfl (And.intro rfl ?_)
                          intro z_45 h_46
                          have e_47 : z_45.toInt = i_13.toInt * 6 := mp_mul (a := i_13.toInt) (b := 6) h_46 rfl (by decide) (by (first | exact mp_o249 c_21 | omega)) (by (first | exact mp_o581 u_16 | omega))
                          intro z_48 h_49
                          have e_50 : z_48.toInt = z_45.toInt + i_24.toInt := mp_add (a := z_45.toInt) (b := i_24.toInt) h_49 rfl rfl (by (first | exact mp_o251 l_26 c_21 e_47 | omega)) (by (first | exact mp_o582 u_27 u_16 e_47 | omega))
                          refine And.intro rfl (And.intro rfl (And.intro (vp_in_iff.mpr (by (first | exact mp_o583 c_21 u_16 l_26 u_27 e_47 e_50 | omega))) ?_))
                          intro g_51 h_52
                          let w7_ : va_W := [(mp_ob2 a0 y0 y1 y2 y3 a1 a2 a4 a5 a3 y4 y5), (mp_arI E a1 0 432 f0), (mp_arI E a2 0 432 f1), (mp_arL E a3 78 g_51)]
                          show mp_W E X 6 115 [(5, .int i_36), (3, .long i_37), (2, .int i_24), (1, .int i_13), (0, .ref a0)] [] w7_ 0 0
                          refine mp_run mp_k_cX2_countPlans_ok hF mp_tabX2_ok [mp_c (.iinc 2 1) 1, mp_h (.goto (-74)) [44]] (by decide +kernel) ?_
                          intro z_53 h_54
                          have e_55 : z_53.toInt = i_24.toInt + 1 := mp_add (a := i_24.toInt) (b := 1) h_54 rfl (by decide) (by (first | exact mp_o2 l_26 | omega)) (by (first | exact mp_o351 u_27 | omega))
                          show mp_W E X 6 44 [(2, .int z_53), (5, .int i_36), (3, .long i_37), (1, .int i_13), (0, .ref a0)] [] w7_ 0 0
                          exact mp_sub [0, 3, 4] rfl [0, 1, 2, 3] rfl rfl (ih_30 (d_29 - 1) (by (first | exact mp_o72 hm_31 c_32 | omega)) z_53 g_51 (by (first | exact mp_o51 l_26 e_55 | omega)) (by (first | exact mp_o352 u_y0 c_32 e_55 | omega)) (by (first | exact mp_o77 hm_31 e_55 | omega)))
                        · have c_44 : i_36.toInt < y0.toInt := c_44
                          show mp_W E X 6 66 [(5, .int i_36), (3, .long i_37), (2, .int i_24), (1, .int i_13), (0, .ref a0)] [] w6_ 0 0
                          refine mp_run mp_k_cX2_countPlans_ok hF mp_tabX2_ok [mp_i (.aload_n 0), mp_i (.iload_n 1), mp_i (.iload_n 2), mp_i (.iload 5)] (by decide +kernel) ?_
                          show mp_W E X 6 71 [(5, .int i_36), (3, .long i_37), (2, .int i_24), (1, .int i_13), (0, .ref a0)] [.int i_36, .int i_24, .int i_13, .ref a0] w6_ 0 0
                          refine mp_callS hF (As := [.int i_13, .int i_24, .int i_36]) (rest := [.ref a0]) (wr := w6_) (bX2_leg_102 E i_13 i_24 i_36 (by (first | exact c_21 | omega)) u_16 l_26 (by (first | exact mp_o398 u_y0 c_32 | omega)) l_38 (by (first | exact mp_o398 u_y0 c_44 | omega))) mp_lkX2_61 [] [0, 1, 2, 3] rfl rfl rfl rfl rfl ⟨(Nat.le_of_ble_eq_true rfl), (Nat.le_of_ble_eq_true rfl), (Nat.le_of_ble_eq_true rfl), (Nat.le_of_ble_eq_true rfl)⟩ (Nat.le_of_ble_eq_true rfl) (by first | exact mp_fd_ok mp_k_cX2_countPlans_ok (by decide +kernel) | decide +kernel) (fun v_56 w_57 h_58 => ?_)
                          obtain ⟨r_59, rfl, l_60, u_61, rfl⟩ := h_58
                          show mp_W E X 6 74 [(5, .int i_36), (3, .long i_37), (2, .int i_24), (1, .int i_13), (0, .ref a0)] [.int r_59, .ref a0] w6_ 0 0
                          refine mp_callV hF (As := [.int r_59]) (rest := []) (wr := [(mp_arL E a3 78 g_25)]) (bX2_isKeeping_108 E a0 a1 a2 a4 a5 a3 f0 f1 y0 y1 y2 y3 y4 y5 r_59 l_60 u_61 l_y0 u_y0 l_y1 u_y1 l_y2 u_y2) mp_lkX2_108 0 rfl [0, 1, 2] [3] rfl rfl rfl rfl rfl ⟨(Nat.le_of_ble_eq_true rfl), (Nat.le_of_ble_eq_true rfl), (Nat.le_of_ble_eq_true rfl), (Nat.le_of_ble_eq_true rfl)⟩ (Nat.le_of_ble_eq_true rfl) (by first | exact mp_fd_ok mp_k_cX2_countPlans_ok (by decide +kernel) | decide +kernel) (fun v_62 w_63 h_64 => ?_)
                          rcases h_64 with ⟨rfl, rfl⟩ | ⟨rfl, rfl⟩
                          · skip
                            let w8_ : va_W := [(mp_arL E a3 78 g_25), (mp_ob2 a0 y0 y1 y2 y3 a1 a2 a4 a5 a3 y4 y5), (mp_arI E a1 0 432 f0), (mp_arI E a2 0 432 f1)]
                            show mp_W E X 6 77 [(5, .int i_36), (3, .long i_37), (2, .int i_24), (1, .int i_13), (0, .ref a0)] [.int 0] w8_ 0 0
                            refine mp_run mp_k_cX2_countPlans_ok hF mp_tabX2_ok [mp_h (.ifCond .eq 20) [97]] (by decide +kernel) ?_
                            refine And.intro (fun _ => ?_) (fun c_65 => absurd c_65 (by decide))
                            show mp_W E X 6 97 [(5, .int i_36), (3, .long i_37), (2, .int i_24), (1, .int i_13), (0, .ref a0)] [] w8_ 0 0
                            refine mp_run mp_k_cX2_countPlans_ok hF mp_tabX2_ok [mp_c (.iinc 5 1) 1, mp_h (.goto (-43)) [57]] (by decide +kernel) ?_
                            intro z_66 h_67
                            have e_68 : z_66.toInt = i_36.toInt + 1 := mp_add (a := i_36.toInt) (b := 1) h_67 rfl (by decide) (by (first | exact mp_o2 l_38 | omega)) (by (first | exact mp_o351 u_39 | omega))
                            show mp_W E X 6 57 [(5, .int z_66), (3, .long i_37), (2, .int i_24), (1, .int i_13), (0, .ref a0)] [] w8_ 0 0
                            exact mp_sub [0, 1, 2, 3, 4] rfl [1, 2, 3, 0] rfl rfl (ih_42 (d_41 - 1) (by (first | exact mp_o72 hm_43 c_44 | omega)) z_66 i_37 (by (first | exact mp_o51 l_38 e_68 | omega)) (by (first | exact mp_o352 u_y0 c_44 e_68 | omega)) (by (first | exact mp_o77 hm_43 e_68 | omega)))
                          · skip
                            let w9_ : va_W := [(mp_arL E a3 78 g_25), (mp_ob2 a0 y0 y1 y2 y3 a1 a2 a4 a5 a3 y4 y5), (mp_arI E a1 0 432 f0), (mp_arI E a2 0 432 f1)]
                            show mp_W E X 6 77 [(5, .int i_36), (3, .long i_37), (2, .int i_24), (1, .int i_13), (0, .ref a0)] [.int 1] w9_ 0 0
                            refine mp_run mp_k_cX2_countPlans_ok hF mp_tabX2_ok [mp_h (.ifCond .eq 20) [97]] (by decide +kernel) ?_
                            refine And.intro (fun c_69 => absurd c_69 (by decide)) (fun _ => ?_)
                            show mp_W E X 6 80 [(5, .int i_36), (3, .long i_37), (2, .int i_24), (1, .int i_13), (0, .ref a0)] [] w9_ 0 0
                            refine mp_run mp_k_cX2_countPlans_ok hF mp_tabX2_ok [mp_i (.lload_n 3), mp_i (.aload_n 0), mp_h (.getfield 24) [15, 1], mp_i (.iload_n 1), mp_c (.iconst 1) 1, mp_i .iadd, mp_c (.bipush 6) 6, mp_i .imul, mp_i (.iload 5), mp_i .iadd, mp_h .laload [0], mp_i .ladd, mp_i (.lstore_n 3), mp_c (.iinc 5 1) 1, mp_h (.goto (-43)) [57]] (by decide +kernel) ?_
                            refine And.intro rfl (And.intro rfl ?_)
                            intro z_70 h_71
                            have e_72 : z_70.toInt = i_13.toInt + 1 := mp_add (a := i_13.toInt) (b := 1) h_71 rfl (by decide) (by (first | exact mp_o2 c_21 | omega)) (by (first | exact mp_o569 u_16 | omega))
                            intro z_73 h_74
                            have e_75 : z_73.toInt = z_70.toInt * 6 := mp_mul (a := z_70.toInt) (b := 6) h_74 rfl (by decide) (by (first | exact mp_o570 c_21 e_72 | omega)) (by (first | exact mp_o571 u_16 e_72 | omega))
                            intro z_76 h_77
                            have e_78 : z_76.toInt = z_73.toInt + i_36.toInt := mp_add (a := z_73.toInt) (b := i_36.toInt) h_77 rfl rfl (by (first | exact mp_o572 l_38 c_21 e_72 e_75 | omega)) (by (first | exact mp_o597 u_39 u_16 e_72 e_75 | omega))
                            refine And.intro rfl (And.intro rfl (And.intro (vp_in_iff.mpr (by (first | exact mp_o598 c_21 u_16 l_38 e_72 e_75 e_78 u_y0 c_44 | omega))) ?_))
                            intro z_79 h_80
                            intro z_81 h_82
                            intro z_83 h_84
                            have e_85 : z_83.toInt = i_36.toInt + 1 := mp_add (a := i_36.toInt) (b := 1) h_84 rfl (by decide) (by (first | exact mp_o2 l_38 | omega)) (by (first | exact mp_o351 u_39 | omega))
                            show mp_W E X 6 57 [(5, .int z_83), (3, .long z_81), (2, .int i_24), (1, .int i_13), (0, .ref a0)] [] w9_ 0 0
                            exact mp_sub [0, 1, 2, 3, 4] rfl [1, 2, 3, 0] rfl rfl (ih_42 (d_41 - 1) (by (first | exact mp_o72 hm_43 c_44 | omega)) z_83 z_81 (by (first | exact mp_o51 l_38 e_85 | omega)) (by (first | exact mp_o352 u_y0 c_44 e_85 | omega)) (by (first | exact mp_o77 hm_43 e_85 | omega)))
                    exact mp_sub [0, 1, 2, 3, 4] rfl [0, 1, 2, 3] rfl rfl (lp_40 _ 0 0 (by decide) (by decide) (Int.self_le_toNat _))
              exact mp_sub [0, 1, 2] rfl [0, 1, 2, 3] rfl rfl (lp_28 _ 0 g_14 (by decide) (by decide) (Int.self_le_toNat _))
        exact mp_sub [0, 1] rfl [0, 1, 2, 3] rfl rfl (lp_17 _ z_10 g_2 (by (first | exact mp_o159 l_y1 e_12 | omega)) (by (first | exact mp_o584 u_y1 e_12 | omega)) (Int.self_le_toNat _))
      · have c_9 : i_1.toInt < y0.toInt := c_9
        let w10_ : va_W := [(mp_ob2 a0 y0 y1 y2 y3 a1 a2 a4 a5 a3 y4 y5), (mp_arI E a1 0 432 f0), (mp_arI E a2 0 432 f1), (mp_arL E a3 78 g_2)]
        show mp_W E X 6 10 [(1, .int i_1), (0, .ref a0)] [] w10_ 0 0
        refine mp_run mp_k_cX2_countPlans_ok hF mp_tabX2_ok [mp_i (.aload_n 0), mp_h (.getfield 24) [15, 0], mp_i (.aload_n 0), mp_h (.getfield 52) [8, 0], mp_c (.bipush 6) 6, mp_i .imul, mp_i (.iload_n 1), mp_i .iadd, mp_cl (.lconst 1) 1, mp_h .lastore [3]] (by decide +kernel) ?_
        refine And.intro rfl (And.intro rfl ?_)
        refine And.intro rfl (And.intro rfl ?_)
        intro z_86 h_87
        have e_88 : z_86.toInt = y1.toInt * 6 := mp_mul (a := y1.toInt) (b := 6) h_87 rfl (by decide) (by (first | exact mp_o249 l_y1 | omega)) (by (first | exact mp_o551 u_y1 | omega))
        intro z_89 h_90
        have e_91 : z_89.toInt = z_86.toInt + i_1.toInt := mp_add (a := z_86.toInt) (b := i_1.toInt) h_90 rfl rfl (by (first | exact mp_o251 l_3 l_y1 e_88 | omega)) (by (first | exact mp_o561 u_4 u_y1 e_88 | omega))
        refine And.intro rfl (And.intro rfl (And.intro (vp_in_iff.mpr (by (first | exact mp_o585 l_y1 u_y1 l_3 e_88 e_91 u_y0 c_9 | omega))) ?_))
        intro g_92 h_93
        let w11_ : va_W := [(mp_ob2 a0 y0 y1 y2 y3 a1 a2 a4 a5 a3 y4 y5), (mp_arI E a1 0 432 f0), (mp_arI E a2 0 432 f1), (mp_arL E a3 78 g_92)]
        show mp_W E X 6 25 [(1, .int i_1), (0, .ref a0)] [] w11_ 0 0
        refine mp_run mp_k_cX2_countPlans_ok hF mp_tabX2_ok [mp_c (.iinc 1 1) 1, mp_h (.goto (-26)) [2]] (by decide +kernel) ?_
        intro z_94 h_95
        have e_96 : z_94.toInt = i_1.toInt + 1 := mp_add (a := i_1.toInt) (b := 1) h_95 rfl (by decide) (by (first | exact mp_o2 l_3 | omega)) (by (first | exact mp_o351 u_4 | omega))
        show mp_W E X 6 2 [(1, .int z_94), (0, .ref a0)] [] w11_ 0 0
        exact mp_sub [0, 1] rfl [0, 1, 2, 3] rfl rfl (ih_7 (d_6 - 1) (by (first | exact mp_o72 hm_8 c_9 | omega)) z_94 g_92 (by (first | exact mp_o51 l_3 e_96 | omega)) (by (first | exact mp_o352 u_y0 c_9 e_96 | omega)) (by (first | exact mp_o77 hm_8 e_96 | omega)))
  exact mp_sub [0, 1] rfl [0, 1, 2, 3] rfl rfl (lp_5 _ 0 f2 (by decide) (by decide) (Int.self_le_toNat _))
set_option maxHeartbeats 4000000 in
set_option maxRecDepth 100000 in
theorem bX9_plans_122 (E : mp_E) (a0 a1 a2 a3 a4 a5 a6 a7 a8 a9 a10 a11 a12 a13 a14 a15 a16 a17 a18 a19 a20 a21 a22 a23 a24 a25 a26 a27 a28 a29 a30 a31 a32 a33 : Nat) (f0 : Nat → Int32) (f1 : Nat → Int64) (f2 : Nat → Int32) (f3 : Nat → Int32) (f4 : Nat → Int32) (f5 : Nat → Int32) (f6 : Nat → Int32) (f7 : Nat → Int32) (f8 : Nat → Int64) (f9 : Nat → Int32) (f10 : Nat → Int32) (f11 : Nat → Int32) (f12 : Nat → Int32) (f13 : Nat → Int64) (y0 : Int32) (y1 : Int32) (y2 : Int32) (y3 : Int32) (y4 : Int32) (y5 : Int32) (y6 : Int32) (y7 : Int32) (y8 : Int32) (y9 : Int32) (y10 : Int32) (y11 : Int32) (y12 : Int32) (x0 : Int32) (x1 : Int32) (p0 : mp_all f0 36 0 20) (p1 : mp_all f3 10 0 5) (p2 : mp_all f4 10 0 5) (p3 : mp_all f5 10 0 99) (p4 : mp_all f6 10 0 1) (p5 : mp_all f7 6 0 5) (l_y0 : 0 ≤ y0.toInt) (u_y0 : y0.toInt ≤ 99) (l_y2 : 0 ≤ y2.toInt) (u_y2 : y2.toInt ≤ 6) (l_y3 : 0 ≤ y3.toInt) (u_y3 : y3.toInt ≤ 99) (l_y4 : 0 ≤ y4.toInt) (u_y4 : y4.toInt ≤ 6) (l_y5 : 0 ≤ y5.toInt) (u_y5 : y5.toInt ≤ 10) (l_y6 : 0 ≤ y6.toInt) (u_y6 : y6.toInt ≤ 60) (l_y7 : 0 ≤ y7.toInt) (u_y7 : y7.toInt ≤ 6) (l_y8 : 0 ≤ y8.toInt) (u_y8 : y8.toInt ≤ 12) (l_y9 : 0 ≤ y9.toInt) (u_y9 : y9.toInt ≤ 5) : mp_Ct E yX9_plans cX9_plans 3 (some FieldType.long) 5 0 0 114 [.ref a0, .int x0, .int x1] [(mp_ob9 a0 a18 a1 a19 a20 a13 a21 a22 a23 a24), (mp_ob0 a1 a2 y0 a10 a25 a26 a11 a12 a27), (mp_ob7 a2 y1 y2 y3 y4 y5 y6 a3 a4 a28 a5 a29 a6 a7 a30 a8 a9 a31 a32), (mp_arI E a3 0 36 f0), (mp_arL E a4 12 f1), (mp_arI E a5 0 6 f2), (mp_arI E a6 0 10 f3), (mp_arI E a7 0 10 f4), (mp_arI E a8 0 10 f5), (mp_arI E a9 0 10 f6), (mp_arI E a10 0 6 f7), (mp_arL E a11 20 f8), (mp_arI E a12 0 10 f9), (mp_ob2 a13 y7 y8 y9 y10 a14 a15 a16 a33 a17 y11 y12), (mp_arI E a14 0 432 f10), (mp_arI E a15 0 432 f11), (mp_arI E a16 0 72 f12), (mp_arL E a17 78 f13)] (fun v w' => ∃ h1 : Nat → Int32, ∃ r2 : Int32, ∃ r3 : Int32, ∃ r4 : Int32, ∃ r5 : Int32, ∃ h6 : Nat → Int32, ∃ h7 : Nat → Int32, ∃ h8 : Nat → Int32, ∃ h9 : Nat → Int64, ∃ r10 : Int64, v = some (.long r10) ∧ 0 ≤ r2.toInt ∧ r2.toInt ≤ 6 ∧ 0 ≤ r3.toInt ∧ r3.toInt ≤ 12 ∧ 0 ≤ r4.toInt ∧ r4.toInt ≤ 5 ∧ w' = [(mp_ob9 a0 a18 a1 a19 a20 a13 a21 a22 a23 a24), (mp_ob0 a1 a2 y0 a10 a25 a26 a11 a12 a27), (mp_ob7 a2 y1 y2 y3 y4 y5 y6 a3 a4 a28 a5 a29 a6 a7 a30 a8 a9 a31 a32), (mp_arI E a3 0 36 f0), (mp_arL E a4 12 f1), (mp_arI E a5 0 6 f2), (mp_arI E a6 0 10 f3), (mp_arI E a7 0 10 f4), (mp_arI E a8 0 10 f5), (mp_arI E a9 0 10 f6), (mp_arI E a10 0 6 f7), (mp_arL E a11 20 f8), (mp_arI E a12 0 10 h1), (mp_ob2 a13 r2 r3 r4 r5 a14 a15 a16 a33 a17 y11 y12), (mp_arI E a14 0 432 h6), (mp_arI E a15 0 432 h7), (mp_arI E a16 0 72 h8), (mp_arL E a17 78 h9)]) := by
  refine mp_met false (by decide) (by decide) (Nat.le_of_ble_eq_true rfl) (fun X hF hQ => ?_)
  have hF : mp_F E X (RX9, cX9_plans, 3, (5, 0, 0, 114), (some FieldType.long), false) := hF
  let w1_ : va_W := [(mp_ob9 a0 a18 a1 a19 a20 a13 a21 a22 a23 a24), (mp_ob0 a1 a2 y0 a10 a25 a26 a11 a12 a27), (mp_ob7 a2 y1 y2 y3 y4 y5 y6 a3 a4 a28 a5 a29 a6 a7 a30 a8 a9 a31 a32), (mp_arI E a3 0 36 f0), (mp_arL E a4 12 f1), (mp_arI E a5 0 6 f2), (mp_arI E a6 0 10 f3), (mp_arI E a7 0 10 f4), (mp_arI E a8 0 10 f5), (mp_arI E a9 0 10 f6), (mp_arI E a10 0 6 f7), (mp_arL E a11 20 f8), (mp_arI E a12 0 10 f9), (mp_ob2 a13 y7 y8 y9 y10 a14 a15 a16 a33 a17 y11 y12), (mp_arI E a14 0 432 f10), (mp_arI E a15 0 432 f11), (mp_arI E a16 0 72 f12), (mp_arL E a17 78 f13)]
  show mp_W E X 3 0 [(0, .ref a0), (1, .int x0), (2, .int x1)] [] w1_ 0 0
  refine mp_run mp_k_cX9_plans_ok hF mp_tabX9_ok [mp_i (.aload_n 0), mp_i (.iload_n 1), mp_i (.iload_n 2)] (by decide +kernel) ?_
  show mp_W E X 3 3 [(0, .ref a0), (1, .int x0), (2, .int x1)] [.int x1, .int x0, .ref a0] w1_ 0 0
  refine mp_callV hF (As := [.int x0, .int x1]) (rest := []) (wr := [(mp_arI E a3 0 36 f0), (mp_arL E a4 12 f1), (mp_arI E a5 0 6 f2), (mp_arI E a6 0 10 f3), (mp_arI E a7 0 10 f4), (mp_arI E a8 0 10 f5), (mp_arI E a9 0 10 f6), (mp_arI E a10 0 6 f7), (mp_arL E a11 20 f8), (mp_arI E a12 0 10 f9), (mp_ob2 a13 y7 y8 y9 y10 a14 a15 a16 a33 a17 y11 y12), (mp_arI E a14 0 432 f10), (mp_arI E a15 0 432 f11), (mp_arI E a16 0 72 f12), (mp_arL E a17 78 f13)]) (bX9_canPlan_101 E a0 a1 a2 a18 a19 a20 a13 a21 a22 a23 a24 a10 a25 a26 a11 a12 a27 a3 a4 a28 a5 a29 a6 a7 a30 a8 a9 a31 a32 y0 y1 y2 y3 y4 y5 y6 x0 x1 l_y0 u_y0 l_y2 u_y2 l_y3 u_y3 l_y4 u_y4 l_y5 u_y5 l_y6 u_y6) mp_lkX9_223 0 rfl [0, 1, 2] [3, 4, 5, 6, 7, 8, 9, 10, 11, 12, 13, 14, 15, 16, 17] rfl rfl rfl rfl rfl ⟨(Nat.le_of_ble_eq_true rfl), (Nat.le_of_ble_eq_true rfl), (Nat.le_of_ble_eq_true rfl), (Nat.le_of_ble_eq_true rfl)⟩ (Nat.le_of_ble_eq_true rfl) (by first | exact mp_fd_ok mp_k_cX9_plans_ok (by decide +kernel) | decide +kernel) (fun v_1 w_2 h_3 => ?_)
  refine h_3.elim (fun q_9 => ?_) (fun q_10 => ?_)
  · skip
    refine q_9.elim fun e_11 e_12 => ?_
    clear h_3 q_9
    subst e_11
    subst e_12
    let w2_ : va_W := [(mp_arI E a3 0 36 f0), (mp_arL E a4 12 f1), (mp_arI E a5 0 6 f2), (mp_arI E a6 0 10 f3), (mp_arI E a7 0 10 f4), (mp_arI E a8 0 10 f5), (mp_arI E a9 0 10 f6), (mp_arI E a10 0 6 f7), (mp_arL E a11 20 f8), (mp_arI E a12 0 10 f9), (mp_ob2 a13 y7 y8 y9 y10 a14 a15 a16 a33 a17 y11 y12), (mp_arI E a14 0 432 f10), (mp_arI E a15 0 432 f11), (mp_arI E a16 0 72 f12), (mp_arL E a17 78 f13), (mp_ob9 a0 a18 a1 a19 a20 a13 a21 a22 a23 a24), (mp_ob0 a1 a2 y0 a10 a25 a26 a11 a12 a27), (mp_ob7 a2 y1 y2 y3 y4 y5 y6 a3 a4 a28 a5 a29 a6 a7 a30 a8 a9 a31 a32)]
    show mp_W E X 3 6 [(0, .ref a0), (1, .int x0), (2, .int x1)] [.int 0] w2_ 0 0
    refine mp_run mp_k_cX9_plans_ok hF mp_tabX9_ok [mp_h (.ifCond .ne 7) [13]] (by decide +kernel) ?_
    refine And.intro (fun c_13 => absurd c_13 (by decide)) (fun _ => ?_)
    show mp_W E X 3 9 [(0, .ref a0), (1, .int x0), (2, .int x1)] [] w2_ 0 0
    refine mp_run mp_k_cX9_plans_ok hF mp_tabX9_ok [mp_cl (.ldc2_w 244) (-2)] (by decide +kernel) ?_
    show mp_W E X 3 12 [(0, .ref a0), (1, .int x0), (2, .int x1)] [.long (-2)] w2_ 0 0
    exact mp_lret hF hQ rfl (Nat.le_of_ble_eq_true rfl) (Nat.le_of_ble_eq_true rfl) [15, 16, 17, 0, 1, 2, 3, 4, 5, 6, 7, 8, 9, 10, 11, 12, 13, 14] (w' := w1_) rfl rfl ⟨f9, y7, y8, y9, y10, f10, f11, f12, f13, (-2), rfl, l_y7, u_y7, l_y8, u_y8, l_y9, u_y9, rfl⟩ (by first | exact mp_fd_ok mp_k_cX9_plans_ok (by decide +kernel) | decide +kernel)
  · skip
    refine q_10.elim fun e_14 q_15 => q_15.elim fun c_4 q_16 => q_16.elim fun c_5 q_17 => q_17.elim fun c_6 q_18 => q_18.elim fun c_7 q_19 => q_19.elim fun c_8 e_20 => ?_
    clear h_3 q_10 q_15 q_16 q_17 q_18 q_19
    subst e_14
    subst e_20
    have c_4 : 0 ≤ x0.toInt := c_4
    have c_5 : x0.toInt < y4.toInt := c_5
    have c_6 : 1 ≤ x1.toInt := c_6
    have c_7 : x1.toInt ≤ 12 := c_7
    have c_8 : y0.toInt + x1.toInt ≤ 99 := c_8
    let w3_ : va_W := [(mp_arI E a3 0 36 f0), (mp_arL E a4 12 f1), (mp_arI E a5 0 6 f2), (mp_arI E a6 0 10 f3), (mp_arI E a7 0 10 f4), (mp_arI E a8 0 10 f5), (mp_arI E a9 0 10 f6), (mp_arI E a10 0 6 f7), (mp_arL E a11 20 f8), (mp_arI E a12 0 10 f9), (mp_ob2 a13 y7 y8 y9 y10 a14 a15 a16 a33 a17 y11 y12), (mp_arI E a14 0 432 f10), (mp_arI E a15 0 432 f11), (mp_arI E a16 0 72 f12), (mp_arL E a17 78 f13), (mp_ob9 a0 a18 a1 a19 a20 a13 a21 a22 a23 a24), (mp_ob0 a1 a2 y0 a10 a25 a26 a11 a12 a27), (mp_ob7 a2 y1 y2 y3 y4 y5 y6 a3 a4 a28 a5 a29 a6 a7 a30 a8 a9 a31 a32)]
    show mp_W E X 3 6 [(0, .ref a0), (1, .int x0), (2, .int x1)] [.int 1] w3_ 0 0
    refine mp_run mp_k_cX9_plans_ok hF mp_tabX9_ok [mp_h (.ifCond .ne 7) [13]] (by decide +kernel) ?_
    refine And.intro (fun _ => ?_) (fun c_21 => absurd c_21 (by decide))
    show mp_W E X 3 13 [(0, .ref a0), (1, .int x0), (2, .int x1)] [] w3_ 0 0
    refine mp_run mp_k_cX9_plans_ok hF mp_tabX9_ok [mp_i (.aload_n 0), mp_h (.getfield 39) [40, 15], mp_i (.aload_n 0), mp_h (.getfield 19) [37, 15], mp_i (.iload_n 1), mp_i (.iload_n 2)] (by decide +kernel) ?_
    refine And.intro rfl (And.intro rfl ?_)
    refine And.intro rfl (And.intro rfl ?_)
    show mp_W E X 3 23 [(0, .ref a0), (1, .int x0), (2, .int x1)] [.int x1, .int x0, .ref a1, .ref a13] w3_ 0 0
    refine mp_callV hF (As := [.ref a1, .int x0, .int x1]) (rest := []) (wr := [(mp_arL E a17 78 f13), (mp_ob9 a0 a18 a1 a19 a20 a13 a21 a22 a23 a24)]) (bX2_prepare_107 E a13 a1 a14 a15 a16 a2 a3 a4 a5 a6 a7 a8 a9 a10 a11 a12 a33 a17 a25 a26 a27 a28 a29 a30 a31 a32 f10 f11 f12 f0 f1 f2 f3 f4 f5 f6 f7 f8 f9 y7 y8 y9 y10 y11 y12 y0 y1 y2 y3 y4 y5 y6 x0 x1 p0 p1 p2 p3 p4 p5 (by (first | exact c_4 | omega)) (by (first | exact mp_o398 u_y4 c_5 | omega)) (by (first | exact mp_o254 c_6 | omega)) (by (first | exact c_7 | omega)) l_y7 u_y7 l_y8 u_y8 l_y9 u_y9 l_y0 u_y0 l_y2 u_y2 l_y3 u_y3 l_y4 u_y4 l_y5 u_y5 l_y6 u_y6 (by first | (first | exact c_8 | omega) | (show y0.toInt + x1.toInt ≤ 99; omega))) mp_lkX9_226 10 rfl [10, 11, 12, 13, 16, 17, 0, 1, 2, 3, 4, 5, 6, 7, 8, 9] [14, 15] rfl rfl rfl rfl rfl ⟨(Nat.le_of_ble_eq_true rfl), (Nat.le_of_ble_eq_true rfl), (Nat.le_of_ble_eq_true rfl), (Nat.le_of_ble_eq_true rfl)⟩ (Nat.le_of_ble_eq_true rfl) (by first | exact mp_fd_ok mp_k_cX9_plans_ok (by decide +kernel) | decide +kernel) (fun v_22 w_23 h_24 => ?_)
    refine h_24.elim fun r_25 q_35 => q_35.elim fun r_26 q_36 => q_36.elim fun g_27 q_37 => q_37.elim fun g_28 q_38 => q_38.elim fun g_29 q_39 => q_39.elim fun g_30 q_40 => q_40.elim fun e_41 q_42 => q_42.elim fun l_31 q_43 => q_43.elim fun u_32 q_44 => q_44.elim fun l_33 q_45 => q_45.elim fun u_34 e_46 => ?_
    clear h_24 q_35 q_36 q_37 q_38 q_39 q_40 q_42 q_43 q_44 q_45
    subst e_41
    subst e_46
    let w4_ : va_W := [(mp_arL E a17 78 f13), (mp_ob9 a0 a18 a1 a19 a20 a13 a21 a22 a23 a24), (mp_ob2 a13 y2 x1 r_25 r_26 a14 a15 a16 a33 a17 y11 y12), (mp_arI E a14 0 432 g_27), (mp_arI E a15 0 432 g_28), (mp_arI E a16 0 72 g_29), (mp_ob0 a1 a2 y0 a10 a25 a26 a11 a12 a27), (mp_ob7 a2 y1 y2 y3 y4 y5 y6 a3 a4 a28 a5 a29 a6 a7 a30 a8 a9 a31 a32), (mp_arI E a3 0 36 f0), (mp_arL E a4 12 f1), (mp_arI E a5 0 6 f2), (mp_arI E a6 0 10 f3), (mp_arI E a7 0 10 f4), (mp_arI E a8 0 10 f5), (mp_arI E a9 0 10 f6), (mp_arI E a10 0 6 f7), (mp_arL E a11 20 f8), (mp_arI E a12 0 10 g_30)]
    show mp_W E X 3 26 [(0, .ref a0), (1, .int x0), (2, .int x1)] [] w4_ 0 0
    refine mp_run mp_k_cX9_plans_ok hF mp_tabX9_ok [mp_i (.aload_n 0), mp_h (.getfield 39) [40, 1]] (by decide +kernel) ?_
    refine And.intro rfl (And.intro rfl ?_)
    show mp_W E X 3 30 [(0, .ref a0), (1, .int x0), (2, .int x1)] [.ref a13] w4_ 0 0
    refine mp_callV hF (As := []) (rest := []) (wr := [(mp_ob9 a0 a18 a1 a19 a20 a13 a21 a22 a23 a24), (mp_arI E a16 0 72 g_29), (mp_ob0 a1 a2 y0 a10 a25 a26 a11 a12 a27), (mp_ob7 a2 y1 y2 y3 y4 y5 y6 a3 a4 a28 a5 a29 a6 a7 a30 a8 a9 a31 a32), (mp_arI E a3 0 36 f0), (mp_arL E a4 12 f1), (mp_arI E a5 0 6 f2), (mp_arI E a6 0 10 f3), (mp_arI E a7 0 10 f4), (mp_arI E a8 0 10 f5), (mp_arI E a9 0 10 f6), (mp_arI E a10 0 6 f7), (mp_arL E a11 20 f8), (mp_arI E a12 0 10 g_30)]) (bX2_countPlans_121 E a13 a14 a15 a17 a16 a33 g_27 g_28 f13 y2 x1 r_25 r_26 y11 y12 l_y2 u_y2 (by (first | exact mp_o254 c_6 | omega)) (by (first | exact c_7 | omega)) l_31 u_32) mp_lkX9_246 2 rfl [2, 3, 4, 0] [1, 5, 6, 7, 8, 9, 10, 11, 12, 13, 14, 15, 16, 17] rfl rfl rfl rfl rfl ⟨(Nat.le_of_ble_eq_true rfl), (Nat.le_of_ble_eq_true rfl), (Nat.le_of_ble_eq_true rfl), (Nat.le_of_ble_eq_true rfl)⟩ (Nat.le_of_ble_eq_true rfl) (by first | exact mp_fd_ok mp_k_cX9_plans_ok (by decide +kernel) | decide +kernel) (fun v_47 w_48 h_49 => ?_)
    obtain ⟨g_50, r_51, rfl, rfl⟩ := h_49
    let w5_ : va_W := [(mp_ob9 a0 a18 a1 a19 a20 a13 a21 a22 a23 a24), (mp_arI E a16 0 72 g_29), (mp_ob0 a1 a2 y0 a10 a25 a26 a11 a12 a27), (mp_ob7 a2 y1 y2 y3 y4 y5 y6 a3 a4 a28 a5 a29 a6 a7 a30 a8 a9 a31 a32), (mp_arI E a3 0 36 f0), (mp_arL E a4 12 f1), (mp_arI E a5 0 6 f2), (mp_arI E a6 0 10 f3), (mp_arI E a7 0 10 f4), (mp_arI E a8 0 10 f5), (mp_arI E a9 0 10 f6), (mp_arI E a10 0 6 f7), (mp_arL E a11 20 f8), (mp_arI E a12 0 10 g_30), (mp_ob2 a13 y2 x1 r_25 r_26 a14 a15 a16 a33 a17 y11 y12), (mp_arI E a14 0 432 g_27), (mp_arI E a15 0 432 g_28), (mp_arL E a17 78 g_50)]
    show mp_W E X 3 33 [(0, .ref a0), (1, .int x0), (2, .int x1)] [.long r_51] w5_ 0 0
    exact mp_lret hF hQ rfl (Nat.le_of_ble_eq_true rfl) (Nat.le_of_ble_eq_true rfl) [0, 2, 3, 4, 5, 6, 7, 8, 9, 10, 11, 12, 13, 14, 15, 16, 1, 17] (w' := [(mp_ob9 a0 a18 a1 a19 a20 a13 a21 a22 a23 a24), (mp_ob0 a1 a2 y0 a10 a25 a26 a11 a12 a27), (mp_ob7 a2 y1 y2 y3 y4 y5 y6 a3 a4 a28 a5 a29 a6 a7 a30 a8 a9 a31 a32), (mp_arI E a3 0 36 f0), (mp_arL E a4 12 f1), (mp_arI E a5 0 6 f2), (mp_arI E a6 0 10 f3), (mp_arI E a7 0 10 f4), (mp_arI E a8 0 10 f5), (mp_arI E a9 0 10 f6), (mp_arI E a10 0 6 f7), (mp_arL E a11 20 f8), (mp_arI E a12 0 10 g_30), (mp_ob2 a13 y2 x1 r_25 r_26 a14 a15 a16 a33 a17 y11 y12), (mp_arI E a14 0 432 g_27), (mp_arI E a15 0 432 g_28), (mp_arI E a16 0 72 g_29), (mp_arL E a17 78 g_50)]) rfl rfl ⟨g_30, y2, x1, r_25, r_26, g_27, g_28, g_29, g_50, r_51, rfl, l_y2, u_y2, (by (first | exact mp_o254 c_6 | omega)), (by (first | exact c_7 | omega)), l_31, u_32, rfl⟩ (by first | exact mp_fd_ok mp_k_cX9_plans_ok (by decide +kernel) | decide +kernel)
set_option maxHeartbeats 4000000 in
set_option maxRecDepth 100000 in
theorem bX9_canLove_123 (E : mp_E) (a0 a1 a2 a3 a4 a5 a6 a7 a8 a9 a10 a11 a12 a13 a14 a15 a16 a17 a18 a19 a20 a21 a22 a23 a24 a25 a26 a27 a28 : Nat) (y0 : Int32) (y1 : Int32) (y2 : Int32) (y3 : Int32) (y4 : Int32) (y5 : Int32) (y6 : Int32) (x0 : Int32) (x1 : Int32) (x2 : Int32) (l_y0 : 0 ≤ y0.toInt) (u_y0 : y0.toInt ≤ 99) (l_y2 : 0 ≤ y2.toInt) (u_y2 : y2.toInt ≤ 6) (l_y3 : 0 ≤ y3.toInt) (u_y3 : y3.toInt ≤ 99) (l_y4 : 0 ≤ y4.toInt) (u_y4 : y4.toInt ≤ 6) (l_y5 : 0 ≤ y5.toInt) (u_y5 : y5.toInt ≤ 10) (l_y6 : 0 ≤ y6.toInt) (u_y6 : y6.toInt ≤ 60) : mp_Ct E yX9_canLove cX9_canLove 4 (some FieldType.boolean) 1 0 0 21 [.ref a0, .int x0, .int x1, .int x2] [(mp_ob9 a0 a3 a1 a4 a5 a6 a7 a8 a9 a10), (mp_ob0 a1 a2 y0 a11 a12 a13 a14 a15 a16), (mp_ob7 a2 y1 y2 y3 y4 y5 y6 a17 a18 a19 a20 a21 a22 a23 a24 a25 a26 a27 a28)] (fun v w' => (v = some (.int 0) ∧ w' = [(mp_ob9 a0 a3 a1 a4 a5 a6 a7 a8 a9 a10), (mp_ob0 a1 a2 y0 a11 a12 a13 a14 a15 a16), (mp_ob7 a2 y1 y2 y3 y4 y5 y6 a17 a18 a19 a20 a21 a22 a23 a24 a25 a26 a27 a28)]) ∨ (v = some (.int 1) ∧ 0 ≤ x0.toInt ∧ x0.toInt < y5.toInt ∧ 1 ≤ x1.toInt ∧ 0 ≤ x2.toInt ∧ x2.toInt ≤ 12 ∧ y0.toInt + x2.toInt ≤ 99 ∧ w' = [(mp_ob9 a0 a3 a1 a4 a5 a6 a7 a8 a9 a10), (mp_ob0 a1 a2 y0 a11 a12 a13 a14 a15 a16), (mp_ob7 a2 y1 y2 y3 y4 y5 y6 a17 a18 a19 a20 a21 a22 a23 a24 a25 a26 a27 a28)])) := by
  refine mp_met false (by decide) (by decide) (Nat.le_of_ble_eq_true rfl) (fun X hF hQ => ?_)
  have hF : mp_F E X (RX9, cX9_canLove, 4, (1, 0, 0, 21), (some FieldType.boolean), false) := hF
  let w1_ : va_W := [(mp_ob9 a0 a3 a1 a4 a5 a6 a7 a8 a9 a10), (mp_ob0 a1 a2 y0 a11 a12 a13 a14 a15 a16), (mp_ob7 a2 y1 y2 y3 y4 y5 y6 a17 a18 a19 a20 a21 a22 a23 a24 a25 a26 a27 a28)]
  show mp_W E X 4 0 [(0, .ref a0), (1, .int x0), (2, .int x1), (3, .int x2)] [] w1_ 0 0
  refine mp_run mp_k_cX9_canLove_ok hF mp_tabX9_ok [mp_i (.aload_n 0), mp_h (.getfield 19) [37, 0], mp_h (.getfield 83) [20, 1], mp_i (.iload_n 1)] (by decide +kernel) ?_
  refine And.intro rfl (And.intro rfl ?_)
  refine And.intro rfl (And.intro rfl ?_)
  show mp_W E X 4 8 [(0, .ref a0), (1, .int x0), (2, .int x1), (3, .int x2)] [.int x0, .ref a2] w1_ 0 0
  refine mp_callV hF (As := [.int x0]) (rest := []) (wr := [(mp_ob9 a0 a3 a1 a4 a5 a6 a7 a8 a9 a10), (mp_ob0 a1 a2 y0 a11 a12 a13 a14 a15 a16)]) (bX7_isPromise_53 E a2 a17 a18 a19 a20 a21 a22 a23 a24 a25 a26 a27 a28 y1 y2 y3 y4 y5 y6 x0 l_y2 u_y2 l_y3 u_y3 l_y4 u_y4 l_y5 u_y5 l_y6 u_y6) mp_lkX9_120 2 rfl [2] [0, 1] rfl rfl rfl rfl rfl ⟨(Nat.le_of_ble_eq_true rfl), (Nat.le_of_ble_eq_true rfl), (Nat.le_of_ble_eq_true rfl), (Nat.le_of_ble_eq_true rfl)⟩ (Nat.le_of_ble_eq_true rfl) (by first | exact mp_fd_ok mp_k_cX9_canLove_ok (by decide +kernel) | decide +kernel) (fun v_1 w_2 h_3 => ?_)
  rcases h_3 with ⟨rfl, x_4, rfl⟩ | ⟨rfl, c_5, c_6, x_7, rfl⟩
  · skip
    show mp_W E X 4 11 [(0, .ref a0), (1, .int x0), (2, .int x1), (3, .int x2)] [.int 0] w1_ 0 0
    refine mp_run mp_k_cX9_canLove_ok hF mp_tabX9_ok [mp_h (.ifCond .eq 36) [47]] (by decide +kernel) ?_
    refine And.intro (fun _ => ?_) (fun c_8 => absurd c_8 (by decide))
    show mp_W E X 4 47 [(0, .ref a0), (1, .int x0), (2, .int x1), (3, .int x2)] [] w1_ 0 0
    refine mp_run mp_k_cX9_canLove_ok hF mp_tabX9_ok [mp_c (.iconst 0) 0] (by decide +kernel) ?_
    show mp_W E X 4 48 [(0, .ref a0), (1, .int x0), (2, .int x1), (3, .int x2)] [.int 0] w1_ 0 0
    exact mp_iret hF hQ rfl (by decide) (Nat.le_of_ble_eq_true rfl) (Nat.le_of_ble_eq_true rfl) [0, 1, 2] (w' := w1_) rfl rfl (Or.inl ⟨rfl, rfl⟩) (by first | exact mp_fd_ok mp_k_cX9_canLove_ok (by decide +kernel) | decide +kernel)
  · skip
    have c_5 : 0 ≤ x0.toInt := c_5
    have c_6 : x0.toInt < y5.toInt := c_6
    show mp_W E X 4 11 [(0, .ref a0), (1, .int x0), (2, .int x1), (3, .int x2)] [.int 1] w1_ 0 0
    refine mp_run mp_k_cX9_canLove_ok hF mp_tabX9_ok [mp_h (.ifCond .eq 36) [47]] (by decide +kernel) ?_
    refine And.intro (fun c_9 => absurd c_9 (by decide)) (fun _ => ?_)
    show mp_W E X 4 14 [(0, .ref a0), (1, .int x0), (2, .int x1), (3, .int x2)] [] w1_ 0 0
    refine mp_run mp_k_cX9_canLove_ok hF mp_tabX9_ok [mp_i (.iload_n 2), mp_c (.iconst 1) 1, mp_h (.if_icmp .lt 31) [47]] (by decide +kernel) ?_
    refine And.intro (fun c_10 => ?_) (fun c_10 => ?_)
    · have c_10 : x1.toInt < 1 := c_10
      show mp_W E X 4 47 [(0, .ref a0), (1, .int x0), (2, .int x1), (3, .int x2)] [] w1_ 0 0
      refine mp_run mp_k_cX9_canLove_ok hF mp_tabX9_ok [mp_c (.iconst 0) 0] (by decide +kernel) ?_
      show mp_W E X 4 48 [(0, .ref a0), (1, .int x0), (2, .int x1), (3, .int x2)] [.int 0] w1_ 0 0
      exact mp_iret hF hQ rfl (by decide) (Nat.le_of_ble_eq_true rfl) (Nat.le_of_ble_eq_true rfl) [0, 1, 2] (w' := w1_) rfl rfl (Or.inl ⟨rfl, rfl⟩) (by first | exact mp_fd_ok mp_k_cX9_canLove_ok (by decide +kernel) | decide +kernel)
    · have c_10 : 1 ≤ x1.toInt := c_10
      show mp_W E X 4 19 [(0, .ref a0), (1, .int x0), (2, .int x1), (3, .int x2)] [] w1_ 0 0
      refine mp_run mp_k_cX9_canLove_ok hF mp_tabX9_ok [mp_i (.iload_n 3), mp_h (.ifCond .lt 27) [47]] (by decide +kernel) ?_
      refine And.intro (fun c_11 => ?_) (fun c_11 => ?_)
      · have c_11 : x2.toInt < 0 := c_11
        show mp_W E X 4 47 [(0, .ref a0), (1, .int x0), (2, .int x1), (3, .int x2)] [] w1_ 0 0
        refine mp_run mp_k_cX9_canLove_ok hF mp_tabX9_ok [mp_c (.iconst 0) 0] (by decide +kernel) ?_
        show mp_W E X 4 48 [(0, .ref a0), (1, .int x0), (2, .int x1), (3, .int x2)] [.int 0] w1_ 0 0
        exact mp_iret hF hQ rfl (by decide) (Nat.le_of_ble_eq_true rfl) (Nat.le_of_ble_eq_true rfl) [0, 1, 2] (w' := w1_) rfl rfl (Or.inl ⟨rfl, rfl⟩) (by first | exact mp_fd_ok mp_k_cX9_canLove_ok (by decide +kernel) | decide +kernel)
      · have c_11 : 0 ≤ x2.toInt := c_11
        show mp_W E X 4 23 [(0, .ref a0), (1, .int x0), (2, .int x1), (3, .int x2)] [] w1_ 0 0
        refine mp_run mp_k_cX9_canLove_ok hF mp_tabX9_ok [mp_i (.iload_n 3), mp_c (.bipush 12) 12, mp_h (.if_icmp .gt 21) [47]] (by decide +kernel) ?_
        refine And.intro (fun c_12 => ?_) (fun c_12 => ?_)
        · have c_12 : 12 < x2.toInt := c_12
          show mp_W E X 4 47 [(0, .ref a0), (1, .int x0), (2, .int x1), (3, .int x2)] [] w1_ 0 0
          refine mp_run mp_k_cX9_canLove_ok hF mp_tabX9_ok [mp_c (.iconst 0) 0] (by decide +kernel) ?_
          show mp_W E X 4 48 [(0, .ref a0), (1, .int x0), (2, .int x1), (3, .int x2)] [.int 0] w1_ 0 0
          exact mp_iret hF hQ rfl (by decide) (Nat.le_of_ble_eq_true rfl) (Nat.le_of_ble_eq_true rfl) [0, 1, 2] (w' := w1_) rfl rfl (Or.inl ⟨rfl, rfl⟩) (by first | exact mp_fd_ok mp_k_cX9_canLove_ok (by decide +kernel) | decide +kernel)
        · have c_12 : x2.toInt ≤ 12 := c_12
          show mp_W E X 4 29 [(0, .ref a0), (1, .int x0), (2, .int x1), (3, .int x2)] [] w1_ 0 0
          refine mp_run mp_k_cX9_canLove_ok hF mp_tabX9_ok [mp_i (.aload_n 0), mp_h (.getfield 19) [37, 0], mp_h (.getfield 166) [21, 1], mp_i (.iload_n 3), mp_i .iadd, mp_c (.bipush 99) 99, mp_h (.if_icmp .gt 7) [47]] (by decide +kernel) ?_
          refine And.intro rfl (And.intro rfl ?_)
          refine And.intro rfl (And.intro rfl ?_)
          intro z_13 h_14
          have e_15 : z_13.toInt = y0.toInt + x2.toInt := mp_add (a := y0.toInt) (b := x2.toInt) h_14 rfl rfl (by (first | exact mp_o116 l_y0 c_11 | omega)) (by (first | exact mp_o525 u_y0 c_12 | omega))
          refine And.intro (fun c_16 => ?_) (fun c_16 => ?_)
          · have c_16 : 99 < z_13.toInt := c_16
            show mp_W E X 4 47 [(0, .ref a0), (1, .int x0), (2, .int x1), (3, .int x2)] [] w1_ 0 0
            refine mp_run mp_k_cX9_canLove_ok hF mp_tabX9_ok [mp_c (.iconst 0) 0] (by decide +kernel) ?_
            show mp_W E X 4 48 [(0, .ref a0), (1, .int x0), (2, .int x1), (3, .int x2)] [.int 0] w1_ 0 0
            exact mp_iret hF hQ rfl (by decide) (Nat.le_of_ble_eq_true rfl) (Nat.le_of_ble_eq_true rfl) [0, 1, 2] (w' := w1_) rfl rfl (Or.inl ⟨rfl, rfl⟩) (by first | exact mp_fd_ok mp_k_cX9_canLove_ok (by decide +kernel) | decide +kernel)
          · have c_16 : z_13.toInt ≤ 99 := c_16
            show mp_W E X 4 43 [(0, .ref a0), (1, .int x0), (2, .int x1), (3, .int x2)] [] w1_ 0 0
            refine mp_run mp_k_cX9_canLove_ok hF mp_tabX9_ok [mp_c (.iconst 1) 1, mp_h (.goto 4) [48]] (by decide +kernel) ?_
            show mp_W E X 4 48 [(0, .ref a0), (1, .int x0), (2, .int x1), (3, .int x2)] [.int 1] w1_ 0 0
            exact mp_iret hF hQ rfl (by decide) (Nat.le_of_ble_eq_true rfl) (Nat.le_of_ble_eq_true rfl) [0, 1, 2] (w' := w1_) rfl rfl (Or.inr ⟨rfl, (by first | (first | exact c_5 | omega) | decide), (by first | (first | exact c_6 | omega) | decide), (by first | (first | exact c_10 | omega) | decide), (by first | (first | exact c_11 | omega) | decide), (by first | (first | exact c_12 | omega) | decide), (by first | (first | exact mp_o526 e_15 c_16 | omega) | decide), rfl⟩) (by first | exact mp_fd_ok mp_k_cX9_canLove_ok (by decide +kernel) | decide +kernel)
set_option maxHeartbeats 4000000 in
set_option maxRecDepth 100000 in
theorem bX2_leastTo_124 (E : mp_E) (a0 a1 a2 a3 a4 a5 : Nat) (f0 : Nat → Int32) (f1 : Nat → Int32) (y0 : Int32) (y1 : Int32) (y2 : Int32) (y3 : Int32) (y4 : Int32) (y5 : Int32) (x0 : Int32) (x1 : Int32) (l_x0 : 0 ≤ x0.toInt) (u_x0 : x0.toInt ≤ 11) (l_x1 : 0 ≤ x1.toInt) (u_x1 : x1.toInt ≤ 5) (l_y0 : 0 ≤ y0.toInt) (u_y0 : y0.toInt ≤ 6) (l_y1 : 0 ≤ y1.toInt) (u_y1 : y1.toInt ≤ 12) (l_y2 : 0 ≤ y2.toInt) (u_y2 : y2.toInt ≤ 5) : mp_Ct E yX2_leastTo cX2_leastTo 7 (some FieldType.int) 1 0 0 22 [.ref a0, .int x0, .int x1] [(mp_ob2 a0 y0 y1 y2 y3 a1 a3 a4 a2 a5 y4 y5), (mp_arI E a1 0 432 f0), (mp_arI E a2 0 78 f1)] (fun v w' => ∃ r1 : Int32, v = some (.int r1) ∧ w' = [(mp_ob2 a0 y0 y1 y2 y3 a1 a3 a4 a2 a5 y4 y5), (mp_arI E a1 0 432 f0), (mp_arI E a2 0 78 f1)]) := by
  refine mp_met false (by decide) (by decide) (Nat.le_of_ble_eq_true rfl) (fun X hF hQ => ?_)
  have hF : mp_F E X (RX2, cX2_leastTo, 7, (1, 0, 0, 22), (some FieldType.int), false) := hF
  let w1_ : va_W := [(mp_ob2 a0 y0 y1 y2 y3 a1 a3 a4 a2 a5 y4 y5), (mp_arI E a1 0 432 f0), (mp_arI E a2 0 78 f1)]
  show mp_W E X 7 0 [(0, .ref a0), (1, .int x0), (2, .int x1)] [] w1_ 0 0
  refine mp_run mp_k_cX2_leastTo_ok hF mp_tabX2_ok [mp_c (.iconst (-1)) (-1), mp_i (.istore_n 3), mp_c (.iconst 0) 0, mp_i (.istore 4)] (by decide +kernel) ?_
  show mp_W E X 7 5 [(4, .int 0), (3, .int (-1)), (0, .ref a0), (1, .int x0), (2, .int x1)] [] w1_ 0 0
  have lp_5 : ∀ (d_6 : Nat) (i_1 : Int32) (i_2 : Int32), 0 ≤ i_1.toInt → i_1.toInt ≤ 6 → y0.toInt - i_1.toInt ≤ (d_6 : Int) → mp_W E X 7 5 [(4, .int i_1), (3, .int i_2), (0, .ref a0), (1, .int x0), (2, .int x1)] [] [(mp_ob2 a0 y0 y1 y2 y3 a1 a3 a4 a2 a5 y4 y5), (mp_arI E a1 0 432 f0), (mp_arI E a2 0 78 f1)] 0 0 := by
    intro d_6
    induction d_6 using Nat.strongRecOn with
    | ind d_6 ih_7 =>
      intro i_1 i_2 l_3 u_4 hm_8
      refine mp_run mp_k_cX2_leastTo_ok hF mp_tabX2_ok [mp_i (.iload 4), mp_i (.aload_n 0), mp_h (.getfield 51) [7, 0], mp_h (.if_icmp .ge 69) [80]] (by decide +kernel) ?_
      refine And.intro rfl (And.intro rfl ?_)
      refine And.intro (fun c_9 => ?_) (fun c_9 => ?_)
      · have c_9 : y0.toInt ≤ i_1.toInt := c_9
        show mp_W E X 7 80 [(4, .int i_1), (3, .int i_2), (0, .ref a0), (1, .int x0), (2, .int x1)] [] w1_ 0 0
        refine mp_run mp_k_cX2_leastTo_ok hF mp_tabX2_ok [mp_i (.iload_n 3)] (by decide +kernel) ?_
        show mp_W E X 7 81 [(4, .int i_1), (3, .int i_2), (0, .ref a0), (1, .int x0), (2, .int x1)] [.int i_2] w1_ 0 0
        exact mp_iret hF hQ rfl rfl (Nat.le_of_ble_eq_true rfl) (Nat.le_of_ble_eq_true rfl) [0, 1, 2] (w' := w1_) rfl rfl ⟨i_2, rfl, rfl⟩ (by first | exact mp_fd_ok mp_k_cX2_leastTo_ok (by decide +kernel) | decide +kernel)
      · have c_9 : i_1.toInt < y0.toInt := c_9
        show mp_W E X 7 14 [(4, .int i_1), (3, .int i_2), (0, .ref a0), (1, .int x0), (2, .int x1)] [] w1_ 0 0
        refine mp_run mp_k_cX2_leastTo_ok hF mp_tabX2_ok [mp_i (.aload_n 0), mp_h (.getfield 21) [14, 0], mp_i (.iload_n 1), mp_c (.bipush 6) 6, mp_i .imul, mp_i (.iload 4), mp_i .iadd, mp_h .iaload [2], mp_i (.istore 5), mp_i (.aload_n 0), mp_h (.getfield 11) [11, 0], mp_i (.iload_n 1), mp_i (.iload 4), mp_i (.iload_n 2)] (by decide +kernel) ?_
        refine And.intro rfl (And.intro rfl ?_)
        intro z_10 h_11
        have e_12 : z_10.toInt = x0.toInt * 6 := mp_mul (a := x0.toInt) (b := 6) h_11 rfl (by decide) (by (first | exact mp_o249 l_x0 | omega)) (by (first | exact mp_o581 u_x0 | omega))
        intro z_13 h_14
        have e_15 : z_13.toInt = z_10.toInt + i_1.toInt := mp_add (a := z_10.toInt) (b := i_1.toInt) h_14 rfl rfl (by (first | exact mp_o251 l_3 l_x0 e_12 | omega)) (by (first | exact mp_o582 u_4 u_x0 e_12 | omega))
        refine And.intro rfl (And.intro rfl (And.intro (vp_in_iff.mpr (by (first | exact mp_o583 l_x0 u_x0 l_3 u_4 e_12 e_15 | omega))) ?_))
        intro z_16 h_17
        refine And.intro rfl (And.intro rfl ?_)
        show mp_W E X 7 36 [(5, .int z_16), (4, .int i_1), (3, .int i_2), (0, .ref a0), (1, .int x0), (2, .int x1)] [.int x1, .int i_1, .int x0, .ref a1] w1_ 0 0
        refine mp_callS hF (As := [.int x0, .int i_1, .int x1]) (rest := [.ref a1]) (wr := w1_) (bX2_leg_102 E x0 i_1 x1 l_x0 u_x0 l_3 (by (first | exact mp_o398 u_y0 c_9 | omega)) l_x1 u_x1) mp_lkX2_61 [] [0, 1, 2] rfl rfl rfl rfl rfl ⟨(Nat.le_of_ble_eq_true rfl), (Nat.le_of_ble_eq_true rfl), (Nat.le_of_ble_eq_true rfl), (Nat.le_of_ble_eq_true rfl)⟩ (Nat.le_of_ble_eq_true rfl) (by first | exact mp_fd_ok mp_k_cX2_leastTo_ok (by decide +kernel) | decide +kernel) (fun v_18 w_19 h_20 => ?_)
        obtain ⟨r_21, rfl, l_22, u_23, rfl⟩ := h_20
        show mp_W E X 7 39 [(5, .int z_16), (4, .int i_1), (3, .int i_2), (0, .ref a0), (1, .int x0), (2, .int x1)] [.int r_21, .ref a1] w1_ 0 0
        refine mp_run mp_k_cX2_leastTo_ok hF mp_tabX2_ok [mp_h .iaload [1], mp_i (.istore 6), mp_i (.iload 5), mp_c (.iconst (-1)) (-1), mp_h (.if_icmp .eq 29) [74]] (by decide +kernel) ?_
        refine And.intro rfl (And.intro rfl (And.intro (vp_in_iff.mpr (by (first | exact mp_o543 l_22 u_23 | omega))) ?_))
        intro z_24 h_25
        refine And.intro (fun c_26 => ?_) (fun c_26 => ?_)
        · have c_26 : z_16.toInt = (-1) := (congrArg Int32.toInt c_26)
          show mp_W E X 7 74 [(6, .int z_24), (5, .int z_16), (4, .int i_1), (3, .int i_2), (0, .ref a0), (1, .int x0), (2, .int x1)] [] w1_ 0 0
          refine mp_run mp_k_cX2_leastTo_ok hF mp_tabX2_ok [mp_c (.iinc 4 1) 1, mp_h (.goto (-72)) [5]] (by decide +kernel) ?_
          intro z_27 h_28
          have e_29 : z_27.toInt = i_1.toInt + 1 := mp_add (a := i_1.toInt) (b := 1) h_28 rfl (by decide) (by (first | exact mp_o2 l_3 | omega)) (by (first | exact mp_o351 u_4 | omega))
          show mp_W E X 7 5 [(4, .int z_27), (6, .int z_24), (5, .int z_16), (3, .int i_2), (0, .ref a0), (1, .int x0), (2, .int x1)] [] w1_ 0 0
          exact mp_sub [0, 3, 4, 5, 6] rfl [0, 1, 2] rfl rfl (ih_7 (d_6 - 1) (by (first | exact mp_o72 hm_8 c_9 | omega)) z_27 i_2 (by (first | exact mp_o51 l_3 e_29 | omega)) (by (first | exact mp_o352 u_y0 c_9 e_29 | omega)) (by (first | exact mp_o77 hm_8 e_29 | omega)))
        · have c_26 : z_16.toInt ≠ (-1) := c_26
          show mp_W E X 7 48 [(6, .int z_24), (5, .int z_16), (4, .int i_1), (3, .int i_2), (0, .ref a0), (1, .int x0), (2, .int x1)] [] w1_ 0 0
          refine mp_run mp_k_cX2_leastTo_ok hF mp_tabX2_ok [mp_i (.iload 6), mp_c (.iconst (-1)) (-1), mp_h (.if_icmp .eq 23) [74]] (by decide +kernel) ?_
          refine And.intro (fun c_30 => ?_) (fun c_30 => ?_)
          · have c_30 : z_24.toInt = (-1) := (congrArg Int32.toInt c_30)
            show mp_W E X 7 74 [(6, .int z_24), (5, .int z_16), (4, .int i_1), (3, .int i_2), (0, .ref a0), (1, .int x0), (2, .int x1)] [] w1_ 0 0
            refine mp_run mp_k_cX2_leastTo_ok hF mp_tabX2_ok [mp_c (.iinc 4 1) 1, mp_h (.goto (-72)) [5]] (by decide +kernel) ?_
            intro z_31 h_32
            have e_33 : z_31.toInt = i_1.toInt + 1 := mp_add (a := i_1.toInt) (b := 1) h_32 rfl (by decide) (by omega) (by omega)
            show mp_W E X 7 5 [(4, .int z_31), (6, .int z_24), (5, .int z_16), (3, .int i_2), (0, .ref a0), (1, .int x0), (2, .int x1)] [] w1_ 0 0
            exact mp_sub [0, 3, 4, 5, 6] rfl [0, 1, 2] rfl rfl (ih_7 (d_6 - 1) (by omega) z_31 i_2 (by omega) (by omega) (by omega))
          · have c_30 : z_24.toInt ≠ (-1) := c_30
            show mp_W E X 7 54 [(6, .int z_24), (5, .int z_16), (4, .int i_1), (3, .int i_2), (0, .ref a0), (1, .int x0), (2, .int x1)] [] w1_ 0 0
            refine mp_run mp_k_cX2_leastTo_ok hF mp_tabX2_ok [mp_i (.iload_n 3), mp_c (.iconst (-1)) (-1), mp_h (.if_icmp .eq 12) [68]] (by decide +kernel) ?_
            refine And.intro (fun c_34 => ?_) (fun c_34 => ?_)
            · have c_34 : i_2.toInt = (-1) := (congrArg Int32.toInt c_34)
              show mp_W E X 7 68 [(6, .int z_24), (5, .int z_16), (4, .int i_1), (3, .int i_2), (0, .ref a0), (1, .int x0), (2, .int x1)] [] w1_ 0 0
              refine mp_run mp_k_cX2_leastTo_ok hF mp_tabX2_ok [mp_i (.iload 5), mp_i (.iload 6), mp_i .iadd, mp_i (.istore_n 3), mp_c (.iinc 4 1) 1, mp_h (.goto (-72)) [5]] (by decide +kernel) ?_
              intro z_35 h_36
              have e_37 := mp_bnd z_16
              have e_38 := mp_bnd z_24
              intro z_40 h_41
              have e_42 : z_40.toInt = i_1.toInt + 1 := mp_add (a := i_1.toInt) (b := 1) h_41 rfl (by decide) (by (first | exact mp_o2 l_3 | omega)) (by (first | exact mp_o351 u_4 | omega))
              show mp_W E X 7 5 [(4, .int z_40), (3, .int z_35), (6, .int z_24), (5, .int z_16), (0, .ref a0), (1, .int x0), (2, .int x1)] [] w1_ 0 0
              exact mp_sub [0, 1, 4, 5, 6] rfl [0, 1, 2] rfl rfl (ih_7 (d_6 - 1) (by (first | exact mp_o72 hm_8 c_9 | omega)) z_40 z_35 (by (first | exact mp_o51 l_3 e_42 | omega)) (by (first | exact mp_o352 u_y0 c_9 e_42 | omega)) (by (first | exact mp_o77 hm_8 e_42 | omega)))
            · have c_34 : i_2.toInt ≠ (-1) := c_34
              show mp_W E X 7 59 [(6, .int z_24), (5, .int z_16), (4, .int i_1), (3, .int i_2), (0, .ref a0), (1, .int x0), (2, .int x1)] [] w1_ 0 0
              refine mp_run mp_k_cX2_leastTo_ok hF mp_tabX2_ok [mp_i (.iload 5), mp_i (.iload 6), mp_i .iadd, mp_i (.iload_n 3), mp_h (.if_icmp .ge 9) [74]] (by decide +kernel) ?_
              intro z_43 h_44
              have e_45 := mp_bnd z_16
              have e_46 := mp_bnd z_24
              refine And.intro (fun c_48 => ?_) (fun c_48 => ?_)
              · have c_48 : i_2.toInt ≤ z_43.toInt := c_48
                show mp_W E X 7 74 [(6, .int z_24), (5, .int z_16), (4, .int i_1), (3, .int i_2), (0, .ref a0), (1, .int x0), (2, .int x1)] [] w1_ 0 0
                refine mp_run mp_k_cX2_leastTo_ok hF mp_tabX2_ok [mp_c (.iinc 4 1) 1, mp_h (.goto (-72)) [5]] (by decide +kernel) ?_
                intro z_49 h_50
                have e_51 : z_49.toInt = i_1.toInt + 1 := mp_add (a := i_1.toInt) (b := 1) h_50 rfl (by decide) (by (first | exact mp_o2 l_3 | omega)) (by (first | exact mp_o351 u_4 | omega))
                show mp_W E X 7 5 [(4, .int z_49), (6, .int z_24), (5, .int z_16), (3, .int i_2), (0, .ref a0), (1, .int x0), (2, .int x1)] [] w1_ 0 0
                exact mp_sub [0, 3, 4, 5, 6] rfl [0, 1, 2] rfl rfl (ih_7 (d_6 - 1) (by (first | exact mp_o72 hm_8 c_9 | omega)) z_49 i_2 (by (first | exact mp_o51 l_3 e_51 | omega)) (by (first | exact mp_o352 u_y0 c_9 e_51 | omega)) (by (first | exact mp_o77 hm_8 e_51 | omega)))
              · have c_48 : z_43.toInt < i_2.toInt := c_48
                show mp_W E X 7 68 [(6, .int z_24), (5, .int z_16), (4, .int i_1), (3, .int i_2), (0, .ref a0), (1, .int x0), (2, .int x1)] [] w1_ 0 0
                refine mp_run mp_k_cX2_leastTo_ok hF mp_tabX2_ok [mp_i (.iload 5), mp_i (.iload 6), mp_i .iadd, mp_i (.istore_n 3), mp_c (.iinc 4 1) 1, mp_h (.goto (-72)) [5]] (by decide +kernel) ?_
                intro z_52 h_53
                have e_54 := mp_bnd z_16
                have e_55 := mp_bnd z_24
                intro z_57 h_58
                have e_59 : z_57.toInt = i_1.toInt + 1 := mp_add (a := i_1.toInt) (b := 1) h_58 rfl (by decide) (by (first | exact mp_o2 l_3 | omega)) (by (first | exact mp_o351 u_4 | omega))
                show mp_W E X 7 5 [(4, .int z_57), (3, .int z_52), (6, .int z_24), (5, .int z_16), (0, .ref a0), (1, .int x0), (2, .int x1)] [] w1_ 0 0
                exact mp_sub [0, 1, 4, 5, 6] rfl [0, 1, 2] rfl rfl (ih_7 (d_6 - 1) (by omega) z_57 z_52 (by omega) (by omega) (by omega))
  exact mp_sub [0, 1, 2, 3, 4] rfl [0, 1, 2] rfl rfl (lp_5 _ 0 (-1) (by decide) (by decide) (Int.self_le_toNat _))
set_option maxHeartbeats 4000000 in
set_option maxRecDepth 100000 in
theorem bX2_layReach_125 (E : mp_E) (a0 a1 a2 a3 a4 a5 : Nat) (f0 : Nat → Int32) (f1 : Nat → Int32) (y0 : Int32) (y1 : Int32) (y2 : Int32) (y3 : Int32) (y4 : Int32) (y5 : Int32) (l_y0 : 0 ≤ y0.toInt) (u_y0 : y0.toInt ≤ 6) (l_y1 : 0 ≤ y1.toInt) (u_y1 : y1.toInt ≤ 12) (l_y2 : 0 ≤ y2.toInt) (u_y2 : y2.toInt ≤ 5) : mp_Ct E yX2_layReach cX2_layReach 3 none 2 0 0 48 [.ref a0] [(mp_ob2 a0 y0 y1 y2 y3 a1 a3 a4 a2 a5 y4 y5), (mp_arI E a1 0 432 f0), (mp_arI E a2 0 78 f1)] (fun v w' => ∃ h1 : Nat → Int32, v = none ∧ w' = [(mp_ob2 a0 y0 y1 y2 y3 a1 a3 a4 a2 a5 y4 y5), (mp_arI E a1 0 432 f0), (mp_arI E a2 0 78 h1)]) := by
  refine mp_met false (by decide) (by decide) (Nat.le_of_ble_eq_true rfl) (fun X hF hQ => ?_)
  have hF : mp_F E X (RX2, cX2_layReach, 3, (2, 0, 0, 48), none, false) := hF
  let w1_ : va_W := [(mp_ob2 a0 y0 y1 y2 y3 a1 a3 a4 a2 a5 y4 y5), (mp_arI E a1 0 432 f0), (mp_arI E a2 0 78 f1)]
  show mp_W E X 3 0 [(0, .ref a0)] [] w1_ 0 0
  refine mp_run mp_k_cX2_layReach_ok hF mp_tabX2_ok [mp_c (.iconst 0) 0, mp_i (.istore_n 1)] (by decide +kernel) ?_
  show mp_W E X 3 2 [(1, .int 0), (0, .ref a0)] [] w1_ 0 0
  have lp_5 : ∀ (d_6 : Nat) (i_1 : Int32) (g_2 : Nat → Int32), 0 ≤ i_1.toInt → i_1.toInt ≤ 6 → y0.toInt - i_1.toInt ≤ (d_6 : Int) → mp_W E X 3 2 [(1, .int i_1), (0, .ref a0)] [] [(mp_ob2 a0 y0 y1 y2 y3 a1 a3 a4 a2 a5 y4 y5), (mp_arI E a1 0 432 f0), (mp_arI E a2 0 78 g_2)] 0 0 := by
    intro d_6
    induction d_6 using Nat.strongRecOn with
    | ind d_6 ih_7 =>
      intro i_1 g_2 l_3 u_4 hm_8
      refine mp_run mp_k_cX2_layReach_ok hF mp_tabX2_ok [mp_i (.iload_n 1), mp_i (.aload_n 0), mp_h (.getfield 51) [7, 0], mp_h (.if_icmp .ge 28) [35]] (by decide +kernel) ?_
      refine And.intro rfl (And.intro rfl ?_)
      refine And.intro (fun c_9 => ?_) (fun c_9 => ?_)
      · have c_9 : y0.toInt ≤ i_1.toInt := c_9
        let w2_ : va_W := [(mp_ob2 a0 y0 y1 y2 y3 a1 a3 a4 a2 a5 y4 y5), (mp_arI E a1 0 432 f0), (mp_arI E a2 0 78 g_2)]
        show mp_W E X 3 35 [(1, .int i_1), (0, .ref a0)] [] w2_ 0 0
        refine mp_run mp_k_cX2_layReach_ok hF mp_tabX2_ok [mp_c (.iconst 0) 0, mp_i (.istore_n 1)] (by decide +kernel) ?_
        show mp_W E X 3 37 [(1, .int 0), (0, .ref a0)] [] w2_ 0 0
        have lp_14 : ∀ (d_15 : Nat) (i_10 : Int32) (g_11 : Nat → Int32), 0 ≤ i_10.toInt → i_10.toInt ≤ 12 → y1.toInt - i_10.toInt ≤ (d_15 : Int) → mp_W E X 3 37 [(1, .int i_10), (0, .ref a0)] [] [(mp_ob2 a0 y0 y1 y2 y3 a1 a3 a4 a2 a5 y4 y5), (mp_arI E a1 0 432 f0), (mp_arI E a2 0 78 g_11)] 0 0 := by
          intro d_15
          induction d_15 using Nat.strongRecOn with
          | ind d_15 ih_16 =>
            intro i_10 g_11 l_12 u_13 hm_17
            refine mp_run mp_k_cX2_layReach_ok hF mp_tabX2_ok [mp_i (.iload_n 1), mp_i (.aload_n 0), mp_h (.getfield 52) [8, 0], mp_h (.if_icmp .ge 44) [86]] (by decide +kernel) ?_
            refine And.intro rfl (And.intro rfl ?_)
            refine And.intro (fun c_18 => ?_) (fun c_18 => ?_)
            · have c_18 : y1.toInt ≤ i_10.toInt := c_18
              let w3_ : va_W := [(mp_ob2 a0 y0 y1 y2 y3 a1 a3 a4 a2 a5 y4 y5), (mp_arI E a1 0 432 f0), (mp_arI E a2 0 78 g_11)]
              show mp_W E X 3 86 [(1, .int i_10), (0, .ref a0)] [] w3_ 0 0
              exact mp_vret hF hQ rfl (Nat.le_of_ble_eq_true rfl) (Nat.le_of_ble_eq_true rfl) [0, 1, 2] (w' := w3_) rfl rfl ⟨g_11, rfl, rfl⟩ (by first | exact mp_fd_ok mp_k_cX2_layReach_ok (by decide +kernel) | decide +kernel)
            · have c_18 : i_10.toInt < y1.toInt := c_18
              let w4_ : va_W := [(mp_ob2 a0 y0 y1 y2 y3 a1 a3 a4 a2 a5 y4 y5), (mp_arI E a1 0 432 f0), (mp_arI E a2 0 78 g_11)]
              show mp_W E X 3 45 [(1, .int i_10), (0, .ref a0)] [] w4_ 0 0
              refine mp_run mp_k_cX2_layReach_ok hF mp_tabX2_ok [mp_c (.iconst 0) 0, mp_i (.istore_n 2)] (by decide +kernel) ?_
              show mp_W E X 3 47 [(2, .int 0), (1, .int i_10), (0, .ref a0)] [] w4_ 0 0
              have lp_23 : ∀ (d_24 : Nat) (i_19 : Int32) (g_20 : Nat → Int32), 0 ≤ i_19.toInt → i_19.toInt ≤ 6 → y0.toInt - i_19.toInt ≤ (d_24 : Int) → mp_W E X 3 47 [(2, .int i_19), (1, .int i_10), (0, .ref a0)] [] [(mp_ob2 a0 y0 y1 y2 y3 a1 a3 a4 a2 a5 y4 y5), (mp_arI E a1 0 432 f0), (mp_arI E a2 0 78 g_20)] 0 0 := by
                intro d_24
                induction d_24 using Nat.strongRecOn with
                | ind d_24 ih_25 =>
                  intro i_19 g_20 l_21 u_22 hm_26
                  refine mp_run mp_k_cX2_layReach_ok hF mp_tabX2_ok [mp_i (.iload_n 2), mp_i (.aload_n 0), mp_h (.getfield 51) [7, 0], mp_h (.if_icmp .ge 28) [80]] (by decide +kernel) ?_
                  refine And.intro rfl (And.intro rfl ?_)
                  refine And.intro (fun c_27 => ?_) (fun c_27 => ?_)
                  · have c_27 : y0.toInt ≤ i_19.toInt := c_27
                    let w5_ : va_W := [(mp_ob2 a0 y0 y1 y2 y3 a1 a3 a4 a2 a5 y4 y5), (mp_arI E a1 0 432 f0), (mp_arI E a2 0 78 g_20)]
                    show mp_W E X 3 80 [(2, .int i_19), (1, .int i_10), (0, .ref a0)] [] w5_ 0 0
                    refine mp_run mp_k_cX2_layReach_ok hF mp_tabX2_ok [mp_c (.iinc 1 1) 1, mp_h (.goto (-46)) [37]] (by decide +kernel) ?_
                    intro z_28 h_29
                    have e_30 : z_28.toInt = i_10.toInt + 1 := mp_add (a := i_10.toInt) (b := 1) h_29 rfl (by decide) (by (first | exact mp_o2 l_12 | omega)) (by (first | exact mp_o535 u_13 | omega))
                    show mp_W E X 3 37 [(1, .int z_28), (2, .int i_19), (0, .ref a0)] [] w5_ 0 0
                    exact mp_sub [0, 2] rfl [0, 1, 2] rfl rfl (ih_16 (d_15 - 1) (by (first | exact mp_o72 hm_17 c_18 | omega)) z_28 g_20 (by (first | exact mp_o51 l_12 e_30 | omega)) (by (first | exact mp_o536 u_y1 c_18 e_30 | omega)) (by (first | exact mp_o77 hm_17 e_30 | omega)))
                  · have c_27 : i_19.toInt < y0.toInt := c_27
                    let w6_ : va_W := [(mp_ob2 a0 y0 y1 y2 y3 a1 a3 a4 a2 a5 y4 y5), (mp_arI E a1 0 432 f0), (mp_arI E a2 0 78 g_20)]
                    show mp_W E X 3 55 [(2, .int i_19), (1, .int i_10), (0, .ref a0)] [] w6_ 0 0
                    refine mp_run mp_k_cX2_layReach_ok hF mp_tabX2_ok [mp_i (.aload_n 0), mp_h (.getfield 21) [14, 0], mp_i (.iload_n 1), mp_c (.iconst 1) 1, mp_i .iadd, mp_c (.bipush 6) 6, mp_i .imul, mp_i (.iload_n 2), mp_i .iadd, mp_i (.aload_n 0), mp_i (.iload_n 1), mp_i (.iload_n 2)] (by decide +kernel) ?_
                    refine And.intro rfl (And.intro rfl ?_)
                    intro z_31 h_32
                    have e_33 : z_31.toInt = i_10.toInt + 1 := mp_add (a := i_10.toInt) (b := 1) h_32 rfl (by decide) (by (first | exact mp_o2 l_12 | omega)) (by (first | exact mp_o535 u_13 | omega))
                    intro z_34 h_35
                    have e_36 : z_34.toInt = z_31.toInt * 6 := mp_mul (a := z_31.toInt) (b := 6) h_35 rfl (by decide) (by (first | exact mp_o570 l_12 e_33 | omega)) (by (first | exact mp_o599 u_13 e_33 | omega))
                    intro z_37 h_38
                    have e_39 : z_37.toInt = z_34.toInt + i_19.toInt := mp_add (a := z_34.toInt) (b := i_19.toInt) h_38 rfl rfl (by (first | exact mp_o572 l_21 l_12 e_33 e_36 | omega)) (by (first | exact mp_o600 u_22 u_13 e_33 e_36 | omega))
                    show mp_W E X 3 70 [(2, .int i_19), (1, .int i_10), (0, .ref a0)] [.int i_19, .int i_10, .ref a0, .int z_37, .ref a2] w6_ 0 0
                    refine mp_callV hF (As := [.int i_10, .int i_19]) (rest := [.int z_37, .ref a2]) (wr := []) (bX2_leastTo_124 E a0 a1 a2 a3 a4 a5 f0 g_20 y0 y1 y2 y3 y4 y5 i_10 i_19 l_12 (by (first | exact mp_o538 u_y1 c_18 | omega)) l_21 (by (first | exact mp_o398 u_y0 c_27 | omega)) l_y0 u_y0 l_y1 u_y1 l_y2 u_y2) mp_lkX2_137 0 rfl [0, 1, 2] [] rfl rfl rfl rfl rfl ⟨(Nat.le_of_ble_eq_true rfl), (Nat.le_of_ble_eq_true rfl), (Nat.le_of_ble_eq_true rfl), (Nat.le_of_ble_eq_true rfl)⟩ (Nat.le_of_ble_eq_true rfl) (by first | exact mp_fd_ok mp_k_cX2_layReach_ok (by decide +kernel) | decide +kernel) (fun v_40 w_41 h_42 => ?_)
                    obtain ⟨r_43, rfl, rfl⟩ := h_42
                    show mp_W E X 3 73 [(2, .int i_19), (1, .int i_10), (0, .ref a0)] [.int r_43, .int z_37, .ref a2] w6_ 0 0
                    refine mp_run mp_k_cX2_layReach_ok hF mp_tabX2_ok [mp_h .iastore [2]] (by decide +kernel) ?_
                    refine And.intro rfl (And.intro rfl (And.intro (vp_in_iff.mpr (by (first | exact mp_o601 l_12 l_21 e_33 e_36 e_39 u_y1 c_18 u_y0 c_27 | omega))) ?_))
                    intro g_44 h_45
                    let w7_ : va_W := [(mp_ob2 a0 y0 y1 y2 y3 a1 a3 a4 a2 a5 y4 y5), (mp_arI E a1 0 432 f0), (mp_arI E a2 0 78 g_44)]
                    show mp_W E X 3 74 [(2, .int i_19), (1, .int i_10), (0, .ref a0)] [] w7_ 0 0
                    refine mp_run mp_k_cX2_layReach_ok hF mp_tabX2_ok [mp_c (.iinc 2 1) 1, mp_h (.goto (-30)) [47]] (by decide +kernel) ?_
                    intro z_46 h_47
                    have e_48 : z_46.toInt = i_19.toInt + 1 := mp_add (a := i_19.toInt) (b := 1) h_47 rfl (by decide) (by (first | exact mp_o2 l_21 | omega)) (by (first | exact mp_o351 u_22 | omega))
                    show mp_W E X 3 47 [(2, .int z_46), (1, .int i_10), (0, .ref a0)] [] w7_ 0 0
                    exact mp_sub [0, 1, 2] rfl [0, 1, 2] rfl rfl (ih_25 (d_24 - 1) (by (first | exact mp_o72 hm_26 c_27 | omega)) z_46 g_44 (by (first | exact mp_o51 l_21 e_48 | omega)) (by (first | exact mp_o352 u_y0 c_27 e_48 | omega)) (by (first | exact mp_o77 hm_26 e_48 | omega)))
              exact mp_sub [0, 1, 2] rfl [0, 1, 2] rfl rfl (lp_23 _ 0 g_11 (by decide) (by decide) (Int.self_le_toNat _))
        exact mp_sub [0, 1] rfl [0, 1, 2] rfl rfl (lp_14 _ 0 g_2 (by decide) (by decide) (Int.self_le_toNat _))
      · have c_9 : i_1.toInt < y0.toInt := c_9
        let w8_ : va_W := [(mp_ob2 a0 y0 y1 y2 y3 a1 a3 a4 a2 a5 y4 y5), (mp_arI E a1 0 432 f0), (mp_arI E a2 0 78 g_2)]
        show mp_W E X 3 10 [(1, .int i_1), (0, .ref a0)] [] w8_ 0 0
        refine mp_run mp_k_cX2_layReach_ok hF mp_tabX2_ok [mp_i (.aload_n 0), mp_h (.getfield 21) [14, 0], mp_i (.iload_n 1), mp_i (.iload_n 1), mp_i (.aload_n 0), mp_h (.getfield 58) [9, 0], mp_h (.if_icmp .ne 7) [27]] (by decide +kernel) ?_
        refine And.intro rfl (And.intro rfl ?_)
        refine And.intro rfl (And.intro rfl ?_)
        refine And.intro (fun c_49 => ?_) (fun c_49 => ?_)
        · have c_49 : i_1.toInt ≠ y2.toInt := c_49
          show mp_W E X 3 27 [(1, .int i_1), (0, .ref a0)] [.int i_1, .ref a2] w8_ 0 0
          refine mp_run mp_k_cX2_layReach_ok hF mp_tabX2_ok [mp_c (.iconst (-1)) (-1), mp_h .iastore [2]] (by decide +kernel) ?_
          refine And.intro rfl (And.intro rfl (And.intro (vp_in_iff.mpr (by (first | exact mp_o602 l_3 u_4 | omega))) ?_))
          intro g_50 h_51
          let w9_ : va_W := [(mp_ob2 a0 y0 y1 y2 y3 a1 a3 a4 a2 a5 y4 y5), (mp_arI E a1 0 432 f0), (mp_arI E a2 0 78 g_50)]
          show mp_W E X 3 29 [(1, .int i_1), (0, .ref a0)] [] w9_ 0 0
          refine mp_run mp_k_cX2_layReach_ok hF mp_tabX2_ok [mp_c (.iinc 1 1) 1, mp_h (.goto (-30)) [2]] (by decide +kernel) ?_
          intro z_52 h_53
          have e_54 : z_52.toInt = i_1.toInt + 1 := mp_add (a := i_1.toInt) (b := 1) h_53 rfl (by decide) (by (first | exact mp_o2 l_3 | omega)) (by (first | exact mp_o351 u_4 | omega))
          show mp_W E X 3 2 [(1, .int z_52), (0, .ref a0)] [] w9_ 0 0
          exact mp_sub [0, 1] rfl [0, 1, 2] rfl rfl (ih_7 (d_6 - 1) (by (first | exact mp_o72 hm_8 c_9 | omega)) z_52 g_50 (by (first | exact mp_o51 l_3 e_54 | omega)) (by (first | exact mp_o352 u_y0 c_9 e_54 | omega)) (by (first | exact mp_o77 hm_8 e_54 | omega)))
        · have c_49 : i_1.toInt = y2.toInt := (congrArg Int32.toInt c_49)
          show mp_W E X 3 23 [(1, .int i_1), (0, .ref a0)] [.int i_1, .ref a2] w8_ 0 0
          refine mp_run mp_k_cX2_layReach_ok hF mp_tabX2_ok [mp_c (.iconst 0) 0, mp_h (.goto 4) [28], mp_h .iastore [2]] (by decide +kernel) ?_
          refine And.intro rfl (And.intro rfl (And.intro (vp_in_iff.mpr (by (first | exact mp_o603 l_y2 c_49 u_y2 | omega))) ?_))
          intro g_55 h_56
          let w10_ : va_W := [(mp_ob2 a0 y0 y1 y2 y3 a1 a3 a4 a2 a5 y4 y5), (mp_arI E a1 0 432 f0), (mp_arI E a2 0 78 g_55)]
          show mp_W E X 3 29 [(1, .int i_1), (0, .ref a0)] [] w10_ 0 0
          refine mp_run mp_k_cX2_layReach_ok hF mp_tabX2_ok [mp_c (.iinc 1 1) 1, mp_h (.goto (-30)) [2]] (by decide +kernel) ?_
          intro z_57 h_58
          have e_59 : z_57.toInt = i_1.toInt + 1 := mp_add (a := i_1.toInt) (b := 1) h_58 rfl (by decide) (by (first | exact mp_o298 l_y2 c_49 | omega)) (by (first | exact mp_o604 u_y2 c_49 | omega))
          show mp_W E X 3 2 [(1, .int z_57), (0, .ref a0)] [] w10_ 0 0
          exact mp_sub [0, 1] rfl [0, 1, 2] rfl rfl (ih_7 (d_6 - 1) (by omega) z_57 g_55 (by (first | exact mp_o605 l_y2 c_49 e_59 | omega)) (by (first | exact mp_o606 u_y2 c_49 e_59 | omega)) (by omega))
  exact mp_sub [0, 1] rfl [0, 1, 2] rfl rfl (lp_5 _ 0 f1 (by decide) (by decide) (Int.self_le_toNat _))
set_option maxHeartbeats 4000000 in
set_option maxRecDepth 100000 in
theorem bX2_seekLove_126 (E : mp_E) (a0 a1 a2 a3 a4 a5 a6 a7 a8 a9 a10 a11 a12 a13 a14 a15 a16 a17 a18 a19 a20 a21 a22 a23 a24 a25 : Nat) (f0 : Nat → Int32) (f1 : Nat → Int32) (f2 : Nat → Int32) (f3 : Nat → Int64) (f4 : Nat → Int32) (f5 : Nat → Int32) (f6 : Nat → Int32) (f7 : Nat → Int32) (f8 : Nat → Int32) (f9 : Nat → Int32) (f10 : Nat → Int32) (f11 : Nat → Int32) (f12 : Nat → Int64) (f13 : Nat → Int32) (y0 : Int32) (y1 : Int32) (y2 : Int32) (y3 : Int32) (y4 : Int32) (y5 : Int32) (y6 : Int32) (y7 : Int32) (y8 : Int32) (y9 : Int32) (y10 : Int32) (y11 : Int32) (y12 : Int32) (x0 : Int32) (x1 : Int32) (x2 : Int32) (p0 : mp_all f2 36 0 20) (p1 : mp_all f5 10 0 5) (p2 : mp_all f6 10 0 5) (p3 : mp_all f8 10 0 99) (p4 : mp_all f9 10 0 1) (p5 : mp_all f10 10 (-1) 9) (p6 : mp_all f11 6 0 5) (l_x0 : 0 ≤ x0.toInt) (u_x0 : x0.toInt ≤ 9) (l_x2 : 0 ≤ x2.toInt) (u_x2 : x2.toInt ≤ 12) (l_y0 : 0 ≤ y0.toInt) (u_y0 : y0.toInt ≤ 6) (l_y1 : 0 ≤ y1.toInt) (u_y1 : y1.toInt ≤ 12) (l_y2 : 0 ≤ y2.toInt) (u_y2 : y2.toInt ≤ 5) (l_y6 : 0 ≤ y6.toInt) (u_y6 : y6.toInt ≤ 99) (l_y8 : 0 ≤ y8.toInt) (u_y8 : y8.toInt ≤ 6) (l_y9 : 0 ≤ y9.toInt) (u_y9 : y9.toInt ≤ 99) (l_y10 : 0 ≤ y10.toInt) (u_y10 : y10.toInt ≤ 6) (l_y11 : 0 ≤ y11.toInt) (u_y11 : y11.toInt ≤ 10) (l_y12 : 0 ≤ y12.toInt) (u_y12 : y12.toInt ≤ 60) (q0 : y6.toInt + x2.toInt ≤ 99) : mp_Ct E yX2_seekLove cX2_seekLove 11 none 3 0 0 75 [.ref a0, .ref a1, .int x0, .int x1, .int x2] [(mp_ob2 a0 y0 y1 y2 y3 a2 a17 a18 a3 a19 y4 y5), (mp_arI E a2 0 432 f0), (mp_arI E a3 0 78 f1), (mp_ob0 a1 a4 y6 a14 a20 a21 a15 a16 a22), (mp_ob7 a4 y7 y8 y9 y10 y11 y12 a5 a6 a23 a7 a24 a8 a9 a10 a11 a12 a13 a25), (mp_arI E a5 0 36 f2), (mp_arL E a6 12 f3), (mp_arI E a7 0 6 f4), (mp_arI E a8 0 10 f5), (mp_arI E a9 0 10 f6), (mp_arI E a10 0 10 f7), (mp_arI E a11 0 10 f8), (mp_arI E a12 0 10 f9), (mp_arI E a13 0 10 f10), (mp_arI E a14 0 6 f11), (mp_arL E a15 20 f12), (mp_arI E a16 0 10 f13)] (fun v w' => ∃ r1 : Int32, ∃ r2 : Int32, ∃ r3 : Int32, ∃ r4 : Int32, ∃ r5 : Int32, ∃ h6 : Nat → Int32, ∃ h7 : Nat → Int32, ∃ h8 : Nat → Int32, v = none ∧ 0 ≤ r1.toInt ∧ r1.toInt ≤ 6 ∧ 0 ≤ r2.toInt ∧ r2.toInt ≤ 12 ∧ 0 ≤ r3.toInt ∧ r3.toInt ≤ 5 ∧ (-1) ≤ r5.toInt ∧ r5.toInt ≤ 240 ∧ w' = [(mp_ob2 a0 r1 r2 r3 y3 a2 a17 a18 a3 a19 r4 r5), (mp_arI E a2 0 432 h6), (mp_arI E a3 0 78 h7), (mp_ob0 a1 a4 y6 a14 a20 a21 a15 a16 a22), (mp_ob7 a4 y7 y8 y9 y10 y11 y12 a5 a6 a23 a7 a24 a8 a9 a10 a11 a12 a13 a25), (mp_arI E a5 0 36 f2), (mp_arL E a6 12 f3), (mp_arI E a7 0 6 f4), (mp_arI E a8 0 10 f5), (mp_arI E a9 0 10 f6), (mp_arI E a10 0 10 f7), (mp_arI E a11 0 10 f8), (mp_arI E a12 0 10 f9), (mp_arI E a13 0 10 f10), (mp_arI E a14 0 6 f11), (mp_arL E a15 20 f12), (mp_arI E a16 0 10 h8)]) := by
  refine mp_met false (by decide) (by decide) (Nat.le_of_ble_eq_true rfl) (fun X hF hQ => ?_)
  have hF : mp_F E X (RX2, cX2_seekLove, 11, (3, 0, 0, 75), none, false) := hF
  let w1_ : va_W := [(mp_ob2 a0 y0 y1 y2 y3 a2 a17 a18 a3 a19 y4 y5), (mp_arI E a2 0 432 f0), (mp_arI E a3 0 78 f1), (mp_ob0 a1 a4 y6 a14 a20 a21 a15 a16 a22), (mp_ob7 a4 y7 y8 y9 y10 y11 y12 a5 a6 a23 a7 a24 a8 a9 a10 a11 a12 a13 a25), (mp_arI E a5 0 36 f2), (mp_arL E a6 12 f3), (mp_arI E a7 0 6 f4), (mp_arI E a8 0 10 f5), (mp_arI E a9 0 10 f6), (mp_arI E a10 0 10 f7), (mp_arI E a11 0 10 f8), (mp_arI E a12 0 10 f9), (mp_arI E a13 0 10 f10), (mp_arI E a14 0 6 f11), (mp_arL E a15 20 f12), (mp_arI E a16 0 10 f13)]
  show mp_W E X 11 0 [(0, .ref a0), (1, .ref a1), (2, .int x0), (3, .int x1), (4, .int x2)] [] w1_ 0 0
  refine mp_run mp_k_cX2_seekLove_ok hF mp_tabX2_ok [mp_i (.aload_n 1), mp_h (.getfield 39) [4, 3], mp_i (.astore 5), mp_i (.aload_n 1), mp_h (.getfield 65) [5, 3], mp_i (.iload 4), mp_i .iadd, mp_i (.istore 6), mp_i (.aload_n 1), mp_i (.aload_n 1), mp_h (.getfield 65) [5, 3]] (by decide +kernel) ?_
  refine And.intro rfl (And.intro rfl ?_)
  refine And.intro rfl (And.intro rfl ?_)
  intro z_1 h_2
  have e_3 : z_1.toInt = y6.toInt + x2.toInt := mp_add (a := y6.toInt) (b := x2.toInt) h_2 rfl rfl (by (first | exact mp_o116 l_y6 l_x2 | omega)) (by (first | exact mp_o607 q0 | omega))
  refine And.intro rfl (And.intro rfl ?_)
  show mp_W E X 11 20 [(6, .int z_1), (5, .ref a4), (0, .ref a0), (1, .ref a1), (2, .int x0), (3, .int x1), (4, .int x2)] [.int y6, .ref a1] w1_ 0 0
  refine mp_callV hF (As := [.int y6]) (rest := []) (wr := [(mp_ob2 a0 y0 y1 y2 y3 a2 a17 a18 a3 a19 y4 y5), (mp_arI E a2 0 432 f0), (mp_arI E a3 0 78 f1), (mp_arI E a5 0 36 f2), (mp_arL E a6 12 f3), (mp_arI E a7 0 6 f4), (mp_arI E a8 0 10 f5), (mp_arI E a9 0 10 f6), (mp_arI E a10 0 10 f7), (mp_arI E a12 0 10 f9), (mp_arI E a13 0 10 f10), (mp_arI E a14 0 6 f11)]) (bX0_lastsAt_61 E a1 a4 a11 a15 a16 a14 a20 a21 a22 a5 a6 a23 a7 a24 a8 a9 a10 a12 a13 a25 f8 f12 f13 y6 y7 y8 y9 y10 y11 y12 y6 p3 l_y6 u_y6 l_y8 u_y8 l_y9 u_y9 l_y10 u_y10 l_y11 u_y11 l_y12 u_y12) mp_lkX2_91 3 rfl [3, 4, 11, 15, 16] [0, 1, 2, 5, 6, 7, 8, 9, 10, 12, 13, 14] rfl rfl rfl rfl rfl ⟨(Nat.le_of_ble_eq_true rfl), (Nat.le_of_ble_eq_true rfl), (Nat.le_of_ble_eq_true rfl), (Nat.le_of_ble_eq_true rfl)⟩ (Nat.le_of_ble_eq_true rfl) (by first | exact mp_fd_ok mp_k_cX2_seekLove_ok (by decide +kernel) | decide +kernel) (fun v_4 w_5 h_6 => ?_)
  obtain ⟨g_7, rfl, rfl⟩ := h_6
  let w2_ : va_W := [(mp_ob2 a0 y0 y1 y2 y3 a2 a17 a18 a3 a19 y4 y5), (mp_arI E a2 0 432 f0), (mp_arI E a3 0 78 f1), (mp_arI E a5 0 36 f2), (mp_arL E a6 12 f3), (mp_arI E a7 0 6 f4), (mp_arI E a8 0 10 f5), (mp_arI E a9 0 10 f6), (mp_arI E a10 0 10 f7), (mp_arI E a12 0 10 f9), (mp_arI E a13 0 10 f10), (mp_arI E a14 0 6 f11), (mp_ob0 a1 a4 y6 a14 a20 a21 a15 a16 a22), (mp_ob7 a4 y7 y8 y9 y10 y11 y12 a5 a6 a23 a7 a24 a8 a9 a10 a11 a12 a13 a25), (mp_arI E a11 0 10 f8), (mp_arL E a15 20 f12), (mp_arI E a16 0 10 g_7)]
  show mp_W E X 11 23 [(6, .int z_1), (5, .ref a4), (0, .ref a0), (1, .ref a1), (2, .int x0), (3, .int x1), (4, .int x2)] [.ref a16] w2_ 0 0
  refine mp_run mp_k_cX2_seekLove_ok hF mp_tabX2_ok [mp_i (.astore 7), mp_i (.aload_n 0), mp_c (.iconst (-1)) (-1), mp_h (.putfield 124) [16, 0]] (by decide +kernel) ?_
  refine And.intro rfl (And.intro rfl (And.intro rfl (And.intro rfl (And.intro (Nat.le_of_ble_eq_true rfl) ?_))))
  let w3_ : va_W := [(mp_ob2 a0 y0 y1 y2 y3 a2 a17 a18 a3 a19 (-1) y5), (mp_arI E a2 0 432 f0), (mp_arI E a3 0 78 f1), (mp_arI E a5 0 36 f2), (mp_arL E a6 12 f3), (mp_arI E a7 0 6 f4), (mp_arI E a8 0 10 f5), (mp_arI E a9 0 10 f6), (mp_arI E a10 0 10 f7), (mp_arI E a12 0 10 f9), (mp_arI E a13 0 10 f10), (mp_arI E a14 0 6 f11), (mp_ob0 a1 a4 y6 a14 a20 a21 a15 a16 a22), (mp_ob7 a4 y7 y8 y9 y10 y11 y12 a5 a6 a23 a7 a24 a8 a9 a10 a11 a12 a13 a25), (mp_arI E a11 0 10 f8), (mp_arL E a15 20 f12), (mp_arI E a16 0 10 g_7)]
  show mp_W E X 11 30 [(7, .ref a16), (6, .int z_1), (5, .ref a4), (0, .ref a0), (1, .ref a1), (2, .int x0), (3, .int x1), (4, .int x2)] [] w3_ 0 0
  refine mp_run mp_k_cX2_seekLove_ok hF mp_tabX2_ok [mp_i (.aload_n 0), mp_c (.iconst (-1)) (-1), mp_h (.putfield 127) [17, 0]] (by decide +kernel) ?_
  refine And.intro rfl (And.intro rfl (And.intro rfl (And.intro rfl (And.intro (Nat.le_of_ble_eq_true rfl) ?_))))
  let w4_ : va_W := [(mp_ob2 a0 y0 y1 y2 y3 a2 a17 a18 a3 a19 (-1) (-1)), (mp_arI E a2 0 432 f0), (mp_arI E a3 0 78 f1), (mp_arI E a5 0 36 f2), (mp_arL E a6 12 f3), (mp_arI E a7 0 6 f4), (mp_arI E a8 0 10 f5), (mp_arI E a9 0 10 f6), (mp_arI E a10 0 10 f7), (mp_arI E a12 0 10 f9), (mp_arI E a13 0 10 f10), (mp_arI E a14 0 6 f11), (mp_ob0 a1 a4 y6 a14 a20 a21 a15 a16 a22), (mp_ob7 a4 y7 y8 y9 y10 y11 y12 a5 a6 a23 a7 a24 a8 a9 a10 a11 a12 a13 a25), (mp_arI E a11 0 10 f8), (mp_arL E a15 20 f12), (mp_arI E a16 0 10 g_7)]
  show mp_W E X 11 35 [(7, .ref a16), (6, .int z_1), (5, .ref a4), (0, .ref a0), (1, .ref a1), (2, .int x0), (3, .int x1), (4, .int x2)] [] w4_ 0 0
  refine mp_run mp_k_cX2_seekLove_ok hF mp_tabX2_ok [mp_i (.aload 5), mp_i (.aload 7), mp_i (.iload_n 2), mp_i (.iload 6)] (by decide +kernel) ?_
  show mp_W E X 11 42 [(7, .ref a16), (6, .int z_1), (5, .ref a4), (0, .ref a0), (1, .ref a1), (2, .int x0), (3, .int x1), (4, .int x2)] [.int z_1, .int x0, .ref a16, .ref a4] w4_ 0 0
  refine mp_callV hF (As := [.ref a16, .int x0, .int z_1]) (rest := []) (wr := [(mp_ob2 a0 y0 y1 y2 y3 a2 a17 a18 a3 a19 (-1) (-1)), (mp_arI E a2 0 432 f0), (mp_arI E a3 0 78 f1), (mp_arI E a5 0 36 f2), (mp_arL E a6 12 f3), (mp_arI E a9 0 10 f6), (mp_arI E a14 0 6 f11), (mp_ob0 a1 a4 y6 a14 a20 a21 a15 a16 a22), (mp_arL E a15 20 f12)]) (bX7_worthBy_66 E a4 a16 a7 a8 a10 a11 a12 a13 a5 a6 a23 a24 a9 a25 f4 f5 f7 f8 f9 f10 g_7 y7 y8 y9 y10 y11 y12 x0 z_1 p1 p3 p4 p5 l_x0 u_x0 l_y8 u_y8 l_y9 u_y9 l_y10 u_y10 l_y11 u_y11 l_y12 u_y12) mp_lkX2_130 13 rfl [13, 5, 6, 8, 14, 9, 10, 16] [0, 1, 2, 3, 4, 7, 11, 12, 15] rfl rfl rfl rfl rfl ⟨(Nat.le_of_ble_eq_true rfl), (Nat.le_of_ble_eq_true rfl), (Nat.le_of_ble_eq_true rfl), (Nat.le_of_ble_eq_true rfl)⟩ (Nat.le_of_ble_eq_true rfl) (by first | exact mp_fd_ok mp_k_cX2_seekLove_ok (by decide +kernel) | decide +kernel) (fun v_8 w_9 h_10 => ?_)
  obtain ⟨r_11, rfl, rfl⟩ := h_10
  let w5_ : va_W := [(mp_ob2 a0 y0 y1 y2 y3 a2 a17 a18 a3 a19 (-1) (-1)), (mp_arI E a2 0 432 f0), (mp_arI E a3 0 78 f1), (mp_arI E a5 0 36 f2), (mp_arL E a6 12 f3), (mp_arI E a9 0 10 f6), (mp_arI E a14 0 6 f11), (mp_ob0 a1 a4 y6 a14 a20 a21 a15 a16 a22), (mp_arL E a15 20 f12), (mp_ob7 a4 y7 y8 y9 y10 y11 y12 a5 a6 a23 a7 a24 a8 a9 a10 a11 a12 a13 a25), (mp_arI E a7 0 6 f4), (mp_arI E a8 0 10 f5), (mp_arI E a10 0 10 f7), (mp_arI E a11 0 10 f8), (mp_arI E a12 0 10 f9), (mp_arI E a13 0 10 f10), (mp_arI E a16 0 10 g_7)]
  show mp_W E X 11 45 [(7, .ref a16), (6, .int z_1), (5, .ref a4), (0, .ref a0), (1, .ref a1), (2, .int x0), (3, .int x1), (4, .int x2)] [.int r_11] w5_ 0 0
  refine mp_run mp_k_cX2_seekLove_ok hF mp_tabX2_ok [mp_i (.iload_n 3), mp_h (.if_icmp .lt 17) [63]] (by decide +kernel) ?_
  refine And.intro (fun c_12 => ?_) (fun c_12 => ?_)
  · have c_12 : r_11.toInt < x1.toInt := c_12
    show mp_W E X 11 63 [(7, .ref a16), (6, .int z_1), (5, .ref a4), (0, .ref a0), (1, .ref a1), (2, .int x0), (3, .int x1), (4, .int x2)] [] w5_ 0 0
    refine mp_run mp_k_cX2_seekLove_ok hF mp_tabX2_ok [mp_i (.aload_n 0), mp_i (.aload_n 1), mp_i (.aload 5), mp_h (.getfield 81) [2, 9], mp_i (.iload_n 2), mp_h .iaload [11], mp_i (.iload 4)] (by decide +kernel) ?_
    refine And.intro rfl (And.intro rfl ?_)
    refine And.intro rfl (And.intro rfl (And.intro (vp_in_iff.mpr (by (first | exact mp_o181 l_x0 u_x0 | omega))) ?_))
    intro z_13 h_14
    have e_15 : 0 ≤ z_13.toInt ∧ z_13.toInt ≤ 5 := mp_all_ld h_14 p1 (by (first | exact l_x0 | omega)) (by (first | exact mp_o208 u_x0 | omega))
    show mp_W E X 11 74 [(7, .ref a16), (6, .int z_1), (5, .ref a4), (0, .ref a0), (1, .ref a1), (2, .int x0), (3, .int x1), (4, .int x2)] [.int x2, .int z_13, .ref a1, .ref a0] w5_ 0 0
    refine mp_callV hF (As := [.ref a1, .int z_13, .int x2]) (rest := []) (wr := [(mp_arI E a3 0 78 f1), (mp_arI E a9 0 10 f6), (mp_arL E a15 20 f12), (mp_arI E a8 0 10 f5), (mp_arI E a10 0 10 f7), (mp_arI E a11 0 10 f8), (mp_arI E a12 0 10 f9), (mp_arI E a13 0 10 f10), (mp_arI E a16 0 10 g_7)]) (bX2_layLegs_103 E a0 a1 a2 a4 a5 a6 a7 a14 a17 a18 a3 a19 a20 a21 a15 a16 a22 a23 a24 a8 a9 a10 a11 a12 a13 a25 f0 f2 f3 f4 f11 y0 y1 y2 y3 (-1) (-1) y6 y7 y8 y9 y10 y11 y12 z_13 x2 p0 p6 e_15.1 e_15.2 l_x2 u_x2 l_y0 u_y0 l_y1 u_y1 l_y2 u_y2 l_y6 u_y6 l_y8 u_y8 l_y9 u_y9 l_y10 u_y10 l_y11 u_y11 l_y12 u_y12 (by first | (first | exact q0 | omega) | (show y6.toInt + x2.toInt ≤ 99; omega))) mp_lkX2_28 0 rfl [0, 1, 7, 9, 3, 4, 10, 6] [2, 5, 8, 11, 12, 13, 14, 15, 16] rfl rfl rfl rfl rfl ⟨(Nat.le_of_ble_eq_true rfl), (Nat.le_of_ble_eq_true rfl), (Nat.le_of_ble_eq_true rfl), (Nat.le_of_ble_eq_true rfl)⟩ (Nat.le_of_ble_eq_true rfl) (by first | exact mp_fd_ok mp_k_cX2_seekLove_ok (by decide +kernel) | decide +kernel) (fun v_16 w_17 h_18 => ?_)
    refine h_18.elim fun r_19 q_23 => q_23.elim fun g_20 q_24 => q_24.elim fun e_25 q_26 => q_26.elim fun l_21 q_27 => q_27.elim fun u_22 e_28 => ?_
    clear h_18 q_23 q_24 q_26 q_27
    subst e_25
    subst e_28
    let w6_ : va_W := [(mp_arI E a3 0 78 f1), (mp_arI E a9 0 10 f6), (mp_arL E a15 20 f12), (mp_arI E a8 0 10 f5), (mp_arI E a10 0 10 f7), (mp_arI E a11 0 10 f8), (mp_arI E a12 0 10 f9), (mp_arI E a13 0 10 f10), (mp_arI E a16 0 10 g_7), (mp_ob2 a0 y8 x2 r_19 y3 a2 a17 a18 a3 a19 (-1) (-1)), (mp_arI E a2 0 432 g_20), (mp_ob0 a1 a4 y6 a14 a20 a21 a15 a16 a22), (mp_ob7 a4 y7 y8 y9 y10 y11 y12 a5 a6 a23 a7 a24 a8 a9 a10 a11 a12 a13 a25), (mp_arI E a5 0 36 f2), (mp_arL E a6 12 f3), (mp_arI E a7 0 6 f4), (mp_arI E a14 0 6 f11)]
    show mp_W E X 11 77 [(7, .ref a16), (6, .int z_1), (5, .ref a4), (0, .ref a0), (1, .ref a1), (2, .int x0), (3, .int x1), (4, .int x2)] [] w6_ 0 0
    refine mp_run mp_k_cX2_seekLove_ok hF mp_tabX2_ok [mp_i (.aload_n 0)] (by decide +kernel) ?_
    show mp_W E X 11 78 [(7, .ref a16), (6, .int z_1), (5, .ref a4), (0, .ref a0), (1, .ref a1), (2, .int x0), (3, .int x1), (4, .int x2)] [.ref a0] w6_ 0 0
    refine mp_callV hF (As := []) (rest := []) (wr := [(mp_arI E a9 0 10 f6), (mp_arL E a15 20 f12), (mp_arI E a8 0 10 f5), (mp_arI E a10 0 10 f7), (mp_arI E a11 0 10 f8), (mp_arI E a12 0 10 f9), (mp_arI E a13 0 10 f10), (mp_arI E a16 0 10 g_7), (mp_ob0 a1 a4 y6 a14 a20 a21 a15 a16 a22), (mp_ob7 a4 y7 y8 y9 y10 y11 y12 a5 a6 a23 a7 a24 a8 a9 a10 a11 a12 a13 a25), (mp_arI E a5 0 36 f2), (mp_arL E a6 12 f3), (mp_arI E a7 0 6 f4), (mp_arI E a14 0 6 f11)]) (bX2_layReach_125 E a0 a2 a3 a17 a18 a19 g_20 f1 y8 x2 r_19 y3 (-1) (-1) l_y8 u_y8 l_x2 u_x2 l_21 u_22) mp_lkX2_134 9 rfl [9, 10, 0] [1, 2, 3, 4, 5, 6, 7, 8, 11, 12, 13, 14, 15, 16] rfl rfl rfl rfl rfl ⟨(Nat.le_of_ble_eq_true rfl), (Nat.le_of_ble_eq_true rfl), (Nat.le_of_ble_eq_true rfl), (Nat.le_of_ble_eq_true rfl)⟩ (Nat.le_of_ble_eq_true rfl) (by first | exact mp_fd_ok mp_k_cX2_seekLove_ok (by decide +kernel) | decide +kernel) (fun v_29 w_30 h_31 => ?_)
    obtain ⟨g_32, rfl, rfl⟩ := h_31
    let w7_ : va_W := [(mp_arI E a9 0 10 f6), (mp_arL E a15 20 f12), (mp_arI E a8 0 10 f5), (mp_arI E a10 0 10 f7), (mp_arI E a11 0 10 f8), (mp_arI E a12 0 10 f9), (mp_arI E a13 0 10 f10), (mp_arI E a16 0 10 g_7), (mp_ob0 a1 a4 y6 a14 a20 a21 a15 a16 a22), (mp_ob7 a4 y7 y8 y9 y10 y11 y12 a5 a6 a23 a7 a24 a8 a9 a10 a11 a12 a13 a25), (mp_arI E a5 0 36 f2), (mp_arL E a6 12 f3), (mp_arI E a7 0 6 f4), (mp_arI E a14 0 6 f11), (mp_ob2 a0 y8 x2 r_19 y3 a2 a17 a18 a3 a19 (-1) (-1)), (mp_arI E a2 0 432 g_20), (mp_arI E a3 0 78 g_32)]
    show mp_W E X 11 81 [(7, .ref a16), (6, .int z_1), (5, .ref a4), (0, .ref a0), (1, .ref a1), (2, .int x0), (3, .int x1), (4, .int x2)] [] w7_ 0 0
    refine mp_run mp_k_cX2_seekLove_ok hF mp_tabX2_ok [mp_i (.aload_n 1), mp_h (.getfield 55) [6, 8], mp_i (.aload 5), mp_h (.getfield 88) [3, 9], mp_i (.iload_n 2), mp_h .iaload [0], mp_h .iaload [13], mp_i (.istore 8), mp_c (.iconst 0) 0, mp_i (.istore 9)] (by decide +kernel) ?_
    refine And.intro rfl (And.intro rfl ?_)
    refine And.intro rfl (And.intro rfl ?_)
    refine And.intro rfl (And.intro rfl (And.intro (vp_in_iff.mpr (by (first | exact mp_o181 l_x0 u_x0 | omega))) ?_))
    intro z_33 h_34
    have e_35 : 0 ≤ z_33.toInt ∧ z_33.toInt ≤ 5 := mp_all_ld h_34 p2 (by (first | exact l_x0 | omega)) (by (first | exact mp_o208 u_x0 | omega))
    refine And.intro rfl (And.intro rfl (And.intro (vp_in_iff.mpr (by (first | exact mp_o422 e_35 | omega))) ?_))
    intro z_36 h_37
    have e_38 : 0 ≤ z_36.toInt ∧ z_36.toInt ≤ 5 := mp_all_ld h_37 p6 (by (first | exact mp_o495 e_35 | omega)) (by (first | exact mp_o496 e_35 | omega))
    show mp_W E X 11 98 [(9, .int 0), (8, .int z_36), (7, .ref a16), (6, .int z_1), (5, .ref a4), (0, .ref a0), (1, .ref a1), (2, .int x0), (3, .int x1), (4, .int x2)] [] w7_ 0 0
    have lp_47 : ∀ (d_48 : Nat) (i_39 : Int32) (g_40 : Nat → Int32) (i_41 : Int32) (i_42 : Int32), 0 ≤ i_39.toInt → i_39.toInt ≤ 20 → (-1) ≤ i_42.toInt → i_42.toInt ≤ 240 → x2.toInt - i_39.toInt + 1 ≤ (d_48 : Int) → mp_W E X 11 98 [(9, .int i_39), (8, .int z_36), (7, .ref a16), (6, .int z_1), (5, .ref a4), (0, .ref a0), (1, .ref a1), (2, .int x0), (3, .int x1), (4, .int x2)] [] [(mp_arI E a9 0 10 f6), (mp_arL E a15 20 f12), (mp_arI E a8 0 10 f5), (mp_arI E a10 0 10 f7), (mp_arI E a11 0 10 f8), (mp_arI E a12 0 10 f9), (mp_arI E a13 0 10 f10), (mp_arI E a16 0 10 g_40), (mp_ob0 a1 a4 y6 a14 a20 a21 a15 a16 a22), (mp_ob7 a4 y7 y8 y9 y10 y11 y12 a5 a6 a23 a7 a24 a8 a9 a10 a11 a12 a13 a25), (mp_arI E a5 0 36 f2), (mp_arL E a6 12 f3), (mp_arI E a7 0 6 f4), (mp_arI E a14 0 6 f11), (mp_ob2 a0 y8 x2 r_19 y3 a2 a17 a18 a3 a19 i_41 i_42), (mp_arI E a2 0 432 g_20), (mp_arI E a3 0 78 g_32)] 0 0 := by
      intro d_48
      induction d_48 using Nat.strongRecOn with
      | ind d_48 ih_49 =>
        intro i_39 g_40 i_41 i_42 l_43 u_44 l_45 u_46 hm_50
        refine mp_run mp_k_cX2_seekLove_ok hF mp_tabX2_ok [mp_i (.iload 9), mp_i (.iload 4), mp_h (.if_icmp .gt 105) [207]] (by decide +kernel) ?_
        refine And.intro (fun c_51 => ?_) (fun c_51 => ?_)
        · have c_51 : x2.toInt < i_39.toInt := c_51
          let w8_ : va_W := [(mp_arI E a9 0 10 f6), (mp_arL E a15 20 f12), (mp_arI E a8 0 10 f5), (mp_arI E a10 0 10 f7), (mp_arI E a11 0 10 f8), (mp_arI E a12 0 10 f9), (mp_arI E a13 0 10 f10), (mp_arI E a16 0 10 g_40), (mp_ob0 a1 a4 y6 a14 a20 a21 a15 a16 a22), (mp_ob7 a4 y7 y8 y9 y10 y11 y12 a5 a6 a23 a7 a24 a8 a9 a10 a11 a12 a13 a25), (mp_arI E a5 0 36 f2), (mp_arL E a6 12 f3), (mp_arI E a7 0 6 f4), (mp_arI E a14 0 6 f11), (mp_ob2 a0 y8 x2 r_19 y3 a2 a17 a18 a3 a19 i_41 i_42), (mp_arI E a2 0 432 g_20), (mp_arI E a3 0 78 g_32)]
          show mp_W E X 11 207 [(9, .int i_39), (8, .int z_36), (7, .ref a16), (6, .int z_1), (5, .ref a4), (0, .ref a0), (1, .ref a1), (2, .int x0), (3, .int x1), (4, .int x2)] [] w8_ 0 0
          exact mp_vret hF hQ rfl (Nat.le_of_ble_eq_true rfl) (Nat.le_of_ble_eq_true rfl) [14, 15, 16, 8, 9, 10, 11, 12, 2, 0, 3, 4, 5, 6, 13, 1, 7] (w' := [(mp_ob2 a0 y8 x2 r_19 y3 a2 a17 a18 a3 a19 i_41 i_42), (mp_arI E a2 0 432 g_20), (mp_arI E a3 0 78 g_32), (mp_ob0 a1 a4 y6 a14 a20 a21 a15 a16 a22), (mp_ob7 a4 y7 y8 y9 y10 y11 y12 a5 a6 a23 a7 a24 a8 a9 a10 a11 a12 a13 a25), (mp_arI E a5 0 36 f2), (mp_arL E a6 12 f3), (mp_arI E a7 0 6 f4), (mp_arI E a8 0 10 f5), (mp_arI E a9 0 10 f6), (mp_arI E a10 0 10 f7), (mp_arI E a11 0 10 f8), (mp_arI E a12 0 10 f9), (mp_arI E a13 0 10 f10), (mp_arI E a14 0 6 f11), (mp_arL E a15 20 f12), (mp_arI E a16 0 10 g_40)]) rfl rfl ⟨y8, x2, r_19, i_41, i_42, g_20, g_32, g_40, rfl, l_y8, u_y8, l_x2, u_x2, l_21, u_22, l_45, u_46, rfl⟩ (by first | exact mp_fd_ok mp_k_cX2_seekLove_ok (by decide +kernel) | decide +kernel)
        · have c_51 : i_39.toInt ≤ x2.toInt := c_51
          let w9_ : va_W := [(mp_arI E a9 0 10 f6), (mp_arL E a15 20 f12), (mp_arI E a8 0 10 f5), (mp_arI E a10 0 10 f7), (mp_arI E a11 0 10 f8), (mp_arI E a12 0 10 f9), (mp_arI E a13 0 10 f10), (mp_arI E a16 0 10 g_40), (mp_ob0 a1 a4 y6 a14 a20 a21 a15 a16 a22), (mp_ob7 a4 y7 y8 y9 y10 y11 y12 a5 a6 a23 a7 a24 a8 a9 a10 a11 a12 a13 a25), (mp_arI E a5 0 36 f2), (mp_arL E a6 12 f3), (mp_arI E a7 0 6 f4), (mp_arI E a14 0 6 f11), (mp_ob2 a0 y8 x2 r_19 y3 a2 a17 a18 a3 a19 i_41 i_42), (mp_arI E a2 0 432 g_20), (mp_arI E a3 0 78 g_32)]
          show mp_W E X 11 105 [(9, .int i_39), (8, .int z_36), (7, .ref a16), (6, .int z_1), (5, .ref a4), (0, .ref a0), (1, .ref a1), (2, .int x0), (3, .int x1), (4, .int x2)] [] w9_ 0 0
          refine mp_run mp_k_cX2_seekLove_ok hF mp_tabX2_ok [mp_i (.aload_n 0), mp_h (.getfield 21) [14, 14], mp_i (.iload 9), mp_c (.bipush 6) 6, mp_i .imul, mp_i (.iload 8), mp_i .iadd, mp_h .iaload [16], mp_i (.istore 10), mp_i (.aload 7), mp_i (.iload_n 2), mp_i (.aload_n 1), mp_h (.getfield 65) [5, 8], mp_i (.iload 9), mp_i .iadd, mp_h .iastore [7]] (by decide +kernel) ?_
          refine And.intro rfl (And.intro rfl ?_)
          intro z_52 h_53
          have e_54 : z_52.toInt = i_39.toInt * 6 := mp_mul (a := i_39.toInt) (b := 6) h_53 rfl (by decide) (by (first | exact mp_o249 l_43 | omega)) (by (first | exact mp_o608 u_44 | omega))
          intro z_55 h_56
          have e_57 : z_55.toInt = z_52.toInt + z_36.toInt := mp_add (a := z_52.toInt) (b := z_36.toInt) h_56 rfl rfl (by (first | exact mp_o552 e_38 l_43 e_54 | omega)) (by (first | exact mp_o609 e_38 u_44 e_54 | omega))
          refine And.intro rfl (And.intro rfl (And.intro (vp_in_iff.mpr (by (first | exact mp_o610 l_43 e_54 u_x2 c_51 e_57 e_38 | omega))) ?_))
          intro z_58 h_59
          refine And.intro rfl (And.intro rfl ?_)
          intro z_60 h_61
          have e_62 : z_60.toInt = y6.toInt + i_39.toInt := mp_add (a := y6.toInt) (b := i_39.toInt) h_61 rfl rfl (by (first | exact mp_o116 l_y6 l_43 | omega)) (by (first | exact mp_o611 q0 c_51 | omega))
          refine And.intro rfl (And.intro rfl (And.intro (vp_in_iff.mpr (by (first | exact mp_o181 l_x0 u_x0 | omega))) ?_))
          intro g_63 h_64
          let w10_ : va_W := [(mp_arI E a9 0 10 f6), (mp_arL E a15 20 f12), (mp_arI E a8 0 10 f5), (mp_arI E a10 0 10 f7), (mp_arI E a11 0 10 f8), (mp_arI E a12 0 10 f9), (mp_arI E a13 0 10 f10), (mp_arI E a16 0 10 g_63), (mp_ob0 a1 a4 y6 a14 a20 a21 a15 a16 a22), (mp_ob7 a4 y7 y8 y9 y10 y11 y12 a5 a6 a23 a7 a24 a8 a9 a10 a11 a12 a13 a25), (mp_arI E a5 0 36 f2), (mp_arL E a6 12 f3), (mp_arI E a7 0 6 f4), (mp_arI E a14 0 6 f11), (mp_ob2 a0 y8 x2 r_19 y3 a2 a17 a18 a3 a19 i_41 i_42), (mp_arI E a2 0 432 g_20), (mp_arI E a3 0 78 g_32)]
          show mp_W E X 11 131 [(10, .int z_58), (9, .int i_39), (8, .int z_36), (7, .ref a16), (6, .int z_1), (5, .ref a4), (0, .ref a0), (1, .ref a1), (2, .int x0), (3, .int x1), (4, .int x2)] [] w10_ 0 0
          refine mp_run mp_k_cX2_seekLove_ok hF mp_tabX2_ok [mp_i (.iload 10), mp_c (.iconst (-1)) (-1), mp_h (.if_icmp .eq 67) [201]] (by decide +kernel) ?_
          refine And.intro (fun c_65 => ?_) (fun c_65 => ?_)
          · have c_65 : z_58.toInt = (-1) := (congrArg Int32.toInt c_65)
            show mp_W E X 11 201 [(10, .int z_58), (9, .int i_39), (8, .int z_36), (7, .ref a16), (6, .int z_1), (5, .ref a4), (0, .ref a0), (1, .ref a1), (2, .int x0), (3, .int x1), (4, .int x2)] [] w10_ 0 0
            refine mp_run mp_k_cX2_seekLove_ok hF mp_tabX2_ok [mp_c (.iinc 9 1) 1, mp_h (.goto (-106)) [98]] (by decide +kernel) ?_
            intro z_66 h_67
            have e_68 : z_66.toInt = i_39.toInt + 1 := mp_add (a := i_39.toInt) (b := 1) h_67 rfl (by decide) (by (first | exact mp_o2 l_43 | omega)) (by (first | exact mp_o612 u_44 | omega))
            show mp_W E X 11 98 [(9, .int z_66), (10, .int z_58), (8, .int z_36), (7, .ref a16), (6, .int z_1), (5, .ref a4), (0, .ref a0), (1, .ref a1), (2, .int x0), (3, .int x1), (4, .int x2)] [] w10_ 0 0
            exact mp_sub [0, 2, 3, 4, 5, 6, 7, 8, 9, 10] rfl [0, 1, 2, 3, 4, 5, 6, 7, 8, 9, 10, 11, 12, 13, 14, 15, 16] rfl rfl (ih_49 (d_48 - 1) (by (first | exact mp_o586 hm_50 c_51 | omega)) z_66 g_63 i_41 i_42 (by (first | exact mp_o51 l_43 e_68 | omega)) (by (first | exact mp_o613 u_x2 c_51 e_68 | omega)) l_45 u_46 (by (first | exact mp_o588 hm_50 e_68 | omega)))
          · have c_65 : z_58.toInt ≠ (-1) := c_65
            show mp_W E X 11 137 [(10, .int z_58), (9, .int i_39), (8, .int z_36), (7, .ref a16), (6, .int z_1), (5, .ref a4), (0, .ref a0), (1, .ref a1), (2, .int x0), (3, .int x1), (4, .int x2)] [] w10_ 0 0
            refine mp_run mp_k_cX2_seekLove_ok hF mp_tabX2_ok [mp_i (.aload 5), mp_i (.iload_n 2), mp_i (.aload_n 1), mp_h (.getfield 65) [5, 8], mp_i (.iload 9), mp_i .iadd] (by decide +kernel) ?_
            refine And.intro rfl (And.intro rfl ?_)
            intro z_69 h_70
            have e_71 : z_69.toInt = y6.toInt + i_39.toInt := mp_add (a := y6.toInt) (b := i_39.toInt) h_70 rfl rfl (by (first | exact mp_o116 l_y6 l_43 | omega)) (by (first | exact mp_o611 q0 c_51 | omega))
            show mp_W E X 11 147 [(10, .int z_58), (9, .int i_39), (8, .int z_36), (7, .ref a16), (6, .int z_1), (5, .ref a4), (0, .ref a0), (1, .ref a1), (2, .int x0), (3, .int x1), (4, .int x2)] [.int z_69, .int x0, .ref a4] w10_ 0 0
            refine mp_callV hF (As := [.int x0, .int z_69]) (rest := []) (wr := [(mp_arL E a15 20 f12), (mp_arI E a10 0 10 f7), (mp_arI E a11 0 10 f8), (mp_arI E a12 0 10 f9), (mp_arI E a13 0 10 f10), (mp_arI E a16 0 10 g_63), (mp_ob0 a1 a4 y6 a14 a20 a21 a15 a16 a22), (mp_arI E a5 0 36 f2), (mp_arL E a6 12 f3), (mp_arI E a14 0 6 f11), (mp_ob2 a0 y8 x2 r_19 y3 a2 a17 a18 a3 a19 i_41 i_42), (mp_arI E a2 0 432 g_20), (mp_arI E a3 0 78 g_32)]) (bX7_bothLive_92 E a4 a7 a8 a9 a5 a6 a23 a24 a10 a11 a12 a13 a25 f4 f5 f6 y7 y8 y9 y10 y11 y12 x0 z_69 p1 p2 l_x0 u_x0 l_y8 u_y8 l_y9 u_y9 l_y10 u_y10 l_y11 u_y11 l_y12 u_y12) mp_lkX2_84 9 rfl [9, 12, 2, 0] [1, 3, 4, 5, 6, 7, 8, 10, 11, 13, 14, 15, 16] rfl rfl rfl rfl rfl ⟨(Nat.le_of_ble_eq_true rfl), (Nat.le_of_ble_eq_true rfl), (Nat.le_of_ble_eq_true rfl), (Nat.le_of_ble_eq_true rfl)⟩ (Nat.le_of_ble_eq_true rfl) (by first | exact mp_fd_ok mp_k_cX2_seekLove_ok (by decide +kernel) | decide +kernel) (fun v_72 w_73 h_74 => ?_)
            rcases h_74 with ⟨rfl, x_75, rfl⟩ | ⟨rfl, x_76, rfl⟩
            · skip
              let w11_ : va_W := [(mp_arL E a15 20 f12), (mp_arI E a10 0 10 f7), (mp_arI E a11 0 10 f8), (mp_arI E a12 0 10 f9), (mp_arI E a13 0 10 f10), (mp_arI E a16 0 10 g_63), (mp_ob0 a1 a4 y6 a14 a20 a21 a15 a16 a22), (mp_arI E a5 0 36 f2), (mp_arL E a6 12 f3), (mp_arI E a14 0 6 f11), (mp_ob2 a0 y8 x2 r_19 y3 a2 a17 a18 a3 a19 i_41 i_42), (mp_arI E a2 0 432 g_20), (mp_arI E a3 0 78 g_32), (mp_ob7 a4 y7 y8 y9 y10 y11 y12 a5 a6 a23 a7 a24 a8 a9 a10 a11 a12 a13 a25), (mp_arI E a7 0 6 f4), (mp_arI E a8 0 10 f5), (mp_arI E a9 0 10 f6)]
              show mp_W E X 11 150 [(10, .int z_58), (9, .int i_39), (8, .int z_36), (7, .ref a16), (6, .int z_1), (5, .ref a4), (0, .ref a0), (1, .ref a1), (2, .int x0), (3, .int x1), (4, .int x2)] [.int 1] w11_ 0 0
              refine mp_run mp_k_cX2_seekLove_ok hF mp_tabX2_ok [mp_h (.ifCond .eq 51) [201]] (by decide +kernel) ?_
              refine And.intro (fun c_77 => absurd c_77 (by decide)) (fun _ => ?_)
              show mp_W E X 11 153 [(10, .int z_58), (9, .int i_39), (8, .int z_36), (7, .ref a16), (6, .int z_1), (5, .ref a4), (0, .ref a0), (1, .ref a1), (2, .int x0), (3, .int x1), (4, .int x2)] [] w11_ 0 0
              refine mp_run mp_k_cX2_seekLove_ok hF mp_tabX2_ok [mp_i (.aload 5), mp_i (.aload 7), mp_i (.iload_n 2), mp_i (.iload 6)] (by decide +kernel) ?_
              show mp_W E X 11 160 [(10, .int z_58), (9, .int i_39), (8, .int z_36), (7, .ref a16), (6, .int z_1), (5, .ref a4), (0, .ref a0), (1, .ref a1), (2, .int x0), (3, .int x1), (4, .int x2)] [.int z_1, .int x0, .ref a16, .ref a4] w11_ 0 0
              refine mp_callV hF (As := [.ref a16, .int x0, .int z_1]) (rest := []) (wr := [(mp_arL E a15 20 f12), (mp_ob0 a1 a4 y6 a14 a20 a21 a15 a16 a22), (mp_arI E a5 0 36 f2), (mp_arL E a6 12 f3), (mp_arI E a14 0 6 f11), (mp_ob2 a0 y8 x2 r_19 y3 a2 a17 a18 a3 a19 i_41 i_42), (mp_arI E a2 0 432 g_20), (mp_arI E a3 0 78 g_32), (mp_arI E a9 0 10 f6)]) (bX7_worthBy_66 E a4 a16 a7 a8 a10 a11 a12 a13 a5 a6 a23 a24 a9 a25 f4 f5 f7 f8 f9 f10 g_63 y7 y8 y9 y10 y11 y12 x0 z_1 p1 p3 p4 p5 l_x0 u_x0 l_y8 u_y8 l_y9 u_y9 l_y10 u_y10 l_y11 u_y11 l_y12 u_y12) mp_lkX2_130 13 rfl [13, 14, 15, 1, 2, 3, 4, 5] [0, 6, 7, 8, 9, 10, 11, 12, 16] rfl rfl rfl rfl rfl ⟨(Nat.le_of_ble_eq_true rfl), (Nat.le_of_ble_eq_true rfl), (Nat.le_of_ble_eq_true rfl), (Nat.le_of_ble_eq_true rfl)⟩ (Nat.le_of_ble_eq_true rfl) (by first | exact mp_fd_ok mp_k_cX2_seekLove_ok (by decide +kernel) | decide +kernel) (fun v_78 w_79 h_80 => ?_)
              obtain ⟨r_81, rfl, rfl⟩ := h_80
              let w12_ : va_W := [(mp_arL E a15 20 f12), (mp_ob0 a1 a4 y6 a14 a20 a21 a15 a16 a22), (mp_arI E a5 0 36 f2), (mp_arL E a6 12 f3), (mp_arI E a14 0 6 f11), (mp_ob2 a0 y8 x2 r_19 y3 a2 a17 a18 a3 a19 i_41 i_42), (mp_arI E a2 0 432 g_20), (mp_arI E a3 0 78 g_32), (mp_arI E a9 0 10 f6), (mp_ob7 a4 y7 y8 y9 y10 y11 y12 a5 a6 a23 a7 a24 a8 a9 a10 a11 a12 a13 a25), (mp_arI E a7 0 6 f4), (mp_arI E a8 0 10 f5), (mp_arI E a10 0 10 f7), (mp_arI E a11 0 10 f8), (mp_arI E a12 0 10 f9), (mp_arI E a13 0 10 f10), (mp_arI E a16 0 10 g_63)]
              show mp_W E X 11 163 [(10, .int z_58), (9, .int i_39), (8, .int z_36), (7, .ref a16), (6, .int z_1), (5, .ref a4), (0, .ref a0), (1, .ref a1), (2, .int x0), (3, .int x1), (4, .int x2)] [.int r_81] w12_ 0 0
              refine mp_run mp_k_cX2_seekLove_ok hF mp_tabX2_ok [mp_i (.iload_n 3), mp_h (.if_icmp .lt 37) [201]] (by decide +kernel) ?_
              refine And.intro (fun c_82 => ?_) (fun c_82 => ?_)
              · have c_82 : r_81.toInt < x1.toInt := c_82
                show mp_W E X 11 201 [(10, .int z_58), (9, .int i_39), (8, .int z_36), (7, .ref a16), (6, .int z_1), (5, .ref a4), (0, .ref a0), (1, .ref a1), (2, .int x0), (3, .int x1), (4, .int x2)] [] w12_ 0 0
                refine mp_run mp_k_cX2_seekLove_ok hF mp_tabX2_ok [mp_c (.iinc 9 1) 1, mp_h (.goto (-106)) [98]] (by decide +kernel) ?_
                intro z_83 h_84
                have e_85 : z_83.toInt = i_39.toInt + 1 := mp_add (a := i_39.toInt) (b := 1) h_84 rfl (by decide) (by (first | exact mp_o2 l_43 | omega)) (by (first | exact mp_o612 u_44 | omega))
                show mp_W E X 11 98 [(9, .int z_83), (10, .int z_58), (8, .int z_36), (7, .ref a16), (6, .int z_1), (5, .ref a4), (0, .ref a0), (1, .ref a1), (2, .int x0), (3, .int x1), (4, .int x2)] [] w12_ 0 0
                exact mp_sub [0, 2, 3, 4, 5, 6, 7, 8, 9, 10] rfl [8, 0, 11, 12, 13, 14, 15, 16, 1, 9, 2, 3, 10, 4, 5, 6, 7] rfl rfl (ih_49 (d_48 - 1) (by (first | exact mp_o586 hm_50 c_51 | omega)) z_83 g_63 i_41 i_42 (by (first | exact mp_o51 l_43 e_85 | omega)) (by (first | exact mp_o613 u_x2 c_51 e_85 | omega)) l_45 u_46 (by (first | exact mp_o588 hm_50 e_85 | omega)))
              · have c_82 : x1.toInt ≤ r_81.toInt := c_82
                show mp_W E X 11 167 [(10, .int z_58), (9, .int i_39), (8, .int z_36), (7, .ref a16), (6, .int z_1), (5, .ref a4), (0, .ref a0), (1, .ref a1), (2, .int x0), (3, .int x1), (4, .int x2)] [] w12_ 0 0
                refine mp_run mp_k_cX2_seekLove_ok hF mp_tabX2_ok [mp_i (.aload_n 0), mp_h (.getfield 124) [16, 5], mp_c (.iconst (-1)) (-1), mp_h (.if_icmp .eq 12) [184]] (by decide +kernel) ?_
                refine And.intro rfl (And.intro rfl ?_)
                refine And.intro (fun c_86 => ?_) (fun c_86 => ?_)
                · have c_86 : i_41.toInt = (-1) := (congrArg Int32.toInt c_86)
                  show mp_W E X 11 184 [(10, .int z_58), (9, .int i_39), (8, .int z_36), (7, .ref a16), (6, .int z_1), (5, .ref a4), (0, .ref a0), (1, .ref a1), (2, .int x0), (3, .int x1), (4, .int x2)] [] w12_ 0 0
                  refine mp_run mp_k_cX2_seekLove_ok hF mp_tabX2_ok [mp_i (.aload_n 0), mp_i (.iload 10), mp_h (.putfield 124) [16, 5]] (by decide +kernel) ?_
                  refine And.intro rfl (And.intro rfl (And.intro rfl (And.intro rfl (And.intro (Nat.le_of_ble_eq_true rfl) ?_))))
                  let w13_ : va_W := [(mp_arL E a15 20 f12), (mp_ob0 a1 a4 y6 a14 a20 a21 a15 a16 a22), (mp_arI E a5 0 36 f2), (mp_arL E a6 12 f3), (mp_arI E a14 0 6 f11), (mp_ob2 a0 y8 x2 r_19 y3 a2 a17 a18 a3 a19 z_58 i_42), (mp_arI E a2 0 432 g_20), (mp_arI E a3 0 78 g_32), (mp_arI E a9 0 10 f6), (mp_ob7 a4 y7 y8 y9 y10 y11 y12 a5 a6 a23 a7 a24 a8 a9 a10 a11 a12 a13 a25), (mp_arI E a7 0 6 f4), (mp_arI E a8 0 10 f5), (mp_arI E a10 0 10 f7), (mp_arI E a11 0 10 f8), (mp_arI E a12 0 10 f9), (mp_arI E a13 0 10 f10), (mp_arI E a16 0 10 g_63)]
                  show mp_W E X 11 190 [(10, .int z_58), (9, .int i_39), (8, .int z_36), (7, .ref a16), (6, .int z_1), (5, .ref a4), (0, .ref a0), (1, .ref a1), (2, .int x0), (3, .int x1), (4, .int x2)] [] w13_ 0 0
                  refine mp_run mp_k_cX2_seekLove_ok hF mp_tabX2_ok [mp_i (.aload_n 0), mp_i (.aload_n 1), mp_h (.getfield 65) [5, 1], mp_i (.iload 9), mp_i .iadd, mp_h (.putfield 127) [17, 5]] (by decide +kernel) ?_
                  refine And.intro rfl (And.intro rfl ?_)
                  intro z_87 h_88
                  have e_89 : z_87.toInt = y6.toInt + i_39.toInt := mp_add (a := y6.toInt) (b := i_39.toInt) h_88 rfl rfl (by (first | exact mp_o116 l_y6 l_43 | omega)) (by (first | exact mp_o611 q0 c_51 | omega))
                  refine And.intro rfl (And.intro rfl (And.intro rfl (And.intro rfl (And.intro (Nat.le_of_ble_eq_true rfl) ?_))))
                  let w14_ : va_W := [(mp_arL E a15 20 f12), (mp_ob0 a1 a4 y6 a14 a20 a21 a15 a16 a22), (mp_arI E a5 0 36 f2), (mp_arL E a6 12 f3), (mp_arI E a14 0 6 f11), (mp_ob2 a0 y8 x2 r_19 y3 a2 a17 a18 a3 a19 z_58 z_87), (mp_arI E a2 0 432 g_20), (mp_arI E a3 0 78 g_32), (mp_arI E a9 0 10 f6), (mp_ob7 a4 y7 y8 y9 y10 y11 y12 a5 a6 a23 a7 a24 a8 a9 a10 a11 a12 a13 a25), (mp_arI E a7 0 6 f4), (mp_arI E a8 0 10 f5), (mp_arI E a10 0 10 f7), (mp_arI E a11 0 10 f8), (mp_arI E a12 0 10 f9), (mp_arI E a13 0 10 f10), (mp_arI E a16 0 10 g_63)]
                  show mp_W E X 11 201 [(10, .int z_58), (9, .int i_39), (8, .int z_36), (7, .ref a16), (6, .int z_1), (5, .ref a4), (0, .ref a0), (1, .ref a1), (2, .int x0), (3, .int x1), (4, .int x2)] [] w14_ 0 0
                  refine mp_run mp_k_cX2_seekLove_ok hF mp_tabX2_ok [mp_c (.iinc 9 1) 1, mp_h (.goto (-106)) [98]] (by decide +kernel) ?_
                  intro z_90 h_91
                  have e_92 : z_90.toInt = i_39.toInt + 1 := mp_add (a := i_39.toInt) (b := 1) h_91 rfl (by decide) (by (first | exact mp_o2 l_43 | omega)) (by (first | exact mp_o612 u_44 | omega))
                  show mp_W E X 11 98 [(9, .int z_90), (10, .int z_58), (8, .int z_36), (7, .ref a16), (6, .int z_1), (5, .ref a4), (0, .ref a0), (1, .ref a1), (2, .int x0), (3, .int x1), (4, .int x2)] [] w14_ 0 0
                  exact mp_sub [0, 2, 3, 4, 5, 6, 7, 8, 9, 10] rfl [8, 0, 11, 12, 13, 14, 15, 16, 1, 9, 2, 3, 10, 4, 5, 6, 7] rfl rfl (ih_49 (d_48 - 1) (by (first | exact mp_o586 hm_50 c_51 | omega)) z_90 g_63 z_58 z_87 (by (first | exact mp_o51 l_43 e_92 | omega)) (by (first | exact mp_o613 u_x2 c_51 e_92 | omega)) (by (first | exact mp_o614 l_y6 l_43 e_89 | omega)) (by (first | exact mp_o615 q0 c_51 e_89 | omega)) (by (first | exact mp_o588 hm_50 e_92 | omega)))
                · have c_86 : i_41.toInt ≠ (-1) := c_86
                  show mp_W E X 11 175 [(10, .int z_58), (9, .int i_39), (8, .int z_36), (7, .ref a16), (6, .int z_1), (5, .ref a4), (0, .ref a0), (1, .ref a1), (2, .int x0), (3, .int x1), (4, .int x2)] [] w12_ 0 0
                  refine mp_run mp_k_cX2_seekLove_ok hF mp_tabX2_ok [mp_i (.iload 10), mp_i (.aload_n 0), mp_h (.getfield 124) [16, 5], mp_h (.if_icmp .ge 20) [201]] (by decide +kernel) ?_
                  refine And.intro rfl (And.intro rfl ?_)
                  refine And.intro (fun c_93 => ?_) (fun c_93 => ?_)
                  · have c_93 : i_41.toInt ≤ z_58.toInt := c_93
                    show mp_W E X 11 201 [(10, .int z_58), (9, .int i_39), (8, .int z_36), (7, .ref a16), (6, .int z_1), (5, .ref a4), (0, .ref a0), (1, .ref a1), (2, .int x0), (3, .int x1), (4, .int x2)] [] w12_ 0 0
                    refine mp_run mp_k_cX2_seekLove_ok hF mp_tabX2_ok [mp_c (.iinc 9 1) 1, mp_h (.goto (-106)) [98]] (by decide +kernel) ?_
                    intro z_94 h_95
                    have e_96 : z_94.toInt = i_39.toInt + 1 := mp_add (a := i_39.toInt) (b := 1) h_95 rfl (by decide) (by omega) (by omega)
                    show mp_W E X 11 98 [(9, .int z_94), (10, .int z_58), (8, .int z_36), (7, .ref a16), (6, .int z_1), (5, .ref a4), (0, .ref a0), (1, .ref a1), (2, .int x0), (3, .int x1), (4, .int x2)] [] w12_ 0 0
                    exact mp_sub [0, 2, 3, 4, 5, 6, 7, 8, 9, 10] rfl [8, 0, 11, 12, 13, 14, 15, 16, 1, 9, 2, 3, 10, 4, 5, 6, 7] rfl rfl (ih_49 (d_48 - 1) (by (first | exact mp_o586 hm_50 c_51 | omega)) z_94 g_63 i_41 i_42 (by omega) (by (first | exact mp_o613 u_x2 c_51 e_96 | omega)) l_45 u_46 (by (first | exact mp_o588 hm_50 e_96 | omega)))
                  · have c_93 : z_58.toInt < i_41.toInt := c_93
                    show mp_W E X 11 184 [(10, .int z_58), (9, .int i_39), (8, .int z_36), (7, .ref a16), (6, .int z_1), (5, .ref a4), (0, .ref a0), (1, .ref a1), (2, .int x0), (3, .int x1), (4, .int x2)] [] w12_ 0 0
                    refine mp_run mp_k_cX2_seekLove_ok hF mp_tabX2_ok [mp_i (.aload_n 0), mp_i (.iload 10), mp_h (.putfield 124) [16, 5]] (by decide +kernel) ?_
                    refine And.intro rfl (And.intro rfl (And.intro rfl (And.intro rfl (And.intro (Nat.le_of_ble_eq_true rfl) ?_))))
                    let w15_ : va_W := [(mp_arL E a15 20 f12), (mp_ob0 a1 a4 y6 a14 a20 a21 a15 a16 a22), (mp_arI E a5 0 36 f2), (mp_arL E a6 12 f3), (mp_arI E a14 0 6 f11), (mp_ob2 a0 y8 x2 r_19 y3 a2 a17 a18 a3 a19 z_58 i_42), (mp_arI E a2 0 432 g_20), (mp_arI E a3 0 78 g_32), (mp_arI E a9 0 10 f6), (mp_ob7 a4 y7 y8 y9 y10 y11 y12 a5 a6 a23 a7 a24 a8 a9 a10 a11 a12 a13 a25), (mp_arI E a7 0 6 f4), (mp_arI E a8 0 10 f5), (mp_arI E a10 0 10 f7), (mp_arI E a11 0 10 f8), (mp_arI E a12 0 10 f9), (mp_arI E a13 0 10 f10), (mp_arI E a16 0 10 g_63)]
                    show mp_W E X 11 190 [(10, .int z_58), (9, .int i_39), (8, .int z_36), (7, .ref a16), (6, .int z_1), (5, .ref a4), (0, .ref a0), (1, .ref a1), (2, .int x0), (3, .int x1), (4, .int x2)] [] w15_ 0 0
                    refine mp_run mp_k_cX2_seekLove_ok hF mp_tabX2_ok [mp_i (.aload_n 0), mp_i (.aload_n 1), mp_h (.getfield 65) [5, 1], mp_i (.iload 9), mp_i .iadd, mp_h (.putfield 127) [17, 5]] (by decide +kernel) ?_
                    refine And.intro rfl (And.intro rfl ?_)
                    intro z_97 h_98
                    have e_99 : z_97.toInt = y6.toInt + i_39.toInt := mp_add (a := y6.toInt) (b := i_39.toInt) h_98 rfl rfl (by (first | exact mp_o116 l_y6 l_43 | omega)) (by (first | exact mp_o611 q0 c_51 | omega))
                    refine And.intro rfl (And.intro rfl (And.intro rfl (And.intro rfl (And.intro (Nat.le_of_ble_eq_true rfl) ?_))))
                    let w16_ : va_W := [(mp_arL E a15 20 f12), (mp_ob0 a1 a4 y6 a14 a20 a21 a15 a16 a22), (mp_arI E a5 0 36 f2), (mp_arL E a6 12 f3), (mp_arI E a14 0 6 f11), (mp_ob2 a0 y8 x2 r_19 y3 a2 a17 a18 a3 a19 z_58 z_97), (mp_arI E a2 0 432 g_20), (mp_arI E a3 0 78 g_32), (mp_arI E a9 0 10 f6), (mp_ob7 a4 y7 y8 y9 y10 y11 y12 a5 a6 a23 a7 a24 a8 a9 a10 a11 a12 a13 a25), (mp_arI E a7 0 6 f4), (mp_arI E a8 0 10 f5), (mp_arI E a10 0 10 f7), (mp_arI E a11 0 10 f8), (mp_arI E a12 0 10 f9), (mp_arI E a13 0 10 f10), (mp_arI E a16 0 10 g_63)]
                    show mp_W E X 11 201 [(10, .int z_58), (9, .int i_39), (8, .int z_36), (7, .ref a16), (6, .int z_1), (5, .ref a4), (0, .ref a0), (1, .ref a1), (2, .int x0), (3, .int x1), (4, .int x2)] [] w16_ 0 0
                    refine mp_run mp_k_cX2_seekLove_ok hF mp_tabX2_ok [mp_c (.iinc 9 1) 1, mp_h (.goto (-106)) [98]] (by decide +kernel) ?_
                    intro z_100 h_101
                    have e_102 : z_100.toInt = i_39.toInt + 1 := mp_add (a := i_39.toInt) (b := 1) h_101 rfl (by decide) (by (first | exact mp_o2 l_43 | omega)) (by (first | exact mp_o612 u_44 | omega))
                    show mp_W E X 11 98 [(9, .int z_100), (10, .int z_58), (8, .int z_36), (7, .ref a16), (6, .int z_1), (5, .ref a4), (0, .ref a0), (1, .ref a1), (2, .int x0), (3, .int x1), (4, .int x2)] [] w16_ 0 0
                    exact mp_sub [0, 2, 3, 4, 5, 6, 7, 8, 9, 10] rfl [8, 0, 11, 12, 13, 14, 15, 16, 1, 9, 2, 3, 10, 4, 5, 6, 7] rfl rfl (ih_49 (d_48 - 1) (by (first | exact mp_o586 hm_50 c_51 | omega)) z_100 g_63 z_58 z_97 (by (first | exact mp_o51 l_43 e_102 | omega)) (by (first | exact mp_o613 u_x2 c_51 e_102 | omega)) (by (first | exact mp_o614 l_y6 l_43 e_99 | omega)) (by (first | exact mp_o615 q0 c_51 e_99 | omega)) (by (first | exact mp_o588 hm_50 e_102 | omega)))
            · skip
              let w17_ : va_W := [(mp_arL E a15 20 f12), (mp_arI E a10 0 10 f7), (mp_arI E a11 0 10 f8), (mp_arI E a12 0 10 f9), (mp_arI E a13 0 10 f10), (mp_arI E a16 0 10 g_63), (mp_ob0 a1 a4 y6 a14 a20 a21 a15 a16 a22), (mp_arI E a5 0 36 f2), (mp_arL E a6 12 f3), (mp_arI E a14 0 6 f11), (mp_ob2 a0 y8 x2 r_19 y3 a2 a17 a18 a3 a19 i_41 i_42), (mp_arI E a2 0 432 g_20), (mp_arI E a3 0 78 g_32), (mp_ob7 a4 y7 y8 y9 y10 y11 y12 a5 a6 a23 a7 a24 a8 a9 a10 a11 a12 a13 a25), (mp_arI E a7 0 6 f4), (mp_arI E a8 0 10 f5), (mp_arI E a9 0 10 f6)]
              show mp_W E X 11 150 [(10, .int z_58), (9, .int i_39), (8, .int z_36), (7, .ref a16), (6, .int z_1), (5, .ref a4), (0, .ref a0), (1, .ref a1), (2, .int x0), (3, .int x1), (4, .int x2)] [.int 0] w17_ 0 0
              refine mp_run mp_k_cX2_seekLove_ok hF mp_tabX2_ok [mp_h (.ifCond .eq 51) [201]] (by decide +kernel) ?_
              refine And.intro (fun _ => ?_) (fun c_103 => absurd c_103 (by decide))
              show mp_W E X 11 201 [(10, .int z_58), (9, .int i_39), (8, .int z_36), (7, .ref a16), (6, .int z_1), (5, .ref a4), (0, .ref a0), (1, .ref a1), (2, .int x0), (3, .int x1), (4, .int x2)] [] w17_ 0 0
              refine mp_run mp_k_cX2_seekLove_ok hF mp_tabX2_ok [mp_c (.iinc 9 1) 1, mp_h (.goto (-106)) [98]] (by decide +kernel) ?_
              intro z_104 h_105
              have e_106 : z_104.toInt = i_39.toInt + 1 := mp_add (a := i_39.toInt) (b := 1) h_105 rfl (by decide) (by omega) (by omega)
              show mp_W E X 11 98 [(9, .int z_104), (10, .int z_58), (8, .int z_36), (7, .ref a16), (6, .int z_1), (5, .ref a4), (0, .ref a0), (1, .ref a1), (2, .int x0), (3, .int x1), (4, .int x2)] [] w17_ 0 0
              exact mp_sub [0, 2, 3, 4, 5, 6, 7, 8, 9, 10] rfl [16, 0, 15, 1, 2, 3, 4, 5, 6, 13, 7, 8, 14, 9, 10, 11, 12] rfl rfl (ih_49 (d_48 - 1) (by (first | exact mp_o586 hm_50 c_51 | omega)) z_104 g_63 i_41 i_42 (by omega) (by (first | exact mp_o613 u_x2 c_51 e_106 | omega)) l_45 u_46 (by (first | exact mp_o588 hm_50 e_106 | omega)))
    exact mp_sub [0, 1, 2, 3, 4, 5, 6, 7, 8, 9] rfl [0, 1, 2, 3, 4, 5, 6, 7, 8, 9, 10, 11, 12, 13, 14, 15, 16] rfl rfl (lp_47 _ 0 g_7 (-1) (-1) (by decide) (by decide) (by decide) (by decide) (Int.self_le_toNat _))
  · have c_12 : x1.toInt ≤ r_11.toInt := c_12
    show mp_W E X 11 49 [(7, .ref a16), (6, .int z_1), (5, .ref a4), (0, .ref a0), (1, .ref a1), (2, .int x0), (3, .int x1), (4, .int x2)] [] w5_ 0 0
    refine mp_run mp_k_cX2_seekLove_ok hF mp_tabX2_ok [mp_i (.aload_n 0), mp_c (.iconst 0) 0, mp_h (.putfield 124) [16, 0]] (by decide +kernel) ?_
    refine And.intro rfl (And.intro rfl (And.intro rfl (And.intro rfl (And.intro (Nat.le_of_ble_eq_true rfl) ?_))))
    let w18_ : va_W := [(mp_ob2 a0 y0 y1 y2 y3 a2 a17 a18 a3 a19 0 (-1)), (mp_arI E a2 0 432 f0), (mp_arI E a3 0 78 f1), (mp_arI E a5 0 36 f2), (mp_arL E a6 12 f3), (mp_arI E a9 0 10 f6), (mp_arI E a14 0 6 f11), (mp_ob0 a1 a4 y6 a14 a20 a21 a15 a16 a22), (mp_arL E a15 20 f12), (mp_ob7 a4 y7 y8 y9 y10 y11 y12 a5 a6 a23 a7 a24 a8 a9 a10 a11 a12 a13 a25), (mp_arI E a7 0 6 f4), (mp_arI E a8 0 10 f5), (mp_arI E a10 0 10 f7), (mp_arI E a11 0 10 f8), (mp_arI E a12 0 10 f9), (mp_arI E a13 0 10 f10), (mp_arI E a16 0 10 g_7)]
    show mp_W E X 11 54 [(7, .ref a16), (6, .int z_1), (5, .ref a4), (0, .ref a0), (1, .ref a1), (2, .int x0), (3, .int x1), (4, .int x2)] [] w18_ 0 0
    refine mp_run mp_k_cX2_seekLove_ok hF mp_tabX2_ok [mp_i (.aload_n 0), mp_i (.aload_n 1), mp_h (.getfield 65) [5, 7], mp_h (.putfield 127) [17, 0]] (by decide +kernel) ?_
    refine And.intro rfl (And.intro rfl ?_)
    refine And.intro rfl (And.intro rfl (And.intro rfl (And.intro rfl (And.intro (Nat.le_of_ble_eq_true rfl) ?_))))
    let w19_ : va_W := [(mp_ob2 a0 y0 y1 y2 y3 a2 a17 a18 a3 a19 0 y6), (mp_arI E a2 0 432 f0), (mp_arI E a3 0 78 f1), (mp_arI E a5 0 36 f2), (mp_arL E a6 12 f3), (mp_arI E a9 0 10 f6), (mp_arI E a14 0 6 f11), (mp_ob0 a1 a4 y6 a14 a20 a21 a15 a16 a22), (mp_arL E a15 20 f12), (mp_ob7 a4 y7 y8 y9 y10 y11 y12 a5 a6 a23 a7 a24 a8 a9 a10 a11 a12 a13 a25), (mp_arI E a7 0 6 f4), (mp_arI E a8 0 10 f5), (mp_arI E a10 0 10 f7), (mp_arI E a11 0 10 f8), (mp_arI E a12 0 10 f9), (mp_arI E a13 0 10 f10), (mp_arI E a16 0 10 g_7)]
    show mp_W E X 11 62 [(7, .ref a16), (6, .int z_1), (5, .ref a4), (0, .ref a0), (1, .ref a1), (2, .int x0), (3, .int x1), (4, .int x2)] [] w19_ 0 0
    exact mp_vret hF hQ rfl (Nat.le_of_ble_eq_true rfl) (Nat.le_of_ble_eq_true rfl) [0, 1, 2, 7, 9, 3, 4, 10, 11, 5, 12, 13, 14, 15, 6, 8, 16] (w' := [(mp_ob2 a0 y0 y1 y2 y3 a2 a17 a18 a3 a19 0 y6), (mp_arI E a2 0 432 f0), (mp_arI E a3 0 78 f1), (mp_ob0 a1 a4 y6 a14 a20 a21 a15 a16 a22), (mp_ob7 a4 y7 y8 y9 y10 y11 y12 a5 a6 a23 a7 a24 a8 a9 a10 a11 a12 a13 a25), (mp_arI E a5 0 36 f2), (mp_arL E a6 12 f3), (mp_arI E a7 0 6 f4), (mp_arI E a8 0 10 f5), (mp_arI E a9 0 10 f6), (mp_arI E a10 0 10 f7), (mp_arI E a11 0 10 f8), (mp_arI E a12 0 10 f9), (mp_arI E a13 0 10 f10), (mp_arI E a14 0 6 f11), (mp_arL E a15 20 f12), (mp_arI E a16 0 10 g_7)]) rfl rfl ⟨y0, y1, y2, 0, y6, f0, f1, g_7, rfl, l_y0, u_y0, l_y1, u_y1, l_y2, u_y2, (by (first | exact mp_o44 l_y6 | omega)), (by (first | exact mp_o616 u_y6 | omega)), rfl⟩ (by first | exact mp_fd_ok mp_k_cX2_seekLove_ok (by decide +kernel) | decide +kernel)
set_option maxHeartbeats 4000000 in
set_option maxRecDepth 100000 in
theorem bX9_love_127 (E : mp_E) (a0 a1 a2 a3 a4 a5 a6 a7 a8 a9 a10 a11 a12 a13 a14 a15 a16 a17 a18 a19 a20 a21 a22 a23 a24 a25 a26 a27 a28 a29 a30 a31 a32 a33 : Nat) (f0 : Nat → Int32) (f1 : Nat → Int64) (f2 : Nat → Int32) (f3 : Nat → Int32) (f4 : Nat → Int32) (f5 : Nat → Int32) (f6 : Nat → Int32) (f7 : Nat → Int32) (f8 : Nat → Int32) (f9 : Nat → Int32) (f10 : Nat → Int64) (f11 : Nat → Int32) (f12 : Nat → Int32) (f13 : Nat → Int32) (y0 : Int32) (y1 : Int32) (y2 : Int32) (y3 : Int32) (y4 : Int32) (y5 : Int32) (y6 : Int32) (y7 : Int32) (y8 : Int32) (y9 : Int32) (y10 : Int32) (y11 : Int32) (y12 : Int32) (x0 : Int32) (x1 : Int32) (x2 : Int32) (p0 : mp_all f0 36 0 20) (p1 : mp_all f3 10 0 5) (p2 : mp_all f4 10 0 5) (p3 : mp_all f6 10 0 99) (p4 : mp_all f7 10 0 1) (p5 : mp_all f8 10 (-1) 9) (p6 : mp_all f9 6 0 5) (l_y0 : 0 ≤ y0.toInt) (u_y0 : y0.toInt ≤ 99) (l_y2 : 0 ≤ y2.toInt) (u_y2 : y2.toInt ≤ 6) (l_y3 : 0 ≤ y3.toInt) (u_y3 : y3.toInt ≤ 99) (l_y4 : 0 ≤ y4.toInt) (u_y4 : y4.toInt ≤ 6) (l_y5 : 0 ≤ y5.toInt) (u_y5 : y5.toInt ≤ 10) (l_y6 : 0 ≤ y6.toInt) (u_y6 : y6.toInt ≤ 60) (l_y7 : 0 ≤ y7.toInt) (u_y7 : y7.toInt ≤ 6) (l_y8 : 0 ≤ y8.toInt) (u_y8 : y8.toInt ≤ 12) (l_y9 : 0 ≤ y9.toInt) (u_y9 : y9.toInt ≤ 5) : mp_Ct E yX9_love cX9_love 4 (some FieldType.int) 4 0 0 105 [.ref a0, .int x0, .int x1, .int x2] [(mp_ob9 a0 a18 a1 a19 a20 a15 a21 a22 a23 a24), (mp_ob0 a1 a2 y0 a12 a25 a26 a13 a14 a27), (mp_ob7 a2 y1 y2 y3 y4 y5 y6 a3 a4 a28 a5 a29 a6 a7 a8 a9 a10 a11 a30), (mp_arI E a3 0 36 f0), (mp_arL E a4 12 f1), (mp_arI E a5 0 6 f2), (mp_arI E a6 0 10 f3), (mp_arI E a7 0 10 f4), (mp_arI E a8 0 10 f5), (mp_arI E a9 0 10 f6), (mp_arI E a10 0 10 f7), (mp_arI E a11 0 10 f8), (mp_arI E a12 0 6 f9), (mp_arL E a13 20 f10), (mp_arI E a14 0 10 f11), (mp_ob2 a15 y7 y8 y9 y10 a16 a31 a32 a17 a33 y11 y12), (mp_arI E a16 0 432 f12), (mp_arI E a17 0 78 f13)] (fun v w' => ∃ h1 : Nat → Int32, ∃ r2 : Int32, ∃ r3 : Int32, ∃ r4 : Int32, ∃ r5 : Int32, ∃ r6 : Int32, ∃ h7 : Nat → Int32, ∃ h8 : Nat → Int32, ∃ r9 : Int32, v = some (.int r9) ∧ 0 ≤ r2.toInt ∧ r2.toInt ≤ 6 ∧ 0 ≤ r3.toInt ∧ r3.toInt ≤ 12 ∧ 0 ≤ r4.toInt ∧ r4.toInt ≤ 5 ∧ w' = [(mp_ob9 a0 a18 a1 a19 a20 a15 a21 a22 a23 a24), (mp_ob0 a1 a2 y0 a12 a25 a26 a13 a14 a27), (mp_ob7 a2 y1 y2 y3 y4 y5 y6 a3 a4 a28 a5 a29 a6 a7 a8 a9 a10 a11 a30), (mp_arI E a3 0 36 f0), (mp_arL E a4 12 f1), (mp_arI E a5 0 6 f2), (mp_arI E a6 0 10 f3), (mp_arI E a7 0 10 f4), (mp_arI E a8 0 10 f5), (mp_arI E a9 0 10 f6), (mp_arI E a10 0 10 f7), (mp_arI E a11 0 10 f8), (mp_arI E a12 0 6 f9), (mp_arL E a13 20 f10), (mp_arI E a14 0 10 h1), (mp_ob2 a15 r2 r3 r4 y10 a16 a31 a32 a17 a33 r5 r6), (mp_arI E a16 0 432 h7), (mp_arI E a17 0 78 h8)]) := by
  refine mp_met false (by decide) (by decide) (Nat.le_of_ble_eq_true rfl) (fun X hF hQ => ?_)
  have hF : mp_F E X (RX9, cX9_love, 4, (4, 0, 0, 105), (some FieldType.int), false) := hF
  let w1_ : va_W := [(mp_ob9 a0 a18 a1 a19 a20 a15 a21 a22 a23 a24), (mp_ob0 a1 a2 y0 a12 a25 a26 a13 a14 a27), (mp_ob7 a2 y1 y2 y3 y4 y5 y6 a3 a4 a28 a5 a29 a6 a7 a8 a9 a10 a11 a30), (mp_arI E a3 0 36 f0), (mp_arL E a4 12 f1), (mp_arI E a5 0 6 f2), (mp_arI E a6 0 10 f3), (mp_arI E a7 0 10 f4), (mp_arI E a8 0 10 f5), (mp_arI E a9 0 10 f6), (mp_arI E a10 0 10 f7), (mp_arI E a11 0 10 f8), (mp_arI E a12 0 6 f9), (mp_arL E a13 20 f10), (mp_arI E a14 0 10 f11), (mp_ob2 a15 y7 y8 y9 y10 a16 a31 a32 a17 a33 y11 y12), (mp_arI E a16 0 432 f12), (mp_arI E a17 0 78 f13)]
  show mp_W E X 4 0 [(0, .ref a0), (1, .int x0), (2, .int x1), (3, .int x2)] [] w1_ 0 0
  refine mp_run mp_k_cX9_love_ok hF mp_tabX9_ok [mp_i (.aload_n 0), mp_i (.iload_n 1), mp_i (.iload_n 2), mp_i (.iload_n 3)] (by decide +kernel) ?_
  show mp_W E X 4 4 [(0, .ref a0), (1, .int x0), (2, .int x1), (3, .int x2)] [.int x2, .int x1, .int x0, .ref a0] w1_ 0 0
  refine mp_callV hF (As := [.int x0, .int x1, .int x2]) (rest := []) (wr := [(mp_arI E a3 0 36 f0), (mp_arL E a4 12 f1), (mp_arI E a5 0 6 f2), (mp_arI E a6 0 10 f3), (mp_arI E a7 0 10 f4), (mp_arI E a8 0 10 f5), (mp_arI E a9 0 10 f6), (mp_arI E a10 0 10 f7), (mp_arI E a11 0 10 f8), (mp_arI E a12 0 6 f9), (mp_arL E a13 20 f10), (mp_arI E a14 0 10 f11), (mp_ob2 a15 y7 y8 y9 y10 a16 a31 a32 a17 a33 y11 y12), (mp_arI E a16 0 432 f12), (mp_arI E a17 0 78 f13)]) (bX9_canLove_123 E a0 a1 a2 a18 a19 a20 a15 a21 a22 a23 a24 a12 a25 a26 a13 a14 a27 a3 a4 a28 a5 a29 a6 a7 a8 a9 a10 a11 a30 y0 y1 y2 y3 y4 y5 y6 x0 x1 x2 l_y0 u_y0 l_y2 u_y2 l_y3 u_y3 l_y4 u_y4 l_y5 u_y5 l_y6 u_y6) mp_lkX9_250 0 rfl [0, 1, 2] [3, 4, 5, 6, 7, 8, 9, 10, 11, 12, 13, 14, 15, 16, 17] rfl rfl rfl rfl rfl ⟨(Nat.le_of_ble_eq_true rfl), (Nat.le_of_ble_eq_true rfl), (Nat.le_of_ble_eq_true rfl), (Nat.le_of_ble_eq_true rfl)⟩ (Nat.le_of_ble_eq_true rfl) (by first | exact mp_fd_ok mp_k_cX9_love_ok (by decide +kernel) | decide +kernel) (fun v_1 w_2 h_3 => ?_)
  refine h_3.elim (fun q_10 => ?_) (fun q_11 => ?_)
  · skip
    refine q_10.elim fun e_12 e_13 => ?_
    clear h_3 q_10
    subst e_12
    subst e_13
    let w2_ : va_W := [(mp_arI E a3 0 36 f0), (mp_arL E a4 12 f1), (mp_arI E a5 0 6 f2), (mp_arI E a6 0 10 f3), (mp_arI E a7 0 10 f4), (mp_arI E a8 0 10 f5), (mp_arI E a9 0 10 f6), (mp_arI E a10 0 10 f7), (mp_arI E a11 0 10 f8), (mp_arI E a12 0 6 f9), (mp_arL E a13 20 f10), (mp_arI E a14 0 10 f11), (mp_ob2 a15 y7 y8 y9 y10 a16 a31 a32 a17 a33 y11 y12), (mp_arI E a16 0 432 f12), (mp_arI E a17 0 78 f13), (mp_ob9 a0 a18 a1 a19 a20 a15 a21 a22 a23 a24), (mp_ob0 a1 a2 y0 a12 a25 a26 a13 a14 a27), (mp_ob7 a2 y1 y2 y3 y4 y5 y6 a3 a4 a28 a5 a29 a6 a7 a8 a9 a10 a11 a30)]
    show mp_W E X 4 7 [(0, .ref a0), (1, .int x0), (2, .int x1), (3, .int x2)] [.int 0] w2_ 0 0
    refine mp_run mp_k_cX9_love_ok hF mp_tabX9_ok [mp_h (.ifCond .ne 6) [13]] (by decide +kernel) ?_
    refine And.intro (fun c_14 => absurd c_14 (by decide)) (fun _ => ?_)
    show mp_W E X 4 10 [(0, .ref a0), (1, .int x0), (2, .int x1), (3, .int x2)] [] w2_ 0 0
    refine mp_run mp_k_cX9_love_ok hF mp_tabX9_ok [mp_c (.bipush (-2)) (-2)] (by decide +kernel) ?_
    show mp_W E X 4 12 [(0, .ref a0), (1, .int x0), (2, .int x1), (3, .int x2)] [.int (-2)] w2_ 0 0
    exact mp_iret hF hQ rfl rfl (Nat.le_of_ble_eq_true rfl) (Nat.le_of_ble_eq_true rfl) [15, 16, 17, 0, 1, 2, 3, 4, 5, 6, 7, 8, 9, 10, 11, 12, 13, 14] (w' := w1_) rfl rfl ⟨f11, y7, y8, y9, y11, y12, f12, f13, (-2), rfl, l_y7, u_y7, l_y8, u_y8, l_y9, u_y9, rfl⟩ (by first | exact mp_fd_ok mp_k_cX9_love_ok (by decide +kernel) | decide +kernel)
  · skip
    refine q_11.elim fun e_15 q_16 => q_16.elim fun c_4 q_17 => q_17.elim fun c_5 q_18 => q_18.elim fun c_6 q_19 => q_19.elim fun c_7 q_20 => q_20.elim fun c_8 q_21 => q_21.elim fun c_9 e_22 => ?_
    clear h_3 q_11 q_16 q_17 q_18 q_19 q_20 q_21
    subst e_15
    subst e_22
    have c_4 : 0 ≤ x0.toInt := c_4
    have c_5 : x0.toInt < y5.toInt := c_5
    have c_6 : 1 ≤ x1.toInt := c_6
    have c_7 : 0 ≤ x2.toInt := c_7
    have c_8 : x2.toInt ≤ 12 := c_8
    have c_9 : y0.toInt + x2.toInt ≤ 99 := c_9
    let w3_ : va_W := [(mp_arI E a3 0 36 f0), (mp_arL E a4 12 f1), (mp_arI E a5 0 6 f2), (mp_arI E a6 0 10 f3), (mp_arI E a7 0 10 f4), (mp_arI E a8 0 10 f5), (mp_arI E a9 0 10 f6), (mp_arI E a10 0 10 f7), (mp_arI E a11 0 10 f8), (mp_arI E a12 0 6 f9), (mp_arL E a13 20 f10), (mp_arI E a14 0 10 f11), (mp_ob2 a15 y7 y8 y9 y10 a16 a31 a32 a17 a33 y11 y12), (mp_arI E a16 0 432 f12), (mp_arI E a17 0 78 f13), (mp_ob9 a0 a18 a1 a19 a20 a15 a21 a22 a23 a24), (mp_ob0 a1 a2 y0 a12 a25 a26 a13 a14 a27), (mp_ob7 a2 y1 y2 y3 y4 y5 y6 a3 a4 a28 a5 a29 a6 a7 a8 a9 a10 a11 a30)]
    show mp_W E X 4 7 [(0, .ref a0), (1, .int x0), (2, .int x1), (3, .int x2)] [.int 1] w3_ 0 0
    refine mp_run mp_k_cX9_love_ok hF mp_tabX9_ok [mp_h (.ifCond .ne 6) [13]] (by decide +kernel) ?_
    refine And.intro (fun _ => ?_) (fun c_23 => absurd c_23 (by decide))
    show mp_W E X 4 13 [(0, .ref a0), (1, .int x0), (2, .int x1), (3, .int x2)] [] w3_ 0 0
    refine mp_run mp_k_cX9_love_ok hF mp_tabX9_ok [mp_i (.aload_n 0), mp_h (.getfield 39) [40, 15], mp_i (.aload_n 0), mp_h (.getfield 19) [37, 15], mp_i (.iload_n 1), mp_i (.iload_n 2), mp_i (.iload_n 3)] (by decide +kernel) ?_
    refine And.intro rfl (And.intro rfl ?_)
    refine And.intro rfl (And.intro rfl ?_)
    show mp_W E X 4 24 [(0, .ref a0), (1, .int x0), (2, .int x1), (3, .int x2)] [.int x2, .int x1, .int x0, .ref a1, .ref a15] w3_ 0 0
    refine mp_callV hF (As := [.ref a1, .int x0, .int x1, .int x2]) (rest := []) (wr := [(mp_ob9 a0 a18 a1 a19 a20 a15 a21 a22 a23 a24)]) (bX2_seekLove_126 E a15 a1 a16 a17 a2 a3 a4 a5 a6 a7 a8 a9 a10 a11 a12 a13 a14 a31 a32 a33 a25 a26 a27 a28 a29 a30 f12 f13 f0 f1 f2 f3 f4 f5 f6 f7 f8 f9 f10 f11 y7 y8 y9 y10 y11 y12 y0 y1 y2 y3 y4 y5 y6 x0 x1 x2 p0 p1 p2 p3 p4 p5 p6 (by (first | exact c_4 | omega)) (by (first | exact mp_o419 u_y5 c_5 | omega)) (by (first | exact c_7 | omega)) (by (first | exact c_8 | omega)) l_y7 u_y7 l_y8 u_y8 l_y9 u_y9 l_y0 u_y0 l_y2 u_y2 l_y3 u_y3 l_y4 u_y4 l_y5 u_y5 l_y6 u_y6 (by first | (first | exact c_9 | omega) | (show y0.toInt + x2.toInt ≤ 99; omega))) mp_lkX9_254 12 rfl [12, 13, 14, 16, 17, 0, 1, 2, 3, 4, 5, 6, 7, 8, 9, 10, 11] [15] rfl rfl rfl rfl rfl ⟨(Nat.le_of_ble_eq_true rfl), (Nat.le_of_ble_eq_true rfl), (Nat.le_of_ble_eq_true rfl), (Nat.le_of_ble_eq_true rfl)⟩ (Nat.le_of_ble_eq_true rfl) (by first | exact mp_fd_ok mp_k_cX9_love_ok (by decide +kernel) | decide +kernel) (fun v_24 w_25 h_26 => ?_)
    refine h_26.elim fun r_27 q_43 => q_43.elim fun r_28 q_44 => q_44.elim fun r_29 q_45 => q_45.elim fun r_30 q_46 => q_46.elim fun r_31 q_47 => q_47.elim fun g_32 q_48 => q_48.elim fun g_33 q_49 => q_49.elim fun g_34 q_50 => q_50.elim fun e_51 q_52 => q_52.elim fun l_35 q_53 => q_53.elim fun u_36 q_54 => q_54.elim fun l_37 q_55 => q_55.elim fun u_38 q_56 => q_56.elim fun l_39 q_57 => q_57.elim fun u_40 q_58 => q_58.elim fun l_41 q_59 => q_59.elim fun u_42 e_60 => ?_
    clear h_26 q_43 q_44 q_45 q_46 q_47 q_48 q_49 q_50 q_52 q_53 q_54 q_55 q_56 q_57 q_58 q_59
    subst e_51
    subst e_60
    let w4_ : va_W := [(mp_ob9 a0 a18 a1 a19 a20 a15 a21 a22 a23 a24), (mp_ob2 a15 r_27 r_28 r_29 y10 a16 a31 a32 a17 a33 r_30 r_31), (mp_arI E a16 0 432 g_32), (mp_arI E a17 0 78 g_33), (mp_ob0 a1 a2 y0 a12 a25 a26 a13 a14 a27), (mp_ob7 a2 y1 y2 y3 y4 y5 y6 a3 a4 a28 a5 a29 a6 a7 a8 a9 a10 a11 a30), (mp_arI E a3 0 36 f0), (mp_arL E a4 12 f1), (mp_arI E a5 0 6 f2), (mp_arI E a6 0 10 f3), (mp_arI E a7 0 10 f4), (mp_arI E a8 0 10 f5), (mp_arI E a9 0 10 f6), (mp_arI E a10 0 10 f7), (mp_arI E a11 0 10 f8), (mp_arI E a12 0 6 f9), (mp_arL E a13 20 f10), (mp_arI E a14 0 10 g_34)]
    show mp_W E X 4 27 [(0, .ref a0), (1, .int x0), (2, .int x1), (3, .int x2)] [] w4_ 0 0
    refine mp_run mp_k_cX9_love_ok hF mp_tabX9_ok [mp_i (.aload_n 0), mp_h (.getfield 39) [40, 0], mp_h (.getfield 258) [26, 1]] (by decide +kernel) ?_
    refine And.intro rfl (And.intro rfl ?_)
    refine And.intro rfl (And.intro rfl ?_)
    show mp_W E X 4 34 [(0, .ref a0), (1, .int x0), (2, .int x1), (3, .int x2)] [.int r_30] w4_ 0 0
    exact mp_iret hF hQ rfl rfl (Nat.le_of_ble_eq_true rfl) (Nat.le_of_ble_eq_true rfl) [0, 4, 5, 6, 7, 8, 9, 10, 11, 12, 13, 14, 15, 16, 17, 1, 2, 3] (w' := [(mp_ob9 a0 a18 a1 a19 a20 a15 a21 a22 a23 a24), (mp_ob0 a1 a2 y0 a12 a25 a26 a13 a14 a27), (mp_ob7 a2 y1 y2 y3 y4 y5 y6 a3 a4 a28 a5 a29 a6 a7 a8 a9 a10 a11 a30), (mp_arI E a3 0 36 f0), (mp_arL E a4 12 f1), (mp_arI E a5 0 6 f2), (mp_arI E a6 0 10 f3), (mp_arI E a7 0 10 f4), (mp_arI E a8 0 10 f5), (mp_arI E a9 0 10 f6), (mp_arI E a10 0 10 f7), (mp_arI E a11 0 10 f8), (mp_arI E a12 0 6 f9), (mp_arL E a13 20 f10), (mp_arI E a14 0 10 g_34), (mp_ob2 a15 r_27 r_28 r_29 y10 a16 a31 a32 a17 a33 r_30 r_31), (mp_arI E a16 0 432 g_32), (mp_arI E a17 0 78 g_33)]) rfl rfl ⟨g_34, r_27, r_28, r_29, r_30, r_31, g_32, g_33, r_30, rfl, l_35, u_36, l_37, u_38, l_39, u_40, rfl⟩ (by first | exact mp_fd_ok mp_k_cX9_love_ok (by decide +kernel) | decide +kernel)
