set_option maxHeartbeats 4000000 in
set_option maxRecDepth 100000 in
theorem bX10_whyNoThreat_146 (E : mp_E) (a0 a1 a2 a3 a4 a5 a6 a7 a8 a9 a10 a11 a12 a13 a14 a15 a16 a17 a18 a19 a20 a21 a22 a23 a24 a25 : Nat) (f0 : Nat → Int32) (f1 : Nat → Int32) (f2 : Nat → Int64) (y0 : Int32) (y1 : Int32) (y2 : Int32) (y3 : Int32) (y4 : Int32) (y5 : Int32) (y6 : Int64) (y7 : Int32) (y8 : Int32) (y9 : Int32) (y10 : Int32) (y11 : Int32) (y12 : Int32) (y13 : Int32) (y14 : Int32) (y15 : Int32) (y16 : Int32) (y17 : Int32) (y18 : Int32) (y19 : Int32) (y20 : Int32) (y21 : Int32) (x0 : Int32) (p0 : mp_all f1 4 0 60) (l_y1 : 0 ≤ y1.toInt) (u_y1 : y1.toInt ≤ 1600) (l_y2 : 0 ≤ y2.toInt) (u_y2 : y2.toInt ≤ 1600) (l_y3 : 0 ≤ y3.toInt) (u_y3 : y3.toInt ≤ 4) (l_y4 : 0 ≤ y4.toInt) (u_y4 : y4.toInt ≤ 1600) (l_y11 : 0 ≤ y11.toInt) (u_y11 : y11.toInt ≤ 99) (l_y12 : 0 ≤ y12.toInt) (u_y12 : y12.toInt ≤ 5) (l_y13 : 0 ≤ y13.toInt) (u_y13 : y13.toInt ≤ 12) : mp_Ct E yX10_whyNoThreat cX10_whyNoThreat 3 (some FieldType.int) 2 0 0 45 [.ref a0, .int x0] [(mp_ob10 a0 y0 a1 a2 a3 a4 a5 y1 y2 y3 y4 y5 y6 y7 y8 y9 y10 a6 a7 a8 a9 a10 a11 a12 a13 y11 a14 a15 a16 a17 y12 y13 y14 a18 a19 y15 y16 a20 a21 a22 y17 y18 y19 y20 a23 a24 a25 y21), (mp_arI E a1 0 4 f0), (mp_arI E a2 0 4 f1), (mp_arL E a3 240 f2)] (fun v w' => (v = some (.int (-2)) ∧ w' = [(mp_ob10 a0 y0 a1 a2 a3 a4 a5 y1 y2 y3 y4 y5 y6 y7 y8 y9 y10 a6 a7 a8 a9 a10 a11 a12 a13 y11 a14 a15 a16 a17 y12 y13 y14 a18 a19 y15 y16 a20 a21 a22 y17 y18 y19 y20 a23 a24 a25 y21), (mp_arI E a1 0 4 f0), (mp_arI E a2 0 4 f1), (mp_arL E a3 240 f2)]) ∨ (v = some (.int 0) ∧ 0 ≤ x0.toInt ∧ x0.toInt ≤ 3 ∧ (mp_c99 f2 x0.toInt (f1 x0.toInt.toNat).toInt) ∧ (0 ≤ x0.toInt ∧ x0.toInt ≤ 3) ∧ w' = [(mp_ob10 a0 y0 a1 a2 a3 a4 a5 y1 y2 y3 y4 y5 y6 y7 y8 y9 y10 a6 a7 a8 a9 a10 a11 a12 a13 y11 a14 a15 a16 a17 y12 y13 y14 a18 a19 y15 y16 a20 a21 a22 y17 y18 y19 y20 a23 a24 a25 y21), (mp_arI E a1 0 4 f0), (mp_arI E a2 0 4 f1), (mp_arL E a3 240 f2)]) ∨ (v = some (.int (-6)) ∧ 0 ≤ x0.toInt ∧ x0.toInt ≤ 3 ∧ w' = [(mp_ob10 a0 y0 a1 a2 a3 a4 a5 y1 y2 y3 y4 y5 y6 y7 y8 y9 y10 a6 a7 a8 a9 a10 a11 a12 a13 y11 a14 a15 a16 a17 y12 y13 y14 a18 a19 y15 y16 a20 a21 a22 y17 y18 y19 y20 a23 a24 a25 y21), (mp_arI E a1 0 4 f0), (mp_arI E a2 0 4 f1), (mp_arL E a3 240 f2)])) := by
  refine mp_met false (by decide) (by decide) (Nat.le_of_ble_eq_true rfl) (fun X hF hQ => ?_)
  have hF : mp_F E X (RX10, cX10_whyNoThreat, 3, (2, 0, 0, 45), (some FieldType.int), false) := hF
  let w1_ : va_W := [(mp_ob10 a0 y0 a1 a2 a3 a4 a5 y1 y2 y3 y4 y5 y6 y7 y8 y9 y10 a6 a7 a8 a9 a10 a11 a12 a13 y11 a14 a15 a16 a17 y12 y13 y14 a18 a19 y15 y16 a20 a21 a22 y17 y18 y19 y20 a23 a24 a25 y21), (mp_arI E a1 0 4 f0), (mp_arI E a2 0 4 f1), (mp_arL E a3 240 f2)]
  show mp_W E X 3 0 [(0, .ref a0), (1, .int x0)] [] w1_ 0 0
  refine mp_run mp_k_cX10_whyNoThreat_ok hF mp_tabX10_ok [mp_i (.iload_n 1)] (by decide +kernel) ?_
  show mp_W E X 3 1 [(0, .ref a0), (1, .int x0)] [.int x0] w1_ 0 0
  refine mp_callS hF (As := [.int x0]) (rest := []) (wr := w1_) (bX10_isSlot_1 E x0) mp_lkX10_101 [] [0, 1, 2, 3] rfl rfl rfl rfl rfl ⟨(Nat.le_of_ble_eq_true rfl), (Nat.le_of_ble_eq_true rfl), (Nat.le_of_ble_eq_true rfl), (Nat.le_of_ble_eq_true rfl)⟩ (Nat.le_of_ble_eq_true rfl) (by first | exact mp_fd_ok mp_k_cX10_whyNoThreat_ok (by decide +kernel) | decide +kernel) (fun v_1 w_2 h_3 => ?_)
  rcases h_3 with ⟨rfl, x_4, rfl⟩ | ⟨rfl, c_5, c_6, x_7, rfl⟩
  · skip
    show mp_W E X 3 4 [(0, .ref a0), (1, .int x0)] [.int 0] w1_ 0 0
    refine mp_run mp_k_cX10_whyNoThreat_ok hF mp_tabX10_ok [mp_h (.ifCond .ne 6) [10]] (by decide +kernel) ?_
    refine And.intro (fun c_8 => absurd c_8 (by decide)) (fun _ => ?_)
    show mp_W E X 3 7 [(0, .ref a0), (1, .int x0)] [] w1_ 0 0
    refine mp_run mp_k_cX10_whyNoThreat_ok hF mp_tabX10_ok [mp_c (.bipush (-2)) (-2)] (by decide +kernel) ?_
    show mp_W E X 3 9 [(0, .ref a0), (1, .int x0)] [.int (-2)] w1_ 0 0
    exact mp_iret hF hQ rfl rfl (Nat.le_of_ble_eq_true rfl) (Nat.le_of_ble_eq_true rfl) [0, 1, 2, 3] (w' := w1_) rfl rfl (Or.inl ⟨rfl, rfl⟩) (by first | exact mp_fd_ok mp_k_cX10_whyNoThreat_ok (by decide +kernel) | decide +kernel)
  · skip
    have c_5 : 0 ≤ x0.toInt := c_5
    have c_6 : x0.toInt ≤ 3 := c_6
    show mp_W E X 3 4 [(0, .ref a0), (1, .int x0)] [.int 1] w1_ 0 0
    refine mp_run mp_k_cX10_whyNoThreat_ok hF mp_tabX10_ok [mp_h (.ifCond .ne 6) [10]] (by decide +kernel) ?_
    refine And.intro (fun _ => ?_) (fun c_9 => absurd c_9 (by decide))
    show mp_W E X 3 10 [(0, .ref a0), (1, .int x0)] [] w1_ 0 0
    refine mp_run mp_k_cX10_whyNoThreat_ok hF mp_tabX10_ok [mp_i (.aload_n 0), mp_h (.getfield 7) [1, 0], mp_i (.iload_n 1), mp_h .iaload [1], mp_c (.iconst (-1)) (-1), mp_h (.if_icmp .ne 6) [23]] (by decide +kernel) ?_
    refine And.intro rfl (And.intro rfl ?_)
    refine And.intro rfl (And.intro rfl (And.intro (vp_in_iff.mpr (by omega)) ?_))
    intro z_10 h_11
    refine And.intro (fun c_12 => ?_) (fun c_12 => ?_)
    · have c_12 : z_10.toInt ≠ (-1) := c_12
      show mp_W E X 3 23 [(0, .ref a0), (1, .int x0)] [] w1_ 0 0
      refine mp_run mp_k_cX10_whyNoThreat_ok hF mp_tabX10_ok [mp_i (.aload_n 0), mp_h (.getfield 13) [2, 0], mp_i (.iload_n 1), mp_h .iaload [2], mp_c (.bipush 8) 8, mp_h (.if_icmp .le 6) [37]] (by decide +kernel) ?_
      refine And.intro rfl (And.intro rfl ?_)
      refine And.intro rfl (And.intro rfl (And.intro (vp_in_iff.mpr (by omega)) ?_))
      intro z_13 h_14
      have e_15 : 0 ≤ z_13.toInt ∧ z_13.toInt ≤ 60 := mp_all_ld h_14 p0 (by omega) (by omega)
      have e_16 : z_13.toInt = (f1 x0.toInt.toNat).toInt := congrArg Int32.toInt h_14
      refine And.intro (fun c_17 => ?_) (fun c_17 => ?_)
      · have c_17 : z_13.toInt ≤ 8 := c_17
        show mp_W E X 3 37 [(0, .ref a0), (1, .int x0)] [] w1_ 0 0
        refine mp_run mp_k_cX10_whyNoThreat_ok hF mp_tabX10_ok [mp_c (.iconst 0) 0, mp_i (.istore_n 2)] (by decide +kernel) ?_
        show mp_W E X 3 39 [(2, .int 0), (0, .ref a0), (1, .int x0)] [] w1_ 0 0
        have lp_22 : ∀ (d_23 : Nat) (i_18 : Int32), 0 ≤ i_18.toInt → i_18.toInt ≤ 9 → (mp_c99 f2 x0.toInt i_18.toInt) → z_13.toInt - i_18.toInt ≤ (d_23 : Int) → mp_W E X 3 39 [(2, .int i_18), (0, .ref a0), (1, .int x0)] [] [(mp_ob10 a0 y0 a1 a2 a3 a4 a5 y1 y2 y3 y4 y5 y6 y7 y8 y9 y10 a6 a7 a8 a9 a10 a11 a12 a13 y11 a14 a15 a16 a17 y12 y13 y14 a18 a19 y15 y16 a20 a21 a22 y17 y18 y19 y20 a23 a24 a25 y21), (mp_arI E a1 0 4 f0), (mp_arI E a2 0 4 f1), (mp_arL E a3 240 f2)] 0 0 := by
          intro d_23
          induction d_23 using Nat.strongRecOn with
          | ind d_23 ih_24 =>
            intro i_18 l_19 u_20 x_21 hm_25
            refine mp_run mp_k_cX10_whyNoThreat_ok hF mp_tabX10_ok [mp_i (.iload_n 2), mp_i (.aload_n 0), mp_h (.getfield 13) [2, 0], mp_i (.iload_n 1), mp_h .iaload [2], mp_h (.if_icmp .ge 33) [79]] (by decide +kernel) ?_
            refine And.intro rfl (And.intro rfl ?_)
            refine And.intro rfl (And.intro rfl (And.intro (vp_in_iff.mpr (by omega)) ?_))
            intro z_26 h_27
            have k_28 : z_13 = z_26 := h_14.trans h_27.symm
            subst k_28
            refine And.intro (fun c_29 => ?_) (fun c_29 => ?_)
            · have c_29 : z_13.toInt ≤ i_18.toInt := c_29
              show mp_W E X 3 79 [(2, .int i_18), (0, .ref a0), (1, .int x0)] [] w1_ 0 0
              refine mp_run mp_k_cX10_whyNoThreat_ok hF mp_tabX10_ok [mp_c (.iconst 0) 0] (by decide +kernel) ?_
              show mp_W E X 3 80 [(2, .int i_18), (0, .ref a0), (1, .int x0)] [.int 0] w1_ 0 0
              exact mp_iret hF hQ rfl rfl (Nat.le_of_ble_eq_true rfl) (Nat.le_of_ble_eq_true rfl) [0, 1, 2, 3] (w' := w1_) rfl rfl (Or.inr (Or.inl ⟨rfl, (by first | omega | decide), (by first | omega | decide), (mp_c99_le x_21 (by omega)), (by omega), rfl⟩)) (by first | exact mp_fd_ok mp_k_cX10_whyNoThreat_ok (by decide +kernel) | decide +kernel)
            · have c_29 : i_18.toInt < z_13.toInt := c_29
              show mp_W E X 3 49 [(2, .int i_18), (0, .ref a0), (1, .int x0)] [] w1_ 0 0
              refine mp_run mp_k_cX10_whyNoThreat_ok hF mp_tabX10_ok [mp_i (.aload_n 0), mp_h (.getfield 16) [3, 0], mp_c (.bipush 60) 60, mp_i (.iload_n 1), mp_i .imul, mp_i (.iload_n 2), mp_i .iadd, mp_h .laload [3], mp_cl (.lconst 0) 0, mp_cl (.ldc2_w 258) 99] (by decide +kernel) ?_
              refine And.intro rfl (And.intro rfl ?_)
              intro z_30 h_31
              have e_32 : z_30.toInt = 60 * x0.toInt := mp_mul (a := 60) (b := x0.toInt) h_31 (by decide) rfl (by omega) (by omega)
              intro z_33 h_34
              have e_35 : z_33.toInt = z_30.toInt + i_18.toInt := mp_add (a := z_30.toInt) (b := i_18.toInt) h_34 rfl rfl (by omega) (by omega)
              refine And.intro rfl (And.intro rfl (And.intro (vp_in_iff.mpr (by omega)) ?_))
              intro z_36 h_37
              show mp_W E X 3 64 [(2, .int i_18), (0, .ref a0), (1, .int x0)] [.long 99, .long 0, .long z_36] w1_ 0 0
              refine mp_callS hF (As := [.long z_36, .long 0, .long 99]) (rest := []) (wr := w1_) (bX10_in_0 E z_36 0 99) mp_lkX10_97 [] [0, 1, 2, 3] rfl rfl rfl rfl rfl ⟨(Nat.le_of_ble_eq_true rfl), (Nat.le_of_ble_eq_true rfl), (Nat.le_of_ble_eq_true rfl), (Nat.le_of_ble_eq_true rfl)⟩ (Nat.le_of_ble_eq_true rfl) (by first | exact mp_fd_ok mp_k_cX10_whyNoThreat_ok (by decide +kernel) | decide +kernel) (fun v_38 w_39 h_40 => ?_)
              rcases h_40 with ⟨rfl, x_41, rfl⟩ | ⟨rfl, c_42, c_43, rfl⟩
              · skip
                have i_44 : (0 : Int64).toInt = 0 := by decide
                have i_45 : (99 : Int64).toInt = 99 := by decide
                show mp_W E X 3 67 [(2, .int i_18), (0, .ref a0), (1, .int x0)] [.int 0] w1_ 0 0
                refine mp_run mp_k_cX10_whyNoThreat_ok hF mp_tabX10_ok [mp_h (.ifCond .ne 6) [73]] (by decide +kernel) ?_
                refine And.intro (fun c_46 => absurd c_46 (by decide)) (fun _ => ?_)
                show mp_W E X 3 70 [(2, .int i_18), (0, .ref a0), (1, .int x0)] [] w1_ 0 0
                refine mp_run mp_k_cX10_whyNoThreat_ok hF mp_tabX10_ok [mp_c (.bipush (-2)) (-2)] (by decide +kernel) ?_
                show mp_W E X 3 72 [(2, .int i_18), (0, .ref a0), (1, .int x0)] [.int (-2)] w1_ 0 0
                exact mp_iret hF hQ rfl rfl (Nat.le_of_ble_eq_true rfl) (Nat.le_of_ble_eq_true rfl) [0, 1, 2, 3] (w' := w1_) rfl rfl (Or.inl ⟨rfl, rfl⟩) (by first | exact mp_fd_ok mp_k_cX10_whyNoThreat_ok (by decide +kernel) | decide +kernel)
              · skip
                have c_42 : 0 ≤ z_36.toInt := c_42
                have c_43 : z_36.toInt ≤ 99 := c_43
                have i_47 : (0 : Int64).toInt = 0 := by decide
                have i_48 : (99 : Int64).toInt = 99 := by decide
                show mp_W E X 3 67 [(2, .int i_18), (0, .ref a0), (1, .int x0)] [.int 1] w1_ 0 0
                refine mp_run mp_k_cX10_whyNoThreat_ok hF mp_tabX10_ok [mp_h (.ifCond .ne 6) [73]] (by decide +kernel) ?_
                refine And.intro (fun _ => ?_) (fun c_49 => absurd c_49 (by decide))
                show mp_W E X 3 73 [(2, .int i_18), (0, .ref a0), (1, .int x0)] [] w1_ 0 0
                refine mp_run mp_k_cX10_whyNoThreat_ok hF mp_tabX10_ok [mp_c (.iinc 2 1) 1, mp_h (.goto (-37)) [39]] (by decide +kernel) ?_
                intro z_50 h_51
                have e_52 : z_50.toInt = i_18.toInt + 1 := mp_add (a := i_18.toInt) (b := 1) h_51 rfl (by decide) (by omega) (by omega)
                show mp_W E X 3 39 [(2, .int z_50), (0, .ref a0), (1, .int x0)] [] w1_ 0 0
                exact mp_sub [0, 1, 2] rfl [0, 1, 2, 3] rfl rfl (ih_24 (d_23 - 1) (by omega) z_50 (by omega) (by omega) (mp_c99_s x_21 h_37 (by omega) (by omega) (by omega) (by omega) (by omega)) (by omega))
        exact mp_sub [0, 1, 2] rfl [0, 1, 2, 3] rfl rfl (lp_22 _ 0 (by decide) (by decide) (mp_c99_0 (by decide)) (Int.self_le_toNat _))
      · have c_17 : 8 < z_13.toInt := c_17
        show mp_W E X 3 34 [(0, .ref a0), (1, .int x0)] [] w1_ 0 0
        refine mp_run mp_k_cX10_whyNoThreat_ok hF mp_tabX10_ok [mp_c (.bipush (-2)) (-2)] (by decide +kernel) ?_
        show mp_W E X 3 36 [(0, .ref a0), (1, .int x0)] [.int (-2)] w1_ 0 0
        exact mp_iret hF hQ rfl rfl (Nat.le_of_ble_eq_true rfl) (Nat.le_of_ble_eq_true rfl) [0, 1, 2, 3] (w' := w1_) rfl rfl (Or.inl ⟨rfl, rfl⟩) (by first | exact mp_fd_ok mp_k_cX10_whyNoThreat_ok (by decide +kernel) | decide +kernel)
    · have c_12 : z_10.toInt = (-1) := (congrArg Int32.toInt c_12)
      show mp_W E X 3 20 [(0, .ref a0), (1, .int x0)] [] w1_ 0 0
      refine mp_run mp_k_cX10_whyNoThreat_ok hF mp_tabX10_ok [mp_c (.bipush (-6)) (-6)] (by decide +kernel) ?_
      show mp_W E X 3 22 [(0, .ref a0), (1, .int x0)] [.int (-6)] w1_ 0 0
      exact mp_iret hF hQ rfl rfl (Nat.le_of_ble_eq_true rfl) (Nat.le_of_ble_eq_true rfl) [0, 1, 2, 3] (w' := w1_) rfl rfl (Or.inr (Or.inr ⟨rfl, (by first | omega | decide), (by first | omega | decide), rfl⟩)) (by first | exact mp_fd_ok mp_k_cX10_whyNoThreat_ok (by decide +kernel) | decide +kernel)
set_option maxHeartbeats 4000000 in
set_option maxRecDepth 100000 in
theorem bX10_laysNimbers_147 (E : mp_E) (a0 a1 a2 a3 a4 a5 a6 a7 a8 a9 a10 a11 a12 a13 a14 a15 a16 a17 a18 a19 a20 a21 a22 a23 a24 a25 : Nat) (f0 : Nat → Int32) (y0 : Int32) (y1 : Int32) (y2 : Int32) (y3 : Int32) (y4 : Int32) (y5 : Int32) (y6 : Int64) (y7 : Int32) (y8 : Int32) (y9 : Int32) (y10 : Int32) (y11 : Int32) (y12 : Int32) (y13 : Int32) (y14 : Int32) (y15 : Int32) (y16 : Int32) (y17 : Int32) (y18 : Int32) (y19 : Int32) (y20 : Int32) (y21 : Int32) (l_y1 : 0 ≤ y1.toInt) (u_y1 : y1.toInt ≤ 1600) (l_y2 : 0 ≤ y2.toInt) (u_y2 : y2.toInt ≤ 1600) (l_y3 : 0 ≤ y3.toInt) (u_y3 : y3.toInt ≤ 4) (l_y4 : 0 ≤ y4.toInt) (u_y4 : y4.toInt ≤ 1600) (l_y11 : 0 ≤ y11.toInt) (u_y11 : y11.toInt ≤ 99) (l_y12 : 0 ≤ y12.toInt) (u_y12 : y12.toInt ≤ 5) (l_y13 : 0 ≤ y13.toInt) (u_y13 : y13.toInt ≤ 12) : mp_Ct E yX10_laysNimbers cX10_laysNimbers 5 none 0 0 0 0 [.ref a0] [(mp_ob10 a0 y0 a2 a3 a4 a5 a6 y1 y2 y3 y4 y5 y6 y7 y8 y9 y10 a7 a8 a9 a10 a11 a12 a13 a14 y11 a15 a16 a17 a18 y12 y13 y14 a19 a20 y15 y16 a21 a22 a23 y17 y18 y19 y20 a24 a25 a1 y21), (mp_arI E a1 0 100 f0)] (fun v w' => ∃ h1 : Nat → Int32, v = none ∧ w' = [(mp_ob10 a0 y0 a2 a3 a4 a5 a6 y1 y2 y3 y4 y5 y6 y7 y8 y9 y10 a7 a8 a9 a10 a11 a12 a13 a14 y11 a15 a16 a17 a18 y12 y13 y14 a19 a20 y15 y16 a21 a22 a23 y17 y18 y19 y20 a24 a25 a1 y21), (mp_arI E a1 0 100 h1)]) := by
  refine mp_met false (by decide) (by decide) (Nat.le_of_ble_eq_true rfl) (fun X hF hQ => ?_)
  have hF : mp_F E X (RX10, cX10_laysNimbers, 5, (0, 0, 0, 0), none, false) := hF
  let w1_ : va_W := [(mp_ob10 a0 y0 a2 a3 a4 a5 a6 y1 y2 y3 y4 y5 y6 y7 y8 y9 y10 a7 a8 a9 a10 a11 a12 a13 a14 y11 a15 a16 a17 a18 y12 y13 y14 a19 a20 y15 y16 a21 a22 a23 y17 y18 y19 y20 a24 a25 a1 y21), (mp_arI E a1 0 100 f0)]
  show mp_W E X 5 0 [(0, .ref a0)] [] w1_ 0 0
  refine mp_run mp_k_cX10_laysNimbers_ok hF mp_tabX10_ok [mp_i (.aload_n 0), mp_h (.getfield 89) [45, 0], mp_c (.iconst 0) 0, mp_c (.iconst 0) 0, mp_h .iastore [1]] (by decide +kernel) ?_
  refine And.intro rfl (And.intro rfl ?_)
  refine And.intro rfl (And.intro rfl (And.intro (vp_in_iff.mpr (by decide)) ?_))
  intro g_1 h_2
  let w2_ : va_W := [(mp_ob10 a0 y0 a2 a3 a4 a5 a6 y1 y2 y3 y4 y5 y6 y7 y8 y9 y10 a7 a8 a9 a10 a11 a12 a13 a14 y11 a15 a16 a17 a18 y12 y13 y14 a19 a20 y15 y16 a21 a22 a23 y17 y18 y19 y20 a24 a25 a1 y21), (mp_arI E a1 0 100 g_1)]
  show mp_W E X 5 7 [(0, .ref a0)] [] w2_ 0 0
  refine mp_run mp_k_cX10_laysNimbers_ok hF mp_tabX10_ok [mp_c (.iconst 1) 1, mp_i (.istore_n 1)] (by decide +kernel) ?_
  show mp_W E X 5 9 [(1, .int 1), (0, .ref a0)] [] w2_ 0 0
  have lp_7 : ∀ (d_8 : Nat) (i_3 : Int32) (g_4 : Nat → Int32), 1 ≤ i_3.toInt → i_3.toInt ≤ 100 → -(i_3.toInt) + 100 ≤ (d_8 : Int) → mp_W E X 5 9 [(1, .int i_3), (0, .ref a0)] [] [(mp_ob10 a0 y0 a2 a3 a4 a5 a6 y1 y2 y3 y4 y5 y6 y7 y8 y9 y10 a7 a8 a9 a10 a11 a12 a13 a14 y11 a15 a16 a17 a18 y12 y13 y14 a19 a20 y15 y16 a21 a22 a23 y17 y18 y19 y20 a24 a25 a1 y21), (mp_arI E a1 0 100 g_4)] 0 0 := by
    intro d_8
    induction d_8 using Nat.strongRecOn with
    | ind d_8 ih_9 =>
      intro i_3 g_4 l_5 u_6 hm_10
      refine mp_run mp_k_cX10_laysNimbers_ok hF mp_tabX10_ok [mp_i (.iload_n 1), mp_c (.bipush 100) 100, mp_h (.if_icmp .ge 56) [68]] (by decide +kernel) ?_
      refine And.intro (fun c_11 => ?_) (fun c_11 => ?_)
      · have c_11 : 100 ≤ i_3.toInt := c_11
        let w3_ : va_W := [(mp_ob10 a0 y0 a2 a3 a4 a5 a6 y1 y2 y3 y4 y5 y6 y7 y8 y9 y10 a7 a8 a9 a10 a11 a12 a13 a14 y11 a15 a16 a17 a18 y12 y13 y14 a19 a20 y15 y16 a21 a22 a23 y17 y18 y19 y20 a24 a25 a1 y21), (mp_arI E a1 0 100 g_4)]
        show mp_W E X 5 68 [(1, .int i_3), (0, .ref a0)] [] w3_ 0 0
        exact mp_vret hF hQ rfl (Nat.le_of_ble_eq_true rfl) (Nat.le_of_ble_eq_true rfl) [0, 1] (w' := w3_) rfl rfl ⟨g_4, rfl, rfl⟩ (by first | exact mp_fd_ok mp_k_cX10_laysNimbers_ok (by decide +kernel) | decide +kernel)
      · have c_11 : i_3.toInt < 100 := c_11
        let w4_ : va_W := [(mp_ob10 a0 y0 a2 a3 a4 a5 a6 y1 y2 y3 y4 y5 y6 y7 y8 y9 y10 a7 a8 a9 a10 a11 a12 a13 a14 y11 a15 a16 a17 a18 y12 y13 y14 a19 a20 y15 y16 a21 a22 a23 y17 y18 y19 y20 a24 a25 a1 y21), (mp_arI E a1 0 100 g_4)]
        show mp_W E X 5 15 [(1, .int i_3), (0, .ref a0)] [] w4_ 0 0
        refine mp_run mp_k_cX10_laysNimbers_ok hF mp_tabX10_ok [mp_i (.aload_n 0), mp_h (.getfield 89) [45, 0], mp_i (.iload_n 1), mp_c (.iconst 1) 1, mp_i .isub, mp_h .iaload [1], mp_i (.istore_n 2), mp_i (.aload_n 0), mp_h (.getfield 89) [45, 0], mp_i (.iload_n 1), mp_c (.iconst 2) 2, mp_i .idiv, mp_h .iaload [1], mp_i (.istore_n 3), mp_c (.iconst 0) 0, mp_i (.istore 4)] (by decide +kernel) ?_
        refine And.intro rfl (And.intro rfl ?_)
        intro z_12 h_13
        have e_14 : z_12.toInt = i_3.toInt - 1 := mp_subi (a := i_3.toInt) (b := 1) h_13 rfl (by decide) (by omega) (by omega)
        refine And.intro rfl (And.intro rfl (And.intro (vp_in_iff.mpr (by omega)) ?_))
        intro z_15 h_16
        refine And.intro rfl (And.intro rfl ?_)
        refine And.intro (by decide) ?_
        intro z_17 h_18
        have e_19 : z_17.toInt = i_3.toInt / 2 := mp_div (a := i_3.toInt) (b := 2) h_18 rfl (by decide) (by omega) (by decide)
        refine And.intro rfl (And.intro rfl (And.intro (vp_in_iff.mpr (by omega)) ?_))
        intro z_20 h_21
        show mp_W E X 5 36 [(4, .int 0), (3, .int z_20), (2, .int z_15), (1, .int i_3), (0, .ref a0)] [] w4_ 0 0
        have lp_24 : ∀ (d_25 : Nat) (i_22 : Int32), (i_22.toInt = 0 ∨ (i_22.toInt = 1 ∧ (z_15.toInt = 0 ∨ z_20.toInt = 0)) ∨ (i_22.toInt = 2 ∧ ((z_15.toInt = 0 ∧ z_20.toInt = 1) ∨ (z_15.toInt = 1 ∧ z_20.toInt = 0)))) → 3 - i_22.toInt ≤ (d_25 : Int) → mp_W E X 5 36 [(4, .int i_22), (3, .int z_20), (2, .int z_15), (1, .int i_3), (0, .ref a0)] [] [(mp_ob10 a0 y0 a2 a3 a4 a5 a6 y1 y2 y3 y4 y5 y6 y7 y8 y9 y10 a7 a8 a9 a10 a11 a12 a13 a14 y11 a15 a16 a17 a18 y12 y13 y14 a19 a20 y15 y16 a21 a22 a23 y17 y18 y19 y20 a24 a25 a1 y21), (mp_arI E a1 0 100 g_4)] 0 0 := by
          intro d_25
          induction d_25 using Nat.strongRecOn with
          | ind d_25 ih_26 =>
            intro i_22 x_23 hm_27
            refine mp_run mp_k_cX10_laysNimbers_ok hF mp_tabX10_ok [mp_i (.iload 4), mp_i (.iload_n 2), mp_h (.if_icmp .eq 9) [48]] (by decide +kernel) ?_
            refine And.intro (fun c_28 => ?_) (fun c_28 => ?_)
            · have c_28 : i_22.toInt = z_15.toInt := (congrArg Int32.toInt c_28)
              show mp_W E X 5 48 [(4, .int i_22), (3, .int z_20), (2, .int z_15), (1, .int i_3), (0, .ref a0)] [] w4_ 0 0
              refine mp_run mp_k_cX10_laysNimbers_ok hF mp_tabX10_ok [mp_c (.iinc 4 1) 1, mp_h (.goto (-15)) [36]] (by decide +kernel) ?_
              intro z_29 h_30
              have e_31 : z_29.toInt = i_22.toInt + 1 := mp_add (a := i_22.toInt) (b := 1) h_30 rfl (by decide) (by omega) (by omega)
              show mp_W E X 5 36 [(4, .int z_29), (3, .int z_20), (2, .int z_15), (1, .int i_3), (0, .ref a0)] [] w4_ 0 0
              exact mp_sub [0, 1, 2, 3, 4] rfl [0, 1] rfl rfl (ih_26 (d_25 - 1) (by omega) z_29 (by first | omega | decide | (show z_29.toInt = 0 ∨ (z_29.toInt = 1 ∧ (z_15.toInt = 0 ∨ z_20.toInt = 0)) ∨ (z_29.toInt = 2 ∧ ((z_15.toInt = 0 ∧ z_20.toInt = 1) ∨ (z_15.toInt = 1 ∧ z_20.toInt = 0))); first | omega | decide)) (by omega))
            · have c_28 : i_22.toInt ≠ z_15.toInt := c_28
              show mp_W E X 5 42 [(4, .int i_22), (3, .int z_20), (2, .int z_15), (1, .int i_3), (0, .ref a0)] [] w4_ 0 0
              refine mp_run mp_k_cX10_laysNimbers_ok hF mp_tabX10_ok [mp_i (.iload 4), mp_i (.iload_n 3), mp_h (.if_icmp .ne 9) [54]] (by decide +kernel) ?_
              refine And.intro (fun c_32 => ?_) (fun c_32 => ?_)
              · have c_32 : i_22.toInt ≠ z_20.toInt := c_32
                show mp_W E X 5 54 [(4, .int i_22), (3, .int z_20), (2, .int z_15), (1, .int i_3), (0, .ref a0)] [] w4_ 0 0
                refine mp_run mp_k_cX10_laysNimbers_ok hF mp_tabX10_ok [mp_i (.aload_n 0), mp_h (.getfield 89) [45, 0], mp_i (.iload_n 1), mp_i (.iload 4), mp_h .iastore [1]] (by decide +kernel) ?_
                refine And.intro rfl (And.intro rfl ?_)
                refine And.intro rfl (And.intro rfl (And.intro (vp_in_iff.mpr (by omega)) ?_))
                intro g_33 h_34
                let w5_ : va_W := [(mp_ob10 a0 y0 a2 a3 a4 a5 a6 y1 y2 y3 y4 y5 y6 y7 y8 y9 y10 a7 a8 a9 a10 a11 a12 a13 a14 y11 a15 a16 a17 a18 y12 y13 y14 a19 a20 y15 y16 a21 a22 a23 y17 y18 y19 y20 a24 a25 a1 y21), (mp_arI E a1 0 100 g_33)]
                show mp_W E X 5 62 [(4, .int i_22), (3, .int z_20), (2, .int z_15), (1, .int i_3), (0, .ref a0)] [] w5_ 0 0
                refine mp_run mp_k_cX10_laysNimbers_ok hF mp_tabX10_ok [mp_c (.iinc 1 1) 1, mp_h (.goto (-56)) [9]] (by decide +kernel) ?_
                intro z_35 h_36
                have e_37 : z_35.toInt = i_3.toInt + 1 := mp_add (a := i_3.toInt) (b := 1) h_36 rfl (by decide) (by omega) (by omega)
                show mp_W E X 5 9 [(1, .int z_35), (4, .int i_22), (3, .int z_20), (2, .int z_15), (0, .ref a0)] [] w5_ 0 0
                exact mp_sub [0, 4] rfl [0, 1] rfl rfl (ih_9 (d_8 - 1) (by omega) z_35 g_33 (by omega) (by omega) (by omega))
              · have c_32 : i_22.toInt = z_20.toInt := (congrArg Int32.toInt c_32)
                show mp_W E X 5 48 [(4, .int i_22), (3, .int z_20), (2, .int z_15), (1, .int i_3), (0, .ref a0)] [] w4_ 0 0
                refine mp_run mp_k_cX10_laysNimbers_ok hF mp_tabX10_ok [mp_c (.iinc 4 1) 1, mp_h (.goto (-15)) [36]] (by decide +kernel) ?_
                intro z_38 h_39
                have e_40 : z_38.toInt = i_22.toInt + 1 := mp_add (a := i_22.toInt) (b := 1) h_39 rfl (by decide) (by omega) (by omega)
                show mp_W E X 5 36 [(4, .int z_38), (3, .int z_20), (2, .int z_15), (1, .int i_3), (0, .ref a0)] [] w4_ 0 0
                exact mp_sub [0, 1, 2, 3, 4] rfl [0, 1] rfl rfl (ih_26 (d_25 - 1) (by omega) z_38 (by first | omega | decide | (show z_38.toInt = 0 ∨ (z_38.toInt = 1 ∧ (z_15.toInt = 0 ∨ z_20.toInt = 0)) ∨ (z_38.toInt = 2 ∧ ((z_15.toInt = 0 ∧ z_20.toInt = 1) ∨ (z_15.toInt = 1 ∧ z_20.toInt = 0))); first | omega | decide)) (by omega))
        exact mp_sub [0, 1, 2, 3, 4] rfl [0, 1] rfl rfl (lp_24 _ 0 (by first | omega | decide | (show 0 = 0 ∨ (0 = 1 ∧ (z_15.toInt = 0 ∨ z_20.toInt = 0)) ∨ (0 = 2 ∧ ((z_15.toInt = 0 ∧ z_20.toInt = 1) ∨ (z_15.toInt = 1 ∧ z_20.toInt = 0))); first | omega | decide)) (Int.self_le_toNat _))
  exact mp_sub [0, 1] rfl [0, 1] rfl rfl (lp_7 _ 1 g_1 (by decide) (by decide) (Int.self_le_toNat _))
set_option maxHeartbeats 4000000 in
set_option maxRecDepth 100000 in
theorem bX10_xorOf_148 (E : mp_E) (a0 a1 a2 a3 a4 a5 a6 a7 a8 a9 a10 a11 a12 a13 a14 a15 a16 a17 a18 a19 a20 a21 a22 a23 a24 a25 : Nat) (f0 : Nat → Int32) (f1 : Nat → Int64) (f2 : Nat → Int32) (y0 : Int32) (y1 : Int32) (y2 : Int32) (y3 : Int32) (y4 : Int32) (y5 : Int32) (y6 : Int64) (y7 : Int32) (y8 : Int32) (y9 : Int32) (y10 : Int32) (y11 : Int32) (y12 : Int32) (y13 : Int32) (y14 : Int32) (y15 : Int32) (y16 : Int32) (y17 : Int32) (y18 : Int32) (y19 : Int32) (y20 : Int32) (y21 : Int32) (x0 : Int32) (p0 : mp_all f0 4 0 60) (l_x0 : 0 ≤ x0.toInt) (u_x0 : x0.toInt ≤ 3) (l_y1 : 0 ≤ y1.toInt) (u_y1 : y1.toInt ≤ 1600) (l_y2 : 0 ≤ y2.toInt) (u_y2 : y2.toInt ≤ 1600) (l_y3 : 0 ≤ y3.toInt) (u_y3 : y3.toInt ≤ 4) (l_y4 : 0 ≤ y4.toInt) (u_y4 : y4.toInt ≤ 1600) (l_y11 : 0 ≤ y11.toInt) (u_y11 : y11.toInt ≤ 99) (l_y12 : 0 ≤ y12.toInt) (u_y12 : y12.toInt ≤ 5) (l_y13 : 0 ≤ y13.toInt) (u_y13 : y13.toInt ≤ 12) (q0 : mp_c99 f1 x0.toInt (f0 x0.toInt.toNat).toInt) : mp_Ct E yX10_xorOf cX10_xorOf 4 (some FieldType.int) 1 0 0 24 [.ref a0, .int x0] [(mp_ob10 a0 y0 a4 a1 a2 a5 a6 y1 y2 y3 y4 y5 y6 y7 y8 y9 y10 a7 a8 a9 a10 a11 a12 a13 a14 y11 a15 a16 a17 a18 y12 y13 y14 a19 a20 y15 y16 a21 a22 a23 y17 y18 y19 y20 a24 a25 a3 y21), (mp_arI E a1 0 4 f0), (mp_arL E a2 240 f1), (mp_arI E a3 0 100 f2)] (fun v w' => ∃ h1 : Nat → Int32, ∃ r2 : Int32, v = some (.int r2) ∧ w' = [(mp_ob10 a0 y0 a4 a1 a2 a5 a6 y1 y2 y3 y4 y5 y6 y7 y8 y9 y10 a7 a8 a9 a10 a11 a12 a13 a14 y11 a15 a16 a17 a18 y12 y13 y14 a19 a20 y15 y16 a21 a22 a23 y17 y18 y19 y20 a24 a25 a3 y21), (mp_arI E a1 0 4 f0), (mp_arL E a2 240 f1), (mp_arI E a3 0 100 h1)]) := by
  refine mp_met false (by decide) (by decide) (Nat.le_of_ble_eq_true rfl) (fun X hF hQ => ?_)
  have hF : mp_F E X (RX10, cX10_xorOf, 4, (1, 0, 0, 24), (some FieldType.int), false) := hF
  let w1_ : va_W := [(mp_ob10 a0 y0 a4 a1 a2 a5 a6 y1 y2 y3 y4 y5 y6 y7 y8 y9 y10 a7 a8 a9 a10 a11 a12 a13 a14 y11 a15 a16 a17 a18 y12 y13 y14 a19 a20 y15 y16 a21 a22 a23 y17 y18 y19 y20 a24 a25 a3 y21), (mp_arI E a1 0 4 f0), (mp_arL E a2 240 f1), (mp_arI E a3 0 100 f2)]
  show mp_W E X 4 0 [(0, .ref a0), (1, .int x0)] [] w1_ 0 0
  refine mp_run mp_k_cX10_xorOf_ok hF mp_tabX10_ok [mp_i (.aload_n 0)] (by decide +kernel) ?_
  show mp_W E X 4 1 [(0, .ref a0), (1, .int x0)] [.ref a0] w1_ 0 0
  refine mp_callV hF (As := []) (rest := []) (wr := [(mp_arI E a1 0 4 f0), (mp_arL E a2 240 f1)]) (bX10_laysNimbers_147 E a0 a3 a4 a1 a2 a5 a6 a7 a8 a9 a10 a11 a12 a13 a14 a15 a16 a17 a18 a19 a20 a21 a22 a23 a24 a25 f2 y0 y1 y2 y3 y4 y5 y6 y7 y8 y9 y10 y11 y12 y13 y14 y15 y16 y17 y18 y19 y20 y21 l_y1 u_y1 l_y2 u_y2 l_y3 u_y3 l_y4 u_y4 l_y11 u_y11 l_y12 u_y12 l_y13 u_y13) mp_lkX10_441 0 rfl [0, 3] [1, 2] rfl rfl rfl rfl rfl ⟨(Nat.le_of_ble_eq_true rfl), (Nat.le_of_ble_eq_true rfl), (Nat.le_of_ble_eq_true rfl), (Nat.le_of_ble_eq_true rfl)⟩ (Nat.le_of_ble_eq_true rfl) (by first | exact mp_fd_ok mp_k_cX10_xorOf_ok (by decide +kernel) | decide +kernel) (fun v_1 w_2 h_3 => ?_)
  obtain ⟨g_4, rfl, rfl⟩ := h_3
  let w2_ : va_W := [(mp_arI E a1 0 4 f0), (mp_arL E a2 240 f1), (mp_ob10 a0 y0 a4 a1 a2 a5 a6 y1 y2 y3 y4 y5 y6 y7 y8 y9 y10 a7 a8 a9 a10 a11 a12 a13 a14 y11 a15 a16 a17 a18 y12 y13 y14 a19 a20 y15 y16 a21 a22 a23 y17 y18 y19 y20 a24 a25 a3 y21), (mp_arI E a3 0 100 g_4)]
  show mp_W E X 4 4 [(0, .ref a0), (1, .int x0)] [] w2_ 0 0
  refine mp_run mp_k_cX10_xorOf_ok hF mp_tabX10_ok [mp_c (.iconst 0) 0, mp_i (.istore_n 2), mp_c (.iconst 0) 0, mp_i (.istore_n 3)] (by decide +kernel) ?_
  show mp_W E X 4 8 [(3, .int 0), (2, .int 0), (0, .ref a0), (1, .int x0)] [] w2_ 0 0
  have lp_9 : ∀ (d_10 : Nat) (i_5 : Int32) (i_6 : Int32), 0 ≤ i_5.toInt → i_5.toInt ≤ 60 → (f0 x0.toInt.toNat).toInt - i_5.toInt ≤ (d_10 : Int) → mp_W E X 4 8 [(3, .int i_5), (2, .int i_6), (0, .ref a0), (1, .int x0)] [] [(mp_arI E a1 0 4 f0), (mp_arL E a2 240 f1), (mp_ob10 a0 y0 a4 a1 a2 a5 a6 y1 y2 y3 y4 y5 y6 y7 y8 y9 y10 a7 a8 a9 a10 a11 a12 a13 a14 y11 a15 a16 a17 a18 y12 y13 y14 a19 a20 y15 y16 a21 a22 a23 y17 y18 y19 y20 a24 a25 a3 y21), (mp_arI E a3 0 100 g_4)] 0 0 := by
    intro d_10
    induction d_10 using Nat.strongRecOn with
    | ind d_10 ih_11 =>
      intro i_5 i_6 l_7 u_8 hm_12
      refine mp_run mp_k_cX10_xorOf_ok hF mp_tabX10_ok [mp_i (.iload_n 3), mp_i (.aload_n 0), mp_h (.getfield 13) [2, 2], mp_i (.iload_n 1), mp_h .iaload [0], mp_h (.if_icmp .ge 29) [44]] (by decide +kernel) ?_
      refine And.intro rfl (And.intro rfl ?_)
      refine And.intro rfl (And.intro rfl (And.intro (vp_in_iff.mpr (by omega)) ?_))
      intro z_13 h_14
      have e_15 : 0 ≤ z_13.toInt ∧ z_13.toInt ≤ 60 := mp_all_ld h_14 p0 (by omega) (by omega)
      have e_16 : z_13.toInt = (f0 x0.toInt.toNat).toInt := congrArg Int32.toInt h_14
      refine And.intro (fun c_17 => ?_) (fun c_17 => ?_)
      · have c_17 : z_13.toInt ≤ i_5.toInt := c_17
        show mp_W E X 4 44 [(3, .int i_5), (2, .int i_6), (0, .ref a0), (1, .int x0)] [] w2_ 0 0
        refine mp_run mp_k_cX10_xorOf_ok hF mp_tabX10_ok [mp_i (.iload_n 2)] (by decide +kernel) ?_
        show mp_W E X 4 45 [(3, .int i_5), (2, .int i_6), (0, .ref a0), (1, .int x0)] [.int i_6] w2_ 0 0
        exact mp_iret hF hQ rfl rfl (Nat.le_of_ble_eq_true rfl) (Nat.le_of_ble_eq_true rfl) [2, 0, 1, 3] (w' := [(mp_ob10 a0 y0 a4 a1 a2 a5 a6 y1 y2 y3 y4 y5 y6 y7 y8 y9 y10 a7 a8 a9 a10 a11 a12 a13 a14 y11 a15 a16 a17 a18 y12 y13 y14 a19 a20 y15 y16 a21 a22 a23 y17 y18 y19 y20 a24 a25 a3 y21), (mp_arI E a1 0 4 f0), (mp_arL E a2 240 f1), (mp_arI E a3 0 100 g_4)]) rfl rfl ⟨g_4, i_6, rfl, rfl⟩ (by first | exact mp_fd_ok mp_k_cX10_xorOf_ok (by decide +kernel) | decide +kernel)
      · have c_17 : i_5.toInt < z_13.toInt := c_17
        show mp_W E X 4 18 [(3, .int i_5), (2, .int i_6), (0, .ref a0), (1, .int x0)] [] w2_ 0 0
        refine mp_run mp_k_cX10_xorOf_ok hF mp_tabX10_ok [mp_i (.iload_n 2), mp_i (.aload_n 0), mp_h (.getfield 89) [45, 2], mp_i (.aload_n 0), mp_h (.getfield 16) [3, 2], mp_c (.bipush 60) 60, mp_i (.iload_n 1), mp_i .imul, mp_i (.iload_n 3), mp_i .iadd, mp_h .laload [1], mp_i .l2i, mp_h .iaload [3], mp_i .ixor, mp_i (.istore_n 2), mp_c (.iinc 3 1) 1, mp_h (.goto (-33)) [8]] (by decide +kernel) ?_
        refine And.intro rfl (And.intro rfl ?_)
        refine And.intro rfl (And.intro rfl ?_)
        intro z_18 h_19
        have e_20 : z_18.toInt = 60 * x0.toInt := mp_mul (a := 60) (b := x0.toInt) h_19 (by decide) rfl (by omega) (by omega)
        intro z_21 h_22
        have e_23 : z_21.toInt = z_18.toInt + i_5.toInt := mp_add (a := z_18.toInt) (b := i_5.toInt) h_22 rfl rfl (by omega) (by omega)
        refine And.intro rfl (And.intro rfl (And.intro (vp_in_iff.mpr (by omega)) ?_))
        intro z_24 h_25
        have e_26 := mp_c99_ld (f := f1) (slot := x0.toInt) (n := (f0 x0.toInt.toNat).toInt) (i := i_5.toInt) (by assumption) h_25 (by omega) (by omega) (by omega) (by omega)
        intro z_27 h_28
        have e_29 : z_27.toInt = z_24.toInt := mp_l2i h_28 (by omega) (by omega)
        refine And.intro rfl (And.intro rfl (And.intro (vp_in_iff.mpr (by omega)) ?_))
        intro z_30 h_31
        intro z_32 h_33
        intro z_35 h_36
        have e_37 : z_35.toInt = i_5.toInt + 1 := mp_add (a := i_5.toInt) (b := 1) h_36 rfl (by decide) (by omega) (by omega)
        show mp_W E X 4 8 [(3, .int z_35), (2, .int z_32), (0, .ref a0), (1, .int x0)] [] w2_ 0 0
        exact mp_sub [0, 1, 2, 3] rfl [0, 1, 2, 3] rfl rfl (ih_11 (d_10 - 1) (by omega) z_35 z_32 (by omega) (by omega) (by omega))
  exact mp_sub [0, 1, 2, 3] rfl [0, 1, 2, 3] rfl rfl (lp_9 _ 0 0 (by decide) (by decide) (Int.self_le_toNat _))
set_option maxHeartbeats 4000000 in
set_option maxRecDepth 100000 in
theorem bX10_wins_149 (E : mp_E) (a0 a1 a2 a3 a4 a5 a6 a7 a8 a9 a10 a11 a12 a13 a14 a15 a16 a17 a18 a19 a20 a21 a22 a23 a24 a25 : Nat) (f0 : Nat → Int32) (f1 : Nat → Int32) (f2 : Nat → Int64) (f3 : Nat → Int32) (y0 : Int32) (y1 : Int32) (y2 : Int32) (y3 : Int32) (y4 : Int32) (y5 : Int32) (y6 : Int64) (y7 : Int32) (y8 : Int32) (y9 : Int32) (y10 : Int32) (y11 : Int32) (y12 : Int32) (y13 : Int32) (y14 : Int32) (y15 : Int32) (y16 : Int32) (y17 : Int32) (y18 : Int32) (y19 : Int32) (y20 : Int32) (y21 : Int32) (x0 : Int32) (p0 : mp_all f1 4 0 60) (l_y1 : 0 ≤ y1.toInt) (u_y1 : y1.toInt ≤ 1600) (l_y2 : 0 ≤ y2.toInt) (u_y2 : y2.toInt ≤ 1600) (l_y3 : 0 ≤ y3.toInt) (u_y3 : y3.toInt ≤ 4) (l_y4 : 0 ≤ y4.toInt) (u_y4 : y4.toInt ≤ 1600) (l_y11 : 0 ≤ y11.toInt) (u_y11 : y11.toInt ≤ 99) (l_y12 : 0 ≤ y12.toInt) (u_y12 : y12.toInt ≤ 5) (l_y13 : 0 ≤ y13.toInt) (u_y13 : y13.toInt ≤ 12) : mp_Ct E yX10_wins cX10_wins 3 (some FieldType.int) 3 0 0 67 [.ref a0, .int x0] [(mp_ob10 a0 y0 a1 a2 a3 a5 a6 y1 y2 y3 y4 y5 y6 y7 y8 y9 y10 a7 a8 a9 a10 a11 a12 a13 a14 y11 a15 a16 a17 a18 y12 y13 y14 a19 a20 y15 y16 a21 a22 a23 y17 y18 y19 y20 a24 a25 a4 y21), (mp_arI E a1 0 4 f0), (mp_arI E a2 0 4 f1), (mp_arL E a3 240 f2), (mp_arI E a4 0 100 f3)] (fun v w' => ∃ h1 : Nat → Int32, ∃ r2 : Int32, v = some (.int r2) ∧ (-6) ≤ r2.toInt ∧ r2.toInt ≤ 1 ∧ w' = [(mp_ob10 a0 0 a1 a2 a3 a5 a6 y1 y2 y3 y4 y5 y6 y7 y8 y9 y10 a7 a8 a9 a10 a11 a12 a13 a14 y11 a15 a16 a17 a18 y12 y13 y14 a19 a20 y15 y16 a21 a22 a23 y17 y18 y19 y20 a24 a25 a4 y21), (mp_arI E a1 0 4 f0), (mp_arI E a2 0 4 f1), (mp_arL E a3 240 f2), (mp_arI E a4 0 100 h1)]) := by
  refine mp_met false (by decide) (by decide) (Nat.le_of_ble_eq_true rfl) (fun X hF hQ => ?_)
  have hF : mp_F E X (RX10, cX10_wins, 3, (3, 0, 0, 67), (some FieldType.int), false) := hF
  let w1_ : va_W := [(mp_ob10 a0 y0 a1 a2 a3 a5 a6 y1 y2 y3 y4 y5 y6 y7 y8 y9 y10 a7 a8 a9 a10 a11 a12 a13 a14 y11 a15 a16 a17 a18 y12 y13 y14 a19 a20 y15 y16 a21 a22 a23 y17 y18 y19 y20 a24 a25 a4 y21), (mp_arI E a1 0 4 f0), (mp_arI E a2 0 4 f1), (mp_arL E a3 240 f2), (mp_arI E a4 0 100 f3)]
  show mp_W E X 3 0 [(0, .ref a0), (1, .int x0)] [] w1_ 0 0
  refine mp_run mp_k_cX10_wins_ok hF mp_tabX10_ok [mp_i (.aload_n 0), mp_c (.iconst 0) 0, mp_h (.putfield 92) [0, 0]] (by decide +kernel) ?_
  refine And.intro rfl (And.intro rfl (And.intro rfl (And.intro rfl (And.intro (Nat.le_of_ble_eq_true rfl) ?_))))
  let w2_ : va_W := [(mp_ob10 a0 0 a1 a2 a3 a5 a6 y1 y2 y3 y4 y5 y6 y7 y8 y9 y10 a7 a8 a9 a10 a11 a12 a13 a14 y11 a15 a16 a17 a18 y12 y13 y14 a19 a20 y15 y16 a21 a22 a23 y17 y18 y19 y20 a24 a25 a4 y21), (mp_arI E a1 0 4 f0), (mp_arI E a2 0 4 f1), (mp_arL E a3 240 f2), (mp_arI E a4 0 100 f3)]
  show mp_W E X 3 5 [(0, .ref a0), (1, .int x0)] [] w2_ 0 0
  refine mp_run mp_k_cX10_wins_ok hF mp_tabX10_ok [mp_i (.aload_n 0), mp_i (.iload_n 1)] (by decide +kernel) ?_
  show mp_W E X 3 7 [(0, .ref a0), (1, .int x0)] [.int x0, .ref a0] w2_ 0 0
  refine mp_callV hF (As := [.int x0]) (rest := []) (wr := [(mp_arI E a4 0 100 f3)]) (bX10_whyNoThreat_146 E a0 a1 a2 a3 a5 a6 a7 a8 a9 a10 a11 a12 a13 a14 a15 a16 a17 a18 a19 a20 a21 a22 a23 a24 a25 a4 f0 f1 f2 0 y1 y2 y3 y4 y5 y6 y7 y8 y9 y10 y11 y12 y13 y14 y15 y16 y17 y18 y19 y20 y21 x0 p0 l_y1 u_y1 l_y2 u_y2 l_y3 u_y3 l_y4 u_y4 l_y11 u_y11 l_y12 u_y12 l_y13 u_y13) mp_lkX10_444 0 rfl [0, 1, 2, 3] [4] rfl rfl rfl rfl rfl ⟨(Nat.le_of_ble_eq_true rfl), (Nat.le_of_ble_eq_true rfl), (Nat.le_of_ble_eq_true rfl), (Nat.le_of_ble_eq_true rfl)⟩ (Nat.le_of_ble_eq_true rfl) (by first | exact mp_fd_ok mp_k_cX10_wins_ok (by decide +kernel) | decide +kernel) (fun v_1 w_2 h_3 => ?_)
  refine h_3.elim (fun q_10 => ?_) (fun q_11 => q_11.elim (fun q_12 => ?_) (fun q_13 => ?_))
  · skip
    refine q_10.elim fun e_14 e_15 => ?_
    clear h_3 q_10
    subst e_14
    subst e_15
    let w3_ : va_W := [(mp_arI E a4 0 100 f3), (mp_ob10 a0 0 a1 a2 a3 a5 a6 y1 y2 y3 y4 y5 y6 y7 y8 y9 y10 a7 a8 a9 a10 a11 a12 a13 a14 y11 a15 a16 a17 a18 y12 y13 y14 a19 a20 y15 y16 a21 a22 a23 y17 y18 y19 y20 a24 a25 a4 y21), (mp_arI E a1 0 4 f0), (mp_arI E a2 0 4 f1), (mp_arL E a3 240 f2)]
    show mp_W E X 3 10 [(0, .ref a0), (1, .int x0)] [.int (-2)] w3_ 0 0
    refine mp_run mp_k_cX10_wins_ok hF mp_tabX10_ok [mp_i (.istore_n 2), mp_i (.iload_n 2), mp_h (.ifCond .eq 7) [19]] (by decide +kernel) ?_
    refine And.intro (fun c_16 => absurd c_16 (by decide)) (fun _ => ?_)
    show mp_W E X 3 15 [(2, .int (-2)), (0, .ref a0), (1, .int x0)] [] w3_ 0 0
    refine mp_run mp_k_cX10_wins_ok hF mp_tabX10_ok [mp_i (.iload_n 2), mp_h (.goto 16) [32]] (by decide +kernel) ?_
    show mp_W E X 3 32 [(2, .int (-2)), (0, .ref a0), (1, .int x0)] [.int (-2)] w3_ 0 0
    exact mp_iret hF hQ rfl rfl (Nat.le_of_ble_eq_true rfl) (Nat.le_of_ble_eq_true rfl) [1, 2, 3, 4, 0] (w' := w2_) rfl rfl ⟨f3, (-2), rfl, (by decide), (by decide), rfl⟩ (by first | exact mp_fd_ok mp_k_cX10_wins_ok (by decide +kernel) | decide +kernel)
  · skip
    refine q_12.elim fun e_17 q_18 => q_18.elim fun c_4 q_19 => q_19.elim fun c_5 q_20 => q_20.elim fun x_6 q_21 => q_21.elim fun x_7 e_22 => ?_
    clear h_3 q_11 q_12 q_18 q_19 q_20 q_21
    subst e_17
    subst e_22
    have c_4 : 0 ≤ x0.toInt := c_4
    have c_5 : x0.toInt ≤ 3 := c_5
    let w4_ : va_W := [(mp_arI E a4 0 100 f3), (mp_ob10 a0 0 a1 a2 a3 a5 a6 y1 y2 y3 y4 y5 y6 y7 y8 y9 y10 a7 a8 a9 a10 a11 a12 a13 a14 y11 a15 a16 a17 a18 y12 y13 y14 a19 a20 y15 y16 a21 a22 a23 y17 y18 y19 y20 a24 a25 a4 y21), (mp_arI E a1 0 4 f0), (mp_arI E a2 0 4 f1), (mp_arL E a3 240 f2)]
    show mp_W E X 3 10 [(0, .ref a0), (1, .int x0)] [.int 0] w4_ 0 0
    refine mp_run mp_k_cX10_wins_ok hF mp_tabX10_ok [mp_i (.istore_n 2), mp_i (.iload_n 2), mp_h (.ifCond .eq 7) [19]] (by decide +kernel) ?_
    refine And.intro (fun _ => ?_) (fun c_23 => absurd c_23 (by decide))
    show mp_W E X 3 19 [(2, .int 0), (0, .ref a0), (1, .int x0)] [] w4_ 0 0
    refine mp_run mp_k_cX10_wins_ok hF mp_tabX10_ok [mp_i (.aload_n 0), mp_i (.iload_n 1)] (by decide +kernel) ?_
    show mp_W E X 3 21 [(2, .int 0), (0, .ref a0), (1, .int x0)] [.int x0, .ref a0] w4_ 0 0
    refine mp_callV hF (As := [.int x0]) (rest := []) (wr := [(mp_arI E a1 0 4 f0)]) (bX10_xorOf_148 E a0 a2 a3 a4 a1 a5 a6 a7 a8 a9 a10 a11 a12 a13 a14 a15 a16 a17 a18 a19 a20 a21 a22 a23 a24 a25 f1 f2 f3 0 y1 y2 y3 y4 y5 y6 y7 y8 y9 y10 y11 y12 y13 y14 y15 y16 y17 y18 y19 y20 y21 x0 p0 (by omega) (by omega) l_y1 u_y1 l_y2 u_y2 l_y3 u_y3 l_y4 u_y4 l_y11 u_y11 l_y12 u_y12 l_y13 u_y13 (by assumption)) mp_lkX10_447 1 rfl [1, 3, 4, 0] [2] rfl rfl rfl rfl rfl ⟨(Nat.le_of_ble_eq_true rfl), (Nat.le_of_ble_eq_true rfl), (Nat.le_of_ble_eq_true rfl), (Nat.le_of_ble_eq_true rfl)⟩ (Nat.le_of_ble_eq_true rfl) (by first | exact mp_fd_ok mp_k_cX10_wins_ok (by decide +kernel) | decide +kernel) (fun v_24 w_25 h_26 => ?_)
    obtain ⟨g_27, r_28, rfl, rfl⟩ := h_26
    let w5_ : va_W := [(mp_arI E a1 0 4 f0), (mp_ob10 a0 0 a1 a2 a3 a5 a6 y1 y2 y3 y4 y5 y6 y7 y8 y9 y10 a7 a8 a9 a10 a11 a12 a13 a14 y11 a15 a16 a17 a18 y12 y13 y14 a19 a20 y15 y16 a21 a22 a23 y17 y18 y19 y20 a24 a25 a4 y21), (mp_arI E a2 0 4 f1), (mp_arL E a3 240 f2), (mp_arI E a4 0 100 g_27)]
    show mp_W E X 3 24 [(2, .int 0), (0, .ref a0), (1, .int x0)] [.int r_28] w5_ 0 0
    refine mp_run mp_k_cX10_wins_ok hF mp_tabX10_ok [mp_h (.ifCond .eq 7) [31]] (by decide +kernel) ?_
    refine And.intro (fun c_29 => ?_) (fun c_29 => ?_)
    · have c_29 : r_28.toInt = 0 := (congrArg Int32.toInt c_29)
      show mp_W E X 3 31 [(2, .int 0), (0, .ref a0), (1, .int x0)] [] w5_ 0 0
      refine mp_run mp_k_cX10_wins_ok hF mp_tabX10_ok [mp_c (.iconst 0) 0] (by decide +kernel) ?_
      show mp_W E X 3 32 [(2, .int 0), (0, .ref a0), (1, .int x0)] [.int 0] w5_ 0 0
      exact mp_iret hF hQ rfl rfl (Nat.le_of_ble_eq_true rfl) (Nat.le_of_ble_eq_true rfl) [1, 0, 2, 3, 4] (w' := [(mp_ob10 a0 0 a1 a2 a3 a5 a6 y1 y2 y3 y4 y5 y6 y7 y8 y9 y10 a7 a8 a9 a10 a11 a12 a13 a14 y11 a15 a16 a17 a18 y12 y13 y14 a19 a20 y15 y16 a21 a22 a23 y17 y18 y19 y20 a24 a25 a4 y21), (mp_arI E a1 0 4 f0), (mp_arI E a2 0 4 f1), (mp_arL E a3 240 f2), (mp_arI E a4 0 100 g_27)]) rfl rfl ⟨g_27, 0, rfl, (by decide), (by decide), rfl⟩ (by first | exact mp_fd_ok mp_k_cX10_wins_ok (by decide +kernel) | decide +kernel)
    · have c_29 : r_28.toInt ≠ 0 := c_29
      show mp_W E X 3 27 [(2, .int 0), (0, .ref a0), (1, .int x0)] [] w5_ 0 0
      refine mp_run mp_k_cX10_wins_ok hF mp_tabX10_ok [mp_c (.iconst 1) 1, mp_h (.goto 4) [32]] (by decide +kernel) ?_
      show mp_W E X 3 32 [(2, .int 0), (0, .ref a0), (1, .int x0)] [.int 1] w5_ 0 0
      exact mp_iret hF hQ rfl rfl (Nat.le_of_ble_eq_true rfl) (Nat.le_of_ble_eq_true rfl) [1, 0, 2, 3, 4] (w' := [(mp_ob10 a0 0 a1 a2 a3 a5 a6 y1 y2 y3 y4 y5 y6 y7 y8 y9 y10 a7 a8 a9 a10 a11 a12 a13 a14 y11 a15 a16 a17 a18 y12 y13 y14 a19 a20 y15 y16 a21 a22 a23 y17 y18 y19 y20 a24 a25 a4 y21), (mp_arI E a1 0 4 f0), (mp_arI E a2 0 4 f1), (mp_arL E a3 240 f2), (mp_arI E a4 0 100 g_27)]) rfl rfl ⟨g_27, 1, rfl, (by decide), (by decide), rfl⟩ (by first | exact mp_fd_ok mp_k_cX10_wins_ok (by decide +kernel) | decide +kernel)
  · skip
    refine q_13.elim fun e_30 q_31 => q_31.elim fun c_8 q_32 => q_32.elim fun c_9 e_33 => ?_
    clear h_3 q_11 q_13 q_31 q_32
    subst e_30
    subst e_33
    have c_8 : 0 ≤ x0.toInt := c_8
    have c_9 : x0.toInt ≤ 3 := c_9
    let w6_ : va_W := [(mp_arI E a4 0 100 f3), (mp_ob10 a0 0 a1 a2 a3 a5 a6 y1 y2 y3 y4 y5 y6 y7 y8 y9 y10 a7 a8 a9 a10 a11 a12 a13 a14 y11 a15 a16 a17 a18 y12 y13 y14 a19 a20 y15 y16 a21 a22 a23 y17 y18 y19 y20 a24 a25 a4 y21), (mp_arI E a1 0 4 f0), (mp_arI E a2 0 4 f1), (mp_arL E a3 240 f2)]
    show mp_W E X 3 10 [(0, .ref a0), (1, .int x0)] [.int (-6)] w6_ 0 0
    refine mp_run mp_k_cX10_wins_ok hF mp_tabX10_ok [mp_i (.istore_n 2), mp_i (.iload_n 2), mp_h (.ifCond .eq 7) [19]] (by decide +kernel) ?_
    refine And.intro (fun c_34 => absurd c_34 (by decide)) (fun _ => ?_)
    show mp_W E X 3 15 [(2, .int (-6)), (0, .ref a0), (1, .int x0)] [] w6_ 0 0
    refine mp_run mp_k_cX10_wins_ok hF mp_tabX10_ok [mp_i (.iload_n 2), mp_h (.goto 16) [32]] (by decide +kernel) ?_
    show mp_W E X 3 32 [(2, .int (-6)), (0, .ref a0), (1, .int x0)] [.int (-6)] w6_ 0 0
    exact mp_iret hF hQ rfl rfl (Nat.le_of_ble_eq_true rfl) (Nat.le_of_ble_eq_true rfl) [1, 2, 3, 4, 0] (w' := w2_) rfl rfl ⟨f3, (-6), rfl, (by decide), (by decide), rfl⟩ (by first | exact mp_fd_ok mp_k_cX10_wins_ok (by decide +kernel) | decide +kernel)
set_option maxHeartbeats 4000000 in
set_option maxRecDepth 100000 in
theorem bX10_turn_150 (E : mp_E) (a0 a1 a2 a3 a4 a5 a6 a7 a8 a9 a10 a11 a12 a13 a14 a15 a16 a17 a18 a19 a20 a21 a22 a23 a24 a25 : Nat) (f0 : Nat → Int32) (f1 : Nat → Int32) (f2 : Nat → Int64) (f3 : Nat → Int32) (y0 : Int32) (y1 : Int32) (y2 : Int32) (y3 : Int32) (y4 : Int32) (y5 : Int32) (y6 : Int64) (y7 : Int32) (y8 : Int32) (y9 : Int32) (y10 : Int32) (y11 : Int32) (y12 : Int32) (y13 : Int32) (y14 : Int32) (y15 : Int32) (y16 : Int32) (y17 : Int32) (y18 : Int32) (y19 : Int32) (y20 : Int32) (y21 : Int32) (x0 : Int32) (p0 : mp_all f1 4 0 60) (l_y1 : 0 ≤ y1.toInt) (u_y1 : y1.toInt ≤ 1600) (l_y2 : 0 ≤ y2.toInt) (u_y2 : y2.toInt ≤ 1600) (l_y3 : 0 ≤ y3.toInt) (u_y3 : y3.toInt ≤ 4) (l_y4 : 0 ≤ y4.toInt) (u_y4 : y4.toInt ≤ 1600) (l_y11 : 0 ≤ y11.toInt) (u_y11 : y11.toInt ≤ 99) (l_y12 : 0 ≤ y12.toInt) (u_y12 : y12.toInt ≤ 5) (l_y13 : 0 ≤ y13.toInt) (u_y13 : y13.toInt ≤ 12) : mp_Ct E yX10_turn cX10_turn 7 (some FieldType.int) 3 0 0 67 [.ref a0, .int x0] [(mp_ob10 a0 y0 a1 a2 a3 a5 a6 y1 y2 y3 y4 y5 y6 y7 y8 y9 y10 a7 a8 a9 a10 a11 a12 a13 a14 y11 a15 a16 a17 a18 y12 y13 y14 a19 a20 y15 y16 a21 a22 a23 y17 y18 y19 y20 a24 a25 a4 y21), (mp_arI E a1 0 4 f0), (mp_arI E a2 0 4 f1), (mp_arL E a3 240 f2), (mp_arI E a4 0 100 f3)] (fun v w' => ∃ h1 : Nat → Int32, ∃ r2 : Int32, v = some (.int r2) ∧ (-6) ≤ r2.toInt ∧ r2.toInt ≤ 69 ∧ w' = [(mp_ob10 a0 0 a1 a2 a3 a5 a6 y1 y2 y3 y4 y5 y6 y7 y8 y9 y10 a7 a8 a9 a10 a11 a12 a13 a14 y11 a15 a16 a17 a18 y12 y13 y14 a19 a20 y15 y16 a21 a22 a23 y17 y18 y19 y20 a24 a25 a4 y21), (mp_arI E a1 0 4 f0), (mp_arI E a2 0 4 f1), (mp_arL E a3 240 f2), (mp_arI E a4 0 100 h1)]) := by
  refine mp_met false (by decide) (by decide) (Nat.le_of_ble_eq_true rfl) (fun X hF hQ => ?_)
  have hF : mp_F E X (RX10, cX10_turn, 7, (3, 0, 0, 67), (some FieldType.int), false) := hF
  let w1_ : va_W := [(mp_ob10 a0 y0 a1 a2 a3 a5 a6 y1 y2 y3 y4 y5 y6 y7 y8 y9 y10 a7 a8 a9 a10 a11 a12 a13 a14 y11 a15 a16 a17 a18 y12 y13 y14 a19 a20 y15 y16 a21 a22 a23 y17 y18 y19 y20 a24 a25 a4 y21), (mp_arI E a1 0 4 f0), (mp_arI E a2 0 4 f1), (mp_arL E a3 240 f2), (mp_arI E a4 0 100 f3)]
  show mp_W E X 7 0 [(0, .ref a0), (1, .int x0)] [] w1_ 0 0
  refine mp_run mp_k_cX10_turn_ok hF mp_tabX10_ok [mp_i (.aload_n 0), mp_c (.iconst 0) 0, mp_h (.putfield 92) [0, 0]] (by decide +kernel) ?_
  refine And.intro rfl (And.intro rfl (And.intro rfl (And.intro rfl (And.intro (Nat.le_of_ble_eq_true rfl) ?_))))
  let w2_ : va_W := [(mp_ob10 a0 0 a1 a2 a3 a5 a6 y1 y2 y3 y4 y5 y6 y7 y8 y9 y10 a7 a8 a9 a10 a11 a12 a13 a14 y11 a15 a16 a17 a18 y12 y13 y14 a19 a20 y15 y16 a21 a22 a23 y17 y18 y19 y20 a24 a25 a4 y21), (mp_arI E a1 0 4 f0), (mp_arI E a2 0 4 f1), (mp_arL E a3 240 f2), (mp_arI E a4 0 100 f3)]
  show mp_W E X 7 5 [(0, .ref a0), (1, .int x0)] [] w2_ 0 0
  refine mp_run mp_k_cX10_turn_ok hF mp_tabX10_ok [mp_i (.aload_n 0), mp_i (.iload_n 1)] (by decide +kernel) ?_
  show mp_W E X 7 7 [(0, .ref a0), (1, .int x0)] [.int x0, .ref a0] w2_ 0 0
  refine mp_callV hF (As := [.int x0]) (rest := []) (wr := [(mp_arI E a4 0 100 f3)]) (bX10_whyNoThreat_146 E a0 a1 a2 a3 a5 a6 a7 a8 a9 a10 a11 a12 a13 a14 a15 a16 a17 a18 a19 a20 a21 a22 a23 a24 a25 a4 f0 f1 f2 0 y1 y2 y3 y4 y5 y6 y7 y8 y9 y10 y11 y12 y13 y14 y15 y16 y17 y18 y19 y20 y21 x0 p0 l_y1 u_y1 l_y2 u_y2 l_y3 u_y3 l_y4 u_y4 l_y11 u_y11 l_y12 u_y12 l_y13 u_y13) mp_lkX10_444 0 rfl [0, 1, 2, 3] [4] rfl rfl rfl rfl rfl ⟨(Nat.le_of_ble_eq_true rfl), (Nat.le_of_ble_eq_true rfl), (Nat.le_of_ble_eq_true rfl), (Nat.le_of_ble_eq_true rfl)⟩ (Nat.le_of_ble_eq_true rfl) (by first | exact mp_fd_ok mp_k_cX10_turn_ok (by decide +kernel) | decide +kernel) (fun v_1 w_2 h_3 => ?_)
  refine h_3.elim (fun q_10 => ?_) (fun q_11 => q_11.elim (fun q_12 => ?_) (fun q_13 => ?_))
  · skip
    refine q_10.elim fun e_14 e_15 => ?_
    clear h_3 q_10
    subst e_14
    subst e_15
    let w3_ : va_W := [(mp_arI E a4 0 100 f3), (mp_ob10 a0 0 a1 a2 a3 a5 a6 y1 y2 y3 y4 y5 y6 y7 y8 y9 y10 a7 a8 a9 a10 a11 a12 a13 a14 y11 a15 a16 a17 a18 y12 y13 y14 a19 a20 y15 y16 a21 a22 a23 y17 y18 y19 y20 a24 a25 a4 y21), (mp_arI E a1 0 4 f0), (mp_arI E a2 0 4 f1), (mp_arL E a3 240 f2)]
    show mp_W E X 7 10 [(0, .ref a0), (1, .int x0)] [.int (-2)] w3_ 0 0
    refine mp_run mp_k_cX10_turn_ok hF mp_tabX10_ok [mp_i (.istore_n 2), mp_i (.iload_n 2), mp_h (.ifCond .eq 5) [17]] (by decide +kernel) ?_
    refine And.intro (fun c_16 => absurd c_16 (by decide)) (fun _ => ?_)
    show mp_W E X 7 15 [(2, .int (-2)), (0, .ref a0), (1, .int x0)] [] w3_ 0 0
    refine mp_run mp_k_cX10_turn_ok hF mp_tabX10_ok [mp_i (.iload_n 2)] (by decide +kernel) ?_
    show mp_W E X 7 16 [(2, .int (-2)), (0, .ref a0), (1, .int x0)] [.int (-2)] w3_ 0 0
    exact mp_iret hF hQ rfl rfl (Nat.le_of_ble_eq_true rfl) (Nat.le_of_ble_eq_true rfl) [1, 2, 3, 4, 0] (w' := w2_) rfl rfl ⟨f3, (-2), rfl, (by decide), (by decide), rfl⟩ (by first | exact mp_fd_ok mp_k_cX10_turn_ok (by decide +kernel) | decide +kernel)
  · skip
    refine q_12.elim fun e_17 q_18 => q_18.elim fun c_4 q_19 => q_19.elim fun c_5 q_20 => q_20.elim fun x_6 q_21 => q_21.elim fun x_7 e_22 => ?_
    clear h_3 q_11 q_12 q_18 q_19 q_20 q_21
    subst e_17
    subst e_22
    have c_4 : 0 ≤ x0.toInt := c_4
    have c_5 : x0.toInt ≤ 3 := c_5
    let w4_ : va_W := [(mp_arI E a4 0 100 f3), (mp_ob10 a0 0 a1 a2 a3 a5 a6 y1 y2 y3 y4 y5 y6 y7 y8 y9 y10 a7 a8 a9 a10 a11 a12 a13 a14 y11 a15 a16 a17 a18 y12 y13 y14 a19 a20 y15 y16 a21 a22 a23 y17 y18 y19 y20 a24 a25 a4 y21), (mp_arI E a1 0 4 f0), (mp_arI E a2 0 4 f1), (mp_arL E a3 240 f2)]
    show mp_W E X 7 10 [(0, .ref a0), (1, .int x0)] [.int 0] w4_ 0 0
    refine mp_run mp_k_cX10_turn_ok hF mp_tabX10_ok [mp_i (.istore_n 2), mp_i (.iload_n 2), mp_h (.ifCond .eq 5) [17]] (by decide +kernel) ?_
    refine And.intro (fun _ => ?_) (fun c_23 => absurd c_23 (by decide))
    show mp_W E X 7 17 [(2, .int 0), (0, .ref a0), (1, .int x0)] [] w4_ 0 0
    refine mp_run mp_k_cX10_turn_ok hF mp_tabX10_ok [mp_i (.aload_n 0), mp_i (.iload_n 1)] (by decide +kernel) ?_
    show mp_W E X 7 19 [(2, .int 0), (0, .ref a0), (1, .int x0)] [.int x0, .ref a0] w4_ 0 0
    refine mp_callV hF (As := [.int x0]) (rest := []) (wr := [(mp_arI E a1 0 4 f0)]) (bX10_xorOf_148 E a0 a2 a3 a4 a1 a5 a6 a7 a8 a9 a10 a11 a12 a13 a14 a15 a16 a17 a18 a19 a20 a21 a22 a23 a24 a25 f1 f2 f3 0 y1 y2 y3 y4 y5 y6 y7 y8 y9 y10 y11 y12 y13 y14 y15 y16 y17 y18 y19 y20 y21 x0 p0 (by omega) (by omega) l_y1 u_y1 l_y2 u_y2 l_y3 u_y3 l_y4 u_y4 l_y11 u_y11 l_y12 u_y12 l_y13 u_y13 (by assumption)) mp_lkX10_447 1 rfl [1, 3, 4, 0] [2] rfl rfl rfl rfl rfl ⟨(Nat.le_of_ble_eq_true rfl), (Nat.le_of_ble_eq_true rfl), (Nat.le_of_ble_eq_true rfl), (Nat.le_of_ble_eq_true rfl)⟩ (Nat.le_of_ble_eq_true rfl) (by first | exact mp_fd_ok mp_k_cX10_turn_ok (by decide +kernel) | decide +kernel) (fun v_24 w_25 h_26 => ?_)
    obtain ⟨g_27, r_28, rfl, rfl⟩ := h_26
    let w5_ : va_W := [(mp_arI E a1 0 4 f0), (mp_ob10 a0 0 a1 a2 a3 a5 a6 y1 y2 y3 y4 y5 y6 y7 y8 y9 y10 a7 a8 a9 a10 a11 a12 a13 a14 y11 a15 a16 a17 a18 y12 y13 y14 a19 a20 y15 y16 a21 a22 a23 y17 y18 y19 y20 a24 a25 a4 y21), (mp_arI E a2 0 4 f1), (mp_arL E a3 240 f2), (mp_arI E a4 0 100 g_27)]
    show mp_W E X 7 22 [(2, .int 0), (0, .ref a0), (1, .int x0)] [.int r_28] w5_ 0 0
    refine mp_run mp_k_cX10_turn_ok hF mp_tabX10_ok [mp_i (.istore_n 3), mp_c (.iconst 0) 0, mp_i (.istore 4)] (by decide +kernel) ?_
    show mp_W E X 7 26 [(4, .int 0), (3, .int r_28), (2, .int 0), (0, .ref a0), (1, .int x0)] [] w5_ 0 0
    have lp_32 : ∀ (d_33 : Nat) (i_29 : Int32), 0 ≤ i_29.toInt → i_29.toInt ≤ 60 → (f1 x0.toInt.toNat).toInt - i_29.toInt ≤ (d_33 : Int) → mp_W E X 7 26 [(4, .int i_29), (3, .int r_28), (2, .int 0), (0, .ref a0), (1, .int x0)] [] [(mp_arI E a1 0 4 f0), (mp_ob10 a0 0 a1 a2 a3 a5 a6 y1 y2 y3 y4 y5 y6 y7 y8 y9 y10 a7 a8 a9 a10 a11 a12 a13 a14 y11 a15 a16 a17 a18 y12 y13 y14 a19 a20 y15 y16 a21 a22 a23 y17 y18 y19 y20 a24 a25 a4 y21), (mp_arI E a2 0 4 f1), (mp_arL E a3 240 f2), (mp_arI E a4 0 100 g_27)] 0 0 := by
      intro d_33
      induction d_33 using Nat.strongRecOn with
      | ind d_33 ih_34 =>
        intro i_29 l_30 u_31 hm_35
        refine mp_run mp_k_cX10_turn_ok hF mp_tabX10_ok [mp_i (.iload 4), mp_i (.aload_n 0), mp_h (.getfield 13) [2, 1], mp_i (.iload_n 1), mp_h .iaload [2], mp_h (.if_icmp .ge 80) [114]] (by decide +kernel) ?_
        refine And.intro rfl (And.intro rfl ?_)
        refine And.intro rfl (And.intro rfl (And.intro (vp_in_iff.mpr (by omega)) ?_))
        intro z_36 h_37
        have e_38 : 0 ≤ z_36.toInt ∧ z_36.toInt ≤ 60 := mp_all_ld h_37 p0 (by omega) (by omega)
        have e_39 : z_36.toInt = (f1 x0.toInt.toNat).toInt := congrArg Int32.toInt h_37
        refine And.intro (fun c_40 => ?_) (fun c_40 => ?_)
        · have c_40 : z_36.toInt ≤ i_29.toInt := c_40
          show mp_W E X 7 114 [(4, .int i_29), (3, .int r_28), (2, .int 0), (0, .ref a0), (1, .int x0)] [] w5_ 0 0
          refine mp_run mp_k_cX10_turn_ok hF mp_tabX10_ok [mp_c (.iconst (-1)) (-1)] (by decide +kernel) ?_
          show mp_W E X 7 115 [(4, .int i_29), (3, .int r_28), (2, .int 0), (0, .ref a0), (1, .int x0)] [.int (-1)] w5_ 0 0
          exact mp_iret hF hQ rfl rfl (Nat.le_of_ble_eq_true rfl) (Nat.le_of_ble_eq_true rfl) [1, 0, 2, 3, 4] (w' := [(mp_ob10 a0 0 a1 a2 a3 a5 a6 y1 y2 y3 y4 y5 y6 y7 y8 y9 y10 a7 a8 a9 a10 a11 a12 a13 a14 y11 a15 a16 a17 a18 y12 y13 y14 a19 a20 y15 y16 a21 a22 a23 y17 y18 y19 y20 a24 a25 a4 y21), (mp_arI E a1 0 4 f0), (mp_arI E a2 0 4 f1), (mp_arL E a3 240 f2), (mp_arI E a4 0 100 g_27)]) rfl rfl ⟨g_27, (-1), rfl, (by decide), (by decide), rfl⟩ (by first | exact mp_fd_ok mp_k_cX10_turn_ok (by decide +kernel) | decide +kernel)
        · have c_40 : i_29.toInt < z_36.toInt := c_40
          show mp_W E X 7 37 [(4, .int i_29), (3, .int r_28), (2, .int 0), (0, .ref a0), (1, .int x0)] [] w5_ 0 0
          refine mp_run mp_k_cX10_turn_ok hF mp_tabX10_ok [mp_i (.aload_n 0), mp_h (.getfield 16) [3, 1], mp_c (.bipush 60) 60, mp_i (.iload_n 1), mp_i .imul, mp_i (.iload 4), mp_i .iadd, mp_h .laload [3], mp_i .l2i, mp_i (.istore 5), mp_i (.iload 5), mp_h (.ifCond .ne 6) [60]] (by decide +kernel) ?_
          refine And.intro rfl (And.intro rfl ?_)
          intro z_41 h_42
          have e_43 : z_41.toInt = 60 * x0.toInt := mp_mul (a := 60) (b := x0.toInt) h_42 (by decide) rfl (by omega) (by omega)
          intro z_44 h_45
          have e_46 : z_44.toInt = z_41.toInt + i_29.toInt := mp_add (a := z_41.toInt) (b := i_29.toInt) h_45 rfl rfl (by omega) (by omega)
          refine And.intro rfl (And.intro rfl (And.intro (vp_in_iff.mpr (by omega)) ?_))
          intro z_47 h_48
          have e_49 := mp_c99_ld (f := f2) (slot := x0.toInt) (n := (f1 x0.toInt.toNat).toInt) (i := i_29.toInt) (by assumption) h_48 (by omega) (by omega) (by omega) (by omega)
          intro z_50 h_51
          have e_52 : z_50.toInt = z_47.toInt := mp_l2i h_51 (by omega) (by omega)
          refine And.intro (fun c_53 => ?_) (fun c_53 => ?_)
          · have c_53 : z_50.toInt ≠ 0 := c_53
            show mp_W E X 7 60 [(5, .int z_50), (4, .int i_29), (3, .int r_28), (2, .int 0), (0, .ref a0), (1, .int x0)] [] w5_ 0 0
            refine mp_run mp_k_cX10_turn_ok hF mp_tabX10_ok [mp_i (.iload_n 3), mp_i (.aload_n 0), mp_h (.getfield 89) [45, 1], mp_i (.iload 5), mp_h .iaload [4], mp_i .ixor, mp_i (.istore 6), mp_i (.iload 6), mp_i (.aload_n 0), mp_h (.getfield 89) [45, 1], mp_i (.iload 5), mp_c (.iconst 1) 1, mp_i .isub, mp_h .iaload [4], mp_h (.if_icmp .ne 6) [88]] (by decide +kernel) ?_
            refine And.intro rfl (And.intro rfl ?_)
            refine And.intro rfl (And.intro rfl (And.intro (vp_in_iff.mpr (by omega)) ?_))
            intro z_54 h_55
            intro z_56 h_57
            refine And.intro rfl (And.intro rfl ?_)
            intro z_59 h_60
            have e_61 : z_59.toInt = z_50.toInt - 1 := mp_subi (a := z_50.toInt) (b := 1) h_60 rfl (by decide) (by omega) (by omega)
            refine And.intro rfl (And.intro rfl (And.intro (vp_in_iff.mpr (by omega)) ?_))
            intro z_62 h_63
            refine And.intro (fun c_64 => ?_) (fun c_64 => ?_)
            · have c_64 : z_56.toInt ≠ z_62.toInt := c_64
              show mp_W E X 7 88 [(6, .int z_56), (5, .int z_50), (4, .int i_29), (3, .int r_28), (2, .int 0), (0, .ref a0), (1, .int x0)] [] w5_ 0 0
              refine mp_run mp_k_cX10_turn_ok hF mp_tabX10_ok [mp_i (.iload 6), mp_i (.aload_n 0), mp_h (.getfield 89) [45, 1], mp_i (.iload 5), mp_c (.iconst 2) 2, mp_i .idiv, mp_h .iaload [4], mp_h (.if_icmp .ne 9) [108]] (by decide +kernel) ?_
              refine And.intro rfl (And.intro rfl ?_)
              refine And.intro (by decide) ?_
              intro z_65 h_66
              have e_67 : z_65.toInt = z_50.toInt / 2 := mp_div (a := z_50.toInt) (b := 2) h_66 rfl (by decide) (by omega) (by decide)
              refine And.intro rfl (And.intro rfl (And.intro (vp_in_iff.mpr (by omega)) ?_))
              intro z_68 h_69
              refine And.intro (fun c_70 => ?_) (fun c_70 => ?_)
              · have c_70 : z_56.toInt ≠ z_68.toInt := c_70
                show mp_W E X 7 108 [(6, .int z_56), (5, .int z_50), (4, .int i_29), (3, .int r_28), (2, .int 0), (0, .ref a0), (1, .int x0)] [] w5_ 0 0
                refine mp_run mp_k_cX10_turn_ok hF mp_tabX10_ok [mp_c (.iinc 4 1) 1, mp_h (.goto (-85)) [26]] (by decide +kernel) ?_
                intro z_71 h_72
                have e_73 : z_71.toInt = i_29.toInt + 1 := mp_add (a := i_29.toInt) (b := 1) h_72 rfl (by decide) (by omega) (by omega)
                show mp_W E X 7 26 [(4, .int z_71), (6, .int z_56), (5, .int z_50), (3, .int r_28), (2, .int 0), (0, .ref a0), (1, .int x0)] [] w5_ 0 0
                exact mp_sub [0, 3, 4, 5, 6] rfl [0, 1, 2, 3, 4] rfl rfl (ih_34 (d_33 - 1) (by omega) z_71 (by omega) (by omega) (by omega))
              · have c_70 : z_56.toInt = z_68.toInt := (congrArg Int32.toInt c_70)
                show mp_W E X 7 102 [(6, .int z_56), (5, .int z_50), (4, .int i_29), (3, .int r_28), (2, .int 0), (0, .ref a0), (1, .int x0)] [] w5_ 0 0
                refine mp_run mp_k_cX10_turn_ok hF mp_tabX10_ok [mp_c (.bipush 10) 10, mp_i (.iload 4), mp_i .iadd] (by decide +kernel) ?_
                intro z_74 h_75
                have e_76 : z_74.toInt = 10 + i_29.toInt := mp_add (a := 10) (b := i_29.toInt) h_75 (by decide) rfl (by omega) (by omega)
                show mp_W E X 7 107 [(6, .int z_56), (5, .int z_50), (4, .int i_29), (3, .int r_28), (2, .int 0), (0, .ref a0), (1, .int x0)] [.int z_74] w5_ 0 0
                exact mp_iret hF hQ rfl rfl (Nat.le_of_ble_eq_true rfl) (Nat.le_of_ble_eq_true rfl) [1, 0, 2, 3, 4] (w' := [(mp_ob10 a0 0 a1 a2 a3 a5 a6 y1 y2 y3 y4 y5 y6 y7 y8 y9 y10 a7 a8 a9 a10 a11 a12 a13 a14 y11 a15 a16 a17 a18 y12 y13 y14 a19 a20 y15 y16 a21 a22 a23 y17 y18 y19 y20 a24 a25 a4 y21), (mp_arI E a1 0 4 f0), (mp_arI E a2 0 4 f1), (mp_arL E a3 240 f2), (mp_arI E a4 0 100 g_27)]) rfl rfl ⟨g_27, z_74, rfl, (by omega), (by omega), rfl⟩ (by first | exact mp_fd_ok mp_k_cX10_turn_ok (by decide +kernel) | decide +kernel)
            · have c_64 : z_56.toInt = z_62.toInt := (congrArg Int32.toInt c_64)
              show mp_W E X 7 85 [(6, .int z_56), (5, .int z_50), (4, .int i_29), (3, .int r_28), (2, .int 0), (0, .ref a0), (1, .int x0)] [] w5_ 0 0
              refine mp_run mp_k_cX10_turn_ok hF mp_tabX10_ok [mp_i (.iload 4)] (by decide +kernel) ?_
              show mp_W E X 7 87 [(6, .int z_56), (5, .int z_50), (4, .int i_29), (3, .int r_28), (2, .int 0), (0, .ref a0), (1, .int x0)] [.int i_29] w5_ 0 0
              exact mp_iret hF hQ rfl rfl (Nat.le_of_ble_eq_true rfl) (Nat.le_of_ble_eq_true rfl) [1, 0, 2, 3, 4] (w' := [(mp_ob10 a0 0 a1 a2 a3 a5 a6 y1 y2 y3 y4 y5 y6 y7 y8 y9 y10 a7 a8 a9 a10 a11 a12 a13 a14 y11 a15 a16 a17 a18 y12 y13 y14 a19 a20 y15 y16 a21 a22 a23 y17 y18 y19 y20 a24 a25 a4 y21), (mp_arI E a1 0 4 f0), (mp_arI E a2 0 4 f1), (mp_arL E a3 240 f2), (mp_arI E a4 0 100 g_27)]) rfl rfl ⟨g_27, i_29, rfl, (by omega), (by omega), rfl⟩ (by first | exact mp_fd_ok mp_k_cX10_turn_ok (by decide +kernel) | decide +kernel)
          · have c_53 : z_50.toInt = 0 := (congrArg Int32.toInt c_53)
            show mp_W E X 7 57 [(5, .int z_50), (4, .int i_29), (3, .int r_28), (2, .int 0), (0, .ref a0), (1, .int x0)] [] w5_ 0 0
            refine mp_run mp_k_cX10_turn_ok hF mp_tabX10_ok [mp_h (.goto 51) [108], mp_c (.iinc 4 1) 1, mp_h (.goto (-85)) [26]] (by decide +kernel) ?_
            intro z_77 h_78
            have e_79 : z_77.toInt = i_29.toInt + 1 := mp_add (a := i_29.toInt) (b := 1) h_78 rfl (by decide) (by omega) (by omega)
            show mp_W E X 7 26 [(4, .int z_77), (5, .int z_50), (3, .int r_28), (2, .int 0), (0, .ref a0), (1, .int x0)] [] w5_ 0 0
            exact mp_sub [0, 2, 3, 4, 5] rfl [0, 1, 2, 3, 4] rfl rfl (ih_34 (d_33 - 1) (by omega) z_77 (by omega) (by omega) (by omega))
    exact mp_sub [0, 1, 2, 3, 4] rfl [0, 1, 2, 3, 4] rfl rfl (lp_32 _ 0 (by decide) (by decide) (Int.self_le_toNat _))
  · skip
    refine q_13.elim fun e_80 q_81 => q_81.elim fun c_8 q_82 => q_82.elim fun c_9 e_83 => ?_
    clear h_3 q_11 q_13 q_81 q_82
    subst e_80
    subst e_83
    have c_8 : 0 ≤ x0.toInt := c_8
    have c_9 : x0.toInt ≤ 3 := c_9
    let w6_ : va_W := [(mp_arI E a4 0 100 f3), (mp_ob10 a0 0 a1 a2 a3 a5 a6 y1 y2 y3 y4 y5 y6 y7 y8 y9 y10 a7 a8 a9 a10 a11 a12 a13 a14 y11 a15 a16 a17 a18 y12 y13 y14 a19 a20 y15 y16 a21 a22 a23 y17 y18 y19 y20 a24 a25 a4 y21), (mp_arI E a1 0 4 f0), (mp_arI E a2 0 4 f1), (mp_arL E a3 240 f2)]
    show mp_W E X 7 10 [(0, .ref a0), (1, .int x0)] [.int (-6)] w6_ 0 0
    refine mp_run mp_k_cX10_turn_ok hF mp_tabX10_ok [mp_i (.istore_n 2), mp_i (.iload_n 2), mp_h (.ifCond .eq 5) [17]] (by decide +kernel) ?_
    refine And.intro (fun c_84 => absurd c_84 (by decide)) (fun _ => ?_)
    show mp_W E X 7 15 [(2, .int (-6)), (0, .ref a0), (1, .int x0)] [] w6_ 0 0
    refine mp_run mp_k_cX10_turn_ok hF mp_tabX10_ok [mp_i (.iload_n 2)] (by decide +kernel) ?_
    show mp_W E X 7 16 [(2, .int (-6)), (0, .ref a0), (1, .int x0)] [.int (-6)] w6_ 0 0
    exact mp_iret hF hQ rfl rfl (Nat.le_of_ble_eq_true rfl) (Nat.le_of_ble_eq_true rfl) [1, 2, 3, 4, 0] (w' := w2_) rfl rfl ⟨f3, (-6), rfl, (by decide), (by decide), rfl⟩ (by first | exact mp_fd_ok mp_k_cX10_turn_ok (by decide +kernel) | decide +kernel)
set_option maxHeartbeats 4000000 in
set_option maxRecDepth 100000 in
theorem bX10_isDraw_151 (E : mp_E) (a0 a1 a2 a3 a4 a5 a6 a7 a8 a9 a10 a11 a12 a13 a14 a15 a16 a17 a18 a19 a20 a21 a22 a23 a24 a25 : Nat) (f0 : Nat → Int32) (y0 : Int32) (y1 : Int32) (y2 : Int32) (y3 : Int32) (y4 : Int32) (y5 : Int32) (y6 : Int64) (y7 : Int32) (y8 : Int32) (y9 : Int32) (y10 : Int32) (y11 : Int32) (y12 : Int32) (y13 : Int32) (y14 : Int32) (y15 : Int32) (y16 : Int32) (y17 : Int32) (y18 : Int32) (y19 : Int32) (y20 : Int32) (y21 : Int32) (x0 : Int32) (x1 : Int32) (x2 : Int32) (p0 : mp_res f0 25 5 0 0 6) (p1 : mp_res f0 25 5 1 0 99) (p2 : mp_res f0 25 5 2 0 6) (p3 : mp_res f0 25 5 3 0 10) (p4 : mp_res f0 25 5 4 0 60) (l_y1 : 0 ≤ y1.toInt) (u_y1 : y1.toInt ≤ 1600) (l_y2 : 0 ≤ y2.toInt) (u_y2 : y2.toInt ≤ 1600) (l_y3 : 0 ≤ y3.toInt) (u_y3 : y3.toInt ≤ 4) (l_y4 : 0 ≤ y4.toInt) (u_y4 : y4.toInt ≤ 1600) (l_y11 : 0 ≤ y11.toInt) (u_y11 : y11.toInt ≤ 99) (l_y12 : 0 ≤ y12.toInt) (u_y12 : y12.toInt ≤ 5) (l_y13 : 0 ≤ y13.toInt) (u_y13 : y13.toInt ≤ 12) : mp_Ct E yX10_isDraw cX10_isDraw 4 (some FieldType.boolean) 2 0 0 46 [.ref a0, .int x0, .int x1, .int x2] [(mp_ob10 a0 y0 a2 a3 a4 a5 a6 y1 y2 y3 y4 y5 y6 y7 y8 y9 y10 a7 a1 a8 a9 a10 a11 a12 a13 y11 a14 a15 a16 a17 y12 y13 y14 a18 a19 y15 y16 a20 a21 a22 y17 y18 y19 y20 a23 a24 a25 y21), (mp_arI E a1 0 25 f0)] (fun v w' => (v = some (.int 0) ∧ w' = [(mp_ob10 a0 y0 a2 a3 a4 a5 a6 y1 y2 y3 y4 y5 y6 y7 y8 y9 y10 a7 a1 a8 a9 a10 a11 a12 a13 y11 a14 a15 a16 a17 y12 y13 y14 a18 a19 y15 y16 a20 a21 a22 y17 y18 y19 y20 a23 a24 a25 y21), (mp_arI E a1 0 25 f0)]) ∨ (v = some (.int 1) ∧ 0 ≤ x0.toInt ∧ x0.toInt ≤ 2000000000 ∧ 1 ≤ x1.toInt ∧ x1.toInt ≤ 40 ∧ 0 ≤ x2.toInt ∧ (0 ≤ x0.toInt) ∧ (1 ≤ x1.toInt) ∧ (x1.toInt ≤ 40) ∧ (0 ≤ x2.toInt) ∧ (x2.toInt ≤ 9) ∧ (x2.toInt < (f0 3).toInt) ∧ w' = [(mp_ob10 a0 y0 a2 a3 a4 a5 a6 y1 y2 y3 y4 y5 y6 y7 y8 y9 y10 a7 a1 a8 a9 a10 a11 a12 a13 y11 a14 a15 a16 a17 y12 y13 y14 a18 a19 y15 y16 a20 a21 a22 y17 y18 y19 y20 a23 a24 a25 y21), (mp_arI E a1 0 25 f0)])) := by
  refine mp_met false (by decide) (by decide) (Nat.le_of_ble_eq_true rfl) (fun X hF hQ => ?_)
  have hF : mp_F E X (RX10, cX10_isDraw, 4, (2, 0, 0, 46), (some FieldType.boolean), false) := hF
  let w1_ : va_W := [(mp_ob10 a0 y0 a2 a3 a4 a5 a6 y1 y2 y3 y4 y5 y6 y7 y8 y9 y10 a7 a1 a8 a9 a10 a11 a12 a13 y11 a14 a15 a16 a17 y12 y13 y14 a18 a19 y15 y16 a20 a21 a22 y17 y18 y19 y20 a23 a24 a25 y21), (mp_arI E a1 0 25 f0)]
  show mp_W E X 4 0 [(0, .ref a0), (1, .int x0), (2, .int x1), (3, .int x2)] [] w1_ 0 0
  refine mp_run mp_k_cX10_isDraw_ok hF mp_tabX10_ok [mp_i (.iload_n 1), mp_i .i2l, mp_cl (.lconst 0) 0, mp_cl (.ldc2_w 463) 2000000000] (by decide +kernel) ?_
  intro z_1 h_2
  have e_3 : z_1.toInt = x0.toInt := mp_i2l h_2
  show mp_W E X 4 6 [(0, .ref a0), (1, .int x0), (2, .int x1), (3, .int x2)] [.long 2000000000, .long 0, .long z_1] w1_ 0 0
  refine mp_callS hF (As := [.long z_1, .long 0, .long 2000000000]) (rest := []) (wr := w1_) (bX10_in_0 E z_1 0 2000000000) mp_lkX10_97 [] [0, 1] rfl rfl rfl rfl rfl ⟨(Nat.le_of_ble_eq_true rfl), (Nat.le_of_ble_eq_true rfl), (Nat.le_of_ble_eq_true rfl), (Nat.le_of_ble_eq_true rfl)⟩ (Nat.le_of_ble_eq_true rfl) (by first | exact mp_fd_ok mp_k_cX10_isDraw_ok (by decide +kernel) | decide +kernel) (fun v_4 w_5 h_6 => ?_)
  rcases h_6 with ⟨rfl, x_7, rfl⟩ | ⟨rfl, c_8, c_9, rfl⟩
  · skip
    have i_10 : (0 : Int64).toInt = 0 := by decide
    have i_11 : (2000000000 : Int64).toInt = 2000000000 := by decide
    show mp_W E X 4 9 [(0, .ref a0), (1, .int x0), (2, .int x1), (3, .int x2)] [.int 0] w1_ 0 0
    refine mp_run mp_k_cX10_isDraw_ok hF mp_tabX10_ok [mp_h (.ifCond .eq 27) [36]] (by decide +kernel) ?_
    refine And.intro (fun _ => ?_) (fun c_12 => absurd c_12 (by decide))
    show mp_W E X 4 36 [(0, .ref a0), (1, .int x0), (2, .int x1), (3, .int x2)] [] w1_ 0 0
    refine mp_run mp_k_cX10_isDraw_ok hF mp_tabX10_ok [mp_c (.iconst 0) 0] (by decide +kernel) ?_
    show mp_W E X 4 37 [(0, .ref a0), (1, .int x0), (2, .int x1), (3, .int x2)] [.int 0] w1_ 0 0
    exact mp_iret hF hQ rfl (by decide) (Nat.le_of_ble_eq_true rfl) (Nat.le_of_ble_eq_true rfl) [0, 1] (w' := w1_) rfl rfl (Or.inl ⟨rfl, rfl⟩) (by first | exact mp_fd_ok mp_k_cX10_isDraw_ok (by decide +kernel) | decide +kernel)
  · skip
    have c_8 : 0 ≤ z_1.toInt := c_8
    have c_9 : z_1.toInt ≤ 2000000000 := c_9
    have i_13 : (0 : Int64).toInt = 0 := by decide
    have i_14 : (2000000000 : Int64).toInt = 2000000000 := by decide
    show mp_W E X 4 9 [(0, .ref a0), (1, .int x0), (2, .int x1), (3, .int x2)] [.int 1] w1_ 0 0
    refine mp_run mp_k_cX10_isDraw_ok hF mp_tabX10_ok [mp_h (.ifCond .eq 27) [36]] (by decide +kernel) ?_
    refine And.intro (fun c_15 => absurd c_15 (by decide)) (fun _ => ?_)
    show mp_W E X 4 12 [(0, .ref a0), (1, .int x0), (2, .int x1), (3, .int x2)] [] w1_ 0 0
    refine mp_run mp_k_cX10_isDraw_ok hF mp_tabX10_ok [mp_i (.iload_n 2), mp_i .i2l, mp_cl (.lconst 1) 1, mp_cl (.ldc2_w 465) 40] (by decide +kernel) ?_
    intro z_16 h_17
    have e_18 : z_16.toInt = x1.toInt := mp_i2l h_17
    show mp_W E X 4 18 [(0, .ref a0), (1, .int x0), (2, .int x1), (3, .int x2)] [.long 40, .long 1, .long z_16] w1_ 0 0
    refine mp_callS hF (As := [.long z_16, .long 1, .long 40]) (rest := []) (wr := w1_) (bX10_in_0 E z_16 1 40) mp_lkX10_97 [] [0, 1] rfl rfl rfl rfl rfl ⟨(Nat.le_of_ble_eq_true rfl), (Nat.le_of_ble_eq_true rfl), (Nat.le_of_ble_eq_true rfl), (Nat.le_of_ble_eq_true rfl)⟩ (Nat.le_of_ble_eq_true rfl) (by first | exact mp_fd_ok mp_k_cX10_isDraw_ok (by decide +kernel) | decide +kernel) (fun v_19 w_20 h_21 => ?_)
    rcases h_21 with ⟨rfl, x_22, rfl⟩ | ⟨rfl, c_23, c_24, rfl⟩
    · skip
      have i_25 : (1 : Int64).toInt = 1 := by decide
      have i_26 : (40 : Int64).toInt = 40 := by decide
      show mp_W E X 4 21 [(0, .ref a0), (1, .int x0), (2, .int x1), (3, .int x2)] [.int 0] w1_ 0 0
      refine mp_run mp_k_cX10_isDraw_ok hF mp_tabX10_ok [mp_h (.ifCond .eq 15) [36]] (by decide +kernel) ?_
      refine And.intro (fun _ => ?_) (fun c_27 => absurd c_27 (by decide))
      show mp_W E X 4 36 [(0, .ref a0), (1, .int x0), (2, .int x1), (3, .int x2)] [] w1_ 0 0
      refine mp_run mp_k_cX10_isDraw_ok hF mp_tabX10_ok [mp_c (.iconst 0) 0] (by decide +kernel) ?_
      show mp_W E X 4 37 [(0, .ref a0), (1, .int x0), (2, .int x1), (3, .int x2)] [.int 0] w1_ 0 0
      exact mp_iret hF hQ rfl (by decide) (Nat.le_of_ble_eq_true rfl) (Nat.le_of_ble_eq_true rfl) [0, 1] (w' := w1_) rfl rfl (Or.inl ⟨rfl, rfl⟩) (by first | exact mp_fd_ok mp_k_cX10_isDraw_ok (by decide +kernel) | decide +kernel)
    · skip
      have c_23 : 1 ≤ z_16.toInt := c_23
      have c_24 : z_16.toInt ≤ 40 := c_24
      have i_28 : (1 : Int64).toInt = 1 := by decide
      have i_29 : (40 : Int64).toInt = 40 := by decide
      show mp_W E X 4 21 [(0, .ref a0), (1, .int x0), (2, .int x1), (3, .int x2)] [.int 1] w1_ 0 0
      refine mp_run mp_k_cX10_isDraw_ok hF mp_tabX10_ok [mp_h (.ifCond .eq 15) [36]] (by decide +kernel) ?_
      refine And.intro (fun c_30 => absurd c_30 (by decide)) (fun _ => ?_)
      show mp_W E X 4 24 [(0, .ref a0), (1, .int x0), (2, .int x1), (3, .int x2)] [] w1_ 0 0
      refine mp_run mp_k_cX10_isDraw_ok hF mp_tabX10_ok [mp_i (.aload_n 0), mp_i (.iload_n 3)] (by decide +kernel) ?_
      show mp_W E X 4 26 [(0, .ref a0), (1, .int x0), (2, .int x1), (3, .int x2)] [.int x2, .ref a0] w1_ 0 0
      refine mp_callV hF (As := [.int x2]) (rest := []) (wr := []) (bX10_isPromise_55 E a0 a1 a2 a3 a4 a5 a6 a7 a8 a9 a10 a11 a12 a13 a14 a15 a16 a17 a18 a19 a20 a21 a22 a23 a24 a25 f0 y0 y1 y2 y3 y4 y5 y6 y7 y8 y9 y10 y11 y12 y13 y14 y15 y16 y17 y18 y19 y20 y21 x2 p0 p1 p2 p3 p4 l_y1 u_y1 l_y2 u_y2 l_y3 u_y3 l_y4 u_y4 l_y11 u_y11 l_y12 u_y12 l_y13 u_y13) mp_lkX10_262 0 rfl [0, 1] [] rfl rfl rfl rfl rfl ⟨(Nat.le_of_ble_eq_true rfl), (Nat.le_of_ble_eq_true rfl), (Nat.le_of_ble_eq_true rfl), (Nat.le_of_ble_eq_true rfl)⟩ (Nat.le_of_ble_eq_true rfl) (by first | exact mp_fd_ok mp_k_cX10_isDraw_ok (by decide +kernel) | decide +kernel) (fun v_31 w_32 h_33 => ?_)
      refine h_33.elim (fun q_39 => ?_) (fun q_40 => ?_)
      · skip
        refine q_39.elim fun e_41 q_42 => q_42.elim fun x_34 e_43 => ?_
        clear h_33 q_39 q_42
        subst e_41
        subst e_43
        show mp_W E X 4 29 [(0, .ref a0), (1, .int x0), (2, .int x1), (3, .int x2)] [.int 0] w1_ 0 0
        refine mp_run mp_k_cX10_isDraw_ok hF mp_tabX10_ok [mp_h (.ifCond .eq 7) [36]] (by decide +kernel) ?_
        refine And.intro (fun _ => ?_) (fun c_44 => absurd c_44 (by decide))
        show mp_W E X 4 36 [(0, .ref a0), (1, .int x0), (2, .int x1), (3, .int x2)] [] w1_ 0 0
        refine mp_run mp_k_cX10_isDraw_ok hF mp_tabX10_ok [mp_c (.iconst 0) 0] (by decide +kernel) ?_
        show mp_W E X 4 37 [(0, .ref a0), (1, .int x0), (2, .int x1), (3, .int x2)] [.int 0] w1_ 0 0
        exact mp_iret hF hQ rfl (by decide) (Nat.le_of_ble_eq_true rfl) (Nat.le_of_ble_eq_true rfl) [0, 1] (w' := w1_) rfl rfl (Or.inl ⟨rfl, rfl⟩) (by first | exact mp_fd_ok mp_k_cX10_isDraw_ok (by decide +kernel) | decide +kernel)
      · skip
        refine q_40.elim fun e_45 q_46 => q_46.elim fun c_35 q_47 => q_47.elim fun x_36 q_48 => q_48.elim fun x_37 q_49 => q_49.elim fun x_38 e_50 => ?_
        clear h_33 q_40 q_46 q_47 q_48 q_49
        subst e_45
        subst e_50
        have c_35 : 0 ≤ x2.toInt := c_35
        show mp_W E X 4 29 [(0, .ref a0), (1, .int x0), (2, .int x1), (3, .int x2)] [.int 1] w1_ 0 0
        refine mp_run mp_k_cX10_isDraw_ok hF mp_tabX10_ok [mp_h (.ifCond .eq 7) [36]] (by decide +kernel) ?_
        refine And.intro (fun c_51 => absurd c_51 (by decide)) (fun _ => ?_)
        show mp_W E X 4 32 [(0, .ref a0), (1, .int x0), (2, .int x1), (3, .int x2)] [] w1_ 0 0
        refine mp_run mp_k_cX10_isDraw_ok hF mp_tabX10_ok [mp_c (.iconst 1) 1, mp_h (.goto 4) [37]] (by decide +kernel) ?_
        show mp_W E X 4 37 [(0, .ref a0), (1, .int x0), (2, .int x1), (3, .int x2)] [.int 1] w1_ 0 0
        exact mp_iret hF hQ rfl (by decide) (Nat.le_of_ble_eq_true rfl) (Nat.le_of_ble_eq_true rfl) [0, 1] (w' := w1_) rfl rfl (Or.inr ⟨rfl, (by first | (first | exact mp_o921 c_8 e_3 | omega) | decide), (by first | (first | exact mp_o1850 e_3 c_9 | omega) | decide), (by first | (first | exact mp_o1310 c_23 e_18 | omega) | decide), (by first | (first | exact mp_o1851 e_18 c_24 | omega) | decide), (by first | (first | exact c_35 | omega) | decide), (by first | (first | exact mp_o921 c_8 e_3 | omega) | decide | (have h8 : (0 : Int32).toInt = 0 := rfl; have h9 : (1 : Int32).toInt = 1 := rfl; have h10 : (-1 : Int32).toInt = -1 := rfl; omega)), (by first | (first | exact mp_o1310 c_23 e_18 | omega) | decide | (have h8 : (0 : Int32).toInt = 0 := rfl; have h9 : (1 : Int32).toInt = 1 := rfl; have h10 : (-1 : Int32).toInt = -1 := rfl; omega)), (by first | (first | exact mp_o1851 e_18 c_24 | omega) | decide | (have h8 : (0 : Int32).toInt = 0 := rfl; have h9 : (1 : Int32).toInt = 1 := rfl; have h10 : (-1 : Int32).toInt = -1 := rfl; omega)), (by first | (first | exact c_35 | omega) | decide | (have h8 : (0 : Int32).toInt = 0 := rfl; have h9 : (1 : Int32).toInt = 1 := rfl; have h10 : (-1 : Int32).toInt = -1 := rfl; omega)), (by first | (first | exact x_37 | omega) | decide | (have h8 : (0 : Int32).toInt = 0 := rfl; have h9 : (1 : Int32).toInt = 1 := rfl; have h10 : (-1 : Int32).toInt = -1 := rfl; omega)), (by first | (first | exact x_36 | omega) | decide | (have h8 : (0 : Int32).toInt = 0 := rfl; have h9 : (1 : Int32).toInt = 1 := rfl; have h10 : (-1 : Int32).toInt = -1 := rfl; omega)), rfl⟩) (by first | exact mp_fd_ok mp_k_cX10_isDraw_ok (by decide +kernel) | decide +kernel)
set_option maxHeartbeats 4000000 in
set_option maxRecDepth 100000 in
theorem bX10_draws_152 (E : mp_E) (a0 a1 a2 a3 a4 a5 a6 a7 a8 a9 a10 a11 a12 a13 a14 a15 a16 a17 a18 a19 a20 a21 a22 a23 a24 a25 : Nat) (f0 : Nat → Int32) (f1 : Nat → Int32) (f2 : Nat → Int32) (f3 : Nat → Int32) (f4 : Nat → Int32) (f5 : Nat → Int32) (f6 : Nat → Int32) (f7 : Nat → Int32) (f8 : Nat → Int32) (y0 : Int32) (y1 : Int32) (y2 : Int32) (y3 : Int32) (y4 : Int32) (y5 : Int32) (y6 : Int64) (y7 : Int32) (y8 : Int32) (y9 : Int32) (y10 : Int32) (y11 : Int32) (y12 : Int32) (y13 : Int32) (y14 : Int32) (y15 : Int32) (y16 : Int32) (y17 : Int32) (y18 : Int32) (y19 : Int32) (y20 : Int32) (y21 : Int32) (x0 : Int64) (x1 : Int32) (x2 : Int32) (p0 : mp_res f0 25 5 0 0 6) (p1 : mp_res f0 25 5 1 0 99) (p2 : mp_res f0 25 5 2 0 6) (p3 : mp_res f0 25 5 3 0 10) (p4 : mp_res f0 25 5 4 0 60) (p5 : mp_all f1 180 0 20) (p6 : mp_res f2 90 3 0 0 5) (p7 : mp_res f2 90 3 1 (-1) 99) (p8 : mp_res f3 300 6 0 0 5) (p9 : mp_res f3 300 6 1 0 5) (p10 : mp_res f3 300 6 3 0 99) (p11 : mp_res f3 300 6 4 0 1) (p12 : mp_actm f4) (p13 : mp_all f5 6 0 5) (l_x1 : 1 ≤ x1.toInt) (u_x1 : x1.toInt ≤ 40) (l_x2 : 0 ≤ x2.toInt) (u_x2 : x2.toInt ≤ 9) (l_y1 : 0 ≤ y1.toInt) (u_y1 : y1.toInt ≤ 1600) (l_y2 : 0 ≤ y2.toInt) (u_y2 : y2.toInt ≤ 1600) (l_y3 : 0 ≤ y3.toInt) (u_y3 : y3.toInt ≤ 4) (l_y4 : 0 ≤ y4.toInt) (u_y4 : y4.toInt ≤ 1600) (l_y11 : 0 ≤ y11.toInt) (u_y11 : y11.toInt ≤ 99) (l_y12 : 0 ≤ y12.toInt) (u_y12 : y12.toInt ≤ 5) (l_y13 : 0 ≤ y13.toInt) (u_y13 : y13.toInt ≤ 12) (q0 : mp_prm f3 (f0 3).toInt) (q1 : x2.toInt < (f0 3).toInt) (q2 : (f0 1).toInt + mp_k200 f4 (f0 4).toInt ≤ 99) : mp_Ct E yX10_draws cX10_draws 9 (some FieldType.int) 14 0 0 334 [.ref a0, .long x0, .int x1, .int x2] [(mp_ob10 a0 y0 a10 a11 a12 a13 a14 y1 y2 y3 y4 y5 y6 y7 y8 y9 y10 a15 a1 a2 a16 a3 a4 a5 a17 y11 a6 a7 a8 a9 y12 y13 y14 a18 a19 y15 y16 a20 a21 a22 y17 y18 y19 y20 a23 a24 a25 y21), (mp_arI E a1 0 25 f0), (mp_arI E a2 0 180 f1), (mp_arI E a3 0 90 f2), (mp_arI E a4 0 300 f3), (mp_arI E a5 0 300 f4), (mp_arI E a6 0 6 f5), (mp_arI E a7 0 6 f6), (mp_arI E a8 0 6 f7), (mp_arI E a9 3 1500 f8)] (fun v w' => ∃ r1 : Int32, ∃ r2 : Int32, ∃ h3 : Nat → Int32, ∃ h4 : Nat → Int32, ∃ h5 : Nat → Int32, ∃ h6 : Nat → Int32, ∃ r7 : Int32, v = some (.int r7) ∧ 0 ≤ r1.toInt ∧ r1.toInt ≤ 99 ∧ mp_all h3 6 0 5 ∧ w' = [(mp_ob10 a0 y0 a10 a11 a12 a13 a14 y1 y2 y3 y4 y5 y6 y7 y8 y9 y10 a15 a1 a2 a16 a3 a4 a5 a17 r1 a6 a7 a8 a9 y12 y13 y14 a18 a19 y15 y16 a20 a21 a22 y17 y18 y19 y20 a23 a24 a25 r2), (mp_arI E a1 0 25 f0), (mp_arI E a2 0 180 f1), (mp_arI E a3 0 90 f2), (mp_arI E a4 0 300 f3), (mp_arI E a5 0 300 f4), (mp_arI E a6 0 6 h3), (mp_arI E a7 0 6 h4), (mp_arI E a8 0 6 h5), (mp_arI E a9 3 1500 h6)]) := by
  refine mp_met false (by decide) (by decide) (Nat.le_of_ble_eq_true rfl) (fun X hF hQ => ?_)
  have hF : mp_F E X (RX10, cX10_draws, 9, (14, 0, 0, 334), (some FieldType.int), false) := hF
  let w1_ : va_W := [(mp_ob10 a0 y0 a10 a11 a12 a13 a14 y1 y2 y3 y4 y5 y6 y7 y8 y9 y10 a15 a1 a2 a16 a3 a4 a5 a17 y11 a6 a7 a8 a9 y12 y13 y14 a18 a19 y15 y16 a20 a21 a22 y17 y18 y19 y20 a23 a24 a25 y21), (mp_arI E a1 0 25 f0), (mp_arI E a2 0 180 f1), (mp_arI E a3 0 90 f2), (mp_arI E a4 0 300 f3), (mp_arI E a5 0 300 f4), (mp_arI E a6 0 6 f5), (mp_arI E a7 0 6 f6), (mp_arI E a8 0 6 f7), (mp_arI E a9 3 1500 f8)]
  show mp_W E X 9 0 [(0, .ref a0), (1, .long x0), (3, .int x1), (4, .int x2)] [] w1_ 0 0
  refine mp_run mp_k_cX10_draws_ok hF mp_tabX10_ok [mp_i (.aload_n 0)] (by decide +kernel) ?_
  show mp_W E X 9 1 [(0, .ref a0), (1, .long x0), (3, .int x1), (4, .int x2)] [.ref a0] w1_ 0 0
  refine mp_callV hF (As := []) (rest := []) (wr := [(mp_arI E a4 0 300 f3)]) (bX10_lays_62 E a0 a1 a2 a3 a5 a6 a7 a8 a9 a10 a11 a12 a13 a14 a15 a16 a4 a17 a18 a19 a20 a21 a22 a23 a24 a25 f0 f1 f2 f4 f5 f6 f7 f8 y0 y1 y2 y3 y4 y5 y6 y7 y8 y9 y10 y11 y12 y13 y14 y15 y16 y17 y18 y19 y20 y21 p0 p1 p2 p3 p4 p5 p6 p7 p12 p13 l_y1 u_y1 l_y2 u_y2 l_y3 u_y3 l_y4 u_y4 l_y11 u_y11 l_y12 u_y12 l_y13 u_y13 (by (first | exact q2 | omega))) mp_lkX10_288 0 rfl [0, 1, 2, 3, 5, 6, 7, 8, 9] [4] rfl rfl rfl rfl rfl ⟨(Nat.le_of_ble_eq_true rfl), (Nat.le_of_ble_eq_true rfl), (Nat.le_of_ble_eq_true rfl), (Nat.le_of_ble_eq_true rfl)⟩ (Nat.le_of_ble_eq_true rfl) (by first | exact mp_fd_ok mp_k_cX10_draws_ok (by decide +kernel) | decide +kernel) (fun v_1 w_2 h_3 => ?_)
  refine h_3.elim fun r_4 q_14 => q_14.elim fun g_5 q_15 => q_15.elim fun g_6 q_16 => q_16.elim fun g_7 q_17 => q_17.elim fun g_8 q_18 => q_18.elim fun e_19 q_20 => q_20.elim fun l_9 q_21 => q_21.elim fun u_10 q_22 => q_22.elim fun p_11 q_23 => q_23.elim fun x_12 q_24 => q_24.elim fun x_13 e_25 => ?_
  clear h_3 q_14 q_15 q_16 q_17 q_18 q_20 q_21 q_22 q_23 q_24
  subst e_19
  subst e_25
  let w2_ : va_W := [(mp_arI E a4 0 300 f3), (mp_ob10 a0 y0 a10 a11 a12 a13 a14 y1 y2 y3 y4 y5 y6 y7 y8 y9 y10 a15 a1 a2 a16 a3 a4 a5 a17 r_4 a6 a7 a8 a9 y12 y13 y14 a18 a19 y15 y16 a20 a21 a22 y17 y18 y19 y20 a23 a24 a25 y21), (mp_arI E a1 0 25 f0), (mp_arI E a2 0 180 f1), (mp_arI E a3 0 90 f2), (mp_arI E a5 0 300 f4), (mp_arI E a6 0 6 g_5), (mp_arI E a7 0 6 g_6), (mp_arI E a8 0 6 g_7), (mp_arI E a9 3 1500 g_8)]
  show mp_W E X 9 4 [(0, .ref a0), (1, .long x0), (3, .int x1), (4, .int x2)] [] w2_ 0 0
  refine mp_run mp_k_cX10_draws_ok hF mp_tabX10_ok [mp_i (.lload_n 1), mp_i (.lstore 5), mp_i (.aload_n 0), mp_c (.iconst 0) 0, mp_h (.putfield 450) [46, 1]] (by decide +kernel) ?_
  refine And.intro rfl (And.intro rfl (And.intro rfl (And.intro rfl (And.intro (Nat.le_of_ble_eq_true rfl) ?_))))
  let w3_ : va_W := [(mp_arI E a4 0 300 f3), (mp_ob10 a0 y0 a10 a11 a12 a13 a14 y1 y2 y3 y4 y5 y6 y7 y8 y9 y10 a15 a1 a2 a16 a3 a4 a5 a17 r_4 a6 a7 a8 a9 y12 y13 y14 a18 a19 y15 y16 a20 a21 a22 y17 y18 y19 y20 a23 a24 a25 0), (mp_arI E a1 0 25 f0), (mp_arI E a2 0 180 f1), (mp_arI E a3 0 90 f2), (mp_arI E a5 0 300 f4), (mp_arI E a6 0 6 g_5), (mp_arI E a7 0 6 g_6), (mp_arI E a8 0 6 g_7), (mp_arI E a9 3 1500 g_8)]
  show mp_W E X 9 12 [(5, .long x0), (0, .ref a0), (1, .long x0), (3, .int x1), (4, .int x2)] [] w3_ 0 0
  refine mp_run mp_k_cX10_draws_ok hF mp_tabX10_ok [mp_i (.aload_n 0), mp_h (.getfield 276) [24, 1], mp_c (.iconst 1) 1, mp_i .iadd, mp_i (.istore 7)] (by decide +kernel) ?_
  refine And.intro rfl (And.intro rfl ?_)
  intro z_26 h_27
  have e_28 : z_26.toInt = r_4.toInt + 1 := mp_add (a := r_4.toInt) (b := 1) h_27 rfl (by decide) (by (first | exact mp_o2 l_9 | omega)) (by (first | exact mp_o330 u_10 | omega))
  show mp_W E X 9 20 [(7, .int z_26), (5, .long x0), (0, .ref a0), (1, .long x0), (3, .int x1), (4, .int x2)] [] w3_ 0 0
  have lp_35 : ∀ (d_36 : Nat) (i_29 : Int32) (i_30 : Int64) (i_31 : Int32) (g_32 : Nat → Int32), 1 ≤ i_29.toInt → i_29.toInt ≤ 240 → r_4.toInt + x1.toInt - i_29.toInt + 1 ≤ (d_36 : Int) → mp_W E X 9 20 [(7, .int i_29), (5, .long i_30), (0, .ref a0), (1, .long x0), (3, .int x1), (4, .int x2)] [] [(mp_arI E a4 0 300 f3), (mp_ob10 a0 y0 a10 a11 a12 a13 a14 y1 y2 y3 y4 y5 y6 y7 y8 y9 y10 a15 a1 a2 a16 a3 a4 a5 a17 r_4 a6 a7 a8 a9 y12 y13 y14 a18 a19 y15 y16 a20 a21 a22 y17 y18 y19 y20 a23 a24 a25 i_31), (mp_arI E a1 0 25 f0), (mp_arI E a2 0 180 f1), (mp_arI E a3 0 90 f2), (mp_arI E a5 0 300 f4), (mp_arI E a6 0 6 g_5), (mp_arI E a7 0 6 g_6), (mp_arI E a8 0 6 g_7), (mp_arI E a9 3 1500 g_32)] 0 0 := by
    intro d_36
    induction d_36 using Nat.strongRecOn with
    | ind d_36 ih_37 =>
      intro i_29 i_30 i_31 g_32 l_33 u_34 hm_38
      refine mp_run mp_k_cX10_draws_ok hF mp_tabX10_ok [mp_i (.iload 7), mp_i (.aload_n 0), mp_h (.getfield 276) [24, 1], mp_i (.iload_n 3), mp_i .iadd, mp_h (.if_icmp .gt 150) [178]] (by decide +kernel) ?_
      refine And.intro rfl (And.intro rfl ?_)
      intro z_39 h_40
      have e_41 : z_39.toInt = r_4.toInt + x1.toInt := mp_add (a := r_4.toInt) (b := x1.toInt) h_40 rfl rfl (by (first | exact mp_o524 l_9 l_x1 | omega)) (by (first | exact mp_o822 u_10 u_x1 | omega))
      refine And.intro (fun c_42 => ?_) (fun c_42 => ?_)
      · have c_42 : z_39.toInt < i_29.toInt := c_42
        let w4_ : va_W := [(mp_arI E a4 0 300 f3), (mp_ob10 a0 y0 a10 a11 a12 a13 a14 y1 y2 y3 y4 y5 y6 y7 y8 y9 y10 a15 a1 a2 a16 a3 a4 a5 a17 r_4 a6 a7 a8 a9 y12 y13 y14 a18 a19 y15 y16 a20 a21 a22 y17 y18 y19 y20 a23 a24 a25 i_31), (mp_arI E a1 0 25 f0), (mp_arI E a2 0 180 f1), (mp_arI E a3 0 90 f2), (mp_arI E a5 0 300 f4), (mp_arI E a6 0 6 g_5), (mp_arI E a7 0 6 g_6), (mp_arI E a8 0 6 g_7), (mp_arI E a9 3 1500 g_32)]
        show mp_W E X 9 178 [(7, .int i_29), (5, .long i_30), (0, .ref a0), (1, .long x0), (3, .int x1), (4, .int x2)] [] w4_ 0 0
        refine mp_run mp_k_cX10_draws_ok hF mp_tabX10_ok [mp_i (.aload_n 0), mp_i (.iload 4), mp_i (.aload_n 0), mp_h (.getfield 276) [24, 1], mp_i (.iload_n 3), mp_i .iadd] (by decide +kernel) ?_
        refine And.intro rfl (And.intro rfl ?_)
        intro z_43 h_44
        have e_45 : z_43.toInt = r_4.toInt + x1.toInt := mp_add (a := r_4.toInt) (b := x1.toInt) h_44 rfl rfl (by (first | exact mp_o524 l_9 l_x1 | omega)) (by (first | exact mp_o1852 e_41 u_34 c_42 | omega))
        show mp_W E X 9 187 [(7, .int i_29), (5, .long i_30), (0, .ref a0), (1, .long x0), (3, .int x1), (4, .int x2)] [.int z_43, .int x2, .ref a0] w4_ 0 0
        refine mp_callV hF (As := [.int x2, .int z_43]) (rest := []) (wr := [(mp_arI E a2 0 180 f1), (mp_arI E a5 0 300 f4), (mp_arI E a6 0 6 g_5), (mp_arI E a7 0 6 g_6), (mp_arI E a8 0 6 g_7)]) (bX10_worthOf_72 E a0 a1 a3 a4 a9 a10 a11 a12 a13 a14 a15 a2 a16 a5 a17 a6 a7 a8 a18 a19 a20 a21 a22 a23 a24 a25 f0 f2 f3 g_32 y0 y1 y2 y3 y4 y5 y6 y7 y8 y9 y10 r_4 y12 y13 y14 y15 y16 y17 y18 y19 y20 i_31 x2 z_43 p0 p1 p2 p3 p4 p6 p7 p8 p9 p10 p11 l_x2 u_x2 (by (first | exact mp_o1853 l_9 l_x1 e_45 | omega)) (by (first | exact mp_o1854 u_x1 u_10 e_45 | omega)) l_y1 u_y1 l_y2 u_y2 l_y3 u_y3 l_y4 u_y4 l_9 u_10 l_y12 u_y12 l_y13 u_y13 (by first | assumption | (rw [rfl]; assumption)) (by (first | exact q1 | omega))) mp_lkX10_291 1 rfl [1, 2, 4, 0, 9] [3, 5, 6, 7, 8] rfl rfl rfl rfl rfl ⟨(Nat.le_of_ble_eq_true rfl), (Nat.le_of_ble_eq_true rfl), (Nat.le_of_ble_eq_true rfl), (Nat.le_of_ble_eq_true rfl)⟩ (Nat.le_of_ble_eq_true rfl) (by first | exact mp_fd_ok mp_k_cX10_draws_ok (by decide +kernel) | decide +kernel) (fun v_46 w_47 h_48 => ?_)
        obtain ⟨r_49, rfl, rfl⟩ := h_48
        let w5_ : va_W := [(mp_arI E a2 0 180 f1), (mp_arI E a5 0 300 f4), (mp_arI E a6 0 6 g_5), (mp_arI E a7 0 6 g_6), (mp_arI E a8 0 6 g_7), (mp_ob10 a0 y0 a10 a11 a12 a13 a14 y1 y2 y3 y4 y5 y6 y7 y8 y9 y10 a15 a1 a2 a16 a3 a4 a5 a17 r_4 a6 a7 a8 a9 y12 y13 y14 a18 a19 y15 y16 a20 a21 a22 y17 y18 y19 y20 a23 a24 a25 i_31), (mp_arI E a1 0 25 f0), (mp_arI E a3 0 90 f2), (mp_arI E a4 0 300 f3), (mp_arI E a9 3 1500 g_32)]
        show mp_W E X 9 190 [(7, .int i_29), (5, .long i_30), (0, .ref a0), (1, .long x0), (3, .int x1), (4, .int x2)] [.int r_49] w5_ 0 0
        exact mp_iret hF hQ rfl rfl (Nat.le_of_ble_eq_true rfl) (Nat.le_of_ble_eq_true rfl) [5, 6, 0, 7, 8, 1, 2, 3, 4, 9] (w' := [(mp_ob10 a0 y0 a10 a11 a12 a13 a14 y1 y2 y3 y4 y5 y6 y7 y8 y9 y10 a15 a1 a2 a16 a3 a4 a5 a17 r_4 a6 a7 a8 a9 y12 y13 y14 a18 a19 y15 y16 a20 a21 a22 y17 y18 y19 y20 a23 a24 a25 i_31), (mp_arI E a1 0 25 f0), (mp_arI E a2 0 180 f1), (mp_arI E a3 0 90 f2), (mp_arI E a4 0 300 f3), (mp_arI E a5 0 300 f4), (mp_arI E a6 0 6 g_5), (mp_arI E a7 0 6 g_6), (mp_arI E a8 0 6 g_7), (mp_arI E a9 3 1500 g_32)]) rfl rfl ⟨r_4, i_31, g_5, g_6, g_7, g_32, r_49, rfl, l_9, u_10, p_11, rfl⟩ (by first | exact mp_fd_ok mp_k_cX10_draws_ok (by decide +kernel) | decide +kernel)
      · have c_42 : i_29.toInt ≤ z_39.toInt := c_42
        let w6_ : va_W := [(mp_arI E a4 0 300 f3), (mp_ob10 a0 y0 a10 a11 a12 a13 a14 y1 y2 y3 y4 y5 y6 y7 y8 y9 y10 a15 a1 a2 a16 a3 a4 a5 a17 r_4 a6 a7 a8 a9 y12 y13 y14 a18 a19 y15 y16 a20 a21 a22 y17 y18 y19 y20 a23 a24 a25 i_31), (mp_arI E a1 0 25 f0), (mp_arI E a2 0 180 f1), (mp_arI E a3 0 90 f2), (mp_arI E a5 0 300 f4), (mp_arI E a6 0 6 g_5), (mp_arI E a7 0 6 g_6), (mp_arI E a8 0 6 g_7), (mp_arI E a9 3 1500 g_32)]
        show mp_W E X 9 31 [(7, .int i_29), (5, .long i_30), (0, .ref a0), (1, .long x0), (3, .int x1), (4, .int x2)] [] w6_ 0 0
        refine mp_run mp_k_cX10_draws_ok hF mp_tabX10_ok [mp_c (.iconst 0) 0, mp_i (.istore 8)] (by decide +kernel) ?_
        show mp_W E X 9 34 [(8, .int 0), (7, .int i_29), (5, .long i_30), (0, .ref a0), (1, .long x0), (3, .int x1), (4, .int x2)] [] w6_ 0 0
        have lp_56 : ∀ (d_57 : Nat) (i_50 : Int32) (i_51 : Int64) (i_52 : Int32) (g_53 : Nat → Int32), 0 ≤ i_50.toInt → i_50.toInt ≤ 10 → (f0 3).toInt - i_50.toInt ≤ (d_57 : Int) → mp_W E X 9 34 [(8, .int i_50), (7, .int i_29), (5, .long i_51), (0, .ref a0), (1, .long x0), (3, .int x1), (4, .int x2)] [] [(mp_arI E a4 0 300 f3), (mp_ob10 a0 y0 a10 a11 a12 a13 a14 y1 y2 y3 y4 y5 y6 y7 y8 y9 y10 a15 a1 a2 a16 a3 a4 a5 a17 r_4 a6 a7 a8 a9 y12 y13 y14 a18 a19 y15 y16 a20 a21 a22 y17 y18 y19 y20 a23 a24 a25 i_52), (mp_arI E a1 0 25 f0), (mp_arI E a2 0 180 f1), (mp_arI E a3 0 90 f2), (mp_arI E a5 0 300 f4), (mp_arI E a6 0 6 g_5), (mp_arI E a7 0 6 g_6), (mp_arI E a8 0 6 g_7), (mp_arI E a9 3 1500 g_53)] 0 0 := by
          intro d_57
          induction d_57 using Nat.strongRecOn with
          | ind d_57 ih_58 =>
            intro i_50 i_51 i_52 g_53 l_54 u_55 hm_59
            refine mp_run mp_k_cX10_draws_ok hF mp_tabX10_ok [mp_i (.iload 8), mp_i (.aload_n 0), mp_h (.getfield 34) [17, 1], mp_c (.iconst 3) 3, mp_h .iaload [2], mp_h (.if_icmp .ge 130) [172]] (by decide +kernel) ?_
            refine And.intro rfl (And.intro rfl ?_)
            refine And.intro rfl (And.intro rfl (And.intro (vp_in_iff.mpr (by decide)) ?_))
            intro z_60 h_61
            have e_62 : 0 ≤ z_60.toInt ∧ z_60.toInt ≤ 10 := mp_res_ld h_61 p3 (by decide) (by decide) (by decide)
            have e_63 : z_60.toInt = (f0 3).toInt := congrArg Int32.toInt (mp_at h_61 (by decide) rfl)
            refine And.intro (fun c_64 => ?_) (fun c_64 => ?_)
            · have c_64 : z_60.toInt ≤ i_50.toInt := c_64
              let w7_ : va_W := [(mp_arI E a4 0 300 f3), (mp_ob10 a0 y0 a10 a11 a12 a13 a14 y1 y2 y3 y4 y5 y6 y7 y8 y9 y10 a15 a1 a2 a16 a3 a4 a5 a17 r_4 a6 a7 a8 a9 y12 y13 y14 a18 a19 y15 y16 a20 a21 a22 y17 y18 y19 y20 a23 a24 a25 i_52), (mp_arI E a1 0 25 f0), (mp_arI E a2 0 180 f1), (mp_arI E a3 0 90 f2), (mp_arI E a5 0 300 f4), (mp_arI E a6 0 6 g_5), (mp_arI E a7 0 6 g_6), (mp_arI E a8 0 6 g_7), (mp_arI E a9 3 1500 g_53)]
              show mp_W E X 9 172 [(8, .int i_50), (7, .int i_29), (5, .long i_51), (0, .ref a0), (1, .long x0), (3, .int x1), (4, .int x2)] [] w7_ 0 0
              refine mp_run mp_k_cX10_draws_ok hF mp_tabX10_ok [mp_c (.iinc 7 1) 1, mp_h (.goto (-155)) [20]] (by decide +kernel) ?_
              intro z_65 h_66
              have e_67 : z_65.toInt = i_29.toInt + 1 := mp_add (a := i_29.toInt) (b := 1) h_66 rfl (by decide) (by (first | exact mp_o457 l_33 | omega)) (by (first | exact mp_o823 u_34 | omega))
              show mp_W E X 9 20 [(7, .int z_65), (8, .int i_50), (5, .long i_51), (0, .ref a0), (1, .long x0), (3, .int x1), (4, .int x2)] [] w7_ 0 0
              exact mp_sub [0, 2, 3, 4, 5, 6] rfl [0, 1, 2, 3, 4, 5, 6, 7, 8, 9] rfl rfl (ih_37 (d_36 - 1) (by (first | exact mp_o824 c_42 hm_38 e_41 | omega)) z_65 i_51 i_52 g_53 (by (first | exact mp_o458 l_33 e_67 | omega)) (by (first | exact mp_o825 u_x1 u_10 e_41 c_42 e_67 | omega)) (by (first | exact mp_o826 hm_38 e_67 | omega)))
            · have c_64 : i_50.toInt < z_60.toInt := c_64
              let w8_ : va_W := [(mp_arI E a4 0 300 f3), (mp_ob10 a0 y0 a10 a11 a12 a13 a14 y1 y2 y3 y4 y5 y6 y7 y8 y9 y10 a15 a1 a2 a16 a3 a4 a5 a17 r_4 a6 a7 a8 a9 y12 y13 y14 a18 a19 y15 y16 a20 a21 a22 y17 y18 y19 y20 a23 a24 a25 i_52), (mp_arI E a1 0 25 f0), (mp_arI E a2 0 180 f1), (mp_arI E a3 0 90 f2), (mp_arI E a5 0 300 f4), (mp_arI E a6 0 6 g_5), (mp_arI E a7 0 6 g_6), (mp_arI E a8 0 6 g_7), (mp_arI E a9 3 1500 g_53)]
              show mp_W E X 9 45 [(8, .int i_50), (7, .int i_29), (5, .long i_51), (0, .ref a0), (1, .long x0), (3, .int x1), (4, .int x2)] [] w8_ 0 0
              refine mp_run mp_k_cX10_draws_ok hF mp_tabX10_ok [mp_i (.aload_n 0), mp_i (.aload_n 0), mp_i (.iload 8), mp_c (.iconst 0) 0] (by decide +kernel) ?_
              show mp_W E X 9 50 [(8, .int i_50), (7, .int i_29), (5, .long i_51), (0, .ref a0), (1, .long x0), (3, .int x1), (4, .int x2)] [.int 0, .int i_50, .ref a0, .ref a0] w8_ 0 0
              refine mp_callV hF (As := [.int i_50, .int 0]) (rest := [.ref a0]) (wr := [(mp_arI E a1 0 25 f0), (mp_arI E a2 0 180 f1), (mp_arI E a3 0 90 f2), (mp_arI E a5 0 300 f4), (mp_arI E a6 0 6 g_5), (mp_arI E a7 0 6 g_6), (mp_arI E a8 0 6 g_7), (mp_arI E a9 3 1500 g_53)]) (bX10_of_64 E a0 a4 a10 a11 a12 a13 a14 a15 a1 a2 a16 a3 a5 a17 a6 a7 a8 a9 a18 a19 a20 a21 a22 a23 a24 a25 f3 y0 y1 y2 y3 y4 y5 y6 y7 y8 y9 y10 r_4 y12 y13 y14 y15 y16 y17 y18 y19 y20 i_52 i_50 p8 p9 p10 p11 l_54 (by (first | exact mp_o1533 c_64 e_62 | omega)) l_y1 u_y1 l_y2 u_y2 l_y3 u_y3 l_y4 u_y4 l_9 u_10 l_y12 u_y12 l_y13 u_y13) mp_lkX10_267 1 rfl [1, 0] [2, 3, 4, 5, 6, 7, 8, 9] rfl rfl rfl rfl rfl ⟨(Nat.le_of_ble_eq_true rfl), (Nat.le_of_ble_eq_true rfl), (Nat.le_of_ble_eq_true rfl), (Nat.le_of_ble_eq_true rfl)⟩ (Nat.le_of_ble_eq_true rfl) (by first | exact mp_fd_ok mp_k_cX10_draws_ok (by decide +kernel) | decide +kernel) (fun v_68 w_69 h_70 => ?_)
              refine h_70.elim fun r_71 q_75 => q_75.elim fun e_76 q_77 => q_77.elim fun l_72 q_78 => q_78.elim fun u_73 q_79 => q_79.elim fun x_74 e_80 => ?_
              clear h_70 q_75 q_77 q_78 q_79
              subst e_76
              subst e_80
              let w9_ : va_W := [(mp_arI E a1 0 25 f0), (mp_arI E a2 0 180 f1), (mp_arI E a3 0 90 f2), (mp_arI E a5 0 300 f4), (mp_arI E a6 0 6 g_5), (mp_arI E a7 0 6 g_6), (mp_arI E a8 0 6 g_7), (mp_arI E a9 3 1500 g_53), (mp_ob10 a0 y0 a10 a11 a12 a13 a14 y1 y2 y3 y4 y5 y6 y7 y8 y9 y10 a15 a1 a2 a16 a3 a4 a5 a17 r_4 a6 a7 a8 a9 y12 y13 y14 a18 a19 y15 y16 a20 a21 a22 y17 y18 y19 y20 a23 a24 a25 i_52), (mp_arI E a4 0 300 f3)]
              show mp_W E X 9 53 [(8, .int i_50), (7, .int i_29), (5, .long i_51), (0, .ref a0), (1, .long x0), (3, .int x1), (4, .int x2)] [.int r_71, .ref a0] w9_ 0 0
              refine mp_run mp_k_cX10_draws_ok hF mp_tabX10_ok [mp_i (.iload 7)] (by decide +kernel) ?_
              show mp_W E X 9 55 [(8, .int i_50), (7, .int i_29), (5, .long i_51), (0, .ref a0), (1, .long x0), (3, .int x1), (4, .int x2)] [.int i_29, .int r_71, .ref a0] w9_ 0 0
              refine mp_callV hF (As := [.int r_71, .int i_29]) (rest := []) (wr := [(mp_arI E a1 0 25 f0), (mp_arI E a2 0 180 f1), (mp_arI E a5 0 300 f4), (mp_arI E a6 0 6 g_5), (mp_arI E a7 0 6 g_6), (mp_arI E a8 0 6 g_7), (mp_arI E a9 3 1500 g_53), (mp_arI E a4 0 300 f3)]) (bX10_isDead_91 E a0 a3 a10 a11 a12 a13 a14 a15 a1 a2 a16 a4 a5 a17 a6 a7 a8 a9 a18 a19 a20 a21 a22 a23 a24 a25 f2 y0 y1 y2 y3 y4 y5 y6 y7 y8 y9 y10 r_4 y12 y13 y14 y15 y16 y17 y18 y19 y20 i_52 r_71 i_29 p6 p7 l_72 u_73 l_y1 u_y1 l_y2 u_y2 l_y3 u_y3 l_y4 u_y4 l_9 u_10 l_y12 u_y12 l_y13 u_y13) mp_lkX10_315 8 rfl [8, 2] [0, 1, 3, 4, 5, 6, 7, 9] rfl rfl rfl rfl rfl ⟨(Nat.le_of_ble_eq_true rfl), (Nat.le_of_ble_eq_true rfl), (Nat.le_of_ble_eq_true rfl), (Nat.le_of_ble_eq_true rfl)⟩ (Nat.le_of_ble_eq_true rfl) (by first | exact mp_fd_ok mp_k_cX10_draws_ok (by decide +kernel) | decide +kernel) (fun v_81 w_82 h_83 => ?_)
              rcases h_83 with ⟨rfl, x_84, rfl⟩ | ⟨rfl, x_85, rfl⟩
              · skip
                rw [x_74] at x_84
                let w10_ : va_W := [(mp_arI E a1 0 25 f0), (mp_arI E a2 0 180 f1), (mp_arI E a5 0 300 f4), (mp_arI E a6 0 6 g_5), (mp_arI E a7 0 6 g_6), (mp_arI E a8 0 6 g_7), (mp_arI E a9 3 1500 g_53), (mp_arI E a4 0 300 f3), (mp_ob10 a0 y0 a10 a11 a12 a13 a14 y1 y2 y3 y4 y5 y6 y7 y8 y9 y10 a15 a1 a2 a16 a3 a4 a5 a17 r_4 a6 a7 a8 a9 y12 y13 y14 a18 a19 y15 y16 a20 a21 a22 y17 y18 y19 y20 a23 a24 a25 i_52), (mp_arI E a3 0 90 f2)]
                show mp_W E X 9 58 [(8, .int i_50), (7, .int i_29), (5, .long i_51), (0, .ref a0), (1, .long x0), (3, .int x1), (4, .int x2)] [.int 0] w10_ 0 0
                refine mp_run mp_k_cX10_draws_ok hF mp_tabX10_ok [mp_h (.ifCond .ne 108) [166]] (by decide +kernel) ?_
                refine And.intro (fun c_86 => absurd c_86 (by decide)) (fun _ => ?_)
                show mp_W E X 9 61 [(8, .int i_50), (7, .int i_29), (5, .long i_51), (0, .ref a0), (1, .long x0), (3, .int x1), (4, .int x2)] [] w10_ 0 0
                refine mp_run mp_k_cX10_draws_ok hF mp_tabX10_ok [mp_i (.aload_n 0), mp_i (.aload_n 0), mp_i (.iload 8), mp_c (.iconst 1) 1] (by decide +kernel) ?_
                show mp_W E X 9 66 [(8, .int i_50), (7, .int i_29), (5, .long i_51), (0, .ref a0), (1, .long x0), (3, .int x1), (4, .int x2)] [.int 1, .int i_50, .ref a0, .ref a0] w10_ 0 0
                refine mp_callV hF (As := [.int i_50, .int 1]) (rest := [.ref a0]) (wr := [(mp_arI E a1 0 25 f0), (mp_arI E a2 0 180 f1), (mp_arI E a5 0 300 f4), (mp_arI E a6 0 6 g_5), (mp_arI E a7 0 6 g_6), (mp_arI E a8 0 6 g_7), (mp_arI E a9 3 1500 g_53), (mp_arI E a3 0 90 f2)]) (bX10_of_76 E a0 a4 a10 a11 a12 a13 a14 a15 a1 a2 a16 a3 a5 a17 a6 a7 a8 a9 a18 a19 a20 a21 a22 a23 a24 a25 f3 y0 y1 y2 y3 y4 y5 y6 y7 y8 y9 y10 r_4 y12 y13 y14 y15 y16 y17 y18 y19 y20 i_52 i_50 p8 p9 p10 p11 l_54 (by (first | exact mp_o1533 c_64 e_62 | omega)) l_y1 u_y1 l_y2 u_y2 l_y3 u_y3 l_y4 u_y4 l_9 u_10 l_y12 u_y12 l_y13 u_y13) mp_lkX10_267 8 rfl [8, 7] [0, 1, 2, 3, 4, 5, 6, 9] rfl rfl rfl rfl rfl ⟨(Nat.le_of_ble_eq_true rfl), (Nat.le_of_ble_eq_true rfl), (Nat.le_of_ble_eq_true rfl), (Nat.le_of_ble_eq_true rfl)⟩ (Nat.le_of_ble_eq_true rfl) (by first | exact mp_fd_ok mp_k_cX10_draws_ok (by decide +kernel) | decide +kernel) (fun v_87 w_88 h_89 => ?_)
                refine h_89.elim fun r_90 q_94 => q_94.elim fun e_95 q_96 => q_96.elim fun l_91 q_97 => q_97.elim fun u_92 q_98 => q_98.elim fun x_93 e_99 => ?_
                clear h_89 q_94 q_96 q_97 q_98
                subst e_95
                subst e_99
                let w11_ : va_W := [(mp_arI E a1 0 25 f0), (mp_arI E a2 0 180 f1), (mp_arI E a5 0 300 f4), (mp_arI E a6 0 6 g_5), (mp_arI E a7 0 6 g_6), (mp_arI E a8 0 6 g_7), (mp_arI E a9 3 1500 g_53), (mp_arI E a3 0 90 f2), (mp_ob10 a0 y0 a10 a11 a12 a13 a14 y1 y2 y3 y4 y5 y6 y7 y8 y9 y10 a15 a1 a2 a16 a3 a4 a5 a17 r_4 a6 a7 a8 a9 y12 y13 y14 a18 a19 y15 y16 a20 a21 a22 y17 y18 y19 y20 a23 a24 a25 i_52), (mp_arI E a4 0 300 f3)]
                show mp_W E X 9 69 [(8, .int i_50), (7, .int i_29), (5, .long i_51), (0, .ref a0), (1, .long x0), (3, .int x1), (4, .int x2)] [.int r_90, .ref a0] w11_ 0 0
                refine mp_run mp_k_cX10_draws_ok hF mp_tabX10_ok [mp_i (.iload 7)] (by decide +kernel) ?_
                show mp_W E X 9 71 [(8, .int i_50), (7, .int i_29), (5, .long i_51), (0, .ref a0), (1, .long x0), (3, .int x1), (4, .int x2)] [.int i_29, .int r_90, .ref a0] w11_ 0 0
                refine mp_callV hF (As := [.int r_90, .int i_29]) (rest := []) (wr := [(mp_arI E a1 0 25 f0), (mp_arI E a2 0 180 f1), (mp_arI E a5 0 300 f4), (mp_arI E a6 0 6 g_5), (mp_arI E a7 0 6 g_6), (mp_arI E a8 0 6 g_7), (mp_arI E a9 3 1500 g_53), (mp_arI E a4 0 300 f3)]) (bX10_isDead_91 E a0 a3 a10 a11 a12 a13 a14 a15 a1 a2 a16 a4 a5 a17 a6 a7 a8 a9 a18 a19 a20 a21 a22 a23 a24 a25 f2 y0 y1 y2 y3 y4 y5 y6 y7 y8 y9 y10 r_4 y12 y13 y14 y15 y16 y17 y18 y19 y20 i_52 r_90 i_29 p6 p7 l_91 u_92 l_y1 u_y1 l_y2 u_y2 l_y3 u_y3 l_y4 u_y4 l_9 u_10 l_y12 u_y12 l_y13 u_y13) mp_lkX10_315 8 rfl [8, 7] [0, 1, 2, 3, 4, 5, 6, 9] rfl rfl rfl rfl rfl ⟨(Nat.le_of_ble_eq_true rfl), (Nat.le_of_ble_eq_true rfl), (Nat.le_of_ble_eq_true rfl), (Nat.le_of_ble_eq_true rfl)⟩ (Nat.le_of_ble_eq_true rfl) (by first | exact mp_fd_ok mp_k_cX10_draws_ok (by decide +kernel) | decide +kernel) (fun v_100 w_101 h_102 => ?_)
                rcases h_102 with ⟨rfl, x_103, rfl⟩ | ⟨rfl, x_104, rfl⟩
                · skip
                  rw [x_93] at x_103
                  show mp_W E X 9 74 [(8, .int i_50), (7, .int i_29), (5, .long i_51), (0, .ref a0), (1, .long x0), (3, .int x1), (4, .int x2)] [.int 0] w10_ 0 0
                  refine mp_run mp_k_cX10_draws_ok hF mp_tabX10_ok [mp_h (.ifCond .eq 6) [80]] (by decide +kernel) ?_
                  refine And.intro (fun _ => ?_) (fun c_105 => absurd c_105 (by decide))
                  show mp_W E X 9 80 [(8, .int i_50), (7, .int i_29), (5, .long i_51), (0, .ref a0), (1, .long x0), (3, .int x1), (4, .int x2)] [] w10_ 0 0
                  refine mp_run mp_k_cX10_draws_ok hF mp_tabX10_ok [mp_cl (.ldc2_w 453) 1103515245, mp_i (.lload 5), mp_i .lmul, mp_cl (.ldc2_w 455) 12345, mp_i .ladd, mp_cl (.ldc2_w 457) 2147483648, mp_i .lrem, mp_i (.lstore 5), mp_i (.lload 5), mp_cl (.ldc2_w 459) 65536, mp_i .ldiv, mp_cl (.ldc2_w 461) 100, mp_i .lrem, mp_i (.aload_n 0), mp_h (.getfield 44) [20, 8], mp_c (.iconst 3) 3, mp_i (.aload_n 0), mp_i (.iload 8), mp_c (.iconst 0) 0] (by decide +kernel) ?_
                  intro z_106 h_107
                  intro z_108 h_109
                  refine And.intro (by decide) ?_
                  intro z_110 h_111
                  refine And.intro (by decide) ?_
                  intro z_112 h_113
                  refine And.intro (by decide) ?_
                  intro z_114 h_115
                  refine And.intro rfl (And.intro rfl ?_)
                  show mp_W E X 9 115 [(5, .long z_110), (8, .int i_50), (7, .int i_29), (0, .ref a0), (1, .long x0), (3, .int x1), (4, .int x2)] [.int 0, .int i_50, .ref a0, .int 3, .ref a3, .long z_114] w10_ 0 0
                  refine mp_callV hF (As := [.int i_50, .int 0]) (rest := [.int 3, .ref a3, .long z_114]) (wr := [(mp_arI E a1 0 25 f0), (mp_arI E a2 0 180 f1), (mp_arI E a5 0 300 f4), (mp_arI E a6 0 6 g_5), (mp_arI E a7 0 6 g_6), (mp_arI E a8 0 6 g_7), (mp_arI E a9 3 1500 g_53), (mp_arI E a3 0 90 f2)]) (bX10_of_64 E a0 a4 a10 a11 a12 a13 a14 a15 a1 a2 a16 a3 a5 a17 a6 a7 a8 a9 a18 a19 a20 a21 a22 a23 a24 a25 f3 y0 y1 y2 y3 y4 y5 y6 y7 y8 y9 y10 r_4 y12 y13 y14 y15 y16 y17 y18 y19 y20 i_52 i_50 p8 p9 p10 p11 l_54 (by (first | exact mp_o1533 c_64 e_62 | omega)) l_y1 u_y1 l_y2 u_y2 l_y3 u_y3 l_y4 u_y4 l_9 u_10 l_y12 u_y12 l_y13 u_y13) mp_lkX10_267 8 rfl [8, 7] [0, 1, 2, 3, 4, 5, 6, 9] rfl rfl rfl rfl rfl ⟨(Nat.le_of_ble_eq_true rfl), (Nat.le_of_ble_eq_true rfl), (Nat.le_of_ble_eq_true rfl), (Nat.le_of_ble_eq_true rfl)⟩ (Nat.le_of_ble_eq_true rfl) (by first | exact mp_fd_ok mp_k_cX10_draws_ok (by decide +kernel) | decide +kernel) (fun v_116 w_117 h_118 => ?_)
                  refine h_118.elim fun r_119 q_123 => q_123.elim fun e_124 q_125 => q_125.elim fun l_120 q_126 => q_126.elim fun u_121 q_127 => q_127.elim fun x_122 e_128 => ?_
                  clear h_118 q_123 q_125 q_126 q_127
                  subst e_124
                  subst e_128
                  show mp_W E X 9 118 [(5, .long z_110), (8, .int i_50), (7, .int i_29), (0, .ref a0), (1, .long x0), (3, .int x1), (4, .int x2)] [.int r_119, .int 3, .ref a3, .long z_114] w11_ 0 0
                  refine mp_run mp_k_cX10_draws_ok hF mp_tabX10_ok [mp_i .imul, mp_c (.iconst 2) 2, mp_i .iadd, mp_h .iaload [7], mp_i .i2l, mp_i .lcmp, mp_h (.ifCond .lt 6) [130]] (by decide +kernel) ?_
                  intro z_129 h_130
                  have e_131 : z_129.toInt = 3 * r_119.toInt := mp_mul (a := 3) (b := r_119.toInt) h_130 (by decide) rfl (by (first | exact mp_o1399 l_120 | omega)) (by (first | exact mp_o1400 u_121 | omega))
                  intro z_132 h_133
                  have e_134 : z_132.toInt = z_129.toInt + 2 := mp_add (a := z_129.toInt) (b := 2) h_133 rfl (by decide) (by (first | exact mp_o1855 l_120 e_131 | omega)) (by (first | exact mp_o1856 u_121 e_131 | omega))
                  refine And.intro rfl (And.intro rfl (And.intro (vp_in_iff.mpr (by (first | exact mp_o1857 l_120 u_121 e_131 e_134 | omega))) ?_))
                  intro z_135 h_136
                  intro z_137 h_138
                  have e_139 : z_137.toInt = z_135.toInt := mp_i2l h_138
                  intro z_140 h_141
                  refine And.intro (fun c_142 => ?_) (fun c_142 => ?_)
                  · have c_142 : z_114.toInt < z_137.toInt := mp_lc_lt h_141 c_142
                    show mp_W E X 9 130 [(5, .long z_110), (8, .int i_50), (7, .int i_29), (0, .ref a0), (1, .long x0), (3, .int x1), (4, .int x2)] [] w11_ 0 0
                    refine mp_run mp_k_cX10_draws_ok hF mp_tabX10_ok [mp_i (.aload_n 0), mp_h (.getfield 65) [28, 8], mp_c (.sipush 150) 150, mp_i (.iload 8), mp_i .imul, mp_i (.iload 7), mp_i .iadd, mp_c (.iconst 1) 1, mp_h .bastore [6, 0]] (by decide +kernel) ?_
                    refine And.intro rfl (And.intro rfl ?_)
                    intro z_143 h_144
                    have e_145 : z_143.toInt = 150 * i_50.toInt := mp_mul (a := 150) (b := i_50.toInt) h_144 (by decide) rfl (by (first | exact mp_o1858 l_54 | omega)) (by (first | exact mp_o1859 u_55 | omega))
                    intro z_146 h_147
                    have e_148 : z_146.toInt = z_143.toInt + i_29.toInt := mp_add (a := z_143.toInt) (b := i_29.toInt) h_147 rfl rfl (by (first | exact mp_o1860 l_33 l_54 e_145 | omega)) (by (first | exact mp_o1861 u_55 e_145 u_x1 u_10 e_41 c_42 | omega))
                    refine And.intro rfl (And.intro rfl (And.intro (vp_in_iff.mpr (by (first | exact mp_o1862 l_54 l_33 e_145 e_148 u_x1 u_10 e_41 c_42 c_64 e_62 | omega))) ?_))
                    intro g_149 h_150
                    have h_151 : g_149 = upd g_53 z_146.toNatClampNeg 1 := h_150.trans (congrArg (upd _ _) (by decide))
                    let w12_ : va_W := [(mp_arI E a1 0 25 f0), (mp_arI E a2 0 180 f1), (mp_arI E a5 0 300 f4), (mp_arI E a6 0 6 g_5), (mp_arI E a7 0 6 g_6), (mp_arI E a8 0 6 g_7), (mp_arI E a9 3 1500 g_149), (mp_arI E a3 0 90 f2), (mp_ob10 a0 y0 a10 a11 a12 a13 a14 y1 y2 y3 y4 y5 y6 y7 y8 y9 y10 a15 a1 a2 a16 a3 a4 a5 a17 r_4 a6 a7 a8 a9 y12 y13 y14 a18 a19 y15 y16 a20 a21 a22 y17 y18 y19 y20 a23 a24 a25 i_52), (mp_arI E a4 0 300 f3)]
                    show mp_W E X 9 145 [(5, .long z_110), (8, .int i_50), (7, .int i_29), (0, .ref a0), (1, .long x0), (3, .int x1), (4, .int x2)] [] w12_ 0 0
                    refine mp_run mp_k_cX10_draws_ok hF mp_tabX10_ok [mp_i (.aload_n 0), mp_i .dup, mp_h (.getfield 450) [46, 8], mp_i (.iload 8), mp_i (.iload 4), mp_h (.if_icmp .ne 7) [161]] (by decide +kernel) ?_
                    refine And.intro rfl ?_
                    refine And.intro rfl (And.intro rfl ?_)
                    refine And.intro (fun c_152 => ?_) (fun c_152 => ?_)
                    · have c_152 : i_50.toInt ≠ x2.toInt := c_152
                      show mp_W E X 9 161 [(5, .long z_110), (8, .int i_50), (7, .int i_29), (0, .ref a0), (1, .long x0), (3, .int x1), (4, .int x2)] [.int i_52, .ref a0] w12_ 0 0
                      refine mp_run mp_k_cX10_draws_ok hF mp_tabX10_ok [mp_c (.iconst 0) 0, mp_i .iadd, mp_h (.putfield 450) [46, 8]] (by decide +kernel) ?_
                      intro z_153 h_154
                      have e_155 := mp_bnd i_52
                      have e_156 : z_153.toInt = i_52.toInt + 0 := mp_add (a := i_52.toInt) (b := 0) h_154 rfl (by decide) (by (first | exact mp_o827 e_155 | omega)) (by (first | exact mp_o828 e_155 | omega))
                      refine And.intro rfl (And.intro rfl (And.intro rfl (And.intro rfl (And.intro (Nat.le_of_ble_eq_true rfl) ?_))))
                      let w13_ : va_W := [(mp_arI E a1 0 25 f0), (mp_arI E a2 0 180 f1), (mp_arI E a5 0 300 f4), (mp_arI E a6 0 6 g_5), (mp_arI E a7 0 6 g_6), (mp_arI E a8 0 6 g_7), (mp_arI E a9 3 1500 g_149), (mp_arI E a3 0 90 f2), (mp_ob10 a0 y0 a10 a11 a12 a13 a14 y1 y2 y3 y4 y5 y6 y7 y8 y9 y10 a15 a1 a2 a16 a3 a4 a5 a17 r_4 a6 a7 a8 a9 y12 y13 y14 a18 a19 y15 y16 a20 a21 a22 y17 y18 y19 y20 a23 a24 a25 z_153), (mp_arI E a4 0 300 f3)]
                      show mp_W E X 9 166 [(5, .long z_110), (8, .int i_50), (7, .int i_29), (0, .ref a0), (1, .long x0), (3, .int x1), (4, .int x2)] [] w13_ 0 0
                      refine mp_run mp_k_cX10_draws_ok hF mp_tabX10_ok [mp_c (.iinc 8 1) 1, mp_h (.goto (-135)) [34]] (by decide +kernel) ?_
                      intro z_157 h_158
                      have e_159 : z_157.toInt = i_50.toInt + 1 := mp_add (a := i_50.toInt) (b := 1) h_158 rfl (by decide) (by (first | exact mp_o2 l_54 | omega)) (by (first | exact mp_o420 u_55 | omega))
                      show mp_W E X 9 34 [(8, .int z_157), (5, .long z_110), (7, .int i_29), (0, .ref a0), (1, .long x0), (3, .int x1), (4, .int x2)] [] w13_ 0 0
                      exact mp_sub [0, 2, 1, 3, 4, 5, 6] rfl [9, 8, 0, 1, 7, 2, 3, 4, 5, 6] rfl rfl (ih_58 (d_57 - 1) (by (first | exact mp_o1454 hm_59 e_63 c_64 | omega)) z_157 z_110 z_153 g_149 (by (first | exact mp_o51 l_54 e_159 | omega)) (by (first | exact mp_o1534 e_159 c_64 e_62 | omega)) (by (first | exact mp_o77 hm_59 e_159 | omega)))
                    · have c_152 : i_50.toInt = x2.toInt := (congrArg Int32.toInt c_152)
                      show mp_W E X 9 157 [(5, .long z_110), (8, .int i_50), (7, .int i_29), (0, .ref a0), (1, .long x0), (3, .int x1), (4, .int x2)] [.int i_52, .ref a0] w12_ 0 0
                      refine mp_run mp_k_cX10_draws_ok hF mp_tabX10_ok [mp_c (.iconst 1) 1, mp_h (.goto 4) [162], mp_i .iadd, mp_h (.putfield 450) [46, 8]] (by decide +kernel) ?_
                      intro z_160 h_161
                      have e_162 := mp_bnd i_52
                      refine And.intro rfl (And.intro rfl (And.intro rfl (And.intro rfl (And.intro (Nat.le_of_ble_eq_true rfl) ?_))))
                      let w14_ : va_W := [(mp_arI E a1 0 25 f0), (mp_arI E a2 0 180 f1), (mp_arI E a5 0 300 f4), (mp_arI E a6 0 6 g_5), (mp_arI E a7 0 6 g_6), (mp_arI E a8 0 6 g_7), (mp_arI E a9 3 1500 g_149), (mp_arI E a3 0 90 f2), (mp_ob10 a0 y0 a10 a11 a12 a13 a14 y1 y2 y3 y4 y5 y6 y7 y8 y9 y10 a15 a1 a2 a16 a3 a4 a5 a17 r_4 a6 a7 a8 a9 y12 y13 y14 a18 a19 y15 y16 a20 a21 a22 y17 y18 y19 y20 a23 a24 a25 z_160), (mp_arI E a4 0 300 f3)]
                      show mp_W E X 9 166 [(5, .long z_110), (8, .int i_50), (7, .int i_29), (0, .ref a0), (1, .long x0), (3, .int x1), (4, .int x2)] [] w14_ 0 0
                      refine mp_run mp_k_cX10_draws_ok hF mp_tabX10_ok [mp_c (.iinc 8 1) 1, mp_h (.goto (-135)) [34]] (by decide +kernel) ?_
                      intro z_164 h_165
                      have e_166 : z_164.toInt = i_50.toInt + 1 := mp_add (a := i_50.toInt) (b := 1) h_165 rfl (by decide) (by (first | exact mp_o298 l_x2 c_152 | omega)) (by (first | exact mp_o829 u_x2 c_152 | omega))
                      show mp_W E X 9 34 [(8, .int z_164), (5, .long z_110), (7, .int i_29), (0, .ref a0), (1, .long x0), (3, .int x1), (4, .int x2)] [] w14_ 0 0
                      exact mp_sub [0, 2, 1, 3, 4, 5, 6] rfl [9, 8, 0, 1, 7, 2, 3, 4, 5, 6] rfl rfl (ih_58 (d_57 - 1) (by (first | exact mp_o631 hm_59 q1 c_152 | omega)) z_164 z_110 z_160 g_149 (by (first | exact mp_o605 l_x2 c_152 e_166 | omega)) (by (first | exact mp_o830 u_x2 c_152 e_166 | omega)) (by (first | exact mp_o77 hm_59 e_166 | omega)))
                  · have c_142 : z_137.toInt ≤ z_114.toInt := mp_lc_ge h_141 c_142
                    show mp_W E X 9 127 [(5, .long z_110), (8, .int i_50), (7, .int i_29), (0, .ref a0), (1, .long x0), (3, .int x1), (4, .int x2)] [] w11_ 0 0
                    refine mp_run mp_k_cX10_draws_ok hF mp_tabX10_ok [mp_h (.goto 39) [166], mp_c (.iinc 8 1) 1, mp_h (.goto (-135)) [34]] (by decide +kernel) ?_
                    intro z_167 h_168
                    have e_169 : z_167.toInt = i_50.toInt + 1 := mp_add (a := i_50.toInt) (b := 1) h_168 rfl (by decide) (by (first | exact mp_o2 l_54 | omega)) (by (first | exact mp_o420 u_55 | omega))
                    show mp_W E X 9 34 [(8, .int z_167), (5, .long z_110), (7, .int i_29), (0, .ref a0), (1, .long x0), (3, .int x1), (4, .int x2)] [] w11_ 0 0
                    exact mp_sub [0, 2, 1, 3, 4, 5, 6] rfl [9, 8, 0, 1, 7, 2, 3, 4, 5, 6] rfl rfl (ih_58 (d_57 - 1) (by (first | exact mp_o1454 hm_59 e_63 c_64 | omega)) z_167 z_110 i_52 g_53 (by (first | exact mp_o51 l_54 e_169 | omega)) (by (first | exact mp_o1534 e_169 c_64 e_62 | omega)) (by (first | exact mp_o77 hm_59 e_169 | omega)))
                · skip
                  rw [x_93] at x_104
                  show mp_W E X 9 74 [(8, .int i_50), (7, .int i_29), (5, .long i_51), (0, .ref a0), (1, .long x0), (3, .int x1), (4, .int x2)] [.int 1] w10_ 0 0
                  refine mp_run mp_k_cX10_draws_ok hF mp_tabX10_ok [mp_h (.ifCond .eq 6) [80]] (by decide +kernel) ?_
                  refine And.intro (fun c_170 => absurd c_170 (by decide)) (fun _ => ?_)
                  show mp_W E X 9 77 [(8, .int i_50), (7, .int i_29), (5, .long i_51), (0, .ref a0), (1, .long x0), (3, .int x1), (4, .int x2)] [] w10_ 0 0
                  refine mp_run mp_k_cX10_draws_ok hF mp_tabX10_ok [mp_h (.goto 89) [166], mp_c (.iinc 8 1) 1, mp_h (.goto (-135)) [34]] (by decide +kernel) ?_
                  intro z_171 h_172
                  have e_173 : z_171.toInt = i_50.toInt + 1 := mp_add (a := i_50.toInt) (b := 1) h_172 rfl (by decide) (by (first | exact mp_o2 l_54 | omega)) (by (first | exact mp_o420 u_55 | omega))
                  show mp_W E X 9 34 [(8, .int z_171), (7, .int i_29), (5, .long i_51), (0, .ref a0), (1, .long x0), (3, .int x1), (4, .int x2)] [] w10_ 0 0
                  exact mp_sub [0, 1, 2, 3, 4, 5, 6] rfl [7, 8, 0, 1, 9, 2, 3, 4, 5, 6] rfl rfl (ih_58 (d_57 - 1) (by (first | exact mp_o1454 hm_59 e_63 c_64 | omega)) z_171 i_51 i_52 g_53 (by (first | exact mp_o51 l_54 e_173 | omega)) (by (first | exact mp_o1534 e_173 c_64 e_62 | omega)) (by (first | exact mp_o77 hm_59 e_173 | omega)))
              · skip
                rw [x_74] at x_85
                let w15_ : va_W := [(mp_arI E a1 0 25 f0), (mp_arI E a2 0 180 f1), (mp_arI E a5 0 300 f4), (mp_arI E a6 0 6 g_5), (mp_arI E a7 0 6 g_6), (mp_arI E a8 0 6 g_7), (mp_arI E a9 3 1500 g_53), (mp_arI E a4 0 300 f3), (mp_ob10 a0 y0 a10 a11 a12 a13 a14 y1 y2 y3 y4 y5 y6 y7 y8 y9 y10 a15 a1 a2 a16 a3 a4 a5 a17 r_4 a6 a7 a8 a9 y12 y13 y14 a18 a19 y15 y16 a20 a21 a22 y17 y18 y19 y20 a23 a24 a25 i_52), (mp_arI E a3 0 90 f2)]
                show mp_W E X 9 58 [(8, .int i_50), (7, .int i_29), (5, .long i_51), (0, .ref a0), (1, .long x0), (3, .int x1), (4, .int x2)] [.int 1] w15_ 0 0
                refine mp_run mp_k_cX10_draws_ok hF mp_tabX10_ok [mp_h (.ifCond .ne 108) [166]] (by decide +kernel) ?_
                refine And.intro (fun _ => ?_) (fun c_174 => absurd c_174 (by decide))
                show mp_W E X 9 166 [(8, .int i_50), (7, .int i_29), (5, .long i_51), (0, .ref a0), (1, .long x0), (3, .int x1), (4, .int x2)] [] w15_ 0 0
                refine mp_run mp_k_cX10_draws_ok hF mp_tabX10_ok [mp_c (.iinc 8 1) 1, mp_h (.goto (-135)) [34]] (by decide +kernel) ?_
                intro z_175 h_176
                have e_177 : z_175.toInt = i_50.toInt + 1 := mp_add (a := i_50.toInt) (b := 1) h_176 rfl (by decide) (by (first | exact mp_o2 l_54 | omega)) (by (first | exact mp_o420 u_55 | omega))
                show mp_W E X 9 34 [(8, .int z_175), (7, .int i_29), (5, .long i_51), (0, .ref a0), (1, .long x0), (3, .int x1), (4, .int x2)] [] w15_ 0 0
                exact mp_sub [0, 1, 2, 3, 4, 5, 6] rfl [7, 8, 0, 1, 9, 2, 3, 4, 5, 6] rfl rfl (ih_58 (d_57 - 1) (by (first | exact mp_o1454 hm_59 e_63 c_64 | omega)) z_175 i_51 i_52 g_53 (by (first | exact mp_o51 l_54 e_177 | omega)) (by (first | exact mp_o1534 e_177 c_64 e_62 | omega)) (by (first | exact mp_o77 hm_59 e_177 | omega)))
        exact mp_sub [0, 1, 2, 3, 4, 5, 6] rfl [0, 1, 2, 3, 4, 5, 6, 7, 8, 9] rfl rfl (lp_56 _ 0 i_30 i_31 g_32 (by decide) (by decide) (Int.self_le_toNat _))
  exact mp_sub [0, 1, 2, 3, 4, 5] rfl [0, 1, 2, 3, 4, 5, 6, 7, 8, 9] rfl rfl (lp_35 _ z_26 x0 0 g_8 (by (first | exact mp_o182 l_9 e_28 | omega)) (by (first | exact mp_o831 u_10 e_28 | omega)) (Int.self_le_toNat _))
set_option maxHeartbeats 4000000 in
set_option maxRecDepth 100000 in
theorem bX10_drawn_153 (E : mp_E) (a0 a1 a2 a3 a4 a5 a6 a7 a8 a9 a10 a11 a12 a13 a14 a15 a16 a17 a18 a19 a20 a21 a22 a23 a24 a25 : Nat) (f0 : Nat → Int32) (f1 : Nat → Int32) (f2 : Nat → Int32) (f3 : Nat → Int32) (f4 : Nat → Int32) (f5 : Nat → Int32) (f6 : Nat → Int32) (f7 : Nat → Int32) (f8 : Nat → Int32) (y0 : Int32) (y1 : Int32) (y2 : Int32) (y3 : Int32) (y4 : Int32) (y5 : Int32) (y6 : Int64) (y7 : Int32) (y8 : Int32) (y9 : Int32) (y10 : Int32) (y11 : Int32) (y12 : Int32) (y13 : Int32) (y14 : Int32) (y15 : Int32) (y16 : Int32) (y17 : Int32) (y18 : Int32) (y19 : Int32) (y20 : Int32) (y21 : Int32) (x0 : Int32) (x1 : Int32) (x2 : Int32) (p0 : mp_res f0 25 5 0 0 6) (p1 : mp_res f0 25 5 1 0 99) (p2 : mp_res f0 25 5 2 0 6) (p3 : mp_res f0 25 5 3 0 10) (p4 : mp_res f0 25 5 4 0 60) (p5 : mp_all f1 180 0 20) (p6 : mp_res f2 90 3 0 0 5) (p7 : mp_res f2 90 3 1 (-1) 99) (p8 : mp_res f3 300 6 0 0 5) (p9 : mp_res f3 300 6 1 0 5) (p10 : mp_res f3 300 6 3 0 99) (p11 : mp_res f3 300 6 4 0 1) (p12 : mp_actm f4) (p13 : mp_all f5 6 0 5) (l_y1 : 0 ≤ y1.toInt) (u_y1 : y1.toInt ≤ 1600) (l_y2 : 0 ≤ y2.toInt) (u_y2 : y2.toInt ≤ 1600) (l_y3 : 0 ≤ y3.toInt) (u_y3 : y3.toInt ≤ 4) (l_y4 : 0 ≤ y4.toInt) (u_y4 : y4.toInt ≤ 1600) (l_y11 : 0 ≤ y11.toInt) (u_y11 : y11.toInt ≤ 99) (l_y12 : 0 ≤ y12.toInt) (u_y12 : y12.toInt ≤ 5) (l_y13 : 0 ≤ y13.toInt) (u_y13 : y13.toInt ≤ 12) (q0 : mp_prm f3 (f0 3).toInt) (q1 : (f0 1).toInt + mp_k200 f4 (f0 4).toInt ≤ 99) : mp_Ct E yX10_drawn cX10_drawn 4 (some FieldType.int) 15 0 0 362 [.ref a0, .int x0, .int x1, .int x2] [(mp_ob10 a0 y0 a10 a11 a12 a13 a14 y1 y2 y3 y4 y5 y6 y7 y8 y9 y10 a15 a1 a2 a16 a3 a4 a5 a17 y11 a6 a7 a8 a9 y12 y13 y14 a18 a19 y15 y16 a20 a21 a22 y17 y18 y19 y20 a23 a24 a25 y21), (mp_arI E a1 0 25 f0), (mp_arI E a2 0 180 f1), (mp_arI E a3 0 90 f2), (mp_arI E a4 0 300 f3), (mp_arI E a5 0 300 f4), (mp_arI E a6 0 6 f5), (mp_arI E a7 0 6 f6), (mp_arI E a8 0 6 f7), (mp_arI E a9 3 1500 f8)] (fun v w' => ∃ r1 : Int32, ∃ r2 : Int32, ∃ h3 : Nat → Int32, ∃ h4 : Nat → Int32, ∃ h5 : Nat → Int32, ∃ h6 : Nat → Int32, ∃ r7 : Int32, v = some (.int r7) ∧ 0 ≤ r1.toInt ∧ r1.toInt ≤ 99 ∧ mp_all h3 6 0 5 ∧ w' = [(mp_ob10 a0 0 a10 a11 a12 a13 a14 y1 y2 y3 y4 y5 y6 y7 y8 y9 y10 a15 a1 a2 a16 a3 a4 a5 a17 r1 a6 a7 a8 a9 y12 y13 y14 a18 a19 y15 y16 a20 a21 a22 y17 y18 y19 y20 a23 a24 a25 r2), (mp_arI E a1 0 25 f0), (mp_arI E a2 0 180 f1), (mp_arI E a3 0 90 f2), (mp_arI E a4 0 300 f3), (mp_arI E a5 0 300 f4), (mp_arI E a6 0 6 h3), (mp_arI E a7 0 6 h4), (mp_arI E a8 0 6 h5), (mp_arI E a9 3 1500 h6)]) := by
  refine mp_met false (by decide) (by decide) (Nat.le_of_ble_eq_true rfl) (fun X hF hQ => ?_)
  have hF : mp_F E X (RX10, cX10_drawn, 4, (15, 0, 0, 362), (some FieldType.int), false) := hF
  let w1_ : va_W := [(mp_ob10 a0 y0 a10 a11 a12 a13 a14 y1 y2 y3 y4 y5 y6 y7 y8 y9 y10 a15 a1 a2 a16 a3 a4 a5 a17 y11 a6 a7 a8 a9 y12 y13 y14 a18 a19 y15 y16 a20 a21 a22 y17 y18 y19 y20 a23 a24 a25 y21), (mp_arI E a1 0 25 f0), (mp_arI E a2 0 180 f1), (mp_arI E a3 0 90 f2), (mp_arI E a4 0 300 f3), (mp_arI E a5 0 300 f4), (mp_arI E a6 0 6 f5), (mp_arI E a7 0 6 f6), (mp_arI E a8 0 6 f7), (mp_arI E a9 3 1500 f8)]
  show mp_W E X 4 0 [(0, .ref a0), (1, .int x0), (2, .int x1), (3, .int x2)] [] w1_ 0 0
  refine mp_run mp_k_cX10_drawn_ok hF mp_tabX10_ok [mp_i (.aload_n 0), mp_c (.iconst 0) 0, mp_h (.putfield 92) [0, 0]] (by decide +kernel) ?_
  refine And.intro rfl (And.intro rfl (And.intro rfl (And.intro rfl (And.intro (Nat.le_of_ble_eq_true rfl) ?_))))
  let w2_ : va_W := [(mp_ob10 a0 0 a10 a11 a12 a13 a14 y1 y2 y3 y4 y5 y6 y7 y8 y9 y10 a15 a1 a2 a16 a3 a4 a5 a17 y11 a6 a7 a8 a9 y12 y13 y14 a18 a19 y15 y16 a20 a21 a22 y17 y18 y19 y20 a23 a24 a25 y21), (mp_arI E a1 0 25 f0), (mp_arI E a2 0 180 f1), (mp_arI E a3 0 90 f2), (mp_arI E a4 0 300 f3), (mp_arI E a5 0 300 f4), (mp_arI E a6 0 6 f5), (mp_arI E a7 0 6 f6), (mp_arI E a8 0 6 f7), (mp_arI E a9 3 1500 f8)]
  show mp_W E X 4 5 [(0, .ref a0), (1, .int x0), (2, .int x1), (3, .int x2)] [] w2_ 0 0
  refine mp_run mp_k_cX10_drawn_ok hF mp_tabX10_ok [mp_i (.aload_n 0), mp_i (.iload_n 1), mp_i (.iload_n 2), mp_i (.iload_n 3)] (by decide +kernel) ?_
  show mp_W E X 4 9 [(0, .ref a0), (1, .int x0), (2, .int x1), (3, .int x2)] [.int x2, .int x1, .int x0, .ref a0] w2_ 0 0
  refine mp_callV hF (As := [.int x0, .int x1, .int x2]) (rest := []) (wr := [(mp_arI E a2 0 180 f1), (mp_arI E a3 0 90 f2), (mp_arI E a4 0 300 f3), (mp_arI E a5 0 300 f4), (mp_arI E a6 0 6 f5), (mp_arI E a7 0 6 f6), (mp_arI E a8 0 6 f7), (mp_arI E a9 3 1500 f8)]) (bX10_isDraw_151 E a0 a1 a10 a11 a12 a13 a14 a15 a2 a16 a3 a4 a5 a17 a6 a7 a8 a9 a18 a19 a20 a21 a22 a23 a24 a25 f0 0 y1 y2 y3 y4 y5 y6 y7 y8 y9 y10 y11 y12 y13 y14 y15 y16 y17 y18 y19 y20 y21 x0 x1 x2 p0 p1 p2 p3 p4 l_y1 u_y1 l_y2 u_y2 l_y3 u_y3 l_y4 u_y4 l_y11 u_y11 l_y12 u_y12 l_y13 u_y13) mp_lkX10_467 0 rfl [0, 1] [2, 3, 4, 5, 6, 7, 8, 9] rfl rfl rfl rfl rfl ⟨(Nat.le_of_ble_eq_true rfl), (Nat.le_of_ble_eq_true rfl), (Nat.le_of_ble_eq_true rfl), (Nat.le_of_ble_eq_true rfl)⟩ (Nat.le_of_ble_eq_true rfl) (by first | exact mp_fd_ok mp_k_cX10_drawn_ok (by decide +kernel) | decide +kernel) (fun v_1 w_2 h_3 => ?_)
  refine h_3.elim (fun q_15 => ?_) (fun q_16 => ?_)
  · skip
    refine q_15.elim fun e_17 e_18 => ?_
    clear h_3 q_15
    subst e_17
    subst e_18
    let w3_ : va_W := [(mp_arI E a2 0 180 f1), (mp_arI E a3 0 90 f2), (mp_arI E a4 0 300 f3), (mp_arI E a5 0 300 f4), (mp_arI E a6 0 6 f5), (mp_arI E a7 0 6 f6), (mp_arI E a8 0 6 f7), (mp_arI E a9 3 1500 f8), (mp_ob10 a0 0 a10 a11 a12 a13 a14 y1 y2 y3 y4 y5 y6 y7 y8 y9 y10 a15 a1 a2 a16 a3 a4 a5 a17 y11 a6 a7 a8 a9 y12 y13 y14 a18 a19 y15 y16 a20 a21 a22 y17 y18 y19 y20 a23 a24 a25 y21), (mp_arI E a1 0 25 f0)]
    show mp_W E X 4 12 [(0, .ref a0), (1, .int x0), (2, .int x1), (3, .int x2)] [.int 0] w3_ 0 0
    refine mp_run mp_k_cX10_drawn_ok hF mp_tabX10_ok [mp_h (.ifCond .eq 14) [26]] (by decide +kernel) ?_
    refine And.intro (fun _ => ?_) (fun c_19 => absurd c_19 (by decide))
    show mp_W E X 4 26 [(0, .ref a0), (1, .int x0), (2, .int x1), (3, .int x2)] [] w3_ 0 0
    refine mp_run mp_k_cX10_drawn_ok hF mp_tabX10_ok [mp_c (.bipush (-2)) (-2)] (by decide +kernel) ?_
    show mp_W E X 4 28 [(0, .ref a0), (1, .int x0), (2, .int x1), (3, .int x2)] [.int (-2)] w3_ 0 0
    exact mp_iret hF hQ rfl rfl (Nat.le_of_ble_eq_true rfl) (Nat.le_of_ble_eq_true rfl) [8, 9, 0, 1, 2, 3, 4, 5, 6, 7] (w' := w2_) rfl rfl ⟨y11, y21, f5, f6, f7, f8, (-2), rfl, l_y11, u_y11, p13, rfl⟩ (by first | exact mp_fd_ok mp_k_cX10_drawn_ok (by decide +kernel) | decide +kernel)
  · skip
    refine q_16.elim fun e_20 q_21 => q_21.elim fun c_4 q_22 => q_22.elim fun c_5 q_23 => q_23.elim fun c_6 q_24 => q_24.elim fun c_7 q_25 => q_25.elim fun c_8 q_26 => q_26.elim fun x_9 q_27 => q_27.elim fun x_10 q_28 => q_28.elim fun x_11 q_29 => q_29.elim fun x_12 q_30 => q_30.elim fun x_13 q_31 => q_31.elim fun x_14 e_32 => ?_
    clear h_3 q_16 q_21 q_22 q_23 q_24 q_25 q_26 q_27 q_28 q_29 q_30 q_31
    subst e_20
    subst e_32
    have c_4 : 0 ≤ x0.toInt := c_4
    have c_5 : x0.toInt ≤ 2000000000 := c_5
    have c_6 : 1 ≤ x1.toInt := c_6
    have c_7 : x1.toInt ≤ 40 := c_7
    have c_8 : 0 ≤ x2.toInt := c_8
    let w4_ : va_W := [(mp_arI E a2 0 180 f1), (mp_arI E a3 0 90 f2), (mp_arI E a4 0 300 f3), (mp_arI E a5 0 300 f4), (mp_arI E a6 0 6 f5), (mp_arI E a7 0 6 f6), (mp_arI E a8 0 6 f7), (mp_arI E a9 3 1500 f8), (mp_ob10 a0 0 a10 a11 a12 a13 a14 y1 y2 y3 y4 y5 y6 y7 y8 y9 y10 a15 a1 a2 a16 a3 a4 a5 a17 y11 a6 a7 a8 a9 y12 y13 y14 a18 a19 y15 y16 a20 a21 a22 y17 y18 y19 y20 a23 a24 a25 y21), (mp_arI E a1 0 25 f0)]
    show mp_W E X 4 12 [(0, .ref a0), (1, .int x0), (2, .int x1), (3, .int x2)] [.int 1] w4_ 0 0
    refine mp_run mp_k_cX10_drawn_ok hF mp_tabX10_ok [mp_h (.ifCond .eq 14) [26]] (by decide +kernel) ?_
    refine And.intro (fun c_33 => absurd c_33 (by decide)) (fun _ => ?_)
    show mp_W E X 4 15 [(0, .ref a0), (1, .int x0), (2, .int x1), (3, .int x2)] [] w4_ 0 0
    refine mp_run mp_k_cX10_drawn_ok hF mp_tabX10_ok [mp_i (.aload_n 0), mp_i (.iload_n 1), mp_i .i2l, mp_i (.iload_n 2), mp_i (.iload_n 3)] (by decide +kernel) ?_
    intro z_34 h_35
    have e_36 : z_34.toInt = x0.toInt := mp_i2l h_35
    show mp_W E X 4 20 [(0, .ref a0), (1, .int x0), (2, .int x1), (3, .int x2)] [.int x2, .int x1, .long z_34, .ref a0] w4_ 0 0
    refine mp_callV hF (As := [.long z_34, .int x1, .int x2]) (rest := []) (wr := []) (bX10_draws_152 E a0 a1 a2 a3 a4 a5 a6 a7 a8 a9 a10 a11 a12 a13 a14 a15 a16 a17 a18 a19 a20 a21 a22 a23 a24 a25 f0 f1 f2 f3 f4 f5 f6 f7 f8 0 y1 y2 y3 y4 y5 y6 y7 y8 y9 y10 y11 y12 y13 y14 y15 y16 y17 y18 y19 y20 y21 z_34 x1 x2 p0 p1 p2 p3 p4 p5 p6 p7 p8 p9 p10 p11 p12 p13 (by (first | exact c_6 | omega)) (by (first | exact c_7 | omega)) (by (first | exact c_8 | omega)) (by (first | exact x_13 | omega)) l_y1 u_y1 l_y2 u_y2 l_y3 u_y3 l_y4 u_y4 l_y11 u_y11 l_y12 u_y12 l_y13 u_y13 (by first | assumption | (rw [rfl]; assumption)) (by (first | exact x_14 | omega)) (by (first | exact q1 | omega))) mp_lkX10_470 8 rfl [8, 9, 0, 1, 2, 3, 4, 5, 6, 7] [] rfl rfl rfl rfl rfl ⟨(Nat.le_of_ble_eq_true rfl), (Nat.le_of_ble_eq_true rfl), (Nat.le_of_ble_eq_true rfl), (Nat.le_of_ble_eq_true rfl)⟩ (Nat.le_of_ble_eq_true rfl) (by first | exact mp_fd_ok mp_k_cX10_drawn_ok (by decide +kernel) | decide +kernel) (fun v_37 w_38 h_39 => ?_)
    refine h_39.elim fun r_40 q_50 => q_50.elim fun r_41 q_51 => q_51.elim fun g_42 q_52 => q_52.elim fun g_43 q_53 => q_53.elim fun g_44 q_54 => q_54.elim fun g_45 q_55 => q_55.elim fun r_46 q_56 => q_56.elim fun e_57 q_58 => q_58.elim fun l_47 q_59 => q_59.elim fun u_48 q_60 => q_60.elim fun p_49 e_61 => ?_
    clear h_39 q_50 q_51 q_52 q_53 q_54 q_55 q_56 q_58 q_59 q_60
    subst e_57
    subst e_61
    let w5_ : va_W := [(mp_ob10 a0 0 a10 a11 a12 a13 a14 y1 y2 y3 y4 y5 y6 y7 y8 y9 y10 a15 a1 a2 a16 a3 a4 a5 a17 r_40 a6 a7 a8 a9 y12 y13 y14 a18 a19 y15 y16 a20 a21 a22 y17 y18 y19 y20 a23 a24 a25 r_41), (mp_arI E a1 0 25 f0), (mp_arI E a2 0 180 f1), (mp_arI E a3 0 90 f2), (mp_arI E a4 0 300 f3), (mp_arI E a5 0 300 f4), (mp_arI E a6 0 6 g_42), (mp_arI E a7 0 6 g_43), (mp_arI E a8 0 6 g_44), (mp_arI E a9 3 1500 g_45)]
    show mp_W E X 4 23 [(0, .ref a0), (1, .int x0), (2, .int x1), (3, .int x2)] [.int r_46] w5_ 0 0
    refine mp_run mp_k_cX10_drawn_ok hF mp_tabX10_ok [mp_h (.goto 5) [28]] (by decide +kernel) ?_
    show mp_W E X 4 28 [(0, .ref a0), (1, .int x0), (2, .int x1), (3, .int x2)] [.int r_46] w5_ 0 0
    exact mp_iret hF hQ rfl rfl (Nat.le_of_ble_eq_true rfl) (Nat.le_of_ble_eq_true rfl) [0, 1, 2, 3, 4, 5, 6, 7, 8, 9] (w' := w5_) rfl rfl ⟨r_40, r_41, g_42, g_43, g_44, g_45, r_46, rfl, l_47, u_48, p_49, rfl⟩ (by first | exact mp_fd_ok mp_k_cX10_drawn_ok (by decide +kernel) | decide +kernel)
set_option maxHeartbeats 4000000 in
set_option maxRecDepth 100000 in
theorem bX10_often_154 (E : mp_E) (a0 a1 a2 a3 a4 a5 a6 a7 a8 a9 a10 a11 a12 a13 a14 a15 a16 a17 a18 a19 a20 a21 a22 a23 a24 a25 : Nat) (f0 : Nat → Int32) (f1 : Nat → Int32) (f2 : Nat → Int32) (f3 : Nat → Int32) (f4 : Nat → Int32) (f5 : Nat → Int32) (f6 : Nat → Int32) (f7 : Nat → Int32) (f8 : Nat → Int32) (y0 : Int32) (y1 : Int32) (y2 : Int32) (y3 : Int32) (y4 : Int32) (y5 : Int32) (y6 : Int64) (y7 : Int32) (y8 : Int32) (y9 : Int32) (y10 : Int32) (y11 : Int32) (y12 : Int32) (y13 : Int32) (y14 : Int32) (y15 : Int32) (y16 : Int32) (y17 : Int32) (y18 : Int32) (y19 : Int32) (y20 : Int32) (y21 : Int32) (x0 : Int32) (x1 : Int32) (x2 : Int32) (p0 : mp_res f0 25 5 0 0 6) (p1 : mp_res f0 25 5 1 0 99) (p2 : mp_res f0 25 5 2 0 6) (p3 : mp_res f0 25 5 3 0 10) (p4 : mp_res f0 25 5 4 0 60) (p5 : mp_all f1 180 0 20) (p6 : mp_res f2 90 3 0 0 5) (p7 : mp_res f2 90 3 1 (-1) 99) (p8 : mp_res f3 300 6 0 0 5) (p9 : mp_res f3 300 6 1 0 5) (p10 : mp_res f3 300 6 3 0 99) (p11 : mp_res f3 300 6 4 0 1) (p12 : mp_actm f4) (p13 : mp_all f5 6 0 5) (l_y1 : 0 ≤ y1.toInt) (u_y1 : y1.toInt ≤ 1600) (l_y2 : 0 ≤ y2.toInt) (u_y2 : y2.toInt ≤ 1600) (l_y3 : 0 ≤ y3.toInt) (u_y3 : y3.toInt ≤ 4) (l_y4 : 0 ≤ y4.toInt) (u_y4 : y4.toInt ≤ 1600) (l_y11 : 0 ≤ y11.toInt) (u_y11 : y11.toInt ≤ 99) (l_y12 : 0 ≤ y12.toInt) (u_y12 : y12.toInt ≤ 5) (l_y13 : 0 ≤ y13.toInt) (u_y13 : y13.toInt ≤ 12) (q0 : mp_prm f3 (f0 3).toInt) (q1 : (f0 1).toInt + mp_k200 f4 (f0 4).toInt ≤ 99) : mp_Ct E yX10_often cX10_often 4 (some FieldType.int) 15 0 0 362 [.ref a0, .int x0, .int x1, .int x2] [(mp_ob10 a0 y0 a10 a11 a12 a13 a14 y1 y2 y3 y4 y5 y6 y7 y8 y9 y10 a15 a1 a2 a16 a3 a4 a5 a17 y11 a6 a7 a8 a9 y12 y13 y14 a18 a19 y15 y16 a20 a21 a22 y17 y18 y19 y20 a23 a24 a25 y21), (mp_arI E a1 0 25 f0), (mp_arI E a2 0 180 f1), (mp_arI E a3 0 90 f2), (mp_arI E a4 0 300 f3), (mp_arI E a5 0 300 f4), (mp_arI E a6 0 6 f5), (mp_arI E a7 0 6 f6), (mp_arI E a8 0 6 f7), (mp_arI E a9 3 1500 f8)] (fun v w' => ∃ r1 : Int32, ∃ r2 : Int32, ∃ h3 : Nat → Int32, ∃ h4 : Nat → Int32, ∃ h5 : Nat → Int32, ∃ h6 : Nat → Int32, ∃ r7 : Int32, v = some (.int r7) ∧ 0 ≤ r1.toInt ∧ r1.toInt ≤ 99 ∧ mp_all h3 6 0 5 ∧ w' = [(mp_ob10 a0 0 a10 a11 a12 a13 a14 y1 y2 y3 y4 y5 y6 y7 y8 y9 y10 a15 a1 a2 a16 a3 a4 a5 a17 r1 a6 a7 a8 a9 y12 y13 y14 a18 a19 y15 y16 a20 a21 a22 y17 y18 y19 y20 a23 a24 a25 r2), (mp_arI E a1 0 25 f0), (mp_arI E a2 0 180 f1), (mp_arI E a3 0 90 f2), (mp_arI E a4 0 300 f3), (mp_arI E a5 0 300 f4), (mp_arI E a6 0 6 h3), (mp_arI E a7 0 6 h4), (mp_arI E a8 0 6 h5), (mp_arI E a9 3 1500 h6)]) := by
  refine mp_met false (by decide) (by decide) (Nat.le_of_ble_eq_true rfl) (fun X hF hQ => ?_)
  have hF : mp_F E X (RX10, cX10_often, 4, (15, 0, 0, 362), (some FieldType.int), false) := hF
  let w1_ : va_W := [(mp_ob10 a0 y0 a10 a11 a12 a13 a14 y1 y2 y3 y4 y5 y6 y7 y8 y9 y10 a15 a1 a2 a16 a3 a4 a5 a17 y11 a6 a7 a8 a9 y12 y13 y14 a18 a19 y15 y16 a20 a21 a22 y17 y18 y19 y20 a23 a24 a25 y21), (mp_arI E a1 0 25 f0), (mp_arI E a2 0 180 f1), (mp_arI E a3 0 90 f2), (mp_arI E a4 0 300 f3), (mp_arI E a5 0 300 f4), (mp_arI E a6 0 6 f5), (mp_arI E a7 0 6 f6), (mp_arI E a8 0 6 f7), (mp_arI E a9 3 1500 f8)]
  show mp_W E X 4 0 [(0, .ref a0), (1, .int x0), (2, .int x1), (3, .int x2)] [] w1_ 0 0
  refine mp_run mp_k_cX10_often_ok hF mp_tabX10_ok [mp_i (.aload_n 0), mp_c (.iconst 0) 0, mp_h (.putfield 92) [0, 0]] (by decide +kernel) ?_
  refine And.intro rfl (And.intro rfl (And.intro rfl (And.intro rfl (And.intro (Nat.le_of_ble_eq_true rfl) ?_))))
  let w2_ : va_W := [(mp_ob10 a0 0 a10 a11 a12 a13 a14 y1 y2 y3 y4 y5 y6 y7 y8 y9 y10 a15 a1 a2 a16 a3 a4 a5 a17 y11 a6 a7 a8 a9 y12 y13 y14 a18 a19 y15 y16 a20 a21 a22 y17 y18 y19 y20 a23 a24 a25 y21), (mp_arI E a1 0 25 f0), (mp_arI E a2 0 180 f1), (mp_arI E a3 0 90 f2), (mp_arI E a4 0 300 f3), (mp_arI E a5 0 300 f4), (mp_arI E a6 0 6 f5), (mp_arI E a7 0 6 f6), (mp_arI E a8 0 6 f7), (mp_arI E a9 3 1500 f8)]
  show mp_W E X 4 5 [(0, .ref a0), (1, .int x0), (2, .int x1), (3, .int x2)] [] w2_ 0 0
  refine mp_run mp_k_cX10_often_ok hF mp_tabX10_ok [mp_i (.aload_n 0), mp_i (.iload_n 1), mp_i (.iload_n 2), mp_i (.iload_n 3)] (by decide +kernel) ?_
  show mp_W E X 4 9 [(0, .ref a0), (1, .int x0), (2, .int x1), (3, .int x2)] [.int x2, .int x1, .int x0, .ref a0] w2_ 0 0
  refine mp_callV hF (As := [.int x0, .int x1, .int x2]) (rest := []) (wr := [(mp_arI E a2 0 180 f1), (mp_arI E a3 0 90 f2), (mp_arI E a4 0 300 f3), (mp_arI E a5 0 300 f4), (mp_arI E a6 0 6 f5), (mp_arI E a7 0 6 f6), (mp_arI E a8 0 6 f7), (mp_arI E a9 3 1500 f8)]) (bX10_isDraw_151 E a0 a1 a10 a11 a12 a13 a14 a15 a2 a16 a3 a4 a5 a17 a6 a7 a8 a9 a18 a19 a20 a21 a22 a23 a24 a25 f0 0 y1 y2 y3 y4 y5 y6 y7 y8 y9 y10 y11 y12 y13 y14 y15 y16 y17 y18 y19 y20 y21 x0 x1 x2 p0 p1 p2 p3 p4 l_y1 u_y1 l_y2 u_y2 l_y3 u_y3 l_y4 u_y4 l_y11 u_y11 l_y12 u_y12 l_y13 u_y13) mp_lkX10_467 0 rfl [0, 1] [2, 3, 4, 5, 6, 7, 8, 9] rfl rfl rfl rfl rfl ⟨(Nat.le_of_ble_eq_true rfl), (Nat.le_of_ble_eq_true rfl), (Nat.le_of_ble_eq_true rfl), (Nat.le_of_ble_eq_true rfl)⟩ (Nat.le_of_ble_eq_true rfl) (by first | exact mp_fd_ok mp_k_cX10_often_ok (by decide +kernel) | decide +kernel) (fun v_1 w_2 h_3 => ?_)
  refine h_3.elim (fun q_15 => ?_) (fun q_16 => ?_)
  · skip
    refine q_15.elim fun e_17 e_18 => ?_
    clear h_3 q_15
    subst e_17
    subst e_18
    let w3_ : va_W := [(mp_arI E a2 0 180 f1), (mp_arI E a3 0 90 f2), (mp_arI E a4 0 300 f3), (mp_arI E a5 0 300 f4), (mp_arI E a6 0 6 f5), (mp_arI E a7 0 6 f6), (mp_arI E a8 0 6 f7), (mp_arI E a9 3 1500 f8), (mp_ob10 a0 0 a10 a11 a12 a13 a14 y1 y2 y3 y4 y5 y6 y7 y8 y9 y10 a15 a1 a2 a16 a3 a4 a5 a17 y11 a6 a7 a8 a9 y12 y13 y14 a18 a19 y15 y16 a20 a21 a22 y17 y18 y19 y20 a23 a24 a25 y21), (mp_arI E a1 0 25 f0)]
    show mp_W E X 4 12 [(0, .ref a0), (1, .int x0), (2, .int x1), (3, .int x2)] [.int 0] w3_ 0 0
    refine mp_run mp_k_cX10_often_ok hF mp_tabX10_ok [mp_h (.ifCond .ne 6) [18]] (by decide +kernel) ?_
    refine And.intro (fun c_19 => absurd c_19 (by decide)) (fun _ => ?_)
    show mp_W E X 4 15 [(0, .ref a0), (1, .int x0), (2, .int x1), (3, .int x2)] [] w3_ 0 0
    refine mp_run mp_k_cX10_often_ok hF mp_tabX10_ok [mp_c (.bipush (-2)) (-2)] (by decide +kernel) ?_
    show mp_W E X 4 17 [(0, .ref a0), (1, .int x0), (2, .int x1), (3, .int x2)] [.int (-2)] w3_ 0 0
    exact mp_iret hF hQ rfl rfl (Nat.le_of_ble_eq_true rfl) (Nat.le_of_ble_eq_true rfl) [8, 9, 0, 1, 2, 3, 4, 5, 6, 7] (w' := w2_) rfl rfl ⟨y11, y21, f5, f6, f7, f8, (-2), rfl, l_y11, u_y11, p13, rfl⟩ (by first | exact mp_fd_ok mp_k_cX10_often_ok (by decide +kernel) | decide +kernel)
  · skip
    refine q_16.elim fun e_20 q_21 => q_21.elim fun c_4 q_22 => q_22.elim fun c_5 q_23 => q_23.elim fun c_6 q_24 => q_24.elim fun c_7 q_25 => q_25.elim fun c_8 q_26 => q_26.elim fun x_9 q_27 => q_27.elim fun x_10 q_28 => q_28.elim fun x_11 q_29 => q_29.elim fun x_12 q_30 => q_30.elim fun x_13 q_31 => q_31.elim fun x_14 e_32 => ?_
    clear h_3 q_16 q_21 q_22 q_23 q_24 q_25 q_26 q_27 q_28 q_29 q_30 q_31
    subst e_20
    subst e_32
    have c_4 : 0 ≤ x0.toInt := c_4
    have c_5 : x0.toInt ≤ 2000000000 := c_5
    have c_6 : 1 ≤ x1.toInt := c_6
    have c_7 : x1.toInt ≤ 40 := c_7
    have c_8 : 0 ≤ x2.toInt := c_8
    let w4_ : va_W := [(mp_arI E a2 0 180 f1), (mp_arI E a3 0 90 f2), (mp_arI E a4 0 300 f3), (mp_arI E a5 0 300 f4), (mp_arI E a6 0 6 f5), (mp_arI E a7 0 6 f6), (mp_arI E a8 0 6 f7), (mp_arI E a9 3 1500 f8), (mp_ob10 a0 0 a10 a11 a12 a13 a14 y1 y2 y3 y4 y5 y6 y7 y8 y9 y10 a15 a1 a2 a16 a3 a4 a5 a17 y11 a6 a7 a8 a9 y12 y13 y14 a18 a19 y15 y16 a20 a21 a22 y17 y18 y19 y20 a23 a24 a25 y21), (mp_arI E a1 0 25 f0)]
    show mp_W E X 4 12 [(0, .ref a0), (1, .int x0), (2, .int x1), (3, .int x2)] [.int 1] w4_ 0 0
    refine mp_run mp_k_cX10_often_ok hF mp_tabX10_ok [mp_h (.ifCond .ne 6) [18]] (by decide +kernel) ?_
    refine And.intro (fun _ => ?_) (fun c_33 => absurd c_33 (by decide))
    show mp_W E X 4 18 [(0, .ref a0), (1, .int x0), (2, .int x1), (3, .int x2)] [] w4_ 0 0
    refine mp_run mp_k_cX10_often_ok hF mp_tabX10_ok [mp_i (.aload_n 0), mp_i (.iload_n 1), mp_i .i2l, mp_i (.iload_n 2), mp_i (.iload_n 3)] (by decide +kernel) ?_
    intro z_34 h_35
    have e_36 : z_34.toInt = x0.toInt := mp_i2l h_35
    show mp_W E X 4 23 [(0, .ref a0), (1, .int x0), (2, .int x1), (3, .int x2)] [.int x2, .int x1, .long z_34, .ref a0] w4_ 0 0
    refine mp_callV hF (As := [.long z_34, .int x1, .int x2]) (rest := []) (wr := []) (bX10_draws_152 E a0 a1 a2 a3 a4 a5 a6 a7 a8 a9 a10 a11 a12 a13 a14 a15 a16 a17 a18 a19 a20 a21 a22 a23 a24 a25 f0 f1 f2 f3 f4 f5 f6 f7 f8 0 y1 y2 y3 y4 y5 y6 y7 y8 y9 y10 y11 y12 y13 y14 y15 y16 y17 y18 y19 y20 y21 z_34 x1 x2 p0 p1 p2 p3 p4 p5 p6 p7 p8 p9 p10 p11 p12 p13 (by (first | exact c_6 | omega)) (by (first | exact c_7 | omega)) (by (first | exact c_8 | omega)) (by (first | exact x_13 | omega)) l_y1 u_y1 l_y2 u_y2 l_y3 u_y3 l_y4 u_y4 l_y11 u_y11 l_y12 u_y12 l_y13 u_y13 (by first | assumption | (rw [rfl]; assumption)) (by (first | exact x_14 | omega)) (by (first | exact q1 | omega))) mp_lkX10_470 8 rfl [8, 9, 0, 1, 2, 3, 4, 5, 6, 7] [] rfl rfl rfl rfl rfl ⟨(Nat.le_of_ble_eq_true rfl), (Nat.le_of_ble_eq_true rfl), (Nat.le_of_ble_eq_true rfl), (Nat.le_of_ble_eq_true rfl)⟩ (Nat.le_of_ble_eq_true rfl) (by first | exact mp_fd_ok mp_k_cX10_often_ok (by decide +kernel) | decide +kernel) (fun v_37 w_38 h_39 => ?_)
    refine h_39.elim fun r_40 q_50 => q_50.elim fun r_41 q_51 => q_51.elim fun g_42 q_52 => q_52.elim fun g_43 q_53 => q_53.elim fun g_44 q_54 => q_54.elim fun g_45 q_55 => q_55.elim fun r_46 q_56 => q_56.elim fun e_57 q_58 => q_58.elim fun l_47 q_59 => q_59.elim fun u_48 q_60 => q_60.elim fun p_49 e_61 => ?_
    clear h_39 q_50 q_51 q_52 q_53 q_54 q_55 q_56 q_58 q_59 q_60
    subst e_57
    subst e_61
    let w5_ : va_W := [(mp_ob10 a0 0 a10 a11 a12 a13 a14 y1 y2 y3 y4 y5 y6 y7 y8 y9 y10 a15 a1 a2 a16 a3 a4 a5 a17 r_40 a6 a7 a8 a9 y12 y13 y14 a18 a19 y15 y16 a20 a21 a22 y17 y18 y19 y20 a23 a24 a25 r_41), (mp_arI E a1 0 25 f0), (mp_arI E a2 0 180 f1), (mp_arI E a3 0 90 f2), (mp_arI E a4 0 300 f3), (mp_arI E a5 0 300 f4), (mp_arI E a6 0 6 g_42), (mp_arI E a7 0 6 g_43), (mp_arI E a8 0 6 g_44), (mp_arI E a9 3 1500 g_45)]
    show mp_W E X 4 26 [(0, .ref a0), (1, .int x0), (2, .int x1), (3, .int x2)] [.int r_46] w5_ 0 0
    refine mp_run mp_k_cX10_often_ok hF mp_tabX10_ok [mp_i .pop, mp_i (.aload_n 0), mp_h (.getfield 450) [46, 0]] (by decide +kernel) ?_
    refine And.intro rfl ?_
    refine And.intro rfl (And.intro rfl ?_)
    show mp_W E X 4 31 [(0, .ref a0), (1, .int x0), (2, .int x1), (3, .int x2)] [.int r_41] w5_ 0 0
    exact mp_iret hF hQ rfl rfl (Nat.le_of_ble_eq_true rfl) (Nat.le_of_ble_eq_true rfl) [0, 1, 2, 3, 4, 5, 6, 7, 8, 9] (w' := w5_) rfl rfl ⟨r_40, r_41, g_42, g_43, g_44, g_45, r_41, rfl, l_47, u_48, p_49, rfl⟩ (by first | exact mp_fd_ok mp_k_cX10_often_ok (by decide +kernel) | decide +kernel)
set_option maxHeartbeats 4000000 in
set_option maxRecDepth 100000 in
theorem bX10_lucky_155 (E : mp_E) (a0 a1 a2 a3 a4 a5 a6 a7 a8 a9 a10 a11 a12 a13 a14 a15 a16 a17 a18 a19 a20 a21 a22 a23 a24 a25 : Nat) (f0 : Nat → Int32) (f1 : Nat → Int32) (f2 : Nat → Int32) (f3 : Nat → Int32) (f4 : Nat → Int32) (f5 : Nat → Int32) (f6 : Nat → Int32) (f7 : Nat → Int32) (f8 : Nat → Int32) (y0 : Int32) (y1 : Int32) (y2 : Int32) (y3 : Int32) (y4 : Int32) (y5 : Int32) (y6 : Int64) (y7 : Int32) (y8 : Int32) (y9 : Int32) (y10 : Int32) (y11 : Int32) (y12 : Int32) (y13 : Int32) (y14 : Int32) (y15 : Int32) (y16 : Int32) (y17 : Int32) (y18 : Int32) (y19 : Int32) (y20 : Int32) (y21 : Int32) (x0 : Int32) (x1 : Int32) (x2 : Int32) (x3 : Int32) (p0 : mp_res f0 25 5 0 0 6) (p1 : mp_res f0 25 5 1 0 99) (p2 : mp_res f0 25 5 2 0 6) (p3 : mp_res f0 25 5 3 0 10) (p4 : mp_res f0 25 5 4 0 60) (p5 : mp_all f1 180 0 20) (p6 : mp_res f2 90 3 0 0 5) (p7 : mp_res f2 90 3 1 (-1) 99) (p8 : mp_res f3 300 6 0 0 5) (p9 : mp_res f3 300 6 1 0 5) (p10 : mp_res f3 300 6 3 0 99) (p11 : mp_res f3 300 6 4 0 1) (p12 : mp_actm f4) (p13 : mp_all f5 6 0 5) (l_y1 : 0 ≤ y1.toInt) (u_y1 : y1.toInt ≤ 1600) (l_y2 : 0 ≤ y2.toInt) (u_y2 : y2.toInt ≤ 1600) (l_y3 : 0 ≤ y3.toInt) (u_y3 : y3.toInt ≤ 4) (l_y4 : 0 ≤ y4.toInt) (u_y4 : y4.toInt ≤ 1600) (l_y11 : 0 ≤ y11.toInt) (u_y11 : y11.toInt ≤ 99) (l_y12 : 0 ≤ y12.toInt) (u_y12 : y12.toInt ≤ 5) (l_y13 : 0 ≤ y13.toInt) (u_y13 : y13.toInt ≤ 12) (q0 : mp_prm f3 (f0 3).toInt) (q1 : (f0 1).toInt + mp_k200 f4 (f0 4).toInt ≤ 99) : mp_Ct E yX10_lucky cX10_lucky 7 (some FieldType.int) 15 0 0 362 [.ref a0, .int x0, .int x1, .int x2, .int x3] [(mp_ob10 a0 y0 a10 a11 a12 a13 a14 y1 y2 y3 y4 y5 y6 y7 y8 y9 y10 a15 a1 a2 a16 a3 a4 a5 a17 y11 a6 a7 a8 a9 y12 y13 y14 a18 a19 y15 y16 a20 a21 a22 y17 y18 y19 y20 a23 a24 a25 y21), (mp_arI E a1 0 25 f0), (mp_arI E a2 0 180 f1), (mp_arI E a3 0 90 f2), (mp_arI E a4 0 300 f3), (mp_arI E a5 0 300 f4), (mp_arI E a6 0 6 f5), (mp_arI E a7 0 6 f6), (mp_arI E a8 0 6 f7), (mp_arI E a9 3 1500 f8)] (fun v w' => ∃ r1 : Int32, ∃ r2 : Int32, ∃ h3 : Nat → Int32, ∃ h4 : Nat → Int32, ∃ h5 : Nat → Int32, ∃ h6 : Nat → Int32, ∃ r7 : Int32, v = some (.int r7) ∧ 0 ≤ r1.toInt ∧ r1.toInt ≤ 99 ∧ mp_all h3 6 0 5 ∧ w' = [(mp_ob10 a0 0 a10 a11 a12 a13 a14 y1 y2 y3 y4 y5 y6 y7 y8 y9 y10 a15 a1 a2 a16 a3 a4 a5 a17 r1 a6 a7 a8 a9 y12 y13 y14 a18 a19 y15 y16 a20 a21 a22 y17 y18 y19 y20 a23 a24 a25 r2), (mp_arI E a1 0 25 f0), (mp_arI E a2 0 180 f1), (mp_arI E a3 0 90 f2), (mp_arI E a4 0 300 f3), (mp_arI E a5 0 300 f4), (mp_arI E a6 0 6 h3), (mp_arI E a7 0 6 h4), (mp_arI E a8 0 6 h5), (mp_arI E a9 3 1500 h6)]) := by
  refine mp_met false (by decide) (by decide) (Nat.le_of_ble_eq_true rfl) (fun X hF hQ => ?_)
  have hF : mp_F E X (RX10, cX10_lucky, 7, (15, 0, 0, 362), (some FieldType.int), false) := hF
  let w1_ : va_W := [(mp_ob10 a0 y0 a10 a11 a12 a13 a14 y1 y2 y3 y4 y5 y6 y7 y8 y9 y10 a15 a1 a2 a16 a3 a4 a5 a17 y11 a6 a7 a8 a9 y12 y13 y14 a18 a19 y15 y16 a20 a21 a22 y17 y18 y19 y20 a23 a24 a25 y21), (mp_arI E a1 0 25 f0), (mp_arI E a2 0 180 f1), (mp_arI E a3 0 90 f2), (mp_arI E a4 0 300 f3), (mp_arI E a5 0 300 f4), (mp_arI E a6 0 6 f5), (mp_arI E a7 0 6 f6), (mp_arI E a8 0 6 f7), (mp_arI E a9 3 1500 f8)]
  show mp_W E X 7 0 [(0, .ref a0), (1, .int x0), (2, .int x1), (3, .int x2), (4, .int x3)] [] w1_ 0 0
  refine mp_run mp_k_cX10_lucky_ok hF mp_tabX10_ok [mp_i (.aload_n 0), mp_c (.iconst 0) 0, mp_h (.putfield 92) [0, 0]] (by decide +kernel) ?_
  refine And.intro rfl (And.intro rfl (And.intro rfl (And.intro rfl (And.intro (Nat.le_of_ble_eq_true rfl) ?_))))
  let w2_ : va_W := [(mp_ob10 a0 0 a10 a11 a12 a13 a14 y1 y2 y3 y4 y5 y6 y7 y8 y9 y10 a15 a1 a2 a16 a3 a4 a5 a17 y11 a6 a7 a8 a9 y12 y13 y14 a18 a19 y15 y16 a20 a21 a22 y17 y18 y19 y20 a23 a24 a25 y21), (mp_arI E a1 0 25 f0), (mp_arI E a2 0 180 f1), (mp_arI E a3 0 90 f2), (mp_arI E a4 0 300 f3), (mp_arI E a5 0 300 f4), (mp_arI E a6 0 6 f5), (mp_arI E a7 0 6 f6), (mp_arI E a8 0 6 f7), (mp_arI E a9 3 1500 f8)]
  show mp_W E X 7 5 [(0, .ref a0), (1, .int x0), (2, .int x1), (3, .int x2), (4, .int x3)] [] w2_ 0 0
  refine mp_run mp_k_cX10_lucky_ok hF mp_tabX10_ok [mp_i (.aload_n 0), mp_i (.iload_n 1), mp_i (.iload_n 3), mp_i (.iload 4)] (by decide +kernel) ?_
  show mp_W E X 7 10 [(0, .ref a0), (1, .int x0), (2, .int x1), (3, .int x2), (4, .int x3)] [.int x3, .int x2, .int x0, .ref a0] w2_ 0 0
  refine mp_callV hF (As := [.int x0, .int x2, .int x3]) (rest := []) (wr := [(mp_arI E a2 0 180 f1), (mp_arI E a3 0 90 f2), (mp_arI E a4 0 300 f3), (mp_arI E a5 0 300 f4), (mp_arI E a6 0 6 f5), (mp_arI E a7 0 6 f6), (mp_arI E a8 0 6 f7), (mp_arI E a9 3 1500 f8)]) (bX10_isDraw_151 E a0 a1 a10 a11 a12 a13 a14 a15 a2 a16 a3 a4 a5 a17 a6 a7 a8 a9 a18 a19 a20 a21 a22 a23 a24 a25 f0 0 y1 y2 y3 y4 y5 y6 y7 y8 y9 y10 y11 y12 y13 y14 y15 y16 y17 y18 y19 y20 y21 x0 x2 x3 p0 p1 p2 p3 p4 l_y1 u_y1 l_y2 u_y2 l_y3 u_y3 l_y4 u_y4 l_y11 u_y11 l_y12 u_y12 l_y13 u_y13) mp_lkX10_467 0 rfl [0, 1] [2, 3, 4, 5, 6, 7, 8, 9] rfl rfl rfl rfl rfl ⟨(Nat.le_of_ble_eq_true rfl), (Nat.le_of_ble_eq_true rfl), (Nat.le_of_ble_eq_true rfl), (Nat.le_of_ble_eq_true rfl)⟩ (Nat.le_of_ble_eq_true rfl) (by first | exact mp_fd_ok mp_k_cX10_lucky_ok (by decide +kernel) | decide +kernel) (fun v_1 w_2 h_3 => ?_)
  refine h_3.elim (fun q_15 => ?_) (fun q_16 => ?_)
  · skip
    refine q_15.elim fun e_17 e_18 => ?_
    clear h_3 q_15
    subst e_17
    subst e_18
    let w3_ : va_W := [(mp_arI E a2 0 180 f1), (mp_arI E a3 0 90 f2), (mp_arI E a4 0 300 f3), (mp_arI E a5 0 300 f4), (mp_arI E a6 0 6 f5), (mp_arI E a7 0 6 f6), (mp_arI E a8 0 6 f7), (mp_arI E a9 3 1500 f8), (mp_ob10 a0 0 a10 a11 a12 a13 a14 y1 y2 y3 y4 y5 y6 y7 y8 y9 y10 a15 a1 a2 a16 a3 a4 a5 a17 y11 a6 a7 a8 a9 y12 y13 y14 a18 a19 y15 y16 a20 a21 a22 y17 y18 y19 y20 a23 a24 a25 y21), (mp_arI E a1 0 25 f0)]
    show mp_W E X 7 13 [(0, .ref a0), (1, .int x0), (2, .int x1), (3, .int x2), (4, .int x3)] [.int 0] w3_ 0 0
    refine mp_run mp_k_cX10_lucky_ok hF mp_tabX10_ok [mp_h (.ifCond .eq 15) [28]] (by decide +kernel) ?_
    refine And.intro (fun _ => ?_) (fun c_19 => absurd c_19 (by decide))
    show mp_W E X 7 28 [(0, .ref a0), (1, .int x0), (2, .int x1), (3, .int x2), (4, .int x3)] [] w3_ 0 0
    refine mp_run mp_k_cX10_lucky_ok hF mp_tabX10_ok [mp_c (.bipush (-2)) (-2)] (by decide +kernel) ?_
    show mp_W E X 7 30 [(0, .ref a0), (1, .int x0), (2, .int x1), (3, .int x2), (4, .int x3)] [.int (-2)] w3_ 0 0
    exact mp_iret hF hQ rfl rfl (Nat.le_of_ble_eq_true rfl) (Nat.le_of_ble_eq_true rfl) [8, 9, 0, 1, 2, 3, 4, 5, 6, 7] (w' := w2_) rfl rfl ⟨y11, y21, f5, f6, f7, f8, (-2), rfl, l_y11, u_y11, p13, rfl⟩ (by first | exact mp_fd_ok mp_k_cX10_lucky_ok (by decide +kernel) | decide +kernel)
  · skip
    refine q_16.elim fun e_20 q_21 => q_21.elim fun c_4 q_22 => q_22.elim fun c_5 q_23 => q_23.elim fun c_6 q_24 => q_24.elim fun c_7 q_25 => q_25.elim fun c_8 q_26 => q_26.elim fun x_9 q_27 => q_27.elim fun x_10 q_28 => q_28.elim fun x_11 q_29 => q_29.elim fun x_12 q_30 => q_30.elim fun x_13 q_31 => q_31.elim fun x_14 e_32 => ?_
    clear h_3 q_16 q_21 q_22 q_23 q_24 q_25 q_26 q_27 q_28 q_29 q_30 q_31
    subst e_20
    subst e_32
    have c_4 : 0 ≤ x0.toInt := c_4
    have c_5 : x0.toInt ≤ 2000000000 := c_5
    have c_6 : 1 ≤ x2.toInt := c_6
    have c_7 : x2.toInt ≤ 40 := c_7
    have c_8 : 0 ≤ x3.toInt := c_8
    let w4_ : va_W := [(mp_arI E a2 0 180 f1), (mp_arI E a3 0 90 f2), (mp_arI E a4 0 300 f3), (mp_arI E a5 0 300 f4), (mp_arI E a6 0 6 f5), (mp_arI E a7 0 6 f6), (mp_arI E a8 0 6 f7), (mp_arI E a9 3 1500 f8), (mp_ob10 a0 0 a10 a11 a12 a13 a14 y1 y2 y3 y4 y5 y6 y7 y8 y9 y10 a15 a1 a2 a16 a3 a4 a5 a17 y11 a6 a7 a8 a9 y12 y13 y14 a18 a19 y15 y16 a20 a21 a22 y17 y18 y19 y20 a23 a24 a25 y21), (mp_arI E a1 0 25 f0)]
    show mp_W E X 7 13 [(0, .ref a0), (1, .int x0), (2, .int x1), (3, .int x2), (4, .int x3)] [.int 1] w4_ 0 0
    refine mp_run mp_k_cX10_lucky_ok hF mp_tabX10_ok [mp_h (.ifCond .eq 15) [28]] (by decide +kernel) ?_
    refine And.intro (fun c_33 => absurd c_33 (by decide)) (fun _ => ?_)
    show mp_W E X 7 16 [(0, .ref a0), (1, .int x0), (2, .int x1), (3, .int x2), (4, .int x3)] [] w4_ 0 0
    refine mp_run mp_k_cX10_lucky_ok hF mp_tabX10_ok [mp_i (.iload_n 2), mp_i .i2l, mp_cl (.lconst 1) 1, mp_cl (.ldc2_w 400) 20] (by decide +kernel) ?_
    intro z_34 h_35
    have e_36 : z_34.toInt = x1.toInt := mp_i2l h_35
    show mp_W E X 7 22 [(0, .ref a0), (1, .int x0), (2, .int x1), (3, .int x2), (4, .int x3)] [.long 20, .long 1, .long z_34] w4_ 0 0
    refine mp_callS hF (As := [.long z_34, .long 1, .long 20]) (rest := []) (wr := w4_) (bX10_in_0 E z_34 1 20) mp_lkX10_97 [] [0, 1, 2, 3, 4, 5, 6, 7, 8, 9] rfl rfl rfl rfl rfl ⟨(Nat.le_of_ble_eq_true rfl), (Nat.le_of_ble_eq_true rfl), (Nat.le_of_ble_eq_true rfl), (Nat.le_of_ble_eq_true rfl)⟩ (Nat.le_of_ble_eq_true rfl) (by first | exact mp_fd_ok mp_k_cX10_lucky_ok (by decide +kernel) | decide +kernel) (fun v_37 w_38 h_39 => ?_)
    rcases h_39 with ⟨rfl, x_40, rfl⟩ | ⟨rfl, c_41, c_42, rfl⟩
    · skip
      have i_43 : (1 : Int64).toInt = 1 := by decide
      have i_44 : (20 : Int64).toInt = 20 := by decide
      show mp_W E X 7 25 [(0, .ref a0), (1, .int x0), (2, .int x1), (3, .int x2), (4, .int x3)] [.int 0] w4_ 0 0
      refine mp_run mp_k_cX10_lucky_ok hF mp_tabX10_ok [mp_h (.ifCond .ne 6) [31]] (by decide +kernel) ?_
      refine And.intro (fun c_45 => absurd c_45 (by decide)) (fun _ => ?_)
      show mp_W E X 7 28 [(0, .ref a0), (1, .int x0), (2, .int x1), (3, .int x2), (4, .int x3)] [] w4_ 0 0
      refine mp_run mp_k_cX10_lucky_ok hF mp_tabX10_ok [mp_c (.bipush (-2)) (-2)] (by decide +kernel) ?_
      show mp_W E X 7 30 [(0, .ref a0), (1, .int x0), (2, .int x1), (3, .int x2), (4, .int x3)] [.int (-2)] w4_ 0 0
      exact mp_iret hF hQ rfl rfl (Nat.le_of_ble_eq_true rfl) (Nat.le_of_ble_eq_true rfl) [8, 9, 0, 1, 2, 3, 4, 5, 6, 7] (w' := w2_) rfl rfl ⟨y11, y21, f5, f6, f7, f8, (-2), rfl, l_y11, u_y11, p13, rfl⟩ (by first | exact mp_fd_ok mp_k_cX10_lucky_ok (by decide +kernel) | decide +kernel)
    · skip
      have c_41 : 1 ≤ z_34.toInt := c_41
      have c_42 : z_34.toInt ≤ 20 := c_42
      have i_46 : (1 : Int64).toInt = 1 := by decide
      have i_47 : (20 : Int64).toInt = 20 := by decide
      show mp_W E X 7 25 [(0, .ref a0), (1, .int x0), (2, .int x1), (3, .int x2), (4, .int x3)] [.int 1] w4_ 0 0
      refine mp_run mp_k_cX10_lucky_ok hF mp_tabX10_ok [mp_h (.ifCond .ne 6) [31]] (by decide +kernel) ?_
      refine And.intro (fun _ => ?_) (fun c_48 => absurd c_48 (by decide))
      show mp_W E X 7 31 [(0, .ref a0), (1, .int x0), (2, .int x1), (3, .int x2), (4, .int x3)] [] w4_ 0 0
      refine mp_run mp_k_cX10_lucky_ok hF mp_tabX10_ok [mp_c (.iconst 0) 0, mp_i (.istore 5), mp_c (.iconst 0) 0, mp_i (.istore 6)] (by decide +kernel) ?_
      show mp_W E X 7 37 [(6, .int 0), (5, .int 0), (0, .ref a0), (1, .int x0), (2, .int x1), (3, .int x2), (4, .int x3)] [] w4_ 0 0
      have lp_62 : ∀ (d_63 : Nat) (i_49 : Int32) (g_50 : Nat → Int32) (g_51 : Nat → Int32) (g_52 : Nat → Int32) (g_53 : Nat → Int32) (i_54 : Int32) (i_55 : Int32) (i_56 : Int32), 0 ≤ i_49.toInt → i_49.toInt ≤ 20 → mp_all g_50 6 0 5 → 0 ≤ i_54.toInt → i_54.toInt ≤ 99 → x1.toInt - i_49.toInt ≤ (d_63 : Int) → mp_W E X 7 37 [(6, .int i_49), (5, .int i_56), (0, .ref a0), (1, .int x0), (2, .int x1), (3, .int x2), (4, .int x3)] [] [(mp_arI E a2 0 180 f1), (mp_arI E a3 0 90 f2), (mp_arI E a4 0 300 f3), (mp_arI E a5 0 300 f4), (mp_arI E a6 0 6 g_50), (mp_arI E a7 0 6 g_51), (mp_arI E a8 0 6 g_52), (mp_arI E a9 3 1500 g_53), (mp_ob10 a0 0 a10 a11 a12 a13 a14 y1 y2 y3 y4 y5 y6 y7 y8 y9 y10 a15 a1 a2 a16 a3 a4 a5 a17 i_54 a6 a7 a8 a9 y12 y13 y14 a18 a19 y15 y16 a20 a21 a22 y17 y18 y19 y20 a23 a24 a25 i_55), (mp_arI E a1 0 25 f0)] 0 0 := by
        intro d_63
        induction d_63 using Nat.strongRecOn with
        | ind d_63 ih_64 =>
          intro i_49 g_50 g_51 g_52 g_53 i_54 i_55 i_56 l_57 u_58 p_59 l_60 u_61 hm_65
          refine mp_run mp_k_cX10_lucky_ok hF mp_tabX10_ok [mp_i (.iload 6), mp_i (.iload_n 2), mp_h (.if_icmp .ge 44) [84]] (by decide +kernel) ?_
          refine And.intro (fun c_66 => ?_) (fun c_66 => ?_)
          · have c_66 : x1.toInt ≤ i_49.toInt := c_66
            let w5_ : va_W := [(mp_arI E a2 0 180 f1), (mp_arI E a3 0 90 f2), (mp_arI E a4 0 300 f3), (mp_arI E a5 0 300 f4), (mp_arI E a6 0 6 g_50), (mp_arI E a7 0 6 g_51), (mp_arI E a8 0 6 g_52), (mp_arI E a9 3 1500 g_53), (mp_ob10 a0 0 a10 a11 a12 a13 a14 y1 y2 y3 y4 y5 y6 y7 y8 y9 y10 a15 a1 a2 a16 a3 a4 a5 a17 i_54 a6 a7 a8 a9 y12 y13 y14 a18 a19 y15 y16 a20 a21 a22 y17 y18 y19 y20 a23 a24 a25 i_55), (mp_arI E a1 0 25 f0)]
            show mp_W E X 7 84 [(6, .int i_49), (5, .int i_56), (0, .ref a0), (1, .int x0), (2, .int x1), (3, .int x2), (4, .int x3)] [] w5_ 0 0
            refine mp_run mp_k_cX10_lucky_ok hF mp_tabX10_ok [mp_i (.iload 5)] (by decide +kernel) ?_
            show mp_W E X 7 86 [(6, .int i_49), (5, .int i_56), (0, .ref a0), (1, .int x0), (2, .int x1), (3, .int x2), (4, .int x3)] [.int i_56] w5_ 0 0
            exact mp_iret hF hQ rfl rfl (Nat.le_of_ble_eq_true rfl) (Nat.le_of_ble_eq_true rfl) [8, 9, 0, 1, 2, 3, 4, 5, 6, 7] (w' := [(mp_ob10 a0 0 a10 a11 a12 a13 a14 y1 y2 y3 y4 y5 y6 y7 y8 y9 y10 a15 a1 a2 a16 a3 a4 a5 a17 i_54 a6 a7 a8 a9 y12 y13 y14 a18 a19 y15 y16 a20 a21 a22 y17 y18 y19 y20 a23 a24 a25 i_55), (mp_arI E a1 0 25 f0), (mp_arI E a2 0 180 f1), (mp_arI E a3 0 90 f2), (mp_arI E a4 0 300 f3), (mp_arI E a5 0 300 f4), (mp_arI E a6 0 6 g_50), (mp_arI E a7 0 6 g_51), (mp_arI E a8 0 6 g_52), (mp_arI E a9 3 1500 g_53)]) rfl rfl ⟨i_54, i_55, g_50, g_51, g_52, g_53, i_56, rfl, l_60, u_61, p_59, rfl⟩ (by first | exact mp_fd_ok mp_k_cX10_lucky_ok (by decide +kernel) | decide +kernel)
          · have c_66 : i_49.toInt < x1.toInt := c_66
            let w6_ : va_W := [(mp_arI E a2 0 180 f1), (mp_arI E a3 0 90 f2), (mp_arI E a4 0 300 f3), (mp_arI E a5 0 300 f4), (mp_arI E a6 0 6 g_50), (mp_arI E a7 0 6 g_51), (mp_arI E a8 0 6 g_52), (mp_arI E a9 3 1500 g_53), (mp_ob10 a0 0 a10 a11 a12 a13 a14 y1 y2 y3 y4 y5 y6 y7 y8 y9 y10 a15 a1 a2 a16 a3 a4 a5 a17 i_54 a6 a7 a8 a9 y12 y13 y14 a18 a19 y15 y16 a20 a21 a22 y17 y18 y19 y20 a23 a24 a25 i_55), (mp_arI E a1 0 25 f0)]
            show mp_W E X 7 43 [(6, .int i_49), (5, .int i_56), (0, .ref a0), (1, .int x0), (2, .int x1), (3, .int x2), (4, .int x3)] [] w6_ 0 0
            refine mp_run mp_k_cX10_lucky_ok hF mp_tabX10_ok [mp_i (.iload 5), mp_c (.iconst 2) 2, mp_i (.aload_n 0), mp_i (.iload_n 1), mp_i .i2l, mp_i (.iload 6), mp_i .i2l, mp_i .ladd, mp_i (.iload_n 3), mp_i (.iload 4)] (by decide +kernel) ?_
            intro z_67 h_68
            have e_69 : z_67.toInt = x0.toInt := mp_i2l h_68
            intro z_70 h_71
            have e_72 : z_70.toInt = i_49.toInt := mp_i2l h_71
            intro z_73 h_74
            have e_75 := mp_bnd x0
            have e_76 := mp_bnd i_49
            have e_77 : z_73.toInt = z_67.toInt + z_70.toInt := mp_ladd (a := z_67.toInt) (b := z_70.toInt) h_74 rfl rfl (by (first | exact mp_o895 c_4 e_69 l_57 e_72 | omega)) (by (first | exact mp_o1863 u_58 e_72 c_5 e_69 | omega))
            show mp_W E X 7 56 [(6, .int i_49), (5, .int i_56), (0, .ref a0), (1, .int x0), (2, .int x1), (3, .int x2), (4, .int x3)] [.int x3, .int x2, .long z_73, .ref a0, .int 2, .int i_56] w6_ 0 0
            refine mp_callV hF (As := [.long z_73, .int x2, .int x3]) (rest := [.int 2, .int i_56]) (wr := []) (bX10_draws_152 E a0 a1 a2 a3 a4 a5 a6 a7 a8 a9 a10 a11 a12 a13 a14 a15 a16 a17 a18 a19 a20 a21 a22 a23 a24 a25 f0 f1 f2 f3 f4 g_50 g_51 g_52 g_53 0 y1 y2 y3 y4 y5 y6 y7 y8 y9 y10 i_54 y12 y13 y14 y15 y16 y17 y18 y19 y20 i_55 z_73 x2 x3 p0 p1 p2 p3 p4 p5 p6 p7 p8 p9 p10 p11 p12 p_59 (by (first | exact c_6 | omega)) (by (first | exact c_7 | omega)) (by (first | exact c_8 | omega)) (by (first | exact x_13 | omega)) l_y1 u_y1 l_y2 u_y2 l_y3 u_y3 l_y4 u_y4 l_60 u_61 l_y12 u_y12 l_y13 u_y13 (by first | assumption | (rw [rfl]; assumption)) (by (first | exact x_14 | omega)) (by (first | exact q1 | omega))) mp_lkX10_470 8 rfl [8, 9, 0, 1, 2, 3, 4, 5, 6, 7] [] rfl rfl rfl rfl rfl ⟨(Nat.le_of_ble_eq_true rfl), (Nat.le_of_ble_eq_true rfl), (Nat.le_of_ble_eq_true rfl), (Nat.le_of_ble_eq_true rfl)⟩ (Nat.le_of_ble_eq_true rfl) (by first | exact mp_fd_ok mp_k_cX10_lucky_ok (by decide +kernel) | decide +kernel) (fun v_78 w_79 h_80 => ?_)
            refine h_80.elim fun r_81 q_91 => q_91.elim fun r_82 q_92 => q_92.elim fun g_83 q_93 => q_93.elim fun g_84 q_94 => q_94.elim fun g_85 q_95 => q_95.elim fun g_86 q_96 => q_96.elim fun r_87 q_97 => q_97.elim fun e_98 q_99 => q_99.elim fun l_88 q_100 => q_100.elim fun u_89 q_101 => q_101.elim fun p_90 e_102 => ?_
            clear h_80 q_91 q_92 q_93 q_94 q_95 q_96 q_97 q_99 q_100 q_101
            subst e_98
            subst e_102
            let w7_ : va_W := [(mp_ob10 a0 0 a10 a11 a12 a13 a14 y1 y2 y3 y4 y5 y6 y7 y8 y9 y10 a15 a1 a2 a16 a3 a4 a5 a17 r_81 a6 a7 a8 a9 y12 y13 y14 a18 a19 y15 y16 a20 a21 a22 y17 y18 y19 y20 a23 a24 a25 r_82), (mp_arI E a1 0 25 f0), (mp_arI E a2 0 180 f1), (mp_arI E a3 0 90 f2), (mp_arI E a4 0 300 f3), (mp_arI E a5 0 300 f4), (mp_arI E a6 0 6 g_83), (mp_arI E a7 0 6 g_84), (mp_arI E a8 0 6 g_85), (mp_arI E a9 3 1500 g_86)]
            show mp_W E X 7 59 [(6, .int i_49), (5, .int i_56), (0, .ref a0), (1, .int x0), (2, .int x1), (3, .int x2), (4, .int x3)] [.int r_87, .int 2, .int i_56] w7_ 0 0
            refine mp_run mp_k_cX10_lucky_ok hF mp_tabX10_ok [mp_i .imul, mp_i (.aload_n 0), mp_i (.iload 4), mp_c (.iconst 2) 2] (by decide +kernel) ?_
            intro z_103 h_104
            show mp_W E X 7 64 [(6, .int i_49), (5, .int i_56), (0, .ref a0), (1, .int x0), (2, .int x1), (3, .int x2), (4, .int x3)] [.int 2, .int x3, .ref a0, .int z_103, .int i_56] w7_ 0 0
            refine mp_callV hF (As := [.int x3, .int 2]) (rest := [.int z_103, .int i_56]) (wr := [(mp_arI E a1 0 25 f0), (mp_arI E a2 0 180 f1), (mp_arI E a3 0 90 f2), (mp_arI E a5 0 300 f4), (mp_arI E a6 0 6 g_83), (mp_arI E a7 0 6 g_84), (mp_arI E a8 0 6 g_85), (mp_arI E a9 3 1500 g_86)]) (bX10_of_70 E a0 a4 a10 a11 a12 a13 a14 a15 a1 a2 a16 a3 a5 a17 a6 a7 a8 a9 a18 a19 a20 a21 a22 a23 a24 a25 f3 0 y1 y2 y3 y4 y5 y6 y7 y8 y9 y10 r_81 y12 y13 y14 y15 y16 y17 y18 y19 y20 r_82 x3 p8 p9 p10 p11 (by (first | exact c_8 | omega)) (by (first | exact x_13 | omega)) l_y1 u_y1 l_y2 u_y2 l_y3 u_y3 l_y4 u_y4 l_88 u_89 l_y12 u_y12 l_y13 u_y13) mp_lkX10_267 0 rfl [0, 4] [1, 2, 3, 5, 6, 7, 8, 9] rfl rfl rfl rfl rfl ⟨(Nat.le_of_ble_eq_true rfl), (Nat.le_of_ble_eq_true rfl), (Nat.le_of_ble_eq_true rfl), (Nat.le_of_ble_eq_true rfl)⟩ (Nat.le_of_ble_eq_true rfl) (by first | exact mp_fd_ok mp_k_cX10_lucky_ok (by decide +kernel) | decide +kernel) (fun v_106 w_107 h_108 => ?_)
            obtain ⟨r_109, rfl, x_110, rfl⟩ := h_108
            let w8_ : va_W := [(mp_arI E a1 0 25 f0), (mp_arI E a2 0 180 f1), (mp_arI E a3 0 90 f2), (mp_arI E a5 0 300 f4), (mp_arI E a6 0 6 g_83), (mp_arI E a7 0 6 g_84), (mp_arI E a8 0 6 g_85), (mp_arI E a9 3 1500 g_86), (mp_ob10 a0 0 a10 a11 a12 a13 a14 y1 y2 y3 y4 y5 y6 y7 y8 y9 y10 a15 a1 a2 a16 a3 a4 a5 a17 r_81 a6 a7 a8 a9 y12 y13 y14 a18 a19 y15 y16 a20 a21 a22 y17 y18 y19 y20 a23 a24 a25 r_82), (mp_arI E a4 0 300 f3)]
            show mp_W E X 7 67 [(6, .int i_49), (5, .int i_56), (0, .ref a0), (1, .int x0), (2, .int x1), (3, .int x2), (4, .int x3)] [.int r_109, .int z_103, .int i_56] w8_ 0 0
            refine mp_run mp_k_cX10_lucky_ok hF mp_tabX10_ok [mp_h (.if_icmp .lt 7) [74]] (by decide +kernel) ?_
            refine And.intro (fun c_111 => ?_) (fun c_111 => ?_)
            · have c_111 : z_103.toInt < r_109.toInt := c_111
              show mp_W E X 7 74 [(6, .int i_49), (5, .int i_56), (0, .ref a0), (1, .int x0), (2, .int x1), (3, .int x2), (4, .int x3)] [.int i_56] w8_ 0 0
              refine mp_run mp_k_cX10_lucky_ok hF mp_tabX10_ok [mp_c (.iconst 0) 0, mp_i .iadd, mp_i (.istore 5), mp_c (.iinc 6 1) 1, mp_h (.goto (-44)) [37]] (by decide +kernel) ?_
              intro z_112 h_113
              have e_114 := mp_bnd i_56
              have e_115 : z_112.toInt = i_56.toInt + 0 := mp_add (a := i_56.toInt) (b := 0) h_113 rfl (by decide) (by (first | exact mp_o827 e_114 | omega)) (by (first | exact mp_o828 e_114 | omega))
              intro z_116 h_117
              have e_118 : z_116.toInt = i_49.toInt + 1 := mp_add (a := i_49.toInt) (b := 1) h_117 rfl (by decide) (by (first | exact mp_o2 l_57 | omega)) (by (first | exact mp_o612 u_58 | omega))
              show mp_W E X 7 37 [(6, .int z_116), (5, .int z_112), (0, .ref a0), (1, .int x0), (2, .int x1), (3, .int x2), (4, .int x3)] [] w8_ 0 0
              exact mp_sub [0, 1, 2, 3, 4, 5, 6] rfl [1, 2, 9, 3, 4, 5, 6, 7, 8, 0] rfl rfl (ih_64 (d_63 - 1) (by (first | exact mp_o72 hm_65 c_66 | omega)) z_116 g_83 g_84 g_85 g_86 r_81 r_82 z_112 (by (first | exact mp_o51 l_57 e_118 | omega)) (by (first | exact mp_o1864 i_47 c_42 e_118 e_36 c_66 | omega)) p_90 l_88 u_89 (by (first | exact mp_o77 hm_65 e_118 | omega)))
            · have c_111 : r_109.toInt ≤ z_103.toInt := c_111
              show mp_W E X 7 70 [(6, .int i_49), (5, .int i_56), (0, .ref a0), (1, .int x0), (2, .int x1), (3, .int x2), (4, .int x3)] [.int i_56] w8_ 0 0
              refine mp_run mp_k_cX10_lucky_ok hF mp_tabX10_ok [mp_c (.iconst 1) 1, mp_h (.goto 4) [75], mp_i .iadd, mp_i (.istore 5), mp_c (.iinc 6 1) 1, mp_h (.goto (-44)) [37]] (by decide +kernel) ?_
              intro z_119 h_120
              have e_121 := mp_bnd i_56
              intro z_123 h_124
              have e_125 : z_123.toInt = i_49.toInt + 1 := mp_add (a := i_49.toInt) (b := 1) h_124 rfl (by decide) (by (first | exact mp_o2 l_57 | omega)) (by (first | exact mp_o612 u_58 | omega))
              show mp_W E X 7 37 [(6, .int z_123), (5, .int z_119), (0, .ref a0), (1, .int x0), (2, .int x1), (3, .int x2), (4, .int x3)] [] w8_ 0 0
              exact mp_sub [0, 1, 2, 3, 4, 5, 6] rfl [1, 2, 9, 3, 4, 5, 6, 7, 8, 0] rfl rfl (ih_64 (d_63 - 1) (by (first | exact mp_o72 hm_65 c_66 | omega)) z_123 g_83 g_84 g_85 g_86 r_81 r_82 z_119 (by (first | exact mp_o51 l_57 e_125 | omega)) (by (first | exact mp_o1864 i_47 c_42 e_125 e_36 c_66 | omega)) p_90 l_88 u_89 (by (first | exact mp_o77 hm_65 e_125 | omega)))
      exact mp_sub [0, 1, 2, 3, 4, 5, 6] rfl [0, 1, 2, 3, 4, 5, 6, 7, 8, 9] rfl rfl (lp_62 _ 0 f5 f6 f7 f8 y11 y21 0 (by decide) (by decide) p13 l_y11 u_y11 (Int.self_le_toNat _))
