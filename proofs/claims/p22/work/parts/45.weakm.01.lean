set_option maxHeartbeats 4000000 in
set_option maxRecDepth 100000 in
theorem bX10_sea_59 (E : mp_E) (a0 a1 a2 a3 a4 a5 a6 a7 a8 a9 a10 a11 a12 a13 a14 a15 a16 a17 a18 a19 a20 a21 a22 a23 a24 a25 : Nat) (f0 : Nat → Int32) (f1 : Nat → Int32) (y0 : Int32) (y1 : Int32) (y2 : Int32) (y3 : Int32) (y4 : Int32) (y5 : Int32) (y6 : Int64) (y7 : Int32) (y8 : Int32) (y9 : Int32) (y10 : Int32) (y11 : Int32) (y12 : Int32) (y13 : Int32) (y14 : Int32) (y15 : Int32) (y16 : Int32) (y17 : Int32) (y18 : Int32) (y19 : Int32) (y20 : Int32) (y21 : Int32) (x0 : Int32) (x1 : Int32) (p0 : mp_res f0 25 5 0 0 6) (p1 : mp_res f0 25 5 1 0 99) (p2 : mp_res f0 25 5 2 0 6) (p3 : mp_res f0 25 5 3 0 10) (p4 : mp_res f0 25 5 4 0 60) (p5 : mp_all f1 180 0 20) (l_y1 : 0 ≤ y1.toInt) (u_y1 : y1.toInt ≤ 1600) (l_y2 : 0 ≤ y2.toInt) (u_y2 : y2.toInt ≤ 1600) (l_y3 : 0 ≤ y3.toInt) (u_y3 : y3.toInt ≤ 4) (l_y4 : 0 ≤ y4.toInt) (u_y4 : y4.toInt ≤ 1600) (l_y11 : 0 ≤ y11.toInt) (u_y11 : y11.toInt ≤ 99) (l_y12 : 0 ≤ y12.toInt) (u_y12 : y12.toInt ≤ 5) (l_y13 : 0 ≤ y13.toInt) (u_y13 : y13.toInt ≤ 12) : mp_Ct E yX10_sea cX10_sea 3 (some FieldType.int) 2 0 0 46 [.ref a0, .int x0, .int x1] [(mp_ob10 a0 y0 a3 a4 a5 a6 a7 y1 y2 y3 y4 y5 y6 y7 y8 y9 y10 a8 a1 a2 a9 a10 a11 a12 a13 y11 a14 a15 a16 a17 y12 y13 y14 a18 a19 y15 y16 a20 a21 a22 y17 y18 y19 y20 a23 a24 a25 y21), (mp_arI E a1 0 25 f0), (mp_arI E a2 0 180 f1)] (fun v w' => ∃ r1 : Int32, v = some (.int r1) ∧ (-2) ≤ r1.toInt ∧ r1.toInt ≤ 20 ∧ (((x0.toInt < 0 ∨ (f0 0).toInt ≤ x0.toInt ∨ x1.toInt < 0 ∨ (f0 0).toInt ≤ x1.toInt ∨ x0.toInt = x1.toInt) ∧ r1.toInt = -2) ∨ ((0 ≤ x0.toInt ∧ x0.toInt < (f0 0).toInt ∧ 0 ≤ x1.toInt ∧ x1.toInt < (f0 0).toInt ∧ x0.toInt ≠ x1.toInt) ∧ r1.toInt = (f1 (6 * x0.toInt + x1.toInt).toNat).toInt)) ∧ w' = [(mp_ob10 a0 0 a3 a4 a5 a6 a7 y1 y2 y3 y4 y5 y6 y7 y8 y9 y10 a8 a1 a2 a9 a10 a11 a12 a13 y11 a14 a15 a16 a17 y12 y13 y14 a18 a19 y15 y16 a20 a21 a22 y17 y18 y19 y20 a23 a24 a25 y21), (mp_arI E a1 0 25 f0), (mp_arI E a2 0 180 f1)]) := by
  refine mp_met false (by decide) (by decide) (Nat.le_of_ble_eq_true rfl) (fun X hF hQ => ?_)
  have hF : mp_F E X (RX10, cX10_sea, 3, (2, 0, 0, 46), (some FieldType.int), false) := hF
  let w1_ : va_W := [(mp_ob10 a0 y0 a3 a4 a5 a6 a7 y1 y2 y3 y4 y5 y6 y7 y8 y9 y10 a8 a1 a2 a9 a10 a11 a12 a13 y11 a14 a15 a16 a17 y12 y13 y14 a18 a19 y15 y16 a20 a21 a22 y17 y18 y19 y20 a23 a24 a25 y21), (mp_arI E a1 0 25 f0), (mp_arI E a2 0 180 f1)]
  show mp_W E X 3 0 [(0, .ref a0), (1, .int x0), (2, .int x1)] [] w1_ 0 0
  refine mp_run mp_k_cX10_sea_ok hF mp_tabX10_ok [mp_i (.aload_n 0), mp_c (.iconst 0) 0, mp_h (.putfield 92) [0, 0]] (by decide +kernel) ?_
  refine And.intro rfl (And.intro rfl (And.intro rfl (And.intro rfl (And.intro (Nat.le_of_ble_eq_true rfl) ?_))))
  let w2_ : va_W := [(mp_ob10 a0 0 a3 a4 a5 a6 a7 y1 y2 y3 y4 y5 y6 y7 y8 y9 y10 a8 a1 a2 a9 a10 a11 a12 a13 y11 a14 a15 a16 a17 y12 y13 y14 a18 a19 y15 y16 a20 a21 a22 y17 y18 y19 y20 a23 a24 a25 y21), (mp_arI E a1 0 25 f0), (mp_arI E a2 0 180 f1)]
  show mp_W E X 3 5 [(0, .ref a0), (1, .int x0), (2, .int x1)] [] w2_ 0 0
  refine mp_run mp_k_cX10_sea_ok hF mp_tabX10_ok [mp_i (.aload_n 0), mp_i (.iload_n 1)] (by decide +kernel) ?_
  show mp_W E X 3 7 [(0, .ref a0), (1, .int x0), (2, .int x1)] [.int x0, .ref a0] w2_ 0 0
  refine mp_callV hF (As := [.int x0]) (rest := []) (wr := [(mp_arI E a2 0 180 f1)]) (bX10_isIsle_58 E a0 a1 a3 a4 a5 a6 a7 a8 a2 a9 a10 a11 a12 a13 a14 a15 a16 a17 a18 a19 a20 a21 a22 a23 a24 a25 f0 0 y1 y2 y3 y4 y5 y6 y7 y8 y9 y10 y11 y12 y13 y14 y15 y16 y17 y18 y19 y20 y21 x0 p0 p1 p2 p3 p4 l_y1 u_y1 l_y2 u_y2 l_y3 u_y3 l_y4 u_y4 l_y11 u_y11 l_y12 u_y12 l_y13 u_y13) mp_lkX10_270 0 rfl [0, 1] [2] rfl rfl rfl rfl rfl ⟨(Nat.le_of_ble_eq_true rfl), (Nat.le_of_ble_eq_true rfl), (Nat.le_of_ble_eq_true rfl), (Nat.le_of_ble_eq_true rfl)⟩ (Nat.le_of_ble_eq_true rfl) (by first | exact mp_fd_ok mp_k_cX10_sea_ok (by decide +kernel) | decide +kernel) (fun v_1 w_2 h_3 => ?_)
  refine h_3.elim (fun q_9 => ?_) (fun q_10 => ?_)
  · skip
    refine q_9.elim fun e_11 q_12 => q_12.elim fun x_4 e_13 => ?_
    clear h_3 q_9 q_12
    subst e_11
    subst e_13
    let w3_ : va_W := [(mp_arI E a2 0 180 f1), (mp_ob10 a0 0 a3 a4 a5 a6 a7 y1 y2 y3 y4 y5 y6 y7 y8 y9 y10 a8 a1 a2 a9 a10 a11 a12 a13 y11 a14 a15 a16 a17 y12 y13 y14 a18 a19 y15 y16 a20 a21 a22 y17 y18 y19 y20 a23 a24 a25 y21), (mp_arI E a1 0 25 f0)]
    show mp_W E X 3 10 [(0, .ref a0), (1, .int x0), (2, .int x1)] [.int 0] w3_ 0 0
    refine mp_run mp_k_cX10_sea_ok hF mp_tabX10_ok [mp_h (.ifCond .eq 30) [40]] (by decide +kernel) ?_
    refine And.intro (fun _ => ?_) (fun c_14 => absurd c_14 (by decide))
    show mp_W E X 3 40 [(0, .ref a0), (1, .int x0), (2, .int x1)] [] w3_ 0 0
    refine mp_run mp_k_cX10_sea_ok hF mp_tabX10_ok [mp_c (.bipush (-2)) (-2)] (by decide +kernel) ?_
    show mp_W E X 3 42 [(0, .ref a0), (1, .int x0), (2, .int x1)] [.int (-2)] w3_ 0 0
    exact mp_iret hF hQ rfl rfl (Nat.le_of_ble_eq_true rfl) (Nat.le_of_ble_eq_true rfl) [1, 2, 0] (w' := w2_) rfl rfl ⟨(-2), rfl, (by decide), (by decide), (by first | fail | decide | (have h8 : (0 : Int64).toInt = 0 := rfl; have h9 : (-1 : Int32).toInt = -1 := rfl; have h10 : (-2 : Int32).toInt = -2 := rfl; have h11 : (0 : Int32).toInt = 0 := rfl; have h12 : (1 : Int32).toInt = 1 := rfl; have h13 : (-5 : Int32).toInt = -5 := rfl; have h14 : (-3 : Int32).toInt = -3 := rfl; (first | exact mp_o396 x_4 h10 | omega))), rfl⟩ (by first | exact mp_fd_ok mp_k_cX10_sea_ok (by decide +kernel) | decide +kernel)
  · skip
    refine q_10.elim fun e_15 q_16 => q_16.elim fun c_5 q_17 => q_17.elim fun x_6 q_18 => q_18.elim fun x_7 q_19 => q_19.elim fun x_8 e_20 => ?_
    clear h_3 q_10 q_16 q_17 q_18 q_19
    subst e_15
    subst e_20
    have c_5 : 0 ≤ x0.toInt := c_5
    let w4_ : va_W := [(mp_arI E a2 0 180 f1), (mp_ob10 a0 0 a3 a4 a5 a6 a7 y1 y2 y3 y4 y5 y6 y7 y8 y9 y10 a8 a1 a2 a9 a10 a11 a12 a13 y11 a14 a15 a16 a17 y12 y13 y14 a18 a19 y15 y16 a20 a21 a22 y17 y18 y19 y20 a23 a24 a25 y21), (mp_arI E a1 0 25 f0)]
    show mp_W E X 3 10 [(0, .ref a0), (1, .int x0), (2, .int x1)] [.int 1] w4_ 0 0
    refine mp_run mp_k_cX10_sea_ok hF mp_tabX10_ok [mp_h (.ifCond .eq 30) [40]] (by decide +kernel) ?_
    refine And.intro (fun c_21 => absurd c_21 (by decide)) (fun _ => ?_)
    show mp_W E X 3 13 [(0, .ref a0), (1, .int x0), (2, .int x1)] [] w4_ 0 0
    refine mp_run mp_k_cX10_sea_ok hF mp_tabX10_ok [mp_i (.aload_n 0), mp_i (.iload_n 2)] (by decide +kernel) ?_
    show mp_W E X 3 15 [(0, .ref a0), (1, .int x0), (2, .int x1)] [.int x1, .ref a0] w4_ 0 0
    refine mp_callV hF (As := [.int x1]) (rest := []) (wr := [(mp_arI E a2 0 180 f1)]) (bX10_isIsle_58 E a0 a1 a3 a4 a5 a6 a7 a8 a2 a9 a10 a11 a12 a13 a14 a15 a16 a17 a18 a19 a20 a21 a22 a23 a24 a25 f0 0 y1 y2 y3 y4 y5 y6 y7 y8 y9 y10 y11 y12 y13 y14 y15 y16 y17 y18 y19 y20 y21 x1 p0 p1 p2 p3 p4 l_y1 u_y1 l_y2 u_y2 l_y3 u_y3 l_y4 u_y4 l_y11 u_y11 l_y12 u_y12 l_y13 u_y13) mp_lkX10_270 1 rfl [1, 2] [0] rfl rfl rfl rfl rfl ⟨(Nat.le_of_ble_eq_true rfl), (Nat.le_of_ble_eq_true rfl), (Nat.le_of_ble_eq_true rfl), (Nat.le_of_ble_eq_true rfl)⟩ (Nat.le_of_ble_eq_true rfl) (by first | exact mp_fd_ok mp_k_cX10_sea_ok (by decide +kernel) | decide +kernel) (fun v_22 w_23 h_24 => ?_)
    refine h_24.elim (fun q_30 => ?_) (fun q_31 => ?_)
    · skip
      refine q_30.elim fun e_32 q_33 => q_33.elim fun x_25 e_34 => ?_
      clear h_24 q_30 q_33
      subst e_32
      subst e_34
      show mp_W E X 3 18 [(0, .ref a0), (1, .int x0), (2, .int x1)] [.int 0] w4_ 0 0
      refine mp_run mp_k_cX10_sea_ok hF mp_tabX10_ok [mp_h (.ifCond .eq 22) [40]] (by decide +kernel) ?_
      refine And.intro (fun _ => ?_) (fun c_35 => absurd c_35 (by decide))
      show mp_W E X 3 40 [(0, .ref a0), (1, .int x0), (2, .int x1)] [] w4_ 0 0
      refine mp_run mp_k_cX10_sea_ok hF mp_tabX10_ok [mp_c (.bipush (-2)) (-2)] (by decide +kernel) ?_
      show mp_W E X 3 42 [(0, .ref a0), (1, .int x0), (2, .int x1)] [.int (-2)] w4_ 0 0
      exact mp_iret hF hQ rfl rfl (Nat.le_of_ble_eq_true rfl) (Nat.le_of_ble_eq_true rfl) [1, 2, 0] (w' := w2_) rfl rfl ⟨(-2), rfl, (by decide), (by decide), (by first | fail | decide | (have h8 : (0 : Int64).toInt = 0 := rfl; have h9 : (-1 : Int32).toInt = -1 := rfl; have h10 : (-2 : Int32).toInt = -2 := rfl; have h11 : (0 : Int32).toInt = 0 := rfl; have h12 : (1 : Int32).toInt = 1 := rfl; have h13 : (-5 : Int32).toInt = -5 := rfl; have h14 : (-3 : Int32).toInt = -3 := rfl; (first | exact mp_o397 x_25 h10 | omega))), rfl⟩ (by first | exact mp_fd_ok mp_k_cX10_sea_ok (by decide +kernel) | decide +kernel)
    · skip
      refine q_31.elim fun e_36 q_37 => q_37.elim fun c_26 q_38 => q_38.elim fun x_27 q_39 => q_39.elim fun x_28 q_40 => q_40.elim fun x_29 e_41 => ?_
      clear h_24 q_31 q_37 q_38 q_39 q_40
      subst e_36
      subst e_41
      have c_26 : 0 ≤ x1.toInt := c_26
      show mp_W E X 3 18 [(0, .ref a0), (1, .int x0), (2, .int x1)] [.int 1] w4_ 0 0
      refine mp_run mp_k_cX10_sea_ok hF mp_tabX10_ok [mp_h (.ifCond .eq 22) [40]] (by decide +kernel) ?_
      refine And.intro (fun c_42 => absurd c_42 (by decide)) (fun _ => ?_)
      show mp_W E X 3 21 [(0, .ref a0), (1, .int x0), (2, .int x1)] [] w4_ 0 0
      refine mp_run mp_k_cX10_sea_ok hF mp_tabX10_ok [mp_i (.iload_n 1), mp_i (.iload_n 2), mp_h (.if_icmp .eq 17) [40]] (by decide +kernel) ?_
      refine And.intro (fun c_43 => ?_) (fun c_43 => ?_)
      · have c_43 : x0.toInt = x1.toInt := (congrArg Int32.toInt c_43)
        show mp_W E X 3 40 [(0, .ref a0), (1, .int x0), (2, .int x1)] [] w4_ 0 0
        refine mp_run mp_k_cX10_sea_ok hF mp_tabX10_ok [mp_c (.bipush (-2)) (-2)] (by decide +kernel) ?_
        show mp_W E X 3 42 [(0, .ref a0), (1, .int x0), (2, .int x1)] [.int (-2)] w4_ 0 0
        exact mp_iret hF hQ rfl rfl (Nat.le_of_ble_eq_true rfl) (Nat.le_of_ble_eq_true rfl) [1, 2, 0] (w' := w2_) rfl rfl ⟨(-2), rfl, (by decide), (by decide), (by first | fail | decide | (have h8 : (0 : Int64).toInt = 0 := rfl; have h9 : (-1 : Int32).toInt = -1 := rfl; have h10 : (-2 : Int32).toInt = -2 := rfl; have h11 : (0 : Int32).toInt = 0 := rfl; have h12 : (1 : Int32).toInt = 1 := rfl; have h13 : (-5 : Int32).toInt = -5 := rfl; have h14 : (-3 : Int32).toInt = -3 := rfl; (first | exact mp_o401 c_43 h10 | omega))), rfl⟩ (by first | exact mp_fd_ok mp_k_cX10_sea_ok (by decide +kernel) | decide +kernel)
      · have c_43 : x0.toInt ≠ x1.toInt := c_43
        show mp_W E X 3 26 [(0, .ref a0), (1, .int x0), (2, .int x1)] [] w4_ 0 0
        refine mp_run mp_k_cX10_sea_ok hF mp_tabX10_ok [mp_i (.aload_n 0), mp_h (.getfield 37) [18, 1], mp_c (.bipush 6) 6, mp_i (.iload_n 1), mp_i .imul, mp_i (.iload_n 2), mp_i .iadd, mp_h .iaload [0], mp_h (.goto 5) [42]] (by decide +kernel) ?_
        refine And.intro rfl (And.intro rfl ?_)
        intro z_44 h_45
        have e_46 : z_44.toInt = 6 * x0.toInt := mp_mul (a := 6) (b := x0.toInt) h_45 (by decide) rfl (by (first | exact mp_o1152 c_5 | omega)) (by (first | exact mp_o1153 x_7 | omega))
        intro z_47 h_48
        have e_49 : z_47.toInt = z_44.toInt + x1.toInt := mp_add (a := z_44.toInt) (b := x1.toInt) h_48 rfl rfl (by (first | exact mp_o1412 c_26 c_5 e_46 | omega)) (by (first | exact mp_o1422 x_28 x_7 e_46 | omega))
        refine And.intro rfl (And.intro rfl (And.intro (vp_in_iff.mpr (by (first | exact mp_o1423 c_5 x_7 c_26 x_28 e_46 e_49 | omega))) ?_))
        intro z_50 h_51
        have e_52 : 0 ≤ z_50.toInt ∧ z_50.toInt ≤ 20 := mp_all_ld h_51 p5 (by (first | exact mp_o1415 c_5 c_26 e_46 e_49 | omega)) (by (first | exact mp_o1424 x_7 e_46 x_28 e_49 | omega))
        have e_53 : z_50.toInt = (f1 (6 * x0.toInt + x1.toInt).toNat).toInt := mp_at_i h_51 (by (first | exact mp_o1417 c_5 c_26 e_46 e_49 | omega))
        show mp_W E X 3 42 [(0, .ref a0), (1, .int x0), (2, .int x1)] [.int z_50] w4_ 0 0
        exact mp_iret hF hQ rfl rfl (Nat.le_of_ble_eq_true rfl) (Nat.le_of_ble_eq_true rfl) [1, 2, 0] (w' := w2_) rfl rfl ⟨z_50, rfl, (by (first | exact mp_o1425 e_52 | omega)), e_52.2, (by first | (first | exact mp_o400 c_5 c_26 x_6 c_43 x_27 e_53 | omega) | decide | (have h8 : (0 : Int64).toInt = 0 := rfl; have h9 : (-1 : Int32).toInt = -1 := rfl; have h10 : (-2 : Int32).toInt = -2 := rfl; have h11 : (0 : Int32).toInt = 0 := rfl; have h12 : (1 : Int32).toInt = 1 := rfl; have h13 : (-5 : Int32).toInt = -5 := rfl; have h14 : (-3 : Int32).toInt = -3 := rfl; omega)), rfl⟩ (by first | exact mp_fd_ok mp_k_cX10_sea_ok (by decide +kernel) | decide +kernel)
set_option maxHeartbeats 4000000 in
set_option maxRecDepth 100000 in
theorem bX10_isMoon_60 (E : mp_E) (x0 : Int32) : mp_Ct E yX10_isMoon cX10_isMoon 1 (some FieldType.boolean) 1 0 0 25 [.int x0] [] (fun v w' => (v = some (.int 0) ∧ (x0.toInt < 0 ∨ 99 < x0.toInt) ∧ w' = []) ∨ (v = some (.int 1) ∧ 0 ≤ x0.toInt ∧ x0.toInt ≤ 99 ∧ (0 ≤ x0.toInt ∧ x0.toInt ≤ 99) ∧ w' = [])) := by
  refine mp_met false (by decide) (by decide) (Nat.le_of_ble_eq_true rfl) (fun X hF hQ => ?_)
  have hF : mp_F E X (RX10, cX10_isMoon, 1, (1, 0, 0, 25), (some FieldType.boolean), false) := hF
  show mp_W E X 1 0 [(0, .int x0)] [] [] 0 0
  refine mp_run mp_k_cX10_isMoon_ok hF mp_tabX10_ok [mp_i (.iload_n 0), mp_i .i2l, mp_cl (.lconst 0) 0, mp_cl (.ldc2_w 258) 99] (by decide +kernel) ?_
  intro z_1 h_2
  have e_3 : z_1.toInt = x0.toInt := mp_i2l h_2
  show mp_W E X 1 6 [(0, .int x0)] [.long 99, .long 0, .long z_1] [] 0 0
  refine mp_callS hF (As := [.long z_1, .long 0, .long 99]) (rest := []) (wr := []) (bX10_in_0 E z_1 0 99) mp_lkX10_97 [] [] rfl rfl rfl rfl rfl ⟨(Nat.le_of_ble_eq_true rfl), (Nat.le_of_ble_eq_true rfl), (Nat.le_of_ble_eq_true rfl), (Nat.le_of_ble_eq_true rfl)⟩ (Nat.le_of_ble_eq_true rfl) (by first | exact mp_fd_ok mp_k_cX10_isMoon_ok (by decide +kernel) | decide +kernel) (fun v_4 w_5 h_6 => ?_)
  rcases h_6 with ⟨rfl, x_7, rfl⟩ | ⟨rfl, c_8, c_9, rfl⟩
  · skip
    have i_10 : (0 : Int64).toInt = 0 := by decide
    have i_11 : (99 : Int64).toInt = 99 := by decide
    show mp_W E X 1 9 [(0, .int x0)] [.int 0] [] 0 0
    exact mp_iret hF hQ rfl (by decide) (Nat.le_of_ble_eq_true rfl) (Nat.le_of_ble_eq_true rfl) [] (w' := []) rfl rfl (Or.inl ⟨rfl, (by first | (first | exact mp_o1093 i_10 i_11 e_3 x_7 | omega) | decide | (have h8 : (0 : Int64).toInt = 0 := rfl; have h9 : (-1 : Int32).toInt = -1 := rfl; have h10 : (-2 : Int32).toInt = -2 := rfl; have h11 : (0 : Int32).toInt = 0 := rfl; have h12 : (1 : Int32).toInt = 1 := rfl; have h13 : (-5 : Int32).toInt = -5 := rfl; have h14 : (-3 : Int32).toInt = -3 := rfl; omega)), rfl⟩) (by first | exact mp_fd_ok mp_k_cX10_isMoon_ok (by decide +kernel) | decide +kernel)
  · skip
    have c_8 : 0 ≤ z_1.toInt := c_8
    have c_9 : z_1.toInt ≤ 99 := c_9
    have i_12 : (0 : Int64).toInt = 0 := by decide
    have i_13 : (99 : Int64).toInt = 99 := by decide
    show mp_W E X 1 9 [(0, .int x0)] [.int 1] [] 0 0
    exact mp_iret hF hQ rfl (by decide) (Nat.le_of_ble_eq_true rfl) (Nat.le_of_ble_eq_true rfl) [] (w' := []) rfl rfl (Or.inr ⟨rfl, (by first | (first | exact mp_o921 c_8 e_3 | omega) | decide), (by first | (first | exact mp_o1094 e_3 c_9 | omega) | decide), (by first | (first | exact mp_o1096 c_8 e_3 c_9 | omega) | decide | (have h8 : (0 : Int64).toInt = 0 := rfl; have h9 : (-1 : Int32).toInt = -1 := rfl; have h10 : (-2 : Int32).toInt = -2 := rfl; have h11 : (0 : Int32).toInt = 0 := rfl; have h12 : (1 : Int32).toInt = 1 := rfl; have h13 : (-5 : Int32).toInt = -5 := rfl; have h14 : (-3 : Int32).toInt = -3 := rfl; omega)), rfl⟩) (by first | exact mp_fd_ok mp_k_cX10_isMoon_ok (by decide +kernel) | decide +kernel)
set_option maxHeartbeats 4000000 in
set_option maxRecDepth 100000 in
theorem bX10_open_61 (E : mp_E) (a0 a1 a2 a3 a4 a5 a6 a7 a8 a9 a10 a11 a12 a13 a14 a15 a16 a17 a18 a19 a20 a21 a22 a23 a24 a25 : Nat) (f0 : Nat → Int32) (f1 : Nat → Int32) (y0 : Int32) (y1 : Int32) (y2 : Int32) (y3 : Int32) (y4 : Int32) (y5 : Int32) (y6 : Int64) (y7 : Int32) (y8 : Int32) (y9 : Int32) (y10 : Int32) (y11 : Int32) (y12 : Int32) (y13 : Int32) (y14 : Int32) (y15 : Int32) (y16 : Int32) (y17 : Int32) (y18 : Int32) (y19 : Int32) (y20 : Int32) (y21 : Int32) (x0 : Int32) (x1 : Int32) (p0 : mp_res f0 25 5 0 0 6) (p1 : mp_res f0 25 5 1 0 99) (p2 : mp_res f0 25 5 2 0 6) (p3 : mp_res f0 25 5 3 0 10) (p4 : mp_res f0 25 5 4 0 60) (p5 : mp_all f1 3000 0 1) (l_y1 : 0 ≤ y1.toInt) (u_y1 : y1.toInt ≤ 1600) (l_y2 : 0 ≤ y2.toInt) (u_y2 : y2.toInt ≤ 1600) (l_y3 : 0 ≤ y3.toInt) (u_y3 : y3.toInt ≤ 4) (l_y4 : 0 ≤ y4.toInt) (u_y4 : y4.toInt ≤ 1600) (l_y11 : 0 ≤ y11.toInt) (u_y11 : y11.toInt ≤ 99) (l_y12 : 0 ≤ y12.toInt) (u_y12 : y12.toInt ≤ 5) (l_y13 : 0 ≤ y13.toInt) (u_y13 : y13.toInt ≤ 12) : mp_Ct E yX10_open cX10_open 3 (some FieldType.int) 2 0 0 46 [.ref a0, .int x0, .int x1] [(mp_ob10 a0 y0 a3 a4 a5 a6 a7 y1 y2 y3 y4 y5 y6 y7 y8 y9 y10 a8 a1 a9 a2 a10 a11 a12 a13 y11 a14 a15 a16 a17 y12 y13 y14 a18 a19 y15 y16 a20 a21 a22 y17 y18 y19 y20 a23 a24 a25 y21), (mp_arI E a1 0 25 f0), (mp_arI E a2 3 3000 f1)] (fun v w' => ∃ r1 : Int32, v = some (.int r1) ∧ (-2) ≤ r1.toInt ∧ r1.toInt ≤ 1 ∧ (((x0.toInt < 0 ∨ (f0 0).toInt ≤ x0.toInt ∨ x1.toInt < 0 ∨ 99 < x1.toInt) ∧ r1.toInt = -2) ∨ ((0 ≤ x0.toInt ∧ x0.toInt < (f0 0).toInt ∧ 0 ≤ x1.toInt ∧ x1.toInt ≤ 99) ∧ (((f1 (100 * x0.toInt + x1.toInt).toNat).toInt ≠ 0 ∧ r1.toInt = 0) ∨ ((f1 (100 * x0.toInt + x1.toInt).toNat).toInt = 0 ∧ r1.toInt = 1)))) ∧ w' = [(mp_ob10 a0 0 a3 a4 a5 a6 a7 y1 y2 y3 y4 y5 y6 y7 y8 y9 y10 a8 a1 a9 a2 a10 a11 a12 a13 y11 a14 a15 a16 a17 y12 y13 y14 a18 a19 y15 y16 a20 a21 a22 y17 y18 y19 y20 a23 a24 a25 y21), (mp_arI E a1 0 25 f0), (mp_arI E a2 3 3000 f1)]) := by
  refine mp_met false (by decide) (by decide) (Nat.le_of_ble_eq_true rfl) (fun X hF hQ => ?_)
  have hF : mp_F E X (RX10, cX10_open, 3, (2, 0, 0, 46), (some FieldType.int), false) := hF
  let w1_ : va_W := [(mp_ob10 a0 y0 a3 a4 a5 a6 a7 y1 y2 y3 y4 y5 y6 y7 y8 y9 y10 a8 a1 a9 a2 a10 a11 a12 a13 y11 a14 a15 a16 a17 y12 y13 y14 a18 a19 y15 y16 a20 a21 a22 y17 y18 y19 y20 a23 a24 a25 y21), (mp_arI E a1 0 25 f0), (mp_arI E a2 3 3000 f1)]
  show mp_W E X 3 0 [(0, .ref a0), (1, .int x0), (2, .int x1)] [] w1_ 0 0
  refine mp_run mp_k_cX10_open_ok hF mp_tabX10_ok [mp_i (.aload_n 0), mp_c (.iconst 0) 0, mp_h (.putfield 92) [0, 0]] (by decide +kernel) ?_
  refine And.intro rfl (And.intro rfl (And.intro rfl (And.intro rfl (And.intro (Nat.le_of_ble_eq_true rfl) ?_))))
  let w2_ : va_W := [(mp_ob10 a0 0 a3 a4 a5 a6 a7 y1 y2 y3 y4 y5 y6 y7 y8 y9 y10 a8 a1 a9 a2 a10 a11 a12 a13 y11 a14 a15 a16 a17 y12 y13 y14 a18 a19 y15 y16 a20 a21 a22 y17 y18 y19 y20 a23 a24 a25 y21), (mp_arI E a1 0 25 f0), (mp_arI E a2 3 3000 f1)]
  show mp_W E X 3 5 [(0, .ref a0), (1, .int x0), (2, .int x1)] [] w2_ 0 0
  refine mp_run mp_k_cX10_open_ok hF mp_tabX10_ok [mp_i (.aload_n 0), mp_i (.iload_n 1)] (by decide +kernel) ?_
  show mp_W E X 3 7 [(0, .ref a0), (1, .int x0), (2, .int x1)] [.int x0, .ref a0] w2_ 0 0
  refine mp_callV hF (As := [.int x0]) (rest := []) (wr := [(mp_arI E a2 3 3000 f1)]) (bX10_isIsle_58 E a0 a1 a3 a4 a5 a6 a7 a8 a9 a2 a10 a11 a12 a13 a14 a15 a16 a17 a18 a19 a20 a21 a22 a23 a24 a25 f0 0 y1 y2 y3 y4 y5 y6 y7 y8 y9 y10 y11 y12 y13 y14 y15 y16 y17 y18 y19 y20 y21 x0 p0 p1 p2 p3 p4 l_y1 u_y1 l_y2 u_y2 l_y3 u_y3 l_y4 u_y4 l_y11 u_y11 l_y12 u_y12 l_y13 u_y13) mp_lkX10_270 0 rfl [0, 1] [2] rfl rfl rfl rfl rfl ⟨(Nat.le_of_ble_eq_true rfl), (Nat.le_of_ble_eq_true rfl), (Nat.le_of_ble_eq_true rfl), (Nat.le_of_ble_eq_true rfl)⟩ (Nat.le_of_ble_eq_true rfl) (by first | exact mp_fd_ok mp_k_cX10_open_ok (by decide +kernel) | decide +kernel) (fun v_1 w_2 h_3 => ?_)
  refine h_3.elim (fun q_9 => ?_) (fun q_10 => ?_)
  · skip
    refine q_9.elim fun e_11 q_12 => q_12.elim fun x_4 e_13 => ?_
    clear h_3 q_9 q_12
    subst e_11
    subst e_13
    let w3_ : va_W := [(mp_arI E a2 3 3000 f1), (mp_ob10 a0 0 a3 a4 a5 a6 a7 y1 y2 y3 y4 y5 y6 y7 y8 y9 y10 a8 a1 a9 a2 a10 a11 a12 a13 y11 a14 a15 a16 a17 y12 y13 y14 a18 a19 y15 y16 a20 a21 a22 y17 y18 y19 y20 a23 a24 a25 y21), (mp_arI E a1 0 25 f0)]
    show mp_W E X 3 10 [(0, .ref a0), (1, .int x0), (2, .int x1)] [.int 0] w3_ 0 0
    refine mp_run mp_k_cX10_open_ok hF mp_tabX10_ok [mp_h (.ifCond .eq 32) [42]] (by decide +kernel) ?_
    refine And.intro (fun _ => ?_) (fun c_14 => absurd c_14 (by decide))
    show mp_W E X 3 42 [(0, .ref a0), (1, .int x0), (2, .int x1)] [] w3_ 0 0
    refine mp_run mp_k_cX10_open_ok hF mp_tabX10_ok [mp_c (.bipush (-2)) (-2)] (by decide +kernel) ?_
    show mp_W E X 3 44 [(0, .ref a0), (1, .int x0), (2, .int x1)] [.int (-2)] w3_ 0 0
    exact mp_iret hF hQ rfl rfl (Nat.le_of_ble_eq_true rfl) (Nat.le_of_ble_eq_true rfl) [1, 2, 0] (w' := w2_) rfl rfl ⟨(-2), rfl, (by decide), (by decide), (by first | fail | decide | (have h8 : (0 : Int64).toInt = 0 := rfl; have h9 : (-1 : Int32).toInt = -1 := rfl; have h10 : (-2 : Int32).toInt = -2 := rfl; have h11 : (0 : Int32).toInt = 0 := rfl; have h12 : (1 : Int32).toInt = 1 := rfl; have h13 : (-5 : Int32).toInt = -5 := rfl; have h14 : (-3 : Int32).toInt = -3 := rfl; (first | exact mp_o1426 x_4 h10 | omega))), rfl⟩ (by first | exact mp_fd_ok mp_k_cX10_open_ok (by decide +kernel) | decide +kernel)
  · skip
    refine q_10.elim fun e_15 q_16 => q_16.elim fun c_5 q_17 => q_17.elim fun x_6 q_18 => q_18.elim fun x_7 q_19 => q_19.elim fun x_8 e_20 => ?_
    clear h_3 q_10 q_16 q_17 q_18 q_19
    subst e_15
    subst e_20
    have c_5 : 0 ≤ x0.toInt := c_5
    let w4_ : va_W := [(mp_arI E a2 3 3000 f1), (mp_ob10 a0 0 a3 a4 a5 a6 a7 y1 y2 y3 y4 y5 y6 y7 y8 y9 y10 a8 a1 a9 a2 a10 a11 a12 a13 y11 a14 a15 a16 a17 y12 y13 y14 a18 a19 y15 y16 a20 a21 a22 y17 y18 y19 y20 a23 a24 a25 y21), (mp_arI E a1 0 25 f0)]
    show mp_W E X 3 10 [(0, .ref a0), (1, .int x0), (2, .int x1)] [.int 1] w4_ 0 0
    refine mp_run mp_k_cX10_open_ok hF mp_tabX10_ok [mp_h (.ifCond .eq 32) [42]] (by decide +kernel) ?_
    refine And.intro (fun c_21 => absurd c_21 (by decide)) (fun _ => ?_)
    show mp_W E X 3 13 [(0, .ref a0), (1, .int x0), (2, .int x1)] [] w4_ 0 0
    refine mp_run mp_k_cX10_open_ok hF mp_tabX10_ok [mp_i (.iload_n 2)] (by decide +kernel) ?_
    show mp_W E X 3 14 [(0, .ref a0), (1, .int x0), (2, .int x1)] [.int x1] w4_ 0 0
    refine mp_callS hF (As := [.int x1]) (rest := []) (wr := w4_) (bX10_isMoon_60 E x1) mp_lkX10_273 [] [0, 1, 2] rfl rfl rfl rfl rfl ⟨(Nat.le_of_ble_eq_true rfl), (Nat.le_of_ble_eq_true rfl), (Nat.le_of_ble_eq_true rfl), (Nat.le_of_ble_eq_true rfl)⟩ (Nat.le_of_ble_eq_true rfl) (by first | exact mp_fd_ok mp_k_cX10_open_ok (by decide +kernel) | decide +kernel) (fun v_22 w_23 h_24 => ?_)
    rcases h_24 with ⟨rfl, x_25, rfl⟩ | ⟨rfl, c_26, c_27, x_28, rfl⟩
    · skip
      show mp_W E X 3 17 [(0, .ref a0), (1, .int x0), (2, .int x1)] [.int 0] w4_ 0 0
      refine mp_run mp_k_cX10_open_ok hF mp_tabX10_ok [mp_h (.ifCond .eq 25) [42]] (by decide +kernel) ?_
      refine And.intro (fun _ => ?_) (fun c_29 => absurd c_29 (by decide))
      show mp_W E X 3 42 [(0, .ref a0), (1, .int x0), (2, .int x1)] [] w4_ 0 0
      refine mp_run mp_k_cX10_open_ok hF mp_tabX10_ok [mp_c (.bipush (-2)) (-2)] (by decide +kernel) ?_
      show mp_W E X 3 44 [(0, .ref a0), (1, .int x0), (2, .int x1)] [.int (-2)] w4_ 0 0
      exact mp_iret hF hQ rfl rfl (Nat.le_of_ble_eq_true rfl) (Nat.le_of_ble_eq_true rfl) [1, 2, 0] (w' := w2_) rfl rfl ⟨(-2), rfl, (by decide), (by decide), (by first | fail | decide | (have h8 : (0 : Int64).toInt = 0 := rfl; have h9 : (-1 : Int32).toInt = -1 := rfl; have h10 : (-2 : Int32).toInt = -2 := rfl; have h11 : (0 : Int32).toInt = 0 := rfl; have h12 : (1 : Int32).toInt = 1 := rfl; have h13 : (-5 : Int32).toInt = -5 := rfl; have h14 : (-3 : Int32).toInt = -3 := rfl; (first | exact mp_o1427 x_25 h10 | omega))), rfl⟩ (by first | exact mp_fd_ok mp_k_cX10_open_ok (by decide +kernel) | decide +kernel)
    · skip
      have c_26 : 0 ≤ x1.toInt := c_26
      have c_27 : x1.toInt ≤ 99 := c_27
      show mp_W E X 3 17 [(0, .ref a0), (1, .int x0), (2, .int x1)] [.int 1] w4_ 0 0
      refine mp_run mp_k_cX10_open_ok hF mp_tabX10_ok [mp_h (.ifCond .eq 25) [42]] (by decide +kernel) ?_
      refine And.intro (fun c_30 => absurd c_30 (by decide)) (fun _ => ?_)
      show mp_W E X 3 20 [(0, .ref a0), (1, .int x0), (2, .int x1)] [] w4_ 0 0
      refine mp_run mp_k_cX10_open_ok hF mp_tabX10_ok [mp_i (.aload_n 0), mp_h (.getfield 40) [19, 1], mp_c (.bipush 100) 100, mp_i (.iload_n 1), mp_i .imul, mp_i (.iload_n 2), mp_i .iadd, mp_h .baload [0, 0], mp_h (.ifCond .eq 7) [38]] (by decide +kernel) ?_
      refine And.intro rfl (And.intro rfl ?_)
      intro z_31 h_32
      have e_33 : z_31.toInt = 100 * x0.toInt := mp_mul (a := 100) (b := x0.toInt) h_32 (by decide) rfl (by (first | exact mp_o1273 c_5 | omega)) (by (first | exact mp_o1274 x_7 | omega))
      intro z_34 h_35
      have e_36 : z_34.toInt = z_31.toInt + x1.toInt := mp_add (a := z_31.toInt) (b := x1.toInt) h_35 rfl rfl (by (first | exact mp_o1428 c_26 c_5 e_33 | omega)) (by (first | exact mp_o1429 c_27 x_7 e_33 | omega))
      refine And.intro rfl (And.intro rfl (And.intro (vp_in_iff.mpr (by (first | exact mp_o1430 c_5 x_7 c_26 c_27 e_33 e_36 | omega))) ?_))
      intro z_37 h_38
      have e_39 : 0 ≤ z_37.toInt ∧ z_37.toInt ≤ 1 := mp_all_ld h_38 p5 (by (first | exact mp_o1431 c_5 c_26 e_33 e_36 | omega)) (by (first | exact mp_o1432 x_7 e_33 c_27 e_36 | omega))
      have e_40 : z_37.toInt = (f1 (100 * x0.toInt + x1.toInt).toNat).toInt := mp_at_i h_38 (by (first | exact mp_o1433 c_5 c_26 e_33 e_36 | omega))
      refine And.intro (fun c_41 => ?_) (fun c_41 => ?_)
      · have c_41 : z_37.toInt = 0 := (congrArg Int32.toInt c_41)
        show mp_W E X 3 38 [(0, .ref a0), (1, .int x0), (2, .int x1)] [] w4_ 0 0
        refine mp_run mp_k_cX10_open_ok hF mp_tabX10_ok [mp_c (.iconst 1) 1, mp_h (.goto 5) [44]] (by decide +kernel) ?_
        show mp_W E X 3 44 [(0, .ref a0), (1, .int x0), (2, .int x1)] [.int 1] w4_ 0 0
        exact mp_iret hF hQ rfl rfl (Nat.le_of_ble_eq_true rfl) (Nat.le_of_ble_eq_true rfl) [1, 2, 0] (w' := w2_) rfl rfl ⟨1, rfl, (by decide), (by decide), (by first | fail | decide | (have h8 : (0 : Int64).toInt = 0 := rfl; have h9 : (-1 : Int32).toInt = -1 := rfl; have h10 : (-2 : Int32).toInt = -2 := rfl; have h11 : (0 : Int32).toInt = 0 := rfl; have h12 : (1 : Int32).toInt = 1 := rfl; have h13 : (-5 : Int32).toInt = -5 := rfl; have h14 : (-3 : Int32).toInt = -3 := rfl; (first | exact mp_o1434 c_5 c_26 x_6 c_27 h12 c_41 e_40 | omega))), rfl⟩ (by first | exact mp_fd_ok mp_k_cX10_open_ok (by decide +kernel) | decide +kernel)
      · have c_41 : z_37.toInt ≠ 0 := c_41
        show mp_W E X 3 34 [(0, .ref a0), (1, .int x0), (2, .int x1)] [] w4_ 0 0
        refine mp_run mp_k_cX10_open_ok hF mp_tabX10_ok [mp_c (.iconst 0) 0, mp_h (.goto 9) [44]] (by decide +kernel) ?_
        show mp_W E X 3 44 [(0, .ref a0), (1, .int x0), (2, .int x1)] [.int 0] w4_ 0 0
        exact mp_iret hF hQ rfl rfl (Nat.le_of_ble_eq_true rfl) (Nat.le_of_ble_eq_true rfl) [1, 2, 0] (w' := w2_) rfl rfl ⟨0, rfl, (by decide), (by decide), (by first | fail | decide | (have h8 : (0 : Int64).toInt = 0 := rfl; have h9 : (-1 : Int32).toInt = -1 := rfl; have h10 : (-2 : Int32).toInt = -2 := rfl; have h11 : (0 : Int32).toInt = 0 := rfl; have h12 : (1 : Int32).toInt = 1 := rfl; have h13 : (-5 : Int32).toInt = -5 := rfl; have h14 : (-3 : Int32).toInt = -3 := rfl; (first | exact mp_o1435 c_5 c_26 x_6 c_27 h11 e_40 c_41 | omega))), rfl⟩ (by first | exact mp_fd_ok mp_k_cX10_open_ok (by decide +kernel) | decide +kernel)
