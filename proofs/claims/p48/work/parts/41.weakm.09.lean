set_option maxHeartbeats 4000000 in
set_option maxRecDepth 100000 in
theorem bX10_asks_21 (E : mp_E) (a0 a1 a2 a3 a4 a5 a6 a7 a8 a9 a10 a11 a12 a13 a14 a15 a16 a17 a18 a19 a20 a21 a22 a23 a24 a25 : Nat) (f0 : Nat → Int32) (y0 : Int32) (y1 : Int32) (y2 : Int32) (y3 : Int32) (y4 : Int32) (y5 : Int32) (y6 : Int64) (y7 : Int32) (y8 : Int32) (y9 : Int32) (y10 : Int32) (y11 : Int32) (y12 : Int32) (y13 : Int32) (y14 : Int32) (y15 : Int32) (y16 : Int32) (y17 : Int32) (y18 : Int32) (y19 : Int32) (y20 : Int32) (y21 : Int32) (x0 : Int64) (l_y1 : 0 ≤ y1.toInt) (u_y1 : y1.toInt ≤ 1600) (l_y2 : 0 ≤ y2.toInt) (u_y2 : y2.toInt ≤ 1600) (l_y3 : 0 ≤ y3.toInt) (u_y3 : y3.toInt ≤ 4) (l_y4 : 0 ≤ y4.toInt) (u_y4 : y4.toInt ≤ 1600) (l_y11 : 0 ≤ y11.toInt) (u_y11 : y11.toInt ≤ 99) (l_y12 : 0 ≤ y12.toInt) (u_y12 : y12.toInt ≤ 5) (l_y13 : 0 ≤ y13.toInt) (u_y13 : y13.toInt ≤ 12) (q0 : y2.toInt ≤ y1.toInt) (q1 : mp_MT f0 y1.toInt y3.toInt y4.toInt y2.toInt y5.toInt y6.toInt) : mp_Ct E yX10_asks cX10_asks 3 none 3 0 0 66 [.ref a0, .long x0] [(mp_ob10 a0 y0 a2 a3 a4 a5 a1 y1 y2 y3 y4 y5 y6 y7 y8 y9 y10 a6 a7 a8 a9 a10 a11 a12 a13 y11 a14 a15 a16 a17 y12 y13 y14 a18 a19 y15 y16 a20 a21 a22 y17 y18 y19 y20 a23 a24 a25 y21), (mp_arI E a1 1 1600 f0)] (fun v w' => ∃ r1 : Int32, ∃ r2 : Int32, ∃ r3 : Int32, ∃ r4 : Int32, ∃ r5 : Int64, ∃ r6 : Int32, ∃ r7 : Int32, v = none ∧ 0 ≤ r1.toInt ∧ r1.toInt ≤ 1600 ∧ 0 ≤ r2.toInt ∧ r2.toInt ≤ 4 ∧ 0 ≤ r3.toInt ∧ r3.toInt ≤ 1600 ∧ (r1.toInt ≤ y1.toInt) ∧ ((5 * (y1.toInt - r1.toInt) + r2.toInt) ≤ (5 * (y1.toInt - y2.toInt) + y3.toInt)) ∧ (mp_AK f0 y1.toInt y7.toInt y8.toInt y4.toInt r6.toInt r7.toInt r3.toInt x0.toInt) ∧ (mp_MT f0 y1.toInt r2.toInt r3.toInt r1.toInt r4.toInt r5.toInt) ∧ w' = [(mp_ob10 a0 y0 a2 a3 a4 a5 a1 y1 r1 r2 r3 r4 r5 r6 r7 y9 y10 a6 a7 a8 a9 a10 a11 a12 a13 y11 a14 a15 a16 a17 y12 y13 y14 a18 a19 y15 y16 a20 a21 a22 y17 y18 y19 y20 a23 a24 a25 y21), (mp_arI E a1 1 1600 f0)]) := by
  refine mp_met false (by decide) (by decide) (Nat.le_of_ble_eq_true rfl) (fun X hF hQ => ?_)
  have hF : mp_F E X (RX10, cX10_asks, 3, (3, 0, 0, 66), none, false) := hF
  let w1_ : va_W := [(mp_ob10 a0 y0 a2 a3 a4 a5 a1 y1 y2 y3 y4 y5 y6 y7 y8 y9 y10 a6 a7 a8 a9 a10 a11 a12 a13 y11 a14 a15 a16 a17 y12 y13 y14 a18 a19 y15 y16 a20 a21 a22 y17 y18 y19 y20 a23 a24 a25 y21), (mp_arI E a1 1 1600 f0)]
  show mp_W E X 3 0 [(0, .ref a0), (1, .long x0)] [] w1_ 0 0
  refine mp_run mp_k_cX10_asks_ok hF mp_tabX10_ok [mp_i (.aload_n 0), mp_i (.lload_n 1)] (by decide +kernel) ?_
  show mp_W E X 3 2 [(0, .ref a0), (1, .long x0)] [.long x0, .ref a0] w1_ 0 0
  refine mp_callV hF (As := [.long x0]) (rest := []) (wr := []) (bX10_takes_19 E a0 a1 a2 a3 a4 a5 a6 a7 a8 a9 a10 a11 a12 a13 a14 a15 a16 a17 a18 a19 a20 a21 a22 a23 a24 a25 f0 y0 y1 y2 y3 y4 y5 y6 y7 y8 y9 y10 y11 y12 y13 y14 y15 y16 y17 y18 y19 y20 y21 x0 l_y1 u_y1 l_y2 u_y2 l_y3 u_y3 l_y4 u_y4 l_y11 u_y11 l_y12 u_y12 l_y13 u_y13 (by omega) (by assumption)) mp_lkX10_157 0 rfl [0, 1] [] rfl rfl rfl rfl rfl ⟨(Nat.le_of_ble_eq_true rfl), (Nat.le_of_ble_eq_true rfl), (Nat.le_of_ble_eq_true rfl), (Nat.le_of_ble_eq_true rfl)⟩ (Nat.le_of_ble_eq_true rfl) (by first | exact mp_fd_ok mp_k_cX10_asks_ok (by decide +kernel) | decide +kernel) (fun v_1 w_2 h_3 => ?_)
  refine h_3.elim (fun q_31 => ?_) (fun q_32 => ?_)
  · skip
    refine q_31.elim fun e_33 q_34 => q_34.elim fun x_4 q_35 => q_35.elim fun x_5 q_36 => q_36.elim fun x_6 q_37 => q_37.elim fun x_7 e_38 => ?_
    clear h_3 q_31 q_34 q_35 q_36 q_37
    subst e_33
    subst e_38
    show mp_W E X 3 5 [(0, .ref a0), (1, .long x0)] [.int 0] w1_ 0 0
    refine mp_run mp_k_cX10_asks_ok hF mp_tabX10_ok [mp_h (.ifCond .ne 8) [13]] (by decide +kernel) ?_
    refine And.intro (fun c_39 => absurd c_39 (by decide)) (fun _ => ?_)
    show mp_W E X 3 8 [(0, .ref a0), (1, .long x0)] [] w1_ 0 0
    refine mp_run mp_k_cX10_asks_ok hF mp_tabX10_ok [mp_i (.aload_n 0), mp_c (.iconst 1) 1] (by decide +kernel) ?_
    show mp_W E X 3 10 [(0, .ref a0), (1, .long x0)] [.int 1, .ref a0] w1_ 0 0
    refine mp_callV hF (As := [.int 1]) (rest := []) (wr := [(mp_arI E a1 1 1600 f0)]) (bX10_fails_20 E a0 a2 a3 a4 a5 a1 a6 a7 a8 a9 a10 a11 a12 a13 a14 a15 a16 a17 a18 a19 a20 a21 a22 a23 a24 a25 y0 y1 y2 y3 y4 y5 y6 y7 y8 y9 y10 y11 y12 y13 y14 y15 y16 y17 y18 y19 y20 y21 l_y1 u_y1 l_y2 u_y2 l_y3 u_y3 l_y4 u_y4 l_y11 u_y11 l_y12 u_y12 l_y13 u_y13) mp_lkX10_160 0 rfl [0] [1] rfl rfl rfl rfl rfl ⟨(Nat.le_of_ble_eq_true rfl), (Nat.le_of_ble_eq_true rfl), (Nat.le_of_ble_eq_true rfl), (Nat.le_of_ble_eq_true rfl)⟩ (Nat.le_of_ble_eq_true rfl) (by first | exact mp_fd_ok mp_k_cX10_asks_ok (by decide +kernel) | decide +kernel) (fun v_40 w_41 h_42 => ?_)
    refine h_42.elim fun r_43 q_47 => q_47.elim fun r_44 q_48 => q_48.elim fun e_49 q_50 => q_50.elim fun x_45 q_51 => q_51.elim fun x_46 e_52 => ?_
    clear h_42 q_47 q_48 q_50 q_51
    subst e_49
    subst e_52
    let w2_ : va_W := [(mp_arI E a1 1 1600 f0), (mp_ob10 a0 y0 a2 a3 a4 a5 a1 y1 y2 y3 y4 y5 y6 r_43 r_44 y9 y10 a6 a7 a8 a9 a10 a11 a12 a13 y11 a14 a15 a16 a17 y12 y13 y14 a18 a19 y15 y16 a20 a21 a22 y17 y18 y19 y20 a23 a24 a25 y21)]
    show mp_W E X 3 13 [(0, .ref a0), (1, .long x0)] [] w2_ 0 0
    exact mp_vret hF hQ rfl (Nat.le_of_ble_eq_true rfl) (Nat.le_of_ble_eq_true rfl) [1, 0] (w' := [(mp_ob10 a0 y0 a2 a3 a4 a5 a1 y1 y2 y3 y4 y5 y6 r_43 r_44 y9 y10 a6 a7 a8 a9 a10 a11 a12 a13 y11 a14 a15 a16 a17 y12 y13 y14 a18 a19 y15 y16 a20 a21 a22 y17 y18 y19 y20 a23 a24 a25 y21), (mp_arI E a1 1 1600 f0)]) rfl rfl ⟨y2, y3, y4, y5, y6, r_43, r_44, rfl, l_y2, u_y2, l_y3, u_y3, l_y4, u_y4, (by first | omega | decide), (by first | omega | decide), (by have k9 := x_6; have i0 : (0 : Int32).toInt = 0 := rfl; have i1 : (1 : Int32).toInt = 1 := rfl; have i8 : (2 : Int32).toInt = 2 := rfl; have i9 : (3 : Int32).toInt = 3 := rfl; unfold mp_AK; omega), x_7, rfl⟩ (by first | exact mp_fd_ok mp_k_cX10_asks_ok (by decide +kernel) | decide +kernel)
  · skip
    refine q_32.elim fun r_8 q_53 => q_53.elim fun r_9 q_54 => q_54.elim fun r_10 q_55 => q_55.elim fun r_11 q_56 => q_56.elim fun r_12 q_57 => q_57.elim fun e_58 q_59 => q_59.elim fun c_13 q_60 => q_60.elim fun c_14 q_61 => q_61.elim fun c_15 q_62 => q_62.elim fun l_16 q_63 => q_63.elim fun u_17 q_64 => q_64.elim fun l_18 q_65 => q_65.elim fun u_19 q_66 => q_66.elim fun l_20 q_67 => q_67.elim fun u_21 q_68 => q_68.elim fun l_22 q_69 => q_69.elim fun u_23 q_70 => q_70.elim fun l_24 q_71 => q_71.elim fun u_25 q_72 => q_72.elim fun x_26 q_73 => q_73.elim fun x_27 q_74 => q_74.elim fun x_28 q_75 => q_75.elim fun x_29 q_76 => q_76.elim fun x_30 e_77 => ?_
    clear h_3 q_32 q_53 q_54 q_55 q_56 q_57 q_59 q_60 q_61 q_62 q_63 q_64 q_65 q_66 q_67 q_68 q_69 q_70 q_71 q_72 q_73 q_74 q_75 q_76
    subst e_58
    subst e_77
    have c_13 : y7.toInt = 0 := c_13
    have c_14 : y3.toInt = 1 := c_14
    have c_15 : y6.toInt = x0.toInt := c_15
    let w3_ : va_W := [(mp_ob10 a0 y0 a2 a3 a4 a5 a1 y1 r_8 r_9 r_10 r_11 r_12 y7 y8 y9 y10 a6 a7 a8 a9 a10 a11 a12 a13 y11 a14 a15 a16 a17 y12 y13 y14 a18 a19 y15 y16 a20 a21 a22 y17 y18 y19 y20 a23 a24 a25 y21), (mp_arI E a1 1 1600 f0)]
    show mp_W E X 3 5 [(0, .ref a0), (1, .long x0)] [.int 1] w3_ 0 0
    refine mp_run mp_k_cX10_asks_ok hF mp_tabX10_ok [mp_h (.ifCond .ne 8) [13]] (by decide +kernel) ?_
    refine And.intro (fun _ => ?_) (fun c_78 => absurd c_78 (by decide))
    show mp_W E X 3 13 [(0, .ref a0), (1, .long x0)] [] w3_ 0 0
    exact mp_vret hF hQ rfl (Nat.le_of_ble_eq_true rfl) (Nat.le_of_ble_eq_true rfl) [0, 1] (w' := w3_) rfl rfl ⟨r_8, r_9, r_10, r_11, r_12, y7, y8, rfl, l_16, u_17, l_18, u_19, l_20, u_21, (by first | omega | decide), (by first | omega | decide), (Or.inr (Or.inl ⟨x_28.1, x_28.2, by omega, x_29⟩)), x_30, rfl⟩ (by first | exact mp_fd_ok mp_k_cX10_asks_ok (by decide +kernel) | decide +kernel)
