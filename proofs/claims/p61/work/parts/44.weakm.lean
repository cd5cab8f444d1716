set_option maxHeartbeats 4000000 in
set_option maxRecDepth 100000 in
theorem bX10_ends_42 (E : mp_E) (a0 a1 a2 a3 a4 a5 a6 a7 a8 a9 a10 a11 a12 a13 a14 a15 a16 a17 a18 a19 a20 a21 a22 a23 a24 a25 : Nat) (f0 : Nat → Int32) (y0 : Int32) (y1 : Int32) (y2 : Int32) (y3 : Int32) (y4 : Int32) (y5 : Int32) (y6 : Int64) (y7 : Int32) (y8 : Int32) (y9 : Int32) (y10 : Int32) (y11 : Int32) (y12 : Int32) (y13 : Int32) (y14 : Int32) (y15 : Int32) (y16 : Int32) (y17 : Int32) (y18 : Int32) (y19 : Int32) (y20 : Int32) (y21 : Int32) (l_y1 : 0 ≤ y1.toInt) (u_y1 : y1.toInt ≤ 1600) (l_y2 : 0 ≤ y2.toInt) (u_y2 : y2.toInt ≤ 1600) (l_y3 : 0 ≤ y3.toInt) (u_y3 : y3.toInt ≤ 4) (l_y4 : 0 ≤ y4.toInt) (u_y4 : y4.toInt ≤ 1600) (l_y11 : 0 ≤ y11.toInt) (u_y11 : y11.toInt ≤ 99) (l_y12 : 0 ≤ y12.toInt) (u_y12 : y12.toInt ≤ 5) (l_y13 : 0 ≤ y13.toInt) (u_y13 : y13.toInt ≤ 12) (q0 : y2.toInt ≤ y1.toInt) (q1 : mp_MT f0 y1.toInt y3.toInt y4.toInt y2.toInt y5.toInt y6.toInt) : mp_Ct E yX10_ends cX10_ends 1 none 2 0 0 44 [.ref a0] [(mp_ob10 a0 y0 a2 a3 a4 a5 a1 y1 y2 y3 y4 y5 y6 y7 y8 y9 y10 a6 a7 a8 a9 a10 a11 a12 a13 y11 a14 a15 a16 a17 y12 y13 y14 a18 a19 y15 y16 a20 a21 a22 y17 y18 y19 y20 a23 a24 a25 y21), (mp_arI E a1 1 1600 f0)] (fun v w' => ∃ r1 : Int32, ∃ r2 : Int32, ∃ r3 : Int32, ∃ r4 : Int32, ∃ r5 : Int64, ∃ r6 : Int32, ∃ r7 : Int32, v = none ∧ 0 ≤ r1.toInt ∧ r1.toInt ≤ 1600 ∧ 0 ≤ r2.toInt ∧ r2.toInt ≤ 4 ∧ 0 ≤ r3.toInt ∧ r3.toInt ≤ 1600 ∧ (r1.toInt ≤ y1.toInt) ∧ ((5 * (y1.toInt - r1.toInt) + r2.toInt) ≤ (5 * (y1.toInt - y2.toInt) + y3.toInt)) ∧ (r6.toInt ≠ 0 ∨ (5 * (y1.toInt - r1.toInt) + r2.toInt) + 1 ≤ (5 * (y1.toInt - y2.toInt) + y3.toInt)) ∧ (mp_EK f0 y1.toInt y7.toInt y8.toInt y4.toInt r6.toInt r7.toInt r3.toInt) ∧ (mp_MT f0 y1.toInt r2.toInt r3.toInt r1.toInt r4.toInt r5.toInt) ∧ w' = [(mp_ob10 a0 y0 a2 a3 a4 a5 a1 y1 r1 r2 r3 r4 r5 r6 r7 y9 y10 a6 a7 a8 a9 a10 a11 a12 a13 y11 a14 a15 a16 a17 y12 y13 y14 a18 a19 y15 y16 a20 a21 a22 y17 y18 y19 y20 a23 a24 a25 y21), (mp_arI E a1 1 1600 f0)]) := by
  refine mp_met false (by decide) (by decide) (Nat.le_of_ble_eq_true rfl) (fun X hF hQ => ?_)
  have hF : mp_F E X (RX10, cX10_ends, 1, (2, 0, 0, 44), none, false) := hF
  let w1_ : va_W := [(mp_ob10 a0 y0 a2 a3 a4 a5 a1 y1 y2 y3 y4 y5 y6 y7 y8 y9 y10 a6 a7 a8 a9 a10 a11 a12 a13 y11 a14 a15 a16 a17 y12 y13 y14 a18 a19 y15 y16 a20 a21 a22 y17 y18 y19 y20 a23 a24 a25 y21), (mp_arI E a1 1 1600 f0)]
  show mp_W E X 1 0 [(0, .ref a0)] [] w1_ 0 0
  refine mp_run mp_k_cX10_ends_ok hF mp_tabX10_ok [mp_i (.aload_n 0), mp_h (.getfield 133) [8, 0], mp_c (.iconst 3) 3, mp_h (.if_icmp .eq 8) [13]] (by decide +kernel) ?_
  refine And.intro rfl (And.intro rfl ?_)
  refine And.intro (fun c_1 => ?_) (fun c_1 => ?_)
  · have c_1 : y3.toInt = 3 := (congrArg Int32.toInt c_1)
    show mp_W E X 1 13 [(0, .ref a0)] [] w1_ 0 0
    refine mp_run mp_k_cX10_ends_ok hF mp_tabX10_ok [mp_i (.aload_n 0), mp_h (.getfield 144) [12, 0], mp_h (.ifCond .ne 7) [24]] (by decide +kernel) ?_
    refine And.intro rfl (And.intro rfl ?_)
    refine And.intro (fun c_2 => ?_) (fun c_2 => ?_)
    · have c_2 : y7.toInt ≠ 0 := c_2
      show mp_W E X 1 24 [(0, .ref a0)] [] w1_ 0 0
      exact mp_vret hF hQ rfl (Nat.le_of_ble_eq_true rfl) (Nat.le_of_ble_eq_true rfl) [0, 1] (w' := w1_) rfl rfl ⟨y2, y3, y4, y5, y6, y7, y8, rfl, l_y2, u_y2, l_y3, u_y3, l_y4, u_y4, (by first | (first | exact q0 | omega) | decide), (by first | (first | exact mp_o1069 | omega) | decide), (by first | (first | exact mp_o1299 c_2 | omega) | decide), (by have i0 : (0 : Int32).toInt = 0 := rfl; have i1 : (1 : Int32).toInt = 1 := rfl; have i8 : (2 : Int32).toInt = 2 := rfl; have i9 : (3 : Int32).toInt = 3 := rfl; have k7 := q1.2.1; unfold mp_EK; (first | exact mp_o1300 c_2 | omega)), q1, rfl⟩ (by first | exact mp_fd_ok mp_k_cX10_ends_ok (by decide +kernel) | decide +kernel)
    · have c_2 : y7.toInt = 0 := (congrArg Int32.toInt c_2)
      show mp_W E X 1 20 [(0, .ref a0)] [] w1_ 0 0
      refine mp_run mp_k_cX10_ends_ok hF mp_tabX10_ok [mp_i (.aload_n 0)] (by decide +kernel) ?_
      show mp_W E X 1 21 [(0, .ref a0)] [.ref a0] w1_ 0 0
      refine mp_callV hF (As := []) (rest := []) (wr := []) (bX10_next_12 E a0 a1 a2 a3 a4 a5 a6 a7 a8 a9 a10 a11 a12 a13 a14 a15 a16 a17 a18 a19 a20 a21 a22 a23 a24 a25 f0 y0 y1 y2 y3 y4 y5 y6 y7 y8 y9 y10 y11 y12 y13 y14 y15 y16 y17 y18 y19 y20 y21 l_y1 u_y1 l_y2 u_y2 l_y3 u_y3 l_y4 u_y4 l_y11 u_y11 l_y12 u_y12 l_y13 u_y13 (by first | (first | exact q0 | omega) | (show y2.toInt ≤ y1.toInt; omega))) mp_lkX10_154 0 rfl [0, 1] [] rfl rfl rfl rfl rfl ⟨(Nat.le_of_ble_eq_true rfl), (Nat.le_of_ble_eq_true rfl), (Nat.le_of_ble_eq_true rfl), (Nat.le_of_ble_eq_true rfl)⟩ (Nat.le_of_ble_eq_true rfl) (by first | exact mp_fd_ok mp_k_cX10_ends_ok (by decide +kernel) | decide +kernel) (fun v_3 w_4 h_5 => ?_)
      refine h_5.elim fun r_6 q_25 => q_25.elim fun r_7 q_26 => q_26.elim fun r_8 q_27 => q_27.elim fun r_9 q_28 => q_28.elim fun r_10 q_29 => q_29.elim fun e_30 q_31 => q_31.elim fun l_11 q_32 => q_32.elim fun u_12 q_33 => q_33.elim fun l_13 q_34 => q_34.elim fun u_14 q_35 => q_35.elim fun l_15 q_36 => q_36.elim fun u_16 q_37 => q_37.elim fun l_17 q_38 => q_38.elim fun u_18 q_39 => q_39.elim fun l_19 q_40 => q_40.elim fun u_20 q_41 => q_41.elim fun x_21 q_42 => q_42.elim fun x_22 q_43 => q_43.elim fun x_23 q_44 => q_44.elim fun x_24 e_45 => ?_
      clear h_5 q_25 q_26 q_27 q_28 q_29 q_31 q_32 q_33 q_34 q_35 q_36 q_37 q_38 q_39 q_40 q_41 q_42 q_43 q_44
      subst e_30
      subst e_45
      let w2_ : va_W := [(mp_ob10 a0 y0 a2 a3 a4 a5 a1 y1 r_6 r_7 r_8 r_9 r_10 y7 y8 y9 y10 a6 a7 a8 a9 a10 a11 a12 a13 y11 a14 a15 a16 a17 y12 y13 y14 a18 a19 y15 y16 a20 a21 a22 y17 y18 y19 y20 a23 a24 a25 y21), (mp_arI E a1 1 1600 f0)]
      show mp_W E X 1 24 [(0, .ref a0)] [] w2_ 0 0
      exact mp_vret hF hQ rfl (Nat.le_of_ble_eq_true rfl) (Nat.le_of_ble_eq_true rfl) [0, 1] (w' := w2_) rfl rfl ⟨r_6, r_7, r_8, r_9, r_10, y7, y8, rfl, l_11, u_12, l_13, u_14, l_15, u_16, (by first | (first | exact x_21 | omega) | decide), (by first | (first | exact mp_o1301 x_22 u_14 c_1 | omega) | decide), (by first | (first | exact mp_o1302 x_22 u_14 c_1 | omega) | decide), (by have i0 : (0 : Int32).toInt = 0 := rfl; have i1 : (1 : Int32).toInt = 1 := rfl; have i8 : (2 : Int32).toInt = 2 := rfl; have i9 : (3 : Int32).toInt = 3 := rfl; have k7 := q1.2.1; have k6 : r_8.toInt = ((mp_NX f0 (y1.toInt).toNat (y4.toInt).toNat : Nat) : Int) := (by have k9 := x_23; unfold mp_NX; rw [← Int.toNat_natCast (mp_TE _ _ _), ← q1.2.2.1]; exact k9); exact Or.inr (Or.inl ⟨by (first | exact c_2 | omega), by (first | exact mp_o289 c_1 k7 | omega), by (first | exact c_2 | omega), k6⟩)), x_24, rfl⟩ (by first | exact mp_fd_ok mp_k_cX10_ends_ok (by decide +kernel) | decide +kernel)
  · have c_1 : y3.toInt ≠ 3 := c_1
    show mp_W E X 1 8 [(0, .ref a0)] [] w1_ 0 0
    refine mp_run mp_k_cX10_ends_ok hF mp_tabX10_ok [mp_i (.aload_n 0), mp_c (.iconst 1) 1] (by decide +kernel) ?_
    show mp_W E X 1 10 [(0, .ref a0)] [.int 1, .ref a0] w1_ 0 0
    refine mp_callV hF (As := [.int 1]) (rest := []) (wr := [(mp_arI E a1 1 1600 f0)]) (bX10_fails_20 E a0 a2 a3 a4 a5 a1 a6 a7 a8 a9 a10 a11 a12 a13 a14 a15 a16 a17 a18 a19 a20 a21 a22 a23 a24 a25 y0 y1 y2 y3 y4 y5 y6 y7 y8 y9 y10 y11 y12 y13 y14 y15 y16 y17 y18 y19 y20 y21 l_y1 u_y1 l_y2 u_y2 l_y3 u_y3 l_y4 u_y4 l_y11 u_y11 l_y12 u_y12 l_y13 u_y13) mp_lkX10_160 0 rfl [0] [1] rfl rfl rfl rfl rfl ⟨(Nat.le_of_ble_eq_true rfl), (Nat.le_of_ble_eq_true rfl), (Nat.le_of_ble_eq_true rfl), (Nat.le_of_ble_eq_true rfl)⟩ (Nat.le_of_ble_eq_true rfl) (by first | exact mp_fd_ok mp_k_cX10_ends_ok (by decide +kernel) | decide +kernel) (fun v_46 w_47 h_48 => ?_)
    refine h_48.elim fun r_49 q_53 => q_53.elim fun r_50 q_54 => q_54.elim fun e_55 q_56 => q_56.elim fun x_51 q_57 => q_57.elim fun x_52 e_58 => ?_
    clear h_48 q_53 q_54 q_56 q_57
    subst e_55
    subst e_58
    let w3_ : va_W := [(mp_arI E a1 1 1600 f0), (mp_ob10 a0 y0 a2 a3 a4 a5 a1 y1 y2 y3 y4 y5 y6 r_49 r_50 y9 y10 a6 a7 a8 a9 a10 a11 a12 a13 y11 a14 a15 a16 a17 y12 y13 y14 a18 a19 y15 y16 a20 a21 a22 y17 y18 y19 y20 a23 a24 a25 y21)]
    show mp_W E X 1 13 [(0, .ref a0)] [] w3_ 0 0
    refine mp_run mp_k_cX10_ends_ok hF mp_tabX10_ok [mp_i (.aload_n 0), mp_h (.getfield 144) [12, 1], mp_h (.ifCond .ne 7) [24]] (by decide +kernel) ?_
    refine And.intro rfl (And.intro rfl ?_)
    refine And.intro (fun c_59 => ?_) (fun c_59 => ?_)
    · have c_59 : r_49.toInt ≠ 0 := c_59
      show mp_W E X 1 24 [(0, .ref a0)] [] w3_ 0 0
      exact mp_vret hF hQ rfl (Nat.le_of_ble_eq_true rfl) (Nat.le_of_ble_eq_true rfl) [1, 0] (w' := [(mp_ob10 a0 y0 a2 a3 a4 a5 a1 y1 y2 y3 y4 y5 y6 r_49 r_50 y9 y10 a6 a7 a8 a9 a10 a11 a12 a13 y11 a14 a15 a16 a17 y12 y13 y14 a18 a19 y15 y16 a20 a21 a22 y17 y18 y19 y20 a23 a24 a25 y21), (mp_arI E a1 1 1600 f0)]) rfl rfl ⟨y2, y3, y4, y5, y6, r_49, r_50, rfl, l_y2, u_y2, l_y3, u_y3, l_y4, u_y4, (by first | (first | exact q0 | omega) | decide), (by first | (first | exact mp_o1069 | omega) | decide), (by first | (first | exact mp_o1299 c_59 | omega) | decide), (by have i0 : (0 : Int32).toInt = 0 := rfl; have i1 : (1 : Int32).toInt = 1 := rfl; have i8 : (2 : Int32).toInt = 2 := rfl; have i9 : (3 : Int32).toInt = 3 := rfl; have k7 := q1.2.1; unfold mp_EK; (first | exact mp_o1303 x_52 k7 c_1 | omega)), q1, rfl⟩ (by first | exact mp_fd_ok mp_k_cX10_ends_ok (by decide +kernel) | decide +kernel)
    · have c_59 : r_49.toInt = 0 := (congrArg Int32.toInt c_59)
      show mp_W E X 1 20 [(0, .ref a0)] [] w3_ 0 0
      refine mp_run mp_k_cX10_ends_ok hF mp_tabX10_ok [mp_i (.aload_n 0)] (by decide +kernel) ?_
      show mp_W E X 1 21 [(0, .ref a0)] [.ref a0] w3_ 0 0
      refine mp_callV hF (As := []) (rest := []) (wr := []) (bX10_next_12 E a0 a1 a2 a3 a4 a5 a6 a7 a8 a9 a10 a11 a12 a13 a14 a15 a16 a17 a18 a19 a20 a21 a22 a23 a24 a25 f0 y0 y1 y2 y3 y4 y5 y6 r_49 r_50 y9 y10 y11 y12 y13 y14 y15 y16 y17 y18 y19 y20 y21 l_y1 u_y1 l_y2 u_y2 l_y3 u_y3 l_y4 u_y4 l_y11 u_y11 l_y12 u_y12 l_y13 u_y13 (by first | (first | exact q0 | omega) | (show y2.toInt ≤ y1.toInt; omega))) mp_lkX10_154 1 rfl [1, 0] [] rfl rfl rfl rfl rfl ⟨(Nat.le_of_ble_eq_true rfl), (Nat.le_of_ble_eq_true rfl), (Nat.le_of_ble_eq_true rfl), (Nat.le_of_ble_eq_true rfl)⟩ (Nat.le_of_ble_eq_true rfl) (by first | exact mp_fd_ok mp_k_cX10_ends_ok (by decide +kernel) | decide +kernel) (fun v_60 w_61 h_62 => ?_)
      refine h_62.elim fun r_63 q_82 => q_82.elim fun r_64 q_83 => q_83.elim fun r_65 q_84 => q_84.elim fun r_66 q_85 => q_85.elim fun r_67 q_86 => q_86.elim fun e_87 q_88 => q_88.elim fun l_68 q_89 => q_89.elim fun u_69 q_90 => q_90.elim fun l_70 q_91 => q_91.elim fun u_71 q_92 => q_92.elim fun l_72 q_93 => q_93.elim fun u_73 q_94 => q_94.elim fun l_74 q_95 => q_95.elim fun u_75 q_96 => q_96.elim fun l_76 q_97 => q_97.elim fun u_77 q_98 => q_98.elim fun x_78 q_99 => q_99.elim fun x_79 q_100 => q_100.elim fun x_80 q_101 => q_101.elim fun x_81 e_102 => ?_
      clear h_62 q_82 q_83 q_84 q_85 q_86 q_88 q_89 q_90 q_91 q_92 q_93 q_94 q_95 q_96 q_97 q_98 q_99 q_100 q_101
      subst e_87
      subst e_102
      let w4_ : va_W := [(mp_ob10 a0 y0 a2 a3 a4 a5 a1 y1 r_63 r_64 r_65 r_66 r_67 r_49 r_50 y9 y10 a6 a7 a8 a9 a10 a11 a12 a13 y11 a14 a15 a16 a17 y12 y13 y14 a18 a19 y15 y16 a20 a21 a22 y17 y18 y19 y20 a23 a24 a25 y21), (mp_arI E a1 1 1600 f0)]
      show mp_W E X 1 24 [(0, .ref a0)] [] w4_ 0 0
      exact mp_vret hF hQ rfl (Nat.le_of_ble_eq_true rfl) (Nat.le_of_ble_eq_true rfl) [0, 1] (w' := w4_) rfl rfl ⟨r_63, r_64, r_65, r_66, r_67, r_49, r_50, rfl, l_68, u_69, l_70, u_71, l_72, u_73, (by first | (first | exact x_78 | omega) | decide), (by first | (first | exact mp_o1304 x_79 l_y3 u_71 | omega) | decide), (by first | (first | exact mp_o1305 x_52 | omega) | decide), (by have i0 : (0 : Int32).toInt = 0 := rfl; have i1 : (1 : Int32).toInt = 1 := rfl; have i8 : (2 : Int32).toInt = 2 := rfl; have i9 : (3 : Int32).toInt = 3 := rfl; have k7 := q1.2.1; have k6 : r_65.toInt = ((mp_NX f0 (y1.toInt).toNat (y4.toInt).toNat : Nat) : Int) := (by have k9 := x_80; unfold mp_NX; rw [← Int.toNat_natCast (mp_TE _ _ _), ← q1.2.2.1]; exact k9); exact Or.inr (Or.inl ⟨by (first | exact mp_o1306 c_59 x_52 | omega), by (first | exact mp_o1307 c_59 x_52 | omega), by (first | exact c_59 | omega), k6⟩)), x_81, rfl⟩ (by first | exact mp_fd_ok mp_k_cX10_ends_ok (by decide +kernel) | decide +kernel)
set_option maxHeartbeats 4000000 in
set_option maxRecDepth 100000 in
theorem bX10_number_43 (E : mp_E) (a0 a1 a2 a3 a4 a5 a6 a7 a8 a9 a10 a11 a12 a13 a14 a15 a16 a17 a18 a19 a20 a21 a22 a23 a24 a25 : Nat) (f0 : Nat → Int32) (y0 : Int32) (y1 : Int32) (y2 : Int32) (y3 : Int32) (y4 : Int32) (y5 : Int32) (y6 : Int64) (y7 : Int32) (y8 : Int32) (y9 : Int32) (y10 : Int32) (y11 : Int32) (y12 : Int32) (y13 : Int32) (y14 : Int32) (y15 : Int32) (y16 : Int32) (y17 : Int32) (y18 : Int32) (y19 : Int32) (y20 : Int32) (y21 : Int32) (l_y1 : 0 ≤ y1.toInt) (u_y1 : y1.toInt ≤ 1600) (l_y2 : 0 ≤ y2.toInt) (u_y2 : y2.toInt ≤ 1600) (l_y3 : 0 ≤ y3.toInt) (u_y3 : y3.toInt ≤ 4) (l_y4 : 0 ≤ y4.toInt) (u_y4 : y4.toInt ≤ 1600) (l_y11 : 0 ≤ y11.toInt) (u_y11 : y11.toInt ≤ 99) (l_y12 : 0 ≤ y12.toInt) (u_y12 : y12.toInt ≤ 5) (l_y13 : 0 ≤ y13.toInt) (u_y13 : y13.toInt ≤ 12) (q0 : y2.toInt ≤ y1.toInt) (q1 : mp_MT f0 y1.toInt y3.toInt y4.toInt y2.toInt y5.toInt y6.toInt) (q2 : 6 ≤ 1000000) : mp_Ct E yX10_number cX10_number 4 (some FieldType.int) 2 0 0 44 [.ref a0, .int 1, .int 6] [(mp_ob10 a0 y0 a2 a3 a4 a5 a1 y1 y2 y3 y4 y5 y6 y7 y8 y9 y10 a6 a7 a8 a9 a10 a11 a12 a13 y11 a14 a15 a16 a17 y12 y13 y14 a18 a19 y15 y16 a20 a21 a22 y17 y18 y19 y20 a23 a24 a25 y21), (mp_arI E a1 1 1600 f0)] (fun v w' => ∃ r1 : Int32, ∃ r2 : Int32, ∃ r3 : Int32, ∃ r4 : Int32, ∃ r5 : Int64, ∃ r6 : Int32, ∃ r7 : Int32, ∃ r8 : Int32, v = some (.int r8) ∧ 0 ≤ r1.toInt ∧ r1.toInt ≤ 1600 ∧ 0 ≤ r2.toInt ∧ r2.toInt ≤ 4 ∧ 0 ≤ r3.toInt ∧ r3.toInt ≤ 1600 ∧ 1 ≤ r8.toInt ∧ r8.toInt ≤ 6 ∧ (r1.toInt ≤ y1.toInt) ∧ ((5 * (y1.toInt - r1.toInt) + r2.toInt) ≤ (5 * (y1.toInt - y2.toInt) + y3.toInt)) ∧ (r6.toInt ≠ 0 ∨ (1 ≤ r8.toInt ∧ r8.toInt ≤ 6)) ∧ (mp_NK f0 y1.toInt y7.toInt y8.toInt y4.toInt r6.toInt r7.toInt r3.toInt 1 6 r8.toInt) ∧ (mp_MT f0 y1.toInt r2.toInt r3.toInt r1.toInt r4.toInt r5.toInt) ∧ w' = [(mp_ob10 a0 y0 a2 a3 a4 a5 a1 y1 r1 r2 r3 r4 r5 r6 r7 y9 y10 a6 a7 a8 a9 a10 a11 a12 a13 y11 a14 a15 a16 a17 y12 y13 y14 a18 a19 y15 y16 a20 a21 a22 y17 y18 y19 y20 a23 a24 a25 y21), (mp_arI E a1 1 1600 f0)]) := by
  refine mp_met false (by decide) (by decide) (Nat.le_of_ble_eq_true rfl) (fun X hF hQ => ?_)
  have hF : mp_F E X (RX10, cX10_number, 4, (2, 0, 0, 44), (some FieldType.int), false) := hF
  let w1_ : va_W := [(mp_ob10 a0 y0 a2 a3 a4 a5 a1 y1 y2 y3 y4 y5 y6 y7 y8 y9 y10 a6 a7 a8 a9 a10 a11 a12 a13 y11 a14 a15 a16 a17 y12 y13 y14 a18 a19 y15 y16 a20 a21 a22 y17 y18 y19 y20 a23 a24 a25 y21), (mp_arI E a1 1 1600 f0)]
  show mp_W E X 4 0 [(0, .ref a0), (1, .int 1), (2, .int 6)] [] w1_ 0 0
  refine mp_run mp_k_cX10_number_ok hF mp_tabX10_ok [mp_i (.aload_n 0), mp_h (.getfield 144) [12, 0], mp_h (.ifCond .eq 5) [9]] (by decide +kernel) ?_
  refine And.intro rfl (And.intro rfl ?_)
  refine And.intro (fun c_1 => ?_) (fun c_1 => ?_)
  · have c_1 : y7.toInt = 0 := (congrArg Int32.toInt c_1)
    show mp_W E X 4 9 [(0, .ref a0), (1, .int 1), (2, .int 6)] [] w1_ 0 0
    refine mp_run mp_k_cX10_number_ok hF mp_tabX10_ok [mp_i (.aload_n 0), mp_h (.getfield 133) [8, 0], mp_c (.iconst 2) 2, mp_h (.if_icmp .eq 10) [24]] (by decide +kernel) ?_
    refine And.intro rfl (And.intro rfl ?_)
    refine And.intro (fun c_2 => ?_) (fun c_2 => ?_)
    · have c_2 : y3.toInt = 2 := (congrArg Int32.toInt c_2)
      show mp_W E X 4 24 [(0, .ref a0), (1, .int 1), (2, .int 6)] [] w1_ 0 0
      refine mp_run mp_k_cX10_number_ok hF mp_tabX10_ok [mp_i (.aload_n 0), mp_h (.getfield 126) [10, 0], mp_i .i2l, mp_i (.iload_n 1), mp_i .i2l, mp_i (.iload_n 2), mp_i .i2l] (by decide +kernel) ?_
      refine And.intro rfl (And.intro rfl ?_)
      intro z_3 h_4
      have e_5 : z_3.toInt = y5.toInt := mp_i2l h_4
      intro z_6 h_7
      obtain rfl : z_6 = 1 := h_7.trans (by decide)
      intro z_8 h_9
      obtain rfl : z_8 = 6 := h_9.trans (by decide)
      show mp_W E X 4 33 [(0, .ref a0), (1, .int 1), (2, .int 6)] [.long 6, .long 1, .long z_3] w1_ 0 0
      refine mp_callS hF (As := [.long z_3, .long 1, .long 6]) (rest := []) (wr := w1_) (bX10_in_0 E z_3 1 6) mp_lkX10_97 [] [0, 1] rfl rfl rfl rfl rfl ⟨(Nat.le_of_ble_eq_true rfl), (Nat.le_of_ble_eq_true rfl), (Nat.le_of_ble_eq_true rfl), (Nat.le_of_ble_eq_true rfl)⟩ (Nat.le_of_ble_eq_true rfl) (by first | exact mp_fd_ok mp_k_cX10_number_ok (by decide +kernel) | decide +kernel) (fun v_10 w_11 h_12 => ?_)
      rcases h_12 with ⟨rfl, x_13, rfl⟩ | ⟨rfl, c_14, c_15, rfl⟩
      · skip
        have i_16 : (1 : Int64).toInt = 1 := by decide
        have i_17 : (6 : Int64).toInt = 6 := by decide
        show mp_W E X 4 36 [(0, .ref a0), (1, .int 1), (2, .int 6)] [.int 0] w1_ 0 0
        refine mp_run mp_k_cX10_number_ok hF mp_tabX10_ok [mp_h (.ifCond .ne 10) [46]] (by decide +kernel) ?_
        refine And.intro (fun c_18 => absurd c_18 (by decide)) (fun _ => ?_)
        show mp_W E X 4 39 [(0, .ref a0), (1, .int 1), (2, .int 6)] [] w1_ 0 0
        refine mp_run mp_k_cX10_number_ok hF mp_tabX10_ok [mp_i (.aload_n 0), mp_c (.iconst 2) 2] (by decide +kernel) ?_
        show mp_W E X 4 41 [(0, .ref a0), (1, .int 1), (2, .int 6)] [.int 2, .ref a0] w1_ 0 0
        refine mp_callV hF (As := [.int 2]) (rest := []) (wr := [(mp_arI E a1 1 1600 f0)]) (bX10_fails_23 E a0 a2 a3 a4 a5 a1 a6 a7 a8 a9 a10 a11 a12 a13 a14 a15 a16 a17 a18 a19 a20 a21 a22 a23 a24 a25 y0 y1 y2 y3 y4 y5 y6 y7 y8 y9 y10 y11 y12 y13 y14 y15 y16 y17 y18 y19 y20 y21 l_y1 u_y1 l_y2 u_y2 l_y3 u_y3 l_y4 u_y4 l_y11 u_y11 l_y12 u_y12 l_y13 u_y13) mp_lkX10_160 0 rfl [0] [1] rfl rfl rfl rfl rfl ⟨(Nat.le_of_ble_eq_true rfl), (Nat.le_of_ble_eq_true rfl), (Nat.le_of_ble_eq_true rfl), (Nat.le_of_ble_eq_true rfl)⟩ (Nat.le_of_ble_eq_true rfl) (by first | exact mp_fd_ok mp_k_cX10_number_ok (by decide +kernel) | decide +kernel) (fun v_19 w_20 h_21 => ?_)
        refine h_21.elim fun r_22 q_26 => q_26.elim fun r_23 q_27 => q_27.elim fun e_28 q_29 => q_29.elim fun x_24 q_30 => q_30.elim fun x_25 e_31 => ?_
        clear h_21 q_26 q_27 q_29 q_30
        subst e_28
        subst e_31
        let w2_ : va_W := [(mp_arI E a1 1 1600 f0), (mp_ob10 a0 y0 a2 a3 a4 a5 a1 y1 y2 y3 y4 y5 y6 r_22 r_23 y9 y10 a6 a7 a8 a9 a10 a11 a12 a13 y11 a14 a15 a16 a17 y12 y13 y14 a18 a19 y15 y16 a20 a21 a22 y17 y18 y19 y20 a23 a24 a25 y21)]
        show mp_W E X 4 44 [(0, .ref a0), (1, .int 1), (2, .int 6)] [] w2_ 0 0
        refine mp_run mp_k_cX10_number_ok hF mp_tabX10_ok [mp_i (.iload_n 1)] (by decide +kernel) ?_
        show mp_W E X 4 45 [(0, .ref a0), (1, .int 1), (2, .int 6)] [.int 1] w2_ 0 0
        exact mp_iret hF hQ rfl rfl (Nat.le_of_ble_eq_true rfl) (Nat.le_of_ble_eq_true rfl) [1, 0] (w' := [(mp_ob10 a0 y0 a2 a3 a4 a5 a1 y1 y2 y3 y4 y5 y6 r_22 r_23 y9 y10 a6 a7 a8 a9 a10 a11 a12 a13 y11 a14 a15 a16 a17 y12 y13 y14 a18 a19 y15 y16 a20 a21 a22 y17 y18 y19 y20 a23 a24 a25 y21), (mp_arI E a1 1 1600 f0)]) rfl rfl ⟨y2, y3, y4, y5, y6, r_22, r_23, 1, rfl, l_y2, u_y2, l_y3, u_y3, l_y4, u_y4, (by decide), (by decide), (by first | (first | exact q0 | omega) | decide), (by first | (first | exact mp_o1069 | omega) | decide), (by first | (first | exact mp_o1308 x_25 | omega) | decide), (mp_NK_l3 q1 (by (first | exact c_2 | omega)) (by (first | exact c_1 | omega)) (by (first | exact mp_o1309 i_16 i_17 e_5 x_13 | omega)) (by first | (first | exact mp_o271 | omega) | exact q2) (by first | (first | exact mp_o1078 c_1 x_25 | omega) | decide) (by (first | exact mp_o1079 c_1 x_25 | omega))), q1, rfl⟩ (by first | exact mp_fd_ok mp_k_cX10_number_ok (by decide +kernel) | decide +kernel)
      · skip
        have c_14 : 1 ≤ z_3.toInt := c_14
        have c_15 : z_3.toInt ≤ 6 := c_15
        have i_32 : (1 : Int64).toInt = 1 := by decide
        have i_33 : (6 : Int64).toInt = 6 := by decide
        show mp_W E X 4 36 [(0, .ref a0), (1, .int 1), (2, .int 6)] [.int 1] w1_ 0 0
        refine mp_run mp_k_cX10_number_ok hF mp_tabX10_ok [mp_h (.ifCond .ne 10) [46]] (by decide +kernel) ?_
        refine And.intro (fun _ => ?_) (fun c_34 => absurd c_34 (by decide))
        show mp_W E X 4 46 [(0, .ref a0), (1, .int 1), (2, .int 6)] [] w1_ 0 0
        refine mp_run mp_k_cX10_number_ok hF mp_tabX10_ok [mp_i (.aload_n 0), mp_h (.getfield 126) [10, 0], mp_i (.istore_n 3), mp_i (.aload_n 0)] (by decide +kernel) ?_
        refine And.intro rfl (And.intro rfl ?_)
        show mp_W E X 4 52 [(3, .int y5), (0, .ref a0), (1, .int 1), (2, .int 6)] [.ref a0] w1_ 0 0
        refine mp_callV hF (As := []) (rest := []) (wr := []) (bX10_next_12 E a0 a1 a2 a3 a4 a5 a6 a7 a8 a9 a10 a11 a12 a13 a14 a15 a16 a17 a18 a19 a20 a21 a22 a23 a24 a25 f0 y0 y1 y2 y3 y4 y5 y6 y7 y8 y9 y10 y11 y12 y13 y14 y15 y16 y17 y18 y19 y20 y21 l_y1 u_y1 l_y2 u_y2 l_y3 u_y3 l_y4 u_y4 l_y11 u_y11 l_y12 u_y12 l_y13 u_y13 (by first | (first | exact q0 | omega) | (show y2.toInt ≤ y1.toInt; omega))) mp_lkX10_154 0 rfl [0, 1] [] rfl rfl rfl rfl rfl ⟨(Nat.le_of_ble_eq_true rfl), (Nat.le_of_ble_eq_true rfl), (Nat.le_of_ble_eq_true rfl), (Nat.le_of_ble_eq_true rfl)⟩ (Nat.le_of_ble_eq_true rfl) (by first | exact mp_fd_ok mp_k_cX10_number_ok (by decide +kernel) | decide +kernel) (fun v_35 w_36 h_37 => ?_)
        refine h_37.elim fun r_38 q_57 => q_57.elim fun r_39 q_58 => q_58.elim fun r_40 q_59 => q_59.elim fun r_41 q_60 => q_60.elim fun r_42 q_61 => q_61.elim fun e_62 q_63 => q_63.elim fun l_43 q_64 => q_64.elim fun u_44 q_65 => q_65.elim fun l_45 q_66 => q_66.elim fun u_46 q_67 => q_67.elim fun l_47 q_68 => q_68.elim fun u_48 q_69 => q_69.elim fun l_49 q_70 => q_70.elim fun u_50 q_71 => q_71.elim fun l_51 q_72 => q_72.elim fun u_52 q_73 => q_73.elim fun x_53 q_74 => q_74.elim fun x_54 q_75 => q_75.elim fun x_55 q_76 => q_76.elim fun x_56 e_77 => ?_
        clear h_37 q_57 q_58 q_59 q_60 q_61 q_63 q_64 q_65 q_66 q_67 q_68 q_69 q_70 q_71 q_72 q_73 q_74 q_75 q_76
        subst e_62
        subst e_77
        let w3_ : va_W := [(mp_ob10 a0 y0 a2 a3 a4 a5 a1 y1 r_38 r_39 r_40 r_41 r_42 y7 y8 y9 y10 a6 a7 a8 a9 a10 a11 a12 a13 y11 a14 a15 a16 a17 y12 y13 y14 a18 a19 y15 y16 a20 a21 a22 y17 y18 y19 y20 a23 a24 a25 y21), (mp_arI E a1 1 1600 f0)]
        show mp_W E X 4 55 [(3, .int y5), (0, .ref a0), (1, .int 1), (2, .int 6)] [] w3_ 0 0
        refine mp_run mp_k_cX10_number_ok hF mp_tabX10_ok [mp_i (.iload_n 3)] (by decide +kernel) ?_
        show mp_W E X 4 56 [(3, .int y5), (0, .ref a0), (1, .int 1), (2, .int 6)] [.int y5] w3_ 0 0
        exact mp_iret hF hQ rfl rfl (Nat.le_of_ble_eq_true rfl) (Nat.le_of_ble_eq_true rfl) [0, 1] (w' := w3_) rfl rfl ⟨r_38, r_39, r_40, r_41, r_42, y7, y8, y5, rfl, l_43, u_44, l_45, u_46, l_47, u_48, (by (first | exact mp_o1310 c_14 e_5 | omega)), (by (first | exact mp_o1311 e_5 c_15 | omega)), (by first | (first | exact x_53 | omega) | decide), (by first | (first | exact mp_o1081 x_54 u_46 c_2 | omega) | decide), (by first | (first | exact mp_o1312 c_14 e_5 c_15 | omega) | decide), (mp_NK_l4 q1 (by (first | exact c_2 | omega)) (by (first | exact c_1 | omega)) (by (first | exact mp_o1313 c_14 e_5 c_15 | omega)) (by first | (first | exact mp_o271 | omega) | exact q2) (by first | rfl | omega) (by first | (first | exact c_1 | omega) | decide) (show r_40.toInt = ((mp_NX f0 (y1.toInt).toNat (y4.toInt).toNat : Nat) : Int) from (by have k9 := x_55; unfold mp_NX; rw [← Int.toNat_natCast (mp_TE _ _ _), ← q1.2.2.1]; exact k9))), x_56, rfl⟩ (by first | exact mp_fd_ok mp_k_cX10_number_ok (by decide +kernel) | decide +kernel)
    · have c_2 : y3.toInt ≠ 2 := c_2
      show mp_W E X 4 17 [(0, .ref a0), (1, .int 1), (2, .int 6)] [] w1_ 0 0
      refine mp_run mp_k_cX10_number_ok hF mp_tabX10_ok [mp_i (.aload_n 0), mp_c (.iconst 1) 1] (by decide +kernel) ?_
      show mp_W E X 4 19 [(0, .ref a0), (1, .int 1), (2, .int 6)] [.int 1, .ref a0] w1_ 0 0
      refine mp_callV hF (As := [.int 1]) (rest := []) (wr := [(mp_arI E a1 1 1600 f0)]) (bX10_fails_20 E a0 a2 a3 a4 a5 a1 a6 a7 a8 a9 a10 a11 a12 a13 a14 a15 a16 a17 a18 a19 a20 a21 a22 a23 a24 a25 y0 y1 y2 y3 y4 y5 y6 y7 y8 y9 y10 y11 y12 y13 y14 y15 y16 y17 y18 y19 y20 y21 l_y1 u_y1 l_y2 u_y2 l_y3 u_y3 l_y4 u_y4 l_y11 u_y11 l_y12 u_y12 l_y13 u_y13) mp_lkX10_160 0 rfl [0] [1] rfl rfl rfl rfl rfl ⟨(Nat.le_of_ble_eq_true rfl), (Nat.le_of_ble_eq_true rfl), (Nat.le_of_ble_eq_true rfl), (Nat.le_of_ble_eq_true rfl)⟩ (Nat.le_of_ble_eq_true rfl) (by first | exact mp_fd_ok mp_k_cX10_number_ok (by decide +kernel) | decide +kernel) (fun v_78 w_79 h_80 => ?_)
      refine h_80.elim fun r_81 q_85 => q_85.elim fun r_82 q_86 => q_86.elim fun e_87 q_88 => q_88.elim fun x_83 q_89 => q_89.elim fun x_84 e_90 => ?_
      clear h_80 q_85 q_86 q_88 q_89
      subst e_87
      subst e_90
      let w4_ : va_W := [(mp_arI E a1 1 1600 f0), (mp_ob10 a0 y0 a2 a3 a4 a5 a1 y1 y2 y3 y4 y5 y6 r_81 r_82 y9 y10 a6 a7 a8 a9 a10 a11 a12 a13 y11 a14 a15 a16 a17 y12 y13 y14 a18 a19 y15 y16 a20 a21 a22 y17 y18 y19 y20 a23 a24 a25 y21)]
      show mp_W E X 4 22 [(0, .ref a0), (1, .int 1), (2, .int 6)] [] w4_ 0 0
      refine mp_run mp_k_cX10_number_ok hF mp_tabX10_ok [mp_i (.iload_n 1)] (by decide +kernel) ?_
      show mp_W E X 4 23 [(0, .ref a0), (1, .int 1), (2, .int 6)] [.int 1] w4_ 0 0
      exact mp_iret hF hQ rfl rfl (Nat.le_of_ble_eq_true rfl) (Nat.le_of_ble_eq_true rfl) [1, 0] (w' := [(mp_ob10 a0 y0 a2 a3 a4 a5 a1 y1 y2 y3 y4 y5 y6 r_81 r_82 y9 y10 a6 a7 a8 a9 a10 a11 a12 a13 y11 a14 a15 a16 a17 y12 y13 y14 a18 a19 y15 y16 a20 a21 a22 y17 y18 y19 y20 a23 a24 a25 y21), (mp_arI E a1 1 1600 f0)]) rfl rfl ⟨y2, y3, y4, y5, y6, r_81, r_82, 1, rfl, l_y2, u_y2, l_y3, u_y3, l_y4, u_y4, (by decide), (by decide), (by first | (first | exact q0 | omega) | decide), (by first | (first | exact mp_o1069 | omega) | decide), (by first | (first | exact mp_o1314 x_84 | omega) | decide), (mp_NK_l2 q1 (by (first | exact c_2 | omega)) (by (first | exact c_1 | omega)) (by first | (first | exact mp_o1085 c_1 x_84 | omega) | decide) (by (first | exact mp_o1086 c_1 x_84 | omega))), q1, rfl⟩ (by first | exact mp_fd_ok mp_k_cX10_number_ok (by decide +kernel) | decide +kernel)
  · have c_1 : y7.toInt ≠ 0 := c_1
    show mp_W E X 4 7 [(0, .ref a0), (1, .int 1), (2, .int 6)] [] w1_ 0 0
    refine mp_run mp_k_cX10_number_ok hF mp_tabX10_ok [mp_i (.iload_n 1)] (by decide +kernel) ?_
    show mp_W E X 4 8 [(0, .ref a0), (1, .int 1), (2, .int 6)] [.int 1] w1_ 0 0
    exact mp_iret hF hQ rfl rfl (Nat.le_of_ble_eq_true rfl) (Nat.le_of_ble_eq_true rfl) [0, 1] (w' := w1_) rfl rfl ⟨y2, y3, y4, y5, y6, y7, y8, 1, rfl, l_y2, u_y2, l_y3, u_y3, l_y4, u_y4, (by decide), (by decide), (by first | (first | exact q0 | omega) | decide), (by first | (first | exact mp_o1069 | omega) | decide), (by first | (first | exact mp_o1315 c_1 | omega) | decide), (mp_NK_l1 (by (first | exact c_1 | omega)) (by first | rfl | omega) (by first | rfl | omega)), q1, rfl⟩ (by first | exact mp_fd_ok mp_k_cX10_number_ok (by decide +kernel) | decide +kernel)
set_option maxHeartbeats 4000000 in
set_option maxRecDepth 100000 in
theorem bX10_isOver_44 (E : mp_E) (a0 a1 a2 a3 a4 a5 a6 a7 a8 a9 a10 a11 a12 a13 a14 a15 a16 a17 a18 a19 a20 a21 a22 a23 a24 a25 : Nat) (y0 : Int32) (y1 : Int32) (y2 : Int32) (y3 : Int32) (y4 : Int32) (y5 : Int32) (y6 : Int64) (y7 : Int32) (y8 : Int32) (y9 : Int32) (y10 : Int32) (y11 : Int32) (y12 : Int32) (y13 : Int32) (y14 : Int32) (y15 : Int32) (y16 : Int32) (y17 : Int32) (y18 : Int32) (y19 : Int32) (y20 : Int32) (y21 : Int32) (l_y1 : 0 ≤ y1.toInt) (u_y1 : y1.toInt ≤ 1600) (l_y2 : 0 ≤ y2.toInt) (u_y2 : y2.toInt ≤ 1600) (l_y3 : 0 ≤ y3.toInt) (u_y3 : y3.toInt ≤ 4) (l_y4 : 0 ≤ y4.toInt) (u_y4 : y4.toInt ≤ 1600) (l_y11 : 0 ≤ y11.toInt) (u_y11 : y11.toInt ≤ 99) (l_y12 : 0 ≤ y12.toInt) (u_y12 : y12.toInt ≤ 5) (l_y13 : 0 ≤ y13.toInt) (u_y13 : y13.toInt ≤ 12) : mp_Ct E yX10_isOver cX10_isOver 1 none 0 0 0 0 [.ref a0] [(mp_ob10 a0 y0 a1 a2 a3 a4 a5 y1 y2 y3 y4 y5 y6 y7 y8 y9 y10 a6 a7 a8 a9 a10 a11 a12 a13 y11 a14 a15 a16 a17 y12 y13 y14 a18 a19 y15 y16 a20 a21 a22 y17 y18 y19 y20 a23 a24 a25 y21)] (fun v w' => ∃ r1 : Int32, v = none ∧ (y7.toInt = y7.toInt) ∧ ((y7.toInt = 0 ∧ r1.toInt = -1) ∨ (y7.toInt ≠ 0 ∧ r1.toInt = y8.toInt)) ∧ (0 = 0) ∧ w' = [(mp_ob10 a0 y0 a1 a2 a3 a4 a5 0 y2 y3 y4 y5 y6 y7 y8 y7 r1 a6 a7 a8 a9 a10 a11 a12 a13 y11 a14 a15 a16 a17 y12 y13 y14 a18 a19 y15 y16 a20 a21 a22 y17 y18 y19 y20 a23 a24 a25 y21)]) := by
  refine mp_met false (by decide) (by decide) (Nat.le_of_ble_eq_true rfl) (fun X hF hQ => ?_)
  have hF : mp_F E X (RX10, cX10_isOver, 1, (0, 0, 0, 0), none, false) := hF
  let w1_ : va_W := [(mp_ob10 a0 y0 a1 a2 a3 a4 a5 y1 y2 y3 y4 y5 y6 y7 y8 y9 y10 a6 a7 a8 a9 a10 a11 a12 a13 y11 a14 a15 a16 a17 y12 y13 y14 a18 a19 y15 y16 a20 a21 a22 y17 y18 y19 y20 a23 a24 a25 y21)]
  show mp_W E X 1 0 [(0, .ref a0)] [] w1_ 0 0
  refine mp_run mp_k_cX10_isOver_ok hF mp_tabX10_ok [mp_i (.aload_n 0), mp_c (.iconst 0) 0, mp_h (.putfield 109) [6, 0]] (by decide +kernel) ?_
  refine And.intro rfl (And.intro rfl (And.intro rfl (And.intro rfl (And.intro (Nat.le_of_ble_eq_true rfl) ?_))))
  let w2_ : va_W := [(mp_ob10 a0 y0 a1 a2 a3 a4 a5 0 y2 y3 y4 y5 y6 y7 y8 y9 y10 a6 a7 a8 a9 a10 a11 a12 a13 y11 a14 a15 a16 a17 y12 y13 y14 a18 a19 y15 y16 a20 a21 a22 y17 y18 y19 y20 a23 a24 a25 y21)]
  show mp_W E X 1 5 [(0, .ref a0)] [] w2_ 0 0
  refine mp_run mp_k_cX10_isOver_ok hF mp_tabX10_ok [mp_i (.aload_n 0), mp_i (.aload_n 0), mp_h (.getfield 144) [12, 0], mp_h (.putfield 171) [14, 0]] (by decide +kernel) ?_
  refine And.intro rfl (And.intro rfl ?_)
  refine And.intro rfl (And.intro rfl (And.intro rfl (And.intro rfl (And.intro (Nat.le_of_ble_eq_true rfl) ?_))))
  let w3_ : va_W := [(mp_ob10 a0 y0 a1 a2 a3 a4 a5 0 y2 y3 y4 y5 y6 y7 y8 y7 y10 a6 a7 a8 a9 a10 a11 a12 a13 y11 a14 a15 a16 a17 y12 y13 y14 a18 a19 y15 y16 a20 a21 a22 y17 y18 y19 y20 a23 a24 a25 y21)]
  show mp_W E X 1 13 [(0, .ref a0)] [] w3_ 0 0
  refine mp_run mp_k_cX10_isOver_ok hF mp_tabX10_ok [mp_i (.aload_n 0), mp_i (.aload_n 0), mp_h (.getfield 144) [12, 0], mp_h (.ifCond .ne 7) [25]] (by decide +kernel) ?_
  refine And.intro rfl (And.intro rfl ?_)
  refine And.intro (fun c_1 => ?_) (fun c_1 => ?_)
  · have c_1 : y7.toInt ≠ 0 := c_1
    show mp_W E X 1 25 [(0, .ref a0)] [.ref a0] w3_ 0 0
    refine mp_run mp_k_cX10_isOver_ok hF mp_tabX10_ok [mp_i (.aload_n 0), mp_h (.getfield 147) [13, 0], mp_h (.putfield 27) [15, 0]] (by decide +kernel) ?_
    refine And.intro rfl (And.intro rfl ?_)
    refine And.intro rfl (And.intro rfl (And.intro rfl (And.intro rfl (And.intro (Nat.le_of_ble_eq_true rfl) ?_))))
    let w4_ : va_W := [(mp_ob10 a0 y0 a1 a2 a3 a4 a5 0 y2 y3 y4 y5 y6 y7 y8 y7 y8 a6 a7 a8 a9 a10 a11 a12 a13 y11 a14 a15 a16 a17 y12 y13 y14 a18 a19 y15 y16 a20 a21 a22 y17 y18 y19 y20 a23 a24 a25 y21)]
    show mp_W E X 1 32 [(0, .ref a0)] [] w4_ 0 0
    exact mp_vret hF hQ rfl (Nat.le_of_ble_eq_true rfl) (Nat.le_of_ble_eq_true rfl) [0] (w' := w4_) rfl rfl ⟨y8, rfl, (by first | rfl | omega | decide), (by have i0 : (0 : Int32).toInt = 0 := rfl; have i2 : (-1 : Int32).toInt = -1 := rfl; (first | exact mp_o1316 c_1 | omega)), (by first | (first | exact mp_o355 | omega) | decide), rfl⟩ (by first | exact mp_fd_ok mp_k_cX10_isOver_ok (by decide +kernel) | decide +kernel)
  · have c_1 : y7.toInt = 0 := (congrArg Int32.toInt c_1)
    show mp_W E X 1 21 [(0, .ref a0)] [.ref a0] w3_ 0 0
    refine mp_run mp_k_cX10_isOver_ok hF mp_tabX10_ok [mp_c (.iconst (-1)) (-1), mp_h (.goto 7) [29], mp_h (.putfield 27) [15, 0]] (by decide +kernel) ?_
    refine And.intro rfl (And.intro rfl (And.intro rfl (And.intro rfl (And.intro (Nat.le_of_ble_eq_true rfl) ?_))))
    let w5_ : va_W := [(mp_ob10 a0 y0 a1 a2 a3 a4 a5 0 y2 y3 y4 y5 y6 y7 y8 y7 (-1) a6 a7 a8 a9 a10 a11 a12 a13 y11 a14 a15 a16 a17 y12 y13 y14 a18 a19 y15 y16 a20 a21 a22 y17 y18 y19 y20 a23 a24 a25 y21)]
    show mp_W E X 1 32 [(0, .ref a0)] [] w5_ 0 0
    exact mp_vret hF hQ rfl (Nat.le_of_ble_eq_true rfl) (Nat.le_of_ble_eq_true rfl) [0] (w' := w5_) rfl rfl ⟨(-1), rfl, (by first | rfl | omega | decide), (by have i0 : (0 : Int32).toInt = 0 := rfl; have i2 : (-1 : Int32).toInt = -1 := rfl; (first | exact mp_o1317 c_1 i2 | omega)), (by first | (first | exact mp_o355 | omega) | decide), rfl⟩ (by first | exact mp_fd_ok mp_k_cX10_isOver_ok (by decide +kernel) | decide +kernel)
set_option maxHeartbeats 4000000 in
set_option maxRecDepth 100000 in
theorem bX10_copyRow_45 (E : mp_E) (a0 : Nat) (f0 : Nat → Int32) : mp_Ct E yX10_copyRow cX10_copyRow 5 none 0 0 0 0 [.ref a0, .int 1, .int 4, .int 0] [(mp_arI E a0 0 5 f0)] (fun v w' => ∃ h1 : Nat → Int32, v = none ∧ (h1 = mp_cpr f0 4 0 1) ∧ w' = [(mp_arI E a0 0 5 h1)]) := by
  refine mp_met false (by decide) (by decide) (Nat.le_of_ble_eq_true rfl) (fun X hF hQ => ?_)
  have hF : mp_F E X (RX10, cX10_copyRow, 5, (0, 0, 0, 0), none, false) := hF
  show mp_W E X 5 0 [(0, .ref a0), (1, .int 1), (2, .int 4), (3, .int 0)] [] [(mp_arI E a0 0 5 f0)] 0 0
  refine mp_run mp_k_cX10_copyRow_ok hF mp_tabX10_ok [mp_c (.iconst 0) 0, mp_i (.istore 4)] (by decide +kernel) ?_
  show mp_W E X 5 3 [(4, .int 0), (0, .ref a0), (1, .int 1), (2, .int 4), (3, .int 0)] [] [(mp_arI E a0 0 5 f0)] 0 0
  have lp_7 : ∀ (d_8 : Nat) (i_1 : Int32) (g_2 : Nat → Int32), 0 ≤ i_1.toInt → i_1.toInt ≤ 1 → (g_2 = mp_cpr f0 4 0 i_1.toInt.toNat) → (i_1.toInt ≤ 1) → -(i_1.toInt) + 1 ≤ (d_8 : Int) → mp_W E X 5 3 [(4, .int i_1), (0, .ref a0), (1, .int 1), (2, .int 4), (3, .int 0)] [] [(mp_arI E a0 0 5 g_2)] 0 0 := by
    intro d_8
    induction d_8 using Nat.strongRecOn with
    | ind d_8 ih_9 =>
      intro i_1 g_2 l_3 u_4 x_5 x_6 hm_10
      refine mp_run mp_k_cX10_copyRow_ok hF mp_tabX10_ok [mp_i (.iload 4), mp_i (.iload_n 1), mp_h (.if_icmp .ge 25) [31]] (by decide +kernel) ?_
      refine And.intro (fun c_11 => ?_) (fun c_11 => ?_)
      · have c_11 : 1 ≤ i_1.toInt := c_11
        show mp_W E X 5 31 [(4, .int i_1), (0, .ref a0), (1, .int 1), (2, .int 4), (3, .int 0)] [] [(mp_arI E a0 0 5 g_2)] 0 0
        exact mp_vret hF hQ rfl (Nat.le_of_ble_eq_true rfl) (Nat.le_of_ble_eq_true rfl) [0] (w' := [(mp_arI E a0 0 5 g_2)]) rfl rfl ⟨g_2, rfl, (by rw [show i_1.toInt.toNat = 1 by (first | exact mp_o1318 c_11 u_4 | omega)] at x_5; exact x_5), rfl⟩ (by first | exact mp_fd_ok mp_k_cX10_copyRow_ok (by decide +kernel) | decide +kernel)
      · have c_11 : i_1.toInt < 1 := c_11
        show mp_W E X 5 9 [(4, .int i_1), (0, .ref a0), (1, .int 1), (2, .int 4), (3, .int 0)] [] [(mp_arI E a0 0 5 g_2)] 0 0
        refine mp_run mp_k_cX10_copyRow_ok hF mp_tabX10_ok [mp_i (.aload_n 0), mp_i (.iload_n 1), mp_i (.iload_n 3), mp_i .imul, mp_i (.iload 4), mp_i .iadd, mp_i (.aload_n 0), mp_i (.iload_n 1), mp_i (.iload_n 2), mp_i .imul, mp_i (.iload 4), mp_i .iadd, mp_h .iaload [0], mp_h .iastore [0]] (by decide +kernel) ?_
        intro z_12 h_13
        obtain rfl : z_12 = 0 := h_13.trans (by decide)
        intro z_14 h_15
        have e_16 : z_14.toInt = 0 + i_1.toInt := mp_add (a := 0) (b := i_1.toInt) h_15 (by decide) rfl (by (first | exact mp_o1319 l_3 | omega)) (by (first | exact mp_o1320 c_11 | omega))
        intro z_17 h_18
        obtain rfl : z_17 = 4 := h_18.trans (by decide)
        intro z_19 h_20
        have e_21 : z_19.toInt = 4 + i_1.toInt := mp_add (a := 4) (b := i_1.toInt) h_20 (by decide) rfl (by (first | exact mp_o1321 l_3 | omega)) (by (first | exact mp_o1322 c_11 | omega))
        refine And.intro rfl (And.intro rfl (And.intro (vp_in_iff.mpr (by (first | exact mp_o1323 l_3 e_21 c_11 | omega))) ?_))
        intro z_22 h_23
        refine And.intro rfl (And.intro rfl (And.intro (vp_in_iff.mpr (by (first | exact mp_o1324 l_3 e_16 c_11 | omega))) ?_))
        intro g_24 h_25
        show mp_W E X 5 25 [(4, .int i_1), (0, .ref a0), (1, .int 1), (2, .int 4), (3, .int 0)] [] [(mp_arI E a0 0 5 g_24)] 0 0
        refine mp_run mp_k_cX10_copyRow_ok hF mp_tabX10_ok [mp_c (.iinc 4 1) 1, mp_h (.goto (-25)) [3]] (by decide +kernel) ?_
        intro z_26 h_27
        have e_28 : z_26.toInt = i_1.toInt + 1 := mp_add (a := i_1.toInt) (b := 1) h_27 rfl (by decide) (by (first | exact mp_o2 l_3 | omega)) (by (first | exact mp_o1325 c_11 | omega))
        show mp_W E X 5 3 [(4, .int z_26), (0, .ref a0), (1, .int 1), (2, .int 4), (3, .int 0)] [] [(mp_arI E a0 0 5 g_24)] 0 0
        exact mp_sub [0, 1, 2, 3, 4] rfl [0] rfl rfl (ih_9 (d_8 - 1) (by (first | exact mp_o1326 hm_10 c_11 | omega)) z_26 g_24 (by (first | exact mp_o51 l_3 e_28 | omega)) (by (first | exact mp_o1327 c_11 e_28 | omega)) (mp_cpr_st (m := 1) h_25 h_23 x_5 (by (first | exact mp_o1328 l_3 e_16 | omega)) (by (first | exact mp_o1329 l_3 e_21 | omega)) (by (first | exact mp_o1330 | omega)) (by (first | exact mp_o1331 c_11 | omega)) (by (first | exact mp_o772 l_3 e_28 | omega))) (by (first | exact mp_o1327 c_11 e_28 | omega)) (by (first | exact mp_o1332 l_3 e_28 | omega)))
  exact mp_sub [0, 1, 2, 3, 4] rfl [0] rfl rfl (lp_7 _ 0 f0 (by decide) (by decide) (mp_cpr_0 (by decide)) (by decide) (Int.self_le_toNat _))
set_option maxHeartbeats 4000000 in
set_option maxRecDepth 100000 in
theorem bX10_copyRow_46 (E : mp_E) (a0 : Nat) (f0 : Nat → Int32) (p0 : mp_res f0 25 5 0 0 6) (p1 : mp_res f0 25 5 1 0 99) (p2 : mp_res f0 25 5 2 0 6) (p3 : mp_res f0 25 5 3 0 10) (p4 : mp_res f0 25 5 4 0 60) : mp_Ct E yX10_copyRow cX10_copyRow 5 none 0 0 0 0 [.ref a0, .int 5, .int 4, .int 0] [(mp_arI E a0 0 25 f0)] (fun v w' => ∃ h1 : Nat → Int32, v = none ∧ mp_res h1 25 5 0 0 6 ∧ mp_res h1 25 5 1 0 99 ∧ mp_res h1 25 5 2 0 6 ∧ mp_res h1 25 5 3 0 10 ∧ mp_res h1 25 5 4 0 60 ∧ (h1 = mp_cpr f0 20 0 5) ∧ w' = [(mp_arI E a0 0 25 h1)]) := by
  refine mp_met false (by decide) (by decide) (Nat.le_of_ble_eq_true rfl) (fun X hF hQ => ?_)
  have hF : mp_F E X (RX10, cX10_copyRow, 5, (0, 0, 0, 0), none, false) := hF
  show mp_W E X 5 0 [(0, .ref a0), (1, .int 5), (2, .int 4), (3, .int 0)] [] [(mp_arI E a0 0 25 f0)] 0 0
  refine mp_run mp_k_cX10_copyRow_ok hF mp_tabX10_ok [mp_c (.iconst 0) 0, mp_i (.istore 4)] (by decide +kernel) ?_
  show mp_W E X 5 3 [(4, .int 0), (0, .ref a0), (1, .int 5), (2, .int 4), (3, .int 0)] [] [(mp_arI E a0 0 25 f0)] 0 0
  have lp_12 : ∀ (d_13 : Nat) (i_1 : Int32) (g_2 : Nat → Int32), 0 ≤ i_1.toInt → i_1.toInt ≤ 5 → mp_res g_2 25 5 0 0 6 → mp_res g_2 25 5 1 0 99 → mp_res g_2 25 5 2 0 6 → mp_res g_2 25 5 3 0 10 → mp_res g_2 25 5 4 0 60 → (g_2 = mp_cpr f0 20 0 i_1.toInt.toNat) → (i_1.toInt ≤ 5) → -(i_1.toInt) + 5 ≤ (d_13 : Int) → mp_W E X 5 3 [(4, .int i_1), (0, .ref a0), (1, .int 5), (2, .int 4), (3, .int 0)] [] [(mp_arI E a0 0 25 g_2)] 0 0 := by
    intro d_13
    induction d_13 using Nat.strongRecOn with
    | ind d_13 ih_14 =>
      intro i_1 g_2 l_3 u_4 p_5 p_6 p_7 p_8 p_9 x_10 x_11 hm_15
      refine mp_run mp_k_cX10_copyRow_ok hF mp_tabX10_ok [mp_i (.iload 4), mp_i (.iload_n 1), mp_h (.if_icmp .ge 25) [31]] (by decide +kernel) ?_
      refine And.intro (fun c_16 => ?_) (fun c_16 => ?_)
      · have c_16 : 5 ≤ i_1.toInt := c_16
        show mp_W E X 5 31 [(4, .int i_1), (0, .ref a0), (1, .int 5), (2, .int 4), (3, .int 0)] [] [(mp_arI E a0 0 25 g_2)] 0 0
        exact mp_vret hF hQ rfl (Nat.le_of_ble_eq_true rfl) (Nat.le_of_ble_eq_true rfl) [0] (w' := [(mp_arI E a0 0 25 g_2)]) rfl rfl ⟨g_2, rfl, p_5, p_6, p_7, p_8, p_9, (by rw [show i_1.toInt.toNat = 5 by (first | exact mp_o1333 c_16 u_4 | omega)] at x_10; exact x_10), rfl⟩ (by first | exact mp_fd_ok mp_k_cX10_copyRow_ok (by decide +kernel) | decide +kernel)
      · have c_16 : i_1.toInt < 5 := c_16
        show mp_W E X 5 9 [(4, .int i_1), (0, .ref a0), (1, .int 5), (2, .int 4), (3, .int 0)] [] [(mp_arI E a0 0 25 g_2)] 0 0
        refine mp_run mp_k_cX10_copyRow_ok hF mp_tabX10_ok [mp_i (.aload_n 0), mp_i (.iload_n 1), mp_i (.iload_n 3), mp_i .imul, mp_i (.iload 4), mp_i .iadd, mp_i (.aload_n 0), mp_i (.iload_n 1), mp_i (.iload_n 2), mp_i .imul, mp_i (.iload 4), mp_i .iadd, mp_h .iaload [0], mp_h .iastore [0]] (by decide +kernel) ?_
        intro z_17 h_18
        obtain rfl : z_17 = 0 := h_18.trans (by decide)
        intro z_19 h_20
        have e_21 : z_19.toInt = 0 + i_1.toInt := mp_add (a := 0) (b := i_1.toInt) h_20 (by decide) rfl (by (first | exact mp_o1333 c_16 u_4 | omega)) (by (first | exact mp_o1333 c_16 u_4 | omega))
        intro z_22 h_23
        obtain rfl : z_22 = 20 := h_23.trans (by decide)
        intro z_24 h_25
        have e_26 : z_24.toInt = 20 + i_1.toInt := mp_add (a := 20) (b := i_1.toInt) h_25 (by decide) rfl (by (first | exact mp_o1334 l_3 | omega)) (by (first | exact mp_o1334 l_3 | omega))
        refine And.intro rfl (And.intro rfl (And.intro (vp_in_iff.mpr (by (first | exact mp_o1335 l_3 e_26 c_16 | omega))) ?_))
        intro z_27 h_28
        have e_29 : z_24.toInt % 5 = 0 → 0 ≤ z_27.toInt ∧ z_27.toInt ≤ 6 := mp_res_ld h_28 p_5 (by (first | exact mp_o1335 l_3 e_26 c_16 | omega)) (by (first | exact mp_o1335 l_3 e_26 c_16 | omega))
        have e_30 : z_24.toInt % 5 = 1 → 0 ≤ z_27.toInt ∧ z_27.toInt ≤ 99 := mp_res_ld h_28 p_6 (by (first | exact mp_o1335 l_3 e_26 c_16 | omega)) (by (first | exact mp_o1335 l_3 e_26 c_16 | omega))
        have e_31 : z_24.toInt % 5 = 2 → 0 ≤ z_27.toInt ∧ z_27.toInt ≤ 6 := mp_res_ld h_28 p_7 (by (first | exact mp_o1335 l_3 e_26 c_16 | omega)) (by (first | exact mp_o1335 l_3 e_26 c_16 | omega))
        have e_32 : z_24.toInt % 5 = 3 → 0 ≤ z_27.toInt ∧ z_27.toInt ≤ 10 := mp_res_ld h_28 p_8 (by (first | exact mp_o1335 l_3 e_26 c_16 | omega)) (by (first | exact mp_o1335 l_3 e_26 c_16 | omega))
        have e_33 : z_24.toInt % 5 = 4 → 0 ≤ z_27.toInt ∧ z_27.toInt ≤ 60 := mp_res_ld h_28 p_9 (by (first | exact mp_o1335 l_3 e_26 c_16 | omega)) (by (first | exact mp_o1335 l_3 e_26 c_16 | omega))
        refine And.intro rfl (And.intro rfl (And.intro (vp_in_iff.mpr (by (first | exact mp_o1335 l_3 e_26 c_16 | omega))) ?_))
        intro g_34 h_35
        have p_36 : mp_res g_34 25 5 0 0 6 := mp_res_st h_35 p_5 (by (first | exact mp_o1335 l_3 e_26 c_16 | omega)) (by (first | exact mp_o1336 e_29 e_21 e_26 | omega))
        have p_37 : mp_res g_34 25 5 1 0 99 := mp_res_st h_35 p_6 (by (first | exact mp_o1335 l_3 e_26 c_16 | omega)) (by (first | exact mp_o1337 e_30 e_21 e_26 | omega))
        have p_38 : mp_res g_34 25 5 2 0 6 := mp_res_st h_35 p_7 (by (first | exact mp_o1335 l_3 e_26 c_16 | omega)) (by (first | exact mp_o1338 e_31 e_21 e_26 | omega))
        have p_39 : mp_res g_34 25 5 3 0 10 := mp_res_st h_35 p_8 (by (first | exact mp_o1335 l_3 e_26 c_16 | omega)) (by (first | exact mp_o1339 e_32 e_21 e_26 | omega))
        have p_40 : mp_res g_34 25 5 4 0 60 := mp_res_st h_35 p_9 (by (first | exact mp_o1335 l_3 e_26 c_16 | omega)) (by (first | exact mp_o1340 e_33 e_21 e_26 | omega))
        show mp_W E X 5 25 [(4, .int i_1), (0, .ref a0), (1, .int 5), (2, .int 4), (3, .int 0)] [] [(mp_arI E a0 0 25 g_34)] 0 0
        refine mp_run mp_k_cX10_copyRow_ok hF mp_tabX10_ok [mp_c (.iinc 4 1) 1, mp_h (.goto (-25)) [3]] (by decide +kernel) ?_
        intro z_41 h_42
        have e_43 : z_41.toInt = i_1.toInt + 1 := mp_add (a := i_1.toInt) (b := 1) h_42 rfl (by decide) (by (first | exact mp_o1341 l_3 e_21 | omega)) (by (first | exact mp_o1341 l_3 e_21 | omega))
        show mp_W E X 5 3 [(4, .int z_41), (0, .ref a0), (1, .int 5), (2, .int 4), (3, .int 0)] [] [(mp_arI E a0 0 25 g_34)] 0 0
        exact mp_sub [0, 1, 2, 3, 4] rfl [0] rfl rfl (ih_14 (d_13 - 1) (by (first | exact mp_o1342 hm_15 c_16 | omega)) z_41 g_34 (by (first | exact mp_o51 l_3 e_43 | omega)) (by (first | exact mp_o51 l_3 e_43 | omega)) p_36 p_37 p_38 p_39 p_40 (mp_cpr_st (m := 5) h_35 h_28 x_10 (by (first | exact mp_o51 l_3 e_43 | omega)) (by (first | exact mp_o51 l_3 e_43 | omega)) (by (first | exact mp_o1343 | omega)) (by (first | exact mp_o51 l_3 e_43 | omega)) (by (first | exact mp_o1344 c_16 e_43 | omega))) (by (first | exact mp_o51 l_3 e_43 | omega)) (by (first | exact mp_o1342 hm_15 c_16 | omega)))
  exact mp_sub [0, 1, 2, 3, 4] rfl [0] rfl rfl (lp_12 _ 0 f0 (by decide) (by decide) p0 p1 p2 p3 p4 (mp_cpr_0 (by decide)) (by decide) (Int.self_le_toNat _))
set_option maxHeartbeats 4000000 in
set_option maxRecDepth 100000 in
theorem bX10_copyRow_47 (E : mp_E) (a0 : Nat) (f0 : Nat → Int32) (p0 : mp_all f0 180 0 20) : mp_Ct E yX10_copyRow cX10_copyRow 5 none 0 0 0 0 [.ref a0, .int 36, .int 4, .int 0] [(mp_arI E a0 0 180 f0)] (fun v w' => ∃ h1 : Nat → Int32, v = none ∧ mp_all h1 180 0 20 ∧ (h1 = mp_cpr f0 144 0 36) ∧ w' = [(mp_arI E a0 0 180 h1)]) := by
  refine mp_met false (by decide) (by decide) (Nat.le_of_ble_eq_true rfl) (fun X hF hQ => ?_)
  have hF : mp_F E X (RX10, cX10_copyRow, 5, (0, 0, 0, 0), none, false) := hF
  show mp_W E X 5 0 [(0, .ref a0), (1, .int 36), (2, .int 4), (3, .int 0)] [] [(mp_arI E a0 0 180 f0)] 0 0
  refine mp_run mp_k_cX10_copyRow_ok hF mp_tabX10_ok [mp_c (.iconst 0) 0, mp_i (.istore 4)] (by decide +kernel) ?_
  show mp_W E X 5 3 [(4, .int 0), (0, .ref a0), (1, .int 36), (2, .int 4), (3, .int 0)] [] [(mp_arI E a0 0 180 f0)] 0 0
  have lp_8 : ∀ (d_9 : Nat) (i_1 : Int32) (g_2 : Nat → Int32), 0 ≤ i_1.toInt → i_1.toInt ≤ 36 → mp_all g_2 180 0 20 → (g_2 = mp_cpr f0 144 0 i_1.toInt.toNat) → (i_1.toInt ≤ 36) → -(i_1.toInt) + 36 ≤ (d_9 : Int) → mp_W E X 5 3 [(4, .int i_1), (0, .ref a0), (1, .int 36), (2, .int 4), (3, .int 0)] [] [(mp_arI E a0 0 180 g_2)] 0 0 := by
    intro d_9
    induction d_9 using Nat.strongRecOn with
    | ind d_9 ih_10 =>
      intro i_1 g_2 l_3 u_4 p_5 x_6 x_7 hm_11
      refine mp_run mp_k_cX10_copyRow_ok hF mp_tabX10_ok [mp_i (.iload 4), mp_i (.iload_n 1), mp_h (.if_icmp .ge 25) [31]] (by decide +kernel) ?_
      refine And.intro (fun c_12 => ?_) (fun c_12 => ?_)
      · have c_12 : 36 ≤ i_1.toInt := c_12
        show mp_W E X 5 31 [(4, .int i_1), (0, .ref a0), (1, .int 36), (2, .int 4), (3, .int 0)] [] [(mp_arI E a0 0 180 g_2)] 0 0
        exact mp_vret hF hQ rfl (Nat.le_of_ble_eq_true rfl) (Nat.le_of_ble_eq_true rfl) [0] (w' := [(mp_arI E a0 0 180 g_2)]) rfl rfl ⟨g_2, rfl, p_5, (by rw [show i_1.toInt.toNat = 36 by (first | exact mp_o1345 c_12 u_4 | omega)] at x_6; exact x_6), rfl⟩ (by first | exact mp_fd_ok mp_k_cX10_copyRow_ok (by decide +kernel) | decide +kernel)
      · have c_12 : i_1.toInt < 36 := c_12
        show mp_W E X 5 9 [(4, .int i_1), (0, .ref a0), (1, .int 36), (2, .int 4), (3, .int 0)] [] [(mp_arI E a0 0 180 g_2)] 0 0
        refine mp_run mp_k_cX10_copyRow_ok hF mp_tabX10_ok [mp_i (.aload_n 0), mp_i (.iload_n 1), mp_i (.iload_n 3), mp_i .imul, mp_i (.iload 4), mp_i .iadd, mp_i (.aload_n 0), mp_i (.iload_n 1), mp_i (.iload_n 2), mp_i .imul, mp_i (.iload 4), mp_i .iadd, mp_h .iaload [0], mp_h .iastore [0]] (by decide +kernel) ?_
        intro z_13 h_14
        obtain rfl : z_13 = 0 := h_14.trans (by decide)
        intro z_15 h_16
        have e_17 : z_15.toInt = 0 + i_1.toInt := mp_add (a := 0) (b := i_1.toInt) h_16 (by decide) rfl (by (first | exact mp_o1345 c_12 u_4 | omega)) (by (first | exact mp_o1345 c_12 u_4 | omega))
        intro z_18 h_19
        obtain rfl : z_18 = 144 := h_19.trans (by decide)
        intro z_20 h_21
        have e_22 : z_20.toInt = 144 + i_1.toInt := mp_add (a := 144) (b := i_1.toInt) h_21 (by decide) rfl (by (first | exact mp_o980 l_3 | omega)) (by (first | exact mp_o980 l_3 | omega))
        refine And.intro rfl (And.intro rfl (And.intro (vp_in_iff.mpr (by (first | exact mp_o982 l_3 e_22 c_12 | omega))) ?_))
        intro z_23 h_24
        have e_25 : 0 ≤ z_23.toInt ∧ z_23.toInt ≤ 20 := mp_all_ld h_24 p_5 (by (first | exact mp_o982 l_3 e_22 c_12 | omega)) (by (first | exact mp_o982 l_3 e_22 c_12 | omega))
        refine And.intro rfl (And.intro rfl (And.intro (vp_in_iff.mpr (by (first | exact mp_o1346 l_3 e_17 c_12 | omega))) ?_))
        intro g_26 h_27
        have p_28 : mp_all g_26 180 0 20 := mp_all_st h_27 p_5 e_25.1 e_25.2
        show mp_W E X 5 25 [(4, .int i_1), (0, .ref a0), (1, .int 36), (2, .int 4), (3, .int 0)] [] [(mp_arI E a0 0 180 g_26)] 0 0
        refine mp_run mp_k_cX10_copyRow_ok hF mp_tabX10_ok [mp_c (.iinc 4 1) 1, mp_h (.goto (-25)) [3]] (by decide +kernel) ?_
        intro z_29 h_30
        have e_31 : z_29.toInt = i_1.toInt + 1 := mp_add (a := i_1.toInt) (b := 1) h_30 rfl (by decide) (by (first | exact mp_o1346 l_3 e_17 c_12 | omega)) (by (first | exact mp_o1346 l_3 e_17 c_12 | omega))
        show mp_W E X 5 3 [(4, .int z_29), (0, .ref a0), (1, .int 36), (2, .int 4), (3, .int 0)] [] [(mp_arI E a0 0 180 g_26)] 0 0
        exact mp_sub [0, 1, 2, 3, 4] rfl [0] rfl rfl (ih_10 (d_9 - 1) (by (first | exact mp_o50 hm_11 c_12 | omega)) z_29 g_26 (by (first | exact mp_o51 l_3 e_31 | omega)) (by (first | exact mp_o51 l_3 e_31 | omega)) p_28 (mp_cpr_st (m := 36) h_27 h_24 x_6 (by (first | exact mp_o51 l_3 e_31 | omega)) (by (first | exact mp_o51 l_3 e_31 | omega)) (by (first | exact mp_o1347 | omega)) (by (first | exact mp_o51 l_3 e_31 | omega)) (by (first | exact mp_o52 c_12 e_31 | omega))) (by (first | exact mp_o51 l_3 e_31 | omega)) (by (first | exact mp_o50 hm_11 c_12 | omega)))
  exact mp_sub [0, 1, 2, 3, 4] rfl [0] rfl rfl (lp_8 _ 0 f0 (by decide) (by decide) p0 (mp_cpr_0 (by decide)) (by decide) (Int.self_le_toNat _))
set_option maxHeartbeats 4000000 in
set_option maxRecDepth 100000 in
theorem bX10_copyRow_48 (E : mp_E) (a0 : Nat) (f0 : Nat → Int32) (p0 : mp_res f0 90 3 0 0 5) (p1 : mp_res f0 90 3 1 (-1) 99) : mp_Ct E yX10_copyRow cX10_copyRow 5 none 0 0 0 0 [.ref a0, .int 18, .int 4, .int 0] [(mp_arI E a0 0 90 f0)] (fun v w' => ∃ h1 : Nat → Int32, v = none ∧ mp_res h1 90 3 0 0 5 ∧ mp_res h1 90 3 1 (-1) 99 ∧ (h1 = mp_cpr f0 72 0 18) ∧ w' = [(mp_arI E a0 0 90 h1)]) := by
  refine mp_met false (by decide) (by decide) (Nat.le_of_ble_eq_true rfl) (fun X hF hQ => ?_)
  have hF : mp_F E X (RX10, cX10_copyRow, 5, (0, 0, 0, 0), none, false) := hF
  show mp_W E X 5 0 [(0, .ref a0), (1, .int 18), (2, .int 4), (3, .int 0)] [] [(mp_arI E a0 0 90 f0)] 0 0
  refine mp_run mp_k_cX10_copyRow_ok hF mp_tabX10_ok [mp_c (.iconst 0) 0, mp_i (.istore 4)] (by decide +kernel) ?_
  show mp_W E X 5 3 [(4, .int 0), (0, .ref a0), (1, .int 18), (2, .int 4), (3, .int 0)] [] [(mp_arI E a0 0 90 f0)] 0 0
  have lp_9 : ∀ (d_10 : Nat) (i_1 : Int32) (g_2 : Nat → Int32), 0 ≤ i_1.toInt → i_1.toInt ≤ 20 → mp_res g_2 90 3 0 0 5 → mp_res g_2 90 3 1 (-1) 99 → (g_2 = mp_cpr f0 72 0 i_1.toInt.toNat) → (i_1.toInt ≤ 18) → -(i_1.toInt) + 18 ≤ (d_10 : Int) → mp_W E X 5 3 [(4, .int i_1), (0, .ref a0), (1, .int 18), (2, .int 4), (3, .int 0)] [] [(mp_arI E a0 0 90 g_2)] 0 0 := by
    intro d_10
    induction d_10 using Nat.strongRecOn with
    | ind d_10 ih_11 =>
      intro i_1 g_2 l_3 u_4 p_5 p_6 x_7 x_8 hm_12
      refine mp_run mp_k_cX10_copyRow_ok hF mp_tabX10_ok [mp_i (.iload 4), mp_i (.iload_n 1), mp_h (.if_icmp .ge 25) [31]] (by decide +kernel) ?_
      refine And.intro (fun c_13 => ?_) (fun c_13 => ?_)
      · have c_13 : 18 ≤ i_1.toInt := c_13
        show mp_W E X 5 31 [(4, .int i_1), (0, .ref a0), (1, .int 18), (2, .int 4), (3, .int 0)] [] [(mp_arI E a0 0 90 g_2)] 0 0
        exact mp_vret hF hQ rfl (Nat.le_of_ble_eq_true rfl) (Nat.le_of_ble_eq_true rfl) [0] (w' := [(mp_arI E a0 0 90 g_2)]) rfl rfl ⟨g_2, rfl, p_5, p_6, (by rw [show i_1.toInt.toNat = 18 by (first | exact mp_o1348 c_13 x_8 | omega)] at x_7; exact x_7), rfl⟩ (by first | exact mp_fd_ok mp_k_cX10_copyRow_ok (by decide +kernel) | decide +kernel)
      · have c_13 : i_1.toInt < 18 := c_13
        show mp_W E X 5 9 [(4, .int i_1), (0, .ref a0), (1, .int 18), (2, .int 4), (3, .int 0)] [] [(mp_arI E a0 0 90 g_2)] 0 0
        refine mp_run mp_k_cX10_copyRow_ok hF mp_tabX10_ok [mp_i (.aload_n 0), mp_i (.iload_n 1), mp_i (.iload_n 3), mp_i .imul, mp_i (.iload 4), mp_i .iadd, mp_i (.aload_n 0), mp_i (.iload_n 1), mp_i (.iload_n 2), mp_i .imul, mp_i (.iload 4), mp_i .iadd, mp_h .iaload [0], mp_h .iastore [0]] (by decide +kernel) ?_
        intro z_14 h_15
        obtain rfl : z_14 = 0 := h_15.trans (by decide)
        intro z_16 h_17
        have e_18 : z_16.toInt = 0 + i_1.toInt := mp_add (a := 0) (b := i_1.toInt) h_17 (by decide) rfl (by (first | exact mp_o1348 c_13 x_8 | omega)) (by (first | exact mp_o1348 c_13 x_8 | omega))
        intro z_19 h_20
        obtain rfl : z_19 = 72 := h_20.trans (by decide)
        intro z_21 h_22
        have e_23 : z_21.toInt = 72 + i_1.toInt := mp_add (a := 72) (b := i_1.toInt) h_22 (by decide) rfl (by (first | exact mp_o1349 l_3 | omega)) (by (first | exact mp_o1349 l_3 | omega))
        refine And.intro rfl (And.intro rfl (And.intro (vp_in_iff.mpr (by (first | exact mp_o1350 l_3 e_23 c_13 | omega))) ?_))
        intro z_24 h_25
        have e_26 : z_21.toInt % 3 = 0 → 0 ≤ z_24.toInt ∧ z_24.toInt ≤ 5 := mp_res_ld h_25 p_5 (by (first | exact mp_o1350 l_3 e_23 c_13 | omega)) (by (first | exact mp_o1350 l_3 e_23 c_13 | omega))
        have e_27 : z_21.toInt % 3 = 1 → (-1) ≤ z_24.toInt ∧ z_24.toInt ≤ 99 := mp_res_ld h_25 p_6 (by (first | exact mp_o1350 l_3 e_23 c_13 | omega)) (by (first | exact mp_o1350 l_3 e_23 c_13 | omega))
        refine And.intro rfl (And.intro rfl (And.intro (vp_in_iff.mpr (by (first | exact mp_o1350 l_3 e_23 c_13 | omega))) ?_))
        intro g_28 h_29
        have p_30 : mp_res g_28 90 3 0 0 5 := mp_res_st h_29 p_5 (by (first | exact mp_o1350 l_3 e_23 c_13 | omega)) (by (first | exact mp_o1351 e_26 e_18 e_23 | omega))
        have p_31 : mp_res g_28 90 3 1 (-1) 99 := mp_res_st h_29 p_6 (by (first | exact mp_o1350 l_3 e_23 c_13 | omega)) (by (first | exact mp_o1352 e_27 e_18 e_23 | omega))
        show mp_W E X 5 25 [(4, .int i_1), (0, .ref a0), (1, .int 18), (2, .int 4), (3, .int 0)] [] [(mp_arI E a0 0 90 g_28)] 0 0
        refine mp_run mp_k_cX10_copyRow_ok hF mp_tabX10_ok [mp_c (.iinc 4 1) 1, mp_h (.goto (-25)) [3]] (by decide +kernel) ?_
        intro z_32 h_33
        have e_34 : z_32.toInt = i_1.toInt + 1 := mp_add (a := i_1.toInt) (b := 1) h_33 rfl (by decide) (by (first | exact mp_o1353 l_3 e_18 c_13 | omega)) (by (first | exact mp_o1341 l_3 e_18 | omega))
        show mp_W E X 5 3 [(4, .int z_32), (0, .ref a0), (1, .int 18), (2, .int 4), (3, .int 0)] [] [(mp_arI E a0 0 90 g_28)] 0 0
        exact mp_sub [0, 1, 2, 3, 4] rfl [0] rfl rfl (ih_11 (d_10 - 1) (by (first | exact mp_o1354 hm_12 c_13 | omega)) z_32 g_28 (by (first | exact mp_o51 l_3 e_34 | omega)) (by (first | exact mp_o51 l_3 e_34 | omega)) p_30 p_31 (mp_cpr_st (m := 18) h_29 h_25 x_7 (by (first | exact mp_o51 l_3 e_34 | omega)) (by (first | exact mp_o51 l_3 e_34 | omega)) (by (first | exact mp_o1355 | omega)) (by (first | exact mp_o51 l_3 e_34 | omega)) (by (first | exact mp_o1356 c_13 e_34 | omega))) (by (first | exact mp_o1328 l_3 e_18 | omega)) (by (first | exact mp_o1354 hm_12 c_13 | omega)))
  exact mp_sub [0, 1, 2, 3, 4] rfl [0] rfl rfl (lp_9 _ 0 f0 (by decide) (by decide) p0 p1 (mp_cpr_0 (by decide)) (by decide) (Int.self_le_toNat _))
set_option maxHeartbeats 4000000 in
set_option maxRecDepth 100000 in
theorem bX10_copyRow_49 (E : mp_E) (a0 : Nat) (f0 : Nat → Int32) (p0 : mp_res f0 300 6 0 0 5) (p1 : mp_res f0 300 6 1 0 5) (p2 : mp_res f0 300 6 3 0 99) (p3 : mp_res f0 300 6 4 0 1) : mp_Ct E yX10_copyRow cX10_copyRow 5 none 0 0 0 0 [.ref a0, .int 60, .int 4, .int 0] [(mp_arI E a0 0 300 f0)] (fun v w' => ∃ h1 : Nat → Int32, v = none ∧ mp_res h1 300 6 0 0 5 ∧ mp_res h1 300 6 1 0 5 ∧ mp_res h1 300 6 3 0 99 ∧ mp_res h1 300 6 4 0 1 ∧ (h1 = mp_cpr f0 240 0 60) ∧ w' = [(mp_arI E a0 0 300 h1)]) := by
  refine mp_met false (by decide) (by decide) (Nat.le_of_ble_eq_true rfl) (fun X hF hQ => ?_)
  have hF : mp_F E X (RX10, cX10_copyRow, 5, (0, 0, 0, 0), none, false) := hF
  show mp_W E X 5 0 [(0, .ref a0), (1, .int 60), (2, .int 4), (3, .int 0)] [] [(mp_arI E a0 0 300 f0)] 0 0
  refine mp_run mp_k_cX10_copyRow_ok hF mp_tabX10_ok [mp_c (.iconst 0) 0, mp_i (.istore 4)] (by decide +kernel) ?_
  show mp_W E X 5 3 [(4, .int 0), (0, .ref a0), (1, .int 60), (2, .int 4), (3, .int 0)] [] [(mp_arI E a0 0 300 f0)] 0 0
  have lp_11 : ∀ (d_12 : Nat) (i_1 : Int32) (g_2 : Nat → Int32), 0 ≤ i_1.toInt → i_1.toInt ≤ 60 → mp_res g_2 300 6 0 0 5 → mp_res g_2 300 6 1 0 5 → mp_res g_2 300 6 3 0 99 → mp_res g_2 300 6 4 0 1 → (g_2 = mp_cpr f0 240 0 i_1.toInt.toNat) → (i_1.toInt ≤ 60) → -(i_1.toInt) + 60 ≤ (d_12 : Int) → mp_W E X 5 3 [(4, .int i_1), (0, .ref a0), (1, .int 60), (2, .int 4), (3, .int 0)] [] [(mp_arI E a0 0 300 g_2)] 0 0 := by
    intro d_12
    induction d_12 using Nat.strongRecOn with
    | ind d_12 ih_13 =>
      intro i_1 g_2 l_3 u_4 p_5 p_6 p_7 p_8 x_9 x_10 hm_14
      refine mp_run mp_k_cX10_copyRow_ok hF mp_tabX10_ok [mp_i (.iload 4), mp_i (.iload_n 1), mp_h (.if_icmp .ge 25) [31]] (by decide +kernel) ?_
      refine And.intro (fun c_15 => ?_) (fun c_15 => ?_)
      · have c_15 : 60 ≤ i_1.toInt := c_15
        show mp_W E X 5 31 [(4, .int i_1), (0, .ref a0), (1, .int 60), (2, .int 4), (3, .int 0)] [] [(mp_arI E a0 0 300 g_2)] 0 0
        exact mp_vret hF hQ rfl (Nat.le_of_ble_eq_true rfl) (Nat.le_of_ble_eq_true rfl) [0] (w' := [(mp_arI E a0 0 300 g_2)]) rfl rfl ⟨g_2, rfl, p_5, p_6, p_7, p_8, (by rw [show i_1.toInt.toNat = 60 by (first | exact mp_o1357 c_15 u_4 | omega)] at x_9; exact x_9), rfl⟩ (by first | exact mp_fd_ok mp_k_cX10_copyRow_ok (by decide +kernel) | decide +kernel)
      · have c_15 : i_1.toInt < 60 := c_15
        show mp_W E X 5 9 [(4, .int i_1), (0, .ref a0), (1, .int 60), (2, .int 4), (3, .int 0)] [] [(mp_arI E a0 0 300 g_2)] 0 0
        refine mp_run mp_k_cX10_copyRow_ok hF mp_tabX10_ok [mp_i (.aload_n 0), mp_i (.iload_n 1), mp_i (.iload_n 3), mp_i .imul, mp_i (.iload 4), mp_i .iadd, mp_i (.aload_n 0), mp_i (.iload_n 1), mp_i (.iload_n 2), mp_i .imul, mp_i (.iload 4), mp_i .iadd, mp_h .iaload [0], mp_h .iastore [0]] (by decide +kernel) ?_
        intro z_16 h_17
        obtain rfl : z_16 = 0 := h_17.trans (by decide)
        intro z_18 h_19
        have e_20 : z_18.toInt = 0 + i_1.toInt := mp_add (a := 0) (b := i_1.toInt) h_19 (by decide) rfl (by (first | exact mp_o1357 c_15 u_4 | omega)) (by (first | exact mp_o1357 c_15 u_4 | omega))
        intro z_21 h_22
        obtain rfl : z_21 = 240 := h_22.trans (by decide)
        intro z_23 h_24
        have e_25 : z_23.toInt = 240 + i_1.toInt := mp_add (a := 240) (b := i_1.toInt) h_24 (by decide) rfl (by (first | exact mp_o1358 l_3 | omega)) (by (first | exact mp_o1358 l_3 | omega))
        refine And.intro rfl (And.intro rfl (And.intro (vp_in_iff.mpr (by (first | exact mp_o1359 l_3 e_25 c_15 | omega))) ?_))
        intro z_26 h_27
        have e_28 : z_23.toInt % 6 = 0 → 0 ≤ z_26.toInt ∧ z_26.toInt ≤ 5 := mp_res_ld h_27 p_5 (by (first | exact mp_o1359 l_3 e_25 c_15 | omega)) (by (first | exact mp_o1359 l_3 e_25 c_15 | omega))
        have e_29 : z_23.toInt % 6 = 1 → 0 ≤ z_26.toInt ∧ z_26.toInt ≤ 5 := mp_res_ld h_27 p_6 (by (first | exact mp_o1359 l_3 e_25 c_15 | omega)) (by (first | exact mp_o1359 l_3 e_25 c_15 | omega))
        have e_30 : z_23.toInt % 6 = 3 → 0 ≤ z_26.toInt ∧ z_26.toInt ≤ 99 := mp_res_ld h_27 p_7 (by (first | exact mp_o1359 l_3 e_25 c_15 | omega)) (by (first | exact mp_o1359 l_3 e_25 c_15 | omega))
        have e_31 : z_23.toInt % 6 = 4 → 0 ≤ z_26.toInt ∧ z_26.toInt ≤ 1 := mp_res_ld h_27 p_8 (by (first | exact mp_o1359 l_3 e_25 c_15 | omega)) (by (first | exact mp_o1359 l_3 e_25 c_15 | omega))
        refine And.intro rfl (And.intro rfl (And.intro (vp_in_iff.mpr (by (first | exact mp_o1359 l_3 e_25 c_15 | omega))) ?_))
        intro g_32 h_33
        have p_34 : mp_res g_32 300 6 0 0 5 := mp_res_st h_33 p_5 (by (first | exact mp_o1359 l_3 e_25 c_15 | omega)) (by (first | exact mp_o1360 e_28 e_20 e_25 | omega))
        have p_35 : mp_res g_32 300 6 1 0 5 := mp_res_st h_33 p_6 (by (first | exact mp_o1359 l_3 e_25 c_15 | omega)) (by (first | exact mp_o1361 e_29 e_20 e_25 | omega))
        have p_36 : mp_res g_32 300 6 3 0 99 := mp_res_st h_33 p_7 (by (first | exact mp_o1359 l_3 e_25 c_15 | omega)) (by (first | exact mp_o1362 e_30 e_20 e_25 | omega))
        have p_37 : mp_res g_32 300 6 4 0 1 := mp_res_st h_33 p_8 (by (first | exact mp_o1359 l_3 e_25 c_15 | omega)) (by (first | exact mp_o1363 e_31 e_20 e_25 | omega))
        show mp_W E X 5 25 [(4, .int i_1), (0, .ref a0), (1, .int 60), (2, .int 4), (3, .int 0)] [] [(mp_arI E a0 0 300 g_32)] 0 0
        refine mp_run mp_k_cX10_copyRow_ok hF mp_tabX10_ok [mp_c (.iinc 4 1) 1, mp_h (.goto (-25)) [3]] (by decide +kernel) ?_
        intro z_38 h_39
        have e_40 : z_38.toInt = i_1.toInt + 1 := mp_add (a := i_1.toInt) (b := 1) h_39 rfl (by decide) (by (first | exact mp_o1341 l_3 e_20 | omega)) (by (first | exact mp_o1341 l_3 e_20 | omega))
        show mp_W E X 5 3 [(4, .int z_38), (0, .ref a0), (1, .int 60), (2, .int 4), (3, .int 0)] [] [(mp_arI E a0 0 300 g_32)] 0 0
        exact mp_sub [0, 1, 2, 3, 4] rfl [0] rfl rfl (ih_13 (d_12 - 1) (by (first | exact mp_o1364 hm_14 c_15 | omega)) z_38 g_32 (by (first | exact mp_o51 l_3 e_40 | omega)) (by (first | exact mp_o51 l_3 e_40 | omega)) p_34 p_35 p_36 p_37 (mp_cpr_st (m := 60) h_33 h_27 x_9 (by (first | exact mp_o51 l_3 e_40 | omega)) (by (first | exact mp_o51 l_3 e_40 | omega)) (by (first | exact mp_o1365 | omega)) (by (first | exact mp_o51 l_3 e_40 | omega)) (by (first | exact mp_o481 c_15 e_40 | omega))) (by (first | exact mp_o51 l_3 e_40 | omega)) (by (first | exact mp_o1364 hm_14 c_15 | omega)))
  exact mp_sub [0, 1, 2, 3, 4] rfl [0] rfl rfl (lp_11 _ 0 f0 (by decide) (by decide) p0 p1 p2 p3 (mp_cpr_0 (by decide)) (by decide) (Int.self_le_toNat _))
set_option maxHeartbeats 4000000 in
set_option maxRecDepth 100000 in
theorem bX10_copyRow_50 (E : mp_E) (a0 : Nat) (f0 : Nat → Int32) (p0 : mp_actm f0) : mp_Ct E yX10_copyRow cX10_copyRow 5 none 0 0 0 0 [.ref a0, .int 60, .int 4, .int 0] [(mp_arI E a0 0 300 f0)] (fun v w' => ∃ h1 : Nat → Int32, v = none ∧ mp_actm h1 ∧ (h1 = mp_cpr f0 240 0 60) ∧ w' = [(mp_arI E a0 0 300 h1)]) := by
  refine mp_met false (by decide) (by decide) (Nat.le_of_ble_eq_true rfl) (fun X hF hQ => ?_)
  have hF : mp_F E X (RX10, cX10_copyRow, 5, (0, 0, 0, 0), none, false) := hF
  show mp_W E X 5 0 [(0, .ref a0), (1, .int 60), (2, .int 4), (3, .int 0)] [] [(mp_arI E a0 0 300 f0)] 0 0
  refine mp_run mp_k_cX10_copyRow_ok hF mp_tabX10_ok [mp_c (.iconst 0) 0, mp_i (.istore 4)] (by decide +kernel) ?_
  show mp_W E X 5 3 [(4, .int 0), (0, .ref a0), (1, .int 60), (2, .int 4), (3, .int 0)] [] [(mp_arI E a0 0 300 f0)] 0 0
  have lp_8 : ∀ (d_9 : Nat) (i_1 : Int32) (g_2 : Nat → Int32), 0 ≤ i_1.toInt → i_1.toInt ≤ 60 → mp_actm g_2 → (g_2 = mp_cpr f0 240 0 i_1.toInt.toNat) → (i_1.toInt ≤ 60) → -(i_1.toInt) + 60 ≤ (d_9 : Int) → mp_W E X 5 3 [(4, .int i_1), (0, .ref a0), (1, .int 60), (2, .int 4), (3, .int 0)] [] [(mp_arI E a0 0 300 g_2)] 0 0 := by
    intro d_9
    induction d_9 using Nat.strongRecOn with
    | ind d_9 ih_10 =>
      intro i_1 g_2 l_3 u_4 p_5 x_6 x_7 hm_11
      refine mp_run mp_k_cX10_copyRow_ok hF mp_tabX10_ok [mp_i (.iload 4), mp_i (.iload_n 1), mp_h (.if_icmp .ge 25) [31]] (by decide +kernel) ?_
      refine And.intro (fun c_12 => ?_) (fun c_12 => ?_)
      · have c_12 : 60 ≤ i_1.toInt := c_12
        show mp_W E X 5 31 [(4, .int i_1), (0, .ref a0), (1, .int 60), (2, .int 4), (3, .int 0)] [] [(mp_arI E a0 0 300 g_2)] 0 0
        exact mp_vret hF hQ rfl (Nat.le_of_ble_eq_true rfl) (Nat.le_of_ble_eq_true rfl) [0] (w' := [(mp_arI E a0 0 300 g_2)]) rfl rfl ⟨g_2, rfl, p_5, (by rw [show i_1.toInt.toNat = 60 by omega] at x_6; exact x_6), rfl⟩ (by first | exact mp_fd_ok mp_k_cX10_copyRow_ok (by decide +kernel) | decide +kernel)
      · have c_12 : i_1.toInt < 60 := c_12
        show mp_W E X 5 9 [(4, .int i_1), (0, .ref a0), (1, .int 60), (2, .int 4), (3, .int 0)] [] [(mp_arI E a0 0 300 g_2)] 0 0
        refine mp_run mp_k_cX10_copyRow_ok hF mp_tabX10_ok [mp_i (.aload_n 0), mp_i (.iload_n 1), mp_i (.iload_n 3), mp_i .imul, mp_i (.iload 4), mp_i .iadd, mp_i (.aload_n 0), mp_i (.iload_n 1), mp_i (.iload_n 2), mp_i .imul, mp_i (.iload 4), mp_i .iadd, mp_h .iaload [0], mp_h .iastore [0]] (by decide +kernel) ?_
        intro z_13 h_14
        obtain rfl : z_13 = 0 := h_14.trans (by decide)
        intro z_15 h_16
        have e_17 : z_15.toInt = 0 + i_1.toInt := mp_add (a := 0) (b := i_1.toInt) h_16 (by decide) rfl (by omega) (by omega)
        intro z_18 h_19
        obtain rfl : z_18 = 240 := h_19.trans (by decide)
        intro z_20 h_21
        have e_22 : z_20.toInt = 240 + i_1.toInt := mp_add (a := 240) (b := i_1.toInt) h_21 (by decide) rfl (by omega) (by omega)
        refine And.intro rfl (And.intro rfl (And.intro (vp_in_iff.mpr (by omega)) ?_))
        intro z_23 h_24
        have e_25 := mp_actm_ld h_24 p_5 (by omega) (by omega)
        refine And.intro rfl (And.intro rfl (And.intro (vp_in_iff.mpr (by omega)) ?_))
        intro g_26 h_27
        have p_28 : mp_actm g_26 := mp_actm_st h_27 p_5 (by (first | exact e_25 | omega))
        show mp_W E X 5 25 [(4, .int i_1), (0, .ref a0), (1, .int 60), (2, .int 4), (3, .int 0)] [] [(mp_arI E a0 0 300 g_26)] 0 0
        refine mp_run mp_k_cX10_copyRow_ok hF mp_tabX10_ok [mp_c (.iinc 4 1) 1, mp_h (.goto (-25)) [3]] (by decide +kernel) ?_
        intro z_29 h_30
        have e_31 : z_29.toInt = i_1.toInt + 1 := mp_add (a := i_1.toInt) (b := 1) h_30 rfl (by decide) (by omega) (by omega)
        show mp_W E X 5 3 [(4, .int z_29), (0, .ref a0), (1, .int 60), (2, .int 4), (3, .int 0)] [] [(mp_arI E a0 0 300 g_26)] 0 0
        exact mp_sub [0, 1, 2, 3, 4] rfl [0] rfl rfl (ih_10 (d_9 - 1) (by omega) z_29 g_26 (by omega) (by omega) p_28 (mp_cpr_st (m := 60) h_27 h_24 x_6 (by omega) (by omega) (by omega) (by omega) (by omega)) (by omega) (by omega))
  exact mp_sub [0, 1, 2, 3, 4] rfl [0] rfl rfl (lp_8 _ 0 f0 (by decide) (by decide) p0 (mp_cpr_0 (by decide)) (by decide) (Int.self_le_toNat _))
set_option maxHeartbeats 4000000 in
set_option maxRecDepth 100000 in
theorem bX10_copyIsles_51 (E : mp_E) (a0 a1 a2 a3 a4 a5 a6 a7 a8 a9 a10 a11 a12 a13 a14 a15 a16 a17 a18 a19 a20 a21 a22 a23 a24 a25 : Nat) (f0 : Nat → Int32) (f1 : Nat → Int32) (f2 : Nat → Int32) (f3 : Nat → Int32) (f4 : Nat → Int32) (f5 : Nat → Int32) (f6 : Nat → Int32) (y0 : Int32) (y1 : Int32) (y2 : Int32) (y3 : Int32) (y4 : Int32) (y5 : Int32) (y6 : Int64) (y7 : Int32) (y8 : Int32) (y9 : Int32) (y10 : Int32) (y11 : Int32) (y12 : Int32) (y13 : Int32) (y14 : Int32) (y15 : Int32) (y16 : Int32) (y17 : Int32) (y18 : Int32) (y19 : Int32) (y20 : Int32) (y21 : Int32) (p0 : mp_res f1 25 5 0 0 6) (p1 : mp_res f1 25 5 1 0 99) (p2 : mp_res f1 25 5 2 0 6) (p3 : mp_res f1 25 5 3 0 10) (p4 : mp_res f1 25 5 4 0 60) (p5 : mp_all f2 180 0 20) (p6 : mp_all f3 3000 0 1) (p7 : mp_res f4 90 3 0 0 5) (p8 : mp_res f4 90 3 1 (-1) 99) (p9 : mp_res f5 300 6 0 0 5) (p10 : mp_res f5 300 6 1 0 5) (p11 : mp_res f5 300 6 3 0 99) (p12 : mp_res f5 300 6 4 0 1) (p13 : mp_actm f6) (l_y1 : 0 ≤ y1.toInt) (u_y1 : y1.toInt ≤ 1600) (l_y2 : 0 ≤ y2.toInt) (u_y2 : y2.toInt ≤ 1600) (l_y3 : 0 ≤ y3.toInt) (u_y3 : y3.toInt ≤ 4) (l_y4 : 0 ≤ y4.toInt) (u_y4 : y4.toInt ≤ 1600) (l_y11 : 0 ≤ y11.toInt) (u_y11 : y11.toInt ≤ 99) (l_y12 : 0 ≤ y12.toInt) (u_y12 : y12.toInt ≤ 5) (l_y13 : 0 ≤ y13.toInt) (u_y13 : y13.toInt ≤ 12) : mp_Ct E yX10_copyIsles cX10_copyIsles 4 none 1 0 0 24 [.ref a0, .int 4, .int 0] [(mp_ob10 a0 y0 a8 a9 a10 a11 a12 y1 y2 y3 y4 y5 y6 y7 y8 y9 y10 a1 a2 a3 a4 a5 a6 a7 a13 y11 a14 a15 a16 a17 y12 y13 y14 a18 a19 y15 y16 a20 a21 a22 y17 y18 y19 y20 a23 a24 a25 y21), (mp_arI E a1 0 5 f0), (mp_arI E a2 0 25 f1), (mp_arI E a3 0 180 f2), (mp_arI E a4 3 3000 f3), (mp_arI E a5 0 90 f4), (mp_arI E a6 0 300 f5), (mp_arI E a7 0 300 f6)] (fun v w' => ∃ h1 : Nat → Int32, ∃ h2 : Nat → Int32, ∃ h3 : Nat → Int32, ∃ h4 : Nat → Int32, ∃ h5 : Nat → Int32, ∃ h6 : Nat → Int32, ∃ h7 : Nat → Int32, v = none ∧ mp_res h2 25 5 0 0 6 ∧ mp_res h2 25 5 1 0 99 ∧ mp_res h2 25 5 2 0 6 ∧ mp_res h2 25 5 3 0 10 ∧ mp_res h2 25 5 4 0 60 ∧ mp_all h3 180 0 20 ∧ mp_all h4 3000 0 1 ∧ mp_res h5 90 3 0 0 5 ∧ mp_res h5 90 3 1 (-1) 99 ∧ mp_res h6 300 6 0 0 5 ∧ mp_res h6 300 6 1 0 5 ∧ mp_res h6 300 6 3 0 99 ∧ mp_res h6 300 6 4 0 1 ∧ mp_actm h7 ∧ (h1 = mp_cpr f0 4 0 1) ∧ (h2 = mp_cpr f1 20 0 5) ∧ (h3 = mp_cpr f2 144 0 36) ∧ (h5 = mp_cpr f4 72 0 18) ∧ (h6 = mp_cpr f5 240 0 60) ∧ (h7 = mp_cpr f6 240 0 60) ∧ (h4 = mp_cpr f3 2400 0 600) ∧ w' = [(mp_ob10 a0 y0 a8 a9 a10 a11 a12 y1 y2 y3 y4 y5 y6 y7 y8 y9 y10 a1 a2 a3 a4 a5 a6 a7 a13 y11 a14 a15 a16 a17 y12 y13 y14 a18 a19 y15 y16 a20 a21 a22 y17 y18 y19 y20 a23 a24 a25 y21), (mp_arI E a1 0 5 h1), (mp_arI E a2 0 25 h2), (mp_arI E a3 0 180 h3), (mp_arI E a4 3 3000 h4), (mp_arI E a5 0 90 h5), (mp_arI E a6 0 300 h6), (mp_arI E a7 0 300 h7)]) := by
  refine mp_met false (by decide) (by decide) (Nat.le_of_ble_eq_true rfl) (fun X hF hQ => ?_)
  have hF : mp_F E X (RX10, cX10_copyIsles, 4, (1, 0, 0, 24), none, false) := hF
  let w1_ : va_W := [(mp_ob10 a0 y0 a8 a9 a10 a11 a12 y1 y2 y3 y4 y5 y6 y7 y8 y9 y10 a1 a2 a3 a4 a5 a6 a7 a13 y11 a14 a15 a16 a17 y12 y13 y14 a18 a19 y15 y16 a20 a21 a22 y17 y18 y19 y20 a23 a24 a25 y21), (mp_arI E a1 0 5 f0), (mp_arI E a2 0 25 f1), (mp_arI E a3 0 180 f2), (mp_arI E a4 3 3000 f3), (mp_arI E a5 0 90 f4), (mp_arI E a6 0 300 f5), (mp_arI E a7 0 300 f6)]
  show mp_W E X 4 0 [(0, .ref a0), (1, .int 4), (2, .int 0)] [] w1_ 0 0
  refine mp_run mp_k_cX10_copyIsles_ok hF mp_tabX10_ok [mp_i (.aload_n 0), mp_h (.getfield 31) [16, 0], mp_c (.iconst 1) 1, mp_i (.iload_n 1), mp_i (.iload_n 2)] (by decide +kernel) ?_
  refine And.intro rfl (And.intro rfl ?_)
  show mp_W E X 4 7 [(0, .ref a0), (1, .int 4), (2, .int 0)] [.int 0, .int 4, .int 1, .ref a1] w1_ 0 0
  refine mp_callS hF (As := [.ref a1, .int 1, .int 4, .int 0]) (rest := []) (wr := [(mp_ob10 a0 y0 a8 a9 a10 a11 a12 y1 y2 y3 y4 y5 y6 y7 y8 y9 y10 a1 a2 a3 a4 a5 a6 a7 a13 y11 a14 a15 a16 a17 y12 y13 y14 a18 a19 y15 y16 a20 a21 a22 y17 y18 y19 y20 a23 a24 a25 y21), (mp_arI E a2 0 25 f1), (mp_arI E a3 0 180 f2), (mp_arI E a4 3 3000 f3), (mp_arI E a5 0 90 f4), (mp_arI E a6 0 300 f5), (mp_arI E a7 0 300 f6)]) (bX10_copyRow_45 E a1 f0) mp_lkX10_251 [1] [0, 2, 3, 4, 5, 6, 7] rfl rfl rfl rfl rfl ⟨(Nat.le_of_ble_eq_true rfl), (Nat.le_of_ble_eq_true rfl), (Nat.le_of_ble_eq_true rfl), (Nat.le_of_ble_eq_true rfl)⟩ (Nat.le_of_ble_eq_true rfl) (by first | exact mp_fd_ok mp_k_cX10_copyIsles_ok (by decide +kernel) | decide +kernel) (fun v_1 w_2 h_3 => ?_)
  obtain ⟨g_4, rfl, x_5, rfl⟩ := h_3
  let w2_ : va_W := [(mp_ob10 a0 y0 a8 a9 a10 a11 a12 y1 y2 y3 y4 y5 y6 y7 y8 y9 y10 a1 a2 a3 a4 a5 a6 a7 a13 y11 a14 a15 a16 a17 y12 y13 y14 a18 a19 y15 y16 a20 a21 a22 y17 y18 y19 y20 a23 a24 a25 y21), (mp_arI E a2 0 25 f1), (mp_arI E a3 0 180 f2), (mp_arI E a4 3 3000 f3), (mp_arI E a5 0 90 f4), (mp_arI E a6 0 300 f5), (mp_arI E a7 0 300 f6), (mp_arI E a1 0 5 g_4)]
  show mp_W E X 4 10 [(0, .ref a0), (1, .int 4), (2, .int 0)] [] w2_ 0 0
  refine mp_run mp_k_cX10_copyIsles_ok hF mp_tabX10_ok [mp_i (.aload_n 0), mp_h (.getfield 34) [17, 0], mp_c (.iconst 5) 5, mp_i (.iload_n 1), mp_i (.iload_n 2)] (by decide +kernel) ?_
  refine And.intro rfl (And.intro rfl ?_)
  show mp_W E X 4 17 [(0, .ref a0), (1, .int 4), (2, .int 0)] [.int 0, .int 4, .int 5, .ref a2] w2_ 0 0
  refine mp_callS hF (As := [.ref a2, .int 5, .int 4, .int 0]) (rest := []) (wr := [(mp_ob10 a0 y0 a8 a9 a10 a11 a12 y1 y2 y3 y4 y5 y6 y7 y8 y9 y10 a1 a2 a3 a4 a5 a6 a7 a13 y11 a14 a15 a16 a17 y12 y13 y14 a18 a19 y15 y16 a20 a21 a22 y17 y18 y19 y20 a23 a24 a25 y21), (mp_arI E a3 0 180 f2), (mp_arI E a4 3 3000 f3), (mp_arI E a5 0 90 f4), (mp_arI E a6 0 300 f5), (mp_arI E a7 0 300 f6), (mp_arI E a1 0 5 g_4)]) (bX10_copyRow_46 E a2 f1 p0 p1 p2 p3 p4) mp_lkX10_251 [1] [0, 2, 3, 4, 5, 6, 7] rfl rfl rfl rfl rfl ⟨(Nat.le_of_ble_eq_true rfl), (Nat.le_of_ble_eq_true rfl), (Nat.le_of_ble_eq_true rfl), (Nat.le_of_ble_eq_true rfl)⟩ (Nat.le_of_ble_eq_true rfl) (by first | exact mp_fd_ok mp_k_cX10_copyIsles_ok (by decide +kernel) | decide +kernel) (fun v_6 w_7 h_8 => ?_)
  refine h_8.elim fun g_9 q_16 => q_16.elim fun e_17 q_18 => q_18.elim fun p_10 q_19 => q_19.elim fun p_11 q_20 => q_20.elim fun p_12 q_21 => q_21.elim fun p_13 q_22 => q_22.elim fun p_14 q_23 => q_23.elim fun x_15 e_24 => ?_
  clear h_8 q_16 q_18 q_19 q_20 q_21 q_22 q_23
  subst e_17
  subst e_24
  let w3_ : va_W := [(mp_ob10 a0 y0 a8 a9 a10 a11 a12 y1 y2 y3 y4 y5 y6 y7 y8 y9 y10 a1 a2 a3 a4 a5 a6 a7 a13 y11 a14 a15 a16 a17 y12 y13 y14 a18 a19 y15 y16 a20 a21 a22 y17 y18 y19 y20 a23 a24 a25 y21), (mp_arI E a3 0 180 f2), (mp_arI E a4 3 3000 f3), (mp_arI E a5 0 90 f4), (mp_arI E a6 0 300 f5), (mp_arI E a7 0 300 f6), (mp_arI E a1 0 5 g_4), (mp_arI E a2 0 25 g_9)]
  show mp_W E X 4 20 [(0, .ref a0), (1, .int 4), (2, .int 0)] [] w3_ 0 0
  refine mp_run mp_k_cX10_copyIsles_ok hF mp_tabX10_ok [mp_i (.aload_n 0), mp_h (.getfield 37) [18, 0], mp_c (.bipush 36) 36, mp_i (.iload_n 1), mp_i (.iload_n 2)] (by decide +kernel) ?_
  refine And.intro rfl (And.intro rfl ?_)
  show mp_W E X 4 28 [(0, .ref a0), (1, .int 4), (2, .int 0)] [.int 0, .int 4, .int 36, .ref a3] w3_ 0 0
  refine mp_callS hF (As := [.ref a3, .int 36, .int 4, .int 0]) (rest := []) (wr := [(mp_ob10 a0 y0 a8 a9 a10 a11 a12 y1 y2 y3 y4 y5 y6 y7 y8 y9 y10 a1 a2 a3 a4 a5 a6 a7 a13 y11 a14 a15 a16 a17 y12 y13 y14 a18 a19 y15 y16 a20 a21 a22 y17 y18 y19 y20 a23 a24 a25 y21), (mp_arI E a4 3 3000 f3), (mp_arI E a5 0 90 f4), (mp_arI E a6 0 300 f5), (mp_arI E a7 0 300 f6), (mp_arI E a1 0 5 g_4), (mp_arI E a2 0 25 g_9)]) (bX10_copyRow_47 E a3 f2 p5) mp_lkX10_251 [1] [0, 2, 3, 4, 5, 6, 7] rfl rfl rfl rfl rfl ⟨(Nat.le_of_ble_eq_true rfl), (Nat.le_of_ble_eq_true rfl), (Nat.le_of_ble_eq_true rfl), (Nat.le_of_ble_eq_true rfl)⟩ (Nat.le_of_ble_eq_true rfl) (by first | exact mp_fd_ok mp_k_cX10_copyIsles_ok (by decide +kernel) | decide +kernel) (fun v_25 w_26 h_27 => ?_)
  obtain ⟨g_28, rfl, p_29, x_30, rfl⟩ := h_27
  let w4_ : va_W := [(mp_ob10 a0 y0 a8 a9 a10 a11 a12 y1 y2 y3 y4 y5 y6 y7 y8 y9 y10 a1 a2 a3 a4 a5 a6 a7 a13 y11 a14 a15 a16 a17 y12 y13 y14 a18 a19 y15 y16 a20 a21 a22 y17 y18 y19 y20 a23 a24 a25 y21), (mp_arI E a4 3 3000 f3), (mp_arI E a5 0 90 f4), (mp_arI E a6 0 300 f5), (mp_arI E a7 0 300 f6), (mp_arI E a1 0 5 g_4), (mp_arI E a2 0 25 g_9), (mp_arI E a3 0 180 g_28)]
  show mp_W E X 4 31 [(0, .ref a0), (1, .int 4), (2, .int 0)] [] w4_ 0 0
  refine mp_run mp_k_cX10_copyIsles_ok hF mp_tabX10_ok [mp_c (.iconst 0) 0, mp_i (.istore_n 3)] (by decide +kernel) ?_
  show mp_W E X 4 33 [(3, .int 0), (0, .ref a0), (1, .int 4), (2, .int 0)] [] w4_ 0 0
  have lp_39 : ∀ (d_40 : Nat) (i_31 : Int32) (g_32 : Nat → Int32), 0 ≤ i_31.toInt → i_31.toInt ≤ 600 → mp_all g_32 3000 0 1 → (g_32 = mp_cpr f3 2400 0 i_31.toInt.toNat) → (i_31.toInt ≤ 600) → (0 ≤ i_31.toInt) → -(i_31.toInt) + 600 ≤ (d_40 : Int) → mp_W E X 4 33 [(3, .int i_31), (0, .ref a0), (1, .int 4), (2, .int 0)] [] [(mp_ob10 a0 y0 a8 a9 a10 a11 a12 y1 y2 y3 y4 y5 y6 y7 y8 y9 y10 a1 a2 a3 a4 a5 a6 a7 a13 y11 a14 a15 a16 a17 y12 y13 y14 a18 a19 y15 y16 a20 a21 a22 y17 y18 y19 y20 a23 a24 a25 y21), (mp_arI E a4 3 3000 g_32), (mp_arI E a5 0 90 f4), (mp_arI E a6 0 300 f5), (mp_arI E a7 0 300 f6), (mp_arI E a1 0 5 g_4), (mp_arI E a2 0 25 g_9), (mp_arI E a3 0 180 g_28)] 0 0 := by
    intro d_40
    induction d_40 using Nat.strongRecOn with
    | ind d_40 ih_41 =>
      intro i_31 g_32 l_33 u_34 p_35 x_36 x_37 x_38 hm_42
      refine mp_run mp_k_cX10_copyIsles_ok hF mp_tabX10_ok [mp_i (.iload_n 3), mp_c (.sipush 600) 600, mp_h (.if_icmp .ge 33) [70]] (by decide +kernel) ?_
      refine And.intro (fun c_43 => ?_) (fun c_43 => ?_)
      · have c_43 : 600 ≤ i_31.toInt := c_43
        let w5_ : va_W := [(mp_ob10 a0 y0 a8 a9 a10 a11 a12 y1 y2 y3 y4 y5 y6 y7 y8 y9 y10 a1 a2 a3 a4 a5 a6 a7 a13 y11 a14 a15 a16 a17 y12 y13 y14 a18 a19 y15 y16 a20 a21 a22 y17 y18 y19 y20 a23 a24 a25 y21), (mp_arI E a4 3 3000 g_32), (mp_arI E a5 0 90 f4), (mp_arI E a6 0 300 f5), (mp_arI E a7 0 300 f6), (mp_arI E a1 0 5 g_4), (mp_arI E a2 0 25 g_9), (mp_arI E a3 0 180 g_28)]
        show mp_W E X 4 70 [(3, .int i_31), (0, .ref a0), (1, .int 4), (2, .int 0)] [] w5_ 0 0
        refine mp_run mp_k_cX10_copyIsles_ok hF mp_tabX10_ok [mp_i (.aload_n 0), mp_h (.getfield 44) [20, 0], mp_c (.bipush 18) 18, mp_i (.iload_n 1), mp_i (.iload_n 2)] (by decide +kernel) ?_
        refine And.intro rfl (And.intro rfl ?_)
        show mp_W E X 4 78 [(3, .int i_31), (0, .ref a0), (1, .int 4), (2, .int 0)] [.int 0, .int 4, .int 18, .ref a5] w5_ 0 0
        refine mp_callS hF (As := [.ref a5, .int 18, .int 4, .int 0]) (rest := []) (wr := [(mp_ob10 a0 y0 a8 a9 a10 a11 a12 y1 y2 y3 y4 y5 y6 y7 y8 y9 y10 a1 a2 a3 a4 a5 a6 a7 a13 y11 a14 a15 a16 a17 y12 y13 y14 a18 a19 y15 y16 a20 a21 a22 y17 y18 y19 y20 a23 a24 a25 y21), (mp_arI E a4 3 3000 g_32), (mp_arI E a6 0 300 f5), (mp_arI E a7 0 300 f6), (mp_arI E a1 0 5 g_4), (mp_arI E a2 0 25 g_9), (mp_arI E a3 0 180 g_28)]) (bX10_copyRow_48 E a5 f4 p7 p8) mp_lkX10_251 [2] [0, 1, 3, 4, 5, 6, 7] rfl rfl rfl rfl rfl ⟨(Nat.le_of_ble_eq_true rfl), (Nat.le_of_ble_eq_true rfl), (Nat.le_of_ble_eq_true rfl), (Nat.le_of_ble_eq_true rfl)⟩ (Nat.le_of_ble_eq_true rfl) (by first | exact mp_fd_ok mp_k_cX10_copyIsles_ok (by decide +kernel) | decide +kernel) (fun v_44 w_45 h_46 => ?_)
        refine h_46.elim fun g_47 q_51 => q_51.elim fun e_52 q_53 => q_53.elim fun p_48 q_54 => q_54.elim fun p_49 q_55 => q_55.elim fun x_50 e_56 => ?_
        clear h_46 q_51 q_53 q_54 q_55
        subst e_52
        subst e_56
        let w6_ : va_W := [(mp_ob10 a0 y0 a8 a9 a10 a11 a12 y1 y2 y3 y4 y5 y6 y7 y8 y9 y10 a1 a2 a3 a4 a5 a6 a7 a13 y11 a14 a15 a16 a17 y12 y13 y14 a18 a19 y15 y16 a20 a21 a22 y17 y18 y19 y20 a23 a24 a25 y21), (mp_arI E a4 3 3000 g_32), (mp_arI E a6 0 300 f5), (mp_arI E a7 0 300 f6), (mp_arI E a1 0 5 g_4), (mp_arI E a2 0 25 g_9), (mp_arI E a3 0 180 g_28), (mp_arI E a5 0 90 g_47)]
        show mp_W E X 4 81 [(3, .int i_31), (0, .ref a0), (1, .int 4), (2, .int 0)] [] w6_ 0 0
        refine mp_run mp_k_cX10_copyIsles_ok hF mp_tabX10_ok [mp_i (.aload_n 0), mp_h (.getfield 47) [21, 0], mp_c (.bipush 60) 60, mp_i (.iload_n 1), mp_i (.iload_n 2)] (by decide +kernel) ?_
        refine And.intro rfl (And.intro rfl ?_)
        show mp_W E X 4 89 [(3, .int i_31), (0, .ref a0), (1, .int 4), (2, .int 0)] [.int 0, .int 4, .int 60, .ref a6] w6_ 0 0
        refine mp_callS hF (As := [.ref a6, .int 60, .int 4, .int 0]) (rest := []) (wr := [(mp_ob10 a0 y0 a8 a9 a10 a11 a12 y1 y2 y3 y4 y5 y6 y7 y8 y9 y10 a1 a2 a3 a4 a5 a6 a7 a13 y11 a14 a15 a16 a17 y12 y13 y14 a18 a19 y15 y16 a20 a21 a22 y17 y18 y19 y20 a23 a24 a25 y21), (mp_arI E a4 3 3000 g_32), (mp_arI E a7 0 300 f6), (mp_arI E a1 0 5 g_4), (mp_arI E a2 0 25 g_9), (mp_arI E a3 0 180 g_28), (mp_arI E a5 0 90 g_47)]) (bX10_copyRow_49 E a6 f5 p9 p10 p11 p12) mp_lkX10_251 [2] [0, 1, 3, 4, 5, 6, 7] rfl rfl rfl rfl rfl ⟨(Nat.le_of_ble_eq_true rfl), (Nat.le_of_ble_eq_true rfl), (Nat.le_of_ble_eq_true rfl), (Nat.le_of_ble_eq_true rfl)⟩ (Nat.le_of_ble_eq_true rfl) (by first | exact mp_fd_ok mp_k_cX10_copyIsles_ok (by decide +kernel) | decide +kernel) (fun v_57 w_58 h_59 => ?_)
        refine h_59.elim fun g_60 q_66 => q_66.elim fun e_67 q_68 => q_68.elim fun p_61 q_69 => q_69.elim fun p_62 q_70 => q_70.elim fun p_63 q_71 => q_71.elim fun p_64 q_72 => q_72.elim fun x_65 e_73 => ?_
        clear h_59 q_66 q_68 q_69 q_70 q_71 q_72
        subst e_67
        subst e_73
        let w7_ : va_W := [(mp_ob10 a0 y0 a8 a9 a10 a11 a12 y1 y2 y3 y4 y5 y6 y7 y8 y9 y10 a1 a2 a3 a4 a5 a6 a7 a13 y11 a14 a15 a16 a17 y12 y13 y14 a18 a19 y15 y16 a20 a21 a22 y17 y18 y19 y20 a23 a24 a25 y21), (mp_arI E a4 3 3000 g_32), (mp_arI E a7 0 300 f6), (mp_arI E a1 0 5 g_4), (mp_arI E a2 0 25 g_9), (mp_arI E a3 0 180 g_28), (mp_arI E a5 0 90 g_47), (mp_arI E a6 0 300 g_60)]
        show mp_W E X 4 92 [(3, .int i_31), (0, .ref a0), (1, .int 4), (2, .int 0)] [] w7_ 0 0
        refine mp_run mp_k_cX10_copyIsles_ok hF mp_tabX10_ok [mp_i (.aload_n 0), mp_h (.getfield 50) [22, 0], mp_c (.bipush 60) 60, mp_i (.iload_n 1), mp_i (.iload_n 2)] (by decide +kernel) ?_
        refine And.intro rfl (And.intro rfl ?_)
        show mp_W E X 4 100 [(3, .int i_31), (0, .ref a0), (1, .int 4), (2, .int 0)] [.int 0, .int 4, .int 60, .ref a7] w7_ 0 0
        refine mp_callS hF (As := [.ref a7, .int 60, .int 4, .int 0]) (rest := []) (wr := [(mp_ob10 a0 y0 a8 a9 a10 a11 a12 y1 y2 y3 y4 y5 y6 y7 y8 y9 y10 a1 a2 a3 a4 a5 a6 a7 a13 y11 a14 a15 a16 a17 y12 y13 y14 a18 a19 y15 y16 a20 a21 a22 y17 y18 y19 y20 a23 a24 a25 y21), (mp_arI E a4 3 3000 g_32), (mp_arI E a1 0 5 g_4), (mp_arI E a2 0 25 g_9), (mp_arI E a3 0 180 g_28), (mp_arI E a5 0 90 g_47), (mp_arI E a6 0 300 g_60)]) (bX10_copyRow_50 E a7 f6 p13) mp_lkX10_251 [2] [0, 1, 3, 4, 5, 6, 7] rfl rfl rfl rfl rfl ⟨(Nat.le_of_ble_eq_true rfl), (Nat.le_of_ble_eq_true rfl), (Nat.le_of_ble_eq_true rfl), (Nat.le_of_ble_eq_true rfl)⟩ (Nat.le_of_ble_eq_true rfl) (by first | exact mp_fd_ok mp_k_cX10_copyIsles_ok (by decide +kernel) | decide +kernel) (fun v_74 w_75 h_76 => ?_)
        obtain ⟨g_77, rfl, p_78, x_79, rfl⟩ := h_76
        let w8_ : va_W := [(mp_ob10 a0 y0 a8 a9 a10 a11 a12 y1 y2 y3 y4 y5 y6 y7 y8 y9 y10 a1 a2 a3 a4 a5 a6 a7 a13 y11 a14 a15 a16 a17 y12 y13 y14 a18 a19 y15 y16 a20 a21 a22 y17 y18 y19 y20 a23 a24 a25 y21), (mp_arI E a4 3 3000 g_32), (mp_arI E a1 0 5 g_4), (mp_arI E a2 0 25 g_9), (mp_arI E a3 0 180 g_28), (mp_arI E a5 0 90 g_47), (mp_arI E a6 0 300 g_60), (mp_arI E a7 0 300 g_77)]
        show mp_W E X 4 103 [(3, .int i_31), (0, .ref a0), (1, .int 4), (2, .int 0)] [] w8_ 0 0
        exact mp_vret hF hQ rfl (Nat.le_of_ble_eq_true rfl) (Nat.le_of_ble_eq_true rfl) [0, 2, 3, 4, 1, 5, 6, 7] (w' := [(mp_ob10 a0 y0 a8 a9 a10 a11 a12 y1 y2 y3 y4 y5 y6 y7 y8 y9 y10 a1 a2 a3 a4 a5 a6 a7 a13 y11 a14 a15 a16 a17 y12 y13 y14 a18 a19 y15 y16 a20 a21 a22 y17 y18 y19 y20 a23 a24 a25 y21), (mp_arI E a1 0 5 g_4), (mp_arI E a2 0 25 g_9), (mp_arI E a3 0 180 g_28), (mp_arI E a4 3 3000 g_32), (mp_arI E a5 0 90 g_47), (mp_arI E a6 0 300 g_60), (mp_arI E a7 0 300 g_77)]) rfl rfl ⟨g_4, g_9, g_28, g_32, g_47, g_60, g_77, rfl, p_10, p_11, p_12, p_13, p_14, p_29, p_35, p_48, p_49, p_61, p_62, p_63, p_64, p_78, x_5, x_15, x_30, x_50, x_65, x_79, (by have k9 := x_36; rw [show i_31.toInt.toNat = 600 by (first | exact mp_o1366 c_43 u_34 | omega)] at k9; exact k9), rfl⟩ (by first | exact mp_fd_ok mp_k_cX10_copyIsles_ok (by decide +kernel) | decide +kernel)
      · have c_43 : i_31.toInt < 600 := c_43
        let w9_ : va_W := [(mp_ob10 a0 y0 a8 a9 a10 a11 a12 y1 y2 y3 y4 y5 y6 y7 y8 y9 y10 a1 a2 a3 a4 a5 a6 a7 a13 y11 a14 a15 a16 a17 y12 y13 y14 a18 a19 y15 y16 a20 a21 a22 y17 y18 y19 y20 a23 a24 a25 y21), (mp_arI E a4 3 3000 g_32), (mp_arI E a5 0 90 f4), (mp_arI E a6 0 300 f5), (mp_arI E a7 0 300 f6), (mp_arI E a1 0 5 g_4), (mp_arI E a2 0 25 g_9), (mp_arI E a3 0 180 g_28)]
        show mp_W E X 4 40 [(3, .int i_31), (0, .ref a0), (1, .int 4), (2, .int 0)] [] w9_ 0 0
        refine mp_run mp_k_cX10_copyIsles_ok hF mp_tabX10_ok [mp_i (.aload_n 0), mp_h (.getfield 40) [19, 0], mp_c (.sipush 600) 600, mp_i (.iload_n 2), mp_i .imul, mp_i (.iload_n 3), mp_i .iadd, mp_i (.aload_n 0), mp_h (.getfield 40) [19, 0], mp_c (.sipush 600) 600, mp_i (.iload_n 1), mp_i .imul, mp_i (.iload_n 3), mp_i .iadd, mp_h .baload [1, 0], mp_h .bastore [1, 0]] (by decide +kernel) ?_
        refine And.intro rfl (And.intro rfl ?_)
        intro z_80 h_81
        obtain rfl : z_80 = 0 := h_81.trans (by decide)
        intro z_82 h_83
        have e_84 : z_82.toInt = 0 + i_31.toInt := mp_add (a := 0) (b := i_31.toInt) h_83 (by decide) rfl (by (first | exact mp_o1319 l_33 | omega)) (by (first | exact mp_o1367 c_43 | omega))
        refine And.intro rfl (And.intro rfl ?_)
        intro z_85 h_86
        obtain rfl : z_85 = 2400 := h_86.trans (by decide)
        intro z_87 h_88
        have e_89 : z_87.toInt = 2400 + i_31.toInt := mp_add (a := 2400) (b := i_31.toInt) h_88 (by decide) rfl (by (first | exact mp_o972 l_33 | omega)) (by (first | exact mp_o973 c_43 | omega))
        refine And.intro rfl (And.intro rfl (And.intro (vp_in_iff.mpr (by (first | exact mp_o974 l_33 e_89 c_43 | omega))) ?_))
        intro z_90 h_91
        have e_92 : 0 ≤ z_90.toInt ∧ z_90.toInt ≤ 1 := mp_all_ld h_91 p_35 (by (first | exact mp_o1368 l_33 e_89 | omega)) (by (first | exact mp_o1369 c_43 e_89 | omega))
        refine And.intro rfl (And.intro rfl (And.intro (vp_in_iff.mpr (by (first | exact mp_o1370 l_33 e_84 c_43 | omega))) ?_))
        intro g_93 h_94
        have h_95 : g_93 = upd g_32 z_82.toNatClampNeg z_90 := h_94.trans (congrArg (upd _ _) (mp_narb (by (first | exact mp_o1371 e_92 | omega)) (by (first | exact mp_o1372 e_92 | omega))))
        have p_96 : mp_all g_93 3000 0 1 := mp_all_st h_95 p_35 e_92.1 e_92.2
        let w10_ : va_W := [(mp_ob10 a0 y0 a8 a9 a10 a11 a12 y1 y2 y3 y4 y5 y6 y7 y8 y9 y10 a1 a2 a3 a4 a5 a6 a7 a13 y11 a14 a15 a16 a17 y12 y13 y14 a18 a19 y15 y16 a20 a21 a22 y17 y18 y19 y20 a23 a24 a25 y21), (mp_arI E a4 3 3000 g_93), (mp_arI E a5 0 90 f4), (mp_arI E a6 0 300 f5), (mp_arI E a7 0 300 f6), (mp_arI E a1 0 5 g_4), (mp_arI E a2 0 25 g_9), (mp_arI E a3 0 180 g_28)]
        show mp_W E X 4 64 [(3, .int i_31), (0, .ref a0), (1, .int 4), (2, .int 0)] [] w10_ 0 0
        refine mp_run mp_k_cX10_copyIsles_ok hF mp_tabX10_ok [mp_c (.iinc 3 1) 1, mp_h (.goto (-34)) [33]] (by decide +kernel) ?_
        intro z_97 h_98
        have e_99 : z_97.toInt = i_31.toInt + 1 := mp_add (a := i_31.toInt) (b := 1) h_98 rfl (by decide) (by (first | exact mp_o2 l_33 | omega)) (by (first | exact mp_o976 c_43 | omega))
        show mp_W E X 4 33 [(3, .int z_97), (0, .ref a0), (1, .int 4), (2, .int 0)] [] w10_ 0 0
        exact mp_sub [0, 1, 2, 3] rfl [0, 1, 2, 3, 4, 5, 6, 7] rfl rfl (ih_41 (d_40 - 1) (by (first | exact mp_o977 hm_42 c_43 | omega)) z_97 g_93 (by (first | exact mp_o51 l_33 e_99 | omega)) (by (first | exact mp_o978 c_43 e_99 | omega)) p_96 (mp_cpr_st (m := 600) h_95 h_91 x_36 (by (first | exact mp_o1328 l_33 e_84 | omega)) (by (first | exact mp_o1373 l_33 e_89 | omega)) (by (first | exact mp_o1374 | omega)) (by (first | exact mp_o1375 c_43 | omega)) (by (first | exact mp_o772 l_33 e_99 | omega))) (by (first | exact mp_o978 c_43 e_99 | omega)) (by (first | exact mp_o51 l_33 e_99 | omega)) (by (first | exact mp_o979 hm_42 e_99 | omega)))
  exact mp_sub [0, 1, 2, 3] rfl [0, 1, 2, 3, 4, 5, 6, 7] rfl rfl (lp_39 _ 0 f3 (by decide) (by decide) p6 (mp_cpr_0 (by decide)) (by decide) (by decide) (Int.self_le_toNat _))
set_option maxHeartbeats 4000000 in
set_option maxRecDepth 100000 in
theorem bX10_isles_52 (E : mp_E) (a0 a1 a2 a3 a4 a5 a6 a7 a8 a9 a10 a11 a12 a13 a14 a15 a16 a17 a18 a19 a20 a21 a22 a23 a24 a25 : Nat) (f0 : Nat → Int32) (f1 : Nat → Int32) (f2 : Nat → Int32) (f3 : Nat → Int32) (f4 : Nat → Int32) (f5 : Nat → Int32) (f6 : Nat → Int32) (f7 : Nat → Int32) (y0 : Int32) (y1 : Int32) (y2 : Int32) (y3 : Int32) (y4 : Int32) (y5 : Int32) (y6 : Int64) (y7 : Int32) (y8 : Int32) (y9 : Int32) (y10 : Int32) (y11 : Int32) (y12 : Int32) (y13 : Int32) (y14 : Int32) (y15 : Int32) (y16 : Int32) (y17 : Int32) (y18 : Int32) (y19 : Int32) (y20 : Int32) (y21 : Int32) (p0 : mp_res f2 25 5 0 0 6) (p1 : mp_res f2 25 5 1 0 99) (p2 : mp_res f2 25 5 2 0 6) (p3 : mp_res f2 25 5 3 0 10) (p4 : mp_res f2 25 5 4 0 60) (p5 : mp_all f3 180 0 20) (p6 : mp_all f4 3000 0 1) (p7 : mp_res f5 90 3 0 0 5) (p8 : mp_res f5 90 3 1 (-1) 99) (p9 : mp_res f6 300 6 0 0 5) (p10 : mp_res f6 300 6 1 0 5) (p11 : mp_res f6 300 6 3 0 99) (p12 : mp_res f6 300 6 4 0 1) (p13 : mp_actm f7) (l_y1 : 0 ≤ y1.toInt) (u_y1 : y1.toInt ≤ 1600) (l_y2 : 0 ≤ y2.toInt) (u_y2 : y2.toInt ≤ 1600) (l_y3 : 0 ≤ y3.toInt) (u_y3 : y3.toInt ≤ 4) (l_y4 : 0 ≤ y4.toInt) (u_y4 : y4.toInt ≤ 1600) (l_y11 : 0 ≤ y11.toInt) (u_y11 : y11.toInt ≤ 99) (l_y12 : 0 ≤ y12.toInt) (u_y12 : y12.toInt ≤ 5) (l_y13 : 0 ≤ y13.toInt) (u_y13 : y13.toInt ≤ 12) : mp_Ct E yX10_isles cX10_isles 1 (some FieldType.int) 7 0 0 159 [.ref a0] [(mp_ob10 a0 y0 a9 a10 a11 a12 a1 y1 y2 y3 y4 y5 y6 y7 y8 y9 y10 a2 a3 a4 a5 a6 a7 a8 a13 y11 a14 a15 a16 a17 y12 y13 y14 a18 a19 y15 y16 a20 a21 a22 y17 y18 y19 y20 a23 a24 a25 y21), (mp_arI E a1 1 1600 f0), (mp_arI E a2 0 5 f1), (mp_arI E a3 0 25 f2), (mp_arI E a4 0 180 f3), (mp_arI E a5 3 3000 f4), (mp_arI E a6 0 90 f5), (mp_arI E a7 0 300 f6), (mp_arI E a8 0 300 f7)] (fun v w' => (∃ r1 : Int32, ∃ r2 : Int32, ∃ r3 : Int32, ∃ r4 : Int32, ∃ r5 : Int64, ∃ r6 : Int32, ∃ r7 : Int32, ∃ r8 : Int32, ∃ r9 : Int32, ∃ h10 : Nat → Int32, ∃ h11 : Nat → Int32, ∃ h12 : Nat → Int32, ∃ h13 : Nat → Int32, ∃ h14 : Nat → Int32, ∃ h15 : Nat → Int32, ∃ h16 : Nat → Int32, ∃ r17 : Int32, v = some (.int r17) ∧ 0 ≤ r1.toInt ∧ r1.toInt ≤ 1600 ∧ 0 ≤ r2.toInt ∧ r2.toInt ≤ 4 ∧ 0 ≤ r3.toInt ∧ r3.toInt ≤ 1600 ∧ 0 ≤ r6.toInt ∧ r6.toInt ≤ 0 ∧ 0 ≤ r8.toInt ∧ r8.toInt ≤ 0 ∧ mp_res h11 25 5 0 0 6 ∧ mp_res h11 25 5 1 0 99 ∧ mp_res h11 25 5 2 0 6 ∧ mp_res h11 25 5 3 0 10 ∧ mp_res h11 25 5 4 0 60 ∧ mp_all h12 180 0 20 ∧ mp_all h13 3000 0 1 ∧ mp_res h14 90 3 0 0 5 ∧ mp_res h14 90 3 1 (-1) 99 ∧ mp_res h15 300 6 0 0 5 ∧ mp_res h15 300 6 1 0 5 ∧ mp_res h15 300 6 3 0 99 ∧ mp_res h15 300 6 4 0 1 ∧ mp_actm h16 ∧ (∃ G Q : Nat → Int32, mp_keep G f2 20 ∧ h11 = mp_cpr G 20 0 5 ∧ (G 24).toInt = 0 ∧ mp_keep Q f6 240 ∧ h15 = mp_cpr Q 240 0 60 ∧ mp_prmo Q 240 (G 23).toInt ∧ h16 = mp_cpr f7 240 0 60) ∧ (mp_islR f0 y1.toInt r17.toInt r8.toInt r9.toInt) ∧ (0 = 0) ∧ (∃ B9 : mp_RA, mp_K7 B9 (f1, f2, f3, f4, f5, f6, f7) ∧ mp_C7 4 0 B9 (h10, h11, h12, h13, h14, h15, h16) ∧ mp_islD f0 y1.toInt (mp_rA 4 B9)) ∧ (r8.toInt = 0) ∧ w' = [(mp_ob10 a0 0 a9 a10 a11 a12 a1 0 r1 r2 r3 r4 r5 r6 r7 r8 r9 a2 a3 a4 a5 a6 a7 a8 a13 y11 a14 a15 a16 a17 y12 y13 y14 a18 a19 y15 y16 a20 a21 a22 y17 y18 y19 y20 a23 a24 a25 y21), (mp_arI E a1 1 1600 f0), (mp_arI E a2 0 5 h10), (mp_arI E a3 0 25 h11), (mp_arI E a4 0 180 h12), (mp_arI E a5 3 3000 h13), (mp_arI E a6 0 90 h14), (mp_arI E a7 0 300 h15), (mp_arI E a8 0 300 h16)]) ∨ (∃ r1 : Int32, ∃ r2 : Int32, ∃ r3 : Int32, ∃ r4 : Int32, ∃ r5 : Int64, ∃ r6 : Int32, ∃ r7 : Int32, ∃ r8 : Int32, ∃ r9 : Int32, ∃ h10 : Nat → Int32, ∃ h11 : Nat → Int32, ∃ h12 : Nat → Int32, ∃ h13 : Nat → Int32, ∃ h14 : Nat → Int32, ∃ h15 : Nat → Int32, v = some (.int (-4)) ∧ 0 ≤ r1.toInt ∧ r1.toInt ≤ 1600 ∧ 0 ≤ r2.toInt ∧ r2.toInt ≤ 4 ∧ 0 ≤ r3.toInt ∧ r3.toInt ≤ 1600 ∧ mp_keep h10 f1 4 ∧ mp_res h11 25 5 0 0 6 ∧ mp_res h11 25 5 1 0 99 ∧ mp_res h11 25 5 2 0 6 ∧ mp_res h11 25 5 3 0 10 ∧ mp_res h11 25 5 4 0 60 ∧ mp_keep h11 f2 20 ∧ mp_all h12 180 0 20 ∧ mp_keep h12 f3 144 ∧ mp_all h13 3000 0 1 ∧ mp_keep h13 f4 2400 ∧ mp_res h14 90 3 0 0 5 ∧ mp_res h14 90 3 1 (-1) 99 ∧ mp_keep h14 f5 72 ∧ mp_res h15 300 6 0 0 5 ∧ mp_res h15 300 6 1 0 5 ∧ mp_res h15 300 6 3 0 99 ∧ mp_res h15 300 6 4 0 1 ∧ mp_keep h15 f6 240 ∧ (mp_islR f0 y1.toInt (-4) r8.toInt r9.toInt) ∧ (0 = 0) ∧ (mp_K7 (h10, h11, h12, h13, h14, h15, f7) (f1, f2, f3, f4, f5, f6, f7)) ∧ (r8.toInt ≠ 0) ∧ w' = [(mp_ob10 a0 0 a9 a10 a11 a12 a1 0 r1 r2 r3 r4 r5 r6 r7 r8 r9 a2 a3 a4 a5 a6 a7 a8 a13 y11 a14 a15 a16 a17 y12 y13 y14 a18 a19 y15 y16 a20 a21 a22 y17 y18 y19 y20 a23 a24 a25 y21), (mp_arI E a1 1 1600 f0), (mp_arI E a2 0 5 h10), (mp_arI E a3 0 25 h11), (mp_arI E a4 0 180 h12), (mp_arI E a5 3 3000 h13), (mp_arI E a6 0 90 h14), (mp_arI E a7 0 300 h15), (mp_arI E a8 0 300 f7)])) := by
  refine mp_met false (by decide) (by decide) (Nat.le_of_ble_eq_true rfl) (fun X hF hQ => ?_)
  have hF : mp_F E X (RX10, cX10_isles, 1, (7, 0, 0, 159), (some FieldType.int), false) := hF
  let w1_ : va_W := [(mp_ob10 a0 y0 a9 a10 a11 a12 a1 y1 y2 y3 y4 y5 y6 y7 y8 y9 y10 a2 a3 a4 a5 a6 a7 a8 a13 y11 a14 a15 a16 a17 y12 y13 y14 a18 a19 y15 y16 a20 a21 a22 y17 y18 y19 y20 a23 a24 a25 y21), (mp_arI E a1 1 1600 f0), (mp_arI E a2 0 5 f1), (mp_arI E a3 0 25 f2), (mp_arI E a4 0 180 f3), (mp_arI E a5 3 3000 f4), (mp_arI E a6 0 90 f5), (mp_arI E a7 0 300 f6), (mp_arI E a8 0 300 f7)]
  show mp_W E X 1 0 [(0, .ref a0)] [] w1_ 0 0
  refine mp_run mp_k_cX10_isles_ok hF mp_tabX10_ok [mp_i (.aload_n 0), mp_c (.iconst 0) 0, mp_h (.putfield 92) [0, 0]] (by decide +kernel) ?_
  refine And.intro rfl (And.intro rfl (And.intro rfl (And.intro rfl (And.intro (Nat.le_of_ble_eq_true rfl) ?_))))
  let w2_ : va_W := [(mp_ob10 a0 0 a9 a10 a11 a12 a1 y1 y2 y3 y4 y5 y6 y7 y8 y9 y10 a2 a3 a4 a5 a6 a7 a8 a13 y11 a14 a15 a16 a17 y12 y13 y14 a18 a19 y15 y16 a20 a21 a22 y17 y18 y19 y20 a23 a24 a25 y21), (mp_arI E a1 1 1600 f0), (mp_arI E a2 0 5 f1), (mp_arI E a3 0 25 f2), (mp_arI E a4 0 180 f3), (mp_arI E a5 3 3000 f4), (mp_arI E a6 0 90 f5), (mp_arI E a7 0 300 f6), (mp_arI E a8 0 300 f7)]
  show mp_W E X 1 5 [(0, .ref a0)] [] w2_ 0 0
  refine mp_run mp_k_cX10_isles_ok hF mp_tabX10_ok [mp_i (.aload_n 0)] (by decide +kernel) ?_
  show mp_W E X 1 6 [(0, .ref a0)] [.ref a0] w2_ 0 0
  refine mp_callV hF (As := []) (rest := []) (wr := [(mp_arI E a1 1 1600 f0), (mp_arI E a6 0 90 f5), (mp_arI E a7 0 300 f6), (mp_arI E a8 0 300 f7)]) (bX10_clears_10 E a0 a2 a3 a4 a5 a9 a10 a11 a12 a1 a6 a7 a8 a13 a14 a15 a16 a17 a18 a19 a20 a21 a22 a23 a24 a25 f1 f2 f3 f4 0 y1 y2 y3 y4 y5 y6 y7 y8 y9 y10 y11 y12 y13 y14 y15 y16 y17 y18 y19 y20 y21 p0 p1 p2 p3 p4 p5 p6 l_y1 u_y1 l_y2 u_y2 l_y3 u_y3 l_y4 u_y4 l_y11 u_y11 l_y12 u_y12 l_y13 u_y13) mp_lkX10_228 0 rfl [0, 2, 3, 4, 5] [1, 6, 7, 8] rfl rfl rfl rfl rfl ⟨(Nat.le_of_ble_eq_true rfl), (Nat.le_of_ble_eq_true rfl), (Nat.le_of_ble_eq_true rfl), (Nat.le_of_ble_eq_true rfl)⟩ (Nat.le_of_ble_eq_true rfl) (by first | exact mp_fd_ok mp_k_cX10_isles_ok (by decide +kernel) | decide +kernel) (fun v_1 w_2 h_3 => ?_)
  refine h_3.elim fun g_4 q_27 => q_27.elim fun g_5 q_28 => q_28.elim fun g_6 q_29 => q_29.elim fun g_7 q_30 => q_30.elim fun e_31 q_32 => q_32.elim fun p_8 q_33 => q_33.elim fun p_9 q_34 => q_34.elim fun p_10 q_35 => q_35.elim fun p_11 q_36 => q_36.elim fun p_12 q_37 => q_37.elim fun p_13 q_38 => q_38.elim fun p_14 q_39 => q_39.elim fun p_15 q_40 => q_40.elim fun p_16 q_41 => q_41.elim fun p_17 q_42 => q_42.elim fun p_18 q_43 => q_43.elim fun x_19 q_44 => q_44.elim fun x_20 q_45 => q_45.elim fun x_21 q_46 => q_46.elim fun x_22 q_47 => q_47.elim fun x_23 q_48 => q_48.elim fun x_24 q_49 => q_49.elim fun x_25 q_50 => q_50.elim fun x_26 e_51 => ?_
  clear h_3 q_27 q_28 q_29 q_30 q_32 q_33 q_34 q_35 q_36 q_37 q_38 q_39 q_40 q_41 q_42 q_43 q_44 q_45 q_46 q_47 q_48 q_49 q_50
  subst e_31
  subst e_51
  have k_52 : mp_keep g_4 f1 4 := mp_keep_trans p_8 mp_keep_rfl
  have k_53 : mp_keep g_5 f2 20 := mp_keep_trans p_14 mp_keep_rfl
  have k_54 : mp_keep g_6 f3 144 := mp_keep_trans p_16 mp_keep_rfl
  have k_55 : mp_keep g_7 f4 2400 := mp_keep_trans p_18 mp_keep_rfl
  let w3_ : va_W := [(mp_arI E a1 1 1600 f0), (mp_arI E a6 0 90 f5), (mp_arI E a7 0 300 f6), (mp_arI E a8 0 300 f7), (mp_ob10 a0 0 a9 a10 a11 a12 a1 y1 y2 y3 y4 y5 y6 y7 y8 y9 y10 a2 a3 a4 a5 a6 a7 a8 a13 y11 a14 a15 a16 a17 y12 y13 y14 a18 a19 y15 y16 a20 a21 a22 y17 y18 y19 y20 a23 a24 a25 y21), (mp_arI E a2 0 5 g_4), (mp_arI E a3 0 25 g_5), (mp_arI E a4 0 180 g_6), (mp_arI E a5 3 3000 g_7)]
  show mp_W E X 1 9 [(0, .ref a0)] [] w3_ 0 0
  refine mp_run mp_k_cX10_isles_ok hF mp_tabX10_ok [mp_i (.aload_n 0)] (by decide +kernel) ?_
  show mp_W E X 1 10 [(0, .ref a0)] [.ref a0] w3_ 0 0
  refine mp_callV hF (As := []) (rest := []) (wr := [(mp_arI E a6 0 90 f5), (mp_arI E a7 0 300 f6), (mp_arI E a8 0 300 f7), (mp_arI E a2 0 5 g_4), (mp_arI E a3 0 25 g_5), (mp_arI E a4 0 180 g_6), (mp_arI E a5 3 3000 g_7)]) (bX10_begins_13 E a0 a1 a9 a10 a11 a12 a2 a3 a4 a5 a6 a7 a8 a13 a14 a15 a16 a17 a18 a19 a20 a21 a22 a23 a24 a25 f0 0 y1 y2 y3 y4 y5 y6 y7 y8 y9 y10 y11 y12 y13 y14 y15 y16 y17 y18 y19 y20 y21 l_y1 u_y1 l_y2 u_y2 l_y3 u_y3 l_y4 u_y4 l_y11 u_y11 l_y12 u_y12 l_y13 u_y13) mp_lkX10_231 4 rfl [4, 0] [1, 2, 3, 5, 6, 7, 8] rfl rfl rfl rfl rfl ⟨(Nat.le_of_ble_eq_true rfl), (Nat.le_of_ble_eq_true rfl), (Nat.le_of_ble_eq_true rfl), (Nat.le_of_ble_eq_true rfl)⟩ (Nat.le_of_ble_eq_true rfl) (by first | exact mp_fd_ok mp_k_cX10_isles_ok (by decide +kernel) | decide +kernel) (fun v_56 w_57 h_58 => ?_)
  refine h_58.elim fun r_59 q_78 => q_78.elim fun r_60 q_79 => q_79.elim fun r_61 q_80 => q_80.elim fun r_62 q_81 => q_81.elim fun r_63 q_82 => q_82.elim fun e_83 q_84 => q_84.elim fun l_64 q_85 => q_85.elim fun u_65 q_86 => q_86.elim fun l_66 q_87 => q_87.elim fun u_67 q_88 => q_88.elim fun l_68 q_89 => q_89.elim fun u_69 q_90 => q_90.elim fun l_70 q_91 => q_91.elim fun u_71 q_92 => q_92.elim fun l_72 q_93 => q_93.elim fun u_73 q_94 => q_94.elim fun x_74 q_95 => q_95.elim fun x_75 q_96 => q_96.elim fun x_76 q_97 => q_97.elim fun x_77 e_98 => ?_
  clear h_58 q_78 q_79 q_80 q_81 q_82 q_84 q_85 q_86 q_87 q_88 q_89 q_90 q_91 q_92 q_93 q_94 q_95 q_96 q_97
  subst e_83
  subst e_98
  have k_99 := x_77.2.1
  let w4_ : va_W := [(mp_arI E a6 0 90 f5), (mp_arI E a7 0 300 f6), (mp_arI E a8 0 300 f7), (mp_arI E a2 0 5 g_4), (mp_arI E a3 0 25 g_5), (mp_arI E a4 0 180 g_6), (mp_arI E a5 3 3000 g_7), (mp_ob10 a0 0 a9 a10 a11 a12 a1 y1 r_59 r_60 r_61 r_62 r_63 0 (-1) y9 y10 a2 a3 a4 a5 a6 a7 a8 a13 y11 a14 a15 a16 a17 y12 y13 y14 a18 a19 y15 y16 a20 a21 a22 y17 y18 y19 y20 a23 a24 a25 y21), (mp_arI E a1 1 1600 f0)]
  show mp_W E X 1 13 [(0, .ref a0)] [] w4_ 0 0
  have lp_144 : ∀ (d_145 : Nat) (g_100 : Nat → Int32) (g_101 : Nat → Int32) (g_102 : Nat → Int32) (g_103 : Nat → Int32) (g_104 : Nat → Int32) (g_105 : Nat → Int32) (i_106 : Int32) (i_107 : Int32) (i_108 : Int32) (i_109 : Int32) (i_110 : Int64) (i_111 : Int32) (i_112 : Int32), mp_res g_100 90 3 0 0 5 → mp_res g_100 90 3 1 (-1) 99 → mp_keep g_100 f5 72 → mp_res g_101 300 6 0 0 5 → mp_res g_101 300 6 1 0 5 → mp_res g_101 300 6 3 0 99 → mp_res g_101 300 6 4 0 1 → mp_keep g_101 f6 240 → mp_keep g_102 f1 4 → mp_res g_103 25 5 0 0 6 → mp_res g_103 25 5 1 0 99 → mp_res g_103 25 5 2 0 6 → mp_res g_103 25 5 3 0 10 → mp_res g_103 25 5 4 0 60 → mp_keep g_103 f2 20 → mp_all g_104 180 0 20 → mp_keep g_104 f3 144 → mp_all g_105 3000 0 1 → mp_keep g_105 f4 2400 → 0 ≤ i_106.toInt → i_106.toInt ≤ 1600 → 0 ≤ i_107.toInt → i_107.toInt ≤ 4 → 0 ≤ i_108.toInt → i_108.toInt ≤ 1600 → (i_106.toInt ≤ y1.toInt) → ((g_103 24).toInt = 0) → (i_111.toInt ≠ 0 ∨ mp_prmo g_101 240 (g_103 23).toInt) → (0 ≤ (g_102 4).toInt ∧ (i_111.toInt ≠ 0 ∨ (g_102 4).toInt + 5 * (y1.toInt - i_106.toInt) + i_107.toInt ≤ 8004)) → (mp_MT f0 y1.toInt i_107.toInt i_108.toInt i_106.toInt i_109.toInt i_110.toInt) → (mp_TX mp_gop f0 (y1.toInt).toNat (fun R : mp_Rs mp_AD => ∃ fu : Nat, mp_gText mp_gop f0 (y1.toInt).toNat fu (mp_TS f0 (y1.toInt).toNat 0) (0, 0, 0, 0, 0) (mp_dM g_6 g_7 f5 f6) = some R) i_111.toInt i_112.toInt (i_108.toInt).toNat ((g_103 20).toInt, (g_103 21).toInt, (g_103 22).toInt, (g_103 23).toInt, (g_102 4).toInt) (mp_dM g_104 g_105 g_100 g_101)) → (if i_111.toInt = 0 then 5 * (y1.toInt - i_106.toInt) + i_107.toInt + 1 else 0) ≤ (d_145 : Int) → mp_W E X 1 13 [(0, .ref a0)] [] [(mp_arI E a6 0 90 g_100), (mp_arI E a7 0 300 g_101), (mp_arI E a8 0 300 f7), (mp_arI E a2 0 5 g_102), (mp_arI E a3 0 25 g_103), (mp_arI E a4 0 180 g_104), (mp_arI E a5 3 3000 g_105), (mp_ob10 a0 0 a9 a10 a11 a12 a1 y1 i_106 i_107 i_108 i_109 i_110 i_111 i_112 y9 y10 a2 a3 a4 a5 a6 a7 a8 a13 y11 a14 a15 a16 a17 y12 y13 y14 a18 a19 y15 y16 a20 a21 a22 y17 y18 y19 y20 a23 a24 a25 y21), (mp_arI E a1 1 1600 f0)] 0 0 := by
    intro d_145
    induction d_145 using Nat.strongRecOn with
    | ind d_145 ih_146 =>
      intro g_100 g_101 g_102 g_103 g_104 g_105 i_106 i_107 i_108 i_109 i_110 i_111 i_112 p_113 p_114 p_115 p_116 p_117 p_118 p_119 p_120 p_121 p_122 p_123 p_124 p_125 p_126 p_127 p_128 p_129 p_130 p_131 l_132 u_133 l_134 u_135 l_136 u_137 x_138 x_139 x_140 x_141 x_142 x_143 hm_147
      have k_148 := x_142.2.1
      refine mp_run mp_k_cX10_isles_ok hF mp_tabX10_ok [mp_i (.aload_n 0)] (by decide +kernel) ?_
      let w5_ : va_W := [(mp_arI E a6 0 90 g_100), (mp_arI E a7 0 300 g_101), (mp_arI E a8 0 300 f7), (mp_arI E a2 0 5 g_102), (mp_arI E a3 0 25 g_103), (mp_arI E a4 0 180 g_104), (mp_arI E a5 3 3000 g_105), (mp_ob10 a0 0 a9 a10 a11 a12 a1 y1 i_106 i_107 i_108 i_109 i_110 i_111 i_112 y9 y10 a2 a3 a4 a5 a6 a7 a8 a13 y11 a14 a15 a16 a17 y12 y13 y14 a18 a19 y15 y16 a20 a21 a22 y17 y18 y19 y20 a23 a24 a25 y21), (mp_arI E a1 1 1600 f0)]
      show mp_W E X 1 14 [(0, .ref a0)] [.ref a0] w5_ 0 0
      refine mp_callV hF (As := []) (rest := []) (wr := [(mp_arI E a6 0 90 g_100), (mp_arI E a7 0 300 g_101), (mp_arI E a8 0 300 f7), (mp_arI E a2 0 5 g_102), (mp_arI E a3 0 25 g_103), (mp_arI E a4 0 180 g_104), (mp_arI E a5 3 3000 g_105), (mp_arI E a1 1 1600 f0)]) (bX10_isGood_14 E a0 a9 a10 a11 a12 a1 a2 a3 a4 a5 a6 a7 a8 a13 a14 a15 a16 a17 a18 a19 a20 a21 a22 a23 a24 a25 0 y1 i_106 i_107 i_108 i_109 i_110 i_111 i_112 y9 y10 y11 y12 y13 y14 y15 y16 y17 y18 y19 y20 y21 l_y1 u_y1 l_132 u_133 l_134 u_135 l_136 u_137 l_y11 u_y11 l_y12 u_y12 l_y13 u_y13) mp_lkX10_189 7 rfl [7] [0, 1, 2, 3, 4, 5, 6, 8] rfl rfl rfl rfl rfl ⟨(Nat.le_of_ble_eq_true rfl), (Nat.le_of_ble_eq_true rfl), (Nat.le_of_ble_eq_true rfl), (Nat.le_of_ble_eq_true rfl)⟩ (Nat.le_of_ble_eq_true rfl) (by first | exact mp_fd_ok mp_k_cX10_isles_ok (by decide +kernel) | decide +kernel) (fun v_149 w_150 h_151 => ?_)
      rcases h_151 with ⟨rfl, c_152, x_153, rfl⟩ | ⟨rfl, c_154, x_155, rfl⟩
      · skip
        have c_152 : i_111.toInt ≠ 0 := c_152
        let w6_ : va_W := [(mp_arI E a6 0 90 g_100), (mp_arI E a7 0 300 g_101), (mp_arI E a8 0 300 f7), (mp_arI E a2 0 5 g_102), (mp_arI E a3 0 25 g_103), (mp_arI E a4 0 180 g_104), (mp_arI E a5 3 3000 g_105), (mp_arI E a1 1 1600 f0), (mp_ob10 a0 0 a9 a10 a11 a12 a1 y1 i_106 i_107 i_108 i_109 i_110 i_111 i_112 y9 y10 a2 a3 a4 a5 a6 a7 a8 a13 y11 a14 a15 a16 a17 y12 y13 y14 a18 a19 y15 y16 a20 a21 a22 y17 y18 y19 y20 a23 a24 a25 y21)]
        show mp_W E X 1 17 [(0, .ref a0)] [.int 0] w6_ 0 0
        refine mp_run mp_k_cX10_isles_ok hF mp_tabX10_ok [mp_h (.ifCond .eq 89) [106]] (by decide +kernel) ?_
        refine And.intro (fun _ => ?_) (fun c_156 => absurd c_156 (by decide))
        show mp_W E X 1 106 [(0, .ref a0)] [] w6_ 0 0
        refine mp_run mp_k_cX10_isles_ok hF mp_tabX10_ok [mp_i (.aload_n 0)] (by decide +kernel) ?_
        show mp_W E X 1 107 [(0, .ref a0)] [.ref a0] w6_ 0 0
        refine mp_callV hF (As := []) (rest := []) (wr := [(mp_arI E a6 0 90 g_100), (mp_arI E a7 0 300 g_101), (mp_arI E a8 0 300 f7), (mp_arI E a2 0 5 g_102), (mp_arI E a3 0 25 g_103), (mp_arI E a4 0 180 g_104), (mp_arI E a5 3 3000 g_105), (mp_arI E a1 1 1600 f0)]) (bX10_isOver_44 E a0 a9 a10 a11 a12 a1 a2 a3 a4 a5 a6 a7 a8 a13 a14 a15 a16 a17 a18 a19 a20 a21 a22 a23 a24 a25 0 y1 i_106 i_107 i_108 i_109 i_110 i_111 i_112 y9 y10 y11 y12 y13 y14 y15 y16 y17 y18 y19 y20 y21 l_y1 u_y1 l_132 u_133 l_134 u_135 l_136 u_137 l_y11 u_y11 l_y12 u_y12 l_y13 u_y13) mp_lkX10_244 8 rfl [8] [0, 1, 2, 3, 4, 5, 6, 7] rfl rfl rfl rfl rfl ⟨(Nat.le_of_ble_eq_true rfl), (Nat.le_of_ble_eq_true rfl), (Nat.le_of_ble_eq_true rfl), (Nat.le_of_ble_eq_true rfl)⟩ (Nat.le_of_ble_eq_true rfl) (by first | exact mp_fd_ok mp_k_cX10_isles_ok (by decide +kernel) | decide +kernel) (fun v_157 w_158 h_159 => ?_)
        refine h_159.elim fun r_160 q_164 => q_164.elim fun e_165 q_166 => q_166.elim fun x_161 q_167 => q_167.elim fun x_162 q_168 => q_168.elim fun x_163 e_169 => ?_
        clear h_159 q_164 q_166 q_167 q_168
        subst e_165
        subst e_169
        let w7_ : va_W := [(mp_arI E a6 0 90 g_100), (mp_arI E a7 0 300 g_101), (mp_arI E a8 0 300 f7), (mp_arI E a2 0 5 g_102), (mp_arI E a3 0 25 g_103), (mp_arI E a4 0 180 g_104), (mp_arI E a5 3 3000 g_105), (mp_arI E a1 1 1600 f0), (mp_ob10 a0 0 a9 a10 a11 a12 a1 0 i_106 i_107 i_108 i_109 i_110 i_111 i_112 i_111 r_160 a2 a3 a4 a5 a6 a7 a8 a13 y11 a14 a15 a16 a17 y12 y13 y14 a18 a19 y15 y16 a20 a21 a22 y17 y18 y19 y20 a23 a24 a25 y21)]
        show mp_W E X 1 110 [(0, .ref a0)] [] w7_ 0 0
        refine mp_run mp_k_cX10_isles_ok hF mp_tabX10_ok [mp_i (.aload_n 0), mp_h (.getfield 144) [12, 8], mp_h (.ifCond .eq 6) [120]] (by decide +kernel) ?_
        refine And.intro rfl (And.intro rfl ?_)
        refine And.intro (fun c_170 => ?_) (fun c_170 => ?_)
        · have c_170 : i_111.toInt = 0 := (congrArg Int32.toInt c_170)
          show mp_W E X 1 120 [(0, .ref a0)] [] w7_ 0 0
          refine mp_run mp_k_cX10_isles_ok hF mp_tabX10_ok [mp_i (.aload_n 0), mp_c (.iconst 4) 4, mp_c (.iconst 0) 0] (by decide +kernel) ?_
          show mp_W E X 1 123 [(0, .ref a0)] [.int 0, .int 4, .ref a0] w7_ 0 0
          refine mp_callV hF (As := [.int 4, .int 0]) (rest := []) (wr := [(mp_arI E a1 1 1600 f0)]) (bX10_copyIsles_51 E a0 a2 a3 a4 a5 a6 a7 a8 a9 a10 a11 a12 a1 a13 a14 a15 a16 a17 a18 a19 a20 a21 a22 a23 a24 a25 g_102 g_103 g_104 g_105 g_100 g_101 f7 0 0 i_106 i_107 i_108 i_109 i_110 i_111 i_112 i_111 r_160 y11 y12 y13 y14 y15 y16 y17 y18 y19 y20 y21 p_122 p_123 p_124 p_125 p_126 p_128 p_130 p_113 p_114 p_116 p_117 p_118 p_119 p13 (by decide) (by decide) l_132 u_133 l_134 u_135 l_136 u_137 l_y11 u_y11 l_y12 u_y12 l_y13 u_y13) mp_lkX10_247 8 rfl [8, 3, 4, 5, 6, 0, 1, 2] [7] rfl rfl rfl rfl rfl ⟨(Nat.le_of_ble_eq_true rfl), (Nat.le_of_ble_eq_true rfl), (Nat.le_of_ble_eq_true rfl), (Nat.le_of_ble_eq_true rfl)⟩ (Nat.le_of_ble_eq_true rfl) (by first | exact mp_fd_ok mp_k_cX10_isles_ok (by decide +kernel) | decide +kernel) (fun v_171 w_172 h_173 => ?_)
          refine h_173.elim fun g_174 q_202 => q_202.elim fun g_175 q_203 => q_203.elim fun g_176 q_204 => q_204.elim fun g_177 q_205 => q_205.elim fun g_178 q_206 => q_206.elim fun g_179 q_207 => q_207.elim fun g_180 q_208 => q_208.elim fun e_209 q_210 => q_210.elim fun p_181 q_211 => q_211.elim fun p_182 q_212 => q_212.elim fun p_183 q_213 => q_213.elim fun p_184 q_214 => q_214.elim fun p_185 q_215 => q_215.elim fun p_186 q_216 => q_216.elim fun p_187 q_217 => q_217.elim fun p_188 q_218 => q_218.elim fun p_189 q_219 => q_219.elim fun p_190 q_220 => q_220.elim fun p_191 q_221 => q_221.elim fun p_192 q_222 => q_222.elim fun p_193 q_223 => q_223.elim fun p_194 q_224 => q_224.elim fun x_195 q_225 => q_225.elim fun x_196 q_226 => q_226.elim fun x_197 q_227 => q_227.elim fun x_198 q_228 => q_228.elim fun x_199 q_229 => q_229.elim fun x_200 q_230 => q_230.elim fun x_201 e_231 => ?_
          clear h_173 q_202 q_203 q_204 q_205 q_206 q_207 q_208 q_210 q_211 q_212 q_213 q_214 q_215 q_216 q_217 q_218 q_219 q_220 q_221 q_222 q_223 q_224 q_225 q_226 q_227 q_228 q_229 q_230
          subst e_209
          subst e_231
          let w8_ : va_W := [(mp_arI E a1 1 1600 f0), (mp_ob10 a0 0 a9 a10 a11 a12 a1 0 i_106 i_107 i_108 i_109 i_110 i_111 i_112 i_111 r_160 a2 a3 a4 a5 a6 a7 a8 a13 y11 a14 a15 a16 a17 y12 y13 y14 a18 a19 y15 y16 a20 a21 a22 y17 y18 y19 y20 a23 a24 a25 y21), (mp_arI E a2 0 5 g_174), (mp_arI E a3 0 25 g_175), (mp_arI E a4 0 180 g_176), (mp_arI E a5 3 3000 g_177), (mp_arI E a6 0 90 g_178), (mp_arI E a7 0 300 g_179), (mp_arI E a8 0 300 g_180)]
          show mp_W E X 1 126 [(0, .ref a0)] [] w8_ 0 0
          refine mp_run mp_k_cX10_isles_ok hF mp_tabX10_ok [mp_i (.aload_n 0), mp_h (.getfield 31) [16, 1], mp_c (.iconst 0) 0, mp_h .iaload [2]] (by decide +kernel) ?_
          refine And.intro rfl (And.intro rfl ?_)
          refine And.intro rfl (And.intro rfl (And.intro (vp_in_iff.mpr (by decide)) ?_))
          intro z_232 h_233
          have e_234 : z_232.toInt = (g_174 0).toInt := congrArg Int32.toInt (mp_at h_233 (by decide) rfl)
          show mp_W E X 1 132 [(0, .ref a0)] [.int z_232] w8_ 0 0
          exact mp_iret hF hQ rfl rfl (Nat.le_of_ble_eq_true rfl) (Nat.le_of_ble_eq_true rfl) [1, 0, 2, 3, 4, 5, 6, 7, 8] (w' := [(mp_ob10 a0 0 a9 a10 a11 a12 a1 0 i_106 i_107 i_108 i_109 i_110 i_111 i_112 i_111 r_160 a2 a3 a4 a5 a6 a7 a8 a13 y11 a14 a15 a16 a17 y12 y13 y14 a18 a19 y15 y16 a20 a21 a22 y17 y18 y19 y20 a23 a24 a25 y21), (mp_arI E a1 1 1600 f0), (mp_arI E a2 0 5 g_174), (mp_arI E a3 0 25 g_175), (mp_arI E a4 0 180 g_176), (mp_arI E a5 3 3000 g_177), (mp_arI E a6 0 90 g_178), (mp_arI E a7 0 300 g_179), (mp_arI E a8 0 300 g_180)]) rfl rfl (Or.inl ⟨i_106, i_107, i_108, i_109, i_110, i_111, i_112, i_111, r_160, g_174, g_175, g_176, g_177, g_178, g_179, g_180, z_232, rfl, l_132, u_133, l_134, u_135, l_136, u_137, (by (first | exact mp_o1376 c_170 | omega)), (by (first | exact mp_o515 c_170 | omega)), (by (first | exact mp_o1376 c_170 | omega)), (by (first | exact mp_o515 c_170 | omega)), p_181, p_182, p_183, p_184, p_185, p_186, p_187, p_188, p_189, p_190, p_191, p_192, p_193, p_194, ⟨_, _, p_127, x_196, by (first | exact x_139 | omega), p_120, x_199, mp_or_good (by assumption) (by (first | exact c_170 | omega)), x_200⟩, (by obtain ⟨fu, h1⟩ := mp_TX_end x_143 (by (first | exact c_170 | omega)) (by (first | exact mp_o1377 c_170 c_152 | omega)); have k9 : (g_174 0).toInt = (g_102 4).toInt := (by rw [x_195]; exact congrArg Int32.toInt (if_pos (by decide))); exact ⟨fu, _, _, mp_Z_M x_25 x_26, h1, Or.inr ⟨rfl, (by first | (first | exact mp_o1378 c_170 c_152 | omega) | (have h8 : (-1 : Int32).toInt = -1 := rfl; have h9 : (0 : Int32).toInt = 0 := rfl; have h7 : (-4 : Int32).toInt = -4 := rfl; first | fail | (dsimp only <;> omega))), (by first | (first | exact c_170 | omega) | (have h8 : (-1 : Int32).toInt = -1 := rfl; have h9 : (0 : Int32).toInt = 0 := rfl; have h7 : (-4 : Int32).toInt = -4 := rfl; first | fail | (dsimp only <;> omega))), (by first | (first | exact mp_o1379 c_170 x_162 | omega) | (have h8 : (-1 : Int32).toInt = -1 := rfl; have h9 : (0 : Int32).toInt = 0 := rfl; have h7 : (-4 : Int32).toInt = -4 := rfl; first | fail | (dsimp only <;> omega)))⟩⟩), (by first | (first | exact x_163 | omega) | decide | (have h8 : (-1 : Int32).toInt = -1 := rfl; have h9 : (0 : Int32).toInt = 0 := rfl; have h7 : (-4 : Int32).toInt = -4 := rfl; omega) | (show _ = _ + mp_k200 _ ((0 : Int32).toInt); omega)), ⟨(g_102, g_103, g_104, g_105, g_100, g_101, f7), ⟨p_121, p_127, p_129, p_131, p_115, p_120, (fun _ _ => rfl)⟩, ⟨x_195, x_196, x_197, x_201, x_198, x_199, x_200⟩, (by obtain ⟨fu, h1⟩ := mp_TX_end x_143 (by (first | exact c_170 | omega)) (by (first | exact mp_o1377 c_170 c_152 | omega)); exact ⟨fu, _, _, mp_Z_M x_25 x_26, h1, rfl, rfl, rfl, (show (g_103 24).toInt = 0 from by (first | exact x_139 | omega))⟩)⟩, (by (first | exact c_170 | omega)), rfl⟩) (by first | exact mp_fd_ok mp_k_cX10_isles_ok (by decide +kernel) | decide +kernel)
        · have c_170 : i_111.toInt ≠ 0 := c_170
          show mp_W E X 1 117 [(0, .ref a0)] [] w7_ 0 0
          refine mp_run mp_k_cX10_isles_ok hF mp_tabX10_ok [mp_c (.bipush (-4)) (-4)] (by decide +kernel) ?_
          show mp_W E X 1 119 [(0, .ref a0)] [.int (-4)] w7_ 0 0
          exact mp_iret hF hQ rfl rfl (Nat.le_of_ble_eq_true rfl) (Nat.le_of_ble_eq_true rfl) [8, 7, 3, 4, 5, 6, 0, 1, 2] (w' := [(mp_ob10 a0 0 a9 a10 a11 a12 a1 0 i_106 i_107 i_108 i_109 i_110 i_111 i_112 i_111 r_160 a2 a3 a4 a5 a6 a7 a8 a13 y11 a14 a15 a16 a17 y12 y13 y14 a18 a19 y15 y16 a20 a21 a22 y17 y18 y19 y20 a23 a24 a25 y21), (mp_arI E a1 1 1600 f0), (mp_arI E a2 0 5 g_102), (mp_arI E a3 0 25 g_103), (mp_arI E a4 0 180 g_104), (mp_arI E a5 3 3000 g_105), (mp_arI E a6 0 90 g_100), (mp_arI E a7 0 300 g_101), (mp_arI E a8 0 300 f7)]) rfl rfl (Or.inr ⟨i_106, i_107, i_108, i_109, i_110, i_111, i_112, i_111, r_160, g_102, g_103, g_104, g_105, g_100, g_101, rfl, l_132, u_133, l_134, u_135, l_136, u_137, p_121, p_122, p_123, p_124, p_125, p_126, p_127, p_128, p_129, p_130, p_131, p_113, p_114, p_115, p_116, p_117, p_118, p_119, p_120, (by obtain ⟨R, ⟨fu, h1⟩, h2, h3⟩ := mp_TX_bad x_143 (by (first | exact c_170 | omega)); exact ⟨fu, R, _, mp_Z_M x_25 x_26, h1, Or.inl ⟨by (first | exact mp_o1380 c_170 h2 | omega), by have h8 : (-1 : Int32).toInt = -1 := rfl; have h9 : (0 : Int32).toInt = 0 := rfl; have h7 : (-4 : Int32).toInt = -4 := rfl; (first | exact mp_o357 | omega), by (first | exact mp_o275 h2 | omega), by (first | exact mp_o1381 h3 c_170 x_162 | omega)⟩⟩), (by first | (first | exact x_163 | omega) | decide | (have h8 : (-1 : Int32).toInt = -1 := rfl; have h9 : (0 : Int32).toInt = 0 := rfl; have h7 : (-4 : Int32).toInt = -4 := rfl; omega) | (show _ = _ + mp_k200 _ ((0 : Int32).toInt); omega)), ⟨p_121, p_127, p_129, p_131, p_115, p_120, (fun _ _ => rfl)⟩, (by first | (first | exact c_170 | omega) | decide | (have h8 : (0 : Int64).toInt = 0 := rfl; have h9 : (-1 : Int32).toInt = -1 := rfl; have h10 : (-2 : Int32).toInt = -2 := rfl; have h11 : (0 : Int32).toInt = 0 := rfl; have h12 : (1 : Int32).toInt = 1 := rfl; have h13 : (-5 : Int32).toInt = -5 := rfl; have h14 : (-3 : Int32).toInt = -3 := rfl; omega)), rfl⟩) (by first | exact mp_fd_ok mp_k_cX10_isles_ok (by decide +kernel) | decide +kernel)
      · skip
        have c_154 : i_111.toInt = 0 := c_154
        have go_235 : mp_GO (mp_aft f0 (y1.toInt).toNat (mp_gLine mp_gop f0 (y1.toInt).toNat (i_108.toInt).toNat ((g_103 20).toInt, (g_103 21).toInt, (g_103 22).toInt, (g_103 23).toInt, (g_102 4).toInt) (mp_dM g_104 g_105 g_100 g_101))) i_111.toInt i_112.toInt (mp_aft f0 (y1.toInt).toNat (mp_gLine mp_gop f0 (y1.toInt).toNat (i_108.toInt).toNat ((g_103 20).toInt, (g_103 21).toInt, (g_103 22).toInt, (g_103 23).toInt, (g_102 4).toInt) (mp_dM g_104 g_105 g_100 g_101))) := mp_go_0 (by first | (first | exact c_154 | omega) | (dsimp only <;> omega) | decide)
        let w9_ : va_W := [(mp_arI E a6 0 90 g_100), (mp_arI E a7 0 300 g_101), (mp_arI E a8 0 300 f7), (mp_arI E a2 0 5 g_102), (mp_arI E a3 0 25 g_103), (mp_arI E a4 0 180 g_104), (mp_arI E a5 3 3000 g_105), (mp_arI E a1 1 1600 f0), (mp_ob10 a0 0 a9 a10 a11 a12 a1 y1 i_106 i_107 i_108 i_109 i_110 i_111 i_112 y9 y10 a2 a3 a4 a5 a6 a7 a8 a13 y11 a14 a15 a16 a17 y12 y13 y14 a18 a19 y15 y16 a20 a21 a22 y17 y18 y19 y20 a23 a24 a25 y21)]
        show mp_W E X 1 17 [(0, .ref a0)] [.int 1] w9_ 0 0
        refine mp_run mp_k_cX10_isles_ok hF mp_tabX10_ok [mp_h (.ifCond .eq 89) [106]] (by decide +kernel) ?_
        refine And.intro (fun c_236 => absurd c_236 (by decide)) (fun _ => ?_)
        show mp_W E X 1 20 [(0, .ref a0)] [] w9_ 0 0
        refine mp_run mp_k_cX10_isles_ok hF mp_tabX10_ok [mp_i (.aload_n 0), mp_h (.getfield 133) [8, 8], mp_h (.ifCond .eq 82) [106]] (by decide +kernel) ?_
        refine And.intro rfl (And.intro rfl ?_)
        refine And.intro (fun c_237 => ?_) (fun c_237 => ?_)
        · have c_237 : i_107.toInt = 0 := (congrArg Int32.toInt c_237)
          show mp_W E X 1 106 [(0, .ref a0)] [] w9_ 0 0
          refine mp_run mp_k_cX10_isles_ok hF mp_tabX10_ok [mp_i (.aload_n 0)] (by decide +kernel) ?_
          show mp_W E X 1 107 [(0, .ref a0)] [.ref a0] w9_ 0 0
          refine mp_callV hF (As := []) (rest := []) (wr := [(mp_arI E a6 0 90 g_100), (mp_arI E a7 0 300 g_101), (mp_arI E a8 0 300 f7), (mp_arI E a2 0 5 g_102), (mp_arI E a3 0 25 g_103), (mp_arI E a4 0 180 g_104), (mp_arI E a5 3 3000 g_105), (mp_arI E a1 1 1600 f0)]) (bX10_isOver_44 E a0 a9 a10 a11 a12 a1 a2 a3 a4 a5 a6 a7 a8 a13 a14 a15 a16 a17 a18 a19 a20 a21 a22 a23 a24 a25 0 y1 i_106 i_107 i_108 i_109 i_110 i_111 i_112 y9 y10 y11 y12 y13 y14 y15 y16 y17 y18 y19 y20 y21 l_y1 u_y1 l_132 u_133 l_134 u_135 l_136 u_137 l_y11 u_y11 l_y12 u_y12 l_y13 u_y13) mp_lkX10_244 8 rfl [8] [0, 1, 2, 3, 4, 5, 6, 7] rfl rfl rfl rfl rfl ⟨(Nat.le_of_ble_eq_true rfl), (Nat.le_of_ble_eq_true rfl), (Nat.le_of_ble_eq_true rfl), (Nat.le_of_ble_eq_true rfl)⟩ (Nat.le_of_ble_eq_true rfl) (by first | exact mp_fd_ok mp_k_cX10_isles_ok (by decide +kernel) | decide +kernel) (fun v_238 w_239 h_240 => ?_)
          refine h_240.elim fun r_241 q_245 => q_245.elim fun e_246 q_247 => q_247.elim fun x_242 q_248 => q_248.elim fun x_243 q_249 => q_249.elim fun x_244 e_250 => ?_
          clear h_240 q_245 q_247 q_248 q_249
          subst e_246
          subst e_250
          let w10_ : va_W := [(mp_arI E a6 0 90 g_100), (mp_arI E a7 0 300 g_101), (mp_arI E a8 0 300 f7), (mp_arI E a2 0 5 g_102), (mp_arI E a3 0 25 g_103), (mp_arI E a4 0 180 g_104), (mp_arI E a5 3 3000 g_105), (mp_arI E a1 1 1600 f0), (mp_ob10 a0 0 a9 a10 a11 a12 a1 0 i_106 i_107 i_108 i_109 i_110 i_111 i_112 i_111 r_241 a2 a3 a4 a5 a6 a7 a8 a13 y11 a14 a15 a16 a17 y12 y13 y14 a18 a19 y15 y16 a20 a21 a22 y17 y18 y19 y20 a23 a24 a25 y21)]
          show mp_W E X 1 110 [(0, .ref a0)] [] w10_ 0 0
          refine mp_run mp_k_cX10_isles_ok hF mp_tabX10_ok [mp_i (.aload_n 0), mp_h (.getfield 144) [12, 8], mp_h (.ifCond .eq 6) [120]] (by decide +kernel) ?_
          refine And.intro rfl (And.intro rfl ?_)
          refine And.intro (fun c_251 => ?_) (fun c_251 => ?_)
          · have c_251 : i_111.toInt = 0 := (congrArg Int32.toInt c_251)
            show mp_W E X 1 120 [(0, .ref a0)] [] w10_ 0 0
            refine mp_run mp_k_cX10_isles_ok hF mp_tabX10_ok [mp_i (.aload_n 0), mp_c (.iconst 4) 4, mp_c (.iconst 0) 0] (by decide +kernel) ?_
            show mp_W E X 1 123 [(0, .ref a0)] [.int 0, .int 4, .ref a0] w10_ 0 0
            refine mp_callV hF (As := [.int 4, .int 0]) (rest := []) (wr := [(mp_arI E a1 1 1600 f0)]) (bX10_copyIsles_51 E a0 a2 a3 a4 a5 a6 a7 a8 a9 a10 a11 a12 a1 a13 a14 a15 a16 a17 a18 a19 a20 a21 a22 a23 a24 a25 g_102 g_103 g_104 g_105 g_100 g_101 f7 0 0 i_106 i_107 i_108 i_109 i_110 i_111 i_112 i_111 r_241 y11 y12 y13 y14 y15 y16 y17 y18 y19 y20 y21 p_122 p_123 p_124 p_125 p_126 p_128 p_130 p_113 p_114 p_116 p_117 p_118 p_119 p13 (by decide) (by decide) l_132 u_133 l_134 u_135 l_136 u_137 l_y11 u_y11 l_y12 u_y12 l_y13 u_y13) mp_lkX10_247 8 rfl [8, 3, 4, 5, 6, 0, 1, 2] [7] rfl rfl rfl rfl rfl ⟨(Nat.le_of_ble_eq_true rfl), (Nat.le_of_ble_eq_true rfl), (Nat.le_of_ble_eq_true rfl), (Nat.le_of_ble_eq_true rfl)⟩ (Nat.le_of_ble_eq_true rfl) (by first | exact mp_fd_ok mp_k_cX10_isles_ok (by decide +kernel) | decide +kernel) (fun v_252 w_253 h_254 => ?_)
            refine h_254.elim fun g_255 q_283 => q_283.elim fun g_256 q_284 => q_284.elim fun g_257 q_285 => q_285.elim fun g_258 q_286 => q_286.elim fun g_259 q_287 => q_287.elim fun g_260 q_288 => q_288.elim fun g_261 q_289 => q_289.elim fun e_290 q_291 => q_291.elim fun p_262 q_292 => q_292.elim fun p_263 q_293 => q_293.elim fun p_264 q_294 => q_294.elim fun p_265 q_295 => q_295.elim fun p_266 q_296 => q_296.elim fun p_267 q_297 => q_297.elim fun p_268 q_298 => q_298.elim fun p_269 q_299 => q_299.elim fun p_270 q_300 => q_300.elim fun p_271 q_301 => q_301.elim fun p_272 q_302 => q_302.elim fun p_273 q_303 => q_303.elim fun p_274 q_304 => q_304.elim fun p_275 q_305 => q_305.elim fun x_276 q_306 => q_306.elim fun x_277 q_307 => q_307.elim fun x_278 q_308 => q_308.elim fun x_279 q_309 => q_309.elim fun x_280 q_310 => q_310.elim fun x_281 q_311 => q_311.elim fun x_282 e_312 => ?_
            clear h_254 q_283 q_284 q_285 q_286 q_287 q_288 q_289 q_291 q_292 q_293 q_294 q_295 q_296 q_297 q_298 q_299 q_300 q_301 q_302 q_303 q_304 q_305 q_306 q_307 q_308 q_309 q_310 q_311
            subst e_290
            subst e_312
            let w11_ : va_W := [(mp_arI E a1 1 1600 f0), (mp_ob10 a0 0 a9 a10 a11 a12 a1 0 i_106 i_107 i_108 i_109 i_110 i_111 i_112 i_111 r_241 a2 a3 a4 a5 a6 a7 a8 a13 y11 a14 a15 a16 a17 y12 y13 y14 a18 a19 y15 y16 a20 a21 a22 y17 y18 y19 y20 a23 a24 a25 y21), (mp_arI E a2 0 5 g_255), (mp_arI E a3 0 25 g_256), (mp_arI E a4 0 180 g_257), (mp_arI E a5 3 3000 g_258), (mp_arI E a6 0 90 g_259), (mp_arI E a7 0 300 g_260), (mp_arI E a8 0 300 g_261)]
            show mp_W E X 1 126 [(0, .ref a0)] [] w11_ 0 0
            refine mp_run mp_k_cX10_isles_ok hF mp_tabX10_ok [mp_i (.aload_n 0), mp_h (.getfield 31) [16, 1], mp_c (.iconst 0) 0, mp_h .iaload [2]] (by decide +kernel) ?_
            refine And.intro rfl (And.intro rfl ?_)
            refine And.intro rfl (And.intro rfl (And.intro (vp_in_iff.mpr (by decide)) ?_))
            intro z_313 h_314
            have e_315 : z_313.toInt = (g_255 0).toInt := congrArg Int32.toInt (mp_at h_314 (by decide) rfl)
            show mp_W E X 1 132 [(0, .ref a0)] [.int z_313] w11_ 0 0
            exact mp_iret hF hQ rfl rfl (Nat.le_of_ble_eq_true rfl) (Nat.le_of_ble_eq_true rfl) [1, 0, 2, 3, 4, 5, 6, 7, 8] (w' := [(mp_ob10 a0 0 a9 a10 a11 a12 a1 0 i_106 i_107 i_108 i_109 i_110 i_111 i_112 i_111 r_241 a2 a3 a4 a5 a6 a7 a8 a13 y11 a14 a15 a16 a17 y12 y13 y14 a18 a19 y15 y16 a20 a21 a22 y17 y18 y19 y20 a23 a24 a25 y21), (mp_arI E a1 1 1600 f0), (mp_arI E a2 0 5 g_255), (mp_arI E a3 0 25 g_256), (mp_arI E a4 0 180 g_257), (mp_arI E a5 3 3000 g_258), (mp_arI E a6 0 90 g_259), (mp_arI E a7 0 300 g_260), (mp_arI E a8 0 300 g_261)]) rfl rfl (Or.inl ⟨i_106, i_107, i_108, i_109, i_110, i_111, i_112, i_111, r_241, g_255, g_256, g_257, g_258, g_259, g_260, g_261, z_313, rfl, l_132, u_133, l_134, u_135, l_136, u_137, (by omega), (by omega), (by omega), (by omega), p_262, p_263, p_264, p_265, p_266, p_267, p_268, p_269, p_270, p_271, p_272, p_273, p_274, p_275, ⟨_, _, p_127, x_277, by (first | exact x_139 | omega), p_120, x_280, mp_or_good (by assumption) (by (first | exact c_251 | omega)), x_281⟩, (by obtain ⟨fu, h1⟩ := mp_TX_end x_143 (by (first | exact c_251 | omega)) (by (first | exact mp_o295 c_237 k_148 | omega)); have k9 : (g_255 0).toInt = (g_102 4).toInt := (by rw [x_276]; exact congrArg Int32.toInt (if_pos (by decide))); exact ⟨fu, _, _, mp_Z_M x_25 x_26, h1, Or.inr ⟨rfl, (by first | fail | (have h8 : (-1 : Int32).toInt = -1 := rfl; have h9 : (0 : Int32).toInt = 0 := rfl; have h7 : (-4 : Int32).toInt = -4 := rfl; first | fail | (dsimp only <;> (first | exact mp_o777 k9 e_315 | omega)))), (by first | (first | exact c_251 | omega) | (have h8 : (-1 : Int32).toInt = -1 := rfl; have h9 : (0 : Int32).toInt = 0 := rfl; have h7 : (-4 : Int32).toInt = -4 := rfl; first | fail | (dsimp only <;> omega))), (by first | (first | exact mp_o1379 c_154 x_243 | omega) | (have h8 : (-1 : Int32).toInt = -1 := rfl; have h9 : (0 : Int32).toInt = 0 := rfl; have h7 : (-4 : Int32).toInt = -4 := rfl; first | fail | (dsimp only <;> omega)))⟩⟩), (by first | (first | exact x_244 | omega) | decide | (have h8 : (-1 : Int32).toInt = -1 := rfl; have h9 : (0 : Int32).toInt = 0 := rfl; have h7 : (-4 : Int32).toInt = -4 := rfl; omega) | (show _ = _ + mp_k200 _ ((0 : Int32).toInt); omega)), ⟨(g_102, g_103, g_104, g_105, g_100, g_101, f7), ⟨p_121, p_127, p_129, p_131, p_115, p_120, (fun _ _ => rfl)⟩, ⟨x_276, x_277, x_278, x_282, x_279, x_280, x_281⟩, (by obtain ⟨fu, h1⟩ := mp_TX_end x_143 (by (first | exact c_251 | omega)) (by (first | exact mp_o295 c_237 k_148 | omega)); exact ⟨fu, _, _, mp_Z_M x_25 x_26, h1, rfl, rfl, rfl, (show (g_103 24).toInt = 0 from by (first | exact x_139 | omega))⟩)⟩, (by (first | exact c_251 | omega)), rfl⟩) (by first | exact mp_fd_ok mp_k_cX10_isles_ok (by decide +kernel) | decide +kernel)
          · have c_251 : i_111.toInt ≠ 0 := c_251
            exfalso; (first | exact mp_o595 c_154 c_251 | omega)
        · have c_237 : i_107.toInt ≠ 0 := c_237
          show mp_W E X 1 27 [(0, .ref a0)] [] w9_ 0 0
          refine mp_run mp_k_cX10_isles_ok hF mp_tabX10_ok [mp_i (.aload_n 0), mp_h (.getfield 31) [16, 8], mp_c (.iconst 4) 4, mp_h .iaload [3], mp_h (.ifCond .ne 45) [78]] (by decide +kernel) ?_
          refine And.intro rfl (And.intro rfl ?_)
          refine And.intro rfl (And.intro rfl (And.intro (vp_in_iff.mpr (by decide)) ?_))
          intro z_316 h_317
          have e_318 : z_316.toInt = (g_102 4).toInt := congrArg Int32.toInt (mp_at h_317 (by decide) rfl)
          refine And.intro (fun c_319 => ?_) (fun c_319 => ?_)
          · have c_319 : z_316.toInt ≠ 0 := c_319
            show mp_W E X 1 78 [(0, .ref a0)] [] w9_ 0 0
            refine mp_run mp_k_cX10_isles_ok hF mp_tabX10_ok [mp_i (.aload_n 0)] (by decide +kernel) ?_
            show mp_W E X 1 79 [(0, .ref a0)] [.ref a0] w9_ 0 0
            refine mp_callV hF (As := []) (rest := []) (wr := [(mp_arI E a8 0 300 f7)]) (bX10_line_41 E a0 a1 a2 a3 a4 a5 a6 a7 a9 a10 a11 a12 a8 a13 a14 a15 a16 a17 a18 a19 a20 a21 a22 a23 a24 a25 f0 g_102 g_103 g_104 g_105 g_100 g_101 0 y1 i_106 i_107 i_108 i_109 i_110 i_111 i_112 y9 y10 y11 y12 y13 y14 y15 y16 y17 y18 y19 y20 y21 p_122 p_123 p_124 p_125 p_126 p_128 p_130 p_113 p_114 p_116 p_117 p_118 p_119 l_y1 u_y1 l_132 u_133 l_134 u_135 l_136 u_137 l_y11 u_y11 l_y12 u_y12 l_y13 u_y13 (by (first | exact x_138 | omega)) (mp_or_good (by assumption) (by (first | exact c_154 | omega))) (by assumption) (by (first | exact c_154 | omega))) mp_lkX10_238 8 rfl [8, 7, 3, 4, 5, 6, 0, 1] [2] rfl rfl rfl rfl rfl ⟨(Nat.le_of_ble_eq_true rfl), (Nat.le_of_ble_eq_true rfl), (Nat.le_of_ble_eq_true rfl), (Nat.le_of_ble_eq_true rfl)⟩ (Nat.le_of_ble_eq_true rfl) (by first | exact mp_fd_ok mp_k_cX10_isles_ok (by decide +kernel) | decide +kernel) (fun v_320 w_321 h_322 => ?_)
            refine h_322.elim fun r_323 q_365 => q_365.elim fun r_324 q_366 => q_366.elim fun r_325 q_367 => q_367.elim fun r_326 q_368 => q_368.elim fun r_327 q_369 => q_369.elim fun r_328 q_370 => q_370.elim fun r_329 q_371 => q_371.elim fun g_330 q_372 => q_372.elim fun g_331 q_373 => q_373.elim fun g_332 q_374 => q_374.elim fun g_333 q_375 => q_375.elim fun g_334 q_376 => q_376.elim fun e_377 q_378 => q_378.elim fun l_335 q_379 => q_379.elim fun u_336 q_380 => q_380.elim fun l_337 q_381 => q_381.elim fun u_338 q_382 => q_382.elim fun l_339 q_383 => q_383.elim fun u_340 q_384 => q_384.elim fun p_341 q_385 => q_385.elim fun p_342 q_386 => q_386.elim fun p_343 q_387 => q_387.elim fun p_344 q_388 => q_388.elim fun p_345 q_389 => q_389.elim fun p_346 q_390 => q_390.elim fun p_347 q_391 => q_391.elim fun p_348 q_392 => q_392.elim fun p_349 q_393 => q_393.elim fun p_350 q_394 => q_394.elim fun p_351 q_395 => q_395.elim fun p_352 q_396 => q_396.elim fun p_353 q_397 => q_397.elim fun p_354 q_398 => q_398.elim fun p_355 q_399 => q_399.elim fun p_356 q_400 => q_400.elim fun p_357 q_401 => q_401.elim fun p_358 q_402 => q_402.elim fun x_359 q_403 => q_403.elim fun x_360 q_404 => q_404.elim fun x_361 q_405 => q_405.elim fun x_362 q_406 => q_406.elim fun x_363 q_407 => q_407.elim fun x_364 e_408 => ?_
            clear h_322 q_365 q_366 q_367 q_368 q_369 q_370 q_371 q_372 q_373 q_374 q_375 q_376 q_378 q_379 q_380 q_381 q_382 q_383 q_384 q_385 q_386 q_387 q_388 q_389 q_390 q_391 q_392 q_393 q_394 q_395 q_396 q_397 q_398 q_399 q_400 q_401 q_402 q_403 q_404 q_405 q_406 q_407
            subst e_377
            subst e_408
            have k_409 : mp_keep g_330 f2 20 := mp_keep_trans p_346 p_127
            have k_410 : mp_keep g_331 f3 144 := mp_keep_trans p_348 p_129
            have k_411 : mp_keep g_332 f4 2400 := mp_keep_trans p_350 p_131
            have k_412 : mp_keep g_333 f5 72 := mp_keep_trans p_353 p_115
            have k_413 : mp_keep g_334 f6 240 := mp_keep_trans p_358 p_120
            have go_414 := mp_go_tr (mp_go_not go_235 (by first | fail | (dsimp only <;> omega))) (by first | (first | exact c_154 | omega) | (dsimp only <;> omega) | decide) x_363
            have k_415 := x_364.2.1
            let w12_ : va_W := [(mp_arI E a8 0 300 f7), (mp_ob10 a0 0 a9 a10 a11 a12 a1 y1 r_323 r_324 r_325 r_326 r_327 r_328 r_329 y9 y10 a2 a3 a4 a5 a6 a7 a8 a13 y11 a14 a15 a16 a17 y12 y13 y14 a18 a19 y15 y16 a20 a21 a22 y17 y18 y19 y20 a23 a24 a25 y21), (mp_arI E a1 1 1600 f0), (mp_arI E a2 0 5 g_102), (mp_arI E a3 0 25 g_330), (mp_arI E a4 0 180 g_331), (mp_arI E a5 3 3000 g_332), (mp_arI E a6 0 90 g_333), (mp_arI E a7 0 300 g_334)]
            show mp_W E X 1 82 [(0, .ref a0)] [] w12_ 0 0
            refine mp_run mp_k_cX10_isles_ok hF mp_tabX10_ok [mp_i (.aload_n 0)] (by decide +kernel) ?_
            show mp_W E X 1 83 [(0, .ref a0)] [.ref a0] w12_ 0 0
            refine mp_callV hF (As := []) (rest := []) (wr := [(mp_arI E a8 0 300 f7), (mp_arI E a1 1 1600 f0), (mp_arI E a2 0 5 g_102), (mp_arI E a3 0 25 g_330), (mp_arI E a4 0 180 g_331), (mp_arI E a5 3 3000 g_332), (mp_arI E a6 0 90 g_333), (mp_arI E a7 0 300 g_334)]) (bX10_isGood_14 E a0 a9 a10 a11 a12 a1 a2 a3 a4 a5 a6 a7 a8 a13 a14 a15 a16 a17 a18 a19 a20 a21 a22 a23 a24 a25 0 y1 r_323 r_324 r_325 r_326 r_327 r_328 r_329 y9 y10 y11 y12 y13 y14 y15 y16 y17 y18 y19 y20 y21 l_y1 u_y1 l_335 u_336 l_337 u_338 l_339 u_340 l_y11 u_y11 l_y12 u_y12 l_y13 u_y13) mp_lkX10_189 1 rfl [1] [0, 2, 3, 4, 5, 6, 7, 8] rfl rfl rfl rfl rfl ⟨(Nat.le_of_ble_eq_true rfl), (Nat.le_of_ble_eq_true rfl), (Nat.le_of_ble_eq_true rfl), (Nat.le_of_ble_eq_true rfl)⟩ (Nat.le_of_ble_eq_true rfl) (by first | exact mp_fd_ok mp_k_cX10_isles_ok (by decide +kernel) | decide +kernel) (fun v_416 w_417 h_418 => ?_)
            rcases h_418 with ⟨rfl, c_419, x_420, rfl⟩ | ⟨rfl, c_421, x_422, rfl⟩
            · skip
              have c_419 : r_328.toInt ≠ 0 := c_419
              let w13_ : va_W := [(mp_arI E a8 0 300 f7), (mp_arI E a1 1 1600 f0), (mp_arI E a2 0 5 g_102), (mp_arI E a3 0 25 g_330), (mp_arI E a4 0 180 g_331), (mp_arI E a5 3 3000 g_332), (mp_arI E a6 0 90 g_333), (mp_arI E a7 0 300 g_334), (mp_ob10 a0 0 a9 a10 a11 a12 a1 y1 r_323 r_324 r_325 r_326 r_327 r_328 r_329 y9 y10 a2 a3 a4 a5 a6 a7 a8 a13 y11 a14 a15 a16 a17 y12 y13 y14 a18 a19 y15 y16 a20 a21 a22 y17 y18 y19 y20 a23 a24 a25 y21)]
              show mp_W E X 1 86 [(0, .ref a0)] [.int 0] w13_ 0 0
              refine mp_run mp_k_cX10_isles_ok hF mp_tabX10_ok [mp_h (.ifCond .eq 7) [93]] (by decide +kernel) ?_
              refine And.intro (fun _ => ?_) (fun c_423 => absurd c_423 (by decide))
              show mp_W E X 1 93 [(0, .ref a0)] [] w13_ 0 0
              refine mp_run mp_k_cX10_isles_ok hF mp_tabX10_ok [mp_i (.aload_n 0), mp_h (.getfield 31) [16, 8], mp_c (.iconst 4) 4, mp_i .dup2, mp_h .iaload [2], mp_c (.iconst 1) 1, mp_i .iadd, mp_h .iastore [2]] (by decide +kernel) ?_
              refine And.intro rfl (And.intro rfl ?_)
              refine And.intro rfl (And.intro rfl (And.intro (vp_in_iff.mpr (by decide)) ?_))
              intro z_424 h_425
              have k_426 : z_316 = z_424 := h_317.trans h_425.symm
              subst k_426
              intro z_427 h_428
              have e_429 : z_427.toInt = z_316.toInt + 1 := mp_add (a := z_316.toInt) (b := 1) h_428 rfl (by decide) (by (first | exact mp_o1382 e_318 x_141 | omega)) (by omega)
              refine And.intro rfl (And.intro rfl (And.intro (vp_in_iff.mpr (by decide)) ?_))
              intro g_430 h_431
              have p_432 : mp_keep g_430 f1 4 := mp_keep_st h_431 p_121 (by decide)
              have e_433 : (g_430 0).toInt = (g_102 0).toInt := mp_has_ne h_431 (by decide)
              have e_434 : (g_430 4).toInt = z_427.toInt := mp_has_eq h_431 (by decide)
              let w14_ : va_W := [(mp_arI E a8 0 300 f7), (mp_arI E a1 1 1600 f0), (mp_arI E a2 0 5 g_430), (mp_arI E a3 0 25 g_330), (mp_arI E a4 0 180 g_331), (mp_arI E a5 3 3000 g_332), (mp_arI E a6 0 90 g_333), (mp_arI E a7 0 300 g_334), (mp_ob10 a0 0 a9 a10 a11 a12 a1 y1 r_323 r_324 r_325 r_326 r_327 r_328 r_329 y9 y10 a2 a3 a4 a5 a6 a7 a8 a13 y11 a14 a15 a16 a17 y12 y13 y14 a18 a19 y15 y16 a20 a21 a22 y17 y18 y19 y20 a23 a24 a25 y21)]
              show mp_W E X 1 103 [(0, .ref a0)] [] w14_ 0 0
              refine mp_run mp_k_cX10_isles_ok hF mp_tabX10_ok [mp_h (.goto (-90)) [13]] (by decide +kernel) ?_
              show mp_W E X 1 13 [(0, .ref a0)] [] w14_ 0 0
              exact mp_sub [0] rfl [6, 7, 0, 2, 3, 4, 5, 8, 1] rfl rfl (ih_146 (d_145 - 1) (by omega) g_333 g_334 g_430 g_330 g_331 g_332 r_323 r_324 r_325 r_326 r_327 r_328 r_329 p_351 p_352 k_412 p_354 p_355 p_356 p_357 k_413 p_432 p_341 p_342 p_343 p_344 p_345 k_409 p_347 k_410 p_349 k_411 l_335 u_336 l_337 u_338 l_339 u_340 (by first | (first | exact x_359 | omega) | decide) (by first | (first | exact mp_o970 x_139 x_361 | omega) | decide) (by first | assumption | exact Or.inl (by omega) | exact Or.inr (mp_prmo_eq (by assumption) (by omega)) | exact Or.inr (mp_prmo_0 (by omega)) | exact Or.inr (mp_prmo_eq (mp_or_good (by assumption) (by omega)) (by omega))) (by (first | exact mp_o1383 c_419 e_434 e_429 e_318 x_141 | omega)) x_364 (mp_TX_s x_143 (by (first | exact c_154 | omega)) (by omega) (by first | exact mp_go_any go_414 (by (first | exact c_419 | omega)) | exact mp_go_eq go_414 (Or.inr (mp_rs4 rfl (mp_sc5 (by first | fail | (dsimp only <;> omega)) (by first | fail | (dsimp only <;> omega)) (by first | fail | (dsimp only <;> omega)) (by first | fail | (dsimp only <;> omega)) (by first | fail | (dsimp only <;> omega))) rfl)))) (by omega))
            · skip
              have c_421 : r_328.toInt = 0 := c_421
              let w15_ : va_W := [(mp_arI E a8 0 300 f7), (mp_arI E a1 1 1600 f0), (mp_arI E a2 0 5 g_102), (mp_arI E a3 0 25 g_330), (mp_arI E a4 0 180 g_331), (mp_arI E a5 3 3000 g_332), (mp_arI E a6 0 90 g_333), (mp_arI E a7 0 300 g_334), (mp_ob10 a0 0 a9 a10 a11 a12 a1 y1 r_323 r_324 r_325 r_326 r_327 r_328 r_329 y9 y10 a2 a3 a4 a5 a6 a7 a8 a13 y11 a14 a15 a16 a17 y12 y13 y14 a18 a19 y15 y16 a20 a21 a22 y17 y18 y19 y20 a23 a24 a25 y21)]
              show mp_W E X 1 86 [(0, .ref a0)] [.int 1] w15_ 0 0
              refine mp_run mp_k_cX10_isles_ok hF mp_tabX10_ok [mp_h (.ifCond .eq 7) [93]] (by decide +kernel) ?_
              refine And.intro (fun c_435 => absurd c_435 (by decide)) (fun _ => ?_)
              show mp_W E X 1 89 [(0, .ref a0)] [] w15_ 0 0
              refine mp_run mp_k_cX10_isles_ok hF mp_tabX10_ok [mp_i (.aload_n 0)] (by decide +kernel) ?_
              show mp_W E X 1 90 [(0, .ref a0)] [.ref a0] w15_ 0 0
              refine mp_callV hF (As := []) (rest := []) (wr := [(mp_arI E a8 0 300 f7), (mp_arI E a2 0 5 g_102), (mp_arI E a3 0 25 g_330), (mp_arI E a4 0 180 g_331), (mp_arI E a5 3 3000 g_332), (mp_arI E a6 0 90 g_333), (mp_arI E a7 0 300 g_334)]) (bX10_ends_42 E a0 a1 a9 a10 a11 a12 a2 a3 a4 a5 a6 a7 a8 a13 a14 a15 a16 a17 a18 a19 a20 a21 a22 a23 a24 a25 f0 0 y1 r_323 r_324 r_325 r_326 r_327 r_328 r_329 y9 y10 y11 y12 y13 y14 y15 y16 y17 y18 y19 y20 y21 l_y1 u_y1 l_335 u_336 l_337 u_338 l_339 u_340 l_y11 u_y11 l_y12 u_y12 l_y13 u_y13 (by (first | exact x_359 | omega)) (by assumption)) mp_lkX10_241 8 rfl [8, 1] [0, 2, 3, 4, 5, 6, 7] rfl rfl rfl rfl rfl ⟨(Nat.le_of_ble_eq_true rfl), (Nat.le_of_ble_eq_true rfl), (Nat.le_of_ble_eq_true rfl), (Nat.le_of_ble_eq_true rfl)⟩ (Nat.le_of_ble_eq_true rfl) (by first | exact mp_fd_ok mp_k_cX10_isles_ok (by decide +kernel) | decide +kernel) (fun v_436 w_437 h_438 => ?_)
              refine h_438.elim fun r_439 q_457 => q_457.elim fun r_440 q_458 => q_458.elim fun r_441 q_459 => q_459.elim fun r_442 q_460 => q_460.elim fun r_443 q_461 => q_461.elim fun r_444 q_462 => q_462.elim fun r_445 q_463 => q_463.elim fun e_464 q_465 => q_465.elim fun l_446 q_466 => q_466.elim fun u_447 q_467 => q_467.elim fun l_448 q_468 => q_468.elim fun u_449 q_469 => q_469.elim fun l_450 q_470 => q_470.elim fun u_451 q_471 => q_471.elim fun x_452 q_472 => q_472.elim fun x_453 q_473 => q_473.elim fun x_454 q_474 => q_474.elim fun x_455 q_475 => q_475.elim fun x_456 e_476 => ?_
              clear h_438 q_457 q_458 q_459 q_460 q_461 q_462 q_463 q_465 q_466 q_467 q_468 q_469 q_470 q_471 q_472 q_473 q_474 q_475
              subst e_464
              subst e_476
              have go_477 := mp_go_ends x_455 (by first | (first | exact l_339 | omega) | (dsimp only <;> omega) | decide) go_414
              have k_478 := x_456.2.1
              let w16_ : va_W := [(mp_arI E a8 0 300 f7), (mp_arI E a2 0 5 g_102), (mp_arI E a3 0 25 g_330), (mp_arI E a4 0 180 g_331), (mp_arI E a5 3 3000 g_332), (mp_arI E a6 0 90 g_333), (mp_arI E a7 0 300 g_334), (mp_ob10 a0 0 a9 a10 a11 a12 a1 y1 r_439 r_440 r_441 r_442 r_443 r_444 r_445 y9 y10 a2 a3 a4 a5 a6 a7 a8 a13 y11 a14 a15 a16 a17 y12 y13 y14 a18 a19 y15 y16 a20 a21 a22 y17 y18 y19 y20 a23 a24 a25 y21), (mp_arI E a1 1 1600 f0)]
              show mp_W E X 1 93 [(0, .ref a0)] [] w16_ 0 0
              refine mp_run mp_k_cX10_isles_ok hF mp_tabX10_ok [mp_i (.aload_n 0), mp_h (.getfield 31) [16, 7], mp_c (.iconst 4) 4, mp_i .dup2, mp_h .iaload [1], mp_c (.iconst 1) 1, mp_i .iadd, mp_h .iastore [1]] (by decide +kernel) ?_
              refine And.intro rfl (And.intro rfl ?_)
              refine And.intro rfl (And.intro rfl (And.intro (vp_in_iff.mpr (by decide)) ?_))
              intro z_479 h_480
              have k_481 : z_316 = z_479 := h_317.trans h_480.symm
              subst k_481
              intro z_482 h_483
              have e_484 : z_482.toInt = z_316.toInt + 1 := mp_add (a := z_316.toInt) (b := 1) h_483 rfl (by decide) (by (first | exact mp_o1382 e_318 x_141 | omega)) (by omega)
              refine And.intro rfl (And.intro rfl (And.intro (vp_in_iff.mpr (by decide)) ?_))
              intro g_485 h_486
              have p_487 : mp_keep g_485 f1 4 := mp_keep_st h_486 p_121 (by decide)
              have e_488 : (g_485 0).toInt = (g_102 0).toInt := mp_has_ne h_486 (by decide)
              have e_489 : (g_485 4).toInt = z_482.toInt := mp_has_eq h_486 (by decide)
              let w17_ : va_W := [(mp_arI E a8 0 300 f7), (mp_arI E a2 0 5 g_485), (mp_arI E a3 0 25 g_330), (mp_arI E a4 0 180 g_331), (mp_arI E a5 3 3000 g_332), (mp_arI E a6 0 90 g_333), (mp_arI E a7 0 300 g_334), (mp_ob10 a0 0 a9 a10 a11 a12 a1 y1 r_439 r_440 r_441 r_442 r_443 r_444 r_445 y9 y10 a2 a3 a4 a5 a6 a7 a8 a13 y11 a14 a15 a16 a17 y12 y13 y14 a18 a19 y15 y16 a20 a21 a22 y17 y18 y19 y20 a23 a24 a25 y21), (mp_arI E a1 1 1600 f0)]
              show mp_W E X 1 103 [(0, .ref a0)] [] w17_ 0 0
              refine mp_run mp_k_cX10_isles_ok hF mp_tabX10_ok [mp_h (.goto (-90)) [13]] (by decide +kernel) ?_
              show mp_W E X 1 13 [(0, .ref a0)] [] w17_ 0 0
              exact mp_sub [0] rfl [5, 6, 0, 1, 2, 3, 4, 7, 8] rfl rfl (ih_146 (d_145 - 1) (by omega) g_333 g_334 g_485 g_330 g_331 g_332 r_439 r_440 r_441 r_442 r_443 r_444 r_445 p_351 p_352 k_412 p_354 p_355 p_356 p_357 k_413 p_487 p_341 p_342 p_343 p_344 p_345 k_409 p_347 k_410 p_349 k_411 l_446 u_447 l_448 u_449 l_450 u_451 (by first | (first | exact x_452 | omega) | decide) (by first | (first | exact mp_o970 x_139 x_361 | omega) | decide) (by first | assumption | exact Or.inl (by omega) | exact Or.inr (mp_prmo_eq (by assumption) (by omega)) | exact Or.inr (mp_prmo_0 (by omega)) | exact Or.inr (mp_prmo_eq (mp_or_good (by assumption) (by (first | exact c_421 | omega))) (by (first | exact mp_o19 | omega)))) (by omega) x_456 (mp_TX_s x_143 (by (first | exact c_154 | omega)) (by omega) (by first | exact mp_go_any go_477 (by omega) | exact mp_go_eq go_477 (Or.inr (mp_rs4 rfl (mp_sc5 (by first | omega | (dsimp only <;> omega)) (by first | fail | (dsimp only <;> omega)) (by first | fail | (dsimp only <;> omega)) (by first | fail | (dsimp only <;> omega)) (by first | fail | (dsimp only <;> (first | exact mp_o1124 e_318 e_484 e_489 | omega)))) rfl)))) (by omega))
          · have c_319 : z_316.toInt = 0 := (congrArg Int32.toInt c_319)
            show mp_W E X 1 36 [(0, .ref a0)] [] w9_ 0 0
            refine mp_run mp_k_cX10_isles_ok hF mp_tabX10_ok [mp_i (.aload_n 0), mp_cl (.ldc2_w 234) 5165848] (by decide +kernel) ?_
            show mp_W E X 1 40 [(0, .ref a0)] [.long 5165848, .ref a0] w9_ 0 0
            refine mp_callV hF (As := [.long 5165848]) (rest := []) (wr := [(mp_arI E a6 0 90 g_100), (mp_arI E a7 0 300 g_101), (mp_arI E a8 0 300 f7), (mp_arI E a2 0 5 g_102), (mp_arI E a3 0 25 g_103), (mp_arI E a4 0 180 g_104), (mp_arI E a5 3 3000 g_105)]) (bX10_asks_21 E a0 a1 a9 a10 a11 a12 a2 a3 a4 a5 a6 a7 a8 a13 a14 a15 a16 a17 a18 a19 a20 a21 a22 a23 a24 a25 f0 0 y1 i_106 i_107 i_108 i_109 i_110 i_111 i_112 y9 y10 y11 y12 y13 y14 y15 y16 y17 y18 y19 y20 y21 5165848 l_y1 u_y1 l_132 u_133 l_134 u_135 l_136 u_137 l_y11 u_y11 l_y12 u_y12 l_y13 u_y13 (by (first | exact x_138 | omega)) (by assumption)) mp_lkX10_163 8 rfl [8, 7] [0, 1, 2, 3, 4, 5, 6] rfl rfl rfl rfl rfl ⟨(Nat.le_of_ble_eq_true rfl), (Nat.le_of_ble_eq_true rfl), (Nat.le_of_ble_eq_true rfl), (Nat.le_of_ble_eq_true rfl)⟩ (Nat.le_of_ble_eq_true rfl) (by first | exact mp_fd_ok mp_k_cX10_isles_ok (by decide +kernel) | decide +kernel) (fun v_490 w_491 h_492 => ?_)
            refine h_492.elim fun r_493 q_510 => q_510.elim fun r_494 q_511 => q_511.elim fun r_495 q_512 => q_512.elim fun r_496 q_513 => q_513.elim fun r_497 q_514 => q_514.elim fun r_498 q_515 => q_515.elim fun r_499 q_516 => q_516.elim fun e_517 q_518 => q_518.elim fun l_500 q_519 => q_519.elim fun u_501 q_520 => q_520.elim fun l_502 q_521 => q_521.elim fun u_503 q_522 => q_522.elim fun l_504 q_523 => q_523.elim fun u_505 q_524 => q_524.elim fun x_506 q_525 => q_525.elim fun x_507 q_526 => q_526.elim fun x_508 q_527 => q_527.elim fun x_509 e_528 => ?_
            clear h_492 q_510 q_511 q_512 q_513 q_514 q_515 q_516 q_518 q_519 q_520 q_521 q_522 q_523 q_524 q_525 q_526 q_527
            subst e_517
            subst e_528
            have go_529 := mp_go_is go_235 (by first | fail | (dsimp only <;> (first | exact mp_o295 c_319 e_318 | omega)))
            have go_530 := mp_go_w x_508 (by decide) l_136 go_529
            have k_531 := x_509.2.1
            let w18_ : va_W := [(mp_arI E a6 0 90 g_100), (mp_arI E a7 0 300 g_101), (mp_arI E a8 0 300 f7), (mp_arI E a2 0 5 g_102), (mp_arI E a3 0 25 g_103), (mp_arI E a4 0 180 g_104), (mp_arI E a5 3 3000 g_105), (mp_ob10 a0 0 a9 a10 a11 a12 a1 y1 r_493 r_494 r_495 r_496 r_497 r_498 r_499 y9 y10 a2 a3 a4 a5 a6 a7 a8 a13 y11 a14 a15 a16 a17 y12 y13 y14 a18 a19 y15 y16 a20 a21 a22 y17 y18 y19 y20 a23 a24 a25 y21), (mp_arI E a1 1 1600 f0)]
            show mp_W E X 1 43 [(0, .ref a0)] [] w18_ 0 0
            refine mp_run mp_k_cX10_isles_ok hF mp_tabX10_ok [mp_i (.aload_n 0), mp_h (.getfield 34) [17, 7], mp_c (.bipush 20) 20, mp_i (.aload_n 0), mp_c (.iconst 1) 1, mp_c (.bipush 6) 6] (by decide +kernel) ?_
            refine And.intro rfl (And.intro rfl ?_)
            show mp_W E X 1 53 [(0, .ref a0)] [.int 6, .int 1, .ref a0, .int 20, .ref a3] w18_ 0 0
            refine mp_callV hF (As := [.int 1, .int 6]) (rest := [.int 20, .ref a3]) (wr := [(mp_arI E a6 0 90 g_100), (mp_arI E a7 0 300 g_101), (mp_arI E a8 0 300 f7), (mp_arI E a2 0 5 g_102), (mp_arI E a3 0 25 g_103), (mp_arI E a4 0 180 g_104), (mp_arI E a5 3 3000 g_105)]) (bX10_number_43 E a0 a1 a9 a10 a11 a12 a2 a3 a4 a5 a6 a7 a8 a13 a14 a15 a16 a17 a18 a19 a20 a21 a22 a23 a24 a25 f0 0 y1 r_493 r_494 r_495 r_496 r_497 r_498 r_499 y9 y10 y11 y12 y13 y14 y15 y16 y17 y18 y19 y20 y21 l_y1 u_y1 l_500 u_501 l_502 u_503 l_504 u_505 l_y11 u_y11 l_y12 u_y12 l_y13 u_y13 (by (first | exact x_506 | omega)) (by assumption) (by first | (first | exact mp_o271 | omega) | decide)) mp_lkX10_167 7 rfl [7, 8] [0, 1, 2, 3, 4, 5, 6] rfl rfl rfl rfl rfl ⟨(Nat.le_of_ble_eq_true rfl), (Nat.le_of_ble_eq_true rfl), (Nat.le_of_ble_eq_true rfl), (Nat.le_of_ble_eq_true rfl)⟩ (Nat.le_of_ble_eq_true rfl) (by first | exact mp_fd_ok mp_k_cX10_isles_ok (by decide +kernel) | decide +kernel) (fun v_532 w_533 h_534 => ?_)
            refine h_534.elim fun r_535 q_556 => q_556.elim fun r_536 q_557 => q_557.elim fun r_537 q_558 => q_558.elim fun r_538 q_559 => q_559.elim fun r_539 q_560 => q_560.elim fun r_540 q_561 => q_561.elim fun r_541 q_562 => q_562.elim fun r_542 q_563 => q_563.elim fun e_564 q_565 => q_565.elim fun l_543 q_566 => q_566.elim fun u_544 q_567 => q_567.elim fun l_545 q_568 => q_568.elim fun u_546 q_569 => q_569.elim fun l_547 q_570 => q_570.elim fun u_548 q_571 => q_571.elim fun l_549 q_572 => q_572.elim fun u_550 q_573 => q_573.elim fun x_551 q_574 => q_574.elim fun x_552 q_575 => q_575.elim fun x_553 q_576 => q_576.elim fun x_554 q_577 => q_577.elim fun x_555 e_578 => ?_
            clear h_534 q_556 q_557 q_558 q_559 q_560 q_561 q_562 q_563 q_565 q_566 q_567 q_568 q_569 q_570 q_571 q_572 q_573 q_574 q_575 q_576 q_577
            subst e_564
            subst e_578
            have go_579 := mp_go_n x_554 (by first | rfl | omega) (by first | rfl | omega) l_504 (Or.inr (Or.inr (Or.inr (by decide)))) go_530
            have k_580 := x_555.2.1
            let w19_ : va_W := [(mp_arI E a6 0 90 g_100), (mp_arI E a7 0 300 g_101), (mp_arI E a8 0 300 f7), (mp_arI E a2 0 5 g_102), (mp_arI E a3 0 25 g_103), (mp_arI E a4 0 180 g_104), (mp_arI E a5 3 3000 g_105), (mp_ob10 a0 0 a9 a10 a11 a12 a1 y1 r_535 r_536 r_537 r_538 r_539 r_540 r_541 y9 y10 a2 a3 a4 a5 a6 a7 a8 a13 y11 a14 a15 a16 a17 y12 y13 y14 a18 a19 y15 y16 a20 a21 a22 y17 y18 y19 y20 a23 a24 a25 y21), (mp_arI E a1 1 1600 f0)]
            show mp_W E X 1 56 [(0, .ref a0)] [.int r_542, .int 20, .ref a3] w19_ 0 0
            refine mp_run mp_k_cX10_isles_ok hF mp_tabX10_ok [mp_h .iastore [4]] (by decide +kernel) ?_
            refine And.intro rfl (And.intro rfl (And.intro (vp_in_iff.mpr (by decide)) ?_))
            intro g_581 h_582
            have p_583 : mp_res g_581 25 5 0 0 6 := mp_res_st h_582 p_122 (by decide) (fun _ => by (first | exact mp_o1384 l_549 u_550 | omega))
            have p_584 : mp_res g_581 25 5 1 0 99 := mp_res_st h_582 p_123 (by decide) (fun q => absurd q (by decide))
            have p_585 : mp_res g_581 25 5 2 0 6 := mp_res_st h_582 p_124 (by decide) (fun q => absurd q (by decide))
            have p_586 : mp_res g_581 25 5 3 0 10 := mp_res_st h_582 p_125 (by decide) (fun q => absurd q (by decide))
            have p_587 : mp_res g_581 25 5 4 0 60 := mp_res_st h_582 p_126 (by decide) (fun q => absurd q (by decide))
            have p_588 : mp_keep g_581 f2 20 := mp_keep_st h_582 p_127 (by decide)
            have e_589 : (g_581 0).toInt = (g_103 0).toInt := mp_has_ne h_582 (by decide)
            have e_590 : (g_581 1).toInt = (g_103 1).toInt := mp_has_ne h_582 (by decide)
            have e_591 : (g_581 2).toInt = (g_103 2).toInt := mp_has_ne h_582 (by decide)
            have e_592 : (g_581 3).toInt = (g_103 3).toInt := mp_has_ne h_582 (by decide)
            have e_593 : (g_581 4).toInt = (g_103 4).toInt := mp_has_ne h_582 (by decide)
            have e_594 : (g_581 20).toInt = r_542.toInt := mp_has_eq h_582 (by decide)
            have e_595 : (g_581 21).toInt = (g_103 21).toInt := mp_has_ne h_582 (by decide)
            have e_596 : (g_581 22).toInt = (g_103 22).toInt := mp_has_ne h_582 (by decide)
            have e_597 : (g_581 23).toInt = (g_103 23).toInt := mp_has_ne h_582 (by decide)
            have e_598 : (g_581 24).toInt = (g_103 24).toInt := mp_has_ne h_582 (by decide)
            let w20_ : va_W := [(mp_arI E a6 0 90 g_100), (mp_arI E a7 0 300 g_101), (mp_arI E a8 0 300 f7), (mp_arI E a2 0 5 g_102), (mp_arI E a3 0 25 g_581), (mp_arI E a4 0 180 g_104), (mp_arI E a5 3 3000 g_105), (mp_ob10 a0 0 a9 a10 a11 a12 a1 y1 r_535 r_536 r_537 r_538 r_539 r_540 r_541 y9 y10 a2 a3 a4 a5 a6 a7 a8 a13 y11 a14 a15 a16 a17 y12 y13 y14 a18 a19 y15 y16 a20 a21 a22 y17 y18 y19 y20 a23 a24 a25 y21), (mp_arI E a1 1 1600 f0)]
            show mp_W E X 1 57 [(0, .ref a0)] [] w20_ 0 0
            refine mp_run mp_k_cX10_isles_ok hF mp_tabX10_ok [mp_i (.aload_n 0), mp_cl (.ldc2_w 236) 47] (by decide +kernel) ?_
            show mp_W E X 1 61 [(0, .ref a0)] [.long 47, .ref a0] w20_ 0 0
            refine mp_callV hF (As := [.long 47]) (rest := []) (wr := [(mp_arI E a6 0 90 g_100), (mp_arI E a7 0 300 g_101), (mp_arI E a8 0 300 f7), (mp_arI E a2 0 5 g_102), (mp_arI E a3 0 25 g_581), (mp_arI E a4 0 180 g_104), (mp_arI E a5 3 3000 g_105)]) (bX10_asks_21 E a0 a1 a9 a10 a11 a12 a2 a3 a4 a5 a6 a7 a8 a13 a14 a15 a16 a17 a18 a19 a20 a21 a22 a23 a24 a25 f0 0 y1 r_535 r_536 r_537 r_538 r_539 r_540 r_541 y9 y10 y11 y12 y13 y14 y15 y16 y17 y18 y19 y20 y21 47 l_y1 u_y1 l_543 u_544 l_545 u_546 l_547 u_548 l_y11 u_y11 l_y12 u_y12 l_y13 u_y13 (by (first | exact x_551 | omega)) (by assumption)) mp_lkX10_163 7 rfl [7, 8] [0, 1, 2, 3, 4, 5, 6] rfl rfl rfl rfl rfl ⟨(Nat.le_of_ble_eq_true rfl), (Nat.le_of_ble_eq_true rfl), (Nat.le_of_ble_eq_true rfl), (Nat.le_of_ble_eq_true rfl)⟩ (Nat.le_of_ble_eq_true rfl) (by first | exact mp_fd_ok mp_k_cX10_isles_ok (by decide +kernel) | decide +kernel) (fun v_599 w_600 h_601 => ?_)
            refine h_601.elim fun r_602 q_619 => q_619.elim fun r_603 q_620 => q_620.elim fun r_604 q_621 => q_621.elim fun r_605 q_622 => q_622.elim fun r_606 q_623 => q_623.elim fun r_607 q_624 => q_624.elim fun r_608 q_625 => q_625.elim fun e_626 q_627 => q_627.elim fun l_609 q_628 => q_628.elim fun u_610 q_629 => q_629.elim fun l_611 q_630 => q_630.elim fun u_612 q_631 => q_631.elim fun l_613 q_632 => q_632.elim fun u_614 q_633 => q_633.elim fun x_615 q_634 => q_634.elim fun x_616 q_635 => q_635.elim fun x_617 q_636 => q_636.elim fun x_618 e_637 => ?_
            clear h_601 q_619 q_620 q_621 q_622 q_623 q_624 q_625 q_627 q_628 q_629 q_630 q_631 q_632 q_633 q_634 q_635 q_636
            subst e_626
            subst e_637
            have go_638 := mp_go_w x_617 (by decide) l_547 go_579
            have k_639 := x_618.2.1
            let w21_ : va_W := [(mp_arI E a6 0 90 g_100), (mp_arI E a7 0 300 g_101), (mp_arI E a8 0 300 f7), (mp_arI E a2 0 5 g_102), (mp_arI E a3 0 25 g_581), (mp_arI E a4 0 180 g_104), (mp_arI E a5 3 3000 g_105), (mp_ob10 a0 0 a9 a10 a11 a12 a1 y1 r_602 r_603 r_604 r_605 r_606 r_607 r_608 y9 y10 a2 a3 a4 a5 a6 a7 a8 a13 y11 a14 a15 a16 a17 y12 y13 y14 a18 a19 y15 y16 a20 a21 a22 y17 y18 y19 y20 a23 a24 a25 y21), (mp_arI E a1 1 1600 f0)]
            show mp_W E X 1 64 [(0, .ref a0)] [] w21_ 0 0
            refine mp_run mp_k_cX10_isles_ok hF mp_tabX10_ok [mp_i (.aload_n 0), mp_h (.getfield 34) [17, 7], mp_c (.bipush 21) 21, mp_i (.aload_n 0)] (by decide +kernel) ?_
            refine And.intro rfl (And.intro rfl ?_)
            show mp_W E X 1 71 [(0, .ref a0)] [.ref a0, .int 21, .ref a3] w21_ 0 0
            refine mp_callV hF (As := []) (rest := [.int 21, .ref a3]) (wr := [(mp_arI E a6 0 90 g_100), (mp_arI E a7 0 300 g_101), (mp_arI E a8 0 300 f7), (mp_arI E a2 0 5 g_102), (mp_arI E a3 0 25 g_581), (mp_arI E a4 0 180 g_104), (mp_arI E a5 3 3000 g_105)]) (bX10_moonHere_28 E a0 a1 a9 a10 a11 a12 a2 a3 a4 a5 a6 a7 a8 a13 a14 a15 a16 a17 a18 a19 a20 a21 a22 a23 a24 a25 f0 0 y1 r_602 r_603 r_604 r_605 r_606 r_607 r_608 y9 y10 y11 y12 y13 y14 y15 y16 y17 y18 y19 y20 y21 l_y1 u_y1 l_609 u_610 l_611 u_612 l_613 u_614 l_y11 u_y11 l_y12 u_y12 l_y13 u_y13 (by (first | exact x_615 | omega)) (by assumption)) mp_lkX10_197 7 rfl [7, 8] [0, 1, 2, 3, 4, 5, 6] rfl rfl rfl rfl rfl ⟨(Nat.le_of_ble_eq_true rfl), (Nat.le_of_ble_eq_true rfl), (Nat.le_of_ble_eq_true rfl), (Nat.le_of_ble_eq_true rfl)⟩ (Nat.le_of_ble_eq_true rfl) (by first | exact mp_fd_ok mp_k_cX10_isles_ok (by decide +kernel) | decide +kernel) (fun v_640 w_641 h_642 => ?_)
            refine h_642.elim fun r_643 q_664 => q_664.elim fun r_644 q_665 => q_665.elim fun r_645 q_666 => q_666.elim fun r_646 q_667 => q_667.elim fun r_647 q_668 => q_668.elim fun r_648 q_669 => q_669.elim fun r_649 q_670 => q_670.elim fun r_650 q_671 => q_671.elim fun e_672 q_673 => q_673.elim fun l_651 q_674 => q_674.elim fun u_652 q_675 => q_675.elim fun l_653 q_676 => q_676.elim fun u_654 q_677 => q_677.elim fun l_655 q_678 => q_678.elim fun u_656 q_679 => q_679.elim fun l_657 q_680 => q_680.elim fun u_658 q_681 => q_681.elim fun x_659 q_682 => q_682.elim fun x_660 q_683 => q_683.elim fun x_661 q_684 => q_684.elim fun x_662 q_685 => q_685.elim fun x_663 e_686 => ?_
            clear h_642 q_664 q_665 q_666 q_667 q_668 q_669 q_670 q_671 q_673 q_674 q_675 q_676 q_677 q_678 q_679 q_680 q_681 q_682 q_683 q_684 q_685
            subst e_672
            subst e_686
            have go_687 := mp_go_n x_662 (by first | rfl | omega) (by first | rfl | omega) l_613 (Or.inr (Or.inr (Or.inr (by decide)))) go_638
            have k_688 := x_663.2.1
            let w22_ : va_W := [(mp_arI E a6 0 90 g_100), (mp_arI E a7 0 300 g_101), (mp_arI E a8 0 300 f7), (mp_arI E a2 0 5 g_102), (mp_arI E a3 0 25 g_581), (mp_arI E a4 0 180 g_104), (mp_arI E a5 3 3000 g_105), (mp_ob10 a0 0 a9 a10 a11 a12 a1 y1 r_643 r_644 r_645 r_646 r_647 r_648 r_649 y9 y10 a2 a3 a4 a5 a6 a7 a8 a13 y11 a14 a15 a16 a17 y12 y13 y14 a18 a19 y15 y16 a20 a21 a22 y17 y18 y19 y20 a23 a24 a25 y21), (mp_arI E a1 1 1600 f0)]
            show mp_W E X 1 74 [(0, .ref a0)] [.int r_650, .int 21, .ref a3] w22_ 0 0
            refine mp_run mp_k_cX10_isles_ok hF mp_tabX10_ok [mp_h .iastore [4]] (by decide +kernel) ?_
            refine And.intro rfl (And.intro rfl (And.intro (vp_in_iff.mpr (by decide)) ?_))
            intro g_689 h_690
            have p_691 : mp_res g_689 25 5 0 0 6 := mp_res_st h_690 p_583 (by decide) (fun q => absurd q (by decide))
            have p_692 : mp_res g_689 25 5 1 0 99 := mp_res_st h_690 p_584 (by decide) (fun _ => by (first | exact mp_o404 l_657 u_658 | omega))
            have p_693 : mp_res g_689 25 5 2 0 6 := mp_res_st h_690 p_585 (by decide) (fun q => absurd q (by decide))
            have p_694 : mp_res g_689 25 5 3 0 10 := mp_res_st h_690 p_586 (by decide) (fun q => absurd q (by decide))
            have p_695 : mp_res g_689 25 5 4 0 60 := mp_res_st h_690 p_587 (by decide) (fun q => absurd q (by decide))
            have p_696 : mp_keep g_689 f2 20 := mp_keep_st h_690 p_588 (by decide)
            have e_697 : (g_689 0).toInt = (g_581 0).toInt := mp_has_ne h_690 (by decide)
            have e_698 : (g_689 1).toInt = (g_581 1).toInt := mp_has_ne h_690 (by decide)
            have e_699 : (g_689 2).toInt = (g_581 2).toInt := mp_has_ne h_690 (by decide)
            have e_700 : (g_689 3).toInt = (g_581 3).toInt := mp_has_ne h_690 (by decide)
            have e_701 : (g_689 4).toInt = (g_581 4).toInt := mp_has_ne h_690 (by decide)
            have e_702 : (g_689 20).toInt = (g_581 20).toInt := mp_has_ne h_690 (by decide)
            have e_703 : (g_689 21).toInt = r_650.toInt := mp_has_eq h_690 (by decide)
            have e_704 : (g_689 22).toInt = (g_581 22).toInt := mp_has_ne h_690 (by decide)
            have e_705 : (g_689 23).toInt = (g_581 23).toInt := mp_has_ne h_690 (by decide)
            have e_706 : (g_689 24).toInt = (g_581 24).toInt := mp_has_ne h_690 (by decide)
            let w23_ : va_W := [(mp_arI E a6 0 90 g_100), (mp_arI E a7 0 300 g_101), (mp_arI E a8 0 300 f7), (mp_arI E a2 0 5 g_102), (mp_arI E a3 0 25 g_689), (mp_arI E a4 0 180 g_104), (mp_arI E a5 3 3000 g_105), (mp_ob10 a0 0 a9 a10 a11 a12 a1 y1 r_643 r_644 r_645 r_646 r_647 r_648 r_649 y9 y10 a2 a3 a4 a5 a6 a7 a8 a13 y11 a14 a15 a16 a17 y12 y13 y14 a18 a19 y15 y16 a20 a21 a22 y17 y18 y19 y20 a23 a24 a25 y21), (mp_arI E a1 1 1600 f0)]
            show mp_W E X 1 75 [(0, .ref a0)] [] w23_ 0 0
            refine mp_run mp_k_cX10_isles_ok hF mp_tabX10_ok [mp_h (.goto 7) [82], mp_i (.aload_n 0)] (by decide +kernel) ?_
            show mp_W E X 1 83 [(0, .ref a0)] [.ref a0] w23_ 0 0
            refine mp_callV hF (As := []) (rest := []) (wr := [(mp_arI E a6 0 90 g_100), (mp_arI E a7 0 300 g_101), (mp_arI E a8 0 300 f7), (mp_arI E a2 0 5 g_102), (mp_arI E a3 0 25 g_689), (mp_arI E a4 0 180 g_104), (mp_arI E a5 3 3000 g_105), (mp_arI E a1 1 1600 f0)]) (bX10_isGood_14 E a0 a9 a10 a11 a12 a1 a2 a3 a4 a5 a6 a7 a8 a13 a14 a15 a16 a17 a18 a19 a20 a21 a22 a23 a24 a25 0 y1 r_643 r_644 r_645 r_646 r_647 r_648 r_649 y9 y10 y11 y12 y13 y14 y15 y16 y17 y18 y19 y20 y21 l_y1 u_y1 l_651 u_652 l_653 u_654 l_655 u_656 l_y11 u_y11 l_y12 u_y12 l_y13 u_y13) mp_lkX10_189 7 rfl [7] [0, 1, 2, 3, 4, 5, 6, 8] rfl rfl rfl rfl rfl ⟨(Nat.le_of_ble_eq_true rfl), (Nat.le_of_ble_eq_true rfl), (Nat.le_of_ble_eq_true rfl), (Nat.le_of_ble_eq_true rfl)⟩ (Nat.le_of_ble_eq_true rfl) (by first | exact mp_fd_ok mp_k_cX10_isles_ok (by decide +kernel) | decide +kernel) (fun v_707 w_708 h_709 => ?_)
            rcases h_709 with ⟨rfl, c_710, x_711, rfl⟩ | ⟨rfl, c_712, x_713, rfl⟩
            · skip
              have c_710 : r_648.toInt ≠ 0 := c_710
              let w24_ : va_W := [(mp_arI E a6 0 90 g_100), (mp_arI E a7 0 300 g_101), (mp_arI E a8 0 300 f7), (mp_arI E a2 0 5 g_102), (mp_arI E a3 0 25 g_689), (mp_arI E a4 0 180 g_104), (mp_arI E a5 3 3000 g_105), (mp_arI E a1 1 1600 f0), (mp_ob10 a0 0 a9 a10 a11 a12 a1 y1 r_643 r_644 r_645 r_646 r_647 r_648 r_649 y9 y10 a2 a3 a4 a5 a6 a7 a8 a13 y11 a14 a15 a16 a17 y12 y13 y14 a18 a19 y15 y16 a20 a21 a22 y17 y18 y19 y20 a23 a24 a25 y21)]
              show mp_W E X 1 86 [(0, .ref a0)] [.int 0] w24_ 0 0
              refine mp_run mp_k_cX10_isles_ok hF mp_tabX10_ok [mp_h (.ifCond .eq 7) [93]] (by decide +kernel) ?_
              refine And.intro (fun _ => ?_) (fun c_714 => absurd c_714 (by decide))
              show mp_W E X 1 93 [(0, .ref a0)] [] w24_ 0 0
              refine mp_run mp_k_cX10_isles_ok hF mp_tabX10_ok [mp_i (.aload_n 0), mp_h (.getfield 31) [16, 8], mp_c (.iconst 4) 4, mp_i .dup2, mp_h .iaload [3], mp_c (.iconst 1) 1, mp_i .iadd, mp_h .iastore [3]] (by decide +kernel) ?_
              refine And.intro rfl (And.intro rfl ?_)
              refine And.intro rfl (And.intro rfl (And.intro (vp_in_iff.mpr (by decide)) ?_))
              intro z_715 h_716
              have k_717 : z_316 = z_715 := h_317.trans h_716.symm
              subst k_717
              intro z_718 h_719
              have e_720 : z_718.toInt = z_316.toInt + 1 := mp_add (a := z_316.toInt) (b := 1) h_719 rfl (by decide) (by (first | exact mp_o726 c_319 | omega)) (by (first | exact mp_o727 c_319 | omega))
              refine And.intro rfl (And.intro rfl (And.intro (vp_in_iff.mpr (by decide)) ?_))
              intro g_721 h_722
              have p_723 : mp_keep g_721 f1 4 := mp_keep_st h_722 p_121 (by decide)
              have e_724 : (g_721 0).toInt = (g_102 0).toInt := mp_has_ne h_722 (by decide)
              have e_725 : (g_721 4).toInt = z_718.toInt := mp_has_eq h_722 (by decide)
              let w25_ : va_W := [(mp_arI E a6 0 90 g_100), (mp_arI E a7 0 300 g_101), (mp_arI E a8 0 300 f7), (mp_arI E a2 0 5 g_721), (mp_arI E a3 0 25 g_689), (mp_arI E a4 0 180 g_104), (mp_arI E a5 3 3000 g_105), (mp_arI E a1 1 1600 f0), (mp_ob10 a0 0 a9 a10 a11 a12 a1 y1 r_643 r_644 r_645 r_646 r_647 r_648 r_649 y9 y10 a2 a3 a4 a5 a6 a7 a8 a13 y11 a14 a15 a16 a17 y12 y13 y14 a18 a19 y15 y16 a20 a21 a22 y17 y18 y19 y20 a23 a24 a25 y21)]
              show mp_W E X 1 103 [(0, .ref a0)] [] w25_ 0 0
              refine mp_run mp_k_cX10_isles_ok hF mp_tabX10_ok [mp_h (.goto (-90)) [13]] (by decide +kernel) ?_
              show mp_W E X 1 13 [(0, .ref a0)] [] w25_ 0 0
              exact mp_sub [0] rfl [0, 1, 2, 3, 4, 5, 6, 8, 7] rfl rfl (ih_146 (d_145 - 1) (by omega) g_100 g_101 g_721 g_689 g_104 g_105 r_643 r_644 r_645 r_646 r_647 r_648 r_649 p_113 p_114 p_115 p_116 p_117 p_118 p_119 p_120 p_723 p_691 p_692 p_693 p_694 p_695 p_696 p_128 p_129 p_130 p_131 l_651 u_652 l_653 u_654 l_655 u_656 (by first | (first | exact x_659 | omega) | decide) (by first | (first | exact mp_o969 x_139 e_598 e_706 | omega) | decide) (by first | assumption | exact Or.inl (by (first | exact c_710 | omega)) | exact Or.inr (mp_prmo_eq (by assumption) (by omega)) | exact Or.inr (mp_prmo_0 (by omega)) | exact Or.inr (mp_prmo_eq (mp_or_good (by assumption) (by omega)) (by omega))) (by (first | exact mp_o1385 c_710 c_319 e_720 e_725 | omega)) x_663 (mp_TX_s x_143 (by (first | exact c_154 | omega)) (by (first | exact mp_o213 k_148 c_237 | omega)) (by first | exact mp_go_any go_687 (by (first | exact c_710 | omega)) | exact mp_go_eq go_687 (Or.inr (mp_rs4 rfl (mp_sc5 (by first | fail | (dsimp only <;> omega)) (by first | fail | (dsimp only <;> omega)) (by first | fail | (dsimp only <;> omega)) (by first | fail | (dsimp only <;> omega)) (by first | fail | (dsimp only <;> omega))) rfl)))) (by omega))
            · skip
              have c_712 : r_648.toInt = 0 := c_712
              let w26_ : va_W := [(mp_arI E a6 0 90 g_100), (mp_arI E a7 0 300 g_101), (mp_arI E a8 0 300 f7), (mp_arI E a2 0 5 g_102), (mp_arI E a3 0 25 g_689), (mp_arI E a4 0 180 g_104), (mp_arI E a5 3 3000 g_105), (mp_arI E a1 1 1600 f0), (mp_ob10 a0 0 a9 a10 a11 a12 a1 y1 r_643 r_644 r_645 r_646 r_647 r_648 r_649 y9 y10 a2 a3 a4 a5 a6 a7 a8 a13 y11 a14 a15 a16 a17 y12 y13 y14 a18 a19 y15 y16 a20 a21 a22 y17 y18 y19 y20 a23 a24 a25 y21)]
              show mp_W E X 1 86 [(0, .ref a0)] [.int 1] w26_ 0 0
              refine mp_run mp_k_cX10_isles_ok hF mp_tabX10_ok [mp_h (.ifCond .eq 7) [93]] (by decide +kernel) ?_
              refine And.intro (fun c_726 => absurd c_726 (by decide)) (fun _ => ?_)
              show mp_W E X 1 89 [(0, .ref a0)] [] w26_ 0 0
              refine mp_run mp_k_cX10_isles_ok hF mp_tabX10_ok [mp_i (.aload_n 0)] (by decide +kernel) ?_
              show mp_W E X 1 90 [(0, .ref a0)] [.ref a0] w26_ 0 0
              refine mp_callV hF (As := []) (rest := []) (wr := [(mp_arI E a6 0 90 g_100), (mp_arI E a7 0 300 g_101), (mp_arI E a8 0 300 f7), (mp_arI E a2 0 5 g_102), (mp_arI E a3 0 25 g_689), (mp_arI E a4 0 180 g_104), (mp_arI E a5 3 3000 g_105)]) (bX10_ends_42 E a0 a1 a9 a10 a11 a12 a2 a3 a4 a5 a6 a7 a8 a13 a14 a15 a16 a17 a18 a19 a20 a21 a22 a23 a24 a25 f0 0 y1 r_643 r_644 r_645 r_646 r_647 r_648 r_649 y9 y10 y11 y12 y13 y14 y15 y16 y17 y18 y19 y20 y21 l_y1 u_y1 l_651 u_652 l_653 u_654 l_655 u_656 l_y11 u_y11 l_y12 u_y12 l_y13 u_y13 (by (first | exact x_659 | omega)) (by assumption)) mp_lkX10_241 8 rfl [8, 7] [0, 1, 2, 3, 4, 5, 6] rfl rfl rfl rfl rfl ⟨(Nat.le_of_ble_eq_true rfl), (Nat.le_of_ble_eq_true rfl), (Nat.le_of_ble_eq_true rfl), (Nat.le_of_ble_eq_true rfl)⟩ (Nat.le_of_ble_eq_true rfl) (by first | exact mp_fd_ok mp_k_cX10_isles_ok (by decide +kernel) | decide +kernel) (fun v_727 w_728 h_729 => ?_)
              refine h_729.elim fun r_730 q_748 => q_748.elim fun r_731 q_749 => q_749.elim fun r_732 q_750 => q_750.elim fun r_733 q_751 => q_751.elim fun r_734 q_752 => q_752.elim fun r_735 q_753 => q_753.elim fun r_736 q_754 => q_754.elim fun e_755 q_756 => q_756.elim fun l_737 q_757 => q_757.elim fun u_738 q_758 => q_758.elim fun l_739 q_759 => q_759.elim fun u_740 q_760 => q_760.elim fun l_741 q_761 => q_761.elim fun u_742 q_762 => q_762.elim fun x_743 q_763 => q_763.elim fun x_744 q_764 => q_764.elim fun x_745 q_765 => q_765.elim fun x_746 q_766 => q_766.elim fun x_747 e_767 => ?_
              clear h_729 q_748 q_749 q_750 q_751 q_752 q_753 q_754 q_756 q_757 q_758 q_759 q_760 q_761 q_762 q_763 q_764 q_765 q_766
              subst e_755
              subst e_767
              have go_768 := mp_go_ends x_746 (by first | (first | exact l_655 | omega) | (dsimp only <;> omega) | decide) go_687
              have k_769 := x_747.2.1
              let w27_ : va_W := [(mp_arI E a6 0 90 g_100), (mp_arI E a7 0 300 g_101), (mp_arI E a8 0 300 f7), (mp_arI E a2 0 5 g_102), (mp_arI E a3 0 25 g_689), (mp_arI E a4 0 180 g_104), (mp_arI E a5 3 3000 g_105), (mp_ob10 a0 0 a9 a10 a11 a12 a1 y1 r_730 r_731 r_732 r_733 r_734 r_735 r_736 y9 y10 a2 a3 a4 a5 a6 a7 a8 a13 y11 a14 a15 a16 a17 y12 y13 y14 a18 a19 y15 y16 a20 a21 a22 y17 y18 y19 y20 a23 a24 a25 y21), (mp_arI E a1 1 1600 f0)]
              show mp_W E X 1 93 [(0, .ref a0)] [] w27_ 0 0
              refine mp_run mp_k_cX10_isles_ok hF mp_tabX10_ok [mp_i (.aload_n 0), mp_h (.getfield 31) [16, 7], mp_c (.iconst 4) 4, mp_i .dup2, mp_h .iaload [3], mp_c (.iconst 1) 1, mp_i .iadd, mp_h .iastore [3]] (by decide +kernel) ?_
              refine And.intro rfl (And.intro rfl ?_)
              refine And.intro rfl (And.intro rfl (And.intro (vp_in_iff.mpr (by decide)) ?_))
              intro z_770 h_771
              have k_772 : z_316 = z_770 := h_317.trans h_771.symm
              subst k_772
              intro z_773 h_774
              have e_775 : z_773.toInt = z_316.toInt + 1 := mp_add (a := z_316.toInt) (b := 1) h_774 rfl (by decide) (by (first | exact mp_o726 c_319 | omega)) (by (first | exact mp_o727 c_319 | omega))
              refine And.intro rfl (And.intro rfl (And.intro (vp_in_iff.mpr (by decide)) ?_))
              intro g_776 h_777
              have p_778 : mp_keep g_776 f1 4 := mp_keep_st h_777 p_121 (by decide)
              have e_779 : (g_776 0).toInt = (g_102 0).toInt := mp_has_ne h_777 (by decide)
              have e_780 : (g_776 4).toInt = z_773.toInt := mp_has_eq h_777 (by decide)
              let w28_ : va_W := [(mp_arI E a6 0 90 g_100), (mp_arI E a7 0 300 g_101), (mp_arI E a8 0 300 f7), (mp_arI E a2 0 5 g_776), (mp_arI E a3 0 25 g_689), (mp_arI E a4 0 180 g_104), (mp_arI E a5 3 3000 g_105), (mp_ob10 a0 0 a9 a10 a11 a12 a1 y1 r_730 r_731 r_732 r_733 r_734 r_735 r_736 y9 y10 a2 a3 a4 a5 a6 a7 a8 a13 y11 a14 a15 a16 a17 y12 y13 y14 a18 a19 y15 y16 a20 a21 a22 y17 y18 y19 y20 a23 a24 a25 y21), (mp_arI E a1 1 1600 f0)]
              show mp_W E X 1 103 [(0, .ref a0)] [] w28_ 0 0
              refine mp_run mp_k_cX10_isles_ok hF mp_tabX10_ok [mp_h (.goto (-90)) [13]] (by decide +kernel) ?_
              show mp_W E X 1 13 [(0, .ref a0)] [] w28_ 0 0
              exact mp_sub [0] rfl [0, 1, 2, 3, 4, 5, 6, 7, 8] rfl rfl (ih_146 (d_145 - 1) (by omega) g_100 g_101 g_776 g_689 g_104 g_105 r_730 r_731 r_732 r_733 r_734 r_735 r_736 p_113 p_114 p_115 p_116 p_117 p_118 p_119 p_120 p_778 p_691 p_692 p_693 p_694 p_695 p_696 p_128 p_129 p_130 p_131 l_737 u_738 l_739 u_740 l_741 u_742 (by first | (first | exact x_743 | omega) | decide) (by first | (first | exact mp_o969 x_139 e_598 e_706 | omega) | decide) (by first | assumption | exact Or.inl (by omega) | exact Or.inr (mp_prmo_eq (by assumption) (by omega)) | exact Or.inr (mp_prmo_0 (by omega)) | exact Or.inr (mp_prmo_eq (mp_or_good (by assumption) (by (first | exact c_154 | omega))) (by (first | exact mp_o777 e_597 e_705 | omega)))) (by (first | exact mp_o1386 u_y1 l_132 c_319 e_775 e_780 u_135 x_507 x_552 x_616 x_660 x_745 | omega)) x_747 (mp_TX_s x_143 (by (first | exact c_154 | omega)) (by (first | exact mp_o213 k_148 c_237 | omega)) (by first | exact mp_go_any go_768 (by omega) | exact mp_go_eq go_768 (Or.inr (mp_rs4 rfl (mp_sc5 (by first | omega | (dsimp only <;> omega)) (by first | fail | (dsimp only <;> (first | exact mp_o275 e_703 | omega))) (by first | fail | (dsimp only <;> (first | exact mp_o1387 e_596 e_704 | omega))) (by first | fail | (dsimp only <;> (first | exact mp_o1387 e_597 e_705 | omega))) (by first | fail | (dsimp only <;> (first | exact mp_o1124 e_318 e_775 e_780 | omega)))) rfl)))) (by omega))
  exact mp_sub [0] rfl [0, 1, 2, 3, 4, 5, 6, 7, 8] rfl rfl (lp_144 _ f5 f6 g_4 g_5 g_6 g_7 r_59 r_60 r_61 r_62 r_63 0 (-1) p7 p8 mp_keep_rfl p9 p10 p11 p12 mp_keep_rfl k_52 p_9 p_10 p_11 p_12 p_13 k_53 p_15 k_54 p_17 k_55 l_64 u_65 l_66 u_67 l_68 u_69 (by first | (first | exact x_74 | omega) | decide) (by first | (first | exact x_23 | omega) | decide) (by first | assumption | exact Or.inl (by omega) | exact Or.inr (mp_prmo_eq (by assumption) (by omega)) | exact Or.inr (mp_prmo_0 (by (first | exact mp_o515 x_22 | omega))) | exact Or.inr (mp_prmo_eq (mp_or_good (by assumption) (by omega)) (by omega))) (by (first | exact mp_o1388 l_64 x_24 u_y1 u_67 | omega)) x_77 (by rw [show ((0, 0, 0, 0, 0) : mp_Sc) = ((g_5 20).toInt, (g_5 21).toInt, (g_5 22).toInt, (g_5 23).toInt, (g_4 4).toInt) from mp_sc5 (by (first | exact mp_o1389 x_19 | omega)) (by (first | exact mp_o1389 x_20 | omega)) (by (first | exact mp_o1389 x_21 | omega)) (by (first | exact mp_o1389 x_22 | omega)) (by (first | exact mp_o1389 x_24 | omega)), show mp_TS f0 (y1.toInt).toNat 0 = (r_61.toInt).toNat from by (first | exact mp_o1390 x_76 | omega)]; exact mp_TX_0 (by first | fail | decide)) (Int.self_le_toNat _))
set_option maxHeartbeats 4000000 in
set_option maxRecDepth 100000 in
theorem bX10_isPerson_53 (E : mp_E) (a0 a1 a2 a3 a4 a5 a6 a7 a8 a9 a10 a11 a12 a13 a14 a15 a16 a17 a18 a19 a20 a21 a22 a23 a24 a25 : Nat) (f0 : Nat → Int32) (y0 : Int32) (y1 : Int32) (y2 : Int32) (y3 : Int32) (y4 : Int32) (y5 : Int32) (y6 : Int64) (y7 : Int32) (y8 : Int32) (y9 : Int32) (y10 : Int32) (y11 : Int32) (y12 : Int32) (y13 : Int32) (y14 : Int32) (y15 : Int32) (y16 : Int32) (y17 : Int32) (y18 : Int32) (y19 : Int32) (y20 : Int32) (y21 : Int32) (x0 : Int32) (p0 : mp_res f0 25 5 0 0 6) (p1 : mp_res f0 25 5 1 0 99) (p2 : mp_res f0 25 5 2 0 6) (p3 : mp_res f0 25 5 3 0 10) (p4 : mp_res f0 25 5 4 0 60) (l_y1 : 0 ≤ y1.toInt) (u_y1 : y1.toInt ≤ 1600) (l_y2 : 0 ≤ y2.toInt) (u_y2 : y2.toInt ≤ 1600) (l_y3 : 0 ≤ y3.toInt) (u_y3 : y3.toInt ≤ 4) (l_y4 : 0 ≤ y4.toInt) (u_y4 : y4.toInt ≤ 1600) (l_y11 : 0 ≤ y11.toInt) (u_y11 : y11.toInt ≤ 99) (l_y12 : 0 ≤ y12.toInt) (u_y12 : y12.toInt ≤ 5) (l_y13 : 0 ≤ y13.toInt) (u_y13 : y13.toInt ≤ 12) : mp_Ct E yX10_isPerson cX10_isPerson 2 (some FieldType.boolean) 1 0 0 25 [.ref a0, .int x0] [(mp_ob10 a0 y0 a2 a3 a4 a5 a6 y1 y2 y3 y4 y5 y6 y7 y8 y9 y10 a7 a1 a8 a9 a10 a11 a12 a13 y11 a14 a15 a16 a17 y12 y13 y14 a18 a19 y15 y16 a20 a21 a22 y17 y18 y19 y20 a23 a24 a25 y21), (mp_arI E a1 0 25 f0)] (fun v w' => (v = some (.int 0) ∧ (x0.toInt < 0 ∨ (f0 2).toInt ≤ x0.toInt) ∧ w' = [(mp_ob10 a0 y0 a2 a3 a4 a5 a6 y1 y2 y3 y4 y5 y6 y7 y8 y9 y10 a7 a1 a8 a9 a10 a11 a12 a13 y11 a14 a15 a16 a17 y12 y13 y14 a18 a19 y15 y16 a20 a21 a22 y17 y18 y19 y20 a23 a24 a25 y21), (mp_arI E a1 0 25 f0)]) ∨ (v = some (.int 1) ∧ 0 ≤ x0.toInt ∧ (x0.toInt < (f0 2).toInt) ∧ (x0.toInt ≤ 5) ∧ (0 ≤ x0.toInt ∧ x0.toInt < (f0 2).toInt) ∧ w' = [(mp_ob10 a0 y0 a2 a3 a4 a5 a6 y1 y2 y3 y4 y5 y6 y7 y8 y9 y10 a7 a1 a8 a9 a10 a11 a12 a13 y11 a14 a15 a16 a17 y12 y13 y14 a18 a19 y15 y16 a20 a21 a22 y17 y18 y19 y20 a23 a24 a25 y21), (mp_arI E a1 0 25 f0)])) := by
  refine mp_met false (by decide) (by decide) (Nat.le_of_ble_eq_true rfl) (fun X hF hQ => ?_)
  have hF : mp_F E X (RX10, cX10_isPerson, 2, (1, 0, 0, 25), (some FieldType.boolean), false) := hF
  let w1_ : va_W := [(mp_ob10 a0 y0 a2 a3 a4 a5 a6 y1 y2 y3 y4 y5 y6 y7 y8 y9 y10 a7 a1 a8 a9 a10 a11 a12 a13 y11 a14 a15 a16 a17 y12 y13 y14 a18 a19 y15 y16 a20 a21 a22 y17 y18 y19 y20 a23 a24 a25 y21), (mp_arI E a1 0 25 f0)]
  show mp_W E X 2 0 [(0, .ref a0), (1, .int x0)] [] w1_ 0 0
  refine mp_run mp_k_cX10_isPerson_ok hF mp_tabX10_ok [mp_i (.iload_n 1), mp_i .i2l, mp_cl (.lconst 0) 0, mp_i (.aload_n 0), mp_h (.getfield 34) [17, 0], mp_c (.iconst 2) 2, mp_h .iaload [1], mp_c (.iconst 1) 1, mp_i .isub, mp_i .i2l] (by decide +kernel) ?_
  intro z_1 h_2
  have e_3 : z_1.toInt = x0.toInt := mp_i2l h_2
  refine And.intro rfl (And.intro rfl ?_)
  refine And.intro rfl (And.intro rfl (And.intro (vp_in_iff.mpr (by decide)) ?_))
  intro z_4 h_5
  have e_6 : 0 ≤ z_4.toInt ∧ z_4.toInt ≤ 6 := mp_res_ld h_5 p2 (by decide) (by decide) (by decide)
  have e_7 : z_4.toInt = (f0 2).toInt := congrArg Int32.toInt (mp_at h_5 (by decide) rfl)
  intro z_8 h_9
  have e_10 : z_8.toInt = z_4.toInt - 1 := mp_subi (a := z_4.toInt) (b := 1) h_9 rfl (by decide) (by (first | exact mp_o1391 e_6 | omega)) (by (first | exact mp_o1392 e_6 | omega))
  intro z_11 h_12
  have e_13 : z_11.toInt = z_8.toInt := mp_i2l h_12
  show mp_W E X 2 12 [(0, .ref a0), (1, .int x0)] [.long z_11, .long 0, .long z_1] w1_ 0 0
  refine mp_callS hF (As := [.long z_1, .long 0, .long z_11]) (rest := []) (wr := w1_) (bX10_in_0 E z_1 0 z_11) mp_lkX10_97 [] [0, 1] rfl rfl rfl rfl rfl ⟨(Nat.le_of_ble_eq_true rfl), (Nat.le_of_ble_eq_true rfl), (Nat.le_of_ble_eq_true rfl), (Nat.le_of_ble_eq_true rfl)⟩ (Nat.le_of_ble_eq_true rfl) (by first | exact mp_fd_ok mp_k_cX10_isPerson_ok (by decide +kernel) | decide +kernel) (fun v_14 w_15 h_16 => ?_)
  rcases h_16 with ⟨rfl, x_17, rfl⟩ | ⟨rfl, c_18, c_19, rfl⟩
  · skip
    have i_20 : (0 : Int64).toInt = 0 := by decide
    show mp_W E X 2 15 [(0, .ref a0), (1, .int x0)] [.int 0] w1_ 0 0
    exact mp_iret hF hQ rfl (by decide) (Nat.le_of_ble_eq_true rfl) (Nat.le_of_ble_eq_true rfl) [0, 1] (w' := w1_) rfl rfl (Or.inl ⟨rfl, (by first | (first | exact mp_o1393 i_20 e_3 x_17 e_7 e_10 e_13 | omega) | decide | (have h8 : (0 : Int64).toInt = 0 := rfl; have h9 : (-1 : Int32).toInt = -1 := rfl; have h10 : (-2 : Int32).toInt = -2 := rfl; have h11 : (0 : Int32).toInt = 0 := rfl; have h12 : (1 : Int32).toInt = 1 := rfl; have h13 : (-5 : Int32).toInt = -5 := rfl; have h14 : (-3 : Int32).toInt = -3 := rfl; omega)), rfl⟩) (by first | exact mp_fd_ok mp_k_cX10_isPerson_ok (by decide +kernel) | decide +kernel)
  · skip
    have c_18 : 0 ≤ z_1.toInt := c_18
    have c_19 : z_1.toInt ≤ z_11.toInt := c_19
    have i_21 : (0 : Int64).toInt = 0 := by decide
    show mp_W E X 2 15 [(0, .ref a0), (1, .int x0)] [.int 1] w1_ 0 0
    exact mp_iret hF hQ rfl (by decide) (Nat.le_of_ble_eq_true rfl) (Nat.le_of_ble_eq_true rfl) [0, 1] (w' := w1_) rfl rfl (Or.inr ⟨rfl, (by first | (first | exact mp_o921 c_18 e_3 | omega) | decide), (by first | (first | exact mp_o1394 e_3 e_7 e_10 e_13 c_19 | omega) | decide | (have h8 : (0 : Int64).toInt = 0 := rfl; have h9 : (-1 : Int32).toInt = -1 := rfl; have h10 : (-2 : Int32).toInt = -2 := rfl; have h11 : (0 : Int32).toInt = 0 := rfl; have h12 : (1 : Int32).toInt = 1 := rfl; have h13 : (-5 : Int32).toInt = -5 := rfl; have h14 : (-3 : Int32).toInt = -3 := rfl; omega)), (by first | (first | exact mp_o1395 e_3 c_19 e_13 e_10 e_6 | omega) | decide | (have h8 : (0 : Int64).toInt = 0 := rfl; have h9 : (-1 : Int32).toInt = -1 := rfl; have h10 : (-2 : Int32).toInt = -2 := rfl; have h11 : (0 : Int32).toInt = 0 := rfl; have h12 : (1 : Int32).toInt = 1 := rfl; have h13 : (-5 : Int32).toInt = -5 := rfl; have h14 : (-3 : Int32).toInt = -3 := rfl; omega)), (by first | (first | exact mp_o1396 c_18 e_3 e_7 e_10 e_13 c_19 | omega) | decide | (have h8 : (0 : Int64).toInt = 0 := rfl; have h9 : (-1 : Int32).toInt = -1 := rfl; have h10 : (-2 : Int32).toInt = -2 := rfl; have h11 : (0 : Int32).toInt = 0 := rfl; have h12 : (1 : Int32).toInt = 1 := rfl; have h13 : (-5 : Int32).toInt = -5 := rfl; have h14 : (-3 : Int32).toInt = -3 := rfl; omega)), rfl⟩) (by first | exact mp_fd_ok mp_k_cX10_isPerson_ok (by decide +kernel) | decide +kernel)
set_option maxHeartbeats 4000000 in
set_option maxRecDepth 100000 in
theorem bX10_person_54 (E : mp_E) (a0 a1 a2 a3 a4 a5 a6 a7 a8 a9 a10 a11 a12 a13 a14 a15 a16 a17 a18 a19 a20 a21 a22 a23 a24 a25 : Nat) (f0 : Nat → Int32) (f1 : Nat → Int32) (y0 : Int32) (y1 : Int32) (y2 : Int32) (y3 : Int32) (y4 : Int32) (y5 : Int32) (y6 : Int64) (y7 : Int32) (y8 : Int32) (y9 : Int32) (y10 : Int32) (y11 : Int32) (y12 : Int32) (y13 : Int32) (y14 : Int32) (y15 : Int32) (y16 : Int32) (y17 : Int32) (y18 : Int32) (y19 : Int32) (y20 : Int32) (y21 : Int32) (x0 : Int32) (x1 : Int32) (p0 : mp_res f0 25 5 0 0 6) (p1 : mp_res f0 25 5 1 0 99) (p2 : mp_res f0 25 5 2 0 6) (p3 : mp_res f0 25 5 3 0 10) (p4 : mp_res f0 25 5 4 0 60) (p5 : mp_res f1 90 3 0 0 5) (p6 : mp_res f1 90 3 1 (-1) 99) (l_y1 : 0 ≤ y1.toInt) (u_y1 : y1.toInt ≤ 1600) (l_y2 : 0 ≤ y2.toInt) (u_y2 : y2.toInt ≤ 1600) (l_y3 : 0 ≤ y3.toInt) (u_y3 : y3.toInt ≤ 4) (l_y4 : 0 ≤ y4.toInt) (u_y4 : y4.toInt ≤ 1600) (l_y11 : 0 ≤ y11.toInt) (u_y11 : y11.toInt ≤ 99) (l_y12 : 0 ≤ y12.toInt) (u_y12 : y12.toInt ≤ 5) (l_y13 : 0 ≤ y13.toInt) (u_y13 : y13.toInt ≤ 12) : mp_Ct E yX10_person cX10_person 3 (some FieldType.int) 2 0 0 46 [.ref a0, .int x0, .int x1] [(mp_ob10 a0 y0 a3 a4 a5 a6 a7 y1 y2 y3 y4 y5 y6 y7 y8 y9 y10 a8 a1 a9 a10 a2 a11 a12 a13 y11 a14 a15 a16 a17 y12 y13 y14 a18 a19 y15 y16 a20 a21 a22 y17 y18 y19 y20 a23 a24 a25 y21), (mp_arI E a1 0 25 f0), (mp_arI E a2 0 90 f1)] (fun v w' => ∃ r1 : Int32, v = some (.int r1) ∧ (((x0.toInt < 0 ∨ (f0 2).toInt ≤ x0.toInt ∨ x1.toInt < 0 ∨ 2 < x1.toInt) ∧ r1.toInt = -2) ∨ ((0 ≤ x0.toInt ∧ x0.toInt < (f0 2).toInt ∧ 0 ≤ x1.toInt ∧ x1.toInt ≤ 2) ∧ r1.toInt = (f1 (3 * x0.toInt + x1.toInt).toNat).toInt)) ∧ w' = [(mp_ob10 a0 0 a3 a4 a5 a6 a7 y1 y2 y3 y4 y5 y6 y7 y8 y9 y10 a8 a1 a9 a10 a2 a11 a12 a13 y11 a14 a15 a16 a17 y12 y13 y14 a18 a19 y15 y16 a20 a21 a22 y17 y18 y19 y20 a23 a24 a25 y21), (mp_arI E a1 0 25 f0), (mp_arI E a2 0 90 f1)]) := by
  refine mp_met false (by decide) (by decide) (Nat.le_of_ble_eq_true rfl) (fun X hF hQ => ?_)
  have hF : mp_F E X (RX10, cX10_person, 3, (2, 0, 0, 46), (some FieldType.int), false) := hF
  let w1_ : va_W := [(mp_ob10 a0 y0 a3 a4 a5 a6 a7 y1 y2 y3 y4 y5 y6 y7 y8 y9 y10 a8 a1 a9 a10 a2 a11 a12 a13 y11 a14 a15 a16 a17 y12 y13 y14 a18 a19 y15 y16 a20 a21 a22 y17 y18 y19 y20 a23 a24 a25 y21), (mp_arI E a1 0 25 f0), (mp_arI E a2 0 90 f1)]
  show mp_W E X 3 0 [(0, .ref a0), (1, .int x0), (2, .int x1)] [] w1_ 0 0
  refine mp_run mp_k_cX10_person_ok hF mp_tabX10_ok [mp_i (.aload_n 0), mp_c (.iconst 0) 0, mp_h (.putfield 92) [0, 0]] (by decide +kernel) ?_
  refine And.intro rfl (And.intro rfl (And.intro rfl (And.intro rfl (And.intro (Nat.le_of_ble_eq_true rfl) ?_))))
  let w2_ : va_W := [(mp_ob10 a0 0 a3 a4 a5 a6 a7 y1 y2 y3 y4 y5 y6 y7 y8 y9 y10 a8 a1 a9 a10 a2 a11 a12 a13 y11 a14 a15 a16 a17 y12 y13 y14 a18 a19 y15 y16 a20 a21 a22 y17 y18 y19 y20 a23 a24 a25 y21), (mp_arI E a1 0 25 f0), (mp_arI E a2 0 90 f1)]
  show mp_W E X 3 5 [(0, .ref a0), (1, .int x0), (2, .int x1)] [] w2_ 0 0
  refine mp_run mp_k_cX10_person_ok hF mp_tabX10_ok [mp_i (.aload_n 0), mp_i (.iload_n 1)] (by decide +kernel) ?_
  show mp_W E X 3 7 [(0, .ref a0), (1, .int x0), (2, .int x1)] [.int x0, .ref a0] w2_ 0 0
  refine mp_callV hF (As := [.int x0]) (rest := []) (wr := [(mp_arI E a2 0 90 f1)]) (bX10_isPerson_53 E a0 a1 a3 a4 a5 a6 a7 a8 a9 a10 a2 a11 a12 a13 a14 a15 a16 a17 a18 a19 a20 a21 a22 a23 a24 a25 f0 0 y1 y2 y3 y4 y5 y6 y7 y8 y9 y10 y11 y12 y13 y14 y15 y16 y17 y18 y19 y20 y21 x0 p0 p1 p2 p3 p4 l_y1 u_y1 l_y2 u_y2 l_y3 u_y3 l_y4 u_y4 l_y11 u_y11 l_y12 u_y12 l_y13 u_y13) mp_lkX10_255 0 rfl [0, 1] [2] rfl rfl rfl rfl rfl ⟨(Nat.le_of_ble_eq_true rfl), (Nat.le_of_ble_eq_true rfl), (Nat.le_of_ble_eq_true rfl), (Nat.le_of_ble_eq_true rfl)⟩ (Nat.le_of_ble_eq_true rfl) (by first | exact mp_fd_ok mp_k_cX10_person_ok (by decide +kernel) | decide +kernel) (fun v_1 w_2 h_3 => ?_)
  refine h_3.elim (fun q_9 => ?_) (fun q_10 => ?_)
  · skip
    refine q_9.elim fun e_11 q_12 => q_12.elim fun x_4 e_13 => ?_
    clear h_3 q_9 q_12
    subst e_11
    subst e_13
    let w3_ : va_W := [(mp_arI E a2 0 90 f1), (mp_ob10 a0 0 a3 a4 a5 a6 a7 y1 y2 y3 y4 y5 y6 y7 y8 y9 y10 a8 a1 a9 a10 a2 a11 a12 a13 y11 a14 a15 a16 a17 y12 y13 y14 a18 a19 y15 y16 a20 a21 a22 y17 y18 y19 y20 a23 a24 a25 y21), (mp_arI E a1 0 25 f0)]
    show mp_W E X 3 10 [(0, .ref a0), (1, .int x0), (2, .int x1)] [.int 0] w3_ 0 0
    refine mp_run mp_k_cX10_person_ok hF mp_tabX10_ok [mp_h (.ifCond .eq 28) [38]] (by decide +kernel) ?_
    refine And.intro (fun _ => ?_) (fun c_14 => absurd c_14 (by decide))
    show mp_W E X 3 38 [(0, .ref a0), (1, .int x0), (2, .int x1)] [] w3_ 0 0
    refine mp_run mp_k_cX10_person_ok hF mp_tabX10_ok [mp_c (.bipush (-2)) (-2)] (by decide +kernel) ?_
    show mp_W E X 3 40 [(0, .ref a0), (1, .int x0), (2, .int x1)] [.int (-2)] w3_ 0 0
    exact mp_iret hF hQ rfl rfl (Nat.le_of_ble_eq_true rfl) (Nat.le_of_ble_eq_true rfl) [1, 2, 0] (w' := w2_) rfl rfl ⟨(-2), rfl, (by first | omega | decide | (have h8 : (0 : Int64).toInt = 0 := rfl; have h9 : (-1 : Int32).toInt = -1 := rfl; have h10 : (-2 : Int32).toInt = -2 := rfl; have h11 : (0 : Int32).toInt = 0 := rfl; have h12 : (1 : Int32).toInt = 1 := rfl; have h13 : (-5 : Int32).toInt = -5 := rfl; have h14 : (-3 : Int32).toInt = -3 := rfl; omega)), rfl⟩ (by first | exact mp_fd_ok mp_k_cX10_person_ok (by decide +kernel) | decide +kernel)
  · skip
    refine q_10.elim fun e_15 q_16 => q_16.elim fun c_5 q_17 => q_17.elim fun x_6 q_18 => q_18.elim fun x_7 q_19 => q_19.elim fun x_8 e_20 => ?_
    clear h_3 q_10 q_16 q_17 q_18 q_19
    subst e_15
    subst e_20
    have c_5 : 0 ≤ x0.toInt := c_5
    let w4_ : va_W := [(mp_arI E a2 0 90 f1), (mp_ob10 a0 0 a3 a4 a5 a6 a7 y1 y2 y3 y4 y5 y6 y7 y8 y9 y10 a8 a1 a9 a10 a2 a11 a12 a13 y11 a14 a15 a16 a17 y12 y13 y14 a18 a19 y15 y16 a20 a21 a22 y17 y18 y19 y20 a23 a24 a25 y21), (mp_arI E a1 0 25 f0)]
    show mp_W E X 3 10 [(0, .ref a0), (1, .int x0), (2, .int x1)] [.int 1] w4_ 0 0
    refine mp_run mp_k_cX10_person_ok hF mp_tabX10_ok [mp_h (.ifCond .eq 28) [38]] (by decide +kernel) ?_
    refine And.intro (fun c_21 => absurd c_21 (by decide)) (fun _ => ?_)
    show mp_W E X 3 13 [(0, .ref a0), (1, .int x0), (2, .int x1)] [] w4_ 0 0
    refine mp_run mp_k_cX10_person_ok hF mp_tabX10_ok [mp_i (.iload_n 2), mp_i .i2l, mp_cl (.lconst 0) 0, mp_cl (.ldc2_w 260) 2] (by decide +kernel) ?_
    intro z_22 h_23
    have e_24 : z_22.toInt = x1.toInt := mp_i2l h_23
    show mp_W E X 3 19 [(0, .ref a0), (1, .int x0), (2, .int x1)] [.long 2, .long 0, .long z_22] w4_ 0 0
    refine mp_callS hF (As := [.long z_22, .long 0, .long 2]) (rest := []) (wr := w4_) (bX10_in_0 E z_22 0 2) mp_lkX10_97 [] [0, 1, 2] rfl rfl rfl rfl rfl ⟨(Nat.le_of_ble_eq_true rfl), (Nat.le_of_ble_eq_true rfl), (Nat.le_of_ble_eq_true rfl), (Nat.le_of_ble_eq_true rfl)⟩ (Nat.le_of_ble_eq_true rfl) (by first | exact mp_fd_ok mp_k_cX10_person_ok (by decide +kernel) | decide +kernel) (fun v_25 w_26 h_27 => ?_)
    rcases h_27 with ⟨rfl, x_28, rfl⟩ | ⟨rfl, c_29, c_30, rfl⟩
    · skip
      have i_31 : (0 : Int64).toInt = 0 := by decide
      have i_32 : (2 : Int64).toInt = 2 := by decide
      show mp_W E X 3 22 [(0, .ref a0), (1, .int x0), (2, .int x1)] [.int 0] w4_ 0 0
      refine mp_run mp_k_cX10_person_ok hF mp_tabX10_ok [mp_h (.ifCond .eq 16) [38]] (by decide +kernel) ?_
      refine And.intro (fun _ => ?_) (fun c_33 => absurd c_33 (by decide))
      show mp_W E X 3 38 [(0, .ref a0), (1, .int x0), (2, .int x1)] [] w4_ 0 0
      refine mp_run mp_k_cX10_person_ok hF mp_tabX10_ok [mp_c (.bipush (-2)) (-2)] (by decide +kernel) ?_
      show mp_W E X 3 40 [(0, .ref a0), (1, .int x0), (2, .int x1)] [.int (-2)] w4_ 0 0
      exact mp_iret hF hQ rfl rfl (Nat.le_of_ble_eq_true rfl) (Nat.le_of_ble_eq_true rfl) [1, 2, 0] (w' := w2_) rfl rfl ⟨(-2), rfl, (by first | omega | decide | (have h8 : (0 : Int64).toInt = 0 := rfl; have h9 : (-1 : Int32).toInt = -1 := rfl; have h10 : (-2 : Int32).toInt = -2 := rfl; have h11 : (0 : Int32).toInt = 0 := rfl; have h12 : (1 : Int32).toInt = 1 := rfl; have h13 : (-5 : Int32).toInt = -5 := rfl; have h14 : (-3 : Int32).toInt = -3 := rfl; omega)), rfl⟩ (by first | exact mp_fd_ok mp_k_cX10_person_ok (by decide +kernel) | decide +kernel)
    · skip
      have c_29 : 0 ≤ z_22.toInt := c_29
      have c_30 : z_22.toInt ≤ 2 := c_30
      have i_34 : (0 : Int64).toInt = 0 := by decide
      have i_35 : (2 : Int64).toInt = 2 := by decide
      show mp_W E X 3 22 [(0, .ref a0), (1, .int x0), (2, .int x1)] [.int 1] w4_ 0 0
      refine mp_run mp_k_cX10_person_ok hF mp_tabX10_ok [mp_h (.ifCond .eq 16) [38]] (by decide +kernel) ?_
      refine And.intro (fun c_36 => absurd c_36 (by decide)) (fun _ => ?_)
      show mp_W E X 3 25 [(0, .ref a0), (1, .int x0), (2, .int x1)] [] w4_ 0 0
      refine mp_run mp_k_cX10_person_ok hF mp_tabX10_ok [mp_i (.aload_n 0), mp_h (.getfield 44) [20, 1], mp_c (.iconst 3) 3, mp_i (.iload_n 1), mp_i .imul, mp_i (.iload_n 2), mp_i .iadd, mp_h .iaload [0], mp_h (.goto 5) [40]] (by decide +kernel) ?_
      refine And.intro rfl (And.intro rfl ?_)
      intro z_37 h_38
      have e_39 : z_37.toInt = 3 * x0.toInt := mp_mul (a := 3) (b := x0.toInt) h_38 (by decide) rfl (by omega) (by omega)
      intro z_40 h_41
      have e_42 : z_40.toInt = z_37.toInt + x1.toInt := mp_add (a := z_37.toInt) (b := x1.toInt) h_41 rfl rfl (by omega) (by omega)
      refine And.intro rfl (And.intro rfl (And.intro (vp_in_iff.mpr (by omega)) ?_))
      intro z_43 h_44
      have e_45 : z_40.toInt % 3 = 0 → 0 ≤ z_43.toInt ∧ z_43.toInt ≤ 5 := mp_res_ld h_44 p5 (by omega) (by omega)
      have e_46 : z_40.toInt % 3 = 1 → (-1) ≤ z_43.toInt ∧ z_43.toInt ≤ 99 := mp_res_ld h_44 p6 (by omega) (by omega)
      have e_47 : z_43.toInt = (f1 (3 * x0.toInt + x1.toInt).toNat).toInt := mp_at_i h_44 (by omega)
      show mp_W E X 3 40 [(0, .ref a0), (1, .int x0), (2, .int x1)] [.int z_43] w4_ 0 0
      exact mp_iret hF hQ rfl rfl (Nat.le_of_ble_eq_true rfl) (Nat.le_of_ble_eq_true rfl) [1, 2, 0] (w' := w2_) rfl rfl ⟨z_43, rfl, (by first | omega | decide | (have h8 : (0 : Int64).toInt = 0 := rfl; have h9 : (-1 : Int32).toInt = -1 := rfl; have h10 : (-2 : Int32).toInt = -2 := rfl; have h11 : (0 : Int32).toInt = 0 := rfl; have h12 : (1 : Int32).toInt = 1 := rfl; have h13 : (-5 : Int32).toInt = -5 := rfl; have h14 : (-3 : Int32).toInt = -3 := rfl; omega)), rfl⟩ (by first | exact mp_fd_ok mp_k_cX10_person_ok (by decide +kernel) | decide +kernel)
