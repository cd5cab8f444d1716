set_option maxHeartbeats 4000000 in
set_option maxRecDepth 100000 in
theorem bX10_ends_42 (E : mp_E) (a0 a1 a2 a3 a4 a5 a6 a7 a8 a9 a10 a11 a12 a13 a14 a15 a16 a17 a18 a19 a20 a21 a22 a23 a24 a25 : Nat) (f0 : Nat → Int32) (y0 : Int32) (y1 : Int32) (y2 : Int32) (y3 : Int32) (y4 : Int32) (y5 : Int32) (y6 : Int64) (y7 : Int32) (y8 : Int32) (y9 : Int32) (y10 : Int32) (y11 : Int32) (y12 : Int32) (y13 : Int32) (y14 : Int32) (y15 : Int32) (y16 : Int32) (y17 : Int32) (y18 : Int32) (y19 : Int32) (y20 : Int32) (y21 : Int32) (l_y1 : 0 ≤ y1.toInt) (u_y1 : y1.toInt ≤ 1600) (l_y2 : 0 ≤ y2.toInt) (u_y2 : y2.toInt ≤ 1600) (l_y3 : 0 ≤ y3.toInt) (u_y3 : y3.toInt ≤ 4) (l_y4 : 0 ≤ y4.toInt) (u_y4 : y4.toInt ≤ 1600) (l_y11 : 0 ≤ y11.toInt) (u_y11 : y11.toInt ≤ 99) (l_y12 : 0 ≤ y12.toInt) (u_y12 : y12.toInt ≤ 5) (l_y13 : 0 ≤ y13.toInt) (u_y13 : y13.toInt ≤ 12) (q0 : y2.toInt ≤ y1.toInt) (q1 : mp_MT f0 y1.toInt y3.toInt y4.toInt y2.toInt y5.toInt y6.toInt) : mp_Ct E yX10_ends cX10_ends 1 none 2 0 0 44 [.ref a0] [(mp_ob10 a0 y0 a2 a3 a4 a5 a1 y1 y2 y3 y4 y5 y6 y7 y8 y9 y10 a6 a7 a8 a9 a10 a11 a12 a13 y11 a14 a15 a16 a17 y12 y13 y14 a18 a19 y15 y16 a20 a21 a22 y17 y18 y19 y20 a23 a24 a25 y21), (mp_arI E a1 1 1600 f0)] (fun v w' => ∃ r1 : Int32, ∃ r2 : Int32, ∃ r3 : Int32, ∃ r4 : Int32, ∃ r5 : Int64, ∃ r6 : Int32, ∃ r7 : Int32, v = none ∧ 0 ≤ r1.toInt ∧ r1.toInt ≤ 1600 ∧ 0 ≤ r2.toInt ∧ r2.toInt ≤ 4 ∧ 0 ≤ r3.toInt ∧ r3.toInt ≤ 1600 ∧ (r1.toInt ≤ y1.toInt) ∧ ((5 * (y1.toInt - r1.toInt) + r2.toInt) ≤ (5 * (y1.toInt - y2.toInt) + y3.toInt)) ∧ (r6.toInt ≠ 0 ∨ (5 * (y1.toInt - r1.toInt) + r2.toInt) + 1 ≤ (5 * (y1.toInt - y2.toInt) + y3.toInt)) ∧ (mp_EK f0 y1.toInt y7.toInt y8.toInt y4.toInt r6.toInt r7.toInt r3.toInt) ∧ (mp_MT f0 y1.toInt r2.toInt r3.toInt r1.toInt r4.toInt r5.toInt) ∧ w' = [(mp_ob10 a0 y0 a2 a3 a4 a5 a1 y1 r1 r2 r3 r4 r5 r6 r7 y9 y10 a6 a7 a8 a9 a10 a11 a12 a13 y11 a14 a15 a16 a17 y12 y13 y14 a18 a19 y15 y16 a20 a21 a22 y17 y18 y19 y20 a23 a24 a25 y21), (mp_arI E a1 1 1600 f0)]) := by
  refine mp_met false (by decide) (by decide) (Nat.le_of_ble_eq_true rfl) (fun X hF hQ => ?_)
  have hF : mp_F E X (RX10, cX10_ends, 1, (2, 0, 0, 44), none, false) := hF
  let w1_ : va_W := [(mp_ob10 a0 y0 a2 a3 a4 a5 a1 y1 y2 y3 y4 y5 y6 y7 y8 y9 y10 a6 a7 a8 a9 a10 a11 a12 a13 y11 a14 a15 a16 a17 y12 y13 y14 a18 a19 y15 y16 a20 a21 a22 y17 y18 y19 y20 a23 a24 a25 y21), (mp_arI E a1 1 1600 f0)]
  show mp_W E X 1 0 [(0, .ref a0)] [] w1_ 0 0
  refine mp_run mp_k_cX10_ends_ok hF mp_tabX10_ok [mp_i (.aload_n 0), mp_h (.getfield 133) [8, 0], mp_c (.iconst 3) 3, mp_h (.if_icmp .eq 8) [13]] (by decide +kernel) ?_
  refine And.intro rfl (And.intro rfl ?_)
  refine And.intro (fun c_1 => ?_) (fun c_1 => ?_)
  · have c_1 : y3.toInt = 3 := (congrArg Int32.toInt c_1)
    show mp_W E X 1 13 [(0, .ref a0)] [] w1_ 0 0
    refine mp_run mp_k_cX10_ends_ok hF mp_tabX10_ok [mp_i (.aload_n 0), mp_h (.getfield 144) [12, 0], mp_h (.ifCond .ne 7) [24]] (by decide +kernel) ?_
    refine And.intro rfl (And.intro rfl ?_)
    refine And.intro (fun c_2 => ?_) (fun c_2 => ?_)
    · have c_2 : y7.toInt ≠ 0 := c_2
      show mp_W E X 1 24 [(0, .ref a0)] [] w1_ 0 0
      exact mp_vret hF hQ rfl (Nat.le_of_ble_eq_true rfl) (Nat.le_of_ble_eq_true rfl) [0, 1] (w' := w1_) rfl rfl ⟨y2, y3, y4, y5, y6, y7, y8, rfl, l_y2, u_y2, l_y3, u_y3, l_y4, u_y4, (by first | omega | decide), (by first | omega | decide), (by first | omega | decide), (by have i0 : (0 : Int32).toInt = 0 := rfl; have i1 : (1 : Int32).toInt = 1 := rfl; have i8 : (2 : Int32).toInt = 2 := rfl; have i9 : (3 : Int32).toInt = 3 := rfl; have k7 := q1.2.1; unfold mp_EK; omega), q1, rfl⟩ (by first | exact mp_fd_ok mp_k_cX10_ends_ok (by decide +kernel) | decide +kernel)
    · have c_2 : y7.toInt = 0 := (congrArg Int32.toInt c_2)
      show mp_W E X 1 20 [(0, .ref a0)] [] w1_ 0 0
      refine mp_run mp_k_cX10_ends_ok hF mp_tabX10_ok [mp_i (.aload_n 0)] (by decide +kernel) ?_
      show mp_W E X 1 21 [(0, .ref a0)] [.ref a0] w1_ 0 0
      refine mp_callV hF (As := []) (rest := []) (wr := []) (bX10_next_12 E a0 a1 a2 a3 a4 a5 a6 a7 a8 a9 a10 a11 a12 a13 a14 a15 a16 a17 a18 a19 a20 a21 a22 a23 a24 a25 f0 y0 y1 y2 y3 y4 y5 y6 y7 y8 y9 y10 y11 y12 y13 y14 y15 y16 y17 y18 y19 y20 y21 l_y1 u_y1 l_y2 u_y2 l_y3 u_y3 l_y4 u_y4 l_y11 u_y11 l_y12 u_y12 l_y13 u_y13 (by first | omega | (show y2.toInt ≤ y1.toInt; omega))) mp_lkX10_154 0 rfl [0, 1] [] rfl rfl rfl rfl rfl ⟨(Nat.le_of_ble_eq_true rfl), (Nat.le_of_ble_eq_true rfl), (Nat.le_of_ble_eq_true rfl), (Nat.le_of_ble_eq_true rfl)⟩ (Nat.le_of_ble_eq_true rfl) (by first | exact mp_fd_ok mp_k_cX10_ends_ok (by decide +kernel) | decide +kernel) (fun v_3 w_4 h_5 => ?_)
      refine h_5.elim fun r_6 q_25 => q_25.elim fun r_7 q_26 => q_26.elim fun r_8 q_27 => q_27.elim fun r_9 q_28 => q_28.elim fun r_10 q_29 => q_29.elim fun e_30 q_31 => q_31.elim fun l_11 q_32 => q_32.elim fun u_12 q_33 => q_33.elim fun l_13 q_34 => q_34.elim fun u_14 q_35 => q_35.elim fun l_15 q_36 => q_36.elim fun u_16 q_37 => q_37.elim fun l_17 q_38 => q_38.elim fun u_18 q_39 => q_39.elim fun l_19 q_40 => q_40.elim fun u_20 q_41 => q_41.elim fun x_21 q_42 => q_42.elim fun x_22 q_43 => q_43.elim fun x_23 q_44 => q_44.elim fun x_24 e_45 => ?_
      clear h_5 q_25 q_26 q_27 q_28 q_29 q_31 q_32 q_33 q_34 q_35 q_36 q_37 q_38 q_39 q_40 q_41 q_42 q_43 q_44
      subst e_30
      subst e_45
      let w2_ : va_W := [(mp_ob10 a0 y0 a2 a3 a4 a5 a1 y1 r_6 r_7 r_8 r_9 r_10 y7 y8 y9 y10 a6 a7 a8 a9 a10 a11 a12 a13 y11 a14 a15 a16 a17 y12 y13 y14 a18 a19 y15 y16 a20 a21 a22 y17 y18 y19 y20 a23 a24 a25 y21), (mp_arI E a1 1 1600 f0)]
      show mp_W E X 1 24 [(0, .ref a0)] [] w2_ 0 0
      exact mp_vret hF hQ rfl (Nat.le_of_ble_eq_true rfl) (Nat.le_of_ble_eq_true rfl) [0, 1] (w' := w2_) rfl rfl ⟨r_6, r_7, r_8, r_9, r_10, y7, y8, rfl, l_11, u_12, l_13, u_14, l_15, u_16, (by first | omega | decide), (by first | omega | decide), (by first | omega | decide), (by have i0 : (0 : Int32).toInt = 0 := rfl; have i1 : (1 : Int32).toInt = 1 := rfl; have i8 : (2 : Int32).toInt = 2 := rfl; have i9 : (3 : Int32).toInt = 3 := rfl; have k7 := q1.2.1; have k6 : r_8.toInt = ((mp_NX f0 (y1.toInt).toNat (y4.toInt).toNat : Nat) : Int) := (by have k9 := x_23; unfold mp_NX; rw [← Int.toNat_natCast (mp_TE _ _ _), ← q1.2.2.1]; exact k9); exact Or.inr (Or.inl ⟨by omega, by omega, by omega, k6⟩)), x_24, rfl⟩ (by first | exact mp_fd_ok mp_k_cX10_ends_ok (by decide +kernel) | decide +kernel)
  · have c_1 : y3.toInt ≠ 3 := c_1
    show mp_W E X 1 8 [(0, .ref a0)] [] w1_ 0 0
    refine mp_run mp_k_cX10_ends_ok hF mp_tabX10_ok [mp_i (.aload_n 0), mp_c (.iconst 1) 1] (by decide +kernel) ?_
    show mp_W E X 1 10 [(0, .ref a0)] [.int 1, .ref a0] w1_ 0 0
    refine mp_callV hF (As := [.int 1]) (rest := []) (wr := [(mp_arI E a1 1 1600 f0)]) (bX10_fails_20 E a0 a2 a3 a4 a5 a1 a6 a7 a8 a9 a10 a11 a12 a13 a14 a15 a16 a17 a18 a19 a20 a21 a22 a23 a24 a25 y0 y1 y2 y3 y4 y5 y6 y7 y8 y9 y10 y11 y12 y13 y14 y15 y16 y17 y18 y19 y20 y21 l_y1 u_y1 l_y2 u_y2 l_y3 u_y3 l_y4 u_y4 l_y11 u_y11 l_y12 u_y12 l_y13 u_y13) mp_lkX10_160 0 rfl [0] [1] rfl rfl rfl rfl rfl ⟨(Nat.le_of_ble_eq_true rfl), (Nat.le_of_ble_eq_true rfl), (Nat.le_of_ble_eq_true rfl), (Nat.le_of_ble_eq_true rfl)⟩ (Nat.le_of_ble_eq_true rfl) (by first | exact mp_fd_ok mp_k_cX10_ends_ok (by decide +kernel) | decide +kernel) (fun v_46 w_47 h_48 => ?_)
    refine h_48.elim fun r_49 q_53 => q_53.elim fun r_50 q_54 => q_54.elim fun e_55 q_56 => q_56.elim fun x_51 q_57 => q_57.elim fun x_52 e_58 => ?_
    clear h_48 q_53 q_54 q_56 q_57
    subst e_55
    subst e_58
    let w3_ : va_W := [(mp_arI E a1 1 1600 f0), (mp_ob10 a0 y0 a2 a3 a4 a5 a1 y1 y2 y3 y4 y5 y6 r_49 r_50 y9 y10 a6 a7 a8 a9 a10 a11 a12 a13 y11 a14 a15 a16 a17 y12 y13 y14 a18 a19 y15 y16 a20 a21 a22 y17 y18 y19 y20 a23 a24 a25 y21)]
    show mp_W E X 1 13 [(0, .ref a0)] [] w3_ 0 0
    refine mp_run mp_k_cX10_ends_ok hF mp_tabX10_ok [mp_i (.aload_n 0), mp_h (.getfield 144) [12, 1], mp_h (.ifCond .ne 7) [24]] (by decide +kernel) ?_
    refine And.intro rfl (And.intro rfl ?_)
    refine And.intro (fun c_59 => ?_) (fun c_59 => ?_)
    · have c_59 : r_49.toInt ≠ 0 := c_59
      show mp_W E X 1 24 [(0, .ref a0)] [] w3_ 0 0
      exact mp_vret hF hQ rfl (Nat.le_of_ble_eq_true rfl) (Nat.le_of_ble_eq_true rfl) [1, 0] (w' := [(mp_ob10 a0 y0 a2 a3 a4 a5 a1 y1 y2 y3 y4 y5 y6 r_49 r_50 y9 y10 a6 a7 a8 a9 a10 a11 a12 a13 y11 a14 a15 a16 a17 y12 y13 y14 a18 a19 y15 y16 a20 a21 a22 y17 y18 y19 y20 a23 a24 a25 y21), (mp_arI E a1 1 1600 f0)]) rfl rfl ⟨y2, y3, y4, y5, y6, r_49, r_50, rfl, l_y2, u_y2, l_y3, u_y3, l_y4, u_y4, (by first | omega | decide), (by first | omega | decide), (by first | omega | decide), (by have i0 : (0 : Int32).toInt = 0 := rfl; have i1 : (1 : Int32).toInt = 1 := rfl; have i8 : (2 : Int32).toInt = 2 := rfl; have i9 : (3 : Int32).toInt = 3 := rfl; have k7 := q1.2.1; unfold mp_EK; omega), q1, rfl⟩ (by first | exact mp_fd_ok mp_k_cX10_ends_ok (by decide +kernel) | decide +kernel)
    · have c_59 : r_49.toInt = 0 := (congrArg Int32.toInt c_59)
      show mp_W E X 1 20 [(0, .ref a0)] [] w3_ 0 0
      refine mp_run mp_k_cX10_ends_ok hF mp_tabX10_ok [mp_i (.aload_n 0)] (by decide +kernel) ?_
      show mp_W E X 1 21 [(0, .ref a0)] [.ref a0] w3_ 0 0
      refine mp_callV hF (As := []) (rest := []) (wr := []) (bX10_next_12 E a0 a1 a2 a3 a4 a5 a6 a7 a8 a9 a10 a11 a12 a13 a14 a15 a16 a17 a18 a19 a20 a21 a22 a23 a24 a25 f0 y0 y1 y2 y3 y4 y5 y6 r_49 r_50 y9 y10 y11 y12 y13 y14 y15 y16 y17 y18 y19 y20 y21 l_y1 u_y1 l_y2 u_y2 l_y3 u_y3 l_y4 u_y4 l_y11 u_y11 l_y12 u_y12 l_y13 u_y13 (by first | omega | (show y2.toInt ≤ y1.toInt; omega))) mp_lkX10_154 1 rfl [1, 0] [] rfl rfl rfl rfl rfl ⟨(Nat.le_of_ble_eq_true rfl), (Nat.le_of_ble_eq_true rfl), (Nat.le_of_ble_eq_true rfl), (Nat.le_of_ble_eq_true rfl)⟩ (Nat.le_of_ble_eq_true rfl) (by first | exact mp_fd_ok mp_k_cX10_ends_ok (by decide +kernel) | decide +kernel) (fun v_60 w_61 h_62 => ?_)
      refine h_62.elim fun r_63 q_82 => q_82.elim fun r_64 q_83 => q_83.elim fun r_65 q_84 => q_84.elim fun r_66 q_85 => q_85.elim fun r_67 q_86 => q_86.elim fun e_87 q_88 => q_88.elim fun l_68 q_89 => q_89.elim fun u_69 q_90 => q_90.elim fun l_70 q_91 => q_91.elim fun u_71 q_92 => q_92.elim fun l_72 q_93 => q_93.elim fun u_73 q_94 => q_94.elim fun l_74 q_95 => q_95.elim fun u_75 q_96 => q_96.elim fun l_76 q_97 => q_97.elim fun u_77 q_98 => q_98.elim fun x_78 q_99 => q_99.elim fun x_79 q_100 => q_100.elim fun x_80 q_101 => q_101.elim fun x_81 e_102 => ?_
      clear h_62 q_82 q_83 q_84 q_85 q_86 q_88 q_89 q_90 q_91 q_92 q_93 q_94 q_95 q_96 q_97 q_98 q_99 q_100 q_101
      subst e_87
      subst e_102
      let w4_ : va_W := [(mp_ob10 a0 y0 a2 a3 a4 a5 a1 y1 r_63 r_64 r_65 r_66 r_67 r_49 r_50 y9 y10 a6 a7 a8 a9 a10 a11 a12 a13 y11 a14 a15 a16 a17 y12 y13 y14 a18 a19 y15 y16 a20 a21 a22 y17 y18 y19 y20 a23 a24 a25 y21), (mp_arI E a1 1 1600 f0)]
      show mp_W E X 1 24 [(0, .ref a0)] [] w4_ 0 0
      exact mp_vret hF hQ rfl (Nat.le_of_ble_eq_true rfl) (Nat.le_of_ble_eq_true rfl) [0, 1] (w' := w4_) rfl rfl ⟨r_63, r_64, r_65, r_66, r_67, r_49, r_50, rfl, l_68, u_69, l_70, u_71, l_72, u_73, (by first | omega | decide), (by first | omega | decide), (by first | omega | decide), (by have i0 : (0 : Int32).toInt = 0 := rfl; have i1 : (1 : Int32).toInt = 1 := rfl; have i8 : (2 : Int32).toInt = 2 := rfl; have i9 : (3 : Int32).toInt = 3 := rfl; have k7 := q1.2.1; have k6 : r_65.toInt = ((mp_NX f0 (y1.toInt).toNat (y4.toInt).toNat : Nat) : Int) := (by have k9 := x_80; unfold mp_NX; rw [← Int.toNat_natCast (mp_TE _ _ _), ← q1.2.2.1]; exact k9); exact Or.inr (Or.inl ⟨by omega, by omega, by omega, k6⟩)), x_81, rfl⟩ (by first | exact mp_fd_ok mp_k_cX10_ends_ok (by decide +kernel) | decide +kernel)
