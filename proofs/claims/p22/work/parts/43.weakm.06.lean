set_option maxHeartbeats 4000000 in
set_option maxRecDepth 100000 in
theorem bX10_line_41 (E : mp_E) (a0 a1 a2 a3 a4 a5 a6 a7 a8 a9 a10 a11 a12 a13 a14 a15 a16 a17 a18 a19 a20 a21 a22 a23 a24 a25 : Nat) (f0 : Nat → Int32) (f1 : Nat → Int32) (f2 : Nat → Int32) (f3 : Nat → Int32) (f4 : Nat → Int32) (f5 : Nat → Int32) (f6 : Nat → Int32) (y0 : Int32) (y1 : Int32) (y2 : Int32) (y3 : Int32) (y4 : Int32) (y5 : Int32) (y6 : Int64) (y7 : Int32) (y8 : Int32) (y9 : Int32) (y10 : Int32) (y11 : Int32) (y12 : Int32) (y13 : Int32) (y14 : Int32) (y15 : Int32) (y16 : Int32) (y17 : Int32) (y18 : Int32) (y19 : Int32) (y20 : Int32) (y21 : Int32) (p0 : mp_res f2 25 5 0 0 6) (p1 : mp_res f2 25 5 1 0 99) (p2 : mp_res f2 25 5 2 0 6) (p3 : mp_res f2 25 5 3 0 10) (p4 : mp_res f2 25 5 4 0 60) (p5 : mp_all f3 180 0 20) (p6 : mp_all f4 3000 0 1) (p7 : mp_res f5 90 3 0 0 5) (p8 : mp_res f5 90 3 1 (-1) 99) (p9 : mp_res f6 300 6 0 0 5) (p10 : mp_res f6 300 6 1 0 5) (p11 : mp_res f6 300 6 3 0 99) (p12 : mp_res f6 300 6 4 0 1) (l_y1 : 0 ≤ y1.toInt) (u_y1 : y1.toInt ≤ 1600) (l_y2 : 0 ≤ y2.toInt) (u_y2 : y2.toInt ≤ 1600) (l_y3 : 0 ≤ y3.toInt) (u_y3 : y3.toInt ≤ 4) (l_y4 : 0 ≤ y4.toInt) (u_y4 : y4.toInt ≤ 1600) (l_y11 : 0 ≤ y11.toInt) (u_y11 : y11.toInt ≤ 99) (l_y12 : 0 ≤ y12.toInt) (u_y12 : y12.toInt ≤ 5) (l_y13 : 0 ≤ y13.toInt) (u_y13 : y13.toInt ≤ 12) (q0 : y2.toInt ≤ y1.toInt) (q1 : mp_prmo f6 240 (f2 23).toInt) (q2 : mp_MT f0 y1.toInt y3.toInt y4.toInt y2.toInt y5.toInt y6.toInt) (q3 : y7.toInt = 0) : mp_Ct E yX10_line cX10_line 5 none 6 0 0 135 [.ref a0] [(mp_ob10 a0 y0 a8 a9 a10 a11 a1 y1 y2 y3 y4 y5 y6 y7 y8 y9 y10 a2 a3 a4 a5 a6 a7 a12 a13 y11 a14 a15 a16 a17 y12 y13 y14 a18 a19 y15 y16 a20 a21 a22 y17 y18 y19 y20 a23 a24 a25 y21), (mp_arI E a1 1 1600 f0), (mp_arI E a2 0 5 f1), (mp_arI E a3 0 25 f2), (mp_arI E a4 0 180 f3), (mp_arI E a5 3 3000 f4), (mp_arI E a6 0 90 f5), (mp_arI E a7 0 300 f6)] (fun v w' => ∃ r1 : Int32, ∃ r2 : Int32, ∃ r3 : Int32, ∃ r4 : Int32, ∃ r5 : Int64, ∃ r6 : Int32, ∃ r7 : Int32, ∃ h8 : Nat → Int32, ∃ h9 : Nat → Int32, ∃ h10 : Nat → Int32, ∃ h11 : Nat → Int32, ∃ h12 : Nat → Int32, v = none ∧ 0 ≤ r1.toInt ∧ r1.toInt ≤ 1600 ∧ 0 ≤ r2.toInt ∧ r2.toInt ≤ 4 ∧ 0 ≤ r3.toInt ∧ r3.toInt ≤ 1600 ∧ mp_res h8 25 5 0 0 6 ∧ mp_res h8 25 5 1 0 99 ∧ mp_res h8 25 5 2 0 6 ∧ mp_res h8 25 5 3 0 10 ∧ mp_res h8 25 5 4 0 60 ∧ mp_keep h8 f2 20 ∧ mp_all h9 180 0 20 ∧ mp_keep h9 f3 144 ∧ mp_all h10 3000 0 1 ∧ mp_keep h10 f4 2400 ∧ mp_res h11 90 3 0 0 5 ∧ mp_res h11 90 3 1 (-1) 99 ∧ mp_keep h11 f5 72 ∧ mp_res h12 300 6 0 0 5 ∧ mp_res h12 300 6 1 0 5 ∧ mp_res h12 300 6 3 0 99 ∧ mp_res h12 300 6 4 0 1 ∧ mp_keep h12 f6 240 ∧ (r1.toInt ≤ y1.toInt) ∧ ((5 * (y1.toInt - r1.toInt) + r2.toInt) ≤ (5 * (y1.toInt - y2.toInt) + y3.toInt)) ∧ ((h8 24).toInt = (f2 24).toInt) ∧ (r6.toInt ≠ 0 ∨ mp_prmo h12 240 (h8 23).toInt) ∧ (mp_GO (mp_aft f0 (y1.toInt).toNat (mp_gLin2 mp_gop f0 (y1.toInt).toNat (y4.toInt).toNat ((f2 20).toInt, (f2 21).toInt, (f2 22).toInt, (f2 23).toInt, (f1 4).toInt) (mp_dM f3 f4 f5 f6))) r6.toInt r7.toInt (mp_aft f0 (y1.toInt).toNat (0, (r3.toInt).toNat, ((h8 20).toInt, (h8 21).toInt, (h8 22).toInt, (h8 23).toInt, (f1 4).toInt), (mp_dM h9 h10 h11 h12)))) ∧ (mp_MT f0 y1.toInt r2.toInt r3.toInt r1.toInt r4.toInt r5.toInt) ∧ w' = [(mp_ob10 a0 y0 a8 a9 a10 a11 a1 y1 r1 r2 r3 r4 r5 r6 r7 y9 y10 a2 a3 a4 a5 a6 a7 a12 a13 y11 a14 a15 a16 a17 y12 y13 y14 a18 a19 y15 y16 a20 a21 a22 y17 y18 y19 y20 a23 a24 a25 y21), (mp_arI E a1 1 1600 f0), (mp_arI E a2 0 5 f1), (mp_arI E a3 0 25 h8), (mp_arI E a4 0 180 h9), (mp_arI E a5 3 3000 h10), (mp_arI E a6 0 90 h11), (mp_arI E a7 0 300 h12)]) := by
  refine mp_met false (by decide) (by decide) (Nat.le_of_ble_eq_true rfl) (fun X hF hQ => ?_)
  have hF : mp_F E X (RX10, cX10_line, 5, (6, 0, 0, 135), none, false) := hF
  have i_1 : (0 : Int32).toInt = 0 := by decide
  have i_2 : (1 : Int32).toInt = 1 := by decide
  have go_3 : mp_GO (mp_aft f0 (y1.toInt).toNat (mp_gLin2 mp_gop f0 (y1.toInt).toNat (y4.toInt).toNat ((f2 20).toInt, (f2 21).toInt, (f2 22).toInt, (f2 23).toInt, (f1 4).toInt) (mp_dM f3 f4 f5 f6))) y7.toInt y8.toInt (mp_aft f0 (y1.toInt).toNat (mp_gLin2 mp_gop f0 (y1.toInt).toNat (y4.toInt).toNat ((f2 20).toInt, (f2 21).toInt, (f2 22).toInt, (f2 23).toInt, (f1 4).toInt) (mp_dM f3 f4 f5 f6))) := mp_go_0 (by first | omega | (dsimp only <;> omega) | decide)
  have k7_ := q2.2.1
  let w1_ : va_W := [(mp_ob10 a0 y0 a8 a9 a10 a11 a1 y1 y2 y3 y4 y5 y6 y7 y8 y9 y10 a2 a3 a4 a5 a6 a7 a12 a13 y11 a14 a15 a16 a17 y12 y13 y14 a18 a19 y15 y16 a20 a21 a22 y17 y18 y19 y20 a23 a24 a25 y21), (mp_arI E a1 1 1600 f0), (mp_arI E a2 0 5 f1), (mp_arI E a3 0 25 f2), (mp_arI E a4 0 180 f3), (mp_arI E a5 3 3000 f4), (mp_arI E a6 0 90 f5), (mp_arI E a7 0 300 f6)]
  show mp_W E X 5 0 [(0, .ref a0)] [] w1_ 0 0
  have jp_14 : ∀ (i_4 : Int32) (i_5 : Int32), 0 ≤ i_4.toInt → i_4.toInt ≤ 1 → 0 ≤ i_5.toInt → i_5.toInt ≤ 1 → (y2.toInt ≤ y1.toInt) → (5 * (y1.toInt - y2.toInt) + y3.toInt ≤ (5 * (y1.toInt - y2.toInt) + y3.toInt)) → ((i_5.toInt = 1 ∧ mp_TK f0 (y1.toInt).toNat (y4.toInt).toNat = 1 ∧ mp_WD f0 (y1.toInt).toNat (y4.toInt).toNat = 232608281) ∨ (i_5.toInt = 0 ∧ ¬ (mp_TK f0 (y1.toInt).toNat (y4.toInt).toNat = 1 ∧ mp_WD f0 (y1.toInt).toNat (y4.toInt).toNat = 232608281))) → ((i_4.toInt = 1 ∧ mp_TK f0 (y1.toInt).toNat (y4.toInt).toNat = 1 ∧ mp_WD f0 (y1.toInt).toNat (y4.toInt).toNat = 6465242723) ∨ (i_4.toInt = 0 ∧ ¬ (mp_TK f0 (y1.toInt).toNat (y4.toInt).toNat = 1 ∧ mp_WD f0 (y1.toInt).toNat (y4.toInt).toNat = 6465242723))) → mp_W E X 5 16 [(2, .int i_4), (1, .int i_5), (0, .ref a0)] [] [(mp_ob10 a0 y0 a8 a9 a10 a11 a1 y1 y2 y3 y4 y5 y6 y7 y8 y9 y10 a2 a3 a4 a5 a6 a7 a12 a13 y11 a14 a15 a16 a17 y12 y13 y14 a18 a19 y15 y16 a20 a21 a22 y17 y18 y19 y20 a23 a24 a25 y21), (mp_arI E a1 1 1600 f0), (mp_arI E a2 0 5 f1), (mp_arI E a3 0 25 f2), (mp_arI E a4 0 180 f3), (mp_arI E a5 3 3000 f4), (mp_arI E a6 0 90 f5), (mp_arI E a7 0 300 f6)] 0 0 := by
    intro i_4 i_5 l_6 u_7 l_8 u_9 x_10 x_11 x_12 x_13
    have jp_23 : ∀ (i_15 : Int32) (i_16 : Int32), (y2.toInt ≤ y1.toInt) → (5 * (y1.toInt - y2.toInt) + y3.toInt ≤ (5 * (y1.toInt - y2.toInt) + y3.toInt)) → (i_15.toInt ≠ 0 ∨ ((i_5.toInt = 0 ∨ (f2 22).toInt ≤ 5) ∧ (i_4.toInt = 0 ∨ (f2 23).toInt ≤ 9))) → ((i_5.toInt = 1 ∧ mp_TK f0 (y1.toInt).toNat (y4.toInt).toNat = 1 ∧ mp_WD f0 (y1.toInt).toNat (y4.toInt).toNat = 232608281) ∨ (i_5.toInt = 0 ∧ ¬ (mp_TK f0 (y1.toInt).toNat (y4.toInt).toNat = 1 ∧ mp_WD f0 (y1.toInt).toNat (y4.toInt).toNat = 232608281))) → ((i_4.toInt = 1 ∧ mp_TK f0 (y1.toInt).toNat (y4.toInt).toNat = 1 ∧ mp_WD f0 (y1.toInt).toNat (y4.toInt).toNat = 6465242723) ∨ (i_4.toInt = 0 ∧ ¬ (mp_TK f0 (y1.toInt).toNat (y4.toInt).toNat = 1 ∧ mp_WD f0 (y1.toInt).toNat (y4.toInt).toNat = 6465242723))) → (mp_GO (mp_aft f0 (y1.toInt).toNat (mp_gLin2 mp_gop f0 (y1.toInt).toNat (y4.toInt).toNat ((f2 20).toInt, (f2 21).toInt, (f2 22).toInt, (f2 23).toInt, (f1 4).toInt) (mp_dM f3 f4 f5 f6))) i_15.toInt i_16.toInt (mp_aft f0 (y1.toInt).toNat (mp_gLin2 mp_gop f0 (y1.toInt).toNat (y4.toInt).toNat ((f2 20).toInt, (f2 21).toInt, (f2 22).toInt, (f2 23).toInt, (f1 4).toInt) (mp_dM f3 f4 f5 f6)))) → mp_W E X 5 49 [(2, .int i_4), (1, .int i_5), (0, .ref a0)] [] [(mp_ob10 a0 y0 a8 a9 a10 a11 a1 y1 y2 y3 y4 y5 y6 i_15 i_16 y9 y10 a2 a3 a4 a5 a6 a7 a12 a13 y11 a14 a15 a16 a17 y12 y13 y14 a18 a19 y15 y16 a20 a21 a22 y17 y18 y19 y20 a23 a24 a25 y21), (mp_arI E a1 1 1600 f0), (mp_arI E a2 0 5 f1), (mp_arI E a3 0 25 f2), (mp_arI E a4 0 180 f3), (mp_arI E a5 3 3000 f4), (mp_arI E a6 0 90 f5), (mp_arI E a7 0 300 f6)] 0 0 := by
      intro i_15 i_16 x_17 x_18 x_19 x_20 x_21 x_22
      refine mp_run mp_k_cX10_line_ok hF mp_tabX10_ok [mp_i (.aload_n 0), mp_h (.getfield 144) [12, 0], mp_h (.ifCond .eq 4) [57]] (by decide +kernel) ?_
      refine And.intro rfl (And.intro rfl ?_)
      refine And.intro (fun c_24 => ?_) (fun c_24 => ?_)
      · have c_24 : i_15.toInt = 0 := (congrArg Int32.toInt c_24)
        let w2_ : va_W := [(mp_ob10 a0 y0 a8 a9 a10 a11 a1 y1 y2 y3 y4 y5 y6 i_15 i_16 y9 y10 a2 a3 a4 a5 a6 a7 a12 a13 y11 a14 a15 a16 a17 y12 y13 y14 a18 a19 y15 y16 a20 a21 a22 y17 y18 y19 y20 a23 a24 a25 y21), (mp_arI E a1 1 1600 f0), (mp_arI E a2 0 5 f1), (mp_arI E a3 0 25 f2), (mp_arI E a4 0 180 f3), (mp_arI E a5 3 3000 f4), (mp_arI E a6 0 90 f5), (mp_arI E a7 0 300 f6)]
        show mp_W E X 5 57 [(2, .int i_4), (1, .int i_5), (0, .ref a0)] [] w2_ 0 0
        refine mp_run mp_k_cX10_line_ok hF mp_tabX10_ok [mp_i (.iload_n 1), mp_h (.ifCond .ne 7) [65]] (by decide +kernel) ?_
        refine And.intro (fun c_25 => ?_) (fun c_25 => ?_)
        · have c_25 : i_5.toInt ≠ 0 := c_25
          show mp_W E X 5 65 [(2, .int i_4), (1, .int i_5), (0, .ref a0)] [] w2_ 0 0
          refine mp_run mp_k_cX10_line_ok hF mp_tabX10_ok [mp_i (.aload_n 0)] (by decide +kernel) ?_
          show mp_W E X 5 66 [(2, .int i_4), (1, .int i_5), (0, .ref a0)] [.ref a0] w2_ 0 0
          refine mp_callV hF (As := []) (rest := []) (wr := [(mp_arI E a2 0 5 f1), (mp_arI E a3 0 25 f2), (mp_arI E a4 0 180 f3), (mp_arI E a5 3 3000 f4), (mp_arI E a6 0 90 f5), (mp_arI E a7 0 300 f6)]) (bX10_next_12 E a0 a1 a8 a9 a10 a11 a2 a3 a4 a5 a6 a7 a12 a13 a14 a15 a16 a17 a18 a19 a20 a21 a22 a23 a24 a25 f0 y0 y1 y2 y3 y4 y5 y6 i_15 i_16 y9 y10 y11 y12 y13 y14 y15 y16 y17 y18 y19 y20 y21 l_y1 u_y1 l_y2 u_y2 l_y3 u_y3 l_y4 u_y4 l_y11 u_y11 l_y12 u_y12 l_y13 u_y13 (by first | omega | (show y2.toInt ≤ y1.toInt; omega))) mp_lkX10_154 0 rfl [0, 1] [2, 3, 4, 5, 6, 7] rfl rfl rfl rfl rfl ⟨(Nat.le_of_ble_eq_true rfl), (Nat.le_of_ble_eq_true rfl), (Nat.le_of_ble_eq_true rfl), (Nat.le_of_ble_eq_true rfl)⟩ (Nat.le_of_ble_eq_true rfl) (by first | exact mp_fd_ok mp_k_cX10_line_ok (by decide +kernel) | decide +kernel) (fun v_26 w_27 h_28 => ?_)
          refine h_28.elim fun r_29 q_48 => q_48.elim fun r_30 q_49 => q_49.elim fun r_31 q_50 => q_50.elim fun r_32 q_51 => q_51.elim fun r_33 q_52 => q_52.elim fun e_53 q_54 => q_54.elim fun l_34 q_55 => q_55.elim fun u_35 q_56 => q_56.elim fun l_36 q_57 => q_57.elim fun u_37 q_58 => q_58.elim fun l_38 q_59 => q_59.elim fun u_39 q_60 => q_60.elim fun l_40 q_61 => q_61.elim fun u_41 q_62 => q_62.elim fun l_42 q_63 => q_63.elim fun u_43 q_64 => q_64.elim fun x_44 q_65 => q_65.elim fun x_45 q_66 => q_66.elim fun x_46 q_67 => q_67.elim fun x_47 e_68 => ?_
          clear h_28 q_48 q_49 q_50 q_51 q_52 q_54 q_55 q_56 q_57 q_58 q_59 q_60 q_61 q_62 q_63 q_64 q_65 q_66 q_67
          subst e_53
          subst e_68
          have nx_69 : r_31.toInt = ((mp_NX f0 (y1.toInt).toNat (y4.toInt).toNat : Nat) : Int) := (by have k9 := x_46; unfold mp_NX; rw [← Int.toNat_natCast (mp_TE _ _ _), ← q2.2.2.1]; exact k9)
          have k_70 := x_47.2.1
          let w3_ : va_W := [(mp_arI E a2 0 5 f1), (mp_arI E a3 0 25 f2), (mp_arI E a4 0 180 f3), (mp_arI E a5 3 3000 f4), (mp_arI E a6 0 90 f5), (mp_arI E a7 0 300 f6), (mp_ob10 a0 y0 a8 a9 a10 a11 a1 y1 r_29 r_30 r_31 r_32 r_33 i_15 i_16 y9 y10 a2 a3 a4 a5 a6 a7 a12 a13 y11 a14 a15 a16 a17 y12 y13 y14 a18 a19 y15 y16 a20 a21 a22 y17 y18 y19 y20 a23 a24 a25 y21), (mp_arI E a1 1 1600 f0)]
          show mp_W E X 5 69 [(2, .int i_4), (1, .int i_5), (0, .ref a0)] [] w3_ 0 0
          refine mp_run mp_k_cX10_line_ok hF mp_tabX10_ok [mp_i (.iload_n 1), mp_h (.ifCond .eq 10) [80]] (by decide +kernel) ?_
          refine And.intro (fun c_71 => ?_) (fun c_71 => ?_)
          · have c_71 : i_5.toInt = 0 := (congrArg Int32.toInt c_71)
            exfalso; omega
          · have c_71 : i_5.toInt ≠ 0 := c_71
            show mp_W E X 5 73 [(2, .int i_4), (1, .int i_5), (0, .ref a0)] [] w3_ 0 0
            refine mp_run mp_k_cX10_line_ok hF mp_tabX10_ok [mp_i (.aload_n 0)] (by decide +kernel) ?_
            show mp_W E X 5 74 [(2, .int i_4), (1, .int i_5), (0, .ref a0)] [.ref a0] w3_ 0 0
            refine mp_callV hF (As := []) (rest := []) (wr := []) (bX10_personLine_29 E a0 a1 a2 a3 a4 a5 a6 a7 a8 a9 a10 a11 a12 a13 a14 a15 a16 a17 a18 a19 a20 a21 a22 a23 a24 a25 f0 f1 f2 f3 f4 f5 f6 y0 y1 r_29 r_30 r_31 r_32 r_33 i_15 i_16 y9 y10 y11 y12 y13 y14 y15 y16 y17 y18 y19 y20 y21 p0 p1 p2 p3 p4 p5 p6 p7 p8 p9 p10 p11 p12 l_y1 u_y1 l_34 u_35 l_36 u_37 l_38 u_39 l_y11 u_y11 l_y12 u_y12 l_y13 u_y13 (by omega) (by omega) (by assumption) (by omega)) mp_lkX10_215 6 rfl [6, 7, 0, 1, 2, 3, 4, 5] [] rfl rfl rfl rfl rfl ⟨(Nat.le_of_ble_eq_true rfl), (Nat.le_of_ble_eq_true rfl), (Nat.le_of_ble_eq_true rfl), (Nat.le_of_ble_eq_true rfl)⟩ (Nat.le_of_ble_eq_true rfl) (by first | exact mp_fd_ok mp_k_cX10_line_ok (by decide +kernel) | decide +kernel) (fun v_72 w_73 h_74 => ?_)
            refine h_74.elim fun r_75 q_105 => q_105.elim fun r_76 q_106 => q_106.elim fun r_77 q_107 => q_107.elim fun r_78 q_108 => q_108.elim fun r_79 q_109 => q_109.elim fun r_80 q_110 => q_110.elim fun r_81 q_111 => q_111.elim fun g_82 q_112 => q_112.elim fun g_83 q_113 => q_113.elim fun e_114 q_115 => q_115.elim fun l_84 q_116 => q_116.elim fun u_85 q_117 => q_117.elim fun l_86 q_118 => q_118.elim fun u_87 q_119 => q_119.elim fun l_88 q_120 => q_120.elim fun u_89 q_121 => q_121.elim fun p_90 q_122 => q_122.elim fun p_91 q_123 => q_123.elim fun p_92 q_124 => q_124.elim fun p_93 q_125 => q_125.elim fun p_94 q_126 => q_126.elim fun p_95 q_127 => q_127.elim fun p_96 q_128 => q_128.elim fun p_97 q_129 => q_129.elim fun p_98 q_130 => q_130.elim fun x_99 q_131 => q_131.elim fun x_100 q_132 => q_132.elim fun x_101 q_133 => q_133.elim fun x_102 q_134 => q_134.elim fun x_103 q_135 => q_135.elim fun x_104 e_136 => ?_
            clear h_74 q_105 q_106 q_107 q_108 q_109 q_110 q_111 q_112 q_113 q_115 q_116 q_117 q_118 q_119 q_120 q_121 q_122 q_123 q_124 q_125 q_126 q_127 q_128 q_129 q_130 q_131 q_132 q_133 q_134 q_135
            subst e_114
            subst e_136
            have k_137 : mp_keep g_82 f2 20 := mp_keep_trans p_95 mp_keep_rfl
            have k_138 : mp_keep g_83 f5 72 := mp_keep_trans p_98 mp_keep_rfl
            have go_139 := mp_go_tr (mp_go_per x_22 (by first | omega | (dsimp only <;> omega) | decide) (by first | omega | (dsimp only <;> omega)) nx_69) (by first | omega | (dsimp only <;> omega) | decide) x_103
            have k_140 := x_104.2.1
            let w4_ : va_W := [(mp_ob10 a0 y0 a8 a9 a10 a11 a1 y1 r_75 r_76 r_77 r_78 r_79 r_80 r_81 y9 y10 a2 a3 a4 a5 a6 a7 a12 a13 y11 a14 a15 a16 a17 y12 y13 y14 a18 a19 y15 y16 a20 a21 a22 y17 y18 y19 y20 a23 a24 a25 y21), (mp_arI E a1 1 1600 f0), (mp_arI E a2 0 5 f1), (mp_arI E a3 0 25 g_82), (mp_arI E a4 0 180 f3), (mp_arI E a5 3 3000 f4), (mp_arI E a6 0 90 g_83), (mp_arI E a7 0 300 f6)]
            show mp_W E X 5 77 [(2, .int i_4), (1, .int i_5), (0, .ref a0)] [] w4_ 0 0
            refine mp_run mp_k_cX10_line_ok hF mp_tabX10_ok [mp_h (.goto 69) [146]] (by decide +kernel) ?_
            show mp_W E X 5 146 [(2, .int i_4), (1, .int i_5), (0, .ref a0)] [] w4_ 0 0
            exact mp_vret hF hQ rfl (Nat.le_of_ble_eq_true rfl) (Nat.le_of_ble_eq_true rfl) [0, 1, 2, 3, 4, 5, 6, 7] (w' := w4_) rfl rfl ⟨r_75, r_76, r_77, r_78, r_79, r_80, r_81, g_82, f3, f4, g_83, f6, rfl, l_84, u_85, l_86, u_87, l_88, u_89, p_90, p_91, p_92, p_93, p_94, k_137, p5, mp_keep_rfl, p6, mp_keep_rfl, p_96, p_97, k_138, p9, p10, p11, p12, mp_keep_rfl, (by first | omega | decide), (by first | omega | decide), (by first | omega | decide), (by first | assumption | exact Or.inl (by omega) | exact Or.inr (mp_prmo_eq (by assumption) (by omega))), go_139, x_104, rfl⟩ (by first | exact mp_fd_ok mp_k_cX10_line_ok (by decide +kernel) | decide +kernel)
        · have c_25 : i_5.toInt = 0 := (congrArg Int32.toInt c_25)
          show mp_W E X 5 61 [(2, .int i_4), (1, .int i_5), (0, .ref a0)] [] w2_ 0 0
          refine mp_run mp_k_cX10_line_ok hF mp_tabX10_ok [mp_i (.iload_n 2), mp_h (.ifCond .eq 25) [87]] (by decide +kernel) ?_
          refine And.intro (fun c_141 => ?_) (fun c_141 => ?_)
          · have c_141 : i_4.toInt = 0 := (congrArg Int32.toInt c_141)
            show mp_W E X 5 87 [(2, .int i_4), (1, .int i_5), (0, .ref a0)] [] w2_ 0 0
            refine mp_run mp_k_cX10_line_ok hF mp_tabX10_ok [mp_i (.aload_n 0), mp_cl (.ldc2_w 221) 13987] (by decide +kernel) ?_
            show mp_W E X 5 91 [(2, .int i_4), (1, .int i_5), (0, .ref a0)] [.long 13987, .ref a0] w2_ 0 0
            refine mp_callV hF (As := [.long 13987]) (rest := []) (wr := [(mp_arI E a2 0 5 f1), (mp_arI E a3 0 25 f2), (mp_arI E a4 0 180 f3), (mp_arI E a5 3 3000 f4), (mp_arI E a6 0 90 f5), (mp_arI E a7 0 300 f6)]) (bX10_takes_19 E a0 a1 a8 a9 a10 a11 a2 a3 a4 a5 a6 a7 a12 a13 a14 a15 a16 a17 a18 a19 a20 a21 a22 a23 a24 a25 f0 y0 y1 y2 y3 y4 y5 y6 i_15 i_16 y9 y10 y11 y12 y13 y14 y15 y16 y17 y18 y19 y20 y21 13987 l_y1 u_y1 l_y2 u_y2 l_y3 u_y3 l_y4 u_y4 l_y11 u_y11 l_y12 u_y12 l_y13 u_y13 (by omega) (by assumption)) mp_lkX10_157 0 rfl [0, 1] [2, 3, 4, 5, 6, 7] rfl rfl rfl rfl rfl ⟨(Nat.le_of_ble_eq_true rfl), (Nat.le_of_ble_eq_true rfl), (Nat.le_of_ble_eq_true rfl), (Nat.le_of_ble_eq_true rfl)⟩ (Nat.le_of_ble_eq_true rfl) (by first | exact mp_fd_ok mp_k_cX10_line_ok (by decide +kernel) | decide +kernel) (fun v_142 w_143 h_144 => ?_)
            refine h_144.elim (fun q_172 => ?_) (fun q_173 => ?_)
            · skip
              refine q_172.elim fun e_174 q_175 => q_175.elim fun x_145 q_176 => q_176.elim fun x_146 q_177 => q_177.elim fun x_147 q_178 => q_178.elim fun x_148 e_179 => ?_
              clear h_144 q_172 q_175 q_176 q_177 q_178
              subst e_174
              subst e_179
              rw [show (13987 : Int64).toInt = 13987 from by decide] at x_147
              have go_180 := mp_go_sht x_22 (by first | omega | (dsimp only <;> omega) | decide) (by first | omega | (dsimp only <;> omega) | decide) (by first | omega | (dsimp only <;> omega) | decide)
              have k_181 := x_148.2.1
              let w5_ : va_W := [(mp_arI E a2 0 5 f1), (mp_arI E a3 0 25 f2), (mp_arI E a4 0 180 f3), (mp_arI E a5 3 3000 f4), (mp_arI E a6 0 90 f5), (mp_arI E a7 0 300 f6), (mp_ob10 a0 y0 a8 a9 a10 a11 a1 y1 y2 y3 y4 y5 y6 i_15 i_16 y9 y10 a2 a3 a4 a5 a6 a7 a12 a13 y11 a14 a15 a16 a17 y12 y13 y14 a18 a19 y15 y16 a20 a21 a22 y17 y18 y19 y20 a23 a24 a25 y21), (mp_arI E a1 1 1600 f0)]
              show mp_W E X 5 94 [(2, .int i_4), (1, .int i_5), (0, .ref a0)] [.int 0] w5_ 0 0
              refine mp_run mp_k_cX10_line_ok hF mp_tabX10_ok [mp_h (.ifCond .eq 10) [104]] (by decide +kernel) ?_
              refine And.intro (fun _ => ?_) (fun c_182 => absurd c_182 (by decide))
              show mp_W E X 5 104 [(2, .int i_4), (1, .int i_5), (0, .ref a0)] [] w5_ 0 0
              refine mp_run mp_k_cX10_line_ok hF mp_tabX10_ok [mp_i (.aload_n 0), mp_cl (.ldc2_w 226) 380396] (by decide +kernel) ?_
              show mp_W E X 5 108 [(2, .int i_4), (1, .int i_5), (0, .ref a0)] [.long 380396, .ref a0] w5_ 0 0
              refine mp_callV hF (As := [.long 380396]) (rest := []) (wr := [(mp_arI E a2 0 5 f1), (mp_arI E a3 0 25 f2), (mp_arI E a4 0 180 f3), (mp_arI E a5 3 3000 f4), (mp_arI E a6 0 90 f5), (mp_arI E a7 0 300 f6)]) (bX10_asks_21 E a0 a1 a8 a9 a10 a11 a2 a3 a4 a5 a6 a7 a12 a13 a14 a15 a16 a17 a18 a19 a20 a21 a22 a23 a24 a25 f0 y0 y1 y2 y3 y4 y5 y6 i_15 i_16 y9 y10 y11 y12 y13 y14 y15 y16 y17 y18 y19 y20 y21 380396 l_y1 u_y1 l_y2 u_y2 l_y3 u_y3 l_y4 u_y4 l_y11 u_y11 l_y12 u_y12 l_y13 u_y13 (by omega) (by assumption)) mp_lkX10_163 6 rfl [6, 7] [0, 1, 2, 3, 4, 5] rfl rfl rfl rfl rfl ⟨(Nat.le_of_ble_eq_true rfl), (Nat.le_of_ble_eq_true rfl), (Nat.le_of_ble_eq_true rfl), (Nat.le_of_ble_eq_true rfl)⟩ (Nat.le_of_ble_eq_true rfl) (by first | exact mp_fd_ok mp_k_cX10_line_ok (by decide +kernel) | decide +kernel) (fun v_183 w_184 h_185 => ?_)
              refine h_185.elim fun r_186 q_203 => q_203.elim fun r_187 q_204 => q_204.elim fun r_188 q_205 => q_205.elim fun r_189 q_206 => q_206.elim fun r_190 q_207 => q_207.elim fun r_191 q_208 => q_208.elim fun r_192 q_209 => q_209.elim fun e_210 q_211 => q_211.elim fun l_193 q_212 => q_212.elim fun u_194 q_213 => q_213.elim fun l_195 q_214 => q_214.elim fun u_196 q_215 => q_215.elim fun l_197 q_216 => q_216.elim fun u_198 q_217 => q_217.elim fun x_199 q_218 => q_218.elim fun x_200 q_219 => q_219.elim fun x_201 q_220 => q_220.elim fun x_202 e_221 => ?_
              clear h_185 q_203 q_204 q_205 q_206 q_207 q_208 q_209 q_211 q_212 q_213 q_214 q_215 q_216 q_217 q_218 q_219 q_220
              subst e_210
              subst e_221
              have go_222 := mp_go_w x_201 (by decide) l_y4 go_180
              have k_223 := x_202.2.1
              let w6_ : va_W := [(mp_arI E a2 0 5 f1), (mp_arI E a3 0 25 f2), (mp_arI E a4 0 180 f3), (mp_arI E a5 3 3000 f4), (mp_arI E a6 0 90 f5), (mp_arI E a7 0 300 f6), (mp_ob10 a0 y0 a8 a9 a10 a11 a1 y1 r_186 r_187 r_188 r_189 r_190 r_191 r_192 y9 y10 a2 a3 a4 a5 a6 a7 a12 a13 y11 a14 a15 a16 a17 y12 y13 y14 a18 a19 y15 y16 a20 a21 a22 y17 y18 y19 y20 a23 a24 a25 y21), (mp_arI E a1 1 1600 f0)]
              show mp_W E X 5 111 [(2, .int i_4), (1, .int i_5), (0, .ref a0)] [] w6_ 0 0
              refine mp_run mp_k_cX10_line_ok hF mp_tabX10_ok [mp_i (.aload_n 0)] (by decide +kernel) ?_
              show mp_W E X 5 112 [(2, .int i_4), (1, .int i_5), (0, .ref a0)] [.ref a0] w6_ 0 0
              refine mp_callV hF (As := []) (rest := []) (wr := [(mp_arI E a2 0 5 f1), (mp_arI E a4 0 180 f3), (mp_arI E a5 3 3000 f4), (mp_arI E a6 0 90 f5), (mp_arI E a7 0 300 f6)]) (bX10_isleHere_25 E a0 a1 a3 a8 a9 a10 a11 a2 a4 a5 a6 a7 a12 a13 a14 a15 a16 a17 a18 a19 a20 a21 a22 a23 a24 a25 f0 f2 y0 y1 r_186 r_187 r_188 r_189 r_190 r_191 r_192 y9 y10 y11 y12 y13 y14 y15 y16 y17 y18 y19 y20 y21 p0 p1 p2 p3 p4 l_y1 u_y1 l_193 u_194 l_195 u_196 l_197 u_198 l_y11 u_y11 l_y12 u_y12 l_y13 u_y13 (by omega) (by assumption)) mp_lkX10_178 6 rfl [6, 7, 1] [0, 2, 3, 4, 5] rfl rfl rfl rfl rfl ⟨(Nat.le_of_ble_eq_true rfl), (Nat.le_of_ble_eq_true rfl), (Nat.le_of_ble_eq_true rfl), (Nat.le_of_ble_eq_true rfl)⟩ (Nat.le_of_ble_eq_true rfl) (by first | exact mp_fd_ok mp_k_cX10_line_ok (by decide +kernel) | decide +kernel) (fun v_224 w_225 h_226 => ?_)
              refine h_226.elim fun r_227 q_248 => q_248.elim fun r_228 q_249 => q_249.elim fun r_229 q_250 => q_250.elim fun r_230 q_251 => q_251.elim fun r_231 q_252 => q_252.elim fun r_232 q_253 => q_253.elim fun r_233 q_254 => q_254.elim fun r_234 q_255 => q_255.elim fun e_256 q_257 => q_257.elim fun l_235 q_258 => q_258.elim fun u_236 q_259 => q_259.elim fun l_237 q_260 => q_260.elim fun u_238 q_261 => q_261.elim fun l_239 q_262 => q_262.elim fun u_240 q_263 => q_263.elim fun l_241 q_264 => q_264.elim fun u_242 q_265 => q_265.elim fun x_243 q_266 => q_266.elim fun x_244 q_267 => q_267.elim fun x_245 q_268 => q_268.elim fun x_246 q_269 => q_269.elim fun x_247 e_270 => ?_
              clear h_226 q_248 q_249 q_250 q_251 q_252 q_253 q_254 q_255 q_257 q_258 q_259 q_260 q_261 q_262 q_263 q_264 q_265 q_266 q_267 q_268 q_269
              subst e_256
              subst e_270
              have go_271 := mp_go_n x_246 (by first | rfl | omega) (by first | rfl | omega) l_197 (Or.inr (Or.inr (Or.inr (by decide)))) go_222
              have k_272 := x_247.2.1
              let w7_ : va_W := [(mp_arI E a2 0 5 f1), (mp_arI E a4 0 180 f3), (mp_arI E a5 3 3000 f4), (mp_arI E a6 0 90 f5), (mp_arI E a7 0 300 f6), (mp_ob10 a0 y0 a8 a9 a10 a11 a1 y1 r_227 r_228 r_229 r_230 r_231 r_232 r_233 y9 y10 a2 a3 a4 a5 a6 a7 a12 a13 y11 a14 a15 a16 a17 y12 y13 y14 a18 a19 y15 y16 a20 a21 a22 y17 y18 y19 y20 a23 a24 a25 y21), (mp_arI E a1 1 1600 f0), (mp_arI E a3 0 25 f2)]
              show mp_W E X 5 115 [(2, .int i_4), (1, .int i_5), (0, .ref a0)] [.int r_234] w7_ 0 0
              refine mp_run mp_k_cX10_line_ok hF mp_tabX10_ok [mp_i (.istore_n 3), mp_i (.aload_n 0)] (by decide +kernel) ?_
              show mp_W E X 5 117 [(3, .int r_234), (2, .int i_4), (1, .int i_5), (0, .ref a0)] [.ref a0] w7_ 0 0
              refine mp_callV hF (As := []) (rest := []) (wr := [(mp_arI E a2 0 5 f1), (mp_arI E a4 0 180 f3), (mp_arI E a5 3 3000 f4), (mp_arI E a6 0 90 f5), (mp_arI E a7 0 300 f6), (mp_arI E a3 0 25 f2)]) (bX10_moonHere_28 E a0 a1 a8 a9 a10 a11 a2 a3 a4 a5 a6 a7 a12 a13 a14 a15 a16 a17 a18 a19 a20 a21 a22 a23 a24 a25 f0 y0 y1 r_227 r_228 r_229 r_230 r_231 r_232 r_233 y9 y10 y11 y12 y13 y14 y15 y16 y17 y18 y19 y20 y21 l_y1 u_y1 l_235 u_236 l_237 u_238 l_239 u_240 l_y11 u_y11 l_y12 u_y12 l_y13 u_y13 (by omega) (by assumption)) mp_lkX10_197 5 rfl [5, 6] [0, 1, 2, 3, 4, 7] rfl rfl rfl rfl rfl ⟨(Nat.le_of_ble_eq_true rfl), (Nat.le_of_ble_eq_true rfl), (Nat.le_of_ble_eq_true rfl), (Nat.le_of_ble_eq_true rfl)⟩ (Nat.le_of_ble_eq_true rfl) (by first | exact mp_fd_ok mp_k_cX10_line_ok (by decide +kernel) | decide +kernel) (fun v_273 w_274 h_275 => ?_)
              refine h_275.elim fun r_276 q_297 => q_297.elim fun r_277 q_298 => q_298.elim fun r_278 q_299 => q_299.elim fun r_279 q_300 => q_300.elim fun r_280 q_301 => q_301.elim fun r_281 q_302 => q_302.elim fun r_282 q_303 => q_303.elim fun r_283 q_304 => q_304.elim fun e_305 q_306 => q_306.elim fun l_284 q_307 => q_307.elim fun u_285 q_308 => q_308.elim fun l_286 q_309 => q_309.elim fun u_287 q_310 => q_310.elim fun l_288 q_311 => q_311.elim fun u_289 q_312 => q_312.elim fun l_290 q_313 => q_313.elim fun u_291 q_314 => q_314.elim fun x_292 q_315 => q_315.elim fun x_293 q_316 => q_316.elim fun x_294 q_317 => q_317.elim fun x_295 q_318 => q_318.elim fun x_296 e_319 => ?_
              clear h_275 q_297 q_298 q_299 q_300 q_301 q_302 q_303 q_304 q_306 q_307 q_308 q_309 q_310 q_311 q_312 q_313 q_314 q_315 q_316 q_317 q_318
              subst e_305
              subst e_319
              have go_320 := mp_go_n x_295 (by first | rfl | omega) (by first | rfl | omega) l_239 (Or.inr (Or.inr (Or.inr (by decide)))) go_271
              have k_321 := x_296.2.1
              let w8_ : va_W := [(mp_arI E a2 0 5 f1), (mp_arI E a4 0 180 f3), (mp_arI E a5 3 3000 f4), (mp_arI E a6 0 90 f5), (mp_arI E a7 0 300 f6), (mp_arI E a3 0 25 f2), (mp_ob10 a0 y0 a8 a9 a10 a11 a1 y1 r_276 r_277 r_278 r_279 r_280 r_281 r_282 y9 y10 a2 a3 a4 a5 a6 a7 a12 a13 y11 a14 a15 a16 a17 y12 y13 y14 a18 a19 y15 y16 a20 a21 a22 y17 y18 y19 y20 a23 a24 a25 y21), (mp_arI E a1 1 1600 f0)]
              show mp_W E X 5 120 [(3, .int r_234), (2, .int i_4), (1, .int i_5), (0, .ref a0)] [.int r_283] w8_ 0 0
              refine mp_run mp_k_cX10_line_ok hF mp_tabX10_ok [mp_i (.istore 4), mp_i (.aload_n 0)] (by decide +kernel) ?_
              show mp_W E X 5 123 [(4, .int r_283), (3, .int r_234), (2, .int i_4), (1, .int i_5), (0, .ref a0)] [.ref a0] w8_ 0 0
              refine mp_callV hF (As := []) (rest := []) (wr := [(mp_arI E a2 0 5 f1), (mp_arI E a4 0 180 f3), (mp_arI E a5 3 3000 f4), (mp_arI E a6 0 90 f5), (mp_arI E a7 0 300 f6), (mp_arI E a3 0 25 f2), (mp_arI E a1 1 1600 f0)]) (bX10_isGood_14 E a0 a8 a9 a10 a11 a1 a2 a3 a4 a5 a6 a7 a12 a13 a14 a15 a16 a17 a18 a19 a20 a21 a22 a23 a24 a25 y0 y1 r_276 r_277 r_278 r_279 r_280 r_281 r_282 y9 y10 y11 y12 y13 y14 y15 y16 y17 y18 y19 y20 y21 l_y1 u_y1 l_284 u_285 l_286 u_287 l_288 u_289 l_y11 u_y11 l_y12 u_y12 l_y13 u_y13) mp_lkX10_189 6 rfl [6] [0, 1, 2, 3, 4, 5, 7] rfl rfl rfl rfl rfl ⟨(Nat.le_of_ble_eq_true rfl), (Nat.le_of_ble_eq_true rfl), (Nat.le_of_ble_eq_true rfl), (Nat.le_of_ble_eq_true rfl)⟩ (Nat.le_of_ble_eq_true rfl) (by first | exact mp_fd_ok mp_k_cX10_line_ok (by decide +kernel) | decide +kernel) (fun v_322 w_323 h_324 => ?_)
              rcases h_324 with ⟨rfl, c_325, x_326, rfl⟩ | ⟨rfl, c_327, x_328, rfl⟩
              · skip
                have c_325 : r_281.toInt ≠ 0 := c_325
                let w9_ : va_W := [(mp_arI E a2 0 5 f1), (mp_arI E a4 0 180 f3), (mp_arI E a5 3 3000 f4), (mp_arI E a6 0 90 f5), (mp_arI E a7 0 300 f6), (mp_arI E a3 0 25 f2), (mp_arI E a1 1 1600 f0), (mp_ob10 a0 y0 a8 a9 a10 a11 a1 y1 r_276 r_277 r_278 r_279 r_280 r_281 r_282 y9 y10 a2 a3 a4 a5 a6 a7 a12 a13 y11 a14 a15 a16 a17 y12 y13 y14 a18 a19 y15 y16 a20 a21 a22 y17 y18 y19 y20 a23 a24 a25 y21)]
                show mp_W E X 5 126 [(4, .int r_283), (3, .int r_234), (2, .int i_4), (1, .int i_5), (0, .ref a0)] [.int 0] w9_ 0 0
                refine mp_run mp_k_cX10_line_ok hF mp_tabX10_ok [mp_h (.ifCond .eq 20) [146]] (by decide +kernel) ?_
                refine And.intro (fun _ => ?_) (fun c_329 => absurd c_329 (by decide))
                show mp_W E X 5 146 [(4, .int r_283), (3, .int r_234), (2, .int i_4), (1, .int i_5), (0, .ref a0)] [] w9_ 0 0
                exact mp_vret hF hQ rfl (Nat.le_of_ble_eq_true rfl) (Nat.le_of_ble_eq_true rfl) [7, 6, 0, 5, 1, 2, 3, 4] (w' := [(mp_ob10 a0 y0 a8 a9 a10 a11 a1 y1 r_276 r_277 r_278 r_279 r_280 r_281 r_282 y9 y10 a2 a3 a4 a5 a6 a7 a12 a13 y11 a14 a15 a16 a17 y12 y13 y14 a18 a19 y15 y16 a20 a21 a22 y17 y18 y19 y20 a23 a24 a25 y21), (mp_arI E a1 1 1600 f0), (mp_arI E a2 0 5 f1), (mp_arI E a3 0 25 f2), (mp_arI E a4 0 180 f3), (mp_arI E a5 3 3000 f4), (mp_arI E a6 0 90 f5), (mp_arI E a7 0 300 f6)]) rfl rfl ⟨r_276, r_277, r_278, r_279, r_280, r_281, r_282, f2, f3, f4, f5, f6, rfl, l_284, u_285, l_286, u_287, l_288, u_289, p0, p1, p2, p3, p4, mp_keep_rfl, p5, mp_keep_rfl, p6, mp_keep_rfl, p7, p8, mp_keep_rfl, p9, p10, p11, p12, mp_keep_rfl, (by first | omega | decide), (by first | omega | decide), (by first | omega | decide), (by first | assumption | exact Or.inl (by omega) | exact Or.inr (mp_prmo_eq (by assumption) (by omega))), (mp_go_any go_320 (by omega)), x_296, rfl⟩ (by first | exact mp_fd_ok mp_k_cX10_line_ok (by decide +kernel) | decide +kernel)
              · skip
                have c_327 : r_281.toInt = 0 := c_327
                let w10_ : va_W := [(mp_arI E a2 0 5 f1), (mp_arI E a4 0 180 f3), (mp_arI E a5 3 3000 f4), (mp_arI E a6 0 90 f5), (mp_arI E a7 0 300 f6), (mp_arI E a3 0 25 f2), (mp_arI E a1 1 1600 f0), (mp_ob10 a0 y0 a8 a9 a10 a11 a1 y1 r_276 r_277 r_278 r_279 r_280 r_281 r_282 y9 y10 a2 a3 a4 a5 a6 a7 a12 a13 y11 a14 a15 a16 a17 y12 y13 y14 a18 a19 y15 y16 a20 a21 a22 y17 y18 y19 y20 a23 a24 a25 y21)]
                show mp_W E X 5 126 [(4, .int r_283), (3, .int r_234), (2, .int i_4), (1, .int i_5), (0, .ref a0)] [.int 1] w10_ 0 0
                refine mp_run mp_k_cX10_line_ok hF mp_tabX10_ok [mp_h (.ifCond .eq 20) [146]] (by decide +kernel) ?_
                refine And.intro (fun c_330 => absurd c_330 (by decide)) (fun _ => ?_)
                show mp_W E X 5 129 [(4, .int r_283), (3, .int r_234), (2, .int i_4), (1, .int i_5), (0, .ref a0)] [] w10_ 0 0
                refine mp_run mp_k_cX10_line_ok hF mp_tabX10_ok [mp_i (.aload_n 0), mp_h (.getfield 40) [19, 7], mp_c (.sipush 2400) 2400, mp_c (.bipush 100) 100, mp_i (.iload_n 3), mp_i .imul, mp_i .iadd, mp_i (.iload 4), mp_i .iadd, mp_c (.iconst 1) 1, mp_h .bastore [2, 0]] (by decide +kernel) ?_
                refine And.intro rfl (And.intro rfl ?_)
                intro z_331 h_332
                have e_333 : z_331.toInt = 100 * r_234.toInt := mp_mul (a := 100) (b := r_234.toInt) h_332 (by decide) rfl (by omega) (by omega)
                intro z_334 h_335
                have e_336 : z_334.toInt = 2400 + z_331.toInt := mp_add (a := 2400) (b := z_331.toInt) h_335 (by decide) rfl (by omega) (by omega)
                intro z_337 h_338
                have e_339 : z_337.toInt = z_334.toInt + r_283.toInt := mp_add (a := z_334.toInt) (b := r_283.toInt) h_338 rfl rfl (by omega) (by omega)
                refine And.intro rfl (And.intro rfl (And.intro (vp_in_iff.mpr (by omega)) ?_))
                intro g_340 h_341
                have h_342 : g_340 = upd f4 z_337.toNatClampNeg 1 := h_341.trans (congrArg (upd _ _) (by decide))
                have p_343 : mp_all g_340 3000 0 1 := mp_all_st h_342 p6 (by decide) (by decide)
                have p_344 : mp_keep g_340 f4 2400 := mp_keep_st h_342 mp_keep_rfl (by omega)
                let w11_ : va_W := [(mp_arI E a2 0 5 f1), (mp_arI E a4 0 180 f3), (mp_arI E a5 3 3000 g_340), (mp_arI E a6 0 90 f5), (mp_arI E a7 0 300 f6), (mp_arI E a3 0 25 f2), (mp_arI E a1 1 1600 f0), (mp_ob10 a0 y0 a8 a9 a10 a11 a1 y1 r_276 r_277 r_278 r_279 r_280 r_281 r_282 y9 y10 a2 a3 a4 a5 a6 a7 a12 a13 y11 a14 a15 a16 a17 y12 y13 y14 a18 a19 y15 y16 a20 a21 a22 y17 y18 y19 y20 a23 a24 a25 y21)]
                show mp_W E X 5 146 [(4, .int r_283), (3, .int r_234), (2, .int i_4), (1, .int i_5), (0, .ref a0)] [] w11_ 0 0
                exact mp_vret hF hQ rfl (Nat.le_of_ble_eq_true rfl) (Nat.le_of_ble_eq_true rfl) [7, 6, 0, 5, 1, 2, 3, 4] (w' := [(mp_ob10 a0 y0 a8 a9 a10 a11 a1 y1 r_276 r_277 r_278 r_279 r_280 r_281 r_282 y9 y10 a2 a3 a4 a5 a6 a7 a12 a13 y11 a14 a15 a16 a17 y12 y13 y14 a18 a19 y15 y16 a20 a21 a22 y17 y18 y19 y20 a23 a24 a25 y21), (mp_arI E a1 1 1600 f0), (mp_arI E a2 0 5 f1), (mp_arI E a3 0 25 f2), (mp_arI E a4 0 180 f3), (mp_arI E a5 3 3000 g_340), (mp_arI E a6 0 90 f5), (mp_arI E a7 0 300 f6)]) rfl rfl ⟨r_276, r_277, r_278, r_279, r_280, r_281, r_282, f2, f3, g_340, f5, f6, rfl, l_284, u_285, l_286, u_287, l_288, u_289, p0, p1, p2, p3, p4, mp_keep_rfl, p5, mp_keep_rfl, p_343, p_344, p7, p8, mp_keep_rfl, p9, p10, p11, p12, mp_keep_rfl, (by first | omega | decide), (by first | omega | decide), (by first | omega | decide), (by first | assumption | exact Or.inl (by omega) | exact Or.inr (mp_prmo_eq (by assumption) (by omega))), (mp_go_eq go_320 (Or.inr (congrArg (mp_aft _ _) (mp_rs4 rfl (mp_sc5 (by first | omega | (dsimp only <;> omega) | decide) (by first | omega | (dsimp only <;> omega) | decide) (by first | omega | (dsimp only <;> omega) | decide) (by first | omega | (dsimp only <;> omega) | decide) (by first | omega | (dsimp only <;> omega) | decide)) (mp_om_shut (h_342.trans (congrArg (upd _ _) (by decide))) (by first | omega | (dsimp only <;> omega) | decide) (by first | omega | (dsimp only <;> omega) | decide) (by first | omega | (dsimp only <;> omega) | decide)))))), x_296, rfl⟩ (by first | exact mp_fd_ok mp_k_cX10_line_ok (by decide +kernel) | decide +kernel)
            · skip
              refine q_173.elim fun r_149 q_345 => q_345.elim fun r_150 q_346 => q_346.elim fun r_151 q_347 => q_347.elim fun r_152 q_348 => q_348.elim fun r_153 q_349 => q_349.elim fun e_350 q_351 => q_351.elim fun c_154 q_352 => q_352.elim fun c_155 q_353 => q_353.elim fun c_156 q_354 => q_354.elim fun l_157 q_355 => q_355.elim fun u_158 q_356 => q_356.elim fun l_159 q_357 => q_357.elim fun u_160 q_358 => q_358.elim fun l_161 q_359 => q_359.elim fun u_162 q_360 => q_360.elim fun l_163 q_361 => q_361.elim fun u_164 q_362 => q_362.elim fun l_165 q_363 => q_363.elim fun u_166 q_364 => q_364.elim fun x_167 q_365 => q_365.elim fun x_168 q_366 => q_366.elim fun x_169 q_367 => q_367.elim fun x_170 q_368 => q_368.elim fun x_171 e_369 => ?_
              clear h_144 q_173 q_345 q_346 q_347 q_348 q_349 q_351 q_352 q_353 q_354 q_355 q_356 q_357 q_358 q_359 q_360 q_361 q_362 q_363 q_364 q_365 q_366 q_367 q_368
              subst e_350
              subst e_369
              have c_154 : i_15.toInt = 0 := c_154
              have c_155 : y3.toInt = 1 := c_155
              have c_156 : y6.toInt = 13987 := c_156
              rw [show (13987 : Int64).toInt = 13987 from by decide] at x_169
              have go_370 := mp_go_sea x_22 x_169.2 x_170
              have k_371 := x_171.2.1
              let w12_ : va_W := [(mp_arI E a2 0 5 f1), (mp_arI E a3 0 25 f2), (mp_arI E a4 0 180 f3), (mp_arI E a5 3 3000 f4), (mp_arI E a6 0 90 f5), (mp_arI E a7 0 300 f6), (mp_ob10 a0 y0 a8 a9 a10 a11 a1 y1 r_149 r_150 r_151 r_152 r_153 i_15 i_16 y9 y10 a2 a3 a4 a5 a6 a7 a12 a13 y11 a14 a15 a16 a17 y12 y13 y14 a18 a19 y15 y16 a20 a21 a22 y17 y18 y19 y20 a23 a24 a25 y21), (mp_arI E a1 1 1600 f0)]
              show mp_W E X 5 94 [(2, .int i_4), (1, .int i_5), (0, .ref a0)] [.int 1] w12_ 0 0
              refine mp_run mp_k_cX10_line_ok hF mp_tabX10_ok [mp_h (.ifCond .eq 10) [104]] (by decide +kernel) ?_
              refine And.intro (fun c_372 => absurd c_372 (by decide)) (fun _ => ?_)
              show mp_W E X 5 97 [(2, .int i_4), (1, .int i_5), (0, .ref a0)] [] w12_ 0 0
              refine mp_run mp_k_cX10_line_ok hF mp_tabX10_ok [mp_i (.aload_n 0)] (by decide +kernel) ?_
              show mp_W E X 5 98 [(2, .int i_4), (1, .int i_5), (0, .ref a0)] [.ref a0] w12_ 0 0
              refine mp_callV hF (As := []) (rest := []) (wr := []) (bX10_seaLine_32 E a0 a1 a2 a3 a4 a5 a6 a7 a8 a9 a10 a11 a12 a13 a14 a15 a16 a17 a18 a19 a20 a21 a22 a23 a24 a25 f0 f1 f2 f3 f4 f5 f6 y0 y1 r_149 r_150 r_151 r_152 r_153 i_15 i_16 y9 y10 y11 y12 y13 y14 y15 y16 y17 y18 y19 y20 y21 p0 p1 p2 p3 p4 p5 p6 p7 p8 p9 p10 p11 p12 l_y1 u_y1 l_157 u_158 l_159 u_160 l_161 u_162 l_y11 u_y11 l_y12 u_y12 l_y13 u_y13 (by omega) (by assumption) (by omega)) mp_lkX10_223 6 rfl [6, 7, 0, 1, 2, 3, 4, 5] [] rfl rfl rfl rfl rfl ⟨(Nat.le_of_ble_eq_true rfl), (Nat.le_of_ble_eq_true rfl), (Nat.le_of_ble_eq_true rfl), (Nat.le_of_ble_eq_true rfl)⟩ (Nat.le_of_ble_eq_true rfl) (by first | exact mp_fd_ok mp_k_cX10_line_ok (by decide +kernel) | decide +kernel) (fun v_373 w_374 h_375 => ?_)
              refine h_375.elim fun r_376 q_396 => q_396.elim fun r_377 q_397 => q_397.elim fun r_378 q_398 => q_398.elim fun r_379 q_399 => q_399.elim fun r_380 q_400 => q_400.elim fun r_381 q_401 => q_401.elim fun r_382 q_402 => q_402.elim fun g_383 q_403 => q_403.elim fun e_404 q_405 => q_405.elim fun l_384 q_406 => q_406.elim fun u_385 q_407 => q_407.elim fun l_386 q_408 => q_408.elim fun u_387 q_409 => q_409.elim fun l_388 q_410 => q_410.elim fun u_389 q_411 => q_411.elim fun p_390 q_412 => q_412.elim fun p_391 q_413 => q_413.elim fun x_392 q_414 => q_414.elim fun x_393 q_415 => q_415.elim fun x_394 q_416 => q_416.elim fun x_395 e_417 => ?_
              clear h_375 q_396 q_397 q_398 q_399 q_400 q_401 q_402 q_403 q_405 q_406 q_407 q_408 q_409 q_410 q_411 q_412 q_413 q_414 q_415 q_416
              subst e_404
              subst e_417
              have k_418 : mp_keep g_383 f3 144 := mp_keep_trans p_391 mp_keep_rfl
              have go_419 := mp_go_tr go_370 (by first | omega | (dsimp only <;> omega) | decide) x_394
              have k_420 := x_395.2.1
              let w13_ : va_W := [(mp_ob10 a0 y0 a8 a9 a10 a11 a1 y1 r_376 r_377 r_378 r_379 r_380 r_381 r_382 y9 y10 a2 a3 a4 a5 a6 a7 a12 a13 y11 a14 a15 a16 a17 y12 y13 y14 a18 a19 y15 y16 a20 a21 a22 y17 y18 y19 y20 a23 a24 a25 y21), (mp_arI E a1 1 1600 f0), (mp_arI E a2 0 5 f1), (mp_arI E a3 0 25 f2), (mp_arI E a4 0 180 g_383), (mp_arI E a5 3 3000 f4), (mp_arI E a6 0 90 f5), (mp_arI E a7 0 300 f6)]
              show mp_W E X 5 101 [(2, .int i_4), (1, .int i_5), (0, .ref a0)] [] w13_ 0 0
              refine mp_run mp_k_cX10_line_ok hF mp_tabX10_ok [mp_h (.goto 45) [146]] (by decide +kernel) ?_
              show mp_W E X 5 146 [(2, .int i_4), (1, .int i_5), (0, .ref a0)] [] w13_ 0 0
              exact mp_vret hF hQ rfl (Nat.le_of_ble_eq_true rfl) (Nat.le_of_ble_eq_true rfl) [0, 1, 2, 3, 4, 5, 6, 7] (w' := w13_) rfl rfl ⟨r_376, r_377, r_378, r_379, r_380, r_381, r_382, f2, g_383, f4, f5, f6, rfl, l_384, u_385, l_386, u_387, l_388, u_389, p0, p1, p2, p3, p4, mp_keep_rfl, p_390, k_418, p6, mp_keep_rfl, p7, p8, mp_keep_rfl, p9, p10, p11, p12, mp_keep_rfl, (by first | omega | decide), (by first | omega | decide), (by first | omega | decide), (by first | assumption | exact Or.inl (by omega) | exact Or.inr (mp_prmo_eq (by assumption) (by omega))), go_419, x_395, rfl⟩ (by first | exact mp_fd_ok mp_k_cX10_line_ok (by decide +kernel) | decide +kernel)
          · have c_141 : i_4.toInt ≠ 0 := c_141
            show mp_W E X 5 65 [(2, .int i_4), (1, .int i_5), (0, .ref a0)] [] w2_ 0 0
            refine mp_run mp_k_cX10_line_ok hF mp_tabX10_ok [mp_i (.aload_n 0)] (by decide +kernel) ?_
            show mp_W E X 5 66 [(2, .int i_4), (1, .int i_5), (0, .ref a0)] [.ref a0] w2_ 0 0
            refine mp_callV hF (As := []) (rest := []) (wr := [(mp_arI E a2 0 5 f1), (mp_arI E a3 0 25 f2), (mp_arI E a4 0 180 f3), (mp_arI E a5 3 3000 f4), (mp_arI E a6 0 90 f5), (mp_arI E a7 0 300 f6)]) (bX10_next_12 E a0 a1 a8 a9 a10 a11 a2 a3 a4 a5 a6 a7 a12 a13 a14 a15 a16 a17 a18 a19 a20 a21 a22 a23 a24 a25 f0 y0 y1 y2 y3 y4 y5 y6 i_15 i_16 y9 y10 y11 y12 y13 y14 y15 y16 y17 y18 y19 y20 y21 l_y1 u_y1 l_y2 u_y2 l_y3 u_y3 l_y4 u_y4 l_y11 u_y11 l_y12 u_y12 l_y13 u_y13 (by first | omega | (show y2.toInt ≤ y1.toInt; omega))) mp_lkX10_154 0 rfl [0, 1] [2, 3, 4, 5, 6, 7] rfl rfl rfl rfl rfl ⟨(Nat.le_of_ble_eq_true rfl), (Nat.le_of_ble_eq_true rfl), (Nat.le_of_ble_eq_true rfl), (Nat.le_of_ble_eq_true rfl)⟩ (Nat.le_of_ble_eq_true rfl) (by first | exact mp_fd_ok mp_k_cX10_line_ok (by decide +kernel) | decide +kernel) (fun v_421 w_422 h_423 => ?_)
            refine h_423.elim fun r_424 q_443 => q_443.elim fun r_425 q_444 => q_444.elim fun r_426 q_445 => q_445.elim fun r_427 q_446 => q_446.elim fun r_428 q_447 => q_447.elim fun e_448 q_449 => q_449.elim fun l_429 q_450 => q_450.elim fun u_430 q_451 => q_451.elim fun l_431 q_452 => q_452.elim fun u_432 q_453 => q_453.elim fun l_433 q_454 => q_454.elim fun u_434 q_455 => q_455.elim fun l_435 q_456 => q_456.elim fun u_436 q_457 => q_457.elim fun l_437 q_458 => q_458.elim fun u_438 q_459 => q_459.elim fun x_439 q_460 => q_460.elim fun x_440 q_461 => q_461.elim fun x_441 q_462 => q_462.elim fun x_442 e_463 => ?_
            clear h_423 q_443 q_444 q_445 q_446 q_447 q_449 q_450 q_451 q_452 q_453 q_454 q_455 q_456 q_457 q_458 q_459 q_460 q_461 q_462
            subst e_448
            subst e_463
            have nx_464 : r_426.toInt = ((mp_NX f0 (y1.toInt).toNat (y4.toInt).toNat : Nat) : Int) := (by have k9 := x_441; unfold mp_NX; rw [← Int.toNat_natCast (mp_TE _ _ _), ← q2.2.2.1]; exact k9)
            have k_465 := x_442.2.1
            let w14_ : va_W := [(mp_arI E a2 0 5 f1), (mp_arI E a3 0 25 f2), (mp_arI E a4 0 180 f3), (mp_arI E a5 3 3000 f4), (mp_arI E a6 0 90 f5), (mp_arI E a7 0 300 f6), (mp_ob10 a0 y0 a8 a9 a10 a11 a1 y1 r_424 r_425 r_426 r_427 r_428 i_15 i_16 y9 y10 a2 a3 a4 a5 a6 a7 a12 a13 y11 a14 a15 a16 a17 y12 y13 y14 a18 a19 y15 y16 a20 a21 a22 y17 y18 y19 y20 a23 a24 a25 y21), (mp_arI E a1 1 1600 f0)]
            show mp_W E X 5 69 [(2, .int i_4), (1, .int i_5), (0, .ref a0)] [] w14_ 0 0
            refine mp_run mp_k_cX10_line_ok hF mp_tabX10_ok [mp_i (.iload_n 1), mp_h (.ifCond .eq 10) [80]] (by decide +kernel) ?_
            refine And.intro (fun c_466 => ?_) (fun c_466 => ?_)
            · have c_466 : i_5.toInt = 0 := (congrArg Int32.toInt c_466)
              show mp_W E X 5 80 [(2, .int i_4), (1, .int i_5), (0, .ref a0)] [] w14_ 0 0
              refine mp_run mp_k_cX10_line_ok hF mp_tabX10_ok [mp_i (.aload_n 0)] (by decide +kernel) ?_
              show mp_W E X 5 81 [(2, .int i_4), (1, .int i_5), (0, .ref a0)] [.ref a0] w14_ 0 0
              refine mp_callV hF (As := []) (rest := []) (wr := []) (bX10_promiseLine_40 E a0 a1 a2 a3 a4 a5 a6 a7 a8 a9 a10 a11 a12 a13 a14 a15 a16 a17 a18 a19 a20 a21 a22 a23 a24 a25 f0 f1 f2 f3 f4 f5 f6 y0 y1 r_424 r_425 r_426 r_427 r_428 i_15 i_16 y9 y10 y11 y12 y13 y14 y15 y16 y17 y18 y19 y20 y21 p0 p1 p2 p3 p4 p5 p6 p7 p8 p9 p10 p11 p12 l_y1 u_y1 l_429 u_430 l_431 u_432 l_433 u_434 l_y11 u_y11 l_y12 u_y12 l_y13 u_y13 (by omega) (by omega) (by assumption) (by assumption) (by omega)) mp_lkX10_218 6 rfl [6, 7, 0, 1, 2, 3, 4, 5] [] rfl rfl rfl rfl rfl ⟨(Nat.le_of_ble_eq_true rfl), (Nat.le_of_ble_eq_true rfl), (Nat.le_of_ble_eq_true rfl), (Nat.le_of_ble_eq_true rfl)⟩ (Nat.le_of_ble_eq_true rfl) (by first | exact mp_fd_ok mp_k_cX10_line_ok (by decide +kernel) | decide +kernel) (fun v_467 w_468 h_469 => ?_)
              refine h_469.elim fun r_470 q_502 => q_502.elim fun r_471 q_503 => q_503.elim fun r_472 q_504 => q_504.elim fun r_473 q_505 => q_505.elim fun r_474 q_506 => q_506.elim fun r_475 q_507 => q_507.elim fun r_476 q_508 => q_508.elim fun g_477 q_509 => q_509.elim fun g_478 q_510 => q_510.elim fun e_511 q_512 => q_512.elim fun l_479 q_513 => q_513.elim fun u_480 q_514 => q_514.elim fun l_481 q_515 => q_515.elim fun u_482 q_516 => q_516.elim fun l_483 q_517 => q_517.elim fun u_484 q_518 => q_518.elim fun p_485 q_519 => q_519.elim fun p_486 q_520 => q_520.elim fun p_487 q_521 => q_521.elim fun p_488 q_522 => q_522.elim fun p_489 q_523 => q_523.elim fun p_490 q_524 => q_524.elim fun p_491 q_525 => q_525.elim fun p_492 q_526 => q_526.elim fun p_493 q_527 => q_527.elim fun p_494 q_528 => q_528.elim fun p_495 q_529 => q_529.elim fun x_496 q_530 => q_530.elim fun x_497 q_531 => q_531.elim fun x_498 q_532 => q_532.elim fun x_499 q_533 => q_533.elim fun x_500 q_534 => q_534.elim fun x_501 e_535 => ?_
              clear h_469 q_502 q_503 q_504 q_505 q_506 q_507 q_508 q_509 q_510 q_512 q_513 q_514 q_515 q_516 q_517 q_518 q_519 q_520 q_521 q_522 q_523 q_524 q_525 q_526 q_527 q_528 q_529 q_530 q_531 q_532 q_533 q_534
              subst e_511
              subst e_535
              have k_536 : mp_keep g_477 f2 20 := mp_keep_trans p_490 mp_keep_rfl
              have k_537 : mp_keep g_478 f6 240 := mp_keep_trans p_495 mp_keep_rfl
              have go_538 := mp_go_tr (mp_go_pro x_22 (by first | omega | (dsimp only <;> omega) | decide) (by first | omega | (dsimp only <;> omega)) nx_464) (by first | omega | (dsimp only <;> omega) | decide) x_500
              have k_539 := x_501.2.1
              let w15_ : va_W := [(mp_ob10 a0 y0 a8 a9 a10 a11 a1 y1 r_470 r_471 r_472 r_473 r_474 r_475 r_476 y9 y10 a2 a3 a4 a5 a6 a7 a12 a13 y11 a14 a15 a16 a17 y12 y13 y14 a18 a19 y15 y16 a20 a21 a22 y17 y18 y19 y20 a23 a24 a25 y21), (mp_arI E a1 1 1600 f0), (mp_arI E a2 0 5 f1), (mp_arI E a3 0 25 g_477), (mp_arI E a4 0 180 f3), (mp_arI E a5 3 3000 f4), (mp_arI E a6 0 90 f5), (mp_arI E a7 0 300 g_478)]
              show mp_W E X 5 84 [(2, .int i_4), (1, .int i_5), (0, .ref a0)] [] w15_ 0 0
              refine mp_run mp_k_cX10_line_ok hF mp_tabX10_ok [mp_h (.goto 62) [146]] (by decide +kernel) ?_
              show mp_W E X 5 146 [(2, .int i_4), (1, .int i_5), (0, .ref a0)] [] w15_ 0 0
              exact mp_vret hF hQ rfl (Nat.le_of_ble_eq_true rfl) (Nat.le_of_ble_eq_true rfl) [0, 1, 2, 3, 4, 5, 6, 7] (w' := w15_) rfl rfl ⟨r_470, r_471, r_472, r_473, r_474, r_475, r_476, g_477, f3, f4, f5, g_478, rfl, l_479, u_480, l_481, u_482, l_483, u_484, p_485, p_486, p_487, p_488, p_489, k_536, p5, mp_keep_rfl, p6, mp_keep_rfl, p7, p8, mp_keep_rfl, p_491, p_492, p_493, p_494, k_537, (by first | omega | decide), (by first | omega | decide), (by first | omega | decide), (by first | assumption | exact Or.inl (by omega) | exact Or.inr (mp_prmo_eq (by assumption) (by omega))), go_538, x_501, rfl⟩ (by first | exact mp_fd_ok mp_k_cX10_line_ok (by decide +kernel) | decide +kernel)
            · have c_466 : i_5.toInt ≠ 0 := c_466
              exfalso; omega
      · have c_24 : i_15.toInt ≠ 0 := c_24
        let w16_ : va_W := [(mp_ob10 a0 y0 a8 a9 a10 a11 a1 y1 y2 y3 y4 y5 y6 i_15 i_16 y9 y10 a2 a3 a4 a5 a6 a7 a12 a13 y11 a14 a15 a16 a17 y12 y13 y14 a18 a19 y15 y16 a20 a21 a22 y17 y18 y19 y20 a23 a24 a25 y21), (mp_arI E a1 1 1600 f0), (mp_arI E a2 0 5 f1), (mp_arI E a3 0 25 f2), (mp_arI E a4 0 180 f3), (mp_arI E a5 3 3000 f4), (mp_arI E a6 0 90 f5), (mp_arI E a7 0 300 f6)]
        show mp_W E X 5 56 [(2, .int i_4), (1, .int i_5), (0, .ref a0)] [] w16_ 0 0
        exact mp_vret hF hQ rfl (Nat.le_of_ble_eq_true rfl) (Nat.le_of_ble_eq_true rfl) [0, 1, 2, 3, 4, 5, 6, 7] (w' := w16_) rfl rfl ⟨y2, y3, y4, y5, y6, i_15, i_16, f2, f3, f4, f5, f6, rfl, l_y2, u_y2, l_y3, u_y3, l_y4, u_y4, p0, p1, p2, p3, p4, mp_keep_rfl, p5, mp_keep_rfl, p6, mp_keep_rfl, p7, p8, mp_keep_rfl, p9, p10, p11, p12, mp_keep_rfl, (by first | omega | decide), (by first | omega | decide), (by first | omega | decide), (by first | assumption | exact Or.inl (by omega) | exact Or.inr (mp_prmo_eq (by assumption) (by omega))), (mp_go_any x_22 (by omega)), q2, rfl⟩ (by first | exact mp_fd_ok mp_k_cX10_line_ok (by decide +kernel) | decide +kernel)
    refine mp_run mp_k_cX10_line_ok hF mp_tabX10_ok [mp_i (.iload_n 1), mp_h (.ifCond .eq 13) [30]] (by decide +kernel) ?_
    refine And.intro (fun c_540 => ?_) (fun c_540 => ?_)
    · have c_540 : i_5.toInt = 0 := (congrArg Int32.toInt c_540)
      show mp_W E X 5 30 [(2, .int i_4), (1, .int i_5), (0, .ref a0)] [] w1_ 0 0
      refine mp_run mp_k_cX10_line_ok hF mp_tabX10_ok [mp_i (.iload_n 2), mp_h (.ifCond .eq 18) [49]] (by decide +kernel) ?_
      refine And.intro (fun c_541 => ?_) (fun c_541 => ?_)
      · have c_541 : i_4.toInt = 0 := (congrArg Int32.toInt c_541)
        show mp_W E X 5 49 [(2, .int i_4), (1, .int i_5), (0, .ref a0)] [] w1_ 0 0
        exact mp_sub [0, 1, 2] rfl [0, 1, 2, 3, 4, 5, 6, 7] rfl rfl (jp_23 y7 y8 (by first | omega | decide) (by first | omega | decide) (by first | omega | decide) (by first | trivial | omega) (by first | trivial | omega) go_3)
      · have c_541 : i_4.toInt ≠ 0 := c_541
        show mp_W E X 5 34 [(2, .int i_4), (1, .int i_5), (0, .ref a0)] [] w1_ 0 0
        refine mp_run mp_k_cX10_line_ok hF mp_tabX10_ok [mp_i (.aload_n 0), mp_c (.iconst 3) 3] (by decide +kernel) ?_
        show mp_W E X 5 36 [(2, .int i_4), (1, .int i_5), (0, .ref a0)] [.int 3, .ref a0] w1_ 0 0
        refine mp_callV hF (As := [.int 3]) (rest := []) (wr := [(mp_arI E a1 1 1600 f0), (mp_arI E a2 0 5 f1), (mp_arI E a4 0 180 f3), (mp_arI E a5 3 3000 f4), (mp_arI E a6 0 90 f5), (mp_arI E a7 0 300 f6)]) (bX10_hasRead_16 E a0 a3 a8 a9 a10 a11 a1 a2 a4 a5 a6 a7 a12 a13 a14 a15 a16 a17 a18 a19 a20 a21 a22 a23 a24 a25 f2 y0 y1 y2 y3 y4 y5 y6 y7 y8 y9 y10 y11 y12 y13 y14 y15 y16 y17 y18 y19 y20 y21 p0 p1 p2 p3 p4 l_y1 u_y1 l_y2 u_y2 l_y3 u_y3 l_y4 u_y4 l_y11 u_y11 l_y12 u_y12 l_y13 u_y13) mp_lkX10_174 0 rfl [0, 3] [1, 2, 4, 5, 6, 7] rfl rfl rfl rfl rfl ⟨(Nat.le_of_ble_eq_true rfl), (Nat.le_of_ble_eq_true rfl), (Nat.le_of_ble_eq_true rfl), (Nat.le_of_ble_eq_true rfl)⟩ (Nat.le_of_ble_eq_true rfl) (by first | exact mp_fd_ok mp_k_cX10_line_ok (by decide +kernel) | decide +kernel) (fun v_542 w_543 h_544 => ?_)
        refine h_544.elim fun r_545 q_549 => q_549.elim fun e_550 q_551 => q_551.elim fun l_546 q_552 => q_552.elim fun u_547 q_553 => q_553.elim fun x_548 e_554 => ?_
        clear h_544 q_549 q_551 q_552 q_553
        subst e_550
        subst e_554
        let w17_ : va_W := [(mp_arI E a1 1 1600 f0), (mp_arI E a2 0 5 f1), (mp_arI E a4 0 180 f3), (mp_arI E a5 3 3000 f4), (mp_arI E a6 0 90 f5), (mp_arI E a7 0 300 f6), (mp_ob10 a0 y0 a8 a9 a10 a11 a1 y1 y2 y3 y4 y5 y6 y7 y8 y9 y10 a2 a3 a4 a5 a6 a7 a12 a13 y11 a14 a15 a16 a17 y12 y13 y14 a18 a19 y15 y16 a20 a21 a22 y17 y18 y19 y20 a23 a24 a25 y21), (mp_arI E a3 0 25 f2)]
        show mp_W E X 5 39 [(2, .int i_4), (1, .int i_5), (0, .ref a0)] [.int r_545] w17_ 0 0
        refine mp_run mp_k_cX10_line_ok hF mp_tabX10_ok [mp_c (.bipush 10) 10, mp_h (.if_icmp .ne 8) [49]] (by decide +kernel) ?_
        refine And.intro (fun c_555 => ?_) (fun c_555 => ?_)
        · have c_555 : r_545.toInt ≠ 10 := c_555
          show mp_W E X 5 49 [(2, .int i_4), (1, .int i_5), (0, .ref a0)] [] w17_ 0 0
          exact mp_sub [0, 1, 2] rfl [6, 0, 1, 7, 2, 3, 4, 5] rfl rfl (jp_23 y7 y8 (by first | omega | decide) (by first | omega | decide) (by first | omega | decide) (by first | trivial | omega) (by first | trivial | omega) go_3)
        · have c_555 : r_545.toInt = 10 := (congrArg Int32.toInt c_555)
          show mp_W E X 5 44 [(2, .int i_4), (1, .int i_5), (0, .ref a0)] [] w17_ 0 0
          refine mp_run mp_k_cX10_line_ok hF mp_tabX10_ok [mp_i (.aload_n 0), mp_c (.iconst 3) 3] (by decide +kernel) ?_
          show mp_W E X 5 46 [(2, .int i_4), (1, .int i_5), (0, .ref a0)] [.int 3, .ref a0] w17_ 0 0
          refine mp_callV hF (As := [.int 3]) (rest := []) (wr := [(mp_arI E a1 1 1600 f0), (mp_arI E a2 0 5 f1), (mp_arI E a4 0 180 f3), (mp_arI E a5 3 3000 f4), (mp_arI E a6 0 90 f5), (mp_arI E a7 0 300 f6), (mp_arI E a3 0 25 f2)]) (bX10_fails_17 E a0 a8 a9 a10 a11 a1 a2 a3 a4 a5 a6 a7 a12 a13 a14 a15 a16 a17 a18 a19 a20 a21 a22 a23 a24 a25 y0 y1 y2 y3 y4 y5 y6 y7 y8 y9 y10 y11 y12 y13 y14 y15 y16 y17 y18 y19 y20 y21 l_y1 u_y1 l_y2 u_y2 l_y3 u_y3 l_y4 u_y4 l_y11 u_y11 l_y12 u_y12 l_y13 u_y13) mp_lkX10_160 6 rfl [6] [0, 1, 2, 3, 4, 5, 7] rfl rfl rfl rfl rfl ⟨(Nat.le_of_ble_eq_true rfl), (Nat.le_of_ble_eq_true rfl), (Nat.le_of_ble_eq_true rfl), (Nat.le_of_ble_eq_true rfl)⟩ (Nat.le_of_ble_eq_true rfl) (by first | exact mp_fd_ok mp_k_cX10_line_ok (by decide +kernel) | decide +kernel) (fun v_556 w_557 h_558 => ?_)
          refine h_558.elim fun r_559 q_563 => q_563.elim fun r_560 q_564 => q_564.elim fun e_565 q_566 => q_566.elim fun x_561 q_567 => q_567.elim fun x_562 e_568 => ?_
          clear h_558 q_563 q_564 q_566 q_567
          subst e_565
          subst e_568
          have go_569 : mp_GO (mp_aft f0 (y1.toInt).toNat (mp_gLin2 mp_gop f0 (y1.toInt).toNat (y4.toInt).toNat ((f2 20).toInt, (f2 21).toInt, (f2 22).toInt, (f2 23).toInt, (f1 4).toInt) (mp_dM f3 f4 f5 f6))) r_559.toInt r_560.toInt (mp_aft f0 (y1.toInt).toNat (mp_gLin2 mp_gop f0 (y1.toInt).toNat (y4.toInt).toNat ((f2 20).toInt, (f2 21).toInt, (f2 22).toInt, (f2 23).toInt, (f1 4).toInt) (mp_dM f3 f4 f5 f6))) := mp_go_3 go_3 (by first | omega | (dsimp only <;> omega) | decide) (by first | omega | (dsimp only <;> omega)) (by first | omega | (dsimp only <;> omega) | decide) (by first | omega | (dsimp only <;> omega) | decide) (by first | omega | (dsimp only <;> omega) | decide)
          let w18_ : va_W := [(mp_arI E a1 1 1600 f0), (mp_arI E a2 0 5 f1), (mp_arI E a4 0 180 f3), (mp_arI E a5 3 3000 f4), (mp_arI E a6 0 90 f5), (mp_arI E a7 0 300 f6), (mp_arI E a3 0 25 f2), (mp_ob10 a0 y0 a8 a9 a10 a11 a1 y1 y2 y3 y4 y5 y6 r_559 r_560 y9 y10 a2 a3 a4 a5 a6 a7 a12 a13 y11 a14 a15 a16 a17 y12 y13 y14 a18 a19 y15 y16 a20 a21 a22 y17 y18 y19 y20 a23 a24 a25 y21)]
          show mp_W E X 5 49 [(2, .int i_4), (1, .int i_5), (0, .ref a0)] [] w18_ 0 0
          exact mp_sub [0, 1, 2] rfl [7, 0, 1, 6, 2, 3, 4, 5] rfl rfl (jp_23 r_559 r_560 (by first | omega | decide) (by first | omega | decide) (by first | omega | decide) (by first | trivial | omega) (by first | trivial | omega) go_569)
    · have c_540 : i_5.toInt ≠ 0 := c_540
      show mp_W E X 5 20 [(2, .int i_4), (1, .int i_5), (0, .ref a0)] [] w1_ 0 0
      refine mp_run mp_k_cX10_line_ok hF mp_tabX10_ok [mp_i (.aload_n 0), mp_c (.iconst 2) 2] (by decide +kernel) ?_
      show mp_W E X 5 22 [(2, .int i_4), (1, .int i_5), (0, .ref a0)] [.int 2, .ref a0] w1_ 0 0
      refine mp_callV hF (As := [.int 2]) (rest := []) (wr := [(mp_arI E a1 1 1600 f0), (mp_arI E a2 0 5 f1), (mp_arI E a4 0 180 f3), (mp_arI E a5 3 3000 f4), (mp_arI E a6 0 90 f5), (mp_arI E a7 0 300 f6)]) (bX10_hasRead_18 E a0 a3 a8 a9 a10 a11 a1 a2 a4 a5 a6 a7 a12 a13 a14 a15 a16 a17 a18 a19 a20 a21 a22 a23 a24 a25 f2 y0 y1 y2 y3 y4 y5 y6 y7 y8 y9 y10 y11 y12 y13 y14 y15 y16 y17 y18 y19 y20 y21 p0 p1 p2 p3 p4 l_y1 u_y1 l_y2 u_y2 l_y3 u_y3 l_y4 u_y4 l_y11 u_y11 l_y12 u_y12 l_y13 u_y13) mp_lkX10_174 0 rfl [0, 3] [1, 2, 4, 5, 6, 7] rfl rfl rfl rfl rfl ⟨(Nat.le_of_ble_eq_true rfl), (Nat.le_of_ble_eq_true rfl), (Nat.le_of_ble_eq_true rfl), (Nat.le_of_ble_eq_true rfl)⟩ (Nat.le_of_ble_eq_true rfl) (by first | exact mp_fd_ok mp_k_cX10_line_ok (by decide +kernel) | decide +kernel) (fun v_570 w_571 h_572 => ?_)
      refine h_572.elim fun r_573 q_577 => q_577.elim fun e_578 q_579 => q_579.elim fun l_574 q_580 => q_580.elim fun u_575 q_581 => q_581.elim fun x_576 e_582 => ?_
      clear h_572 q_577 q_579 q_580 q_581
      subst e_578
      subst e_582
      let w19_ : va_W := [(mp_arI E a1 1 1600 f0), (mp_arI E a2 0 5 f1), (mp_arI E a4 0 180 f3), (mp_arI E a5 3 3000 f4), (mp_arI E a6 0 90 f5), (mp_arI E a7 0 300 f6), (mp_ob10 a0 y0 a8 a9 a10 a11 a1 y1 y2 y3 y4 y5 y6 y7 y8 y9 y10 a2 a3 a4 a5 a6 a7 a12 a13 y11 a14 a15 a16 a17 y12 y13 y14 a18 a19 y15 y16 a20 a21 a22 y17 y18 y19 y20 a23 a24 a25 y21), (mp_arI E a3 0 25 f2)]
      show mp_W E X 5 25 [(2, .int i_4), (1, .int i_5), (0, .ref a0)] [.int r_573] w19_ 0 0
      refine mp_run mp_k_cX10_line_ok hF mp_tabX10_ok [mp_c (.bipush 6) 6, mp_h (.if_icmp .eq 17) [44]] (by decide +kernel) ?_
      refine And.intro (fun c_583 => ?_) (fun c_583 => ?_)
      · have c_583 : r_573.toInt = 6 := (congrArg Int32.toInt c_583)
        show mp_W E X 5 44 [(2, .int i_4), (1, .int i_5), (0, .ref a0)] [] w19_ 0 0
        refine mp_run mp_k_cX10_line_ok hF mp_tabX10_ok [mp_i (.aload_n 0), mp_c (.iconst 3) 3] (by decide +kernel) ?_
        show mp_W E X 5 46 [(2, .int i_4), (1, .int i_5), (0, .ref a0)] [.int 3, .ref a0] w19_ 0 0
        refine mp_callV hF (As := [.int 3]) (rest := []) (wr := [(mp_arI E a1 1 1600 f0), (mp_arI E a2 0 5 f1), (mp_arI E a4 0 180 f3), (mp_arI E a5 3 3000 f4), (mp_arI E a6 0 90 f5), (mp_arI E a7 0 300 f6), (mp_arI E a3 0 25 f2)]) (bX10_fails_17 E a0 a8 a9 a10 a11 a1 a2 a3 a4 a5 a6 a7 a12 a13 a14 a15 a16 a17 a18 a19 a20 a21 a22 a23 a24 a25 y0 y1 y2 y3 y4 y5 y6 y7 y8 y9 y10 y11 y12 y13 y14 y15 y16 y17 y18 y19 y20 y21 l_y1 u_y1 l_y2 u_y2 l_y3 u_y3 l_y4 u_y4 l_y11 u_y11 l_y12 u_y12 l_y13 u_y13) mp_lkX10_160 6 rfl [6] [0, 1, 2, 3, 4, 5, 7] rfl rfl rfl rfl rfl ⟨(Nat.le_of_ble_eq_true rfl), (Nat.le_of_ble_eq_true rfl), (Nat.le_of_ble_eq_true rfl), (Nat.le_of_ble_eq_true rfl)⟩ (Nat.le_of_ble_eq_true rfl) (by first | exact mp_fd_ok mp_k_cX10_line_ok (by decide +kernel) | decide +kernel) (fun v_584 w_585 h_586 => ?_)
        refine h_586.elim fun r_587 q_591 => q_591.elim fun r_588 q_592 => q_592.elim fun e_593 q_594 => q_594.elim fun x_589 q_595 => q_595.elim fun x_590 e_596 => ?_
        clear h_586 q_591 q_592 q_594 q_595
        subst e_593
        subst e_596
        have go_597 : mp_GO (mp_aft f0 (y1.toInt).toNat (mp_gLin2 mp_gop f0 (y1.toInt).toNat (y4.toInt).toNat ((f2 20).toInt, (f2 21).toInt, (f2 22).toInt, (f2 23).toInt, (f1 4).toInt) (mp_dM f3 f4 f5 f6))) r_587.toInt r_588.toInt (mp_aft f0 (y1.toInt).toNat (mp_gLin2 mp_gop f0 (y1.toInt).toNat (y4.toInt).toNat ((f2 20).toInt, (f2 21).toInt, (f2 22).toInt, (f2 23).toInt, (f1 4).toInt) (mp_dM f3 f4 f5 f6))) := mp_go_3 go_3 (by first | omega | (dsimp only <;> omega) | decide) (by first | omega | (dsimp only <;> omega)) (by first | omega | (dsimp only <;> omega) | decide) (by first | omega | (dsimp only <;> omega) | decide) (by first | omega | (dsimp only <;> omega) | decide)
        let w20_ : va_W := [(mp_arI E a1 1 1600 f0), (mp_arI E a2 0 5 f1), (mp_arI E a4 0 180 f3), (mp_arI E a5 3 3000 f4), (mp_arI E a6 0 90 f5), (mp_arI E a7 0 300 f6), (mp_arI E a3 0 25 f2), (mp_ob10 a0 y0 a8 a9 a10 a11 a1 y1 y2 y3 y4 y5 y6 r_587 r_588 y9 y10 a2 a3 a4 a5 a6 a7 a12 a13 y11 a14 a15 a16 a17 y12 y13 y14 a18 a19 y15 y16 a20 a21 a22 y17 y18 y19 y20 a23 a24 a25 y21)]
        show mp_W E X 5 49 [(2, .int i_4), (1, .int i_5), (0, .ref a0)] [] w20_ 0 0
        exact mp_sub [0, 1, 2] rfl [7, 0, 1, 6, 2, 3, 4, 5] rfl rfl (jp_23 r_587 r_588 (by first | omega | decide) (by first | omega | decide) (by first | omega | decide) (by first | trivial | omega) (by first | trivial | omega) go_597)
      · have c_583 : r_573.toInt ≠ 6 := c_583
        show mp_W E X 5 30 [(2, .int i_4), (1, .int i_5), (0, .ref a0)] [] w19_ 0 0
        refine mp_run mp_k_cX10_line_ok hF mp_tabX10_ok [mp_i (.iload_n 2), mp_h (.ifCond .eq 18) [49]] (by decide +kernel) ?_
        refine And.intro (fun c_598 => ?_) (fun c_598 => ?_)
        · have c_598 : i_4.toInt = 0 := (congrArg Int32.toInt c_598)
          show mp_W E X 5 49 [(2, .int i_4), (1, .int i_5), (0, .ref a0)] [] w19_ 0 0
          exact mp_sub [0, 1, 2] rfl [6, 0, 1, 7, 2, 3, 4, 5] rfl rfl (jp_23 y7 y8 (by first | omega | decide) (by first | omega | decide) (by first | omega | decide) (by first | trivial | omega) (by first | trivial | omega) go_3)
        · have c_598 : i_4.toInt ≠ 0 := c_598
          show mp_W E X 5 34 [(2, .int i_4), (1, .int i_5), (0, .ref a0)] [] w19_ 0 0
          refine mp_run mp_k_cX10_line_ok hF mp_tabX10_ok [mp_i (.aload_n 0), mp_c (.iconst 3) 3] (by decide +kernel) ?_
          show mp_W E X 5 36 [(2, .int i_4), (1, .int i_5), (0, .ref a0)] [.int 3, .ref a0] w19_ 0 0
          refine mp_callV hF (As := [.int 3]) (rest := []) (wr := [(mp_arI E a1 1 1600 f0), (mp_arI E a2 0 5 f1), (mp_arI E a4 0 180 f3), (mp_arI E a5 3 3000 f4), (mp_arI E a6 0 90 f5), (mp_arI E a7 0 300 f6)]) (bX10_hasRead_16 E a0 a3 a8 a9 a10 a11 a1 a2 a4 a5 a6 a7 a12 a13 a14 a15 a16 a17 a18 a19 a20 a21 a22 a23 a24 a25 f2 y0 y1 y2 y3 y4 y5 y6 y7 y8 y9 y10 y11 y12 y13 y14 y15 y16 y17 y18 y19 y20 y21 p0 p1 p2 p3 p4 l_y1 u_y1 l_y2 u_y2 l_y3 u_y3 l_y4 u_y4 l_y11 u_y11 l_y12 u_y12 l_y13 u_y13) mp_lkX10_174 6 rfl [6, 7] [0, 1, 2, 3, 4, 5] rfl rfl rfl rfl rfl ⟨(Nat.le_of_ble_eq_true rfl), (Nat.le_of_ble_eq_true rfl), (Nat.le_of_ble_eq_true rfl), (Nat.le_of_ble_eq_true rfl)⟩ (Nat.le_of_ble_eq_true rfl) (by first | exact mp_fd_ok mp_k_cX10_line_ok (by decide +kernel) | decide +kernel) (fun v_599 w_600 h_601 => ?_)
          refine h_601.elim fun r_602 q_606 => q_606.elim fun e_607 q_608 => q_608.elim fun l_603 q_609 => q_609.elim fun u_604 q_610 => q_610.elim fun x_605 e_611 => ?_
          clear h_601 q_606 q_608 q_609 q_610
          subst e_607
          subst e_611
          show mp_W E X 5 39 [(2, .int i_4), (1, .int i_5), (0, .ref a0)] [.int r_602] w19_ 0 0
          refine mp_run mp_k_cX10_line_ok hF mp_tabX10_ok [mp_c (.bipush 10) 10, mp_h (.if_icmp .ne 8) [49]] (by decide +kernel) ?_
          refine And.intro (fun c_612 => ?_) (fun c_612 => ?_)
          · have c_612 : r_602.toInt ≠ 10 := c_612
            show mp_W E X 5 49 [(2, .int i_4), (1, .int i_5), (0, .ref a0)] [] w19_ 0 0
            exact mp_sub [0, 1, 2] rfl [6, 0, 1, 7, 2, 3, 4, 5] rfl rfl (jp_23 y7 y8 (by first | omega | decide) (by first | omega | decide) (by first | omega | decide) (by first | trivial | omega) (by first | trivial | omega) go_3)
          · have c_612 : r_602.toInt = 10 := (congrArg Int32.toInt c_612)
            show mp_W E X 5 44 [(2, .int i_4), (1, .int i_5), (0, .ref a0)] [] w19_ 0 0
            refine mp_run mp_k_cX10_line_ok hF mp_tabX10_ok [mp_i (.aload_n 0), mp_c (.iconst 3) 3] (by decide +kernel) ?_
            show mp_W E X 5 46 [(2, .int i_4), (1, .int i_5), (0, .ref a0)] [.int 3, .ref a0] w19_ 0 0
            refine mp_callV hF (As := [.int 3]) (rest := []) (wr := [(mp_arI E a1 1 1600 f0), (mp_arI E a2 0 5 f1), (mp_arI E a4 0 180 f3), (mp_arI E a5 3 3000 f4), (mp_arI E a6 0 90 f5), (mp_arI E a7 0 300 f6), (mp_arI E a3 0 25 f2)]) (bX10_fails_17 E a0 a8 a9 a10 a11 a1 a2 a3 a4 a5 a6 a7 a12 a13 a14 a15 a16 a17 a18 a19 a20 a21 a22 a23 a24 a25 y0 y1 y2 y3 y4 y5 y6 y7 y8 y9 y10 y11 y12 y13 y14 y15 y16 y17 y18 y19 y20 y21 l_y1 u_y1 l_y2 u_y2 l_y3 u_y3 l_y4 u_y4 l_y11 u_y11 l_y12 u_y12 l_y13 u_y13) mp_lkX10_160 6 rfl [6] [0, 1, 2, 3, 4, 5, 7] rfl rfl rfl rfl rfl ⟨(Nat.le_of_ble_eq_true rfl), (Nat.le_of_ble_eq_true rfl), (Nat.le_of_ble_eq_true rfl), (Nat.le_of_ble_eq_true rfl)⟩ (Nat.le_of_ble_eq_true rfl) (by first | exact mp_fd_ok mp_k_cX10_line_ok (by decide +kernel) | decide +kernel) (fun v_613 w_614 h_615 => ?_)
            refine h_615.elim fun r_616 q_620 => q_620.elim fun r_617 q_621 => q_621.elim fun e_622 q_623 => q_623.elim fun x_618 q_624 => q_624.elim fun x_619 e_625 => ?_
            clear h_615 q_620 q_621 q_623 q_624
            subst e_622
            subst e_625
            have go_626 : mp_GO (mp_aft f0 (y1.toInt).toNat (mp_gLin2 mp_gop f0 (y1.toInt).toNat (y4.toInt).toNat ((f2 20).toInt, (f2 21).toInt, (f2 22).toInt, (f2 23).toInt, (f1 4).toInt) (mp_dM f3 f4 f5 f6))) r_616.toInt r_617.toInt (mp_aft f0 (y1.toInt).toNat (mp_gLin2 mp_gop f0 (y1.toInt).toNat (y4.toInt).toNat ((f2 20).toInt, (f2 21).toInt, (f2 22).toInt, (f2 23).toInt, (f1 4).toInt) (mp_dM f3 f4 f5 f6))) := mp_go_3 go_3 (by first | omega | (dsimp only <;> omega) | decide) (by first | omega | (dsimp only <;> omega)) (by first | omega | (dsimp only <;> omega) | decide) (by first | omega | (dsimp only <;> omega) | decide) (by first | omega | (dsimp only <;> omega) | decide)
            let w21_ : va_W := [(mp_arI E a1 1 1600 f0), (mp_arI E a2 0 5 f1), (mp_arI E a4 0 180 f3), (mp_arI E a5 3 3000 f4), (mp_arI E a6 0 90 f5), (mp_arI E a7 0 300 f6), (mp_arI E a3 0 25 f2), (mp_ob10 a0 y0 a8 a9 a10 a11 a1 y1 y2 y3 y4 y5 y6 r_616 r_617 y9 y10 a2 a3 a4 a5 a6 a7 a12 a13 y11 a14 a15 a16 a17 y12 y13 y14 a18 a19 y15 y16 a20 a21 a22 y17 y18 y19 y20 a23 a24 a25 y21)]
            show mp_W E X 5 49 [(2, .int i_4), (1, .int i_5), (0, .ref a0)] [] w21_ 0 0
            exact mp_sub [0, 1, 2] rfl [7, 0, 1, 6, 2, 3, 4, 5] rfl rfl (jp_23 r_616 r_617 (by first | omega | decide) (by first | omega | decide) (by first | omega | decide) (by first | trivial | omega) (by first | trivial | omega) go_626)
  refine mp_run mp_k_cX10_line_ok hF mp_tabX10_ok [mp_i (.aload_n 0), mp_cl (.ldc2_w 211) 232608281] (by decide +kernel) ?_
  show mp_W E X 5 4 [(0, .ref a0)] [.long 232608281, .ref a0] w1_ 0 0
  refine mp_callV hF (As := [.long 232608281]) (rest := []) (wr := [(mp_arI E a2 0 5 f1), (mp_arI E a3 0 25 f2), (mp_arI E a4 0 180 f3), (mp_arI E a5 3 3000 f4), (mp_arI E a6 0 90 f5), (mp_arI E a7 0 300 f6)]) (bX10_is_15 E a0 a1 a8 a9 a10 a11 a2 a3 a4 a5 a6 a7 a12 a13 a14 a15 a16 a17 a18 a19 a20 a21 a22 a23 a24 a25 f0 y0 y1 y2 y3 y4 y5 y6 y7 y8 y9 y10 y11 y12 y13 y14 y15 y16 y17 y18 y19 y20 y21 232608281 l_y1 u_y1 l_y2 u_y2 l_y3 u_y3 l_y4 u_y4 l_y11 u_y11 l_y12 u_y12 l_y13 u_y13 (by assumption)) mp_lkX10_150 0 rfl [0, 1] [2, 3, 4, 5, 6, 7] rfl rfl rfl rfl rfl ⟨(Nat.le_of_ble_eq_true rfl), (Nat.le_of_ble_eq_true rfl), (Nat.le_of_ble_eq_true rfl), (Nat.le_of_ble_eq_true rfl)⟩ (Nat.le_of_ble_eq_true rfl) (by first | exact mp_fd_ok mp_k_cX10_line_ok (by decide +kernel) | decide +kernel) (fun v_627 w_628 h_629 => ?_)
  refine h_629.elim (fun q_635 => ?_) (fun q_636 => ?_)
  · skip
    refine q_635.elim fun e_637 q_638 => q_638.elim fun x_630 e_639 => ?_
    clear h_629 q_635 q_638
    subst e_637
    subst e_639
    rw [show (232608281 : Int64).toInt = 232608281 from by decide] at x_630
    let w22_ : va_W := [(mp_arI E a2 0 5 f1), (mp_arI E a3 0 25 f2), (mp_arI E a4 0 180 f3), (mp_arI E a5 3 3000 f4), (mp_arI E a6 0 90 f5), (mp_arI E a7 0 300 f6), (mp_ob10 a0 y0 a8 a9 a10 a11 a1 y1 y2 y3 y4 y5 y6 y7 y8 y9 y10 a2 a3 a4 a5 a6 a7 a12 a13 y11 a14 a15 a16 a17 y12 y13 y14 a18 a19 y15 y16 a20 a21 a22 y17 y18 y19 y20 a23 a24 a25 y21), (mp_arI E a1 1 1600 f0)]
    show mp_W E X 5 7 [(0, .ref a0)] [.int 0] w22_ 0 0
    refine mp_run mp_k_cX10_line_ok hF mp_tabX10_ok [mp_i (.istore_n 1), mp_i (.aload_n 0), mp_cl (.ldc2_w 213) 6465242723] (by decide +kernel) ?_
    show mp_W E X 5 12 [(1, .int 0), (0, .ref a0)] [.long 6465242723, .ref a0] w22_ 0 0
    refine mp_callV hF (As := [.long 6465242723]) (rest := []) (wr := [(mp_arI E a2 0 5 f1), (mp_arI E a3 0 25 f2), (mp_arI E a4 0 180 f3), (mp_arI E a5 3 3000 f4), (mp_arI E a6 0 90 f5), (mp_arI E a7 0 300 f6)]) (bX10_is_15 E a0 a1 a8 a9 a10 a11 a2 a3 a4 a5 a6 a7 a12 a13 a14 a15 a16 a17 a18 a19 a20 a21 a22 a23 a24 a25 f0 y0 y1 y2 y3 y4 y5 y6 y7 y8 y9 y10 y11 y12 y13 y14 y15 y16 y17 y18 y19 y20 y21 6465242723 l_y1 u_y1 l_y2 u_y2 l_y3 u_y3 l_y4 u_y4 l_y11 u_y11 l_y12 u_y12 l_y13 u_y13 (by assumption)) mp_lkX10_150 6 rfl [6, 7] [0, 1, 2, 3, 4, 5] rfl rfl rfl rfl rfl ⟨(Nat.le_of_ble_eq_true rfl), (Nat.le_of_ble_eq_true rfl), (Nat.le_of_ble_eq_true rfl), (Nat.le_of_ble_eq_true rfl)⟩ (Nat.le_of_ble_eq_true rfl) (by first | exact mp_fd_ok mp_k_cX10_line_ok (by decide +kernel) | decide +kernel) (fun v_640 w_641 h_642 => ?_)
    refine h_642.elim (fun q_648 => ?_) (fun q_649 => ?_)
    · skip
      refine q_648.elim fun e_650 q_651 => q_651.elim fun x_643 e_652 => ?_
      clear h_642 q_648 q_651
      subst e_650
      subst e_652
      rw [show (6465242723 : Int64).toInt = 6465242723 from by decide] at x_643
      show mp_W E X 5 15 [(1, .int 0), (0, .ref a0)] [.int 0] w22_ 0 0
      refine mp_run mp_k_cX10_line_ok hF mp_tabX10_ok [mp_i (.istore_n 2)] (by decide +kernel) ?_
      show mp_W E X 5 16 [(2, .int 0), (1, .int 0), (0, .ref a0)] [] w22_ 0 0
      exact mp_sub [0, 1, 2] rfl [6, 7, 0, 1, 2, 3, 4, 5] rfl rfl (jp_14 0 0 (by decide) (by decide) (by decide) (by decide) (by first | omega | decide) (by first | omega | decide) (by first | trivial | omega) (by first | trivial | omega))
    · skip
      refine q_649.elim fun e_653 q_654 => q_654.elim fun c_644 q_655 => q_655.elim fun c_645 q_656 => q_656.elim fun c_646 q_657 => q_657.elim fun x_647 e_658 => ?_
      clear h_642 q_649 q_654 q_655 q_656 q_657
      subst e_653
      subst e_658
      have c_644 : y7.toInt = 0 := c_644
      have c_645 : y3.toInt = 1 := c_645
      have c_646 : y6.toInt = 6465242723 := c_646
      rw [show (6465242723 : Int64).toInt = 6465242723 from by decide] at x_647
      show mp_W E X 5 15 [(1, .int 0), (0, .ref a0)] [.int 1] w22_ 0 0
      refine mp_run mp_k_cX10_line_ok hF mp_tabX10_ok [mp_i (.istore_n 2)] (by decide +kernel) ?_
      show mp_W E X 5 16 [(2, .int 1), (1, .int 0), (0, .ref a0)] [] w22_ 0 0
      exact mp_sub [0, 1, 2] rfl [6, 7, 0, 1, 2, 3, 4, 5] rfl rfl (jp_14 1 0 (by decide) (by decide) (by decide) (by decide) (by first | omega | decide) (by first | omega | decide) (by first | trivial | omega) (by first | trivial | omega))
  · skip
    refine q_636.elim fun e_659 q_660 => q_660.elim fun c_631 q_661 => q_661.elim fun c_632 q_662 => q_662.elim fun c_633 q_663 => q_663.elim fun x_634 e_664 => ?_
    clear h_629 q_636 q_660 q_661 q_662 q_663
    subst e_659
    subst e_664
    have c_631 : y7.toInt = 0 := c_631
    have c_632 : y3.toInt = 1 := c_632
    have c_633 : y6.toInt = 232608281 := c_633
    rw [show (232608281 : Int64).toInt = 232608281 from by decide] at x_634
    let w23_ : va_W := [(mp_arI E a2 0 5 f1), (mp_arI E a3 0 25 f2), (mp_arI E a4 0 180 f3), (mp_arI E a5 3 3000 f4), (mp_arI E a6 0 90 f5), (mp_arI E a7 0 300 f6), (mp_ob10 a0 y0 a8 a9 a10 a11 a1 y1 y2 y3 y4 y5 y6 y7 y8 y9 y10 a2 a3 a4 a5 a6 a7 a12 a13 y11 a14 a15 a16 a17 y12 y13 y14 a18 a19 y15 y16 a20 a21 a22 y17 y18 y19 y20 a23 a24 a25 y21), (mp_arI E a1 1 1600 f0)]
    show mp_W E X 5 7 [(0, .ref a0)] [.int 1] w23_ 0 0
    refine mp_run mp_k_cX10_line_ok hF mp_tabX10_ok [mp_i (.istore_n 1), mp_i (.aload_n 0), mp_cl (.ldc2_w 213) 6465242723] (by decide +kernel) ?_
    show mp_W E X 5 12 [(1, .int 1), (0, .ref a0)] [.long 6465242723, .ref a0] w23_ 0 0
    refine mp_callV hF (As := [.long 6465242723]) (rest := []) (wr := [(mp_arI E a2 0 5 f1), (mp_arI E a3 0 25 f2), (mp_arI E a4 0 180 f3), (mp_arI E a5 3 3000 f4), (mp_arI E a6 0 90 f5), (mp_arI E a7 0 300 f6)]) (bX10_is_15 E a0 a1 a8 a9 a10 a11 a2 a3 a4 a5 a6 a7 a12 a13 a14 a15 a16 a17 a18 a19 a20 a21 a22 a23 a24 a25 f0 y0 y1 y2 y3 y4 y5 y6 y7 y8 y9 y10 y11 y12 y13 y14 y15 y16 y17 y18 y19 y20 y21 6465242723 l_y1 u_y1 l_y2 u_y2 l_y3 u_y3 l_y4 u_y4 l_y11 u_y11 l_y12 u_y12 l_y13 u_y13 (by assumption)) mp_lkX10_150 6 rfl [6, 7] [0, 1, 2, 3, 4, 5] rfl rfl rfl rfl rfl ⟨(Nat.le_of_ble_eq_true rfl), (Nat.le_of_ble_eq_true rfl), (Nat.le_of_ble_eq_true rfl), (Nat.le_of_ble_eq_true rfl)⟩ (Nat.le_of_ble_eq_true rfl) (by first | exact mp_fd_ok mp_k_cX10_line_ok (by decide +kernel) | decide +kernel) (fun v_665 w_666 h_667 => ?_)
    refine h_667.elim (fun q_673 => ?_) (fun q_674 => ?_)
    · skip
      refine q_673.elim fun e_675 q_676 => q_676.elim fun x_668 e_677 => ?_
      clear h_667 q_673 q_676
      subst e_675
      subst e_677
      rw [show (6465242723 : Int64).toInt = 6465242723 from by decide] at x_668
      show mp_W E X 5 15 [(1, .int 1), (0, .ref a0)] [.int 0] w23_ 0 0
      refine mp_run mp_k_cX10_line_ok hF mp_tabX10_ok [mp_i (.istore_n 2)] (by decide +kernel) ?_
      show mp_W E X 5 16 [(2, .int 0), (1, .int 1), (0, .ref a0)] [] w23_ 0 0
      exact mp_sub [0, 1, 2] rfl [6, 7, 0, 1, 2, 3, 4, 5] rfl rfl (jp_14 0 1 (by decide) (by decide) (by decide) (by decide) (by first | omega | decide) (by first | omega | decide) (by first | trivial | omega) (by first | trivial | omega))
    · skip
      refine q_674.elim fun e_678 q_679 => q_679.elim fun c_669 q_680 => q_680.elim fun c_670 q_681 => q_681.elim fun c_671 q_682 => q_682.elim fun x_672 e_683 => ?_
      clear h_667 q_674 q_679 q_680 q_681 q_682
      subst e_678
      subst e_683
      have c_669 : y7.toInt = 0 := c_669
      have c_670 : y3.toInt = 1 := c_670
      have c_671 : y6.toInt = 6465242723 := c_671
      rw [show (6465242723 : Int64).toInt = 6465242723 from by decide] at x_672
      exfalso; omega

