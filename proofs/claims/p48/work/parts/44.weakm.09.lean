set_option maxHeartbeats 4000000 in
set_option maxRecDepth 100000 in
theorem bX10_copyIsles_51 (E : mp_E) (a0 a1 a2 a3 a4 a5 a6 a7 a8 a9 a10 a11 a12 a13 a14 a15 a16 a17 a18 a19 a20 a21 a22 a23 a24 a25 : Nat) (f0 : Nat → Int32) (f1 : Nat → Int32) (f2 : Nat → Int32) (f3 : Nat → Int32) (f4 : Nat → Int32) (f5 : Nat → Int32) (f6 : Nat → Int32) (y0 : Int32) (y1 : Int32) (y2 : Int32) (y3 : Int32) (y4 : Int32) (y5 : Int32) (y6 : Int64) (y7 : Int32) (y8 : Int32) (y9 : Int32) (y10 : Int32) (y11 : Int32) (y12 : Int32) (y13 : Int32) (y14 : Int32) (y15 : Int32) (y16 : Int32) (y17 : Int32) (y18 : Int32) (y19 : Int32) (y20 : Int32) (y21 : Int32) (p0 : mp_res f1 25 5 0 0 6) (p1 : mp_res f1 25 5 1 0 99) (p2 : mp_res f1 25 5 2 0 6) (p3 : mp_res f1 25 5 3 0 10) (p4 : mp_res f1 25 5 4 0 60) (p5 : mp_all f2 180 0 20) (p6 : mp_all f3 3000 0 1) (p7 : mp_res f4 90 3 0 0 5) (p8 : mp_res f4 90 3 1 (-1) 99) (p9 : mp_res f5 300 6 0 0 5) (p10 : mp_res f5 300 6 1 0 5) (p11 : mp_res f5 300 6 3 0 99) (p12 : mp_res f5 300 6 4 0 1) (p13 : mp_actm f6) (l_y1 : 0 ≤ y1.toInt) (u_y1 : y1.toInt ≤ 1600) (l_y2 : 0 ≤ y2.toInt) (u_y2 : y2.toInt ≤ 1600) (l_y3 : 0 ≤ y3.toInt) (u_y3 : y3.toInt ≤ 4) (l_y4 : 0 ≤ y4.toInt) (u_y4 : y4.toInt ≤ 1600) (l_y11 : 0 ≤ y11.toInt) (u_y11 : y11.toInt ≤ 99) (l_y12 : 0 ≤ y12.toInt) (u_y12 : y12.toInt ≤ 5) (l_y13 : 0 ≤ y13.toInt) (u_y13 : y13.toInt ≤ 12) : mp_Ct E yX10_copyIsles cX10_copyIsles 4 none 1 0 0 24 [.ref a0, .int 4, .int 0] [(mp_ob10 a0 y0 a8 a9 a10 a11 a12 y1 y2 y3 y4 y5 y6 y7 y8 y9 y10 a1 a2 a3 a4 a5 a6 a7 a13 y11 a14 a15 a16 a17 y12 y13 y14 a18 a19 y15 y16 a20 a21 a22 y17 y18 y19 y20 a23 a24 a25 y21), (mp_arI E a1 0 5 f0), (mp_arI E a2 0 25 f1), (mp_arI E a3 0 180 f2), (mp_arI E a4 3 3000 f3), (mp_arI E a5 0 90 f4), (mp_arI E a6 0 300 f5), (mp_arI E a7 0 300 f6)] (fun v w' => ∃ h1 : Nat → Int32, ∃ h2 : Nat → Int32, ∃ h3 : Nat → Int32, ∃ h4 : Nat → Int32, ∃ h5 : Nat → Int32, ∃ h6 : Nat → Int32, ∃ h7 : Nat → Int32, v = none ∧ mp_res h2 25 5 0 0 6 ∧ mp_res h2 25 5 1 0 99 ∧ mp_res h2 25 5 2 0 6 ∧ mp_res h2 25 5 3 0 10 ∧ mp_res h2 25 5 4 0 60 ∧ mp_all h3 180 0 20 ∧ mp_all h4 3000 0 1 ∧ mp_res h5 90 3 0 0 5 ∧ mp_res h5 90 3 1 (-1) 99 ∧ mp_res h6 300 6 0 0 5 ∧ mp_res h6 300 6 1 0 5 ∧ mp_res h6 300 6 3 0 99 ∧ mp_res h6 300 6 4 0 1 ∧ mp_actm h7 ∧ (h1 = mp_cpr f0 4 0 1) ∧ (h2 = mp_cpr f1 20 0 5) ∧ (h3 = mp_cpr f2 144 0 36) ∧ (h5 = mp_cpr f4 72 0 18) ∧ (h6 = mp_cpr f5 240 0 60) ∧ (h7 = mp_cpr f6 240 0 60) ∧ (h4 = mp_cpr f3 2400 0 600) ∧ w' = [(mp_ob10 a0 y0 a8 a9 a10 a11 a12 y1 y2 y3 y4 y5 y6 y7 y8 y9 y10 a1 a2 a3 a4 a5 a6 a7 a13 y11 a14 a15 a16 a17 y12 y13 y14 a18 a19 y15 y16 a20 a21 a22 y17 y18 y19 y20 a23 a24 a25 y21), (mp_arI E a1 0 5 h1), (mp_arI E a2 0 25 h2), (mp_arI E a3 0 180 h3), (mp_arI E a4 3 3000 h4), (mp_arI E a5 0 90 h5), (mp_arI E a6 0 300 h6), (mp_arI E a7 0 300 h7)]) := by
  refine mp_met false (by decide) (by decide) (Nat.le_of_ble_eq_true rfl) (fun X hF hQ => ?_)
  have hF : mp_F E X (RX10, cX10_copyIsles, 4, (1, 0, 0, 24), none, false) := hF
  let w1_ : va_W := [(mp_ob10 a0 y0 a8 a9 a10 a11 a12 y1 y2 y3 y4 y5 y6 y7 y8 y9 y10 a1 a2 a3 a4 a5 a6 a7 a13 y11 a14 a15 a16 a17 y12 y13 y14 a18 a19 y15 y16 a20 a21 a22 y17 y18 y19 y20 a23 a24 a25 y21), (mp_arI E a1 0 5 f0), (mp_arI E a2 0 25 f1), (mp_arI E a3 0 180 f2), (mp_arI E a4 3 3000 f3), (mp_arI E a5 0 90 f4), (mp_arI E a6 0 300 f5), (mp_arI E a7 0 300 f6)]
  show mp_W E X 4 0 [(0, .ref a0), (1, .int 4), (2, .int 0)] [] w1_ 0 0
  refine mp_run mp_k_cX10_copyIsles_ok hF mp_tabX10_ok [mp_i (.aload_n 0), mp_h (.getfield 31) [16, 0], mp_c (.iconst 1) 1, mp_i (.iload_n 1), mp_i (.iload_n 2)] (by decide +kernel) ?_
  refine And.intro rfl (And.intro rfl ?_)
  show mp_W E X 4 7 [(0, .ref a0), (1, .int 4), (2, .int 0)] [.int 0, .int 4, .int 1, .ref a1] w1_ 0 0
  refine mp_callS hF (As := [.ref a1, .int 1, .int 4, .int 0]) (rest := []) (wr := [(mp_ob10 a0 y0 a8 a9 a10 a11 a12 y1 y2 y3 y4 y5 y6 y7 y8 y9 y10 a1 a2 a3 a4 a5 a6 a7 a13 y11 a14 a15 a16 a17 y12 y13 y14 a18 a19 y15 y16 a20 a21 a22 y17 y18 y19 y20 a23 a24 a25 y21), (mp_arI E a2 0 25 f1), (mp_arI E a3 0 180 f2), (mp_arI E a4 3 3000 f3), (mp_arI E a5 0 90 f4), (mp_arI E a6 0 300 f5), (mp_arI E a7 0 300 f6)]) (bX10_copyRow_45 E a1 f0) mp_lkX10_251 [1] [0, 2, 3, 4, 5, 6, 7] rfl rfl rfl rfl rfl ⟨(Nat.le_of_ble_eq_true rfl), (Nat.le_of_ble_eq_true rfl), (Nat.le_of_ble_eq_true rfl), (Nat.le_of_ble_eq_true rfl)⟩ (Nat.le_of_ble_eq_true rfl) (by first | exact mp_fd_ok mp_k_cX10_copyIsles_ok (by decide +kernel) | decide +kernel) (fun v_1 w_2 h_3 => ?_)
  obtain ⟨g_4, rfl, x_5, rfl⟩ := h_3
  let w2_ : va_W := [(mp_ob10 a0 y0 a8 a9 a10 a11 a12 y1 y2 y3 y4 y5 y6 y7 y8 y9 y10 a1 a2 a3 a4 a5 a6 a7 a13 y11 a14 a15 a16 a17 y12 y13 y14 a18 a19 y15 y16 a20 a21 a22 y17 y18 y19 y20 a23 a24 a25 y21), (mp_arI E a2 0 25 f1), (mp_arI E a3 0 180 f2), (mp_arI E a4 3 3000 f3), (mp_arI E a5 0 90 f4), (mp_arI E a6 0 300 f5), (mp_arI E a7 0 300 f6), (mp_arI E a1 0 5 g_4)]
  show mp_W E X 4 10 [(0, .ref a0), (1, .int 4), (2, .int 0)] [] w2_ 0 0
  refine mp_run mp_k_cX10_copyIsles_ok hF mp_tabX10_ok [mp_i (.aload_n 0), mp_h (.getfield 34) [17, 0], mp_c (.iconst 5) 5, mp_i (.iload_n 1), mp_i (.iload_n 2)] (by decide +kernel) ?_
  refine And.intro rfl (And.intro rfl ?_)
  show mp_W E X 4 17 [(0, .ref a0), (1, .int 4), (2, .int 0)] [.int 0, .int 4, .int 5, .ref a2] w2_ 0 0
  refine mp_callS hF (As := [.ref a2, .int 5, .int 4, .int 0]) (rest := []) (wr := [(mp_ob10 a0 y0 a8 a9 a10 a11 a12 y1 y2 y3 y4 y5 y6 y7 y8 y9 y10 a1 a2 a3 a4 a5 a6 a7 a13 y11 a14 a15 a16 a17 y12 y13 y14 a18 a19 y15 y16 a20 a21 a22 y17 y18 y19 y20 a23 a24 a25 y21), (mp_arI E a3 0 180 f2), (mp_arI E a4 3 3000 f3), (mp_arI E a5 0 90 f4), (mp_arI E a6 0 300 f5), (mp_arI E a7 0 300 f6), (mp_arI E a1 0 5 g_4)]) (bX10_copyRow_46 E a2 f1 p0 p1 p2 p3 p4) mp_lkX10_251 [1] [0, 2, 3, 4, 5, 6, 7] rfl rfl rfl rfl rfl ⟨(Nat.le_of_ble_eq_true rfl), (Nat.le_of_ble_eq_true rfl), (Nat.le_of_ble_eq_true rfl), (Nat.le_of_ble_eq_true rfl)⟩ (Nat.le_of_ble_eq_true rfl) (by first | exact mp_fd_ok mp_k_cX10_copyIsles_ok (by decide +kernel) | decide +kernel) (fun v_6 w_7 h_8 => ?_)
  refine h_8.elim fun g_9 q_16 => q_16.elim fun e_17 q_18 => q_18.elim fun p_10 q_19 => q_19.elim fun p_11 q_20 => q_20.elim fun p_12 q_21 => q_21.elim fun p_13 q_22 => q_22.elim fun p_14 q_23 => q_23.elim fun x_15 e_24 => ?_
  clear h_8 q_16 q_18 q_19 q_20 q_21 q_22 q_23
  subst e_17
  subst e_24
  let w3_ : va_W := [(mp_ob10 a0 y0 a8 a9 a10 a11 a12 y1 y2 y3 y4 y5 y6 y7 y8 y9 y10 a1 a2 a3 a4 a5 a6 a7 a13 y11 a14 a15 a16 a17 y12 y13 y14 a18 a19 y15 y16 a20 a21 a22 y17 y18 y19 y20 a23 a24 a25 y21), (mp_arI E a3 0 180 f2), (mp_arI E a4 3 3000 f3), (mp_arI E a5 0 90 f4), (mp_arI E a6 0 300 f5), (mp_arI E a7 0 300 f6), (mp_arI E a1 0 5 g_4), (mp_arI E a2 0 25 g_9)]
  show mp_W E X 4 20 [(0, .ref a0), (1, .int 4), (2, .int 0)] [] w3_ 0 0
  refine mp_run mp_k_cX10_copyIsles_ok hF mp_tabX10_ok [mp_i (.aload_n 0), mp_h (.getfield 37) [18, 0], mp_c (.bipush 36) 36, mp_i (.iload_n 1), mp_i (.iload_n 2)] (by decide +kernel) ?_
  refine And.intro rfl (And.intro rfl ?_)
  show mp_W E X 4 28 [(0, .ref a0), (1, .int 4), (2, .int 0)] [.int 0, .int 4, .int 36, .ref a3] w3_ 0 0
  refine mp_callS hF (As := [.ref a3, .int 36, .int 4, .int 0]) (rest := []) (wr := [(mp_ob10 a0 y0 a8 a9 a10 a11 a12 y1 y2 y3 y4 y5 y6 y7 y8 y9 y10 a1 a2 a3 a4 a5 a6 a7 a13 y11 a14 a15 a16 a17 y12 y13 y14 a18 a19 y15 y16 a20 a21 a22 y17 y18 y19 y20 a23 a24 a25 y21), (mp_arI E a4 3 3000 f3), (mp_arI E a5 0 90 f4), (mp_arI E a6 0 300 f5), (mp_arI E a7 0 300 f6), (mp_arI E a1 0 5 g_4), (mp_arI E a2 0 25 g_9)]) (bX10_copyRow_47 E a3 f2 p5) mp_lkX10_251 [1] [0, 2, 3, 4, 5, 6, 7] rfl rfl rfl rfl rfl ⟨(Nat.le_of_ble_eq_true rfl), (Nat.le_of_ble_eq_true rfl), (Nat.le_of_ble_eq_true rfl), (Nat.le_of_ble_eq_true rfl)⟩ (Nat.le_of_ble_eq_true rfl) (by first | exact mp_fd_ok mp_k_cX10_copyIsles_ok (by decide +kernel) | decide +kernel) (fun v_25 w_26 h_27 => ?_)
  obtain ⟨g_28, rfl, p_29, x_30, rfl⟩ := h_27
  let w4_ : va_W := [(mp_ob10 a0 y0 a8 a9 a10 a11 a12 y1 y2 y3 y4 y5 y6 y7 y8 y9 y10 a1 a2 a3 a4 a5 a6 a7 a13 y11 a14 a15 a16 a17 y12 y13 y14 a18 a19 y15 y16 a20 a21 a22 y17 y18 y19 y20 a23 a24 a25 y21), (mp_arI E a4 3 3000 f3), (mp_arI E a5 0 90 f4), (mp_arI E a6 0 300 f5), (mp_arI E a7 0 300 f6), (mp_arI E a1 0 5 g_4), (mp_arI E a2 0 25 g_9), (mp_arI E a3 0 180 g_28)]
  show mp_W E X 4 31 [(0, .ref a0), (1, .int 4), (2, .int 0)] [] w4_ 0 0
  refine mp_run mp_k_cX10_copyIsles_ok hF mp_tabX10_ok [mp_c (.iconst 0) 0, mp_i (.istore_n 3)] (by decide +kernel) ?_
  show mp_W E X 4 33 [(3, .int 0), (0, .ref a0), (1, .int 4), (2, .int 0)] [] w4_ 0 0
  have lp_39 : ∀ (d_40 : Nat) (i_31 : Int32) (g_32 : Nat → Int32), 0 ≤ i_31.toInt → i_31.toInt ≤ 600 → mp_all g_32 3000 0 1 → (g_32 = mp_cpr f3 2400 0 i_31.toInt.toNat) → (i_31.toInt ≤ 600) → (0 ≤ i_31.toInt) → -(i_31.toInt) + 600 ≤ (d_40 : Int) → mp_W E X 4 33 [(3, .int i_31), (0, .ref a0), (1, .int 4), (2, .int 0)] [] [(mp_ob10 a0 y0 a8 a9 a10 a11 a12 y1 y2 y3 y4 y5 y6 y7 y8 y9 y10 a1 a2 a3 a4 a5 a6 a7 a13 y11 a14 a15 a16 a17 y12 y13 y14 a18 a19 y15 y16 a20 a21 a22 y17 y18 y19 y20 a23 a24 a25 y21), (mp_arI E a4 3 3000 g_32), (mp_arI E a5 0 90 f4), (mp_arI E a6 0 300 f5), (mp_arI E a7 0 300 f6), (mp_arI E a1 0 5 g_4), (mp_arI E a2 0 25 g_9), (mp_arI E a3 0 180 g_28)] 0 0 := by
    intro d_40
    induction d_40 using Nat.strongRecOn with
    | ind d_40 ih_41 =>
      intro i_31 g_32 l_33 u_34 p_35 x_36 x_37 x_38 hm_42
      refine mp_run mp_k_cX10_copyIsles_ok hF mp_tabX10_ok [mp_i (.iload_n 3), mp_c (.sipush 600) 600, mp_h (.if_icmp .ge 33) [70]] (by decide +kernel) ?_
      refine And.intro (fun c_43 => ?_) (fun c_43 => ?_)
      · have c_43 : 600 ≤ i_31.toInt := c_43
        let w5_ : va_W := [(mp_ob10 a0 y0 a8 a9 a10 a11 a12 y1 y2 y3 y4 y5 y6 y7 y8 y9 y10 a1 a2 a3 a4 a5 a6 a7 a13 y11 a14 a15 a16 a17 y12 y13 y14 a18 a19 y15 y16 a20 a21 a22 y17 y18 y19 y20 a23 a24 a25 y21), (mp_arI E a4 3 3000 g_32), (mp_arI E a5 0 90 f4), (mp_arI E a6 0 300 f5), (mp_arI E a7 0 300 f6), (mp_arI E a1 0 5 g_4), (mp_arI E a2 0 25 g_9), (mp_arI E a3 0 180 g_28)]
        show mp_W E X 4 70 [(3, .int i_31), (0, .ref a0), (1, .int 4), (2, .int 0)] [] w5_ 0 0
        refine mp_run mp_k_cX10_copyIsles_ok hF mp_tabX10_ok [mp_i (.aload_n 0), mp_h (.getfield 44) [20, 0], mp_c (.bipush 18) 18, mp_i (.iload_n 1), mp_i (.iload_n 2)] (by decide +kernel) ?_
        refine And.intro rfl (And.intro rfl ?_)
        show mp_W E X 4 78 [(3, .int i_31), (0, .ref a0), (1, .int 4), (2, .int 0)] [.int 0, .int 4, .int 18, .ref a5] w5_ 0 0
        refine mp_callS hF (As := [.ref a5, .int 18, .int 4, .int 0]) (rest := []) (wr := [(mp_ob10 a0 y0 a8 a9 a10 a11 a12 y1 y2 y3 y4 y5 y6 y7 y8 y9 y10 a1 a2 a3 a4 a5 a6 a7 a13 y11 a14 a15 a16 a17 y12 y13 y14 a18 a19 y15 y16 a20 a21 a22 y17 y18 y19 y20 a23 a24 a25 y21), (mp_arI E a4 3 3000 g_32), (mp_arI E a6 0 300 f5), (mp_arI E a7 0 300 f6), (mp_arI E a1 0 5 g_4), (mp_arI E a2 0 25 g_9), (mp_arI E a3 0 180 g_28)]) (bX10_copyRow_48 E a5 f4 p7 p8) mp_lkX10_251 [2] [0, 1, 3, 4, 5, 6, 7] rfl rfl rfl rfl rfl ⟨(Nat.le_of_ble_eq_true rfl), (Nat.le_of_ble_eq_true rfl), (Nat.le_of_ble_eq_true rfl), (Nat.le_of_ble_eq_true rfl)⟩ (Nat.le_of_ble_eq_true rfl) (by first | exact mp_fd_ok mp_k_cX10_copyIsles_ok (by decide +kernel) | decide +kernel) (fun v_44 w_45 h_46 => ?_)
        refine h_46.elim fun g_47 q_51 => q_51.elim fun e_52 q_53 => q_53.elim fun p_48 q_54 => q_54.elim fun p_49 q_55 => q_55.elim fun x_50 e_56 => ?_
        clear h_46 q_51 q_53 q_54 q_55
        subst e_52
        subst e_56
        let w6_ : va_W := [(mp_ob10 a0 y0 a8 a9 a10 a11 a12 y1 y2 y3 y4 y5 y6 y7 y8 y9 y10 a1 a2 a3 a4 a5 a6 a7 a13 y11 a14 a15 a16 a17 y12 y13 y14 a18 a19 y15 y16 a20 a21 a22 y17 y18 y19 y20 a23 a24 a25 y21), (mp_arI E a4 3 3000 g_32), (mp_arI E a6 0 300 f5), (mp_arI E a7 0 300 f6), (mp_arI E a1 0 5 g_4), (mp_arI E a2 0 25 g_9), (mp_arI E a3 0 180 g_28), (mp_arI E a5 0 90 g_47)]
        show mp_W E X 4 81 [(3, .int i_31), (0, .ref a0), (1, .int 4), (2, .int 0)] [] w6_ 0 0
        refine mp_run mp_k_cX10_copyIsles_ok hF mp_tabX10_ok [mp_i (.aload_n 0), mp_h (.getfield 47) [21, 0], mp_c (.bipush 60) 60, mp_i (.iload_n 1), mp_i (.iload_n 2)] (by decide +kernel) ?_
        refine And.intro rfl (And.intro rfl ?_)
        show mp_W E X 4 89 [(3, .int i_31), (0, .ref a0), (1, .int 4), (2, .int 0)] [.int 0, .int 4, .int 60, .ref a6] w6_ 0 0
        refine mp_callS hF (As := [.ref a6, .int 60, .int 4, .int 0]) (rest := []) (wr := [(mp_ob10 a0 y0 a8 a9 a10 a11 a12 y1 y2 y3 y4 y5 y6 y7 y8 y9 y10 a1 a2 a3 a4 a5 a6 a7 a13 y11 a14 a15 a16 a17 y12 y13 y14 a18 a19 y15 y16 a20 a21 a22 y17 y18 y19 y20 a23 a24 a25 y21), (mp_arI E a4 3 3000 g_32), (mp_arI E a7 0 300 f6), (mp_arI E a1 0 5 g_4), (mp_arI E a2 0 25 g_9), (mp_arI E a3 0 180 g_28), (mp_arI E a5 0 90 g_47)]) (bX10_copyRow_49 E a6 f5 p9 p10 p11 p12) mp_lkX10_251 [2] [0, 1, 3, 4, 5, 6, 7] rfl rfl rfl rfl rfl ⟨(Nat.le_of_ble_eq_true rfl), (Nat.le_of_ble_eq_true rfl), (Nat.le_of_ble_eq_true rfl), (Nat.le_of_ble_eq_true rfl)⟩ (Nat.le_of_ble_eq_true rfl) (by first | exact mp_fd_ok mp_k_cX10_copyIsles_ok (by decide +kernel) | decide +kernel) (fun v_57 w_58 h_59 => ?_)
        refine h_59.elim fun g_60 q_66 => q_66.elim fun e_67 q_68 => q_68.elim fun p_61 q_69 => q_69.elim fun p_62 q_70 => q_70.elim fun p_63 q_71 => q_71.elim fun p_64 q_72 => q_72.elim fun x_65 e_73 => ?_
        clear h_59 q_66 q_68 q_69 q_70 q_71 q_72
        subst e_67
        subst e_73
        let w7_ : va_W := [(mp_ob10 a0 y0 a8 a9 a10 a11 a12 y1 y2 y3 y4 y5 y6 y7 y8 y9 y10 a1 a2 a3 a4 a5 a6 a7 a13 y11 a14 a15 a16 a17 y12 y13 y14 a18 a19 y15 y16 a20 a21 a22 y17 y18 y19 y20 a23 a24 a25 y21), (mp_arI E a4 3 3000 g_32), (mp_arI E a7 0 300 f6), (mp_arI E a1 0 5 g_4), (mp_arI E a2 0 25 g_9), (mp_arI E a3 0 180 g_28), (mp_arI E a5 0 90 g_47), (mp_arI E a6 0 300 g_60)]
        show mp_W E X 4 92 [(3, .int i_31), (0, .ref a0), (1, .int 4), (2, .int 0)] [] w7_ 0 0
        refine mp_run mp_k_cX10_copyIsles_ok hF mp_tabX10_ok [mp_i (.aload_n 0), mp_h (.getfield 50) [22, 0], mp_c (.bipush 60) 60, mp_i (.iload_n 1), mp_i (.iload_n 2)] (by decide +kernel) ?_
        refine And.intro rfl (And.intro rfl ?_)
        show mp_W E X 4 100 [(3, .int i_31), (0, .ref a0), (1, .int 4), (2, .int 0)] [.int 0, .int 4, .int 60, .ref a7] w7_ 0 0
        refine mp_callS hF (As := [.ref a7, .int 60, .int 4, .int 0]) (rest := []) (wr := [(mp_ob10 a0 y0 a8 a9 a10 a11 a12 y1 y2 y3 y4 y5 y6 y7 y8 y9 y10 a1 a2 a3 a4 a5 a6 a7 a13 y11 a14 a15 a16 a17 y12 y13 y14 a18 a19 y15 y16 a20 a21 a22 y17 y18 y19 y20 a23 a24 a25 y21), (mp_arI E a4 3 3000 g_32), (mp_arI E a1 0 5 g_4), (mp_arI E a2 0 25 g_9), (mp_arI E a3 0 180 g_28), (mp_arI E a5 0 90 g_47), (mp_arI E a6 0 300 g_60)]) (bX10_copyRow_50 E a7 f6 p13) mp_lkX10_251 [2] [0, 1, 3, 4, 5, 6, 7] rfl rfl rfl rfl rfl ⟨(Nat.le_of_ble_eq_true rfl), (Nat.le_of_ble_eq_true rfl), (Nat.le_of_ble_eq_true rfl), (Nat.le_of_ble_eq_true rfl)⟩ (Nat.le_of_ble_eq_true rfl) (by first | exact mp_fd_ok mp_k_cX10_copyIsles_ok (by decide +kernel) | decide +kernel) (fun v_74 w_75 h_76 => ?_)
        obtain ⟨g_77, rfl, p_78, x_79, rfl⟩ := h_76
        let w8_ : va_W := [(mp_ob10 a0 y0 a8 a9 a10 a11 a12 y1 y2 y3 y4 y5 y6 y7 y8 y9 y10 a1 a2 a3 a4 a5 a6 a7 a13 y11 a14 a15 a16 a17 y12 y13 y14 a18 a19 y15 y16 a20 a21 a22 y17 y18 y19 y20 a23 a24 a25 y21), (mp_arI E a4 3 3000 g_32), (mp_arI E a1 0 5 g_4), (mp_arI E a2 0 25 g_9), (mp_arI E a3 0 180 g_28), (mp_arI E a5 0 90 g_47), (mp_arI E a6 0 300 g_60), (mp_arI E a7 0 300 g_77)]
        show mp_W E X 4 103 [(3, .int i_31), (0, .ref a0), (1, .int 4), (2, .int 0)] [] w8_ 0 0
        exact mp_vret hF hQ rfl (Nat.le_of_ble_eq_true rfl) (Nat.le_of_ble_eq_true rfl) [0, 2, 3, 4, 1, 5, 6, 7] (w' := [(mp_ob10 a0 y0 a8 a9 a10 a11 a12 y1 y2 y3 y4 y5 y6 y7 y8 y9 y10 a1 a2 a3 a4 a5 a6 a7 a13 y11 a14 a15 a16 a17 y12 y13 y14 a18 a19 y15 y16 a20 a21 a22 y17 y18 y19 y20 a23 a24 a25 y21), (mp_arI E a1 0 5 g_4), (mp_arI E a2 0 25 g_9), (mp_arI E a3 0 180 g_28), (mp_arI E a4 3 3000 g_32), (mp_arI E a5 0 90 g_47), (mp_arI E a6 0 300 g_60), (mp_arI E a7 0 300 g_77)]) rfl rfl ⟨g_4, g_9, g_28, g_32, g_47, g_60, g_77, rfl, p_10, p_11, p_12, p_13, p_14, p_29, p_35, p_48, p_49, p_61, p_62, p_63, p_64, p_78, x_5, x_15, x_30, x_50, x_65, x_79, (by have k9 := x_36; rw [show i_31.toInt.toNat = 600 by omega] at k9; exact k9), rfl⟩ (by first | exact mp_fd_ok mp_k_cX10_copyIsles_ok (by decide +kernel) | decide +kernel)
      · have c_43 : i_31.toInt < 600 := c_43
        let w9_ : va_W := [(mp_ob10 a0 y0 a8 a9 a10 a11 a12 y1 y2 y3 y4 y5 y6 y7 y8 y9 y10 a1 a2 a3 a4 a5 a6 a7 a13 y11 a14 a15 a16 a17 y12 y13 y14 a18 a19 y15 y16 a20 a21 a22 y17 y18 y19 y20 a23 a24 a25 y21), (mp_arI E a4 3 3000 g_32), (mp_arI E a5 0 90 f4), (mp_arI E a6 0 300 f5), (mp_arI E a7 0 300 f6), (mp_arI E a1 0 5 g_4), (mp_arI E a2 0 25 g_9), (mp_arI E a3 0 180 g_28)]
        show mp_W E X 4 40 [(3, .int i_31), (0, .ref a0), (1, .int 4), (2, .int 0)] [] w9_ 0 0
        refine mp_run mp_k_cX10_copyIsles_ok hF mp_tabX10_ok [mp_i (.aload_n 0), mp_h (.getfield 40) [19, 0], mp_c (.sipush 600) 600, mp_i (.iload_n 2), mp_i .imul, mp_i (.iload_n 3), mp_i .iadd, mp_i (.aload_n 0), mp_h (.getfield 40) [19, 0], mp_c (.sipush 600) 600, mp_i (.iload_n 1), mp_i .imul, mp_i (.iload_n 3), mp_i .iadd, mp_h .baload [1, 0], mp_h .bastore [1, 0]] (by decide +kernel) ?_
        refine And.intro rfl (And.intro rfl ?_)
        intro z_80 h_81
        obtain rfl : z_80 = 0 := h_81.trans (by decide)
        intro z_82 h_83
        have e_84 : z_82.toInt = 0 + i_31.toInt := mp_add (a := 0) (b := i_31.toInt) h_83 (by decide) rfl (by omega) (by omega)
        refine And.intro rfl (And.intro rfl ?_)
        intro z_85 h_86
        obtain rfl : z_85 = 2400 := h_86.trans (by decide)
        intro z_87 h_88
        have e_89 : z_87.toInt = 2400 + i_31.toInt := mp_add (a := 2400) (b := i_31.toInt) h_88 (by decide) rfl (by omega) (by omega)
        refine And.intro rfl (And.intro rfl (And.intro (vp_in_iff.mpr (by omega)) ?_))
        intro z_90 h_91
        have e_92 : 0 ≤ z_90.toInt ∧ z_90.toInt ≤ 1 := mp_all_ld h_91 p_35 (by omega) (by omega)
        refine And.intro rfl (And.intro rfl (And.intro (vp_in_iff.mpr (by omega)) ?_))
        intro g_93 h_94
        have h_95 : g_93 = upd g_32 z_82.toNatClampNeg z_90 := h_94.trans (congrArg (upd _ _) (mp_narb (by omega) (by omega)))
        have p_96 : mp_all g_93 3000 0 1 := mp_all_st h_95 p_35 e_92.1 e_92.2
        let w10_ : va_W := [(mp_ob10 a0 y0 a8 a9 a10 a11 a12 y1 y2 y3 y4 y5 y6 y7 y8 y9 y10 a1 a2 a3 a4 a5 a6 a7 a13 y11 a14 a15 a16 a17 y12 y13 y14 a18 a19 y15 y16 a20 a21 a22 y17 y18 y19 y20 a23 a24 a25 y21), (mp_arI E a4 3 3000 g_93), (mp_arI E a5 0 90 f4), (mp_arI E a6 0 300 f5), (mp_arI E a7 0 300 f6), (mp_arI E a1 0 5 g_4), (mp_arI E a2 0 25 g_9), (mp_arI E a3 0 180 g_28)]
        show mp_W E X 4 64 [(3, .int i_31), (0, .ref a0), (1, .int 4), (2, .int 0)] [] w10_ 0 0
        refine mp_run mp_k_cX10_copyIsles_ok hF mp_tabX10_ok [mp_c (.iinc 3 1) 1, mp_h (.goto (-34)) [33]] (by decide +kernel) ?_
        intro z_97 h_98
        have e_99 : z_97.toInt = i_31.toInt + 1 := mp_add (a := i_31.toInt) (b := 1) h_98 rfl (by decide) (by omega) (by omega)
        show mp_W E X 4 33 [(3, .int z_97), (0, .ref a0), (1, .int 4), (2, .int 0)] [] w10_ 0 0
        exact mp_sub [0, 1, 2, 3] rfl [0, 1, 2, 3, 4, 5, 6, 7] rfl rfl (ih_41 (d_40 - 1) (by omega) z_97 g_93 (by omega) (by omega) p_96 (mp_cpr_st (m := 600) h_95 h_91 x_36 (by omega) (by omega) (by omega) (by omega) (by omega)) (by omega) (by omega) (by omega))
  exact mp_sub [0, 1, 2, 3] rfl [0, 1, 2, 3, 4, 5, 6, 7] rfl rfl (lp_39 _ 0 f3 (by decide) (by decide) p6 (mp_cpr_0 (by decide)) (by decide) (by decide) (Int.self_le_toNat _))
