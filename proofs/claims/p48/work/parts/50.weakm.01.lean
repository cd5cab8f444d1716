set_option maxHeartbeats 4000000 in
set_option maxRecDepth 100000 in
theorem bX10_goesOn_111 (E : mp_E) : ∀ (d : Nat) (a0 a1 a2 a3 a4 a5 a6 a7 a8 a9 a10 a11 a12 a13 a14 a15 a16 a17 a18 a19 a20 a21 a22 a23 a24 a25 : Nat) (f0 : Nat → Int32) (f1 : Nat → Int32) (f2 : Nat → Int32) (f3 : Nat → Int32) (f4 : Nat → Int32) (f5 : Nat → Int32) (f6 : Nat → Int32) (f7 : Nat → Int64) (y0 : Int32) (y1 : Int32) (y2 : Int32) (y3 : Int32) (y4 : Int32) (y5 : Int32) (y6 : Int64) (y7 : Int32) (y8 : Int32) (y9 : Int32) (y10 : Int32) (y11 : Int32) (y12 : Int32) (y13 : Int32) (y14 : Int32) (y15 : Int32) (y16 : Int32) (y17 : Int32) (y18 : Int32) (y19 : Int32) (y20 : Int32) (y21 : Int32) (x0 : Int32) (x1 : Int32) (x2 : Int32) (p0 : mp_res f0 25 5 0 0 6) (p1 : mp_res f0 25 5 1 0 99) (p2 : mp_res f0 25 5 2 0 6) (p3 : mp_res f0 25 5 3 0 10) (p4 : mp_res f0 25 5 4 0 60) (p5 : mp_all f1 180 0 20) (p6 : mp_all f2 3000 0 1) (p7 : mp_res f3 90 3 0 0 5) (p8 : mp_res f3 90 3 1 (-1) 99) (p9 : mp_res f4 300 6 0 0 5) (p10 : mp_res f4 300 6 1 0 5) (p11 : mp_res f4 300 6 3 0 99) (p12 : mp_res f4 300 6 4 0 1) (p13 : mp_all f5 6 0 5) (l_x0 : 0 ≤ x0.toInt) (u_x0 : x0.toInt ≤ 12) (l_x1 : 0 ≤ x1.toInt) (u_x1 : x1.toInt ≤ 5) (l_y1 : 0 ≤ y1.toInt) (u_y1 : y1.toInt ≤ 1600) (l_y2 : 0 ≤ y2.toInt) (u_y2 : y2.toInt ≤ 1600) (l_y3 : 0 ≤ y3.toInt) (u_y3 : y3.toInt ≤ 4) (l_y4 : 0 ≤ y4.toInt) (u_y4 : y4.toInt ≤ 1600) (l_y11 : 0 ≤ y11.toInt) (u_y11 : y11.toInt ≤ 99) (l_y12 : 0 ≤ y12.toInt) (u_y12 : y12.toInt ≤ 5) (l_y13 : 0 ≤ y13.toInt) (u_y13 : y13.toInt ≤ 12) (q0 : x0.toInt ≤ y13.toInt) (q1 : y11.toInt + y13.toInt ≤ 99) (q2 : mp_allg ((f1, f2, f3, f4, f5, f0), y14, y12.toInt) y11.toInt y13.toInt (f0 0).toInt f6 (x0.toInt.toNat + 1)) (q3 : x0.toInt = 0 ∨ x2 = mp_resv ((f1, f2, f3, f4, f5, f0), y14, y12.toInt) x1.toInt (y11.toInt + x0.toInt)), y13.toInt - x0.toInt < (d : Int) → mp_Ct E yX10_goesOn cX10_goesOn 9 none (3 + 1 * d) 0 0 (72 + 28 * d) [.ref a0, .int x0, .int x1, .int x2] [(mp_ob10 a0 y0 a9 a10 a11 a12 a13 y1 y2 y3 y4 y5 y6 y7 y8 y9 y10 a14 a1 a2 a3 a4 a5 a15 a16 y11 a6 a17 a18 a19 y12 y13 y14 a7 a8 y15 y16 a20 a21 a22 y17 y18 y19 y20 a23 a24 a25 y21), (mp_arI E a1 0 25 f0), (mp_arI E a2 0 180 f1), (mp_arI E a3 3 3000 f2), (mp_arI E a4 0 90 f3), (mp_arI E a5 0 300 f4), (mp_arI E a6 0 6 f5), (mp_arI E a7 0 78 f6), (mp_arL E a8 78 f7)] (fun v w' => ∃ h1 : Nat → Int32, ∃ h2 : Nat → Int64, v = none ∧ (mp_GP ((f1, f2, f3, f4, f5, f0), y14, y12.toInt) y11.toInt y13.toInt (f0 0).toInt f6 h1 x0.toInt.toNat x1.toInt.toNat x2) ∧ w' = [(mp_ob10 a0 y0 a9 a10 a11 a12 a13 y1 y2 y3 y4 y5 y6 y7 y8 y9 y10 a14 a1 a2 a3 a4 a5 a15 a16 y11 a6 a17 a18 a19 y12 y13 y14 a7 a8 y15 y16 a20 a21 a22 y17 y18 y19 y20 a23 a24 a25 y21), (mp_arI E a1 0 25 f0), (mp_arI E a2 0 180 f1), (mp_arI E a3 3 3000 f2), (mp_arI E a4 0 90 f3), (mp_arI E a5 0 300 f4), (mp_arI E a6 0 6 f5), (mp_arI E a7 0 78 h1), (mp_arL E a8 78 h2)]) := by
  intro d
  induction d using Nat.strongRecOn with
  | ind d ih_d =>
  intro a0 a1 a2 a3 a4 a5 a6 a7 a8 a9 a10 a11 a12 a13 a14 a15 a16 a17 a18 a19 a20 a21 a22 a23 a24 a25 f0 f1 f2 f3 f4 f5 f6 f7 y0 y1 y2 y3 y4 y5 y6 y7 y8 y9 y10 y11 y12 y13 y14 y15 y16 y17 y18 y19 y20 y21 x0 x1 x2 p0 p1 p2 p3 p4 p5 p6 p7 p8 p9 p10 p11 p12 p13 l_x0 u_x0 l_x1 u_x1 l_y1 u_y1 l_y2 u_y2 l_y3 u_y3 l_y4 u_y4 l_y11 u_y11 l_y12 u_y12 l_y13 u_y13 q0 q1 q2 q3 hd_d
  refine mp_met false (by decide) (by decide) (Nat.le_of_ble_eq_true rfl) (fun X hF hQ => ?_)
  have hF : mp_F E X (RX10, cX10_goesOn, 9, (3 + 1 * d, 0, 0, 72 + 28 * d), none, false) := hF
  let w1_ : va_W := [(mp_ob10 a0 y0 a9 a10 a11 a12 a13 y1 y2 y3 y4 y5 y6 y7 y8 y9 y10 a14 a1 a2 a3 a4 a5 a15 a16 y11 a6 a17 a18 a19 y12 y13 y14 a7 a8 y15 y16 a20 a21 a22 y17 y18 y19 y20 a23 a24 a25 y21), (mp_arI E a1 0 25 f0), (mp_arI E a2 0 180 f1), (mp_arI E a3 3 3000 f2), (mp_arI E a4 0 90 f3), (mp_arI E a5 0 300 f4), (mp_arI E a6 0 6 f5), (mp_arI E a7 0 78 f6), (mp_arL E a8 78 f7)]
  show mp_W E X 9 0 [(0, .ref a0), (1, .int x0), (2, .int x1), (3, .int x2)] [] w1_ 0 0
  refine mp_run mp_k_cX10_goesOn_ok hF mp_tabX10_ok [mp_c (.bipush 6) 6, mp_i (.iload_n 1), mp_i .imul, mp_i (.iload_n 2), mp_i .iadd, mp_i (.istore 4), mp_i (.aload_n 0), mp_h (.getfield 68) [32, 0], mp_i (.iload 4), mp_c (.ldc 142) 1000000, mp_h .iastore [7]] (by first | decide +kernel | (dsimp only; decide +kernel)) ?_
  intro z_1 h_2
  have e_3 : z_1.toInt = 6 * x0.toInt := mp_mul (a := 6) (b := x0.toInt) h_2 (by decide) rfl (by omega) (by omega)
  intro z_4 h_5
  have e_6 : z_4.toInt = z_1.toInt + x1.toInt := mp_add (a := z_1.toInt) (b := x1.toInt) h_5 rfl rfl (by omega) (by omega)
  refine And.intro rfl (And.intro rfl ?_)
  refine And.intro rfl (And.intro rfl (And.intro (vp_in_iff.mpr (by omega)) ?_))
  intro g_7 h_8
  let w2_ : va_W := [(mp_ob10 a0 y0 a9 a10 a11 a12 a13 y1 y2 y3 y4 y5 y6 y7 y8 y9 y10 a14 a1 a2 a3 a4 a5 a15 a16 y11 a6 a17 a18 a19 y12 y13 y14 a7 a8 y15 y16 a20 a21 a22 y17 y18 y19 y20 a23 a24 a25 y21), (mp_arI E a1 0 25 f0), (mp_arI E a2 0 180 f1), (mp_arI E a3 3 3000 f2), (mp_arI E a4 0 90 f3), (mp_arI E a5 0 300 f4), (mp_arI E a6 0 6 f5), (mp_arI E a7 0 78 g_7), (mp_arL E a8 78 f7)]
  show mp_W E X 9 17 [(4, .int z_4), (0, .ref a0), (1, .int x0), (2, .int x1), (3, .int x2)] [] w2_ 0 0
  refine mp_run mp_k_cX10_goesOn_ok hF mp_tabX10_ok [mp_i (.aload_n 0), mp_h (.getfield 71) [33, 0], mp_i (.iload 4), mp_cl (.lconst 0) 0, mp_h .lastore [8]] (by first | decide +kernel | (dsimp only; decide +kernel)) ?_
  refine And.intro rfl (And.intro rfl ?_)
  refine And.intro rfl (And.intro rfl (And.intro (vp_in_iff.mpr (by omega)) ?_))
  intro g_9 h_10
  let w3_ : va_W := [(mp_ob10 a0 y0 a9 a10 a11 a12 a13 y1 y2 y3 y4 y5 y6 y7 y8 y9 y10 a14 a1 a2 a3 a4 a5 a15 a16 y11 a6 a17 a18 a19 y12 y13 y14 a7 a8 y15 y16 a20 a21 a22 y17 y18 y19 y20 a23 a24 a25 y21), (mp_arI E a1 0 25 f0), (mp_arI E a2 0 180 f1), (mp_arI E a3 3 3000 f2), (mp_arI E a4 0 90 f3), (mp_arI E a5 0 300 f4), (mp_arI E a6 0 6 f5), (mp_arI E a7 0 78 g_7), (mp_arL E a8 78 g_9)]
  show mp_W E X 9 25 [(4, .int z_4), (0, .ref a0), (1, .int x0), (2, .int x1), (3, .int x2)] [] w3_ 0 0
  refine mp_run mp_k_cX10_goesOn_ok hF mp_tabX10_ok [mp_i (.iload_n 1), mp_i (.aload_n 0), mp_h (.getfield 343) [30, 0], mp_h (.if_icmp .ne 20) [50]] (by first | decide +kernel | (dsimp only; decide +kernel)) ?_
  refine And.intro rfl (And.intro rfl ?_)
  refine And.intro (fun c_11 => ?_) (fun c_11 => ?_)
  · have c_11 : x0.toInt ≠ y13.toInt := c_11
    show mp_W E X 9 50 [(4, .int z_4), (0, .ref a0), (1, .int x0), (2, .int x1), (3, .int x2)] [] w3_ 0 0
    refine mp_run mp_k_cX10_goesOn_ok hF mp_tabX10_ok [mp_c (.iconst 0) 0, mp_i (.istore 5)] (by first | decide +kernel | (dsimp only; decide +kernel)) ?_
    show mp_W E X 9 53 [(5, .int 0), (4, .int z_4), (0, .ref a0), (1, .int x0), (2, .int x1), (3, .int x2)] [] w3_ 0 0
    have lp_18 : ∀ (d_19 : Nat) (i_12 : Int32) (g_13 : Nat → Int64) (g_14 : Nat → Int32), 0 ≤ i_12.toInt → i_12.toInt ≤ 6 → (mp_LG ((f1, f2, f3, f4, f5, f0), y14, y12.toInt) y11.toInt y13.toInt (f0 0).toInt f6 g_14 x0.toInt.toNat x1.toInt.toNat x2 i_12.toInt) → (f0 0).toInt - i_12.toInt ≤ (d_19 : Int) → mp_W E X 9 53 [(5, .int i_12), (4, .int z_4), (0, .ref a0), (1, .int x0), (2, .int x1), (3, .int x2)] [] [(mp_ob10 a0 y0 a9 a10 a11 a12 a13 y1 y2 y3 y4 y5 y6 y7 y8 y9 y10 a14 a1 a2 a3 a4 a5 a15 a16 y11 a6 a17 a18 a19 y12 y13 y14 a7 a8 y15 y16 a20 a21 a22 y17 y18 y19 y20 a23 a24 a25 y21), (mp_arI E a1 0 25 f0), (mp_arI E a2 0 180 f1), (mp_arI E a3 3 3000 f2), (mp_arI E a4 0 90 f3), (mp_arI E a5 0 300 f4), (mp_arI E a6 0 6 f5), (mp_arI E a7 0 78 g_14), (mp_arL E a8 78 g_13)] 0 0 := by
      intro d_19
      induction d_19 using Nat.strongRecOn with
      | ind d_19 ih_20 =>
        intro i_12 g_13 g_14 l_15 u_16 x_17 hm_21
        have e_22 := x_17.2.1
        refine mp_run mp_k_cX10_goesOn_ok hF mp_tabX10_ok [mp_i (.iload 5), mp_i (.aload_n 0), mp_h (.getfield 34) [17, 0], mp_c (.iconst 0) 0, mp_h .iaload [1], mp_h (.if_icmp .ge 149) [210]] (by first | decide +kernel | (dsimp only; decide +kernel)) ?_
        refine And.intro rfl (And.intro rfl ?_)
        refine And.intro rfl (And.intro rfl (And.intro (vp_in_iff.mpr (by decide)) ?_))
        intro z_23 h_24
        have e_25 : 0 ≤ z_23.toInt ∧ z_23.toInt ≤ 6 := mp_res_ld h_24 p0 (by decide) (by decide) (by decide)
        have e_26 : z_23.toInt = (f0 0).toInt := congrArg Int32.toInt (mp_at h_24 (by decide) rfl)
        refine And.intro (fun c_27 => ?_) (fun c_27 => ?_)
        · have c_27 : z_23.toInt ≤ i_12.toInt := c_27
          let w4_ : va_W := [(mp_ob10 a0 y0 a9 a10 a11 a12 a13 y1 y2 y3 y4 y5 y6 y7 y8 y9 y10 a14 a1 a2 a3 a4 a5 a15 a16 y11 a6 a17 a18 a19 y12 y13 y14 a7 a8 y15 y16 a20 a21 a22 y17 y18 y19 y20 a23 a24 a25 y21), (mp_arI E a1 0 25 f0), (mp_arI E a2 0 180 f1), (mp_arI E a3 3 3000 f2), (mp_arI E a4 0 90 f3), (mp_arI E a5 0 300 f4), (mp_arI E a6 0 6 f5), (mp_arI E a7 0 78 g_14), (mp_arL E a8 78 g_13)]
          show mp_W E X 9 210 [(5, .int i_12), (4, .int z_4), (0, .ref a0), (1, .int x0), (2, .int x1), (3, .int x2)] [] w4_ 0 0
          exact mp_vret hF hQ rfl (Nat.le_of_ble_eq_true rfl) (Nat.le_of_ble_eq_true rfl) [0, 1, 2, 3, 4, 5, 6, 7, 8] (w' := w4_) rfl rfl ⟨g_14, g_13, rfl, (mp_LG_end x_17 (by omega)), rfl⟩ (by first | exact mp_fd_ok mp_k_cX10_goesOn_ok (by decide +kernel) | decide +kernel | (dsimp only; decide +kernel))
        · have c_27 : i_12.toInt < z_23.toInt := c_27
          let w5_ : va_W := [(mp_ob10 a0 y0 a9 a10 a11 a12 a13 y1 y2 y3 y4 y5 y6 y7 y8 y9 y10 a14 a1 a2 a3 a4 a5 a15 a16 y11 a6 a17 a18 a19 y12 y13 y14 a7 a8 y15 y16 a20 a21 a22 y17 y18 y19 y20 a23 a24 a25 y21), (mp_arI E a1 0 25 f0), (mp_arI E a2 0 180 f1), (mp_arI E a3 3 3000 f2), (mp_arI E a4 0 90 f3), (mp_arI E a5 0 300 f4), (mp_arI E a6 0 6 f5), (mp_arI E a7 0 78 g_14), (mp_arL E a8 78 g_13)]
          show mp_W E X 9 64 [(5, .int i_12), (4, .int z_4), (0, .ref a0), (1, .int x0), (2, .int x1), (3, .int x2)] [] w5_ 0 0
          refine mp_run mp_k_cX10_goesOn_ok hF mp_tabX10_ok [mp_i (.aload_n 0), mp_i (.iload_n 2), mp_i (.iload 5), mp_i (.aload_n 0), mp_h (.getfield 276) [24, 0], mp_i (.iload_n 1), mp_i .iadd, mp_c (.iconst 1) 1, mp_i .iadd] (by first | decide +kernel | (dsimp only; decide +kernel)) ?_
          refine And.intro rfl (And.intro rfl ?_)
          intro z_28 h_29
          have e_30 : z_28.toInt = y11.toInt + x0.toInt := mp_add (a := y11.toInt) (b := x0.toInt) h_29 rfl rfl (by omega) (by omega)
          intro z_31 h_32
          have e_33 : z_31.toInt = z_28.toInt + 1 := mp_add (a := z_28.toInt) (b := 1) h_32 rfl (by decide) (by omega) (by omega)
          show mp_W E X 9 76 [(5, .int i_12), (4, .int z_4), (0, .ref a0), (1, .int x0), (2, .int x1), (3, .int x2)] [.int z_31, .int i_12, .int x1, .ref a0] w5_ 0 0
          refine mp_callV hF (As := [.int x1, .int i_12, .int z_31]) (rest := []) (wr := [(mp_arI E a1 0 25 f0), (mp_arI E a5 0 300 f4), (mp_arI E a6 0 6 f5), (mp_arI E a7 0 78 g_14), (mp_arL E a8 78 g_13)]) (bX10_oarsBy_108 E a0 a2 a3 a4 a9 a10 a11 a12 a13 a14 a1 a5 a15 a16 a6 a17 a18 a19 a7 a8 a20 a21 a22 a23 a24 a25 f1 f2 f3 y0 y1 y2 y3 y4 y5 y6 y7 y8 y9 y10 y11 y12 y13 y14 y15 y16 y17 y18 y19 y20 y21 x1 i_12 z_31 p5 p6 p7 p8 l_x1 u_x1 l_15 (by omega) (by omega) (by omega) l_y1 u_y1 l_y2 u_y2 l_y3 u_y3 l_y4 u_y4 l_y11 u_y11 l_y12 u_y12 l_y13 u_y13) mp_lkX10_346 0 rfl [0, 2, 3, 4] [1, 5, 6, 7, 8] rfl rfl rfl rfl rfl ⟨(Nat.le_trans (m := 3) (Nat.le_of_ble_eq_true rfl) (Nat.le_add_right _ _)), (Nat.le_trans (m := 72) (Nat.le_of_ble_eq_true rfl) (Nat.le_add_right _ _)), (Nat.le_of_ble_eq_true rfl), (Nat.le_of_ble_eq_true rfl)⟩ (Nat.le_of_ble_eq_true rfl) (by first | exact mp_fd_ok mp_k_cX10_goesOn_ok (by decide +kernel) | decide +kernel | (dsimp only; decide +kernel)) (fun v_34 w_35 h_36 => ?_)
          refine h_36.elim fun r_37 q_41 => q_41.elim fun e_42 q_43 => q_43.elim fun l_38 q_44 => q_44.elim fun u_39 q_45 => q_45.elim fun x_40 e_46 => ?_
          clear h_36 q_41 q_43 q_44 q_45
          subst e_42
          subst e_46
          have k_47 : r_37.toInt = mp_oarv ((f1, f2, f3, f4, f5, f0), y14, y12.toInt) ((x1.toInt.toNat : Nat) : Int) ((i_12.toInt.toNat : Nat) : Int) (y11.toInt + ((x0.toInt.toNat : Nat) : Int) + 1) := by rw [show ((x1.toInt.toNat : Nat) : Int) = x1.toInt by omega, show ((i_12.toInt.toNat : Nat) : Int) = i_12.toInt by omega, show y11.toInt + ((x0.toInt.toNat : Nat) : Int) + 1 = z_31.toInt by omega]; exact mp_oarv_of x_40
          have e_48 : 0 ≤ r_37.toInt := by rw [k_47]; exact mp_oarv_nn _ _ _ _
          let w6_ : va_W := [(mp_arI E a1 0 25 f0), (mp_arI E a5 0 300 f4), (mp_arI E a6 0 6 f5), (mp_arI E a7 0 78 g_14), (mp_arL E a8 78 g_13), (mp_ob10 a0 y0 a9 a10 a11 a12 a13 y1 y2 y3 y4 y5 y6 y7 y8 y9 y10 a14 a1 a2 a3 a4 a5 a15 a16 y11 a6 a17 a18 a19 y12 y13 y14 a7 a8 y15 y16 a20 a21 a22 y17 y18 y19 y20 a23 a24 a25 y21), (mp_arI E a2 0 180 f1), (mp_arI E a3 3 3000 f2), (mp_arI E a4 0 90 f3)]
          show mp_W E X 9 79 [(5, .int i_12), (4, .int z_4), (0, .ref a0), (1, .int x0), (2, .int x1), (3, .int x2)] [.int r_37] w6_ 0 0
          refine mp_run mp_k_cX10_goesOn_ok hF mp_tabX10_ok [mp_i (.istore 6), mp_i (.iload 6), mp_c (.ldc 142) 1000000, mp_h (.if_icmp .lt 7) [92]] (by first | decide +kernel | (dsimp only; decide +kernel)) ?_
          refine And.intro (fun c_49 => ?_) (fun c_49 => ?_)
          · have c_49 : r_37.toInt < 1000000 := c_49
            show mp_W E X 9 92 [(6, .int r_37), (5, .int i_12), (4, .int z_4), (0, .ref a0), (1, .int x0), (2, .int x1), (3, .int x2)] [] w6_ 0 0
            refine mp_run mp_k_cX10_goesOn_ok hF mp_tabX10_ok [mp_i (.aload_n 0), mp_i (.iload_n 3), mp_i (.iload 5), mp_i (.aload_n 0), mp_h (.getfield 276) [24, 5], mp_i (.iload_n 1), mp_i .iadd, mp_c (.iconst 1) 1, mp_i .iadd] (by first | decide +kernel | (dsimp only; decide +kernel)) ?_
            refine And.intro rfl (And.intro rfl ?_)
            intro z_50 h_51
            have e_52 : z_50.toInt = y11.toInt + x0.toInt := mp_add (a := y11.toInt) (b := x0.toInt) h_51 rfl rfl (by omega) (by omega)
            intro z_53 h_54
            have e_55 : z_53.toInt = z_50.toInt + 1 := mp_add (a := z_50.toInt) (b := 1) h_54 rfl (by decide) (by omega) (by omega)
            show mp_W E X 9 104 [(6, .int r_37), (5, .int i_12), (4, .int z_4), (0, .ref a0), (1, .int x0), (2, .int x1), (3, .int x2)] [.int z_53, .int i_12, .int x2, .ref a0] w6_ 0 0
            refine mp_callV hF (As := [.int x2, .int i_12, .int z_53]) (rest := []) (wr := [(mp_arI E a7 0 78 g_14), (mp_arL E a8 78 g_13)]) (bX10_onceBehind_110 E a0 a1 a2 a3 a4 a5 a6 a9 a10 a11 a12 a13 a14 a15 a16 a17 a18 a19 a7 a8 a20 a21 a22 a23 a24 a25 f0 f1 f2 f3 f4 f5 y0 y1 y2 y3 y4 y5 y6 y7 y8 y9 y10 y11 y12 y13 y14 y15 y16 y17 y18 y19 y20 y21 x2 i_12 z_53 p0 p1 p2 p3 p4 p5 p6 p7 p8 p9 p10 p11 p12 p13 l_y1 u_y1 l_y2 u_y2 l_y3 u_y3 l_y4 u_y4 l_y11 u_y11 l_y12 u_y12 l_y13 u_y13) mp_lkX10_349 5 rfl [5, 0, 6, 7, 8, 1, 2] [3, 4] rfl rfl rfl rfl rfl ⟨(Nat.le_trans (m := 3) (Nat.le_of_ble_eq_true rfl) (Nat.le_add_right _ _)), (Nat.le_trans (m := 72) (Nat.le_of_ble_eq_true rfl) (Nat.le_add_right _ _)), (Nat.le_of_ble_eq_true rfl), (Nat.le_of_ble_eq_true rfl)⟩ (Nat.le_of_ble_eq_true rfl) (by first | exact mp_fd_ok mp_k_cX10_goesOn_ok (by decide +kernel) | decide +kernel | (dsimp only; decide +kernel)) (fun v_56 w_57 h_58 => ?_)
            obtain ⟨r_59, rfl, x_60, rfl⟩ := h_58
            have k_61 : r_59 = mp_oncv ((f1, f2, f3, f4, f5, f0), y14, y12.toInt) x2 ((i_12.toInt.toNat : Nat) : Int) (y11.toInt + ((x0.toInt.toNat : Nat) : Int) + 1) := by rw [show ((i_12.toInt.toNat : Nat) : Int) = i_12.toInt by omega, show y11.toInt + ((x0.toInt.toNat : Nat) : Int) + 1 = z_53.toInt by omega]; exact x_60
            let w7_ : va_W := [(mp_arI E a7 0 78 g_14), (mp_arL E a8 78 g_13), (mp_ob10 a0 y0 a9 a10 a11 a12 a13 y1 y2 y3 y4 y5 y6 y7 y8 y9 y10 a14 a1 a2 a3 a4 a5 a15 a16 y11 a6 a17 a18 a19 y12 y13 y14 a7 a8 y15 y16 a20 a21 a22 y17 y18 y19 y20 a23 a24 a25 y21), (mp_arI E a1 0 25 f0), (mp_arI E a2 0 180 f1), (mp_arI E a3 3 3000 f2), (mp_arI E a4 0 90 f3), (mp_arI E a5 0 300 f4), (mp_arI E a6 0 6 f5)]
            show mp_W E X 9 107 [(6, .int r_37), (5, .int i_12), (4, .int z_4), (0, .ref a0), (1, .int x0), (2, .int x1), (3, .int x2)] [.int r_59] w7_ 0 0
            refine mp_run mp_k_cX10_goesOn_ok hF mp_tabX10_ok [mp_i (.istore 7), mp_i (.iload 7), mp_c (.iconst (-1)) (-1), mp_h (.if_icmp .ne 6) [118]] (by first | decide +kernel | (dsimp only; decide +kernel)) ?_
            refine And.intro (fun c_62 => ?_) (fun c_62 => ?_)
            · have c_62 : r_59.toInt ≠ (-1) := c_62
              show mp_W E X 9 118 [(7, .int r_59), (6, .int r_37), (5, .int i_12), (4, .int z_4), (0, .ref a0), (1, .int x0), (2, .int x1), (3, .int x2)] [] w7_ 0 0
              refine mp_run mp_k_cX10_goesOn_ok hF mp_tabX10_ok [mp_c (.bipush 6) 6, mp_i (.iload_n 1), mp_c (.iconst 1) 1, mp_i .iadd, mp_i .imul, mp_i (.iload 5), mp_i .iadd, mp_i (.istore 8), mp_i (.aload_n 0), mp_h (.getfield 68) [32, 2], mp_i (.iload 8), mp_h .iaload [0], mp_h (.ifCond .ge 14) [150]] (by first | decide +kernel | (dsimp only; decide +kernel)) ?_
              intro z_63 h_64
              have e_65 : z_63.toInt = x0.toInt + 1 := mp_add (a := x0.toInt) (b := 1) h_64 rfl (by decide) (by omega) (by omega)
              intro z_66 h_67
              have e_68 : z_66.toInt = 6 * z_63.toInt := mp_mul (a := 6) (b := z_63.toInt) h_67 (by decide) rfl (by omega) (by omega)
              intro z_69 h_70
              have e_71 : z_69.toInt = z_66.toInt + i_12.toInt := mp_add (a := z_66.toInt) (b := i_12.toInt) h_70 rfl rfl (by omega) (by omega)
              refine And.intro rfl (And.intro rfl ?_)
              refine And.intro rfl (And.intro rfl (And.intro (vp_in_iff.mpr (by omega)) ?_))
              intro z_72 h_73
              have e_75 : z_72.toInt = (g_14 (6 * (x0.toInt.toNat + 1) + i_12.toInt.toNat)).toInt := mp_at_i h_73 (by omega)
              refine And.intro (fun c_76 => ?_) (fun c_76 => ?_)
              · have c_76 : 0 ≤ z_72.toInt := c_76
                show mp_W E X 9 150 [(8, .int z_69), (7, .int r_59), (6, .int r_37), (5, .int i_12), (4, .int z_4), (0, .ref a0), (1, .int x0), (2, .int x1), (3, .int x2)] [] w7_ 0 0
                have e_77 := mp_LG_bd (t := i_12.toInt.toNat) x_17 (by omega) (by omega) (by omega)
                refine mp_run mp_k_cX10_goesOn_ok hF mp_tabX10_ok [mp_i (.aload_n 0), mp_h (.getfield 68) [32, 2], mp_i (.iload 8), mp_h .iaload [0], mp_i (.iload 6), mp_i .iadd, mp_i (.aload_n 0), mp_h (.getfield 68) [32, 2], mp_i (.iload 4), mp_h .iaload [0], mp_h (.if_icmp .ge 20) [187]] (by first | decide +kernel | (dsimp only; decide +kernel)) ?_
                refine And.intro rfl (And.intro rfl ?_)
                refine And.intro rfl (And.intro rfl (And.intro (vp_in_iff.mpr (by omega)) ?_))
                intro z_78 h_79
                have k_80 : z_72 = z_78 := h_73.trans h_79.symm
                subst k_80
                intro z_81 h_82
                have e_83 : z_81.toInt = z_72.toInt + r_37.toInt := mp_add (a := z_72.toInt) (b := r_37.toInt) h_82 rfl rfl (by omega) (by omega)
                refine And.intro rfl (And.intro rfl ?_)
                refine And.intro rfl (And.intro rfl (And.intro (vp_in_iff.mpr (by omega)) ?_))
                intro z_84 h_85
                have e_87 : z_84.toInt = (g_14 (6 * x0.toInt.toNat + x1.toInt.toNat)).toInt := mp_at_i h_85 (by omega)
                refine And.intro (fun c_88 => ?_) (fun c_88 => ?_)
                · have c_88 : z_84.toInt ≤ z_81.toInt := c_88
                  show mp_W E X 9 187 [(8, .int z_69), (7, .int r_59), (6, .int r_37), (5, .int i_12), (4, .int z_4), (0, .ref a0), (1, .int x0), (2, .int x1), (3, .int x2)] [] w7_ 0 0
                  refine mp_run mp_k_cX10_goesOn_ok hF mp_tabX10_ok [mp_i (.aload_n 0), mp_h (.getfield 71) [33, 2], mp_i (.iload 4), mp_i .dup2, mp_h .laload [1], mp_i (.aload_n 0), mp_h (.getfield 71) [33, 2], mp_i (.iload 8), mp_h .laload [1], mp_i .ladd, mp_h .lastore [1]] (by first | decide +kernel | (dsimp only; decide +kernel)) ?_
                  refine And.intro rfl (And.intro rfl ?_)
                  refine And.intro rfl (And.intro rfl (And.intro (vp_in_iff.mpr (by omega)) ?_))
                  intro z_89 h_90
                  refine And.intro rfl (And.intro rfl ?_)
                  refine And.intro rfl (And.intro rfl (And.intro (vp_in_iff.mpr (by omega)) ?_))
                  intro z_91 h_92
                  intro z_93 h_94
                  refine And.intro rfl (And.intro rfl (And.intro (vp_in_iff.mpr (by omega)) ?_))
                  intro g_95 h_96
                  let w8_ : va_W := [(mp_arI E a7 0 78 g_14), (mp_arL E a8 78 g_95), (mp_ob10 a0 y0 a9 a10 a11 a12 a13 y1 y2 y3 y4 y5 y6 y7 y8 y9 y10 a14 a1 a2 a3 a4 a5 a15 a16 y11 a6 a17 a18 a19 y12 y13 y14 a7 a8 y15 y16 a20 a21 a22 y17 y18 y19 y20 a23 a24 a25 y21), (mp_arI E a1 0 25 f0), (mp_arI E a2 0 180 f1), (mp_arI E a3 3 3000 f2), (mp_arI E a4 0 90 f3), (mp_arI E a5 0 300 f4), (mp_arI E a6 0 6 f5)]
                  show mp_W E X 9 204 [(8, .int z_69), (7, .int r_59), (6, .int r_37), (5, .int i_12), (4, .int z_4), (0, .ref a0), (1, .int x0), (2, .int x1), (3, .int x2)] [] w8_ 0 0
                  refine mp_run mp_k_cX10_goesOn_ok hF mp_tabX10_ok [mp_c (.iinc 5 1) 1, mp_h (.goto (-154)) [53]] (by first | decide +kernel | (dsimp only; decide +kernel)) ?_
                  intro z_97 h_98
                  have e_99 : z_97.toInt = i_12.toInt + 1 := mp_add (a := i_12.toInt) (b := 1) h_98 rfl (by decide) (by omega) (by omega)
                  show mp_W E X 9 53 [(5, .int z_97), (8, .int z_69), (7, .int r_59), (6, .int r_37), (4, .int z_4), (0, .ref a0), (1, .int x0), (2, .int x1), (3, .int x2)] [] w8_ 0 0
                  exact mp_sub [0, 4, 5, 6, 7, 8] rfl [2, 3, 4, 5, 6, 7, 8, 0, 1] rfl rfl (ih_20 (d_19 - 1) (by omega) z_97 g_95 g_14 (by omega) (by omega) (mp_LG_next x_17 (T := i_12.toInt.toNat) (by omega) (by omega) (by omega)) (by omega))
                · have c_88 : z_81.toInt < z_84.toInt := c_88
                  show mp_W E X 9 170 [(8, .int z_69), (7, .int r_59), (6, .int r_37), (5, .int i_12), (4, .int z_4), (0, .ref a0), (1, .int x0), (2, .int x1), (3, .int x2)] [] w7_ 0 0
                  refine mp_run mp_k_cX10_goesOn_ok hF mp_tabX10_ok [mp_i (.aload_n 0), mp_h (.getfield 68) [32, 2], mp_i (.iload 4), mp_i (.aload_n 0), mp_h (.getfield 68) [32, 2], mp_i (.iload 8), mp_h .iaload [0], mp_i (.iload 6), mp_i .iadd, mp_h .iastore [0]] (by first | decide +kernel | (dsimp only; decide +kernel)) ?_
                  refine And.intro rfl (And.intro rfl ?_)
                  refine And.intro rfl (And.intro rfl ?_)
                  refine And.intro rfl (And.intro rfl (And.intro (vp_in_iff.mpr (by omega)) ?_))
                  intro z_100 h_101
                  have k_102 : z_72 = z_100 := h_73.trans h_101.symm
                  subst k_102
                  intro z_103 h_104
                  have e_105 : z_103.toInt = z_72.toInt + r_37.toInt := mp_add (a := z_72.toInt) (b := r_37.toInt) h_104 rfl rfl (by omega) (by omega)
                  refine And.intro rfl (And.intro rfl (And.intro (vp_in_iff.mpr (by omega)) ?_))
                  intro g_106 h_107
                  let w9_ : va_W := [(mp_arI E a7 0 78 g_106), (mp_arL E a8 78 g_13), (mp_ob10 a0 y0 a9 a10 a11 a12 a13 y1 y2 y3 y4 y5 y6 y7 y8 y9 y10 a14 a1 a2 a3 a4 a5 a15 a16 y11 a6 a17 a18 a19 y12 y13 y14 a7 a8 y15 y16 a20 a21 a22 y17 y18 y19 y20 a23 a24 a25 y21), (mp_arI E a1 0 25 f0), (mp_arI E a2 0 180 f1), (mp_arI E a3 3 3000 f2), (mp_arI E a4 0 90 f3), (mp_arI E a5 0 300 f4), (mp_arI E a6 0 6 f5)]
                  show mp_W E X 9 187 [(8, .int z_69), (7, .int r_59), (6, .int r_37), (5, .int i_12), (4, .int z_4), (0, .ref a0), (1, .int x0), (2, .int x1), (3, .int x2)] [] w9_ 0 0
                  refine mp_run mp_k_cX10_goesOn_ok hF mp_tabX10_ok [mp_i (.aload_n 0), mp_h (.getfield 71) [33, 2], mp_i (.iload 4), mp_i .dup2, mp_h .laload [1], mp_i (.aload_n 0), mp_h (.getfield 71) [33, 2], mp_i (.iload 8), mp_h .laload [1], mp_i .ladd, mp_h .lastore [1]] (by first | decide +kernel | (dsimp only; decide +kernel)) ?_
                  refine And.intro rfl (And.intro rfl ?_)
                  refine And.intro rfl (And.intro rfl (And.intro (vp_in_iff.mpr (by omega)) ?_))
                  intro z_108 h_109
                  refine And.intro rfl (And.intro rfl ?_)
                  refine And.intro rfl (And.intro rfl (And.intro (vp_in_iff.mpr (by omega)) ?_))
                  intro z_110 h_111
                  intro z_112 h_113
                  refine And.intro rfl (And.intro rfl (And.intro (vp_in_iff.mpr (by omega)) ?_))
                  intro g_114 h_115
                  let w10_ : va_W := [(mp_arI E a7 0 78 g_106), (mp_arL E a8 78 g_114), (mp_ob10 a0 y0 a9 a10 a11 a12 a13 y1 y2 y3 y4 y5 y6 y7 y8 y9 y10 a14 a1 a2 a3 a4 a5 a15 a16 y11 a6 a17 a18 a19 y12 y13 y14 a7 a8 y15 y16 a20 a21 a22 y17 y18 y19 y20 a23 a24 a25 y21), (mp_arI E a1 0 25 f0), (mp_arI E a2 0 180 f1), (mp_arI E a3 3 3000 f2), (mp_arI E a4 0 90 f3), (mp_arI E a5 0 300 f4), (mp_arI E a6 0 6 f5)]
                  show mp_W E X 9 204 [(8, .int z_69), (7, .int r_59), (6, .int r_37), (5, .int i_12), (4, .int z_4), (0, .ref a0), (1, .int x0), (2, .int x1), (3, .int x2)] [] w10_ 0 0
                  refine mp_run mp_k_cX10_goesOn_ok hF mp_tabX10_ok [mp_c (.iinc 5 1) 1, mp_h (.goto (-154)) [53]] (by first | decide +kernel | (dsimp only; decide +kernel)) ?_
                  intro z_116 h_117
                  have e_118 : z_116.toInt = i_12.toInt + 1 := mp_add (a := i_12.toInt) (b := 1) h_117 rfl (by decide) (by omega) (by omega)
                  show mp_W E X 9 53 [(5, .int z_116), (8, .int z_69), (7, .int r_59), (6, .int r_37), (4, .int z_4), (0, .ref a0), (1, .int x0), (2, .int x1), (3, .int x2)] [] w10_ 0 0
                  exact mp_sub [0, 4, 5, 6, 7, 8] rfl [2, 3, 4, 5, 6, 7, 8, 0, 1] rfl rfl (ih_20 (d_19 - 1) (by omega) z_116 g_114 g_106 (by omega) (by omega) (mp_LG_min (t := i_12.toInt.toNat) x_17 h_107 (by omega) (by omega) (by omega) (by omega) (by omega) (by omega) (by omega) (by rw [← k_61]; exact (fun q => c_62 (by rw [q]; rfl))) (by omega) (by omega)) (by omega))
              · have c_76 : z_72.toInt < 0 := c_76
                show mp_W E X 9 139 [(8, .int z_69), (7, .int r_59), (6, .int r_37), (5, .int i_12), (4, .int z_4), (0, .ref a0), (1, .int x0), (2, .int x1), (3, .int x2)] [] w7_ 0 0
                refine mp_run mp_k_cX10_goesOn_ok hF mp_tabX10_ok [mp_i (.aload_n 0), mp_i (.iload_n 1), mp_c (.iconst 1) 1, mp_i .iadd, mp_i (.iload 5), mp_i (.iload 7)] (by first | decide +kernel | (dsimp only; decide +kernel)) ?_
                intro z_119 h_120
                have e_121 : z_119.toInt = x0.toInt + 1 := mp_add (a := x0.toInt) (b := 1) h_120 rfl (by decide) (by omega) (by omega)
                show mp_W E X 9 147 [(8, .int z_69), (7, .int r_59), (6, .int r_37), (5, .int i_12), (4, .int z_4), (0, .ref a0), (1, .int x0), (2, .int x1), (3, .int x2)] [.int r_59, .int i_12, .int z_119, .ref a0] w7_ 0 0
                refine mp_callV hF (As := [.int z_119, .int i_12, .int r_59]) (rest := []) (wr := []) (ih_d (d - 1) (by omega) a0 a1 a2 a3 a4 a5 a6 a7 a8 a9 a10 a11 a12 a13 a14 a15 a16 a17 a18 a19 a20 a21 a22 a23 a24 a25 f0 f1 f2 f3 f4 f5 g_14 g_13 y0 y1 y2 y3 y4 y5 y6 y7 y8 y9 y10 y11 y12 y13 y14 y15 y16 y17 y18 y19 y20 y21 z_119 i_12 r_59 p0 p1 p2 p3 p4 p5 p6 p7 p8 p9 p10 p11 p12 p13 (by omega) (by omega) l_15 (by omega) l_y1 u_y1 l_y2 u_y2 l_y3 u_y3 l_y4 u_y4 l_y11 u_y11 l_y12 u_y12 l_y13 u_y13 (by omega) (by omega) (mp_LG_allg x_17 (by omega)) (Or.inr (by rw [show i_12.toInt = ((i_12.toInt.toNat : Nat) : Int) by omega, show y11.toInt + z_119.toInt = y11.toInt + ((x0.toInt.toNat : Nat) : Int) + 1 by omega]; exact k_61.trans (mp_oncv_val (by rw [← k_61]; exact (fun q => c_62 (by rw [q]; rfl)))))) (by omega)) mp_lkX10_352 2 rfl [2, 3, 4, 5, 6, 7, 8, 0, 1] [] rfl rfl rfl rfl rfl ⟨(by show 3 + 1 * (d - 1) + 1 ≤ 3 + 1 * d; omega), (by show 8 + (9 + 11) + (72 + 28 * (d - 1)) ≤ 72 + 28 * d; omega), (Nat.le_of_ble_eq_true rfl), (Nat.le_of_ble_eq_true rfl)⟩ (Nat.le_of_ble_eq_true rfl) (by first | exact mp_fd_ok mp_k_cX10_goesOn_ok (by decide +kernel) | decide +kernel | (dsimp only; decide +kernel)) (fun v_122 w_123 h_124 => ?_)
                obtain ⟨g_125, g_126, rfl, x_127, rfl⟩ := h_124
                have k_128 := mp_LG_rec x_17 (by have k9 := x_127; rw [show z_119.toInt.toNat = x0.toInt.toNat + 1 by omega] at k9; exact k9) (by omega) (by omega) (by omega) (k_61.trans (mp_oncv_val (by rw [← k_61]; exact (fun q => c_62 (by rw [q]; rfl))))) (by omega)
                have k_129 := k_128.1
                have e_130 := k_128.2
                let w11_ : va_W := [(mp_ob10 a0 y0 a9 a10 a11 a12 a13 y1 y2 y3 y4 y5 y6 y7 y8 y9 y10 a14 a1 a2 a3 a4 a5 a15 a16 y11 a6 a17 a18 a19 y12 y13 y14 a7 a8 y15 y16 a20 a21 a22 y17 y18 y19 y20 a23 a24 a25 y21), (mp_arI E a1 0 25 f0), (mp_arI E a2 0 180 f1), (mp_arI E a3 3 3000 f2), (mp_arI E a4 0 90 f3), (mp_arI E a5 0 300 f4), (mp_arI E a6 0 6 f5), (mp_arI E a7 0 78 g_125), (mp_arL E a8 78 g_126)]
                show mp_W E X 9 150 [(8, .int z_69), (7, .int r_59), (6, .int r_37), (5, .int i_12), (4, .int z_4), (0, .ref a0), (1, .int x0), (2, .int x1), (3, .int x2)] [] w11_ 0 0
                refine mp_run mp_k_cX10_goesOn_ok hF mp_tabX10_ok [mp_i (.aload_n 0), mp_h (.getfield 68) [32, 0], mp_i (.iload 8), mp_h .iaload [7], mp_i (.iload 6), mp_i .iadd, mp_i (.aload_n 0), mp_h (.getfield 68) [32, 0], mp_i (.iload 4), mp_h .iaload [7], mp_h (.if_icmp .ge 20) [187]] (by first | decide +kernel | (dsimp only; decide +kernel)) ?_
                refine And.intro rfl (And.intro rfl ?_)
                refine And.intro rfl (And.intro rfl (And.intro (vp_in_iff.mpr (by omega)) ?_))
                intro z_131 h_132
                have e_134 : z_131.toInt = (g_125 (6 * (x0.toInt.toNat + 1) + i_12.toInt.toNat)).toInt := mp_at_i h_132 (by omega)
                intro z_135 h_136
                have e_137 : z_135.toInt = z_131.toInt + r_37.toInt := mp_add (a := z_131.toInt) (b := r_37.toInt) h_136 rfl rfl (by omega) (by omega)
                refine And.intro rfl (And.intro rfl ?_)
                refine And.intro rfl (And.intro rfl (And.intro (vp_in_iff.mpr (by omega)) ?_))
                intro z_138 h_139
                have e_141 : z_138.toInt = (g_125 (6 * x0.toInt.toNat + x1.toInt.toNat)).toInt := mp_at_i h_139 (by omega)
                refine And.intro (fun c_142 => ?_) (fun c_142 => ?_)
                · have c_142 : z_138.toInt ≤ z_135.toInt := c_142
                  show mp_W E X 9 187 [(8, .int z_69), (7, .int r_59), (6, .int r_37), (5, .int i_12), (4, .int z_4), (0, .ref a0), (1, .int x0), (2, .int x1), (3, .int x2)] [] w11_ 0 0
                  refine mp_run mp_k_cX10_goesOn_ok hF mp_tabX10_ok [mp_i (.aload_n 0), mp_h (.getfield 71) [33, 0], mp_i (.iload 4), mp_i .dup2, mp_h .laload [8], mp_i (.aload_n 0), mp_h (.getfield 71) [33, 0], mp_i (.iload 8), mp_h .laload [8], mp_i .ladd, mp_h .lastore [8]] (by first | decide +kernel | (dsimp only; decide +kernel)) ?_
                  refine And.intro rfl (And.intro rfl ?_)
                  refine And.intro rfl (And.intro rfl (And.intro (vp_in_iff.mpr (by omega)) ?_))
                  intro z_143 h_144
                  refine And.intro rfl (And.intro rfl ?_)
                  refine And.intro rfl (And.intro rfl (And.intro (vp_in_iff.mpr (by omega)) ?_))
                  intro z_145 h_146
                  intro z_147 h_148
                  refine And.intro rfl (And.intro rfl (And.intro (vp_in_iff.mpr (by omega)) ?_))
                  intro g_149 h_150
                  let w12_ : va_W := [(mp_ob10 a0 y0 a9 a10 a11 a12 a13 y1 y2 y3 y4 y5 y6 y7 y8 y9 y10 a14 a1 a2 a3 a4 a5 a15 a16 y11 a6 a17 a18 a19 y12 y13 y14 a7 a8 y15 y16 a20 a21 a22 y17 y18 y19 y20 a23 a24 a25 y21), (mp_arI E a1 0 25 f0), (mp_arI E a2 0 180 f1), (mp_arI E a3 3 3000 f2), (mp_arI E a4 0 90 f3), (mp_arI E a5 0 300 f4), (mp_arI E a6 0 6 f5), (mp_arI E a7 0 78 g_125), (mp_arL E a8 78 g_149)]
                  show mp_W E X 9 204 [(8, .int z_69), (7, .int r_59), (6, .int r_37), (5, .int i_12), (4, .int z_4), (0, .ref a0), (1, .int x0), (2, .int x1), (3, .int x2)] [] w12_ 0 0
                  refine mp_run mp_k_cX10_goesOn_ok hF mp_tabX10_ok [mp_c (.iinc 5 1) 1, mp_h (.goto (-154)) [53]] (by first | decide +kernel | (dsimp only; decide +kernel)) ?_
                  intro z_151 h_152
                  have e_153 : z_151.toInt = i_12.toInt + 1 := mp_add (a := i_12.toInt) (b := 1) h_152 rfl (by decide) (by omega) (by omega)
                  show mp_W E X 9 53 [(5, .int z_151), (8, .int z_69), (7, .int r_59), (6, .int r_37), (4, .int z_4), (0, .ref a0), (1, .int x0), (2, .int x1), (3, .int x2)] [] w12_ 0 0
                  exact mp_sub [0, 4, 5, 6, 7, 8] rfl [0, 1, 2, 3, 4, 5, 6, 7, 8] rfl rfl (ih_20 (d_19 - 1) (by omega) z_151 g_149 g_125 (by omega) (by omega) (mp_LG_next k_129 (T := i_12.toInt.toNat) (by omega) (by omega) (by omega)) (by omega))
                · have c_142 : z_135.toInt < z_138.toInt := c_142
                  show mp_W E X 9 170 [(8, .int z_69), (7, .int r_59), (6, .int r_37), (5, .int i_12), (4, .int z_4), (0, .ref a0), (1, .int x0), (2, .int x1), (3, .int x2)] [] w11_ 0 0
                  refine mp_run mp_k_cX10_goesOn_ok hF mp_tabX10_ok [mp_i (.aload_n 0), mp_h (.getfield 68) [32, 0], mp_i (.iload 4), mp_i (.aload_n 0), mp_h (.getfield 68) [32, 0], mp_i (.iload 8), mp_h .iaload [7], mp_i (.iload 6), mp_i .iadd, mp_h .iastore [7]] (by first | decide +kernel | (dsimp only; decide +kernel)) ?_
                  refine And.intro rfl (And.intro rfl ?_)
                  refine And.intro rfl (And.intro rfl ?_)
                  refine And.intro rfl (And.intro rfl (And.intro (vp_in_iff.mpr (by omega)) ?_))
                  intro z_154 h_155
                  have k_156 : z_131 = z_154 := h_132.trans h_155.symm
                  subst k_156
                  intro z_157 h_158
                  have e_159 : z_157.toInt = z_131.toInt + r_37.toInt := mp_add (a := z_131.toInt) (b := r_37.toInt) h_158 rfl rfl (by omega) (by omega)
                  refine And.intro rfl (And.intro rfl (And.intro (vp_in_iff.mpr (by omega)) ?_))
                  intro g_160 h_161
                  let w13_ : va_W := [(mp_ob10 a0 y0 a9 a10 a11 a12 a13 y1 y2 y3 y4 y5 y6 y7 y8 y9 y10 a14 a1 a2 a3 a4 a5 a15 a16 y11 a6 a17 a18 a19 y12 y13 y14 a7 a8 y15 y16 a20 a21 a22 y17 y18 y19 y20 a23 a24 a25 y21), (mp_arI E a1 0 25 f0), (mp_arI E a2 0 180 f1), (mp_arI E a3 3 3000 f2), (mp_arI E a4 0 90 f3), (mp_arI E a5 0 300 f4), (mp_arI E a6 0 6 f5), (mp_arI E a7 0 78 g_160), (mp_arL E a8 78 g_126)]
                  show mp_W E X 9 187 [(8, .int z_69), (7, .int r_59), (6, .int r_37), (5, .int i_12), (4, .int z_4), (0, .ref a0), (1, .int x0), (2, .int x1), (3, .int x2)] [] w13_ 0 0
                  refine mp_run mp_k_cX10_goesOn_ok hF mp_tabX10_ok [mp_i (.aload_n 0), mp_h (.getfield 71) [33, 0], mp_i (.iload 4), mp_i .dup2, mp_h .laload [8], mp_i (.aload_n 0), mp_h (.getfield 71) [33, 0], mp_i (.iload 8), mp_h .laload [8], mp_i .ladd, mp_h .lastore [8]] (by first | decide +kernel | (dsimp only; decide +kernel)) ?_
                  refine And.intro rfl (And.intro rfl ?_)
                  refine And.intro rfl (And.intro rfl (And.intro (vp_in_iff.mpr (by omega)) ?_))
                  intro z_162 h_163
                  refine And.intro rfl (And.intro rfl ?_)
                  refine And.intro rfl (And.intro rfl (And.intro (vp_in_iff.mpr (by omega)) ?_))
                  intro z_164 h_165
                  intro z_166 h_167
                  refine And.intro rfl (And.intro rfl (And.intro (vp_in_iff.mpr (by omega)) ?_))
                  intro g_168 h_169
                  let w14_ : va_W := [(mp_ob10 a0 y0 a9 a10 a11 a12 a13 y1 y2 y3 y4 y5 y6 y7 y8 y9 y10 a14 a1 a2 a3 a4 a5 a15 a16 y11 a6 a17 a18 a19 y12 y13 y14 a7 a8 y15 y16 a20 a21 a22 y17 y18 y19 y20 a23 a24 a25 y21), (mp_arI E a1 0 25 f0), (mp_arI E a2 0 180 f1), (mp_arI E a3 3 3000 f2), (mp_arI E a4 0 90 f3), (mp_arI E a5 0 300 f4), (mp_arI E a6 0 6 f5), (mp_arI E a7 0 78 g_160), (mp_arL E a8 78 g_168)]
                  show mp_W E X 9 204 [(8, .int z_69), (7, .int r_59), (6, .int r_37), (5, .int i_12), (4, .int z_4), (0, .ref a0), (1, .int x0), (2, .int x1), (3, .int x2)] [] w14_ 0 0
                  refine mp_run mp_k_cX10_goesOn_ok hF mp_tabX10_ok [mp_c (.iinc 5 1) 1, mp_h (.goto (-154)) [53]] (by first | decide +kernel | (dsimp only; decide +kernel)) ?_
                  intro z_170 h_171
                  have e_172 : z_170.toInt = i_12.toInt + 1 := mp_add (a := i_12.toInt) (b := 1) h_171 rfl (by decide) (by omega) (by omega)
                  show mp_W E X 9 53 [(5, .int z_170), (8, .int z_69), (7, .int r_59), (6, .int r_37), (4, .int z_4), (0, .ref a0), (1, .int x0), (2, .int x1), (3, .int x2)] [] w14_ 0 0
                  exact mp_sub [0, 4, 5, 6, 7, 8] rfl [0, 1, 2, 3, 4, 5, 6, 7, 8] rfl rfl (ih_20 (d_19 - 1) (by omega) z_170 g_168 g_160 (by omega) (by omega) (mp_LG_min (t := i_12.toInt.toNat) k_129 h_161 (by omega) (by omega) (by omega) (by omega) (by omega) (by omega) (by omega) (by rw [← k_61]; exact (fun q => c_62 (by rw [q]; rfl))) (by omega) (by omega)) (by omega))
            · have c_62 : r_59.toInt = (-1) := (congrArg Int32.toInt c_62)
              show mp_W E X 9 115 [(7, .int r_59), (6, .int r_37), (5, .int i_12), (4, .int z_4), (0, .ref a0), (1, .int x0), (2, .int x1), (3, .int x2)] [] w7_ 0 0
              refine mp_run mp_k_cX10_goesOn_ok hF mp_tabX10_ok [mp_h (.goto 89) [204], mp_c (.iinc 5 1) 1, mp_h (.goto (-154)) [53]] (by first | decide +kernel | (dsimp only; decide +kernel)) ?_
              intro z_173 h_174
              have e_175 : z_173.toInt = i_12.toInt + 1 := mp_add (a := i_12.toInt) (b := 1) h_174 rfl (by decide) (by omega) (by omega)
              show mp_W E X 9 53 [(5, .int z_173), (7, .int r_59), (6, .int r_37), (4, .int z_4), (0, .ref a0), (1, .int x0), (2, .int x1), (3, .int x2)] [] w7_ 0 0
              exact mp_sub [0, 3, 4, 5, 6, 7] rfl [2, 3, 4, 5, 6, 7, 8, 0, 1] rfl rfl (ih_20 (d_19 - 1) (by omega) z_173 g_13 g_14 (by omega) (by omega) (mp_LG_skip x_17 (T := i_12.toInt.toNat) (by omega) (by omega) (fun q => q.2 (k_61.symm.trans (Int32.toInt_inj.mp c_62)))) (by omega))
          · have c_49 : 1000000 ≤ r_37.toInt := c_49
            show mp_W E X 9 88 [(6, .int r_37), (5, .int i_12), (4, .int z_4), (0, .ref a0), (1, .int x0), (2, .int x1), (3, .int x2)] [] w6_ 0 0
            refine mp_run mp_k_cX10_goesOn_ok hF mp_tabX10_ok [mp_c (.iconst (-1)) (-1), mp_h (.goto 18) [107], mp_i (.istore 7), mp_i (.iload 7), mp_c (.iconst (-1)) (-1), mp_h (.if_icmp .ne 6) [118]] (by first | decide +kernel | (dsimp only; decide +kernel)) ?_
            refine And.intro (fun c_176 => absurd c_176 (by decide)) (fun _ => ?_)
            show mp_W E X 9 115 [(7, .int (-1)), (6, .int r_37), (5, .int i_12), (4, .int z_4), (0, .ref a0), (1, .int x0), (2, .int x1), (3, .int x2)] [] w6_ 0 0
            refine mp_run mp_k_cX10_goesOn_ok hF mp_tabX10_ok [mp_h (.goto 89) [204], mp_c (.iinc 5 1) 1, mp_h (.goto (-154)) [53]] (by first | decide +kernel | (dsimp only; decide +kernel)) ?_
            intro z_177 h_178
            have e_179 : z_177.toInt = i_12.toInt + 1 := mp_add (a := i_12.toInt) (b := 1) h_178 rfl (by decide) (by omega) (by omega)
            show mp_W E X 9 53 [(5, .int z_177), (7, .int (-1)), (6, .int r_37), (4, .int z_4), (0, .ref a0), (1, .int x0), (2, .int x1), (3, .int x2)] [] w6_ 0 0
            exact mp_sub [0, 3, 4, 5, 6, 7] rfl [5, 0, 6, 7, 8, 1, 2, 3, 4] rfl rfl (ih_20 (d_19 - 1) (by omega) z_177 g_13 g_14 (by omega) (by omega) (mp_LG_skip x_17 (T := i_12.toInt.toNat) (by omega) (by omega) (fun q => absurd q.1 (by omega))) (by omega))
    exact mp_sub [0, 1, 2, 3, 4, 5] rfl [0, 1, 2, 3, 4, 5, 6, 7, 8] rfl rfl (lp_18 _ 0 g_9 g_7 (by decide) (by decide) (mp_LG_0 q2 h_8 (by omega) (by omega) (by decide) rfl) (Int.self_le_toNat _))
  · have c_11 : x0.toInt = y13.toInt := (congrArg Int32.toInt c_11)
    show mp_W E X 9 33 [(4, .int z_4), (0, .ref a0), (1, .int x0), (2, .int x1), (3, .int x2)] [] w3_ 0 0
    refine mp_run mp_k_cX10_goesOn_ok hF mp_tabX10_ok [mp_i (.aload_n 0), mp_h (.getfield 68) [32, 0], mp_i (.iload 4), mp_c (.iconst 0) 0, mp_h .iastore [7]] (by first | decide +kernel | (dsimp only; decide +kernel)) ?_
    refine And.intro rfl (And.intro rfl ?_)
    refine And.intro rfl (And.intro rfl (And.intro (vp_in_iff.mpr (by omega)) ?_))
    intro g_180 h_181
    let w15_ : va_W := [(mp_ob10 a0 y0 a9 a10 a11 a12 a13 y1 y2 y3 y4 y5 y6 y7 y8 y9 y10 a14 a1 a2 a3 a4 a5 a15 a16 y11 a6 a17 a18 a19 y12 y13 y14 a7 a8 y15 y16 a20 a21 a22 y17 y18 y19 y20 a23 a24 a25 y21), (mp_arI E a1 0 25 f0), (mp_arI E a2 0 180 f1), (mp_arI E a3 3 3000 f2), (mp_arI E a4 0 90 f3), (mp_arI E a5 0 300 f4), (mp_arI E a6 0 6 f5), (mp_arI E a7 0 78 g_180), (mp_arL E a8 78 g_9)]
    show mp_W E X 9 41 [(4, .int z_4), (0, .ref a0), (1, .int x0), (2, .int x1), (3, .int x2)] [] w15_ 0 0
    refine mp_run mp_k_cX10_goesOn_ok hF mp_tabX10_ok [mp_i (.aload_n 0), mp_h (.getfield 71) [33, 0], mp_i (.iload 4), mp_cl (.lconst 1) 1, mp_h .lastore [8]] (by first | decide +kernel | (dsimp only; decide +kernel)) ?_
    refine And.intro rfl (And.intro rfl ?_)
    refine And.intro rfl (And.intro rfl (And.intro (vp_in_iff.mpr (by omega)) ?_))
    intro g_182 h_183
    let w16_ : va_W := [(mp_ob10 a0 y0 a9 a10 a11 a12 a13 y1 y2 y3 y4 y5 y6 y7 y8 y9 y10 a14 a1 a2 a3 a4 a5 a15 a16 y11 a6 a17 a18 a19 y12 y13 y14 a7 a8 y15 y16 a20 a21 a22 y17 y18 y19 y20 a23 a24 a25 y21), (mp_arI E a1 0 25 f0), (mp_arI E a2 0 180 f1), (mp_arI E a3 3 3000 f2), (mp_arI E a4 0 90 f3), (mp_arI E a5 0 300 f4), (mp_arI E a6 0 6 f5), (mp_arI E a7 0 78 g_180), (mp_arL E a8 78 g_182)]
    show mp_W E X 9 49 [(4, .int z_4), (0, .ref a0), (1, .int x0), (2, .int x1), (3, .int x2)] [] w16_ 0 0
    exact mp_vret hF hQ rfl (Nat.le_of_ble_eq_true rfl) (Nat.le_of_ble_eq_true rfl) [0, 1, 2, 3, 4, 5, 6, 7, 8] (w' := w16_) rfl rfl ⟨g_180, g_182, rfl, (mp_GP_last q2 h_8 (by omega) h_181 (by omega) (by omega) (by decide) (by omega)), rfl⟩ (by first | exact mp_fd_ok mp_k_cX10_goesOn_ok (by decide +kernel) | decide +kernel | (dsimp only; decide +kernel))
