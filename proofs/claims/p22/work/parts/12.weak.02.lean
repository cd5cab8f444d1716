set_option maxHeartbeats 4000000 in
set_option maxRecDepth 100000 in
theorem bX0_apply_47 (E : mp_E) (a0 a1 a2 a3 a4 a5 a6 a7 a8 a9 a10 a11 a12 a13 a14 a15 a16 a17 a18 a19 : Nat) (f0 : Nat → Int32) (f1 : Nat → Int32) (f2 : Nat → Int32) (f3 : Nat → Int32) (f4 : Nat → Int64) (y0 : Int32) (y1 : Int32) (y2 : Int32) (y3 : Int32) (y4 : Int32) (y5 : Int32) (y6 : Int32) (x0 : Int32) (p0 : mp_all f0 36 0 20) (p1 : mp_all f1 6 0 5) (l_x0 : 0 ≤ x0.toInt) (u_x0 : x0.toInt ≤ 200) (l_y0 : 0 ≤ y0.toInt) (u_y0 : y0.toInt ≤ 99) (l_y2 : 0 ≤ y2.toInt) (u_y2 : y2.toInt ≤ 6) (l_y3 : 0 ≤ y3.toInt) (u_y3 : y3.toInt ≤ 99) (l_y4 : 0 ≤ y4.toInt) (u_y4 : y4.toInt ≤ 6) (l_y5 : 0 ≤ y5.toInt) (u_y5 : y5.toInt ≤ 10) (l_y6 : 0 ≤ y6.toInt) (u_y6 : y6.toInt ≤ 60) (q0 : (x0.toInt = 200 ∧ y0.toInt ≤ 98) ∨ (100 ≤ x0.toInt ∧ x0.toInt ≤ 109) ∨ (0 ≤ x0.toInt ∧ x0.toInt ≤ 55 ∧ x0.toInt % 10 ≤ 5)) : mp_Ct E yX0_apply cX0_apply 4 none 1 0 0 22 [.ref a0, .int x0] [(mp_ob0 a0 a1 y0 a3 a4 a5 a6 a7 a8), (mp_ob7 a1 y1 y2 y3 y4 y5 y6 a2 a9 a10 a11 a12 a13 a14 a15 a16 a17 a18 a19), (mp_arI E a2 0 36 f0), (mp_arI E a3 0 6 f1), (mp_arI E a4 0 6 f2), (mp_arI E a5 0 6 f3), (mp_arL E a6 20 f4)] (fun v w' => ∃ r1 : Int32, ∃ h2 : Nat → Int32, ∃ h3 : Nat → Int32, ∃ h4 : Nat → Int32, ∃ h5 : Nat → Int64, v = none ∧ 0 ≤ r1.toInt ∧ r1.toInt ≤ 99 ∧ mp_all h2 6 0 5 ∧ ((x0.toInt = 200 ∧ r1.toInt = y0.toInt + 1) ∨ (x0.toInt ≠ 200 ∧ r1.toInt = y0.toInt)) ∧ (mp_AP f1 f2 f3 h2 h3 h4 f0 x0.toInt y0.toInt) ∧ w' = [(mp_ob0 a0 a1 r1 a3 a4 a5 a6 a7 a8), (mp_ob7 a1 y1 y2 y3 y4 y5 y6 a2 a9 a10 a11 a12 a13 a14 a15 a16 a17 a18 a19), (mp_arI E a2 0 36 f0), (mp_arI E a3 0 6 h2), (mp_arI E a4 0 6 h3), (mp_arI E a5 0 6 h4), (mp_arL E a6 20 h5)]) := by
  refine mp_met false (by decide) (by decide) (Nat.le_of_ble_eq_true rfl) (fun X hF hQ => ?_)
  have hF : mp_F E X (RX0, cX0_apply, 4, (1, 0, 0, 22), none, false) := hF
  let w1_ : va_W := [(mp_ob0 a0 a1 y0 a3 a4 a5 a6 a7 a8), (mp_ob7 a1 y1 y2 y3 y4 y5 y6 a2 a9 a10 a11 a12 a13 a14 a15 a16 a17 a18 a19), (mp_arI E a2 0 36 f0), (mp_arI E a3 0 6 f1), (mp_arI E a4 0 6 f2), (mp_arI E a5 0 6 f3), (mp_arL E a6 20 f4)]
  show mp_W E X 4 0 [(0, .ref a0), (1, .int x0)] [] w1_ 0 0
  refine mp_run mp_k_cX0_apply_ok hF mp_tabX0_ok [mp_i (.iload_n 1), mp_c (.sipush 200) 200, mp_h (.if_icmp .ne 16) [20]] (by decide +kernel) ?_
  refine And.intro (fun c_1 => ?_) (fun c_1 => ?_)
  · have c_1 : x0.toInt ≠ 200 := c_1
    show mp_W E X 4 20 [(0, .ref a0), (1, .int x0)] [] w1_ 0 0
    refine mp_run mp_k_cX0_apply_ok hF mp_tabX0_ok [mp_i (.iload_n 1), mp_c (.bipush 100) 100, mp_h (.if_icmp .lt 37) [60]] (by decide +kernel) ?_
    refine And.intro (fun c_2 => ?_) (fun c_2 => ?_)
    · have c_2 : x0.toInt < 100 := c_2
      show mp_W E X 4 60 [(0, .ref a0), (1, .int x0)] [] w1_ 0 0
      refine mp_run mp_k_cX0_apply_ok hF mp_tabX0_ok [mp_i (.iload_n 1), mp_c (.bipush 10) 10, mp_i .idiv, mp_i (.istore_n 2), mp_i (.iload_n 1), mp_c (.bipush 10) 10, mp_i .irem, mp_i (.istore_n 3), mp_i (.aload_n 0), mp_h (.getfield 22) [14, 0], mp_i (.iload_n 2), mp_i .dup2, mp_h .iaload [4], mp_i (.aload_n 0), mp_h (.getfield 12) [11, 0], mp_i (.aload_n 0), mp_h (.getfield 18) [13, 0], mp_i (.iload_n 2), mp_h .iaload [3], mp_i (.iload_n 3)] (by decide +kernel) ?_
      refine And.intro (by decide) ?_
      intro z_3 h_4
      have e_5 : z_3.toInt = x0.toInt / 10 := mp_div (a := x0.toInt) (b := 10) h_4 rfl (by decide) (by (first | exact l_x0 | omega)) (by decide)
      refine And.intro (by decide) ?_
      intro z_6 h_7
      have e_8 : z_6.toInt = x0.toInt % 10 := mp_rem (a := x0.toInt) (b := 10) h_7 rfl (by decide) (by (first | exact l_x0 | omega)) (by decide)
      refine And.intro rfl (And.intro rfl ?_)
      refine And.intro rfl (And.intro rfl (And.intro (vp_in_iff.mpr (by (first | exact mp_o314 c_2 e_5 q0 | omega))) ?_))
      intro z_9 h_10
      have e_11 : z_9.toInt = (f2 (x0.toInt / 10).toNat).toInt := mp_at_i h_10 (by (first | exact mp_o315 l_x0 e_5 | omega))
      refine And.intro rfl (And.intro rfl ?_)
      refine And.intro rfl (And.intro rfl ?_)
      refine And.intro rfl (And.intro rfl (And.intro (vp_in_iff.mpr (by (first | exact mp_o314 c_2 e_5 q0 | omega))) ?_))
      intro z_12 h_13
      have e_14 : 0 ≤ z_12.toInt ∧ z_12.toInt ≤ 5 := mp_all_ld h_13 p1 (by (first | exact mp_o316 l_x0 e_5 | omega)) (by (first | exact mp_o317 c_2 e_5 q0 | omega))
      have e_15 : z_12.toInt = (f1 (x0.toInt / 10).toNat).toInt := mp_at_i h_13 (by (first | exact mp_o315 l_x0 e_5 | omega))
      show mp_W E X 4 88 [(3, .int z_6), (2, .int z_3), (0, .ref a0), (1, .int x0)] [.int z_6, .int z_12, .ref a1, .int z_9, .int z_3, .ref a4] w1_ 0 0
      refine mp_callV hF (As := [.int z_12, .int z_6]) (rest := [.int z_9, .int z_3, .ref a4]) (wr := [(mp_ob0 a0 a1 y0 a3 a4 a5 a6 a7 a8), (mp_arI E a3 0 6 f1), (mp_arI E a4 0 6 f2), (mp_arI E a5 0 6 f3), (mp_arL E a6 20 f4)]) (bX7_oarsBetween_46 E a1 a2 a9 a10 a11 a12 a13 a14 a15 a16 a17 a18 a19 f0 y1 y2 y3 y4 y5 y6 z_12 z_6 p0 e_14.1 e_14.2 (by (first | exact mp_o318 e_8 | omega)) (by (first | exact mp_o319 c_2 e_8 q0 | omega)) l_y2 u_y2 l_y3 u_y3 l_y4 u_y4 l_y5 u_y5 l_y6 u_y6) mp_lkX0_65 1 rfl [1, 2] [0, 3, 4, 5, 6] rfl rfl rfl rfl rfl ⟨(Nat.le_of_ble_eq_true rfl), (Nat.le_of_ble_eq_true rfl), (Nat.le_of_ble_eq_true rfl), (Nat.le_of_ble_eq_true rfl)⟩ (Nat.le_of_ble_eq_true rfl) (by first | exact mp_fd_ok mp_k_cX0_apply_ok (by decide +kernel) | decide +kernel) (fun v_16 w_17 h_18 => ?_)
      refine h_18.elim fun r_19 q_23 => q_23.elim fun e_24 q_25 => q_25.elim fun l_20 q_26 => q_26.elim fun u_21 q_27 => q_27.elim fun x_22 e_28 => ?_
      clear h_18 q_23 q_25 q_26 q_27
      subst e_24
      subst e_28
      let w2_ : va_W := [(mp_ob0 a0 a1 y0 a3 a4 a5 a6 a7 a8), (mp_arI E a3 0 6 f1), (mp_arI E a4 0 6 f2), (mp_arI E a5 0 6 f3), (mp_arL E a6 20 f4), (mp_ob7 a1 y1 y2 y3 y4 y5 y6 a2 a9 a10 a11 a12 a13 a14 a15 a16 a17 a18 a19), (mp_arI E a2 0 36 f0)]
      show mp_W E X 4 91 [(3, .int z_6), (2, .int z_3), (0, .ref a0), (1, .int x0)] [.int r_19, .int z_9, .int z_3, .ref a4] w2_ 0 0
      refine mp_run mp_k_cX0_apply_ok hF mp_tabX0_ok [mp_i .iadd, mp_h .iastore [2]] (by decide +kernel) ?_
      intro z_29 h_30
      refine And.intro rfl (And.intro rfl (And.intro (vp_in_iff.mpr (by (first | exact mp_o314 c_2 e_5 q0 | omega))) ?_))
      intro g_32 h_33
      let w3_ : va_W := [(mp_ob0 a0 a1 y0 a3 a4 a5 a6 a7 a8), (mp_arI E a3 0 6 f1), (mp_arI E a4 0 6 g_32), (mp_arI E a5 0 6 f3), (mp_arL E a6 20 f4), (mp_ob7 a1 y1 y2 y3 y4 y5 y6 a2 a9 a10 a11 a12 a13 a14 a15 a16 a17 a18 a19), (mp_arI E a2 0 36 f0)]
      show mp_W E X 4 93 [(3, .int z_6), (2, .int z_3), (0, .ref a0), (1, .int x0)] [] w3_ 0 0
      refine mp_run mp_k_cX0_apply_ok hF mp_tabX0_ok [mp_i (.aload_n 0), mp_h (.getfield 18) [13, 0], mp_i (.iload_n 2), mp_i (.iload_n 3), mp_h .iastore [1]] (by decide +kernel) ?_
      refine And.intro rfl (And.intro rfl ?_)
      refine And.intro rfl (And.intro rfl (And.intro (vp_in_iff.mpr (by (first | exact mp_o314 c_2 e_5 q0 | omega))) ?_))
      intro g_34 h_35
      have p_36 : mp_all g_34 6 0 5 := mp_all_st h_35 p1 (by (first | exact mp_o318 e_8 | omega)) (by (first | exact mp_o319 c_2 e_8 q0 | omega))
      let w4_ : va_W := [(mp_ob0 a0 a1 y0 a3 a4 a5 a6 a7 a8), (mp_arI E a3 0 6 g_34), (mp_arI E a4 0 6 g_32), (mp_arI E a5 0 6 f3), (mp_arL E a6 20 f4), (mp_ob7 a1 y1 y2 y3 y4 y5 y6 a2 a9 a10 a11 a12 a13 a14 a15 a16 a17 a18 a19), (mp_arI E a2 0 36 f0)]
      show mp_W E X 4 100 [(3, .int z_6), (2, .int z_3), (0, .ref a0), (1, .int x0)] [] w4_ 0 0
      refine mp_run mp_k_cX0_apply_ok hF mp_tabX0_ok [mp_i (.aload_n 0), mp_h (.getfield 25) [15, 0], mp_i (.iload_n 2), mp_i (.aload_n 0), mp_h (.getfield 42) [12, 0], mp_h .iastore [3]] (by decide +kernel) ?_
      refine And.intro rfl (And.intro rfl ?_)
      refine And.intro rfl (And.intro rfl ?_)
      refine And.intro rfl (And.intro rfl (And.intro (vp_in_iff.mpr (by (first | exact mp_o314 c_2 e_5 q0 | omega))) ?_))
      intro g_37 h_38
      let w5_ : va_W := [(mp_ob0 a0 a1 y0 a3 a4 a5 a6 a7 a8), (mp_arI E a3 0 6 g_34), (mp_arI E a4 0 6 g_32), (mp_arI E a5 0 6 g_37), (mp_arL E a6 20 f4), (mp_ob7 a1 y1 y2 y3 y4 y5 y6 a2 a9 a10 a11 a12 a13 a14 a15 a16 a17 a18 a19), (mp_arI E a2 0 36 f0)]
      show mp_W E X 4 110 [(3, .int z_6), (2, .int z_3), (0, .ref a0), (1, .int x0)] [] w5_ 0 0
      exact mp_vret hF hQ rfl (Nat.le_of_ble_eq_true rfl) (Nat.le_of_ble_eq_true rfl) [0, 5, 6, 1, 2, 3, 4] (w' := [(mp_ob0 a0 a1 y0 a3 a4 a5 a6 a7 a8), (mp_ob7 a1 y1 y2 y3 y4 y5 y6 a2 a9 a10 a11 a12 a13 a14 a15 a16 a17 a18 a19), (mp_arI E a2 0 36 f0), (mp_arI E a3 0 6 g_34), (mp_arI E a4 0 6 g_32), (mp_arI E a5 0 6 g_37), (mp_arL E a6 20 f4)]) rfl rfl ⟨y0, g_34, g_32, g_37, f4, rfl, l_y0, u_y0, p_36, (by first | (first | exact mp_o320 c_2 | omega) | decide | (have h8 : (0 : Int64).toInt = 0 := rfl; have h9 : (-1 : Int32).toInt = -1 := rfl; have h10 : (-2 : Int32).toInt = -2 := rfl; have h11 : (0 : Int32).toInt = 0 := rfl; have h12 : (1 : Int32).toInt = 1 := rfl; have h13 : (-5 : Int32).toInt = -5 := rfl; have h14 : (-3 : Int32).toInt = -3 := rfl; omega)), (mp_AP_row h_33 h_30 h_10 (by rw [x_22, show 6 * z_12.toInt + z_6.toInt = 6 * (f1 (x0.toInt / 10).toNat).toInt + x0.toInt % 10 from by (first | exact mp_o321 e_15 e_8 | omega)]) h_35 h_38 (by (first | exact e_5 | omega)) (by (first | exact e_5 | omega)) (by (first | exact e_5 | omega)) (by (first | exact e_5 | omega)) (by (first | exact e_8 | omega)) (by first | rfl | omega) (by (first | exact c_2 | omega))), rfl⟩ (by first | exact mp_fd_ok mp_k_cX0_apply_ok (by decide +kernel) | decide +kernel)
    · have c_2 : 100 ≤ x0.toInt := c_2
      show mp_W E X 4 26 [(0, .ref a0), (1, .int x0)] [] w1_ 0 0
      refine mp_run mp_k_cX0_apply_ok hF mp_tabX0_ok [mp_i (.aload_n 0), mp_h (.getfield 28) [16, 0], mp_c (.iconst 2) 2, mp_i (.iload_n 1), mp_c (.bipush 100) 100, mp_i .isub, mp_i .imul, mp_i (.aload_n 0), mp_h (.getfield 42) [12, 0], mp_c (.bipush 50) 50, mp_i .idiv, mp_i .iadd, mp_i .dup2, mp_h .laload [6], mp_cl (.lconst 1) 1, mp_i (.aload_n 0), mp_h (.getfield 42) [12, 0], mp_c (.bipush 50) 50, mp_i .irem, mp_i .lshl, mp_i .lor, mp_h .lastore [6]] (by decide +kernel) ?_
      refine And.intro rfl (And.intro rfl ?_)
      intro z_39 h_40
      have e_41 : z_39.toInt = x0.toInt - 100 := mp_subi (a := x0.toInt) (b := 100) h_40 rfl (by decide) (by (first | exact mp_o322 l_x0 | omega)) (by (first | exact mp_o323 u_x0 | omega))
      intro z_42 h_43
      have e_44 : z_42.toInt = 2 * z_39.toInt := mp_mul (a := 2) (b := z_39.toInt) h_43 (by decide) rfl (by (first | exact mp_o324 l_x0 e_41 | omega)) (by (first | exact mp_o325 u_x0 e_41 | omega))
      refine And.intro rfl (And.intro rfl ?_)
      refine And.intro (by decide) ?_
      intro z_45 h_46
      have e_47 : z_45.toInt = y0.toInt / 50 := mp_div (a := y0.toInt) (b := 50) h_46 rfl (by decide) (by (first | exact l_y0 | omega)) (by decide)
      intro z_48 h_49
      have e_50 : z_48.toInt = z_42.toInt + z_45.toInt := mp_add (a := z_42.toInt) (b := z_45.toInt) h_49 rfl rfl (by (first | exact mp_o326 l_x0 l_y0 e_47 e_41 e_44 | omega)) (by (first | exact mp_o327 u_x0 e_41 e_44 u_y0 e_47 | omega))
      refine And.intro rfl (And.intro rfl (And.intro (vp_in_iff.mpr (by (first | exact mp_o328 l_y0 u_y0 c_2 q0 c_1 e_47 e_41 e_44 e_50 | omega))) ?_))
      intro z_51 h_52
      refine And.intro rfl (And.intro rfl ?_)
      refine And.intro (by decide) ?_
      intro z_53 h_54
      have e_55 : z_53.toInt = y0.toInt % 50 := mp_rem (a := y0.toInt) (b := 50) h_54 rfl (by decide) (by (first | exact l_y0 | omega)) (by decide)
      intro z_56 h_57
      intro z_58 h_59
      refine And.intro rfl (And.intro rfl (And.intro (vp_in_iff.mpr (by (first | exact mp_o328 l_y0 u_y0 c_2 q0 c_1 e_47 e_41 e_44 e_50 | omega))) ?_))
      intro g_60 h_61
      let w6_ : va_W := [(mp_ob0 a0 a1 y0 a3 a4 a5 a6 a7 a8), (mp_ob7 a1 y1 y2 y3 y4 y5 y6 a2 a9 a10 a11 a12 a13 a14 a15 a16 a17 a18 a19), (mp_arI E a2 0 36 f0), (mp_arI E a3 0 6 f1), (mp_arI E a4 0 6 f2), (mp_arI E a5 0 6 f3), (mp_arL E a6 20 g_60)]
      show mp_W E X 4 57 [(0, .ref a0), (1, .int x0)] [] w6_ 0 0
      refine mp_run mp_k_cX0_apply_ok hF mp_tabX0_ok [mp_h (.goto 53) [110]] (by decide +kernel) ?_
      show mp_W E X 4 110 [(0, .ref a0), (1, .int x0)] [] w6_ 0 0
      exact mp_vret hF hQ rfl (Nat.le_of_ble_eq_true rfl) (Nat.le_of_ble_eq_true rfl) [0, 1, 2, 3, 4, 5, 6] (w' := w6_) rfl rfl ⟨y0, f1, f2, f3, g_60, rfl, l_y0, u_y0, p1, (by first | (first | exact mp_o329 c_1 | omega) | decide | (have h8 : (0 : Int64).toInt = 0 := rfl; have h9 : (-1 : Int32).toInt = -1 := rfl; have h10 : (-2 : Int32).toInt = -2 := rfl; have h11 : (0 : Int32).toInt = 0 := rfl; have h12 : (1 : Int32).toInt = 1 := rfl; have h13 : (-5 : Int32).toInt = -5 := rfl; have h14 : (-3 : Int32).toInt = -3 := rfl; omega)), (Or.inl ⟨(by first | (first | exact c_2 | omega) | (have h8 : (100 : Int32).toInt = 100 := rfl; have h9 : (200 : Int32).toInt = 200 := rfl; omega)), rfl, rfl, rfl⟩), rfl⟩ (by first | exact mp_fd_ok mp_k_cX0_apply_ok (by decide +kernel) | decide +kernel)
  · have c_1 : x0.toInt = 200 := (congrArg Int32.toInt c_1)
    show mp_W E X 4 7 [(0, .ref a0), (1, .int x0)] [] w1_ 0 0
    refine mp_run mp_k_cX0_apply_ok hF mp_tabX0_ok [mp_i (.aload_n 0), mp_i .dup, mp_h (.getfield 42) [12, 0], mp_c (.iconst 1) 1, mp_i .iadd, mp_h (.putfield 42) [12, 0]] (by decide +kernel) ?_
    refine And.intro rfl ?_
    refine And.intro rfl (And.intro rfl ?_)
    intro z_62 h_63
    have e_64 : z_62.toInt = y0.toInt + 1 := mp_add (a := y0.toInt) (b := 1) h_63 rfl (by decide) (by (first | exact mp_o2 l_y0 | omega)) (by (first | exact mp_o330 u_y0 | omega))
    refine And.intro rfl (And.intro rfl (And.intro rfl (And.intro rfl (And.intro (Nat.le_of_ble_eq_true rfl) ?_))))
    let w7_ : va_W := [(mp_ob0 a0 a1 z_62 a3 a4 a5 a6 a7 a8), (mp_ob7 a1 y1 y2 y3 y4 y5 y6 a2 a9 a10 a11 a12 a13 a14 a15 a16 a17 a18 a19), (mp_arI E a2 0 36 f0), (mp_arI E a3 0 6 f1), (mp_arI E a4 0 6 f2), (mp_arI E a5 0 6 f3), (mp_arL E a6 20 f4)]
    show mp_W E X 4 17 [(0, .ref a0), (1, .int x0)] [] w7_ 0 0
    refine mp_run mp_k_cX0_apply_ok hF mp_tabX0_ok [mp_h (.goto 93) [110]] (by decide +kernel) ?_
    show mp_W E X 4 110 [(0, .ref a0), (1, .int x0)] [] w7_ 0 0
    exact mp_vret hF hQ rfl (Nat.le_of_ble_eq_true rfl) (Nat.le_of_ble_eq_true rfl) [0, 1, 2, 3, 4, 5, 6] (w' := w7_) rfl rfl ⟨z_62, f1, f2, f3, f4, rfl, (by (first | exact mp_o51 l_y0 e_64 | omega)), (by (first | exact mp_o331 c_1 q0 e_64 | omega)), p1, (by first | (first | exact mp_o332 c_1 e_64 | omega) | decide | (have h8 : (0 : Int64).toInt = 0 := rfl; have h9 : (-1 : Int32).toInt = -1 := rfl; have h10 : (-2 : Int32).toInt = -2 := rfl; have h11 : (0 : Int32).toInt = 0 := rfl; have h12 : (1 : Int32).toInt = 1 := rfl; have h13 : (-5 : Int32).toInt = -5 := rfl; have h14 : (-3 : Int32).toInt = -3 := rfl; omega)), (Or.inl ⟨(by first | (first | exact mp_o333 c_1 | omega) | (have h8 : (100 : Int32).toInt = 100 := rfl; have h9 : (200 : Int32).toInt = 200 := rfl; omega)), rfl, rfl, rfl⟩), rfl⟩ (by first | exact mp_fd_ok mp_k_cX0_apply_ok (by decide +kernel) | decide +kernel)
