set_option maxHeartbeats 4000000 in
set_option maxRecDepth 100000 in
theorem bX10_isStep_114 (E : mp_E) (a0 a1 a2 a3 a4 a5 a6 a7 a8 a9 a10 a11 a12 a13 a14 a15 a16 a17 a18 a19 a20 a21 a22 a23 a24 a25 : Nat) (f0 : Nat → Int32) (f1 : Nat → Int32) (f2 : Nat → Int32) (f3 : Nat → Int32) (f4 : Nat → Int32) (f5 : Nat → Int32) (f6 : Nat → Int32) (y0 : Int32) (y1 : Int32) (y2 : Int32) (y3 : Int32) (y4 : Int32) (y5 : Int32) (y6 : Int64) (y7 : Int32) (y8 : Int32) (y9 : Int32) (y10 : Int32) (y11 : Int32) (y12 : Int32) (y13 : Int32) (y14 : Int32) (y15 : Int32) (y16 : Int32) (y17 : Int32) (y18 : Int32) (y19 : Int32) (y20 : Int32) (y21 : Int32) (x0 : Int32) (x1 : Int32) (x2 : Int32) (x3 : Int32) (p0 : mp_res f0 25 5 0 0 6) (p1 : mp_res f0 25 5 1 0 99) (p2 : mp_res f0 25 5 2 0 6) (p3 : mp_res f0 25 5 3 0 10) (p4 : mp_res f0 25 5 4 0 60) (p5 : mp_all f1 180 0 20) (p6 : mp_all f2 3000 0 1) (p7 : mp_res f3 90 3 0 0 5) (p8 : mp_res f3 90 3 1 (-1) 99) (p9 : mp_res f4 300 6 0 0 5) (p10 : mp_res f4 300 6 1 0 5) (p11 : mp_res f4 300 6 3 0 99) (p12 : mp_res f4 300 6 4 0 1) (p13 : mp_all f5 6 0 5) (l_x0 : 0 ≤ x0.toInt) (u_x0 : x0.toInt ≤ 11) (l_x1 : 0 ≤ x1.toInt) (u_x1 : x1.toInt ≤ 5) (l_x2 : 0 ≤ x2.toInt) (u_x2 : x2.toInt ≤ 5) (l_y1 : 0 ≤ y1.toInt) (u_y1 : y1.toInt ≤ 1600) (l_y2 : 0 ≤ y2.toInt) (u_y2 : y2.toInt ≤ 1600) (l_y3 : 0 ≤ y3.toInt) (u_y3 : y3.toInt ≤ 4) (l_y4 : 0 ≤ y4.toInt) (u_y4 : y4.toInt ≤ 1600) (l_y11 : 0 ≤ y11.toInt) (u_y11 : y11.toInt ≤ 99) (l_y12 : 0 ≤ y12.toInt) (u_y12 : y12.toInt ≤ 5) (l_y13 : 0 ≤ y13.toInt) (u_y13 : y13.toInt ≤ 12) (q0 : y11.toInt + x0.toInt ≤ 98) (q1 : mp_PW ((f1, f2, f3, f4, f5, f0), y14, y12.toInt) y11.toInt y13.toInt (f0 0).toInt f6 x0.toInt.toNat x1.toInt.toNat x3) (q2 : x0.toInt < y13.toInt) (q3 : x2.toInt < (f0 0).toInt) : mp_Ct E yX10_isStep cX10_isStep 6 (some FieldType.boolean) 3 0 0 72 [.ref a0, .int x0, .int x1, .int x2, .int x3] [(mp_ob10 a0 y0 a8 a9 a10 a11 a12 y1 y2 y3 y4 y5 y6 y7 y8 y9 y10 a13 a1 a2 a3 a4 a5 a14 a15 y11 a6 a16 a17 a18 y12 y13 y14 a7 a19 y15 y16 a20 a21 a22 y17 y18 y19 y20 a23 a24 a25 y21), (mp_arI E a1 0 25 f0), (mp_arI E a2 0 180 f1), (mp_arI E a3 3 3000 f2), (mp_arI E a4 0 90 f3), (mp_arI E a5 0 300 f4), (mp_arI E a6 0 6 f5), (mp_arI E a7 0 78 f6)] (fun v w' => (v = some (.int 0) ∧ (¬ mp_stp ((f1, f2, f3, f4, f5, f0), y14, y12.toInt) y11.toInt f6 x0.toInt.toNat x1.toInt.toNat x3 x2.toInt.toNat) ∧ w' = [(mp_ob10 a0 y0 a8 a9 a10 a11 a12 y1 y2 y3 y4 y5 y6 y7 y8 y9 y10 a13 a1 a2 a3 a4 a5 a14 a15 y11 a6 a16 a17 a18 y12 y13 y14 a7 a19 y15 y16 a20 a21 a22 y17 y18 y19 y20 a23 a24 a25 y21), (mp_arI E a1 0 25 f0), (mp_arI E a2 0 180 f1), (mp_arI E a3 3 3000 f2), (mp_arI E a4 0 90 f3), (mp_arI E a5 0 300 f4), (mp_arI E a6 0 6 f5), (mp_arI E a7 0 78 f6)]) ∨ (v = some (.int 1) ∧ (mp_stp ((f1, f2, f3, f4, f5, f0), y14, y12.toInt) y11.toInt f6 x0.toInt.toNat x1.toInt.toNat x3 x2.toInt.toNat) ∧ w' = [(mp_ob10 a0 y0 a8 a9 a10 a11 a12 y1 y2 y3 y4 y5 y6 y7 y8 y9 y10 a13 a1 a2 a3 a4 a5 a14 a15 y11 a6 a16 a17 a18 y12 y13 y14 a7 a19 y15 y16 a20 a21 a22 y17 y18 y19 y20 a23 a24 a25 y21), (mp_arI E a1 0 25 f0), (mp_arI E a2 0 180 f1), (mp_arI E a3 3 3000 f2), (mp_arI E a4 0 90 f3), (mp_arI E a5 0 300 f4), (mp_arI E a6 0 6 f5), (mp_arI E a7 0 78 f6)])) := by
  refine mp_met false (by decide) (by decide) (Nat.le_of_ble_eq_true rfl) (fun X hF hQ => ?_)
  have hF : mp_F E X (RX10, cX10_isStep, 6, (3, 0, 0, 72), (some FieldType.boolean), false) := hF
  let w1_ : va_W := [(mp_ob10 a0 y0 a8 a9 a10 a11 a12 y1 y2 y3 y4 y5 y6 y7 y8 y9 y10 a13 a1 a2 a3 a4 a5 a14 a15 y11 a6 a16 a17 a18 y12 y13 y14 a7 a19 y15 y16 a20 a21 a22 y17 y18 y19 y20 a23 a24 a25 y21), (mp_arI E a1 0 25 f0), (mp_arI E a2 0 180 f1), (mp_arI E a3 3 3000 f2), (mp_arI E a4 0 90 f3), (mp_arI E a5 0 300 f4), (mp_arI E a6 0 6 f5), (mp_arI E a7 0 78 f6)]
  show mp_W E X 6 0 [(0, .ref a0), (1, .int x0), (2, .int x1), (3, .int x2), (4, .int x3)] [] w1_ 0 0
  refine mp_run mp_k_cX10_isStep_ok hF mp_tabX10_ok [mp_i (.aload_n 0), mp_i (.iload_n 2), mp_i (.iload_n 3), mp_i (.aload_n 0), mp_h (.getfield 276) [24, 0], mp_i (.iload_n 1), mp_i .iadd, mp_c (.iconst 1) 1, mp_i .iadd] (by decide +kernel) ?_
  refine And.intro rfl (And.intro rfl ?_)
  intro z_1 h_2
  have e_3 : z_1.toInt = y11.toInt + x0.toInt := mp_add (a := y11.toInt) (b := x0.toInt) h_2 rfl rfl (by omega) (by omega)
  intro z_4 h_5
  have e_6 : z_4.toInt = z_1.toInt + 1 := mp_add (a := z_1.toInt) (b := 1) h_5 rfl (by decide) (by omega) (by omega)
  show mp_W E X 6 11 [(0, .ref a0), (1, .int x0), (2, .int x1), (3, .int x2), (4, .int x3)] [.int z_4, .int x2, .int x1, .ref a0] w1_ 0 0
  refine mp_callV hF (As := [.int x1, .int x2, .int z_4]) (rest := []) (wr := [(mp_arI E a1 0 25 f0), (mp_arI E a5 0 300 f4), (mp_arI E a6 0 6 f5), (mp_arI E a7 0 78 f6)]) (bX10_oarsBy_108 E a0 a2 a3 a4 a8 a9 a10 a11 a12 a13 a1 a5 a14 a15 a6 a16 a17 a18 a7 a19 a20 a21 a22 a23 a24 a25 f1 f2 f3 y0 y1 y2 y3 y4 y5 y6 y7 y8 y9 y10 y11 y12 y13 y14 y15 y16 y17 y18 y19 y20 y21 x1 x2 z_4 p5 p6 p7 p8 l_x1 u_x1 l_x2 u_x2 (by omega) (by omega) l_y1 u_y1 l_y2 u_y2 l_y3 u_y3 l_y4 u_y4 l_y11 u_y11 l_y12 u_y12 l_y13 u_y13) mp_lkX10_346 0 rfl [0, 2, 3, 4] [1, 5, 6, 7] rfl rfl rfl rfl rfl ⟨(Nat.le_of_ble_eq_true rfl), (Nat.le_of_ble_eq_true rfl), (Nat.le_of_ble_eq_true rfl), (Nat.le_of_ble_eq_true rfl)⟩ (Nat.le_of_ble_eq_true rfl) (by first | exact mp_fd_ok mp_k_cX10_isStep_ok (by decide +kernel) | decide +kernel) (fun v_7 w_8 h_9 => ?_)
  refine h_9.elim fun r_10 q_14 => q_14.elim fun e_15 q_16 => q_16.elim fun l_11 q_17 => q_17.elim fun u_12 q_18 => q_18.elim fun x_13 e_19 => ?_
  clear h_9 q_14 q_16 q_17 q_18
  subst e_15
  subst e_19
  have k_20 : r_10.toInt = mp_oarv ((f1, f2, f3, f4, f5, f0), y14, y12.toInt) ((x1.toInt.toNat : Nat) : Int) ((x2.toInt.toNat : Nat) : Int) (y11.toInt + ((x0.toInt.toNat : Nat) : Int) + 1) := by rw [show ((x1.toInt.toNat : Nat) : Int) = x1.toInt by omega, show ((x2.toInt.toNat : Nat) : Int) = x2.toInt by omega, show y11.toInt + ((x0.toInt.toNat : Nat) : Int) + 1 = z_4.toInt by omega]; exact mp_oarv_of x_13
  have e_21 : 0 ≤ r_10.toInt := by rw [k_20]; exact mp_oarv_nn _ _ _ _
  let w2_ : va_W := [(mp_arI E a1 0 25 f0), (mp_arI E a5 0 300 f4), (mp_arI E a6 0 6 f5), (mp_arI E a7 0 78 f6), (mp_ob10 a0 y0 a8 a9 a10 a11 a12 y1 y2 y3 y4 y5 y6 y7 y8 y9 y10 a13 a1 a2 a3 a4 a5 a14 a15 y11 a6 a16 a17 a18 y12 y13 y14 a7 a19 y15 y16 a20 a21 a22 y17 y18 y19 y20 a23 a24 a25 y21), (mp_arI E a2 0 180 f1), (mp_arI E a3 3 3000 f2), (mp_arI E a4 0 90 f3)]
  show mp_W E X 6 14 [(0, .ref a0), (1, .int x0), (2, .int x1), (3, .int x2), (4, .int x3)] [.int r_10] w2_ 0 0
  refine mp_run mp_k_cX10_isStep_ok hF mp_tabX10_ok [mp_i (.istore 5), mp_i (.iload 5), mp_c (.ldc 142) 1000000, mp_h (.if_icmp .ge 56) [76]] (by decide +kernel) ?_
  refine And.intro (fun c_22 => ?_) (fun c_22 => ?_)
  · have c_22 : 1000000 ≤ r_10.toInt := c_22
    show mp_W E X 6 76 [(5, .int r_10), (0, .ref a0), (1, .int x0), (2, .int x1), (3, .int x2), (4, .int x3)] [] w2_ 0 0
    refine mp_run mp_k_cX10_isStep_ok hF mp_tabX10_ok [mp_c (.iconst 0) 0] (by decide +kernel) ?_
    show mp_W E X 6 77 [(5, .int r_10), (0, .ref a0), (1, .int x0), (2, .int x1), (3, .int x2), (4, .int x3)] [.int 0] w2_ 0 0
    exact mp_iret hF hQ rfl (by decide) (Nat.le_of_ble_eq_true rfl) (Nat.le_of_ble_eq_true rfl) [4, 0, 5, 6, 7, 1, 2, 3] (w' := w1_) rfl rfl (Or.inl ⟨rfl, (fun q => by have h9 := q.1; omega), rfl⟩) (by first | exact mp_fd_ok mp_k_cX10_isStep_ok (by decide +kernel) | decide +kernel)
  · have c_22 : r_10.toInt < 1000000 := c_22
    show mp_W E X 6 23 [(5, .int r_10), (0, .ref a0), (1, .int x0), (2, .int x1), (3, .int x2), (4, .int x3)] [] w2_ 0 0
    refine mp_run mp_k_cX10_isStep_ok hF mp_tabX10_ok [mp_i (.aload_n 0), mp_i (.iload 4), mp_i (.iload_n 3), mp_i (.aload_n 0), mp_h (.getfield 276) [24, 4], mp_i (.iload_n 1), mp_i .iadd, mp_c (.iconst 1) 1, mp_i .iadd] (by decide +kernel) ?_
    refine And.intro rfl (And.intro rfl ?_)
    intro z_23 h_24
    have e_25 : z_23.toInt = y11.toInt + x0.toInt := mp_add (a := y11.toInt) (b := x0.toInt) h_24 rfl rfl (by omega) (by omega)
    intro z_26 h_27
    have e_28 : z_26.toInt = z_23.toInt + 1 := mp_add (a := z_23.toInt) (b := 1) h_27 rfl (by decide) (by omega) (by omega)
    show mp_W E X 6 35 [(5, .int r_10), (0, .ref a0), (1, .int x0), (2, .int x1), (3, .int x2), (4, .int x3)] [.int z_26, .int x2, .int x3, .ref a0] w2_ 0 0
    refine mp_callV hF (As := [.int x3, .int x2, .int z_26]) (rest := []) (wr := [(mp_arI E a7 0 78 f6)]) (bX10_onceBehind_110 E a0 a1 a2 a3 a4 a5 a6 a8 a9 a10 a11 a12 a13 a14 a15 a16 a17 a18 a7 a19 a20 a21 a22 a23 a24 a25 f0 f1 f2 f3 f4 f5 y0 y1 y2 y3 y4 y5 y6 y7 y8 y9 y10 y11 y12 y13 y14 y15 y16 y17 y18 y19 y20 y21 x3 x2 z_26 p0 p1 p2 p3 p4 p5 p6 p7 p8 p9 p10 p11 p12 p13 l_y1 u_y1 l_y2 u_y2 l_y3 u_y3 l_y4 u_y4 l_y11 u_y11 l_y12 u_y12 l_y13 u_y13) mp_lkX10_349 4 rfl [4, 0, 5, 6, 7, 1, 2] [3] rfl rfl rfl rfl rfl ⟨(Nat.le_of_ble_eq_true rfl), (Nat.le_of_ble_eq_true rfl), (Nat.le_of_ble_eq_true rfl), (Nat.le_of_ble_eq_true rfl)⟩ (Nat.le_of_ble_eq_true rfl) (by first | exact mp_fd_ok mp_k_cX10_isStep_ok (by decide +kernel) | decide +kernel) (fun v_29 w_30 h_31 => ?_)
    obtain ⟨r_32, rfl, x_33, rfl⟩ := h_31
    have k_34 : r_32 = mp_oncv ((f1, f2, f3, f4, f5, f0), y14, y12.toInt) x3 ((x2.toInt.toNat : Nat) : Int) (y11.toInt + ((x0.toInt.toNat : Nat) : Int) + 1) := by rw [show ((x2.toInt.toNat : Nat) : Int) = x2.toInt by omega, show y11.toInt + ((x0.toInt.toNat : Nat) : Int) + 1 = z_26.toInt by omega]; exact x_33
    let w3_ : va_W := [(mp_arI E a7 0 78 f6), (mp_ob10 a0 y0 a8 a9 a10 a11 a12 y1 y2 y3 y4 y5 y6 y7 y8 y9 y10 a13 a1 a2 a3 a4 a5 a14 a15 y11 a6 a16 a17 a18 y12 y13 y14 a7 a19 y15 y16 a20 a21 a22 y17 y18 y19 y20 a23 a24 a25 y21), (mp_arI E a1 0 25 f0), (mp_arI E a2 0 180 f1), (mp_arI E a3 3 3000 f2), (mp_arI E a4 0 90 f3), (mp_arI E a5 0 300 f4), (mp_arI E a6 0 6 f5)]
    show mp_W E X 6 38 [(5, .int r_10), (0, .ref a0), (1, .int x0), (2, .int x1), (3, .int x2), (4, .int x3)] [.int r_32] w3_ 0 0
    refine mp_run mp_k_cX10_isStep_ok hF mp_tabX10_ok [mp_c (.iconst (-1)) (-1), mp_h (.if_icmp .eq 37) [76]] (by decide +kernel) ?_
    refine And.intro (fun c_35 => ?_) (fun c_35 => ?_)
    · have c_35 : r_32.toInt = (-1) := (congrArg Int32.toInt c_35)
      show mp_W E X 6 76 [(5, .int r_10), (0, .ref a0), (1, .int x0), (2, .int x1), (3, .int x2), (4, .int x3)] [] w3_ 0 0
      refine mp_run mp_k_cX10_isStep_ok hF mp_tabX10_ok [mp_c (.iconst 0) 0] (by decide +kernel) ?_
      show mp_W E X 6 77 [(5, .int r_10), (0, .ref a0), (1, .int x0), (2, .int x1), (3, .int x2), (4, .int x3)] [.int 0] w3_ 0 0
      exact mp_iret hF hQ rfl (by decide) (Nat.le_of_ble_eq_true rfl) (Nat.le_of_ble_eq_true rfl) [1, 2, 3, 4, 5, 6, 7, 0] (w' := w1_) rfl rfl (Or.inl ⟨rfl, (by first | exact (fun q => q.2.1 (k_34.symm.trans (Int32.toInt_inj.mp c_35))) | exact (fun q => by have h9 := q.2.2; omega)), rfl⟩) (by first | exact mp_fd_ok mp_k_cX10_isStep_ok (by decide +kernel) | decide +kernel)
    · have c_35 : r_32.toInt ≠ (-1) := c_35
      show mp_W E X 6 42 [(5, .int r_10), (0, .ref a0), (1, .int x0), (2, .int x1), (3, .int x2), (4, .int x3)] [] w3_ 0 0
      refine mp_run mp_k_cX10_isStep_ok hF mp_tabX10_ok [mp_i (.aload_n 0), mp_h (.getfield 68) [32, 1], mp_c (.bipush 6) 6, mp_i (.iload_n 1), mp_c (.iconst 1) 1, mp_i .iadd, mp_i .imul, mp_i (.iload_n 3), mp_i .iadd, mp_h .iaload [0], mp_i (.iload 5), mp_i .iadd, mp_i (.aload_n 0), mp_h (.getfield 68) [32, 1], mp_c (.bipush 6) 6, mp_i (.iload_n 1), mp_i .imul, mp_i (.iload_n 2), mp_i .iadd, mp_h .iaload [0], mp_h (.if_icmp .ne 7) [76]] (by decide +kernel) ?_
      refine And.intro rfl (And.intro rfl ?_)
      intro z_36 h_37
      have e_38 : z_36.toInt = x0.toInt + 1 := mp_add (a := x0.toInt) (b := 1) h_37 rfl (by decide) (by omega) (by omega)
      intro z_39 h_40
      have e_41 : z_39.toInt = 6 * z_36.toInt := mp_mul (a := 6) (b := z_36.toInt) h_40 (by decide) rfl (by omega) (by omega)
      intro z_42 h_43
      have e_44 : z_42.toInt = z_39.toInt + x2.toInt := mp_add (a := z_39.toInt) (b := x2.toInt) h_43 rfl rfl (by omega) (by omega)
      refine And.intro rfl (And.intro rfl (And.intro (vp_in_iff.mpr (by omega)) ?_))
      intro z_45 h_46
      have e_48 : z_45.toInt = (f6 (6 * (x0.toInt.toNat + 1) + x2.toInt.toNat)).toInt := mp_at_i h_46 (by omega)
      have e_49 := mp_PW_bd (to := x2.toInt.toNat) q1 (by omega) (by omega) (by omega) (by omega) (by rw [← k_34]; exact (fun q => c_35 (by rw [q]; rfl)))
      intro z_50 h_51
      have e_52 : z_50.toInt = z_45.toInt + r_10.toInt := mp_add (a := z_45.toInt) (b := r_10.toInt) h_51 rfl rfl (by omega) (by omega)
      refine And.intro rfl (And.intro rfl ?_)
      intro z_53 h_54
      have e_55 : z_53.toInt = 6 * x0.toInt := mp_mul (a := 6) (b := x0.toInt) h_54 (by decide) rfl (by omega) (by omega)
      intro z_56 h_57
      have e_58 : z_56.toInt = z_53.toInt + x1.toInt := mp_add (a := z_53.toInt) (b := x1.toInt) h_57 rfl rfl (by omega) (by omega)
      refine And.intro rfl (And.intro rfl (And.intro (vp_in_iff.mpr (by omega)) ?_))
      intro z_59 h_60
      have e_62 : z_59.toInt = (f6 (6 * x0.toInt.toNat + x1.toInt.toNat)).toInt := mp_at_i h_60 (by omega)
      refine And.intro (fun c_63 => ?_) (fun c_63 => ?_)
      · have c_63 : z_50.toInt ≠ z_59.toInt := c_63
        show mp_W E X 6 76 [(5, .int r_10), (0, .ref a0), (1, .int x0), (2, .int x1), (3, .int x2), (4, .int x3)] [] w3_ 0 0
        refine mp_run mp_k_cX10_isStep_ok hF mp_tabX10_ok [mp_c (.iconst 0) 0] (by decide +kernel) ?_
        show mp_W E X 6 77 [(5, .int r_10), (0, .ref a0), (1, .int x0), (2, .int x1), (3, .int x2), (4, .int x3)] [.int 0] w3_ 0 0
        exact mp_iret hF hQ rfl (by decide) (Nat.le_of_ble_eq_true rfl) (Nat.le_of_ble_eq_true rfl) [1, 2, 3, 4, 5, 6, 7, 0] (w' := w1_) rfl rfl (Or.inl ⟨rfl, (by first | exact (fun q => q.2.1 (k_34.symm.trans (Int32.toInt_inj.mp c_35))) | exact (fun q => by have h9 := q.2.2; omega)), rfl⟩) (by first | exact mp_fd_ok mp_k_cX10_isStep_ok (by decide +kernel) | decide +kernel)
      · have c_63 : z_50.toInt = z_59.toInt := (congrArg Int32.toInt c_63)
        show mp_W E X 6 72 [(5, .int r_10), (0, .ref a0), (1, .int x0), (2, .int x1), (3, .int x2), (4, .int x3)] [] w3_ 0 0
        refine mp_run mp_k_cX10_isStep_ok hF mp_tabX10_ok [mp_c (.iconst 1) 1, mp_h (.goto 4) [77]] (by decide +kernel) ?_
        show mp_W E X 6 77 [(5, .int r_10), (0, .ref a0), (1, .int x0), (2, .int x1), (3, .int x2), (4, .int x3)] [.int 1] w3_ 0 0
        exact mp_iret hF hQ rfl (by decide) (Nat.le_of_ble_eq_true rfl) (Nat.le_of_ble_eq_true rfl) [1, 2, 3, 4, 5, 6, 7, 0] (w' := w1_) rfl rfl (Or.inr ⟨rfl, ⟨by omega, (by rw [← k_34]; exact (fun q => c_35 (by rw [q]; rfl))), by omega⟩, rfl⟩) (by first | exact mp_fd_ok mp_k_cX10_isStep_ok (by decide +kernel) | decide +kernel)
