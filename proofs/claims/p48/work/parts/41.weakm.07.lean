set_option maxHeartbeats 4000000 in
set_option maxRecDepth 100000 in
theorem bX10_takes_19 (E : mp_E) (a0 a1 a2 a3 a4 a5 a6 a7 a8 a9 a10 a11 a12 a13 a14 a15 a16 a17 a18 a19 a20 a21 a22 a23 a24 a25 : Nat) (f0 : Nat → Int32) (y0 : Int32) (y1 : Int32) (y2 : Int32) (y3 : Int32) (y4 : Int32) (y5 : Int32) (y6 : Int64) (y7 : Int32) (y8 : Int32) (y9 : Int32) (y10 : Int32) (y11 : Int32) (y12 : Int32) (y13 : Int32) (y14 : Int32) (y15 : Int32) (y16 : Int32) (y17 : Int32) (y18 : Int32) (y19 : Int32) (y20 : Int32) (y21 : Int32) (x0 : Int64) (l_y1 : 0 ≤ y1.toInt) (u_y1 : y1.toInt ≤ 1600) (l_y2 : 0 ≤ y2.toInt) (u_y2 : y2.toInt ≤ 1600) (l_y3 : 0 ≤ y3.toInt) (u_y3 : y3.toInt ≤ 4) (l_y4 : 0 ≤ y4.toInt) (u_y4 : y4.toInt ≤ 1600) (l_y11 : 0 ≤ y11.toInt) (u_y11 : y11.toInt ≤ 99) (l_y12 : 0 ≤ y12.toInt) (u_y12 : y12.toInt ≤ 5) (l_y13 : 0 ≤ y13.toInt) (u_y13 : y13.toInt ≤ 12) (q0 : y2.toInt ≤ y1.toInt) (q1 : mp_MT f0 y1.toInt y3.toInt y4.toInt y2.toInt y5.toInt y6.toInt) : mp_Ct E yX10_takes cX10_takes 3 (some FieldType.boolean) 2 0 0 44 [.ref a0, .long x0] [(mp_ob10 a0 y0 a2 a3 a4 a5 a1 y1 y2 y3 y4 y5 y6 y7 y8 y9 y10 a6 a7 a8 a9 a10 a11 a12 a13 y11 a14 a15 a16 a17 y12 y13 y14 a18 a19 y15 y16 a20 a21 a22 y17 y18 y19 y20 a23 a24 a25 y21), (mp_arI E a1 1 1600 f0)] (fun v w' => (v = some (.int 0) ∧ (y2.toInt ≤ y1.toInt) ∧ ((5 * (y1.toInt - y2.toInt) + y3.toInt) ≤ (5 * (y1.toInt - y2.toInt) + y3.toInt)) ∧ (y7.toInt ≠ 0 ∨ ¬ (mp_TK f0 (y1.toInt).toNat (y4.toInt).toNat = 1 ∧ mp_WD f0 (y1.toInt).toNat (y4.toInt).toNat = x0.toInt)) ∧ (mp_MT f0 y1.toInt y3.toInt y4.toInt y2.toInt y5.toInt y6.toInt) ∧ w' = [(mp_ob10 a0 y0 a2 a3 a4 a5 a1 y1 y2 y3 y4 y5 y6 y7 y8 y9 y10 a6 a7 a8 a9 a10 a11 a12 a13 y11 a14 a15 a16 a17 y12 y13 y14 a18 a19 y15 y16 a20 a21 a22 y17 y18 y19 y20 a23 a24 a25 y21), (mp_arI E a1 1 1600 f0)]) ∨ (∃ r1 : Int32, ∃ r2 : Int32, ∃ r3 : Int32, ∃ r4 : Int32, ∃ r5 : Int64, v = some (.int 1) ∧ y7.toInt = 0 ∧ y3.toInt = 1 ∧ y6.toInt = x0.toInt ∧ 0 ≤ r1.toInt ∧ r1.toInt ≤ 1600 ∧ 0 ≤ r2.toInt ∧ r2.toInt ≤ 4 ∧ 0 ≤ r3.toInt ∧ r3.toInt ≤ 1600 ∧ 0 ≤ r4.toInt ∧ r4.toInt ≤ 10000009 ∧ (-1) ≤ r5.toInt ∧ r5.toInt ≤ 150094635296999121 ∧ (r1.toInt ≤ y1.toInt) ∧ ((5 * (y1.toInt - r1.toInt) + r2.toInt) ≤ (5 * (y1.toInt - y2.toInt) + y3.toInt)) ∧ (y7.toInt = 0 ∧ mp_TK f0 (y1.toInt).toNat (y4.toInt).toNat = 1 ∧ mp_WD f0 (y1.toInt).toNat (y4.toInt).toNat = x0.toInt) ∧ (r3.toInt = ((mp_NX f0 (y1.toInt).toNat (y4.toInt).toNat : Nat) : Int)) ∧ (mp_MT f0 y1.toInt r2.toInt r3.toInt r1.toInt r4.toInt r5.toInt) ∧ w' = [(mp_ob10 a0 y0 a2 a3 a4 a5 a1 y1 r1 r2 r3 r4 r5 y7 y8 y9 y10 a6 a7 a8 a9 a10 a11 a12 a13 y11 a14 a15 a16 a17 y12 y13 y14 a18 a19 y15 y16 a20 a21 a22 y17 y18 y19 y20 a23 a24 a25 y21), (mp_arI E a1 1 1600 f0)])) := by
  refine mp_met false (by decide) (by decide) (Nat.le_of_ble_eq_true rfl) (fun X hF hQ => ?_)
  have hF : mp_F E X (RX10, cX10_takes, 3, (2, 0, 0, 44), (some FieldType.boolean), false) := hF
  let w1_ : va_W := [(mp_ob10 a0 y0 a2 a3 a4 a5 a1 y1 y2 y3 y4 y5 y6 y7 y8 y9 y10 a6 a7 a8 a9 a10 a11 a12 a13 y11 a14 a15 a16 a17 y12 y13 y14 a18 a19 y15 y16 a20 a21 a22 y17 y18 y19 y20 a23 a24 a25 y21), (mp_arI E a1 1 1600 f0)]
  show mp_W E X 3 0 [(0, .ref a0), (1, .long x0)] [] w1_ 0 0
  refine mp_run mp_k_cX10_takes_ok hF mp_tabX10_ok [mp_i (.aload_n 0), mp_i (.lload_n 1)] (by decide +kernel) ?_
  show mp_W E X 3 2 [(0, .ref a0), (1, .long x0)] [.long x0, .ref a0] w1_ 0 0
  refine mp_callV hF (As := [.long x0]) (rest := []) (wr := []) (bX10_is_15 E a0 a1 a2 a3 a4 a5 a6 a7 a8 a9 a10 a11 a12 a13 a14 a15 a16 a17 a18 a19 a20 a21 a22 a23 a24 a25 f0 y0 y1 y2 y3 y4 y5 y6 y7 y8 y9 y10 y11 y12 y13 y14 y15 y16 y17 y18 y19 y20 y21 x0 l_y1 u_y1 l_y2 u_y2 l_y3 u_y3 l_y4 u_y4 l_y11 u_y11 l_y12 u_y12 l_y13 u_y13 (by assumption)) mp_lkX10_150 0 rfl [0, 1] [] rfl rfl rfl rfl rfl ⟨(Nat.le_of_ble_eq_true rfl), (Nat.le_of_ble_eq_true rfl), (Nat.le_of_ble_eq_true rfl), (Nat.le_of_ble_eq_true rfl)⟩ (Nat.le_of_ble_eq_true rfl) (by first | exact mp_fd_ok mp_k_cX10_takes_ok (by decide +kernel) | decide +kernel) (fun v_1 w_2 h_3 => ?_)
  refine h_3.elim (fun q_9 => ?_) (fun q_10 => ?_)
  · skip
    refine q_9.elim fun e_11 q_12 => q_12.elim fun x_4 e_13 => ?_
    clear h_3 q_9 q_12
    subst e_11
    subst e_13
    show mp_W E X 3 5 [(0, .ref a0), (1, .long x0)] [.int 0] w1_ 0 0
    refine mp_run mp_k_cX10_takes_ok hF mp_tabX10_ok [mp_h (.ifCond .ne 5) [10]] (by decide +kernel) ?_
    refine And.intro (fun c_14 => absurd c_14 (by decide)) (fun _ => ?_)
    show mp_W E X 3 8 [(0, .ref a0), (1, .long x0)] [] w1_ 0 0
    refine mp_run mp_k_cX10_takes_ok hF mp_tabX10_ok [mp_c (.iconst 0) 0] (by decide +kernel) ?_
    show mp_W E X 3 9 [(0, .ref a0), (1, .long x0)] [.int 0] w1_ 0 0
    exact mp_iret hF hQ rfl (by decide) (Nat.le_of_ble_eq_true rfl) (Nat.le_of_ble_eq_true rfl) [0, 1] (w' := w1_) rfl rfl (Or.inl ⟨rfl, (by first | omega | decide), (by first | omega | decide), x_4, q1, rfl⟩) (by first | exact mp_fd_ok mp_k_cX10_takes_ok (by decide +kernel) | decide +kernel)
  · skip
    refine q_10.elim fun e_15 q_16 => q_16.elim fun c_5 q_17 => q_17.elim fun c_6 q_18 => q_18.elim fun c_7 q_19 => q_19.elim fun x_8 e_20 => ?_
    clear h_3 q_10 q_16 q_17 q_18 q_19
    subst e_15
    subst e_20
    have c_5 : y7.toInt = 0 := c_5
    have c_6 : y3.toInt = 1 := c_6
    have c_7 : y6.toInt = x0.toInt := c_7
    show mp_W E X 3 5 [(0, .ref a0), (1, .long x0)] [.int 1] w1_ 0 0
    refine mp_run mp_k_cX10_takes_ok hF mp_tabX10_ok [mp_h (.ifCond .ne 5) [10]] (by decide +kernel) ?_
    refine And.intro (fun _ => ?_) (fun c_21 => absurd c_21 (by decide))
    show mp_W E X 3 10 [(0, .ref a0), (1, .long x0)] [] w1_ 0 0
    refine mp_run mp_k_cX10_takes_ok hF mp_tabX10_ok [mp_i (.aload_n 0)] (by decide +kernel) ?_
    show mp_W E X 3 11 [(0, .ref a0), (1, .long x0)] [.ref a0] w1_ 0 0
    refine mp_callV hF (As := []) (rest := []) (wr := []) (bX10_next_12 E a0 a1 a2 a3 a4 a5 a6 a7 a8 a9 a10 a11 a12 a13 a14 a15 a16 a17 a18 a19 a20 a21 a22 a23 a24 a25 f0 y0 y1 y2 y3 y4 y5 y6 y7 y8 y9 y10 y11 y12 y13 y14 y15 y16 y17 y18 y19 y20 y21 l_y1 u_y1 l_y2 u_y2 l_y3 u_y3 l_y4 u_y4 l_y11 u_y11 l_y12 u_y12 l_y13 u_y13 (by first | omega | (show y2.toInt ≤ y1.toInt; omega))) mp_lkX10_154 0 rfl [0, 1] [] rfl rfl rfl rfl rfl ⟨(Nat.le_of_ble_eq_true rfl), (Nat.le_of_ble_eq_true rfl), (Nat.le_of_ble_eq_true rfl), (Nat.le_of_ble_eq_true rfl)⟩ (Nat.le_of_ble_eq_true rfl) (by first | exact mp_fd_ok mp_k_cX10_takes_ok (by decide +kernel) | decide +kernel) (fun v_22 w_23 h_24 => ?_)
    refine h_24.elim fun r_25 q_44 => q_44.elim fun r_26 q_45 => q_45.elim fun r_27 q_46 => q_46.elim fun r_28 q_47 => q_47.elim fun r_29 q_48 => q_48.elim fun e_49 q_50 => q_50.elim fun l_30 q_51 => q_51.elim fun u_31 q_52 => q_52.elim fun l_32 q_53 => q_53.elim fun u_33 q_54 => q_54.elim fun l_34 q_55 => q_55.elim fun u_35 q_56 => q_56.elim fun l_36 q_57 => q_57.elim fun u_37 q_58 => q_58.elim fun l_38 q_59 => q_59.elim fun u_39 q_60 => q_60.elim fun x_40 q_61 => q_61.elim fun x_41 q_62 => q_62.elim fun x_42 q_63 => q_63.elim fun x_43 e_64 => ?_
    clear h_24 q_44 q_45 q_46 q_47 q_48 q_50 q_51 q_52 q_53 q_54 q_55 q_56 q_57 q_58 q_59 q_60 q_61 q_62 q_63
    subst e_49
    subst e_64
    let w2_ : va_W := [(mp_ob10 a0 y0 a2 a3 a4 a5 a1 y1 r_25 r_26 r_27 r_28 r_29 y7 y8 y9 y10 a6 a7 a8 a9 a10 a11 a12 a13 y11 a14 a15 a16 a17 y12 y13 y14 a18 a19 y15 y16 a20 a21 a22 y17 y18 y19 y20 a23 a24 a25 y21), (mp_arI E a1 1 1600 f0)]
    show mp_W E X 3 14 [(0, .ref a0), (1, .long x0)] [] w2_ 0 0
    refine mp_run mp_k_cX10_takes_ok hF mp_tabX10_ok [mp_c (.iconst 1) 1] (by decide +kernel) ?_
    show mp_W E X 3 15 [(0, .ref a0), (1, .long x0)] [.int 1] w2_ 0 0
    exact mp_iret hF hQ rfl (by decide) (Nat.le_of_ble_eq_true rfl) (Nat.le_of_ble_eq_true rfl) [0, 1] (w' := w2_) rfl rfl (Or.inr ⟨r_25, r_26, r_27, r_28, r_29, rfl, (by first | omega | decide), (by first | omega | decide), (by first | omega | decide), l_30, u_31, l_32, u_33, l_34, u_35, l_36, u_37, l_38, u_39, (by first | omega | decide), (by first | omega | decide), x_8, (by have k9 := x_42; unfold mp_NX; rw [← Int.toNat_natCast (mp_TE _ _ _), ← q1.2.2.1]; exact k9), x_43, rfl⟩) (by first | exact mp_fd_ok mp_k_cX10_takes_ok (by decide +kernel) | decide +kernel)
