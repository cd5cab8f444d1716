set_option maxHeartbeats 4000000 in
set_option maxRecDepth 100000 in
theorem bX10_weighed_139 (E : mp_E) (a0 a1 a2 a3 a4 a5 a6 a7 a8 a9 a10 a11 a12 a13 a14 a15 a16 a17 a18 a19 a20 a21 a22 a23 a24 a25 : Nat) (f0 : Nat → Int32) (f1 : Nat → Int32) (f2 : Nat → Int64) (f3 : Nat → Int32) (f4 : Nat → Int32) (y0 : Int32) (y1 : Int32) (y2 : Int32) (y3 : Int32) (y4 : Int32) (y5 : Int32) (y6 : Int64) (y7 : Int32) (y8 : Int32) (y9 : Int32) (y10 : Int32) (y11 : Int32) (y12 : Int32) (y13 : Int32) (y14 : Int32) (y15 : Int32) (y16 : Int32) (y17 : Int32) (y18 : Int32) (y19 : Int32) (y20 : Int32) (y21 : Int32) (x0 : Int32) (x1 : Int32) (p0 : mp_all f1 4 0 60) (p1 : mp_res f3 25 5 0 0 6) (p2 : mp_res f3 25 5 1 0 99) (p3 : mp_res f3 25 5 2 0 6) (p4 : mp_res f3 25 5 3 0 10) (p5 : mp_res f3 25 5 4 0 60) (p6 : mp_res f4 300 6 0 0 5) (p7 : mp_res f4 300 6 1 0 5) (p8 : mp_res f4 300 6 3 0 99) (p9 : mp_res f4 300 6 4 0 1) (l_y1 : 0 ≤ y1.toInt) (u_y1 : y1.toInt ≤ 1600) (l_y2 : 0 ≤ y2.toInt) (u_y2 : y2.toInt ≤ 1600) (l_y3 : 0 ≤ y3.toInt) (u_y3 : y3.toInt ≤ 4) (l_y4 : 0 ≤ y4.toInt) (u_y4 : y4.toInt ≤ 1600) (l_y11 : 0 ≤ y11.toInt) (u_y11 : y11.toInt ≤ 99) (l_y12 : 0 ≤ y12.toInt) (u_y12 : y12.toInt ≤ 5) (l_y13 : 0 ≤ y13.toInt) (u_y13 : y13.toInt ≤ 12) (q0 : ∀ j : Nat, (j : Int) < (f3 3).toInt → 1 ≤ (f4 (6 * j + 2)).toInt ∧ (f4 (6 * j + 2)).toInt ≤ 1000000) : mp_Ct E yX10_weighed cX10_weighed 4 (some FieldType.int) 4 0 0 93 [.ref a0, .int x0, .int x1] [(mp_ob10 a0 y0 a1 a2 a3 a6 a7 y1 y2 y3 y4 y5 y6 y7 y8 y9 y10 a8 a4 a9 a10 a11 a5 a12 a13 y11 a14 a15 a16 a17 y12 y13 y14 a18 a19 y15 y16 a20 a21 a22 y17 y18 y19 y20 a23 a24 a25 y21), (mp_arI E a1 0 4 f0), (mp_arI E a2 0 4 f1), (mp_arL E a3 240 f2), (mp_arI E a4 0 25 f3), (mp_arI E a5 0 300 f4)] (fun v w' => (v = some (.int (-2)) ∧ ((x0.toInt < 0 ∨ 3 < x0.toInt ∨ x1.toInt < 0 ∨ (f3 3).toInt ≤ x1.toInt ∨ (0 ≤ x1.toInt ∧ x1.toInt < (f3 3).toInt ∧ (f4 (6 * x1.toInt.toNat + 5)).toInt ≠ -1)) ∨ (((0 ≤ x0.toInt ∧ x0.toInt ≤ 3) ∧ (0 ≤ x1.toInt ∧ x1.toInt < (f3 3).toInt) ∧ (f4 (6 * x1.toInt.toNat + 5)).toInt = -1) ∧ (f0 x0.toInt.toNat).toInt ≠ -1 ∧ ((f1 x0.toInt.toNat).toInt % 2 ≠ 0 ∨ ¬ mp_vd f2 x0.toInt ((f1 x0.toInt.toNat).toInt / 2).toNat (f4 (6 * x1.toInt.toNat + 3)).toInt))) ∧ w' = [(mp_ob10 a0 0 a1 a2 a3 a6 a7 y1 y2 y3 y4 y5 y6 y7 y8 y9 y10 a8 a4 a9 a10 a11 a5 a12 a13 y11 a14 a15 a16 a17 y12 y13 y14 a18 a19 y15 y16 a20 a21 a22 y17 y18 y19 y20 a23 a24 a25 y21), (mp_arI E a1 0 4 f0), (mp_arI E a2 0 4 f1), (mp_arL E a3 240 f2), (mp_arI E a4 0 25 f3), (mp_arI E a5 0 300 f4)]) ∨ (∃ r1 : Int32, ∃ r2 : Int32, ∃ r3 : Int32, ∃ r4 : Int32, ∃ r5 : Int32, v = some (.int r5) ∧ 0 ≤ x0.toInt ∧ x0.toInt ≤ 3 ∧ 0 ≤ x1.toInt ∧ 0 ≤ r3.toInt ∧ r3.toInt ≤ 1023 ∧ ((0 ≤ x0.toInt ∧ x0.toInt ≤ 3) ∧ (0 ≤ x1.toInt ∧ x1.toInt < (f3 3).toInt) ∧ (f4 (6 * x1.toInt.toNat + 5)).toInt = -1 ∧ (f0 x0.toInt.toNat).toInt ≠ -1 ∧ (f1 x0.toInt.toNat).toInt % 2 = 0) ∧ (mp_vd f2 x0.toInt ((f1 x0.toInt.toNat).toInt / 2).toNat (f4 (6 * x1.toInt.toNat + 3)).toInt) ∧ (r5.toInt = mp_wN (fun m => mp_ft f2 x0.toInt (f4 (6 * x1.toInt.toNat + 3)).toInt (f4 (6 * x1.toInt.toNat + 2)).toInt (f4 (6 * x1.toInt.toNat + 4)).toInt (Int32.ofNat m) ((f1 x0.toInt.toNat).toInt / 2).toNat) 1024) ∧ w' = [(mp_ob10 a0 0 a1 a2 a3 a6 a7 y1 y2 y3 y4 y5 y6 y7 y8 y9 y10 a8 a4 a9 a10 a11 a5 a12 a13 y11 a14 a15 a16 a17 y12 y13 y14 a18 a19 y15 y16 a20 a21 a22 r1 r2 r3 r4 a23 a24 a25 y21), (mp_arI E a1 0 4 f0), (mp_arI E a2 0 4 f1), (mp_arL E a3 240 f2), (mp_arI E a4 0 25 f3), (mp_arI E a5 0 300 f4)]) ∨ (v = some (.int (-6)) ∧ 0 ≤ x0.toInt ∧ x0.toInt ≤ 3 ∧ 0 ≤ x1.toInt ∧ ((0 ≤ x0.toInt ∧ x0.toInt ≤ 3) ∧ (0 ≤ x1.toInt ∧ x1.toInt < (f3 3).toInt) ∧ (f4 (6 * x1.toInt.toNat + 5)).toInt = -1 ∧ (f0 x0.toInt.toNat).toInt = -1) ∧ w' = [(mp_ob10 a0 0 a1 a2 a3 a6 a7 y1 y2 y3 y4 y5 y6 y7 y8 y9 y10 a8 a4 a9 a10 a11 a5 a12 a13 y11 a14 a15 a16 a17 y12 y13 y14 a18 a19 y15 y16 a20 a21 a22 y17 y18 y19 y20 a23 a24 a25 y21), (mp_arI E a1 0 4 f0), (mp_arI E a2 0 4 f1), (mp_arL E a3 240 f2), (mp_arI E a4 0 25 f3), (mp_arI E a5 0 300 f4)])) := by
  refine mp_met false (by decide) (by decide) (Nat.le_of_ble_eq_true rfl) (fun X hF hQ => ?_)
  have hF : mp_F E X (RX10, cX10_weighed, 4, (4, 0, 0, 93), (some FieldType.int), false) := hF
  let w1_ : va_W := [(mp_ob10 a0 y0 a1 a2 a3 a6 a7 y1 y2 y3 y4 y5 y6 y7 y8 y9 y10 a8 a4 a9 a10 a11 a5 a12 a13 y11 a14 a15 a16 a17 y12 y13 y14 a18 a19 y15 y16 a20 a21 a22 y17 y18 y19 y20 a23 a24 a25 y21), (mp_arI E a1 0 4 f0), (mp_arI E a2 0 4 f1), (mp_arL E a3 240 f2), (mp_arI E a4 0 25 f3), (mp_arI E a5 0 300 f4)]
  show mp_W E X 4 0 [(0, .ref a0), (1, .int x0), (2, .int x1)] [] w1_ 0 0
  refine mp_run mp_k_cX10_weighed_ok hF mp_tabX10_ok [mp_i (.aload_n 0), mp_c (.iconst 0) 0, mp_h (.putfield 92) [0, 0]] (by decide +kernel) ?_
  refine And.intro rfl (And.intro rfl (And.intro rfl (And.intro rfl (And.intro (Nat.le_of_ble_eq_true rfl) ?_))))
  let w2_ : va_W := [(mp_ob10 a0 0 a1 a2 a3 a6 a7 y1 y2 y3 y4 y5 y6 y7 y8 y9 y10 a8 a4 a9 a10 a11 a5 a12 a13 y11 a14 a15 a16 a17 y12 y13 y14 a18 a19 y15 y16 a20 a21 a22 y17 y18 y19 y20 a23 a24 a25 y21), (mp_arI E a1 0 4 f0), (mp_arI E a2 0 4 f1), (mp_arL E a3 240 f2), (mp_arI E a4 0 25 f3), (mp_arI E a5 0 300 f4)]
  show mp_W E X 4 5 [(0, .ref a0), (1, .int x0), (2, .int x1)] [] w2_ 0 0
  refine mp_run mp_k_cX10_weighed_ok hF mp_tabX10_ok [mp_i (.aload_n 0), mp_i (.iload_n 1), mp_i (.iload_n 2)] (by decide +kernel) ?_
  show mp_W E X 4 8 [(0, .ref a0), (1, .int x0), (2, .int x1)] [.int x1, .int x0, .ref a0] w2_ 0 0
  refine mp_callV hF (As := [.int x0, .int x1]) (rest := []) (wr := []) (bX10_whyNot_135 E a0 a1 a2 a3 a4 a5 a6 a7 a8 a9 a10 a11 a12 a13 a14 a15 a16 a17 a18 a19 a20 a21 a22 a23 a24 a25 f0 f1 f2 f3 f4 0 y1 y2 y3 y4 y5 y6 y7 y8 y9 y10 y11 y12 y13 y14 y15 y16 y17 y18 y19 y20 y21 x0 x1 p0 p1 p2 p3 p4 p5 p6 p7 p8 p9 l_y1 u_y1 l_y2 u_y2 l_y3 u_y3 l_y4 u_y4 l_y11 u_y11 l_y12 u_y12 l_y13 u_y13) mp_lkX10_432 0 rfl [0, 1, 2, 3, 4, 5] [] rfl rfl rfl rfl rfl ⟨(Nat.le_of_ble_eq_true rfl), (Nat.le_of_ble_eq_true rfl), (Nat.le_of_ble_eq_true rfl), (Nat.le_of_ble_eq_true rfl)⟩ (Nat.le_of_ble_eq_true rfl) (by first | exact mp_fd_ok mp_k_cX10_weighed_ok (by decide +kernel) | decide +kernel) (fun v_1 w_2 h_3 => ?_)
  refine h_3.elim (fun q_21 => ?_) (fun q_22 => q_22.elim (fun q_23 => ?_) (fun q_24 => ?_))
  · skip
    refine q_21.elim fun e_25 q_26 => q_26.elim fun x_4 e_27 => ?_
    clear h_3 q_21 q_26
    subst e_25
    subst e_27
    show mp_W E X 4 11 [(0, .ref a0), (1, .int x0), (2, .int x1)] [.int (-2)] w2_ 0 0
    refine mp_run mp_k_cX10_weighed_ok hF mp_tabX10_ok [mp_i (.istore_n 3), mp_i (.iload_n 3), mp_h (.ifCond .eq 5) [18]] (by decide +kernel) ?_
    refine And.intro (fun c_28 => absurd c_28 (by decide)) (fun _ => ?_)
    show mp_W E X 4 16 [(3, .int (-2)), (0, .ref a0), (1, .int x0), (2, .int x1)] [] w2_ 0 0
    refine mp_run mp_k_cX10_weighed_ok hF mp_tabX10_ok [mp_i (.iload_n 3)] (by decide +kernel) ?_
    show mp_W E X 4 17 [(3, .int (-2)), (0, .ref a0), (1, .int x0), (2, .int x1)] [.int (-2)] w2_ 0 0
    exact mp_iret hF hQ rfl rfl (Nat.le_of_ble_eq_true rfl) (Nat.le_of_ble_eq_true rfl) [0, 1, 2, 3, 4, 5] (w' := w2_) rfl rfl (Or.inl ⟨rfl, x_4, rfl⟩) (by first | exact mp_fd_ok mp_k_cX10_weighed_ok (by decide +kernel) | decide +kernel)
  · skip
    refine q_23.elim fun e_29 q_30 => q_30.elim fun c_5 q_31 => q_31.elim fun c_6 q_32 => q_32.elim fun c_7 q_33 => q_33.elim fun x_8 q_34 => q_34.elim fun x_9 q_35 => q_35.elim fun x_10 q_36 => q_36.elim fun x_11 q_37 => q_37.elim fun x_12 q_38 => q_38.elim fun x_13 q_39 => q_39.elim fun x_14 q_40 => q_40.elim fun x_15 q_41 => q_41.elim fun x_16 e_42 => ?_
    clear h_3 q_22 q_23 q_30 q_31 q_32 q_33 q_34 q_35 q_36 q_37 q_38 q_39 q_40 q_41
    subst e_29
    subst e_42
    have c_5 : 0 ≤ x0.toInt := c_5
    have c_6 : x0.toInt ≤ 3 := c_6
    have c_7 : 0 ≤ x1.toInt := c_7
    show mp_W E X 4 11 [(0, .ref a0), (1, .int x0), (2, .int x1)] [.int 0] w2_ 0 0
    refine mp_run mp_k_cX10_weighed_ok hF mp_tabX10_ok [mp_i (.istore_n 3), mp_i (.iload_n 3), mp_h (.ifCond .eq 5) [18]] (by decide +kernel) ?_
    refine And.intro (fun _ => ?_) (fun c_43 => absurd c_43 (by decide))
    show mp_W E X 4 18 [(3, .int 0), (0, .ref a0), (1, .int x0), (2, .int x1)] [] w2_ 0 0
    refine mp_run mp_k_cX10_weighed_ok hF mp_tabX10_ok [mp_i (.aload_n 0), mp_i (.iload_n 1), mp_i (.iload_n 2)] (by decide +kernel) ?_
    show mp_W E X 4 21 [(3, .int 0), (0, .ref a0), (1, .int x0), (2, .int x1)] [.int x1, .int x0, .ref a0] w2_ 0 0
    refine mp_callV hF (As := [.int x0, .int x1]) (rest := []) (wr := []) (bX10_laysWays_138 E a0 a1 a2 a3 a4 a5 a6 a7 a8 a9 a10 a11 a12 a13 a14 a15 a16 a17 a18 a19 a20 a21 a22 a23 a24 a25 f0 f1 f2 f3 f4 0 y1 y2 y3 y4 y5 y6 y7 y8 y9 y10 y11 y12 y13 y14 y15 y16 y17 y18 y19 y20 y21 x0 x1 p0 p1 p2 p3 p4 p5 p6 p7 p8 p9 (by omega) (by omega) (by omega) (by omega) l_y1 u_y1 l_y2 u_y2 l_y3 u_y3 l_y4 u_y4 l_y11 u_y11 l_y12 u_y12 l_y13 u_y13 (by first | assumption | omega) (by assumption) (by assumption) (by first | assumption | (have k9 := q0 x1.toInt.toNat (by omega); omega)) (by first | assumption | omega)) mp_lkX10_435 0 rfl [0, 1, 2, 3, 4, 5] [] rfl rfl rfl rfl rfl ⟨(Nat.le_of_ble_eq_true rfl), (Nat.le_of_ble_eq_true rfl), (Nat.le_of_ble_eq_true rfl), (Nat.le_of_ble_eq_true rfl)⟩ (Nat.le_of_ble_eq_true rfl) (by first | exact mp_fd_ok mp_k_cX10_weighed_ok (by decide +kernel) | decide +kernel) (fun v_44 w_45 h_46 => ?_)
    refine h_46.elim fun r_47 q_57 => q_57.elim fun r_48 q_58 => q_58.elim fun r_49 q_59 => q_59.elim fun r_50 q_60 => q_60.elim fun e_61 q_62 => q_62.elim fun l_51 q_63 => q_63.elim fun u_52 q_64 => q_64.elim fun x_53 q_65 => q_65.elim fun x_54 q_66 => q_66.elim fun x_55 q_67 => q_67.elim fun x_56 e_68 => ?_
    clear h_46 q_57 q_58 q_59 q_60 q_62 q_63 q_64 q_65 q_66 q_67
    subst e_61
    subst e_68
    let w3_ : va_W := [(mp_ob10 a0 0 a1 a2 a3 a6 a7 y1 y2 y3 y4 y5 y6 y7 y8 y9 y10 a8 a4 a9 a10 a11 a5 a12 a13 y11 a14 a15 a16 a17 y12 y13 y14 a18 a19 y15 y16 a20 a21 a22 r_47 r_48 r_49 r_50 a23 a24 a25 y21), (mp_arI E a1 0 4 f0), (mp_arI E a2 0 4 f1), (mp_arL E a3 240 f2), (mp_arI E a4 0 25 f3), (mp_arI E a5 0 300 f4)]
    show mp_W E X 4 24 [(3, .int 0), (0, .ref a0), (1, .int x0), (2, .int x1)] [] w3_ 0 0
    refine mp_run mp_k_cX10_weighed_ok hF mp_tabX10_ok [mp_i (.aload_n 0), mp_h (.getfield 417) [39, 0]] (by decide +kernel) ?_
    refine And.intro rfl (And.intro rfl ?_)
    show mp_W E X 4 28 [(3, .int 0), (0, .ref a0), (1, .int x0), (2, .int x1)] [.int r_47] w3_ 0 0
    exact mp_iret hF hQ rfl rfl (Nat.le_of_ble_eq_true rfl) (Nat.le_of_ble_eq_true rfl) [0, 1, 2, 3, 4, 5] (w' := w3_) rfl rfl (Or.inr (Or.inl ⟨r_47, r_48, r_49, r_50, r_47, rfl, (by first | omega | decide), (by first | omega | decide), (by first | omega | decide), l_51, u_52, x_14, x_15, x_53, rfl⟩)) (by first | exact mp_fd_ok mp_k_cX10_weighed_ok (by decide +kernel) | decide +kernel)
  · skip
    refine q_24.elim fun e_69 q_70 => q_70.elim fun c_17 q_71 => q_71.elim fun c_18 q_72 => q_72.elim fun c_19 q_73 => q_73.elim fun x_20 e_74 => ?_
    clear h_3 q_22 q_24 q_70 q_71 q_72 q_73
    subst e_69
    subst e_74
    have c_17 : 0 ≤ x0.toInt := c_17
    have c_18 : x0.toInt ≤ 3 := c_18
    have c_19 : 0 ≤ x1.toInt := c_19
    show mp_W E X 4 11 [(0, .ref a0), (1, .int x0), (2, .int x1)] [.int (-6)] w2_ 0 0
    refine mp_run mp_k_cX10_weighed_ok hF mp_tabX10_ok [mp_i (.istore_n 3), mp_i (.iload_n 3), mp_h (.ifCond .eq 5) [18]] (by decide +kernel) ?_
    refine And.intro (fun c_75 => absurd c_75 (by decide)) (fun _ => ?_)
    show mp_W E X 4 16 [(3, .int (-6)), (0, .ref a0), (1, .int x0), (2, .int x1)] [] w2_ 0 0
    refine mp_run mp_k_cX10_weighed_ok hF mp_tabX10_ok [mp_i (.iload_n 3)] (by decide +kernel) ?_
    show mp_W E X 4 17 [(3, .int (-6)), (0, .ref a0), (1, .int x0), (2, .int x1)] [.int (-6)] w2_ 0 0
    exact mp_iret hF hQ rfl rfl (Nat.le_of_ble_eq_true rfl) (Nat.le_of_ble_eq_true rfl) [0, 1, 2, 3, 4, 5] (w' := w2_) rfl rfl (Or.inr (Or.inr ⟨rfl, (by first | omega | decide), (by first | omega | decide), (by first | omega | decide), x_20, rfl⟩)) (by first | exact mp_fd_ok mp_k_cX10_weighed_ok (by decide +kernel) | decide +kernel)
set_option maxHeartbeats 4000000 in
set_option maxRecDepth 100000 in
theorem bX10_must_140 (E : mp_E) (a0 a1 a2 a3 a4 a5 a6 a7 a8 a9 a10 a11 a12 a13 a14 a15 a16 a17 a18 a19 a20 a21 a22 a23 a24 a25 : Nat) (f0 : Nat → Int32) (f1 : Nat → Int32) (f2 : Nat → Int64) (f3 : Nat → Int32) (f4 : Nat → Int32) (y0 : Int32) (y1 : Int32) (y2 : Int32) (y3 : Int32) (y4 : Int32) (y5 : Int32) (y6 : Int64) (y7 : Int32) (y8 : Int32) (y9 : Int32) (y10 : Int32) (y11 : Int32) (y12 : Int32) (y13 : Int32) (y14 : Int32) (y15 : Int32) (y16 : Int32) (y17 : Int32) (y18 : Int32) (y19 : Int32) (y20 : Int32) (y21 : Int32) (x0 : Int32) (x1 : Int32) (x2 : Int32) (p0 : mp_all f1 4 0 60) (p1 : mp_res f3 25 5 0 0 6) (p2 : mp_res f3 25 5 1 0 99) (p3 : mp_res f3 25 5 2 0 6) (p4 : mp_res f3 25 5 3 0 10) (p5 : mp_res f3 25 5 4 0 60) (p6 : mp_res f4 300 6 0 0 5) (p7 : mp_res f4 300 6 1 0 5) (p8 : mp_res f4 300 6 3 0 99) (p9 : mp_res f4 300 6 4 0 1) (l_y1 : 0 ≤ y1.toInt) (u_y1 : y1.toInt ≤ 1600) (l_y2 : 0 ≤ y2.toInt) (u_y2 : y2.toInt ≤ 1600) (l_y3 : 0 ≤ y3.toInt) (u_y3 : y3.toInt ≤ 4) (l_y4 : 0 ≤ y4.toInt) (u_y4 : y4.toInt ≤ 1600) (l_y11 : 0 ≤ y11.toInt) (u_y11 : y11.toInt ≤ 99) (l_y12 : 0 ≤ y12.toInt) (u_y12 : y12.toInt ≤ 5) (l_y13 : 0 ≤ y13.toInt) (u_y13 : y13.toInt ≤ 12) (q0 : ∀ j : Nat, (j : Int) < (f3 3).toInt → 1 ≤ (f4 (6 * j + 2)).toInt ∧ (f4 (6 * j + 2)).toInt ≤ 1000000) : mp_Ct E yX10_must cX10_must 5 (some FieldType.int) 4 0 0 93 [.ref a0, .int x0, .int x1, .int x2] [(mp_ob10 a0 y0 a1 a2 a3 a6 a7 y1 y2 y3 y4 y5 y6 y7 y8 y9 y10 a8 a4 a9 a10 a11 a5 a12 a13 y11 a14 a15 a16 a17 y12 y13 y14 a18 a19 y15 y16 a20 a21 a22 y17 y18 y19 y20 a23 a24 a25 y21), (mp_arI E a1 0 4 f0), (mp_arI E a2 0 4 f1), (mp_arL E a3 240 f2), (mp_arI E a4 0 25 f3), (mp_arI E a5 0 300 f4)] (fun v w' => (v = some (.int (-2)) ∧ ((x2.toInt ≠ 0 ∧ x2.toInt ≠ 1) ∨ (x0.toInt < 0 ∨ 3 < x0.toInt ∨ x1.toInt < 0 ∨ (f3 3).toInt ≤ x1.toInt ∨ (0 ≤ x1.toInt ∧ x1.toInt < (f3 3).toInt ∧ (f4 (6 * x1.toInt.toNat + 5)).toInt ≠ -1)) ∨ (((0 ≤ x0.toInt ∧ x0.toInt ≤ 3) ∧ (0 ≤ x1.toInt ∧ x1.toInt < (f3 3).toInt) ∧ (f4 (6 * x1.toInt.toNat + 5)).toInt = -1) ∧ (f0 x0.toInt.toNat).toInt ≠ -1 ∧ ((f1 x0.toInt.toNat).toInt % 2 ≠ 0 ∨ ¬ mp_vd f2 x0.toInt ((f1 x0.toInt.toNat).toInt / 2).toNat (f4 (6 * x1.toInt.toNat + 3)).toInt))) ∧ w' = [(mp_ob10 a0 0 a1 a2 a3 a6 a7 y1 y2 y3 y4 y5 y6 y7 y8 y9 y10 a8 a4 a9 a10 a11 a5 a12 a13 y11 a14 a15 a16 a17 y12 y13 y14 a18 a19 y15 y16 a20 a21 a22 y17 y18 y19 y20 a23 a24 a25 y21), (mp_arI E a1 0 4 f0), (mp_arI E a2 0 4 f1), (mp_arL E a3 240 f2), (mp_arI E a4 0 25 f3), (mp_arI E a5 0 300 f4)]) ∨ (∃ r1 : Int32, ∃ r2 : Int32, ∃ r3 : Int32, ∃ r4 : Int32, ∃ r5 : Int32, v = some (.int r5) ∧ 0 ≤ x2.toInt ∧ x2.toInt ≤ 1 ∧ 0 ≤ x0.toInt ∧ x0.toInt ≤ 3 ∧ 0 ≤ x1.toInt ∧ 0 ≤ r3.toInt ∧ r3.toInt ≤ 1023 ∧ ((x2.toInt = 0 ∨ x2.toInt = 1)) ∧ ((0 ≤ x0.toInt ∧ x0.toInt ≤ 3) ∧ (0 ≤ x1.toInt ∧ x1.toInt < (f3 3).toInt) ∧ (f4 (6 * x1.toInt.toNat + 5)).toInt = -1 ∧ (f0 x0.toInt.toNat).toInt ≠ -1 ∧ (f1 x0.toInt.toNat).toInt % 2 = 0) ∧ (mp_vd f2 x0.toInt ((f1 x0.toInt.toNat).toInt / 2).toNat (f4 (6 * x1.toInt.toNat + 3)).toInt) ∧ ((mp_wN (fun m => mp_ft f2 x0.toInt (f4 (6 * x1.toInt.toNat + 3)).toInt (f4 (6 * x1.toInt.toNat + 2)).toInt (f4 (6 * x1.toInt.toNat + 4)).toInt (Int32.ofNat m) ((f1 x0.toInt.toNat).toInt / 2).toNat) 1024 = 0 ∧ r5.toInt = 0) ∨ (mp_wN (fun m => mp_ft f2 x0.toInt (f4 (6 * x1.toInt.toNat + 3)).toInt (f4 (6 * x1.toInt.toNat + 2)).toInt (f4 (6 * x1.toInt.toNat + 4)).toInt (Int32.ofNat m) ((f1 x0.toInt.toNat).toInt / 2).toNat) 1024 ≠ 0 ∧ ((x2.toInt = 0 ∧ r5 = mp_wA (fun m => mp_ft f2 x0.toInt (f4 (6 * x1.toInt.toNat + 3)).toInt (f4 (6 * x1.toInt.toNat + 2)).toInt (f4 (6 * x1.toInt.toNat + 4)).toInt (Int32.ofNat m) ((f1 x0.toInt.toNat).toInt / 2).toNat) 1024) ∨ (x2.toInt ≠ 0 ∧ r5 = mp_wO (fun m => mp_ft f2 x0.toInt (f4 (6 * x1.toInt.toNat + 3)).toInt (f4 (6 * x1.toInt.toNat + 2)).toInt (f4 (6 * x1.toInt.toNat + 4)).toInt (Int32.ofNat m) ((f1 x0.toInt.toNat).toInt / 2).toNat) 1024)))) ∧ w' = [(mp_ob10 a0 0 a1 a2 a3 a6 a7 y1 y2 y3 y4 y5 y6 y7 y8 y9 y10 a8 a4 a9 a10 a11 a5 a12 a13 y11 a14 a15 a16 a17 y12 y13 y14 a18 a19 y15 y16 a20 a21 a22 r1 r2 r3 r4 a23 a24 a25 y21), (mp_arI E a1 0 4 f0), (mp_arI E a2 0 4 f1), (mp_arL E a3 240 f2), (mp_arI E a4 0 25 f3), (mp_arI E a5 0 300 f4)]) ∨ (v = some (.int (-6)) ∧ 0 ≤ x2.toInt ∧ x2.toInt ≤ 1 ∧ 0 ≤ x0.toInt ∧ x0.toInt ≤ 3 ∧ 0 ≤ x1.toInt ∧ ((x2.toInt = 0 ∨ x2.toInt = 1)) ∧ ((0 ≤ x0.toInt ∧ x0.toInt ≤ 3) ∧ (0 ≤ x1.toInt ∧ x1.toInt < (f3 3).toInt) ∧ (f4 (6 * x1.toInt.toNat + 5)).toInt = -1 ∧ (f0 x0.toInt.toNat).toInt = -1) ∧ w' = [(mp_ob10 a0 0 a1 a2 a3 a6 a7 y1 y2 y3 y4 y5 y6 y7 y8 y9 y10 a8 a4 a9 a10 a11 a5 a12 a13 y11 a14 a15 a16 a17 y12 y13 y14 a18 a19 y15 y16 a20 a21 a22 y17 y18 y19 y20 a23 a24 a25 y21), (mp_arI E a1 0 4 f0), (mp_arI E a2 0 4 f1), (mp_arL E a3 240 f2), (mp_arI E a4 0 25 f3), (mp_arI E a5 0 300 f4)])) := by
  refine mp_met false (by decide) (by decide) (Nat.le_of_ble_eq_true rfl) (fun X hF hQ => ?_)
  have hF : mp_F E X (RX10, cX10_must, 5, (4, 0, 0, 93), (some FieldType.int), false) := hF
  let w1_ : va_W := [(mp_ob10 a0 y0 a1 a2 a3 a6 a7 y1 y2 y3 y4 y5 y6 y7 y8 y9 y10 a8 a4 a9 a10 a11 a5 a12 a13 y11 a14 a15 a16 a17 y12 y13 y14 a18 a19 y15 y16 a20 a21 a22 y17 y18 y19 y20 a23 a24 a25 y21), (mp_arI E a1 0 4 f0), (mp_arI E a2 0 4 f1), (mp_arL E a3 240 f2), (mp_arI E a4 0 25 f3), (mp_arI E a5 0 300 f4)]
  show mp_W E X 5 0 [(0, .ref a0), (1, .int x0), (2, .int x1), (3, .int x2)] [] w1_ 0 0
  refine mp_run mp_k_cX10_must_ok hF mp_tabX10_ok [mp_i (.aload_n 0), mp_c (.iconst 0) 0, mp_h (.putfield 92) [0, 0]] (by decide +kernel) ?_
  refine And.intro rfl (And.intro rfl (And.intro rfl (And.intro rfl (And.intro (Nat.le_of_ble_eq_true rfl) ?_))))
  let w2_ : va_W := [(mp_ob10 a0 0 a1 a2 a3 a6 a7 y1 y2 y3 y4 y5 y6 y7 y8 y9 y10 a8 a4 a9 a10 a11 a5 a12 a13 y11 a14 a15 a16 a17 y12 y13 y14 a18 a19 y15 y16 a20 a21 a22 y17 y18 y19 y20 a23 a24 a25 y21), (mp_arI E a1 0 4 f0), (mp_arI E a2 0 4 f1), (mp_arL E a3 240 f2), (mp_arI E a4 0 25 f3), (mp_arI E a5 0 300 f4)]
  show mp_W E X 5 5 [(0, .ref a0), (1, .int x0), (2, .int x1), (3, .int x2)] [] w2_ 0 0
  refine mp_run mp_k_cX10_must_ok hF mp_tabX10_ok [mp_i (.iload_n 3), mp_i .i2l, mp_cl (.lconst 0) 0, mp_cl (.lconst 1) 1] (by decide +kernel) ?_
  intro z_1 h_2
  have e_3 : z_1.toInt = x2.toInt := mp_i2l h_2
  show mp_W E X 5 9 [(0, .ref a0), (1, .int x0), (2, .int x1), (3, .int x2)] [.long 1, .long 0, .long z_1] w2_ 0 0
  refine mp_callS hF (As := [.long z_1, .long 0, .long 1]) (rest := []) (wr := w2_) (bX10_in_0 E z_1 0 1) mp_lkX10_97 [] [0, 1, 2, 3, 4, 5] rfl rfl rfl rfl rfl ⟨(Nat.le_of_ble_eq_true rfl), (Nat.le_of_ble_eq_true rfl), (Nat.le_of_ble_eq_true rfl), (Nat.le_of_ble_eq_true rfl)⟩ (Nat.le_of_ble_eq_true rfl) (by first | exact mp_fd_ok mp_k_cX10_must_ok (by decide +kernel) | decide +kernel) (fun v_4 w_5 h_6 => ?_)
  rcases h_6 with ⟨rfl, x_7, rfl⟩ | ⟨rfl, c_8, c_9, rfl⟩
  · skip
    have i_10 : (0 : Int64).toInt = 0 := by decide
    have i_11 : (1 : Int64).toInt = 1 := by decide
    show mp_W E X 5 12 [(0, .ref a0), (1, .int x0), (2, .int x1), (3, .int x2)] [.int 0] w2_ 0 0
    refine mp_run mp_k_cX10_must_ok hF mp_tabX10_ok [mp_h (.ifCond .eq 12) [24]] (by decide +kernel) ?_
    refine And.intro (fun _ => ?_) (fun c_12 => absurd c_12 (by decide))
    show mp_W E X 5 24 [(0, .ref a0), (1, .int x0), (2, .int x1), (3, .int x2)] [] w2_ 0 0
    refine mp_run mp_k_cX10_must_ok hF mp_tabX10_ok [mp_c (.bipush (-2)) (-2), mp_i (.istore 4), mp_i (.iload 4), mp_h (.ifCond .eq 6) [36]] (by decide +kernel) ?_
    refine And.intro (fun c_13 => absurd c_13 (by decide)) (fun _ => ?_)
    show mp_W E X 5 33 [(4, .int (-2)), (0, .ref a0), (1, .int x0), (2, .int x1), (3, .int x2)] [] w2_ 0 0
    refine mp_run mp_k_cX10_must_ok hF mp_tabX10_ok [mp_i (.iload 4)] (by decide +kernel) ?_
    show mp_W E X 5 35 [(4, .int (-2)), (0, .ref a0), (1, .int x0), (2, .int x1), (3, .int x2)] [.int (-2)] w2_ 0 0
    exact mp_iret hF hQ rfl rfl (Nat.le_of_ble_eq_true rfl) (Nat.le_of_ble_eq_true rfl) [0, 1, 2, 3, 4, 5] (w' := w2_) rfl rfl (Or.inl ⟨rfl, (Or.inl (by have z0 : (0 : Int64).toInt = 0 := rfl; have z1 : (1 : Int64).toInt = 1 := rfl; omega)), rfl⟩) (by first | exact mp_fd_ok mp_k_cX10_must_ok (by decide +kernel) | decide +kernel)
  · skip
    have c_8 : 0 ≤ z_1.toInt := c_8
    have c_9 : z_1.toInt ≤ 1 := c_9
    have i_14 : (0 : Int64).toInt = 0 := by decide
    have i_15 : (1 : Int64).toInt = 1 := by decide
    show mp_W E X 5 12 [(0, .ref a0), (1, .int x0), (2, .int x1), (3, .int x2)] [.int 1] w2_ 0 0
    refine mp_run mp_k_cX10_must_ok hF mp_tabX10_ok [mp_h (.ifCond .eq 12) [24]] (by decide +kernel) ?_
    refine And.intro (fun c_16 => absurd c_16 (by decide)) (fun _ => ?_)
    show mp_W E X 5 15 [(0, .ref a0), (1, .int x0), (2, .int x1), (3, .int x2)] [] w2_ 0 0
    refine mp_run mp_k_cX10_must_ok hF mp_tabX10_ok [mp_i (.aload_n 0), mp_i (.iload_n 1), mp_i (.iload_n 2)] (by decide +kernel) ?_
    show mp_W E X 5 18 [(0, .ref a0), (1, .int x0), (2, .int x1), (3, .int x2)] [.int x1, .int x0, .ref a0] w2_ 0 0
    refine mp_callV hF (As := [.int x0, .int x1]) (rest := []) (wr := []) (bX10_whyNot_135 E a0 a1 a2 a3 a4 a5 a6 a7 a8 a9 a10 a11 a12 a13 a14 a15 a16 a17 a18 a19 a20 a21 a22 a23 a24 a25 f0 f1 f2 f3 f4 0 y1 y2 y3 y4 y5 y6 y7 y8 y9 y10 y11 y12 y13 y14 y15 y16 y17 y18 y19 y20 y21 x0 x1 p0 p1 p2 p3 p4 p5 p6 p7 p8 p9 l_y1 u_y1 l_y2 u_y2 l_y3 u_y3 l_y4 u_y4 l_y11 u_y11 l_y12 u_y12 l_y13 u_y13) mp_lkX10_432 0 rfl [0, 1, 2, 3, 4, 5] [] rfl rfl rfl rfl rfl ⟨(Nat.le_of_ble_eq_true rfl), (Nat.le_of_ble_eq_true rfl), (Nat.le_of_ble_eq_true rfl), (Nat.le_of_ble_eq_true rfl)⟩ (Nat.le_of_ble_eq_true rfl) (by first | exact mp_fd_ok mp_k_cX10_must_ok (by decide +kernel) | decide +kernel) (fun v_17 w_18 h_19 => ?_)
    refine h_19.elim (fun q_37 => ?_) (fun q_38 => q_38.elim (fun q_39 => ?_) (fun q_40 => ?_))
    · skip
      refine q_37.elim fun e_41 q_42 => q_42.elim fun x_20 e_43 => ?_
      clear h_19 q_37 q_42
      subst e_41
      subst e_43
      show mp_W E X 5 21 [(0, .ref a0), (1, .int x0), (2, .int x1), (3, .int x2)] [.int (-2)] w2_ 0 0
      refine mp_run mp_k_cX10_must_ok hF mp_tabX10_ok [mp_h (.goto 5) [26], mp_i (.istore 4), mp_i (.iload 4), mp_h (.ifCond .eq 6) [36]] (by decide +kernel) ?_
      refine And.intro (fun c_44 => absurd c_44 (by decide)) (fun _ => ?_)
      show mp_W E X 5 33 [(4, .int (-2)), (0, .ref a0), (1, .int x0), (2, .int x1), (3, .int x2)] [] w2_ 0 0
      refine mp_run mp_k_cX10_must_ok hF mp_tabX10_ok [mp_i (.iload 4)] (by decide +kernel) ?_
      show mp_W E X 5 35 [(4, .int (-2)), (0, .ref a0), (1, .int x0), (2, .int x1), (3, .int x2)] [.int (-2)] w2_ 0 0
      exact mp_iret hF hQ rfl rfl (Nat.le_of_ble_eq_true rfl) (Nat.le_of_ble_eq_true rfl) [0, 1, 2, 3, 4, 5] (w' := w2_) rfl rfl (Or.inl ⟨rfl, (Or.inr x_20), rfl⟩) (by first | exact mp_fd_ok mp_k_cX10_must_ok (by decide +kernel) | decide +kernel)
    · skip
      refine q_39.elim fun e_45 q_46 => q_46.elim fun c_21 q_47 => q_47.elim fun c_22 q_48 => q_48.elim fun c_23 q_49 => q_49.elim fun x_24 q_50 => q_50.elim fun x_25 q_51 => q_51.elim fun x_26 q_52 => q_52.elim fun x_27 q_53 => q_53.elim fun x_28 q_54 => q_54.elim fun x_29 q_55 => q_55.elim fun x_30 q_56 => q_56.elim fun x_31 q_57 => q_57.elim fun x_32 e_58 => ?_
      clear h_19 q_38 q_39 q_46 q_47 q_48 q_49 q_50 q_51 q_52 q_53 q_54 q_55 q_56 q_57
      subst e_45
      subst e_58
      have c_21 : 0 ≤ x0.toInt := c_21
      have c_22 : x0.toInt ≤ 3 := c_22
      have c_23 : 0 ≤ x1.toInt := c_23
      show mp_W E X 5 21 [(0, .ref a0), (1, .int x0), (2, .int x1), (3, .int x2)] [.int 0] w2_ 0 0
      refine mp_run mp_k_cX10_must_ok hF mp_tabX10_ok [mp_h (.goto 5) [26], mp_i (.istore 4), mp_i (.iload 4), mp_h (.ifCond .eq 6) [36]] (by decide +kernel) ?_
      refine And.intro (fun _ => ?_) (fun c_59 => absurd c_59 (by decide))
      show mp_W E X 5 36 [(4, .int 0), (0, .ref a0), (1, .int x0), (2, .int x1), (3, .int x2)] [] w2_ 0 0
      refine mp_run mp_k_cX10_must_ok hF mp_tabX10_ok [mp_i (.aload_n 0), mp_i (.iload_n 1), mp_i (.iload_n 2)] (by decide +kernel) ?_
      show mp_W E X 5 39 [(4, .int 0), (0, .ref a0), (1, .int x0), (2, .int x1), (3, .int x2)] [.int x1, .int x0, .ref a0] w2_ 0 0
      refine mp_callV hF (As := [.int x0, .int x1]) (rest := []) (wr := []) (bX10_laysWays_138 E a0 a1 a2 a3 a4 a5 a6 a7 a8 a9 a10 a11 a12 a13 a14 a15 a16 a17 a18 a19 a20 a21 a22 a23 a24 a25 f0 f1 f2 f3 f4 0 y1 y2 y3 y4 y5 y6 y7 y8 y9 y10 y11 y12 y13 y14 y15 y16 y17 y18 y19 y20 y21 x0 x1 p0 p1 p2 p3 p4 p5 p6 p7 p8 p9 (by omega) (by omega) (by omega) (by omega) l_y1 u_y1 l_y2 u_y2 l_y3 u_y3 l_y4 u_y4 l_y11 u_y11 l_y12 u_y12 l_y13 u_y13 (by first | assumption | omega) (by assumption) (by assumption) (by first | assumption | (have k9 := q0 x1.toInt.toNat (by omega); omega)) (by first | assumption | omega)) mp_lkX10_435 0 rfl [0, 1, 2, 3, 4, 5] [] rfl rfl rfl rfl rfl ⟨(Nat.le_of_ble_eq_true rfl), (Nat.le_of_ble_eq_true rfl), (Nat.le_of_ble_eq_true rfl), (Nat.le_of_ble_eq_true rfl)⟩ (Nat.le_of_ble_eq_true rfl) (by first | exact mp_fd_ok mp_k_cX10_must_ok (by decide +kernel) | decide +kernel) (fun v_60 w_61 h_62 => ?_)
      refine h_62.elim fun r_63 q_73 => q_73.elim fun r_64 q_74 => q_74.elim fun r_65 q_75 => q_75.elim fun r_66 q_76 => q_76.elim fun e_77 q_78 => q_78.elim fun l_67 q_79 => q_79.elim fun u_68 q_80 => q_80.elim fun x_69 q_81 => q_81.elim fun x_70 q_82 => q_82.elim fun x_71 q_83 => q_83.elim fun x_72 e_84 => ?_
      clear h_62 q_73 q_74 q_75 q_76 q_78 q_79 q_80 q_81 q_82 q_83
      subst e_77
      subst e_84
      let w3_ : va_W := [(mp_ob10 a0 0 a1 a2 a3 a6 a7 y1 y2 y3 y4 y5 y6 y7 y8 y9 y10 a8 a4 a9 a10 a11 a5 a12 a13 y11 a14 a15 a16 a17 y12 y13 y14 a18 a19 y15 y16 a20 a21 a22 r_63 r_64 r_65 r_66 a23 a24 a25 y21), (mp_arI E a1 0 4 f0), (mp_arI E a2 0 4 f1), (mp_arL E a3 240 f2), (mp_arI E a4 0 25 f3), (mp_arI E a5 0 300 f4)]
      show mp_W E X 5 42 [(4, .int 0), (0, .ref a0), (1, .int x0), (2, .int x1), (3, .int x2)] [] w3_ 0 0
      refine mp_run mp_k_cX10_must_ok hF mp_tabX10_ok [mp_i (.aload_n 0), mp_h (.getfield 417) [39, 0], mp_h (.ifCond .ne 7) [53]] (by decide +kernel) ?_
      refine And.intro rfl (And.intro rfl ?_)
      refine And.intro (fun c_85 => ?_) (fun c_85 => ?_)
      · have c_85 : r_63.toInt ≠ 0 := c_85
        show mp_W E X 5 53 [(4, .int 0), (0, .ref a0), (1, .int x0), (2, .int x1), (3, .int x2)] [] w3_ 0 0
        refine mp_run mp_k_cX10_must_ok hF mp_tabX10_ok [mp_i (.iload_n 3), mp_h (.ifCond .ne 10) [64]] (by decide +kernel) ?_
        refine And.intro (fun c_86 => ?_) (fun c_86 => ?_)
        · have c_86 : x2.toInt ≠ 0 := c_86
          show mp_W E X 5 64 [(4, .int 0), (0, .ref a0), (1, .int x0), (2, .int x1), (3, .int x2)] [] w3_ 0 0
          refine mp_run mp_k_cX10_must_ok hF mp_tabX10_ok [mp_i (.aload_n 0), mp_h (.getfield 423) [41, 0]] (by decide +kernel) ?_
          refine And.intro rfl (And.intro rfl ?_)
          show mp_W E X 5 68 [(4, .int 0), (0, .ref a0), (1, .int x0), (2, .int x1), (3, .int x2)] [.int r_65] w3_ 0 0
          exact mp_iret hF hQ rfl rfl (Nat.le_of_ble_eq_true rfl) (Nat.le_of_ble_eq_true rfl) [0, 1, 2, 3, 4, 5] (w' := w3_) rfl rfl (Or.inr (Or.inl ⟨r_63, r_64, r_65, r_66, r_65, rfl, (by first | omega | decide), (by first | omega | decide), (by first | omega | decide), (by first | omega | decide), (by first | omega | decide), l_67, u_68, (by have z0 : (0 : Int64).toInt = 0 := rfl; have z1 : (1 : Int64).toInt = 1 := rfl; omega), x_30, x_31, (Or.inr ⟨(by rw [← x_69]; omega), (Or.inr ⟨by omega, x_71⟩)⟩), rfl⟩)) (by first | exact mp_fd_ok mp_k_cX10_must_ok (by decide +kernel) | decide +kernel)
        · have c_86 : x2.toInt = 0 := (congrArg Int32.toInt c_86)
          show mp_W E X 5 57 [(4, .int 0), (0, .ref a0), (1, .int x0), (2, .int x1), (3, .int x2)] [] w3_ 0 0
          refine mp_run mp_k_cX10_must_ok hF mp_tabX10_ok [mp_i (.aload_n 0), mp_h (.getfield 420) [40, 0], mp_h (.goto 7) [68]] (by decide +kernel) ?_
          refine And.intro rfl (And.intro rfl ?_)
          show mp_W E X 5 68 [(4, .int 0), (0, .ref a0), (1, .int x0), (2, .int x1), (3, .int x2)] [.int r_64] w3_ 0 0
          exact mp_iret hF hQ rfl rfl (Nat.le_of_ble_eq_true rfl) (Nat.le_of_ble_eq_true rfl) [0, 1, 2, 3, 4, 5] (w' := w3_) rfl rfl (Or.inr (Or.inl ⟨r_63, r_64, r_65, r_66, r_64, rfl, (by first | omega | decide), (by first | omega | decide), (by first | omega | decide), (by first | omega | decide), (by first | omega | decide), l_67, u_68, (by have z0 : (0 : Int64).toInt = 0 := rfl; have z1 : (1 : Int64).toInt = 1 := rfl; omega), x_30, x_31, (Or.inr ⟨(by rw [← x_69]; omega), (Or.inl ⟨by omega, x_70⟩)⟩), rfl⟩)) (by first | exact mp_fd_ok mp_k_cX10_must_ok (by decide +kernel) | decide +kernel)
      · have c_85 : r_63.toInt = 0 := (congrArg Int32.toInt c_85)
        show mp_W E X 5 49 [(4, .int 0), (0, .ref a0), (1, .int x0), (2, .int x1), (3, .int x2)] [] w3_ 0 0
        refine mp_run mp_k_cX10_must_ok hF mp_tabX10_ok [mp_c (.iconst 0) 0, mp_h (.goto 18) [68]] (by decide +kernel) ?_
        show mp_W E X 5 68 [(4, .int 0), (0, .ref a0), (1, .int x0), (2, .int x1), (3, .int x2)] [.int 0] w3_ 0 0
        exact mp_iret hF hQ rfl rfl (Nat.le_of_ble_eq_true rfl) (Nat.le_of_ble_eq_true rfl) [0, 1, 2, 3, 4, 5] (w' := w3_) rfl rfl (Or.inr (Or.inl ⟨r_63, r_64, r_65, r_66, 0, rfl, (by first | omega | decide), (by first | omega | decide), (by first | omega | decide), (by first | omega | decide), (by first | omega | decide), l_67, u_68, (by have z0 : (0 : Int64).toInt = 0 := rfl; have z1 : (1 : Int64).toInt = 1 := rfl; omega), x_30, x_31, (Or.inl ⟨(by rw [← x_69]; omega), by first | rfl | decide⟩), rfl⟩)) (by first | exact mp_fd_ok mp_k_cX10_must_ok (by decide +kernel) | decide +kernel)
    · skip
      refine q_40.elim fun e_87 q_88 => q_88.elim fun c_33 q_89 => q_89.elim fun c_34 q_90 => q_90.elim fun c_35 q_91 => q_91.elim fun x_36 e_92 => ?_
      clear h_19 q_38 q_40 q_88 q_89 q_90 q_91
      subst e_87
      subst e_92
      have c_33 : 0 ≤ x0.toInt := c_33
      have c_34 : x0.toInt ≤ 3 := c_34
      have c_35 : 0 ≤ x1.toInt := c_35
      show mp_W E X 5 21 [(0, .ref a0), (1, .int x0), (2, .int x1), (3, .int x2)] [.int (-6)] w2_ 0 0
      refine mp_run mp_k_cX10_must_ok hF mp_tabX10_ok [mp_h (.goto 5) [26], mp_i (.istore 4), mp_i (.iload 4), mp_h (.ifCond .eq 6) [36]] (by decide +kernel) ?_
      refine And.intro (fun c_93 => absurd c_93 (by decide)) (fun _ => ?_)
      show mp_W E X 5 33 [(4, .int (-6)), (0, .ref a0), (1, .int x0), (2, .int x1), (3, .int x2)] [] w2_ 0 0
      refine mp_run mp_k_cX10_must_ok hF mp_tabX10_ok [mp_i (.iload 4)] (by decide +kernel) ?_
      show mp_W E X 5 35 [(4, .int (-6)), (0, .ref a0), (1, .int x0), (2, .int x1), (3, .int x2)] [.int (-6)] w2_ 0 0
      exact mp_iret hF hQ rfl rfl (Nat.le_of_ble_eq_true rfl) (Nat.le_of_ble_eq_true rfl) [0, 1, 2, 3, 4, 5] (w' := w2_) rfl rfl (Or.inr (Or.inr ⟨rfl, (by first | omega | decide), (by first | omega | decide), (by first | omega | decide), (by first | omega | decide), (by first | omega | decide), (by have z0 : (0 : Int64).toInt = 0 := rfl; have z1 : (1 : Int64).toInt = 1 := rfl; omega), x_36, rfl⟩)) (by first | exact mp_fd_ok mp_k_cX10_must_ok (by decide +kernel) | decide +kernel)
set_option maxHeartbeats 4000000 in
set_option maxRecDepth 100000 in
theorem bX10_times_141 (E : mp_E) (a0 a1 a2 a3 a4 a5 a6 a7 a8 a9 a10 a11 a12 a13 a14 a15 a16 a17 a18 a19 a20 a21 a22 a23 a24 a25 : Nat) (f0 : Nat → Int32) (f1 : Nat → Int32) (f2 : Nat → Int64) (f3 : Nat → Int32) (f4 : Nat → Int32) (y0 : Int32) (y1 : Int32) (y2 : Int32) (y3 : Int32) (y4 : Int32) (y5 : Int32) (y6 : Int64) (y7 : Int32) (y8 : Int32) (y9 : Int32) (y10 : Int32) (y11 : Int32) (y12 : Int32) (y13 : Int32) (y14 : Int32) (y15 : Int32) (y16 : Int32) (y17 : Int32) (y18 : Int32) (y19 : Int32) (y20 : Int32) (y21 : Int32) (x0 : Int32) (x1 : Int32) (p0 : mp_all f1 4 0 60) (p1 : mp_res f3 25 5 0 0 6) (p2 : mp_res f3 25 5 1 0 99) (p3 : mp_res f3 25 5 2 0 6) (p4 : mp_res f3 25 5 3 0 10) (p5 : mp_res f3 25 5 4 0 60) (p6 : mp_res f4 300 6 0 0 5) (p7 : mp_res f4 300 6 1 0 5) (p8 : mp_res f4 300 6 3 0 99) (p9 : mp_res f4 300 6 4 0 1) (l_y1 : 0 ≤ y1.toInt) (u_y1 : y1.toInt ≤ 1600) (l_y2 : 0 ≤ y2.toInt) (u_y2 : y2.toInt ≤ 1600) (l_y3 : 0 ≤ y3.toInt) (u_y3 : y3.toInt ≤ 4) (l_y4 : 0 ≤ y4.toInt) (u_y4 : y4.toInt ≤ 1600) (l_y11 : 0 ≤ y11.toInt) (u_y11 : y11.toInt ≤ 99) (l_y12 : 0 ≤ y12.toInt) (u_y12 : y12.toInt ≤ 5) (l_y13 : 0 ≤ y13.toInt) (u_y13 : y13.toInt ≤ 12) (q0 : ∀ j : Nat, (j : Int) < (f3 3).toInt → 1 ≤ (f4 (6 * j + 2)).toInt ∧ (f4 (6 * j + 2)).toInt ≤ 1000000) : mp_Ct E yX10_times cX10_times 4 (some FieldType.int) 4 0 0 93 [.ref a0, .int x0, .int x1] [(mp_ob10 a0 y0 a1 a2 a3 a6 a7 y1 y2 y3 y4 y5 y6 y7 y8 y9 y10 a8 a4 a9 a10 a11 a5 a12 a13 y11 a14 a15 a16 a17 y12 y13 y14 a18 a19 y15 y16 a20 a21 a22 y17 y18 y19 y20 a23 a24 a25 y21), (mp_arI E a1 0 4 f0), (mp_arI E a2 0 4 f1), (mp_arL E a3 240 f2), (mp_arI E a4 0 25 f3), (mp_arI E a5 0 300 f4)] (fun v w' => (v = some (.int (-2)) ∧ ((x0.toInt < 0 ∨ 3 < x0.toInt ∨ x1.toInt < 0 ∨ (f3 3).toInt ≤ x1.toInt ∨ (0 ≤ x1.toInt ∧ x1.toInt < (f3 3).toInt ∧ (f4 (6 * x1.toInt.toNat + 5)).toInt ≠ -1)) ∨ (((0 ≤ x0.toInt ∧ x0.toInt ≤ 3) ∧ (0 ≤ x1.toInt ∧ x1.toInt < (f3 3).toInt) ∧ (f4 (6 * x1.toInt.toNat + 5)).toInt = -1) ∧ (f0 x0.toInt.toNat).toInt ≠ -1 ∧ ((f1 x0.toInt.toNat).toInt % 2 ≠ 0 ∨ ¬ mp_vd f2 x0.toInt ((f1 x0.toInt.toNat).toInt / 2).toNat (f4 (6 * x1.toInt.toNat + 3)).toInt))) ∧ w' = [(mp_ob10 a0 0 a1 a2 a3 a6 a7 y1 y2 y3 y4 y5 y6 y7 y8 y9 y10 a8 a4 a9 a10 a11 a5 a12 a13 y11 a14 a15 a16 a17 y12 y13 y14 a18 a19 y15 y16 a20 a21 a22 y17 y18 y19 y20 a23 a24 a25 y21), (mp_arI E a1 0 4 f0), (mp_arI E a2 0 4 f1), (mp_arL E a3 240 f2), (mp_arI E a4 0 25 f3), (mp_arI E a5 0 300 f4)]) ∨ (∃ r1 : Int32, ∃ r2 : Int32, ∃ r3 : Int32, ∃ r4 : Int32, ∃ r5 : Int32, v = some (.int r5) ∧ 0 ≤ x0.toInt ∧ x0.toInt ≤ 3 ∧ 0 ≤ x1.toInt ∧ 0 ≤ r3.toInt ∧ r3.toInt ≤ 1023 ∧ ((0 ≤ x0.toInt ∧ x0.toInt ≤ 3) ∧ (0 ≤ x1.toInt ∧ x1.toInt < (f3 3).toInt) ∧ (f4 (6 * x1.toInt.toNat + 5)).toInt = -1 ∧ (f0 x0.toInt.toNat).toInt ≠ -1 ∧ (f1 x0.toInt.toNat).toInt % 2 = 0) ∧ (mp_vd f2 x0.toInt ((f1 x0.toInt.toNat).toInt / 2).toNat (f4 (6 * x1.toInt.toNat + 3)).toInt) ∧ ((mp_wN (fun m => mp_ft f2 x0.toInt (f4 (6 * x1.toInt.toNat + 3)).toInt (f4 (6 * x1.toInt.toNat + 2)).toInt (f4 (6 * x1.toInt.toNat + 4)).toInt (Int32.ofNat m) ((f1 x0.toInt.toNat).toInt / 2).toNat) 1024 = 0 ∧ r5.toInt = -1) ∨ (mp_wN (fun m => mp_ft f2 x0.toInt (f4 (6 * x1.toInt.toNat + 3)).toInt (f4 (6 * x1.toInt.toNat + 2)).toInt (f4 (6 * x1.toInt.toNat + 4)).toInt (Int32.ofNat m) ((f1 x0.toInt.toNat).toInt / 2).toNat) 1024 ≠ 0 ∧ r5.toInt = mp_wF (fun m => mp_ft f2 x0.toInt (f4 (6 * x1.toInt.toNat + 3)).toInt (f4 (6 * x1.toInt.toNat + 2)).toInt (f4 (6 * x1.toInt.toNat + 4)).toInt (Int32.ofNat m) ((f1 x0.toInt.toNat).toInt / 2).toNat) 1024)) ∧ w' = [(mp_ob10 a0 0 a1 a2 a3 a6 a7 y1 y2 y3 y4 y5 y6 y7 y8 y9 y10 a8 a4 a9 a10 a11 a5 a12 a13 y11 a14 a15 a16 a17 y12 y13 y14 a18 a19 y15 y16 a20 a21 a22 r1 r2 r3 r4 a23 a24 a25 y21), (mp_arI E a1 0 4 f0), (mp_arI E a2 0 4 f1), (mp_arL E a3 240 f2), (mp_arI E a4 0 25 f3), (mp_arI E a5 0 300 f4)]) ∨ (v = some (.int (-6)) ∧ 0 ≤ x0.toInt ∧ x0.toInt ≤ 3 ∧ 0 ≤ x1.toInt ∧ ((0 ≤ x0.toInt ∧ x0.toInt ≤ 3) ∧ (0 ≤ x1.toInt ∧ x1.toInt < (f3 3).toInt) ∧ (f4 (6 * x1.toInt.toNat + 5)).toInt = -1 ∧ (f0 x0.toInt.toNat).toInt = -1) ∧ w' = [(mp_ob10 a0 0 a1 a2 a3 a6 a7 y1 y2 y3 y4 y5 y6 y7 y8 y9 y10 a8 a4 a9 a10 a11 a5 a12 a13 y11 a14 a15 a16 a17 y12 y13 y14 a18 a19 y15 y16 a20 a21 a22 y17 y18 y19 y20 a23 a24 a25 y21), (mp_arI E a1 0 4 f0), (mp_arI E a2 0 4 f1), (mp_arL E a3 240 f2), (mp_arI E a4 0 25 f3), (mp_arI E a5 0 300 f4)])) := by
  refine mp_met false (by decide) (by decide) (Nat.le_of_ble_eq_true rfl) (fun X hF hQ => ?_)
  have hF : mp_F E X (RX10, cX10_times, 4, (4, 0, 0, 93), (some FieldType.int), false) := hF
  let w1_ : va_W := [(mp_ob10 a0 y0 a1 a2 a3 a6 a7 y1 y2 y3 y4 y5 y6 y7 y8 y9 y10 a8 a4 a9 a10 a11 a5 a12 a13 y11 a14 a15 a16 a17 y12 y13 y14 a18 a19 y15 y16 a20 a21 a22 y17 y18 y19 y20 a23 a24 a25 y21), (mp_arI E a1 0 4 f0), (mp_arI E a2 0 4 f1), (mp_arL E a3 240 f2), (mp_arI E a4 0 25 f3), (mp_arI E a5 0 300 f4)]
  show mp_W E X 4 0 [(0, .ref a0), (1, .int x0), (2, .int x1)] [] w1_ 0 0
  refine mp_run mp_k_cX10_times_ok hF mp_tabX10_ok [mp_i (.aload_n 0), mp_c (.iconst 0) 0, mp_h (.putfield 92) [0, 0]] (by decide +kernel) ?_
  refine And.intro rfl (And.intro rfl (And.intro rfl (And.intro rfl (And.intro (Nat.le_of_ble_eq_true rfl) ?_))))
  let w2_ : va_W := [(mp_ob10 a0 0 a1 a2 a3 a6 a7 y1 y2 y3 y4 y5 y6 y7 y8 y9 y10 a8 a4 a9 a10 a11 a5 a12 a13 y11 a14 a15 a16 a17 y12 y13 y14 a18 a19 y15 y16 a20 a21 a22 y17 y18 y19 y20 a23 a24 a25 y21), (mp_arI E a1 0 4 f0), (mp_arI E a2 0 4 f1), (mp_arL E a3 240 f2), (mp_arI E a4 0 25 f3), (mp_arI E a5 0 300 f4)]
  show mp_W E X 4 5 [(0, .ref a0), (1, .int x0), (2, .int x1)] [] w2_ 0 0
  refine mp_run mp_k_cX10_times_ok hF mp_tabX10_ok [mp_i (.aload_n 0), mp_i (.iload_n 1), mp_i (.iload_n 2)] (by decide +kernel) ?_
  show mp_W E X 4 8 [(0, .ref a0), (1, .int x0), (2, .int x1)] [.int x1, .int x0, .ref a0] w2_ 0 0
  refine mp_callV hF (As := [.int x0, .int x1]) (rest := []) (wr := []) (bX10_whyNot_135 E a0 a1 a2 a3 a4 a5 a6 a7 a8 a9 a10 a11 a12 a13 a14 a15 a16 a17 a18 a19 a20 a21 a22 a23 a24 a25 f0 f1 f2 f3 f4 0 y1 y2 y3 y4 y5 y6 y7 y8 y9 y10 y11 y12 y13 y14 y15 y16 y17 y18 y19 y20 y21 x0 x1 p0 p1 p2 p3 p4 p5 p6 p7 p8 p9 l_y1 u_y1 l_y2 u_y2 l_y3 u_y3 l_y4 u_y4 l_y11 u_y11 l_y12 u_y12 l_y13 u_y13) mp_lkX10_432 0 rfl [0, 1, 2, 3, 4, 5] [] rfl rfl rfl rfl rfl ⟨(Nat.le_of_ble_eq_true rfl), (Nat.le_of_ble_eq_true rfl), (Nat.le_of_ble_eq_true rfl), (Nat.le_of_ble_eq_true rfl)⟩ (Nat.le_of_ble_eq_true rfl) (by first | exact mp_fd_ok mp_k_cX10_times_ok (by decide +kernel) | decide +kernel) (fun v_1 w_2 h_3 => ?_)
  refine h_3.elim (fun q_21 => ?_) (fun q_22 => q_22.elim (fun q_23 => ?_) (fun q_24 => ?_))
  · skip
    refine q_21.elim fun e_25 q_26 => q_26.elim fun x_4 e_27 => ?_
    clear h_3 q_21 q_26
    subst e_25
    subst e_27
    show mp_W E X 4 11 [(0, .ref a0), (1, .int x0), (2, .int x1)] [.int (-2)] w2_ 0 0
    refine mp_run mp_k_cX10_times_ok hF mp_tabX10_ok [mp_i (.istore_n 3), mp_i (.iload_n 3), mp_h (.ifCond .eq 5) [18]] (by decide +kernel) ?_
    refine And.intro (fun c_28 => absurd c_28 (by decide)) (fun _ => ?_)
    show mp_W E X 4 16 [(3, .int (-2)), (0, .ref a0), (1, .int x0), (2, .int x1)] [] w2_ 0 0
    refine mp_run mp_k_cX10_times_ok hF mp_tabX10_ok [mp_i (.iload_n 3)] (by decide +kernel) ?_
    show mp_W E X 4 17 [(3, .int (-2)), (0, .ref a0), (1, .int x0), (2, .int x1)] [.int (-2)] w2_ 0 0
    exact mp_iret hF hQ rfl rfl (Nat.le_of_ble_eq_true rfl) (Nat.le_of_ble_eq_true rfl) [0, 1, 2, 3, 4, 5] (w' := w2_) rfl rfl (Or.inl ⟨rfl, x_4, rfl⟩) (by first | exact mp_fd_ok mp_k_cX10_times_ok (by decide +kernel) | decide +kernel)
  · skip
    refine q_23.elim fun e_29 q_30 => q_30.elim fun c_5 q_31 => q_31.elim fun c_6 q_32 => q_32.elim fun c_7 q_33 => q_33.elim fun x_8 q_34 => q_34.elim fun x_9 q_35 => q_35.elim fun x_10 q_36 => q_36.elim fun x_11 q_37 => q_37.elim fun x_12 q_38 => q_38.elim fun x_13 q_39 => q_39.elim fun x_14 q_40 => q_40.elim fun x_15 q_41 => q_41.elim fun x_16 e_42 => ?_
    clear h_3 q_22 q_23 q_30 q_31 q_32 q_33 q_34 q_35 q_36 q_37 q_38 q_39 q_40 q_41
    subst e_29
    subst e_42
    have c_5 : 0 ≤ x0.toInt := c_5
    have c_6 : x0.toInt ≤ 3 := c_6
    have c_7 : 0 ≤ x1.toInt := c_7
    show mp_W E X 4 11 [(0, .ref a0), (1, .int x0), (2, .int x1)] [.int 0] w2_ 0 0
    refine mp_run mp_k_cX10_times_ok hF mp_tabX10_ok [mp_i (.istore_n 3), mp_i (.iload_n 3), mp_h (.ifCond .eq 5) [18]] (by decide +kernel) ?_
    refine And.intro (fun _ => ?_) (fun c_43 => absurd c_43 (by decide))
    show mp_W E X 4 18 [(3, .int 0), (0, .ref a0), (1, .int x0), (2, .int x1)] [] w2_ 0 0
    refine mp_run mp_k_cX10_times_ok hF mp_tabX10_ok [mp_i (.aload_n 0), mp_i (.iload_n 1), mp_i (.iload_n 2)] (by decide +kernel) ?_
    show mp_W E X 4 21 [(3, .int 0), (0, .ref a0), (1, .int x0), (2, .int x1)] [.int x1, .int x0, .ref a0] w2_ 0 0
    refine mp_callV hF (As := [.int x0, .int x1]) (rest := []) (wr := []) (bX10_laysWays_138 E a0 a1 a2 a3 a4 a5 a6 a7 a8 a9 a10 a11 a12 a13 a14 a15 a16 a17 a18 a19 a20 a21 a22 a23 a24 a25 f0 f1 f2 f3 f4 0 y1 y2 y3 y4 y5 y6 y7 y8 y9 y10 y11 y12 y13 y14 y15 y16 y17 y18 y19 y20 y21 x0 x1 p0 p1 p2 p3 p4 p5 p6 p7 p8 p9 (by omega) (by omega) (by omega) (by omega) l_y1 u_y1 l_y2 u_y2 l_y3 u_y3 l_y4 u_y4 l_y11 u_y11 l_y12 u_y12 l_y13 u_y13 (by first | assumption | omega) (by assumption) (by assumption) (by first | assumption | (have k9 := q0 x1.toInt.toNat (by omega); omega)) (by first | assumption | omega)) mp_lkX10_435 0 rfl [0, 1, 2, 3, 4, 5] [] rfl rfl rfl rfl rfl ⟨(Nat.le_of_ble_eq_true rfl), (Nat.le_of_ble_eq_true rfl), (Nat.le_of_ble_eq_true rfl), (Nat.le_of_ble_eq_true rfl)⟩ (Nat.le_of_ble_eq_true rfl) (by first | exact mp_fd_ok mp_k_cX10_times_ok (by decide +kernel) | decide +kernel) (fun v_44 w_45 h_46 => ?_)
    refine h_46.elim fun r_47 q_57 => q_57.elim fun r_48 q_58 => q_58.elim fun r_49 q_59 => q_59.elim fun r_50 q_60 => q_60.elim fun e_61 q_62 => q_62.elim fun l_51 q_63 => q_63.elim fun u_52 q_64 => q_64.elim fun x_53 q_65 => q_65.elim fun x_54 q_66 => q_66.elim fun x_55 q_67 => q_67.elim fun x_56 e_68 => ?_
    clear h_46 q_57 q_58 q_59 q_60 q_62 q_63 q_64 q_65 q_66 q_67
    subst e_61
    subst e_68
    let w3_ : va_W := [(mp_ob10 a0 0 a1 a2 a3 a6 a7 y1 y2 y3 y4 y5 y6 y7 y8 y9 y10 a8 a4 a9 a10 a11 a5 a12 a13 y11 a14 a15 a16 a17 y12 y13 y14 a18 a19 y15 y16 a20 a21 a22 r_47 r_48 r_49 r_50 a23 a24 a25 y21), (mp_arI E a1 0 4 f0), (mp_arI E a2 0 4 f1), (mp_arL E a3 240 f2), (mp_arI E a4 0 25 f3), (mp_arI E a5 0 300 f4)]
    show mp_W E X 4 24 [(3, .int 0), (0, .ref a0), (1, .int x0), (2, .int x1)] [] w3_ 0 0
    refine mp_run mp_k_cX10_times_ok hF mp_tabX10_ok [mp_i (.aload_n 0), mp_h (.getfield 417) [39, 0], mp_h (.ifCond .ne 7) [35]] (by decide +kernel) ?_
    refine And.intro rfl (And.intro rfl ?_)
    refine And.intro (fun c_69 => ?_) (fun c_69 => ?_)
    · have c_69 : r_47.toInt ≠ 0 := c_69
      show mp_W E X 4 35 [(3, .int 0), (0, .ref a0), (1, .int x0), (2, .int x1)] [] w3_ 0 0
      refine mp_run mp_k_cX10_times_ok hF mp_tabX10_ok [mp_i (.aload_n 0), mp_h (.getfield 426) [42, 0]] (by decide +kernel) ?_
      refine And.intro rfl (And.intro rfl ?_)
      show mp_W E X 4 39 [(3, .int 0), (0, .ref a0), (1, .int x0), (2, .int x1)] [.int r_50] w3_ 0 0
      exact mp_iret hF hQ rfl rfl (Nat.le_of_ble_eq_true rfl) (Nat.le_of_ble_eq_true rfl) [0, 1, 2, 3, 4, 5] (w' := w3_) rfl rfl (Or.inr (Or.inl ⟨r_47, r_48, r_49, r_50, r_50, rfl, (by first | omega | decide), (by first | omega | decide), (by first | omega | decide), l_51, u_52, x_14, x_15, (Or.inr ⟨(by rw [← x_53]; omega), x_56⟩), rfl⟩)) (by first | exact mp_fd_ok mp_k_cX10_times_ok (by decide +kernel) | decide +kernel)
    · have c_69 : r_47.toInt = 0 := (congrArg Int32.toInt c_69)
      show mp_W E X 4 31 [(3, .int 0), (0, .ref a0), (1, .int x0), (2, .int x1)] [] w3_ 0 0
      refine mp_run mp_k_cX10_times_ok hF mp_tabX10_ok [mp_c (.iconst (-1)) (-1), mp_h (.goto 7) [39]] (by decide +kernel) ?_
      show mp_W E X 4 39 [(3, .int 0), (0, .ref a0), (1, .int x0), (2, .int x1)] [.int (-1)] w3_ 0 0
      exact mp_iret hF hQ rfl rfl (Nat.le_of_ble_eq_true rfl) (Nat.le_of_ble_eq_true rfl) [0, 1, 2, 3, 4, 5] (w' := w3_) rfl rfl (Or.inr (Or.inl ⟨r_47, r_48, r_49, r_50, (-1), rfl, (by first | omega | decide), (by first | omega | decide), (by first | omega | decide), l_51, u_52, x_14, x_15, (Or.inl ⟨(by rw [← x_53]; omega), by first | rfl | decide⟩), rfl⟩)) (by first | exact mp_fd_ok mp_k_cX10_times_ok (by decide +kernel) | decide +kernel)
  · skip
    refine q_24.elim fun e_70 q_71 => q_71.elim fun c_17 q_72 => q_72.elim fun c_18 q_73 => q_73.elim fun c_19 q_74 => q_74.elim fun x_20 e_75 => ?_
    clear h_3 q_22 q_24 q_71 q_72 q_73 q_74
    subst e_70
    subst e_75
    have c_17 : 0 ≤ x0.toInt := c_17
    have c_18 : x0.toInt ≤ 3 := c_18
    have c_19 : 0 ≤ x1.toInt := c_19
    show mp_W E X 4 11 [(0, .ref a0), (1, .int x0), (2, .int x1)] [.int (-6)] w2_ 0 0
    refine mp_run mp_k_cX10_times_ok hF mp_tabX10_ok [mp_i (.istore_n 3), mp_i (.iload_n 3), mp_h (.ifCond .eq 5) [18]] (by decide +kernel) ?_
    refine And.intro (fun c_76 => absurd c_76 (by decide)) (fun _ => ?_)
    show mp_W E X 4 16 [(3, .int (-6)), (0, .ref a0), (1, .int x0), (2, .int x1)] [] w2_ 0 0
    refine mp_run mp_k_cX10_times_ok hF mp_tabX10_ok [mp_i (.iload_n 3)] (by decide +kernel) ?_
    show mp_W E X 4 17 [(3, .int (-6)), (0, .ref a0), (1, .int x0), (2, .int x1)] [.int (-6)] w2_ 0 0
    exact mp_iret hF hQ rfl rfl (Nat.le_of_ble_eq_true rfl) (Nat.le_of_ble_eq_true rfl) [0, 1, 2, 3, 4, 5] (w' := w2_) rfl rfl (Or.inr (Or.inr ⟨rfl, (by first | omega | decide), (by first | omega | decide), (by first | omega | decide), x_20, rfl⟩)) (by first | exact mp_fd_ok mp_k_cX10_times_ok (by decide +kernel) | decide +kernel)
set_option maxHeartbeats 4000000 in
set_option maxRecDepth 100000 in
theorem bX10_worstOf_142 (E : mp_E) (a0 a1 a2 a3 a4 a5 a6 a7 a8 a9 a10 a11 a12 a13 a14 a15 a16 a17 a18 a19 a20 a21 a22 a23 a24 a25 : Nat) (f0 : Nat → Int32) (f1 : Nat → Int32) (f2 : Nat → Int64) (f3 : Nat → Int32) (f4 : Nat → Int32) (f5 : Nat → Int32) (f6 : Nat → Int32) (y0 : Int32) (y1 : Int32) (y2 : Int32) (y3 : Int32) (y4 : Int32) (y5 : Int32) (y6 : Int64) (y7 : Int32) (y8 : Int32) (y9 : Int32) (y10 : Int32) (y11 : Int32) (y12 : Int32) (y13 : Int32) (y14 : Int32) (y15 : Int32) (y16 : Int32) (y17 : Int32) (y18 : Int32) (y19 : Int32) (y20 : Int32) (y21 : Int32) (x0 : Int32) (x1 : Int32) (x2 : Int32) (p0 : mp_all f1 4 0 60) (p1 : mp_res f3 25 5 0 0 6) (p2 : mp_res f3 25 5 1 0 99) (p3 : mp_res f3 25 5 2 0 6) (p4 : mp_res f3 25 5 3 0 10) (p5 : mp_res f3 25 5 4 0 60) (p6 : mp_res f4 300 6 0 0 5) (p7 : mp_res f4 300 6 1 0 5) (p8 : mp_res f4 300 6 3 0 99) (p9 : mp_res f4 300 6 4 0 1) (l_x0 : 0 ≤ x0.toInt) (u_x0 : x0.toInt ≤ 3) (l_x1 : 0 ≤ x1.toInt) (u_x1 : x1.toInt ≤ 9) (l_x2 : 0 ≤ x2.toInt) (u_x2 : x2.toInt ≤ 10) (l_y1 : 0 ≤ y1.toInt) (u_y1 : y1.toInt ≤ 1600) (l_y2 : 0 ≤ y2.toInt) (u_y2 : y2.toInt ≤ 1600) (l_y3 : 0 ≤ y3.toInt) (u_y3 : y3.toInt ≤ 4) (l_y4 : 0 ≤ y4.toInt) (u_y4 : y4.toInt ≤ 1600) (l_y11 : 0 ≤ y11.toInt) (u_y11 : y11.toInt ≤ 99) (l_y12 : 0 ≤ y12.toInt) (u_y12 : y12.toInt ≤ 5) (l_y13 : 0 ≤ y13.toInt) (u_y13 : y13.toInt ≤ 12) (q0 : (f1 x0.toInt.toNat).toInt % 2 = 0) (q1 : mp_wn f2 x0.toInt (f1 x0.toInt.toNat).toInt (f4 (6 * x1.toInt.toNat + 3)).toInt) (q2 : mp_vd f2 x0.toInt ((f1 x0.toInt.toNat).toInt / 2).toNat (f4 (6 * x1.toInt.toNat + 3)).toInt) (q3 : 1 ≤ (f4 (6 * x1.toInt.toNat + 2)).toInt ∧ (f4 (6 * x1.toInt.toNat + 2)).toInt ≤ 1000000) (q4 : 0 ≤ (f1 x0.toInt.toNat).toInt) : mp_Ct E yX10_worstOf cX10_worstOf 9 (some FieldType.int) 3 0 0 70 [.ref a0, .int x0, .int x1, .int x2] [(mp_ob10 a0 y0 a1 a2 a3 a8 a9 y1 y2 y3 y4 y5 y6 y7 y8 y9 y10 a10 a4 a11 a12 a13 a5 a14 a15 y11 a16 a17 a18 a19 y12 y13 y14 a20 a21 y15 y16 a22 a23 a24 y17 y18 y19 y20 a6 a7 a25 y21), (mp_arI E a1 0 4 f0), (mp_arI E a2 0 4 f1), (mp_arL E a3 240 f2), (mp_arI E a4 0 25 f3), (mp_arI E a5 0 300 f4), (mp_arI E a6 0 12 f5), (mp_arI E a7 0 12 f6)] (fun v w' => ∃ h1 : Nat → Int32, ∃ h2 : Nat → Int32, ∃ r3 : Int32, v = some (.int r3) ∧ 0 ≤ r3.toInt ∧ (mp_WR (fun m => mp_ft f2 x0.toInt (f4 (6 * x1.toInt.toNat + 3)).toInt (f4 (6 * x1.toInt.toNat + 2)).toInt (f4 (6 * x1.toInt.toNat + 4)).toInt (Int32.ofNat m) ((f1 x0.toInt.toNat).toInt / 2).toNat) (f4 (6 * x1.toInt.toNat + 2)).toInt (f4 (6 * x1.toInt.toNat + 4)).toInt x2.toInt.toNat r3.toInt) ∧ w' = [(mp_ob10 a0 y0 a1 a2 a3 a8 a9 y1 y2 y3 y4 y5 y6 y7 y8 y9 y10 a10 a4 a11 a12 a13 a5 a14 a15 y11 a16 a17 a18 a19 y12 y13 y14 a20 a21 y15 y16 a22 a23 a24 y17 y18 y19 y20 a6 a7 a25 y21), (mp_arI E a1 0 4 f0), (mp_arI E a2 0 4 f1), (mp_arL E a3 240 f2), (mp_arI E a4 0 25 f3), (mp_arI E a5 0 300 f4), (mp_arI E a6 0 12 h1), (mp_arI E a7 0 12 h2)]) := by
  refine mp_met false (by decide) (by decide) (Nat.le_of_ble_eq_true rfl) (fun X hF hQ => ?_)
  have hF : mp_F E X (RX10, cX10_worstOf, 9, (3, 0, 0, 70), (some FieldType.int), false) := hF
  let w1_ : va_W := [(mp_ob10 a0 y0 a1 a2 a3 a8 a9 y1 y2 y3 y4 y5 y6 y7 y8 y9 y10 a10 a4 a11 a12 a13 a5 a14 a15 y11 a16 a17 a18 a19 y12 y13 y14 a20 a21 y15 y16 a22 a23 a24 y17 y18 y19 y20 a6 a7 a25 y21), (mp_arI E a1 0 4 f0), (mp_arI E a2 0 4 f1), (mp_arL E a3 240 f2), (mp_arI E a4 0 25 f3), (mp_arI E a5 0 300 f4), (mp_arI E a6 0 12 f5), (mp_arI E a7 0 12 f6)]
  show mp_W E X 9 0 [(0, .ref a0), (1, .int x0), (2, .int x1), (3, .int x2)] [] w1_ 0 0
  refine mp_run mp_k_cX10_worstOf_ok hF mp_tabX10_ok [mp_c (.iconst 0) 0, mp_i (.istore 4), mp_c (.iconst 0) 0, mp_i (.istore 5), mp_c (.iconst 0) 0, mp_i (.istore 6)] (by decide +kernel) ?_
  show mp_W E X 9 9 [(6, .int 0), (5, .int 0), (4, .int 0), (0, .ref a0), (1, .int x0), (2, .int x1), (3, .int x2)] [] w1_ 0 0
  have lp_13 : ∀ (d_14 : Nat) (i_1 : Int32) (i_2 : Int32) (g_3 : Nat → Int32) (g_4 : Nat → Int32) (i_5 : Int32), 0 ≤ i_1.toInt → i_1.toInt ≤ 1024 → 0 ≤ i_5.toInt → (mp_dw g_4 (f4 (6 * x1.toInt.toNat + 2)) i_2.toInt) → (0 ≤ i_2.toInt) → (mp_tbx g_3 g_4 (fun m => mp_ft f2 x0.toInt (f4 (6 * x1.toInt.toNat + 3)).toInt (f4 (6 * x1.toInt.toNat + 2)).toInt (f4 (6 * x1.toInt.toNat + 4)).toInt (Int32.ofNat m) ((f1 x0.toInt.toNat).toInt / 2).toNat) (f4 (6 * x1.toInt.toNat + 2)).toInt (f4 (6 * x1.toInt.toNat + 4)).toInt x2.toInt.toNat i_1.toInt.toNat i_2.toInt i_5.toInt) → (0 ≤ i_1.toInt ∧ i_1.toInt ≤ 1024) → -(i_1.toInt) + 1024 ≤ (d_14 : Int) → mp_W E X 9 9 [(6, .int i_1), (5, .int i_5), (4, .int i_2), (0, .ref a0), (1, .int x0), (2, .int x1), (3, .int x2)] [] [(mp_ob10 a0 y0 a1 a2 a3 a8 a9 y1 y2 y3 y4 y5 y6 y7 y8 y9 y10 a10 a4 a11 a12 a13 a5 a14 a15 y11 a16 a17 a18 a19 y12 y13 y14 a20 a21 y15 y16 a22 a23 a24 y17 y18 y19 y20 a6 a7 a25 y21), (mp_arI E a1 0 4 f0), (mp_arI E a2 0 4 f1), (mp_arL E a3 240 f2), (mp_arI E a4 0 25 f3), (mp_arI E a5 0 300 f4), (mp_arI E a6 0 12 g_3), (mp_arI E a7 0 12 g_4)] 0 0 := by
    intro d_14
    induction d_14 using Nat.strongRecOn with
    | ind d_14 ih_15 =>
      intro i_1 i_2 g_3 g_4 i_5 l_6 u_7 l_8 x_9 x_10 x_11 x_12 hm_16
      have e_17 := mp_dw_le x_9
      refine mp_run mp_k_cX10_worstOf_ok hF mp_tabX10_ok [mp_i (.iload 6), mp_c (.sipush 1024) 1024, mp_h (.if_icmp .ge 125) [139]] (by decide +kernel) ?_
      refine And.intro (fun c_18 => ?_) (fun c_18 => ?_)
      · have c_18 : 1024 ≤ i_1.toInt := c_18
        let w2_ : va_W := [(mp_ob10 a0 y0 a1 a2 a3 a8 a9 y1 y2 y3 y4 y5 y6 y7 y8 y9 y10 a10 a4 a11 a12 a13 a5 a14 a15 y11 a16 a17 a18 a19 y12 y13 y14 a20 a21 y15 y16 a22 a23 a24 y17 y18 y19 y20 a6 a7 a25 y21), (mp_arI E a1 0 4 f0), (mp_arI E a2 0 4 f1), (mp_arL E a3 240 f2), (mp_arI E a4 0 25 f3), (mp_arI E a5 0 300 f4), (mp_arI E a6 0 12 g_3), (mp_arI E a7 0 12 g_4)]
        show mp_W E X 9 139 [(6, .int i_1), (5, .int i_5), (4, .int i_2), (0, .ref a0), (1, .int x0), (2, .int x1), (3, .int x2)] [] w2_ 0 0
        refine mp_run mp_k_cX10_worstOf_ok hF mp_tabX10_ok [mp_i (.iload 5)] (by decide +kernel) ?_
        show mp_W E X 9 141 [(6, .int i_1), (5, .int i_5), (4, .int i_2), (0, .ref a0), (1, .int x0), (2, .int x1), (3, .int x2)] [.int i_5] w2_ 0 0
        exact mp_iret hF hQ rfl rfl (Nat.le_of_ble_eq_true rfl) (Nat.le_of_ble_eq_true rfl) [0, 1, 2, 3, 4, 5, 6, 7] (w' := w2_) rfl rfl ⟨g_3, g_4, i_5, rfl, l_8, (by have k9 := x_11; rw [show i_1.toInt.toNat = 1024 from by omega] at k9; exact mp_tbx_WR k9), rfl⟩ (by first | exact mp_fd_ok mp_k_cX10_worstOf_ok (by decide +kernel) | decide +kernel)
      · have c_18 : i_1.toInt < 1024 := c_18
        let w3_ : va_W := [(mp_ob10 a0 y0 a1 a2 a3 a8 a9 y1 y2 y3 y4 y5 y6 y7 y8 y9 y10 a10 a4 a11 a12 a13 a5 a14 a15 y11 a16 a17 a18 a19 y12 y13 y14 a20 a21 y15 y16 a22 a23 a24 y17 y18 y19 y20 a6 a7 a25 y21), (mp_arI E a1 0 4 f0), (mp_arI E a2 0 4 f1), (mp_arL E a3 240 f2), (mp_arI E a4 0 25 f3), (mp_arI E a5 0 300 f4), (mp_arI E a6 0 12 g_3), (mp_arI E a7 0 12 g_4)]
        show mp_W E X 9 17 [(6, .int i_1), (5, .int i_5), (4, .int i_2), (0, .ref a0), (1, .int x0), (2, .int x1), (3, .int x2)] [] w3_ 0 0
        refine mp_run mp_k_cX10_worstOf_ok hF mp_tabX10_ok [mp_i (.aload_n 0), mp_i (.iload_n 1), mp_i (.iload_n 2), mp_i (.iload 6)] (by decide +kernel) ?_
        show mp_W E X 9 22 [(6, .int i_1), (5, .int i_5), (4, .int i_2), (0, .ref a0), (1, .int x0), (2, .int x1), (3, .int x2)] [.int i_1, .int x1, .int x0, .ref a0] w3_ 0 0
        refine mp_callV hF (As := [.int x0, .int x1, .int i_1]) (rest := []) (wr := [(mp_arI E a6 0 12 g_3), (mp_arI E a7 0 12 g_4)]) (bX10_isWay_137 E a0 a1 a2 a3 a4 a5 a8 a9 a10 a11 a12 a13 a14 a15 a16 a17 a18 a19 a20 a21 a22 a23 a24 a6 a7 a25 f0 f1 f2 f3 f4 y0 y1 y2 y3 y4 y5 y6 y7 y8 y9 y10 y11 y12 y13 y14 y15 y16 y17 y18 y19 y20 y21 x0 x1 i_1 p0 p1 p2 p3 p4 p5 p6 p7 p8 p9 l_x0 u_x0 l_x1 u_x1 l_y1 u_y1 l_y2 u_y2 l_y3 u_y3 l_y4 u_y4 l_y11 u_y11 l_y12 u_y12 l_y13 u_y13 (by first | assumption | omega) (by assumption) (by assumption) (by first | assumption | (have k9 := q0 x1.toInt.toNat (by omega); omega)) (by first | assumption | omega)) mp_lkX10_429 0 rfl [0, 1, 2, 3, 4, 5] [6, 7] rfl rfl rfl rfl rfl ⟨(Nat.le_of_ble_eq_true rfl), (Nat.le_of_ble_eq_true rfl), (Nat.le_of_ble_eq_true rfl), (Nat.le_of_ble_eq_true rfl)⟩ (Nat.le_of_ble_eq_true rfl) (by first | exact mp_fd_ok mp_k_cX10_worstOf_ok (by decide +kernel) | decide +kernel) (fun v_19 w_20 h_21 => ?_)
        rcases h_21 with ⟨rfl, x_22, rfl⟩ | ⟨rfl, x_23, rfl⟩
        · skip
          let w4_ : va_W := [(mp_arI E a6 0 12 g_3), (mp_arI E a7 0 12 g_4), (mp_ob10 a0 y0 a1 a2 a3 a8 a9 y1 y2 y3 y4 y5 y6 y7 y8 y9 y10 a10 a4 a11 a12 a13 a5 a14 a15 y11 a16 a17 a18 a19 y12 y13 y14 a20 a21 y15 y16 a22 a23 a24 y17 y18 y19 y20 a6 a7 a25 y21), (mp_arI E a1 0 4 f0), (mp_arI E a2 0 4 f1), (mp_arL E a3 240 f2), (mp_arI E a4 0 25 f3), (mp_arI E a5 0 300 f4)]
          show mp_W E X 9 25 [(6, .int i_1), (5, .int i_5), (4, .int i_2), (0, .ref a0), (1, .int x0), (2, .int x1), (3, .int x2)] [.int 1] w4_ 0 0
          refine mp_run mp_k_cX10_worstOf_ok hF mp_tabX10_ok [mp_h (.ifCond .ne 6) [31]] (by decide +kernel) ?_
          refine And.intro (fun _ => ?_) (fun c_24 => absurd c_24 (by decide))
          show mp_W E X 9 31 [(6, .int i_1), (5, .int i_5), (4, .int i_2), (0, .ref a0), (1, .int x0), (2, .int x1), (3, .int x2)] [] w4_ 0 0
          refine mp_run mp_k_cX10_worstOf_ok hF mp_tabX10_ok [mp_i (.aload_n 0), mp_i (.iload_n 2), mp_i (.iload 6), mp_i (.iload_n 3)] (by decide +kernel) ?_
          show mp_W E X 9 36 [(6, .int i_1), (5, .int i_5), (4, .int i_2), (0, .ref a0), (1, .int x0), (2, .int x1), (3, .int x2)] [.int x2, .int i_1, .int x1, .ref a0] w4_ 0 0
          refine mp_callV hF (As := [.int x1, .int i_1, .int x2]) (rest := []) (wr := [(mp_arI E a6 0 12 g_3), (mp_arI E a7 0 12 g_4), (mp_arI E a1 0 4 f0), (mp_arI E a2 0 4 f1), (mp_arL E a3 240 f2), (mp_arI E a4 0 25 f3)]) (bX10_worthBy_136 E a0 a5 a1 a2 a3 a8 a9 a10 a4 a11 a12 a13 a14 a15 a16 a17 a18 a19 a20 a21 a22 a23 a24 a6 a7 a25 f4 y0 y1 y2 y3 y4 y5 y6 y7 y8 y9 y10 y11 y12 y13 y14 y15 y16 y17 y18 y19 y20 y21 x1 i_1 x2 p6 p7 p8 p9 l_x1 u_x1 l_x2 u_x2 l_y1 u_y1 l_y2 u_y2 l_y3 u_y3 l_y4 u_y4 l_y11 u_y11 l_y12 u_y12 l_y13 u_y13 (by assumption)) mp_lkX10_414 2 rfl [2, 7] [0, 1, 3, 4, 5, 6] rfl rfl rfl rfl rfl ⟨(Nat.le_of_ble_eq_true rfl), (Nat.le_of_ble_eq_true rfl), (Nat.le_of_ble_eq_true rfl), (Nat.le_of_ble_eq_true rfl)⟩ (Nat.le_of_ble_eq_true rfl) (by first | exact mp_fd_ok mp_k_cX10_worstOf_ok (by decide +kernel) | decide +kernel) (fun v_25 w_26 h_27 => ?_)
          obtain ⟨r_28, rfl, x_29, x_30, rfl⟩ := h_27
          let w5_ : va_W := [(mp_arI E a6 0 12 g_3), (mp_arI E a7 0 12 g_4), (mp_arI E a1 0 4 f0), (mp_arI E a2 0 4 f1), (mp_arL E a3 240 f2), (mp_arI E a4 0 25 f3), (mp_ob10 a0 y0 a1 a2 a3 a8 a9 y1 y2 y3 y4 y5 y6 y7 y8 y9 y10 a10 a4 a11 a12 a13 a5 a14 a15 y11 a16 a17 a18 a19 y12 y13 y14 a20 a21 y15 y16 a22 a23 a24 y17 y18 y19 y20 a6 a7 a25 y21), (mp_arI E a5 0 300 f4)]
          show mp_W E X 9 39 [(6, .int i_1), (5, .int i_5), (4, .int i_2), (0, .ref a0), (1, .int x0), (2, .int x1), (3, .int x2)] [.int r_28] w5_ 0 0
          refine mp_run mp_k_cX10_worstOf_ok hF mp_tabX10_ok [mp_i (.istore 7), mp_c (.iconst 0) 0, mp_i (.istore 8)] (by decide +kernel) ?_
          show mp_W E X 9 44 [(8, .int 0), (7, .int r_28), (6, .int i_1), (5, .int i_5), (4, .int i_2), (0, .ref a0), (1, .int x0), (2, .int x1), (3, .int x2)] [] w5_ 0 0
          have lp_36 : ∀ (d_37 : Nat) (i_31 : Int32), 0 ≤ i_31.toInt → i_31.toInt ≤ 12 → (∀ a : Nat, (a : Int) < i_31.toInt → g_4 a ≠ r_28) → (0 ≤ i_31.toInt ∧ i_31.toInt ≤ i_2.toInt) → i_2.toInt - i_31.toInt ≤ (d_37 : Int) → mp_W E X 9 44 [(8, .int i_31), (7, .int r_28), (6, .int i_1), (5, .int i_5), (4, .int i_2), (0, .ref a0), (1, .int x0), (2, .int x1), (3, .int x2)] [] [(mp_arI E a6 0 12 g_3), (mp_arI E a7 0 12 g_4), (mp_arI E a1 0 4 f0), (mp_arI E a2 0 4 f1), (mp_arL E a3 240 f2), (mp_arI E a4 0 25 f3), (mp_ob10 a0 y0 a1 a2 a3 a8 a9 y1 y2 y3 y4 y5 y6 y7 y8 y9 y10 a10 a4 a11 a12 a13 a5 a14 a15 y11 a16 a17 a18 a19 y12 y13 y14 a20 a21 y15 y16 a22 a23 a24 y17 y18 y19 y20 a6 a7 a25 y21), (mp_arI E a5 0 300 f4)] 0 0 := by
            intro d_37
            induction d_37 using Nat.strongRecOn with
            | ind d_37 ih_38 =>
              intro i_31 l_32 u_33 x_34 x_35 hm_39
              refine mp_run mp_k_cX10_worstOf_ok hF mp_tabX10_ok [mp_i (.iload 8), mp_i (.iload 4), mp_h (.if_icmp .ge 21) [69]] (by decide +kernel) ?_
              refine And.intro (fun c_40 => ?_) (fun c_40 => ?_)
              · have c_40 : i_2.toInt ≤ i_31.toInt := c_40
                show mp_W E X 9 69 [(8, .int i_31), (7, .int r_28), (6, .int i_1), (5, .int i_5), (4, .int i_2), (0, .ref a0), (1, .int x0), (2, .int x1), (3, .int x2)] [] w5_ 0 0
                refine mp_run mp_k_cX10_worstOf_ok hF mp_tabX10_ok [mp_i (.iload 8), mp_i (.iload 4), mp_h (.if_icmp .ne 23) [96]] (by decide +kernel) ?_
                refine And.intro (fun c_41 => ?_) (fun c_41 => ?_)
                · have c_41 : i_31.toInt ≠ i_2.toInt := c_41
                  show mp_W E X 9 96 [(8, .int i_31), (7, .int r_28), (6, .int i_1), (5, .int i_5), (4, .int i_2), (0, .ref a0), (1, .int x0), (2, .int x1), (3, .int x2)] [] w5_ 0 0
                  refine mp_run mp_k_cX10_worstOf_ok hF mp_tabX10_ok [mp_i (.aload_n 0), mp_h (.getfield 83) [43, 6], mp_i (.iload 8), mp_i .dup2, mp_h .iaload [0], mp_c (.iconst 1) 1, mp_i .iadd, mp_h .iastore [0]] (by decide +kernel) ?_
                  refine And.intro rfl (And.intro rfl ?_)
                  refine And.intro rfl (And.intro rfl (And.intro (vp_in_iff.mpr (by omega)) ?_))
                  intro z_42 h_43
                  intro z_44 h_45
                  have e_46 := mp_bnd z_42
                  refine And.intro rfl (And.intro rfl (And.intro (vp_in_iff.mpr (by omega)) ?_))
                  intro g_48 h_49
                  let w6_ : va_W := [(mp_arI E a6 0 12 g_48), (mp_arI E a7 0 12 g_4), (mp_arI E a1 0 4 f0), (mp_arI E a2 0 4 f1), (mp_arL E a3 240 f2), (mp_arI E a4 0 25 f3), (mp_ob10 a0 y0 a1 a2 a3 a8 a9 y1 y2 y3 y4 y5 y6 y7 y8 y9 y10 a10 a4 a11 a12 a13 a5 a14 a15 y11 a16 a17 a18 a19 y12 y13 y14 a20 a21 y15 y16 a22 a23 a24 y17 y18 y19 y20 a6 a7 a25 y21), (mp_arI E a5 0 300 f4)]
                  show mp_W E X 9 107 [(8, .int i_31), (7, .int r_28), (6, .int i_1), (5, .int i_5), (4, .int i_2), (0, .ref a0), (1, .int x0), (2, .int x1), (3, .int x2)] [] w6_ 0 0
                  refine mp_run mp_k_cX10_worstOf_ok hF mp_tabX10_ok [mp_i (.aload_n 0), mp_h (.getfield 83) [43, 6], mp_i (.iload 8), mp_h .iaload [0], mp_i (.iload 5), mp_h (.if_icmp .le 13) [129]] (by decide +kernel) ?_
                  refine And.intro rfl (And.intro rfl ?_)
                  refine And.intro rfl (And.intro rfl (And.intro (vp_in_iff.mpr (by omega)) ?_))
                  intro z_50 h_51
                  have e_52 : z_50.toInt = z_44.toInt := by rw [h_51, h_49]; exact congrArg Int32.toInt (if_pos rfl)
                  refine And.intro (fun c_53 => ?_) (fun c_53 => ?_)
                  · have c_53 : z_50.toInt ≤ i_5.toInt := c_53
                    show mp_W E X 9 129 [(8, .int i_31), (7, .int r_28), (6, .int i_1), (5, .int i_5), (4, .int i_2), (0, .ref a0), (1, .int x0), (2, .int x1), (3, .int x2)] [] w6_ 0 0
                    refine mp_run mp_k_cX10_worstOf_ok hF mp_tabX10_ok [mp_i (.iload 5), mp_i (.istore 5), mp_c (.iinc 6 1) 1, mp_h (.goto (-127)) [9]] (by decide +kernel) ?_
                    intro z_54 h_55
                    have e_56 : z_54.toInt = i_1.toInt + 1 := mp_add (a := i_1.toInt) (b := 1) h_55 rfl (by decide) (by omega) (by omega)
                    show mp_W E X 9 9 [(6, .int z_54), (5, .int i_5), (8, .int i_31), (7, .int r_28), (4, .int i_2), (0, .ref a0), (1, .int x0), (2, .int x1), (3, .int x2)] [] w6_ 0 0
                    exact mp_sub [0, 1, 4, 5, 6, 7, 8] rfl [6, 2, 3, 4, 5, 7, 0, 1] rfl rfl (ih_15 (d_14 - 1) (by omega) z_54 i_2 g_48 g_4 i_5 (by omega) (by omega) l_8 (by first | exact x_9 | exact mp_dw_add x_9 x (by omega) (by omega) x_29 (by rw [show i_31.toInt = i_2.toInt from by omega] at x_34; exact x_34) (by omega)) (by first | omega | decide) (by exfalso; omega) (by omega) (by omega))
                  · have c_53 : i_5.toInt < z_50.toInt := c_53
                    show mp_W E X 9 119 [(8, .int i_31), (7, .int r_28), (6, .int i_1), (5, .int i_5), (4, .int i_2), (0, .ref a0), (1, .int x0), (2, .int x1), (3, .int x2)] [] w6_ 0 0
                    refine mp_run mp_k_cX10_worstOf_ok hF mp_tabX10_ok [mp_i (.aload_n 0), mp_h (.getfield 83) [43, 6], mp_i (.iload 8), mp_h .iaload [0], mp_h (.goto 5) [131], mp_i (.istore 5), mp_c (.iinc 6 1) 1, mp_h (.goto (-127)) [9]] (by decide +kernel) ?_
                    refine And.intro rfl (And.intro rfl ?_)
                    refine And.intro rfl (And.intro rfl (And.intro (vp_in_iff.mpr (by omega)) ?_))
                    intro z_57 h_58
                    have k_59 : z_50 = z_57 := h_51.trans h_58.symm
                    subst k_59
                    intro z_60 h_61
                    have e_62 : z_60.toInt = i_1.toInt + 1 := mp_add (a := i_1.toInt) (b := 1) h_61 rfl (by decide) (by omega) (by omega)
                    show mp_W E X 9 9 [(6, .int z_60), (5, .int z_50), (8, .int i_31), (7, .int r_28), (4, .int i_2), (0, .ref a0), (1, .int x0), (2, .int x1), (3, .int x2)] [] w6_ 0 0
                    exact mp_sub [0, 1, 4, 5, 6, 7, 8] rfl [6, 2, 3, 4, 5, 7, 0, 1] rfl rfl (ih_15 (d_14 - 1) (by omega) z_60 i_2 g_48 g_4 z_50 (by omega) (by omega) (by omega) (by first | exact x_9 | exact mp_dw_add x_9 x (by omega) (by omega) x_29 (by rw [show i_31.toInt = i_2.toInt from by omega] at x_34; exact x_34) (by omega)) (by first | omega | decide) (by exfalso; omega) (by omega) (by omega))
                · have c_41 : i_31.toInt = i_2.toInt := (congrArg Int32.toInt c_41)
                  show mp_W E X 9 76 [(8, .int i_31), (7, .int r_28), (6, .int i_1), (5, .int i_5), (4, .int i_2), (0, .ref a0), (1, .int x0), (2, .int x1), (3, .int x2)] [] w5_ 0 0
                  have e_63 := mp_dw_new x_9 (by omega) x_29 (by rw [show i_31.toInt = i_2.toInt from by omega] at x_34; exact x_34) (by omega)
                  refine mp_run mp_k_cX10_worstOf_ok hF mp_tabX10_ok [mp_i (.aload_n 0), mp_h (.getfield 86) [44, 6], mp_i (.iload 8), mp_i (.iload 7), mp_h .iastore [1]] (by decide +kernel) ?_
                  refine And.intro rfl (And.intro rfl ?_)
                  refine And.intro rfl (And.intro rfl (And.intro (vp_in_iff.mpr (by omega)) ?_))
                  intro g_64 h_65
                  let w7_ : va_W := [(mp_arI E a6 0 12 g_3), (mp_arI E a7 0 12 g_64), (mp_arI E a1 0 4 f0), (mp_arI E a2 0 4 f1), (mp_arL E a3 240 f2), (mp_arI E a4 0 25 f3), (mp_ob10 a0 y0 a1 a2 a3 a8 a9 y1 y2 y3 y4 y5 y6 y7 y8 y9 y10 a10 a4 a11 a12 a13 a5 a14 a15 y11 a16 a17 a18 a19 y12 y13 y14 a20 a21 y15 y16 a22 a23 a24 y17 y18 y19 y20 a6 a7 a25 y21), (mp_arI E a5 0 300 f4)]
                  show mp_W E X 9 85 [(8, .int i_31), (7, .int r_28), (6, .int i_1), (5, .int i_5), (4, .int i_2), (0, .ref a0), (1, .int x0), (2, .int x1), (3, .int x2)] [] w7_ 0 0
                  refine mp_run mp_k_cX10_worstOf_ok hF mp_tabX10_ok [mp_i (.aload_n 0), mp_h (.getfield 83) [43, 6], mp_i (.iload 8), mp_c (.iconst 0) 0, mp_h .iastore [0]] (by decide +kernel) ?_
                  refine And.intro rfl (And.intro rfl ?_)
                  refine And.intro rfl (And.intro rfl (And.intro (vp_in_iff.mpr (by omega)) ?_))
                  intro g_66 h_67
                  let w8_ : va_W := [(mp_arI E a6 0 12 g_66), (mp_arI E a7 0 12 g_64), (mp_arI E a1 0 4 f0), (mp_arI E a2 0 4 f1), (mp_arL E a3 240 f2), (mp_arI E a4 0 25 f3), (mp_ob10 a0 y0 a1 a2 a3 a8 a9 y1 y2 y3 y4 y5 y6 y7 y8 y9 y10 a10 a4 a11 a12 a13 a5 a14 a15 y11 a16 a17 a18 a19 y12 y13 y14 a20 a21 y15 y16 a22 a23 a24 y17 y18 y19 y20 a6 a7 a25 y21), (mp_arI E a5 0 300 f4)]
                  show mp_W E X 9 93 [(8, .int i_31), (7, .int r_28), (6, .int i_1), (5, .int i_5), (4, .int i_2), (0, .ref a0), (1, .int x0), (2, .int x1), (3, .int x2)] [] w8_ 0 0
                  refine mp_run mp_k_cX10_worstOf_ok hF mp_tabX10_ok [mp_c (.iinc 4 1) 1, mp_i (.aload_n 0), mp_h (.getfield 83) [43, 6], mp_i (.iload 8), mp_i .dup2, mp_h .iaload [0], mp_c (.iconst 1) 1, mp_i .iadd, mp_h .iastore [0]] (by decide +kernel) ?_
                  intro z_68 h_69
                  have e_70 : z_68.toInt = i_2.toInt + 1 := mp_add (a := i_2.toInt) (b := 1) h_69 rfl (by decide) (by omega) (by omega)
                  refine And.intro rfl (And.intro rfl ?_)
                  refine And.intro rfl (And.intro rfl (And.intro (vp_in_iff.mpr (by omega)) ?_))
                  intro z_71 h_72
                  intro z_73 h_74
                  have e_75 := mp_bnd z_71
                  refine And.intro rfl (And.intro rfl (And.intro (vp_in_iff.mpr (by omega)) ?_))
                  intro g_77 h_78
                  let w9_ : va_W := [(mp_arI E a6 0 12 g_77), (mp_arI E a7 0 12 g_64), (mp_arI E a1 0 4 f0), (mp_arI E a2 0 4 f1), (mp_arL E a3 240 f2), (mp_arI E a4 0 25 f3), (mp_ob10 a0 y0 a1 a2 a3 a8 a9 y1 y2 y3 y4 y5 y6 y7 y8 y9 y10 a10 a4 a11 a12 a13 a5 a14 a15 y11 a16 a17 a18 a19 y12 y13 y14 a20 a21 y15 y16 a22 a23 a24 y17 y18 y19 y20 a6 a7 a25 y21), (mp_arI E a5 0 300 f4)]
                  show mp_W E X 9 107 [(4, .int z_68), (8, .int i_31), (7, .int r_28), (6, .int i_1), (5, .int i_5), (0, .ref a0), (1, .int x0), (2, .int x1), (3, .int x2)] [] w9_ 0 0
                  refine mp_run mp_k_cX10_worstOf_ok hF mp_tabX10_ok [mp_i (.aload_n 0), mp_h (.getfield 83) [43, 6], mp_i (.iload 8), mp_h .iaload [0], mp_i (.iload 5), mp_h (.if_icmp .le 13) [129]] (by decide +kernel) ?_
                  refine And.intro rfl (And.intro rfl ?_)
                  refine And.intro rfl (And.intro rfl (And.intro (vp_in_iff.mpr (by omega)) ?_))
                  intro z_79 h_80
                  have e_81 : z_79.toInt = z_73.toInt := by rw [h_80, h_78]; exact congrArg Int32.toInt (if_pos rfl)
                  refine And.intro (fun c_82 => ?_) (fun c_82 => ?_)
                  · have c_82 : z_79.toInt ≤ i_5.toInt := c_82
                    show mp_W E X 9 129 [(4, .int z_68), (8, .int i_31), (7, .int r_28), (6, .int i_1), (5, .int i_5), (0, .ref a0), (1, .int x0), (2, .int x1), (3, .int x2)] [] w9_ 0 0
                    refine mp_run mp_k_cX10_worstOf_ok hF mp_tabX10_ok [mp_i (.iload 5), mp_i (.istore 5), mp_c (.iinc 6 1) 1, mp_h (.goto (-127)) [9]] (by decide +kernel) ?_
                    intro z_83 h_84
                    have e_85 : z_83.toInt = i_1.toInt + 1 := mp_add (a := i_1.toInt) (b := 1) h_84 rfl (by decide) (by omega) (by omega)
                    show mp_W E X 9 9 [(6, .int z_83), (5, .int i_5), (4, .int z_68), (8, .int i_31), (7, .int r_28), (0, .ref a0), (1, .int x0), (2, .int x1), (3, .int x2)] [] w9_ 0 0
                    exact mp_sub [0, 1, 2, 5, 6, 7, 8] rfl [6, 2, 3, 4, 5, 7, 0, 1] rfl rfl (ih_15 (d_14 - 1) (by omega) z_83 z_68 g_77 g_64 i_5 (by omega) (by omega) l_8 (by first | exact x_9 | exact mp_dw_add x_9 h_65 (by omega) (by omega) x_29 (by rw [show i_31.toInt = i_2.toInt from by omega] at x_34; exact x_34) (by omega)) (by first | omega | decide) (mp_tbx_n x_11 (by show mp_ft _ _ _ _ _ (Int32.ofNat _) _ = true; rw [mp_ofnat (by omega)]; exact x_22) ⟨by omega, by omega, by omega⟩ ⟨by omega, by omega⟩ (fun a ha => x_34 a (by omega)) x_30 h_65 h_67 h_72 h_74 h_78 (by omega) (by omega)) (by omega) (by omega))
                  · have c_82 : i_5.toInt < z_79.toInt := c_82
                    show mp_W E X 9 119 [(4, .int z_68), (8, .int i_31), (7, .int r_28), (6, .int i_1), (5, .int i_5), (0, .ref a0), (1, .int x0), (2, .int x1), (3, .int x2)] [] w9_ 0 0
                    refine mp_run mp_k_cX10_worstOf_ok hF mp_tabX10_ok [mp_i (.aload_n 0), mp_h (.getfield 83) [43, 6], mp_i (.iload 8), mp_h .iaload [0], mp_h (.goto 5) [131], mp_i (.istore 5), mp_c (.iinc 6 1) 1, mp_h (.goto (-127)) [9]] (by decide +kernel) ?_
                    refine And.intro rfl (And.intro rfl ?_)
                    refine And.intro rfl (And.intro rfl (And.intro (vp_in_iff.mpr (by omega)) ?_))
                    intro z_86 h_87
                    have k_88 : z_79 = z_86 := h_80.trans h_87.symm
                    subst k_88
                    intro z_89 h_90
                    have e_91 : z_89.toInt = i_1.toInt + 1 := mp_add (a := i_1.toInt) (b := 1) h_90 rfl (by decide) (by omega) (by omega)
                    show mp_W E X 9 9 [(6, .int z_89), (5, .int z_79), (4, .int z_68), (8, .int i_31), (7, .int r_28), (0, .ref a0), (1, .int x0), (2, .int x1), (3, .int x2)] [] w9_ 0 0
                    exact mp_sub [0, 1, 2, 5, 6, 7, 8] rfl [6, 2, 3, 4, 5, 7, 0, 1] rfl rfl (ih_15 (d_14 - 1) (by omega) z_89 z_68 g_77 g_64 z_79 (by omega) (by omega) (by omega) (by first | exact x_9 | exact mp_dw_add x_9 h_65 (by omega) (by omega) x_29 (by rw [show i_31.toInt = i_2.toInt from by omega] at x_34; exact x_34) (by omega)) (by first | omega | decide) (mp_tbx_n x_11 (by show mp_ft _ _ _ _ _ (Int32.ofNat _) _ = true; rw [mp_ofnat (by omega)]; exact x_22) ⟨by omega, by omega, by omega⟩ ⟨by omega, by omega⟩ (fun a ha => x_34 a (by omega)) x_30 h_65 h_67 h_72 h_74 h_78 (by omega) (by omega)) (by omega) (by omega))
              · have c_40 : i_31.toInt < i_2.toInt := c_40
                show mp_W E X 9 51 [(8, .int i_31), (7, .int r_28), (6, .int i_1), (5, .int i_5), (4, .int i_2), (0, .ref a0), (1, .int x0), (2, .int x1), (3, .int x2)] [] w5_ 0 0
                refine mp_run mp_k_cX10_worstOf_ok hF mp_tabX10_ok [mp_i (.aload_n 0), mp_h (.getfield 86) [44, 6], mp_i (.iload 8), mp_h .iaload [1], mp_i (.iload 7), mp_h (.if_icmp .eq 9) [69]] (by decide +kernel) ?_
                refine And.intro rfl (And.intro rfl ?_)
                refine And.intro rfl (And.intro rfl (And.intro (vp_in_iff.mpr (by omega)) ?_))
                intro z_92 h_93
                refine And.intro (fun c_94 => ?_) (fun c_94 => ?_)
                · have c_94 : z_92.toInt = r_28.toInt := (congrArg Int32.toInt c_94)
                  show mp_W E X 9 69 [(8, .int i_31), (7, .int r_28), (6, .int i_1), (5, .int i_5), (4, .int i_2), (0, .ref a0), (1, .int x0), (2, .int x1), (3, .int x2)] [] w5_ 0 0
                  refine mp_run mp_k_cX10_worstOf_ok hF mp_tabX10_ok [mp_i (.iload 8), mp_i (.iload 4), mp_h (.if_icmp .ne 23) [96]] (by decide +kernel) ?_
                  refine And.intro (fun c_95 => ?_) (fun c_95 => ?_)
                  · have c_95 : i_31.toInt ≠ i_2.toInt := c_95
                    show mp_W E X 9 96 [(8, .int i_31), (7, .int r_28), (6, .int i_1), (5, .int i_5), (4, .int i_2), (0, .ref a0), (1, .int x0), (2, .int x1), (3, .int x2)] [] w5_ 0 0
                    refine mp_run mp_k_cX10_worstOf_ok hF mp_tabX10_ok [mp_i (.aload_n 0), mp_h (.getfield 83) [43, 6], mp_i (.iload 8), mp_i .dup2, mp_h .iaload [0], mp_c (.iconst 1) 1, mp_i .iadd, mp_h .iastore [0]] (by decide +kernel) ?_
                    refine And.intro rfl (And.intro rfl ?_)
                    refine And.intro rfl (And.intro rfl (And.intro (vp_in_iff.mpr (by omega)) ?_))
                    intro z_96 h_97
                    intro z_98 h_99
                    have e_100 := mp_bnd z_96
                    refine And.intro rfl (And.intro rfl (And.intro (vp_in_iff.mpr (by omega)) ?_))
                    intro g_102 h_103
                    let w10_ : va_W := [(mp_arI E a6 0 12 g_102), (mp_arI E a7 0 12 g_4), (mp_arI E a1 0 4 f0), (mp_arI E a2 0 4 f1), (mp_arL E a3 240 f2), (mp_arI E a4 0 25 f3), (mp_ob10 a0 y0 a1 a2 a3 a8 a9 y1 y2 y3 y4 y5 y6 y7 y8 y9 y10 a10 a4 a11 a12 a13 a5 a14 a15 y11 a16 a17 a18 a19 y12 y13 y14 a20 a21 y15 y16 a22 a23 a24 y17 y18 y19 y20 a6 a7 a25 y21), (mp_arI E a5 0 300 f4)]
                    show mp_W E X 9 107 [(8, .int i_31), (7, .int r_28), (6, .int i_1), (5, .int i_5), (4, .int i_2), (0, .ref a0), (1, .int x0), (2, .int x1), (3, .int x2)] [] w10_ 0 0
                    refine mp_run mp_k_cX10_worstOf_ok hF mp_tabX10_ok [mp_i (.aload_n 0), mp_h (.getfield 83) [43, 6], mp_i (.iload 8), mp_h .iaload [0], mp_i (.iload 5), mp_h (.if_icmp .le 13) [129]] (by decide +kernel) ?_
                    refine And.intro rfl (And.intro rfl ?_)
                    refine And.intro rfl (And.intro rfl (And.intro (vp_in_iff.mpr (by omega)) ?_))
                    intro z_104 h_105
                    have e_106 : z_104.toInt = z_98.toInt := by rw [h_105, h_103]; exact congrArg Int32.toInt (if_pos rfl)
                    refine And.intro (fun c_107 => ?_) (fun c_107 => ?_)
                    · have c_107 : z_104.toInt ≤ i_5.toInt := c_107
                      show mp_W E X 9 129 [(8, .int i_31), (7, .int r_28), (6, .int i_1), (5, .int i_5), (4, .int i_2), (0, .ref a0), (1, .int x0), (2, .int x1), (3, .int x2)] [] w10_ 0 0
                      refine mp_run mp_k_cX10_worstOf_ok hF mp_tabX10_ok [mp_i (.iload 5), mp_i (.istore 5), mp_c (.iinc 6 1) 1, mp_h (.goto (-127)) [9]] (by decide +kernel) ?_
                      intro z_108 h_109
                      have e_110 : z_108.toInt = i_1.toInt + 1 := mp_add (a := i_1.toInt) (b := 1) h_109 rfl (by decide) (by omega) (by omega)
                      show mp_W E X 9 9 [(6, .int z_108), (5, .int i_5), (8, .int i_31), (7, .int r_28), (4, .int i_2), (0, .ref a0), (1, .int x0), (2, .int x1), (3, .int x2)] [] w10_ 0 0
                      exact mp_sub [0, 1, 4, 5, 6, 7, 8] rfl [6, 2, 3, 4, 5, 7, 0, 1] rfl rfl (ih_15 (d_14 - 1) (by omega) z_108 i_2 g_102 g_4 i_5 (by omega) (by omega) l_8 (by first | exact x_9 | exact mp_dw_add x_9 x (by omega) (by omega) x_29 (by rw [show i_31.toInt = i_2.toInt from by omega] at x_34; exact x_34) (by omega)) (by first | omega | decide) (mp_tbx_t x_11 (by show mp_ft _ _ _ _ _ (Int32.ofNat _) _ = true; rw [mp_ofnat (by omega)]; exact x_22) ⟨by omega, by omega, by omega⟩ x_9.2 ⟨by omega, by omega⟩ (h_93.symm.trans (Int32.toInt_inj.mp (by omega))) x_30 h_97 h_99 h_103 (by omega)) (by omega) (by omega))
                    · have c_107 : i_5.toInt < z_104.toInt := c_107
                      show mp_W E X 9 119 [(8, .int i_31), (7, .int r_28), (6, .int i_1), (5, .int i_5), (4, .int i_2), (0, .ref a0), (1, .int x0), (2, .int x1), (3, .int x2)] [] w10_ 0 0
                      refine mp_run mp_k_cX10_worstOf_ok hF mp_tabX10_ok [mp_i (.aload_n 0), mp_h (.getfield 83) [43, 6], mp_i (.iload 8), mp_h .iaload [0], mp_h (.goto 5) [131], mp_i (.istore 5), mp_c (.iinc 6 1) 1, mp_h (.goto (-127)) [9]] (by decide +kernel) ?_
                      refine And.intro rfl (And.intro rfl ?_)
                      refine And.intro rfl (And.intro rfl (And.intro (vp_in_iff.mpr (by omega)) ?_))
                      intro z_111 h_112
                      have k_113 : z_104 = z_111 := h_105.trans h_112.symm
                      subst k_113
                      intro z_114 h_115
                      have e_116 : z_114.toInt = i_1.toInt + 1 := mp_add (a := i_1.toInt) (b := 1) h_115 rfl (by decide) (by omega) (by omega)
                      show mp_W E X 9 9 [(6, .int z_114), (5, .int z_104), (8, .int i_31), (7, .int r_28), (4, .int i_2), (0, .ref a0), (1, .int x0), (2, .int x1), (3, .int x2)] [] w10_ 0 0
                      exact mp_sub [0, 1, 4, 5, 6, 7, 8] rfl [6, 2, 3, 4, 5, 7, 0, 1] rfl rfl (ih_15 (d_14 - 1) (by omega) z_114 i_2 g_102 g_4 z_104 (by omega) (by omega) (by omega) (by first | exact x_9 | exact mp_dw_add x_9 x (by omega) (by omega) x_29 (by rw [show i_31.toInt = i_2.toInt from by omega] at x_34; exact x_34) (by omega)) (by first | omega | decide) (mp_tbx_t x_11 (by show mp_ft _ _ _ _ _ (Int32.ofNat _) _ = true; rw [mp_ofnat (by omega)]; exact x_22) ⟨by omega, by omega, by omega⟩ x_9.2 ⟨by omega, by omega⟩ (h_93.symm.trans (Int32.toInt_inj.mp (by omega))) x_30 h_97 h_99 h_103 (by omega)) (by omega) (by omega))
                  · have c_95 : i_31.toInt = i_2.toInt := (congrArg Int32.toInt c_95)
                    show mp_W E X 9 76 [(8, .int i_31), (7, .int r_28), (6, .int i_1), (5, .int i_5), (4, .int i_2), (0, .ref a0), (1, .int x0), (2, .int x1), (3, .int x2)] [] w5_ 0 0
                    have e_117 := mp_dw_new x_9 (by omega) x_29 (by rw [show i_31.toInt = i_2.toInt from by omega] at x_34; exact x_34) (by omega)
                    refine mp_run mp_k_cX10_worstOf_ok hF mp_tabX10_ok [mp_i (.aload_n 0), mp_h (.getfield 86) [44, 6], mp_i (.iload 8), mp_i (.iload 7), mp_h .iastore [1]] (by decide +kernel) ?_
                    refine And.intro rfl (And.intro rfl ?_)
                    refine And.intro rfl (And.intro rfl (And.intro (vp_in_iff.mpr (by omega)) ?_))
                    intro g_118 h_119
                    let w11_ : va_W := [(mp_arI E a6 0 12 g_3), (mp_arI E a7 0 12 g_118), (mp_arI E a1 0 4 f0), (mp_arI E a2 0 4 f1), (mp_arL E a3 240 f2), (mp_arI E a4 0 25 f3), (mp_ob10 a0 y0 a1 a2 a3 a8 a9 y1 y2 y3 y4 y5 y6 y7 y8 y9 y10 a10 a4 a11 a12 a13 a5 a14 a15 y11 a16 a17 a18 a19 y12 y13 y14 a20 a21 y15 y16 a22 a23 a24 y17 y18 y19 y20 a6 a7 a25 y21), (mp_arI E a5 0 300 f4)]
                    show mp_W E X 9 85 [(8, .int i_31), (7, .int r_28), (6, .int i_1), (5, .int i_5), (4, .int i_2), (0, .ref a0), (1, .int x0), (2, .int x1), (3, .int x2)] [] w11_ 0 0
                    refine mp_run mp_k_cX10_worstOf_ok hF mp_tabX10_ok [mp_i (.aload_n 0), mp_h (.getfield 83) [43, 6], mp_i (.iload 8), mp_c (.iconst 0) 0, mp_h .iastore [0]] (by decide +kernel) ?_
                    refine And.intro rfl (And.intro rfl ?_)
                    refine And.intro rfl (And.intro rfl (And.intro (vp_in_iff.mpr (by omega)) ?_))
                    intro g_120 h_121
                    let w12_ : va_W := [(mp_arI E a6 0 12 g_120), (mp_arI E a7 0 12 g_118), (mp_arI E a1 0 4 f0), (mp_arI E a2 0 4 f1), (mp_arL E a3 240 f2), (mp_arI E a4 0 25 f3), (mp_ob10 a0 y0 a1 a2 a3 a8 a9 y1 y2 y3 y4 y5 y6 y7 y8 y9 y10 a10 a4 a11 a12 a13 a5 a14 a15 y11 a16 a17 a18 a19 y12 y13 y14 a20 a21 y15 y16 a22 a23 a24 y17 y18 y19 y20 a6 a7 a25 y21), (mp_arI E a5 0 300 f4)]
                    show mp_W E X 9 93 [(8, .int i_31), (7, .int r_28), (6, .int i_1), (5, .int i_5), (4, .int i_2), (0, .ref a0), (1, .int x0), (2, .int x1), (3, .int x2)] [] w12_ 0 0
                    refine mp_run mp_k_cX10_worstOf_ok hF mp_tabX10_ok [mp_c (.iinc 4 1) 1, mp_i (.aload_n 0), mp_h (.getfield 83) [43, 6], mp_i (.iload 8), mp_i .dup2, mp_h .iaload [0], mp_c (.iconst 1) 1, mp_i .iadd, mp_h .iastore [0]] (by decide +kernel) ?_
                    intro z_122 h_123
                    have e_124 : z_122.toInt = i_2.toInt + 1 := mp_add (a := i_2.toInt) (b := 1) h_123 rfl (by decide) (by omega) (by omega)
                    refine And.intro rfl (And.intro rfl ?_)
                    refine And.intro rfl (And.intro rfl (And.intro (vp_in_iff.mpr (by omega)) ?_))
                    intro z_125 h_126
                    intro z_127 h_128
                    have e_129 := mp_bnd z_125
                    refine And.intro rfl (And.intro rfl (And.intro (vp_in_iff.mpr (by omega)) ?_))
                    intro g_131 h_132
                    let w13_ : va_W := [(mp_arI E a6 0 12 g_131), (mp_arI E a7 0 12 g_118), (mp_arI E a1 0 4 f0), (mp_arI E a2 0 4 f1), (mp_arL E a3 240 f2), (mp_arI E a4 0 25 f3), (mp_ob10 a0 y0 a1 a2 a3 a8 a9 y1 y2 y3 y4 y5 y6 y7 y8 y9 y10 a10 a4 a11 a12 a13 a5 a14 a15 y11 a16 a17 a18 a19 y12 y13 y14 a20 a21 y15 y16 a22 a23 a24 y17 y18 y19 y20 a6 a7 a25 y21), (mp_arI E a5 0 300 f4)]
                    show mp_W E X 9 107 [(4, .int z_122), (8, .int i_31), (7, .int r_28), (6, .int i_1), (5, .int i_5), (0, .ref a0), (1, .int x0), (2, .int x1), (3, .int x2)] [] w13_ 0 0
                    refine mp_run mp_k_cX10_worstOf_ok hF mp_tabX10_ok [mp_i (.aload_n 0), mp_h (.getfield 83) [43, 6], mp_i (.iload 8), mp_h .iaload [0], mp_i (.iload 5), mp_h (.if_icmp .le 13) [129]] (by decide +kernel) ?_
                    refine And.intro rfl (And.intro rfl ?_)
                    refine And.intro rfl (And.intro rfl (And.intro (vp_in_iff.mpr (by omega)) ?_))
                    intro z_133 h_134
                    have e_135 : z_133.toInt = z_127.toInt := by rw [h_134, h_132]; exact congrArg Int32.toInt (if_pos rfl)
                    refine And.intro (fun c_136 => ?_) (fun c_136 => ?_)
                    · have c_136 : z_133.toInt ≤ i_5.toInt := c_136
                      show mp_W E X 9 129 [(4, .int z_122), (8, .int i_31), (7, .int r_28), (6, .int i_1), (5, .int i_5), (0, .ref a0), (1, .int x0), (2, .int x1), (3, .int x2)] [] w13_ 0 0
                      refine mp_run mp_k_cX10_worstOf_ok hF mp_tabX10_ok [mp_i (.iload 5), mp_i (.istore 5), mp_c (.iinc 6 1) 1, mp_h (.goto (-127)) [9]] (by decide +kernel) ?_
                      intro z_137 h_138
                      have e_139 : z_137.toInt = i_1.toInt + 1 := mp_add (a := i_1.toInt) (b := 1) h_138 rfl (by decide) (by omega) (by omega)
                      show mp_W E X 9 9 [(6, .int z_137), (5, .int i_5), (4, .int z_122), (8, .int i_31), (7, .int r_28), (0, .ref a0), (1, .int x0), (2, .int x1), (3, .int x2)] [] w13_ 0 0
                      exact mp_sub [0, 1, 2, 5, 6, 7, 8] rfl [6, 2, 3, 4, 5, 7, 0, 1] rfl rfl (ih_15 (d_14 - 1) (by omega) z_137 z_122 g_131 g_118 i_5 (by omega) (by omega) l_8 (by first | exact x_9 | exact mp_dw_add x_9 h_119 (by omega) (by omega) x_29 (by rw [show i_31.toInt = i_2.toInt from by omega] at x_34; exact x_34) (by omega)) (by first | omega | decide) (mp_tbx_n x_11 (by show mp_ft _ _ _ _ _ (Int32.ofNat _) _ = true; rw [mp_ofnat (by omega)]; exact x_22) ⟨by omega, by omega, by omega⟩ ⟨by omega, by omega⟩ (fun a ha => x_34 a (by omega)) x_30 h_119 h_121 h_126 h_128 h_132 (by omega) (by omega)) (by omega) (by omega))
                    · have c_136 : i_5.toInt < z_133.toInt := c_136
                      show mp_W E X 9 119 [(4, .int z_122), (8, .int i_31), (7, .int r_28), (6, .int i_1), (5, .int i_5), (0, .ref a0), (1, .int x0), (2, .int x1), (3, .int x2)] [] w13_ 0 0
                      refine mp_run mp_k_cX10_worstOf_ok hF mp_tabX10_ok [mp_i (.aload_n 0), mp_h (.getfield 83) [43, 6], mp_i (.iload 8), mp_h .iaload [0], mp_h (.goto 5) [131], mp_i (.istore 5), mp_c (.iinc 6 1) 1, mp_h (.goto (-127)) [9]] (by decide +kernel) ?_
                      refine And.intro rfl (And.intro rfl ?_)
                      refine And.intro rfl (And.intro rfl (And.intro (vp_in_iff.mpr (by omega)) ?_))
                      intro z_140 h_141
                      have k_142 : z_133 = z_140 := h_134.trans h_141.symm
                      subst k_142
                      intro z_143 h_144
                      have e_145 : z_143.toInt = i_1.toInt + 1 := mp_add (a := i_1.toInt) (b := 1) h_144 rfl (by decide) (by omega) (by omega)
                      show mp_W E X 9 9 [(6, .int z_143), (5, .int z_133), (4, .int z_122), (8, .int i_31), (7, .int r_28), (0, .ref a0), (1, .int x0), (2, .int x1), (3, .int x2)] [] w13_ 0 0
                      exact mp_sub [0, 1, 2, 5, 6, 7, 8] rfl [6, 2, 3, 4, 5, 7, 0, 1] rfl rfl (ih_15 (d_14 - 1) (by omega) z_143 z_122 g_131 g_118 z_133 (by omega) (by omega) (by omega) (by first | exact x_9 | exact mp_dw_add x_9 h_119 (by omega) (by omega) x_29 (by rw [show i_31.toInt = i_2.toInt from by omega] at x_34; exact x_34) (by omega)) (by first | omega | decide) (mp_tbx_n x_11 (by show mp_ft _ _ _ _ _ (Int32.ofNat _) _ = true; rw [mp_ofnat (by omega)]; exact x_22) ⟨by omega, by omega, by omega⟩ ⟨by omega, by omega⟩ (fun a ha => x_34 a (by omega)) x_30 h_119 h_121 h_126 h_128 h_132 (by omega) (by omega)) (by omega) (by omega))
                · have c_94 : z_92.toInt ≠ r_28.toInt := c_94
                  show mp_W E X 9 63 [(8, .int i_31), (7, .int r_28), (6, .int i_1), (5, .int i_5), (4, .int i_2), (0, .ref a0), (1, .int x0), (2, .int x1), (3, .int x2)] [] w5_ 0 0
                  refine mp_run mp_k_cX10_worstOf_ok hF mp_tabX10_ok [mp_c (.iinc 8 1) 1, mp_h (.goto (-22)) [44]] (by decide +kernel) ?_
                  intro z_146 h_147
                  have e_148 : z_146.toInt = i_31.toInt + 1 := mp_add (a := i_31.toInt) (b := 1) h_147 rfl (by decide) (by omega) (by omega)
                  show mp_W E X 9 44 [(8, .int z_146), (7, .int r_28), (6, .int i_1), (5, .int i_5), (4, .int i_2), (0, .ref a0), (1, .int x0), (2, .int x1), (3, .int x2)] [] w5_ 0 0
                  exact mp_sub [0, 1, 2, 3, 4, 5, 6, 7, 8] rfl [0, 1, 2, 3, 4, 5, 6, 7] rfl rfl (ih_38 (d_37 - 1) (by omega) z_146 (by omega) (by omega) (mp_ne_s x_34 h_93 (by omega) (by omega) (by omega)) (by omega) (by omega))
          exact mp_sub [0, 1, 2, 3, 4, 5, 6, 7, 8] rfl [0, 1, 2, 3, 4, 5, 6, 7] rfl rfl (lp_36 _ 0 (by decide) (by decide) (fun a ha => absurd ha (by have h8 : ((0 : Int32).toInt) = 0 := rfl; omega)) (by first | omega | exact ⟨by decide, by first | omega | (show (0 : Int) ≤ _; omega)⟩) (Int.self_le_toNat _))
        · skip
          let w14_ : va_W := [(mp_arI E a6 0 12 g_3), (mp_arI E a7 0 12 g_4), (mp_ob10 a0 y0 a1 a2 a3 a8 a9 y1 y2 y3 y4 y5 y6 y7 y8 y9 y10 a10 a4 a11 a12 a13 a5 a14 a15 y11 a16 a17 a18 a19 y12 y13 y14 a20 a21 y15 y16 a22 a23 a24 y17 y18 y19 y20 a6 a7 a25 y21), (mp_arI E a1 0 4 f0), (mp_arI E a2 0 4 f1), (mp_arL E a3 240 f2), (mp_arI E a4 0 25 f3), (mp_arI E a5 0 300 f4)]
          show mp_W E X 9 25 [(6, .int i_1), (5, .int i_5), (4, .int i_2), (0, .ref a0), (1, .int x0), (2, .int x1), (3, .int x2)] [.int 0] w14_ 0 0
          refine mp_run mp_k_cX10_worstOf_ok hF mp_tabX10_ok [mp_h (.ifCond .ne 6) [31]] (by decide +kernel) ?_
          refine And.intro (fun c_149 => absurd c_149 (by decide)) (fun _ => ?_)
          show mp_W E X 9 28 [(6, .int i_1), (5, .int i_5), (4, .int i_2), (0, .ref a0), (1, .int x0), (2, .int x1), (3, .int x2)] [] w14_ 0 0
          refine mp_run mp_k_cX10_worstOf_ok hF mp_tabX10_ok [mp_h (.goto 105) [133], mp_c (.iinc 6 1) 1, mp_h (.goto (-127)) [9]] (by decide +kernel) ?_
          intro z_150 h_151
          have e_152 : z_150.toInt = i_1.toInt + 1 := mp_add (a := i_1.toInt) (b := 1) h_151 rfl (by decide) (by omega) (by omega)
          show mp_W E X 9 9 [(6, .int z_150), (5, .int i_5), (4, .int i_2), (0, .ref a0), (1, .int x0), (2, .int x1), (3, .int x2)] [] w14_ 0 0
          exact mp_sub [0, 1, 2, 3, 4, 5, 6] rfl [2, 3, 4, 5, 6, 7, 0, 1] rfl rfl (ih_15 (d_14 - 1) (by omega) z_150 i_2 g_3 g_4 i_5 (by omega) (by omega) l_8 (by first | exact x_9 | exact mp_dw_add x_9 x (by omega) (by omega) x (by rw [show 0 = i_2.toInt from by omega] at x_34; exact x_34) (by omega)) (by first | omega | decide) (mp_tbx_f x_11 (by show mp_ft _ _ _ _ _ (Int32.ofNat _) _ = false; rw [mp_ofnat (by omega)]; exact x_23) ⟨by omega, by omega⟩) (by omega) (by omega))
  exact mp_sub [0, 1, 2, 3, 4, 5, 6] rfl [0, 1, 2, 3, 4, 5, 6, 7] rfl rfl (lp_13 _ 0 0 f5 f6 0 (by decide) (by decide) (by decide) (mp_dw_0 (by decide)) (by decide) (mp_tbx_0 (by decide)) (by have i0 : (0 : Int32).toInt = 0 := rfl; have i1 : (1 : Int32).toInt = 1 := rfl; omega) (Int.self_le_toNat _))
set_option maxHeartbeats 4000000 in
set_option maxRecDepth 100000 in
theorem bX10_weigh_143 (E : mp_E) (a0 a1 a2 a3 a4 a5 a6 a7 a8 a9 a10 a11 a12 a13 a14 a15 a16 a17 a18 a19 a20 a21 a22 a23 a24 a25 : Nat) (f0 : Nat → Int32) (f1 : Nat → Int32) (f2 : Nat → Int64) (f3 : Nat → Int32) (f4 : Nat → Int32) (f5 : Nat → Int32) (f6 : Nat → Int32) (y0 : Int32) (y1 : Int32) (y2 : Int32) (y3 : Int32) (y4 : Int32) (y5 : Int32) (y6 : Int64) (y7 : Int32) (y8 : Int32) (y9 : Int32) (y10 : Int32) (y11 : Int32) (y12 : Int32) (y13 : Int32) (y14 : Int32) (y15 : Int32) (y16 : Int32) (y17 : Int32) (y18 : Int32) (y19 : Int32) (y20 : Int32) (y21 : Int32) (x0 : Int32) (x1 : Int32) (p0 : mp_all f1 4 0 60) (p1 : mp_res f3 25 5 0 0 6) (p2 : mp_res f3 25 5 1 0 99) (p3 : mp_res f3 25 5 2 0 6) (p4 : mp_res f3 25 5 3 0 10) (p5 : mp_res f3 25 5 4 0 60) (p6 : mp_res f4 300 6 0 0 5) (p7 : mp_res f4 300 6 1 0 5) (p8 : mp_res f4 300 6 3 0 99) (p9 : mp_res f4 300 6 4 0 1) (l_y1 : 0 ≤ y1.toInt) (u_y1 : y1.toInt ≤ 1600) (l_y2 : 0 ≤ y2.toInt) (u_y2 : y2.toInt ≤ 1600) (l_y3 : 0 ≤ y3.toInt) (u_y3 : y3.toInt ≤ 4) (l_y4 : 0 ≤ y4.toInt) (u_y4 : y4.toInt ≤ 1600) (l_y11 : 0 ≤ y11.toInt) (u_y11 : y11.toInt ≤ 99) (l_y12 : 0 ≤ y12.toInt) (u_y12 : y12.toInt ≤ 5) (l_y13 : 0 ≤ y13.toInt) (u_y13 : y13.toInt ≤ 12) (q0 : ∀ j : Nat, (j : Int) < (f3 3).toInt → 1 ≤ (f4 (6 * j + 2)).toInt ∧ (f4 (6 * j + 2)).toInt ≤ 1000000) : mp_Ct E yX10_weigh cX10_weigh 8 (some FieldType.int) 4 0 0 98 [.ref a0, .int x0, .int x1] [(mp_ob10 a0 y0 a1 a2 a3 a8 a9 y1 y2 y3 y4 y5 y6 y7 y8 y9 y10 a10 a4 a11 a12 a13 a5 a14 a15 y11 a16 a17 a18 a19 y12 y13 y14 a20 a21 y15 y16 a22 a23 a24 y17 y18 y19 y20 a6 a7 a25 y21), (mp_arI E a1 0 4 f0), (mp_arI E a2 0 4 f1), (mp_arL E a3 240 f2), (mp_arI E a4 0 25 f3), (mp_arI E a5 0 300 f4), (mp_arI E a6 0 12 f5), (mp_arI E a7 0 12 f6)] (fun v w' => (v = some (.int (-2)) ∧ ((x0.toInt < 0 ∨ 3 < x0.toInt ∨ x1.toInt < 0 ∨ (f3 3).toInt ≤ x1.toInt ∨ (0 ≤ x1.toInt ∧ x1.toInt < (f3 3).toInt ∧ (f4 (6 * x1.toInt.toNat + 5)).toInt ≠ -1)) ∨ (((0 ≤ x0.toInt ∧ x0.toInt ≤ 3) ∧ (0 ≤ x1.toInt ∧ x1.toInt < (f3 3).toInt) ∧ (f4 (6 * x1.toInt.toNat + 5)).toInt = -1) ∧ (f0 x0.toInt.toNat).toInt ≠ -1 ∧ ((f1 x0.toInt.toNat).toInt % 2 ≠ 0 ∨ ¬ mp_vd f2 x0.toInt ((f1 x0.toInt.toNat).toInt / 2).toNat (f4 (6 * x1.toInt.toNat + 3)).toInt))) ∧ w' = [(mp_ob10 a0 0 a1 a2 a3 a8 a9 y1 y2 y3 y4 y5 y6 y7 y8 y9 y10 a10 a4 a11 a12 a13 a5 a14 a15 y11 a16 a17 a18 a19 y12 y13 y14 a20 a21 y15 y16 a22 a23 a24 y17 y18 y19 y20 a6 a7 a25 y21), (mp_arI E a1 0 4 f0), (mp_arI E a2 0 4 f1), (mp_arL E a3 240 f2), (mp_arI E a4 0 25 f3), (mp_arI E a5 0 300 f4), (mp_arI E a6 0 12 f5), (mp_arI E a7 0 12 f6)]) ∨ (∃ r1 : Int32, ∃ r2 : Int32, ∃ r3 : Int32, ∃ r4 : Int32, ∃ h5 : Nat → Int32, ∃ h6 : Nat → Int32, ∃ r7 : Int32, v = some (.int r7) ∧ 0 ≤ x0.toInt ∧ x0.toInt ≤ 3 ∧ 0 ≤ x1.toInt ∧ 0 ≤ r3.toInt ∧ r3.toInt ≤ 1023 ∧ (-1) ≤ r7.toInt ∧ r7.toInt ≤ 240 ∧ ((0 ≤ x0.toInt ∧ x0.toInt ≤ 3) ∧ (0 ≤ x1.toInt ∧ x1.toInt < (f3 3).toInt) ∧ (f4 (6 * x1.toInt.toNat + 5)).toInt = -1 ∧ (f0 x0.toInt.toNat).toInt ≠ -1 ∧ (f1 x0.toInt.toNat).toInt % 2 = 0) ∧ (mp_vd f2 x0.toInt ((f1 x0.toInt.toNat).toInt / 2).toNat (f4 (6 * x1.toInt.toNat + 3)).toInt) ∧ (mp_BMr (fun m => mp_ft f2 x0.toInt (f4 (6 * x1.toInt.toNat + 3)).toInt (f4 (6 * x1.toInt.toNat + 2)).toInt (f4 (6 * x1.toInt.toNat + 4)).toInt (Int32.ofNat m) ((f1 x0.toInt.toNat).toInt / 2).toNat) (f4 (6 * x1.toInt.toNat + 2)).toInt (f4 (6 * x1.toInt.toNat + 4)).toInt (f4 (6 * x1.toInt.toNat + 3)).toInt (mp_wN (fun m => mp_ft f2 x0.toInt (f4 (6 * x1.toInt.toNat + 3)).toInt (f4 (6 * x1.toInt.toNat + 2)).toInt (f4 (6 * x1.toInt.toNat + 4)).toInt (Int32.ofNat m) ((f1 x0.toInt.toNat).toInt / 2).toNat) 1024) r7.toInt) ∧ w' = [(mp_ob10 a0 0 a1 a2 a3 a8 a9 y1 y2 y3 y4 y5 y6 y7 y8 y9 y10 a10 a4 a11 a12 a13 a5 a14 a15 y11 a16 a17 a18 a19 y12 y13 y14 a20 a21 y15 y16 a22 a23 a24 r1 r2 r3 r4 a6 a7 a25 y21), (mp_arI E a1 0 4 f0), (mp_arI E a2 0 4 f1), (mp_arL E a3 240 f2), (mp_arI E a4 0 25 f3), (mp_arI E a5 0 300 f4), (mp_arI E a6 0 12 h5), (mp_arI E a7 0 12 h6)]) ∨ (v = some (.int (-6)) ∧ 0 ≤ x0.toInt ∧ x0.toInt ≤ 3 ∧ 0 ≤ x1.toInt ∧ ((0 ≤ x0.toInt ∧ x0.toInt ≤ 3) ∧ (0 ≤ x1.toInt ∧ x1.toInt < (f3 3).toInt) ∧ (f4 (6 * x1.toInt.toNat + 5)).toInt = -1 ∧ (f0 x0.toInt.toNat).toInt = -1) ∧ w' = [(mp_ob10 a0 0 a1 a2 a3 a8 a9 y1 y2 y3 y4 y5 y6 y7 y8 y9 y10 a10 a4 a11 a12 a13 a5 a14 a15 y11 a16 a17 a18 a19 y12 y13 y14 a20 a21 y15 y16 a22 a23 a24 y17 y18 y19 y20 a6 a7 a25 y21), (mp_arI E a1 0 4 f0), (mp_arI E a2 0 4 f1), (mp_arL E a3 240 f2), (mp_arI E a4 0 25 f3), (mp_arI E a5 0 300 f4), (mp_arI E a6 0 12 f5), (mp_arI E a7 0 12 f6)])) := by
  refine mp_met false (by decide) (by decide) (Nat.le_of_ble_eq_true rfl) (fun X hF hQ => ?_)
  have hF : mp_F E X (RX10, cX10_weigh, 8, (4, 0, 0, 98), (some FieldType.int), false) := hF
  let w1_ : va_W := [(mp_ob10 a0 y0 a1 a2 a3 a8 a9 y1 y2 y3 y4 y5 y6 y7 y8 y9 y10 a10 a4 a11 a12 a13 a5 a14 a15 y11 a16 a17 a18 a19 y12 y13 y14 a20 a21 y15 y16 a22 a23 a24 y17 y18 y19 y20 a6 a7 a25 y21), (mp_arI E a1 0 4 f0), (mp_arI E a2 0 4 f1), (mp_arL E a3 240 f2), (mp_arI E a4 0 25 f3), (mp_arI E a5 0 300 f4), (mp_arI E a6 0 12 f5), (mp_arI E a7 0 12 f6)]
  show mp_W E X 8 0 [(0, .ref a0), (1, .int x0), (2, .int x1)] [] w1_ 0 0
  refine mp_run mp_k_cX10_weigh_ok hF mp_tabX10_ok [mp_i (.aload_n 0), mp_c (.iconst 0) 0, mp_h (.putfield 92) [0, 0]] (by decide +kernel) ?_
  refine And.intro rfl (And.intro rfl (And.intro rfl (And.intro rfl (And.intro (Nat.le_of_ble_eq_true rfl) ?_))))
  let w2_ : va_W := [(mp_ob10 a0 0 a1 a2 a3 a8 a9 y1 y2 y3 y4 y5 y6 y7 y8 y9 y10 a10 a4 a11 a12 a13 a5 a14 a15 y11 a16 a17 a18 a19 y12 y13 y14 a20 a21 y15 y16 a22 a23 a24 y17 y18 y19 y20 a6 a7 a25 y21), (mp_arI E a1 0 4 f0), (mp_arI E a2 0 4 f1), (mp_arL E a3 240 f2), (mp_arI E a4 0 25 f3), (mp_arI E a5 0 300 f4), (mp_arI E a6 0 12 f5), (mp_arI E a7 0 12 f6)]
  show mp_W E X 8 5 [(0, .ref a0), (1, .int x0), (2, .int x1)] [] w2_ 0 0
  refine mp_run mp_k_cX10_weigh_ok hF mp_tabX10_ok [mp_i (.aload_n 0), mp_i (.iload_n 1), mp_i (.iload_n 2)] (by decide +kernel) ?_
  show mp_W E X 8 8 [(0, .ref a0), (1, .int x0), (2, .int x1)] [.int x1, .int x0, .ref a0] w2_ 0 0
  refine mp_callV hF (As := [.int x0, .int x1]) (rest := []) (wr := [(mp_arI E a6 0 12 f5), (mp_arI E a7 0 12 f6)]) (bX10_whyNot_135 E a0 a1 a2 a3 a4 a5 a8 a9 a10 a11 a12 a13 a14 a15 a16 a17 a18 a19 a20 a21 a22 a23 a24 a6 a7 a25 f0 f1 f2 f3 f4 0 y1 y2 y3 y4 y5 y6 y7 y8 y9 y10 y11 y12 y13 y14 y15 y16 y17 y18 y19 y20 y21 x0 x1 p0 p1 p2 p3 p4 p5 p6 p7 p8 p9 l_y1 u_y1 l_y2 u_y2 l_y3 u_y3 l_y4 u_y4 l_y11 u_y11 l_y12 u_y12 l_y13 u_y13) mp_lkX10_432 0 rfl [0, 1, 2, 3, 4, 5] [6, 7] rfl rfl rfl rfl rfl ⟨(Nat.le_of_ble_eq_true rfl), (Nat.le_of_ble_eq_true rfl), (Nat.le_of_ble_eq_true rfl), (Nat.le_of_ble_eq_true rfl)⟩ (Nat.le_of_ble_eq_true rfl) (by first | exact mp_fd_ok mp_k_cX10_weigh_ok (by decide +kernel) | decide +kernel) (fun v_1 w_2 h_3 => ?_)
  refine h_3.elim (fun q_21 => ?_) (fun q_22 => q_22.elim (fun q_23 => ?_) (fun q_24 => ?_))
  · skip
    refine q_21.elim fun e_25 q_26 => q_26.elim fun x_4 e_27 => ?_
    clear h_3 q_21 q_26
    subst e_25
    subst e_27
    let w3_ : va_W := [(mp_arI E a6 0 12 f5), (mp_arI E a7 0 12 f6), (mp_ob10 a0 0 a1 a2 a3 a8 a9 y1 y2 y3 y4 y5 y6 y7 y8 y9 y10 a10 a4 a11 a12 a13 a5 a14 a15 y11 a16 a17 a18 a19 y12 y13 y14 a20 a21 y15 y16 a22 a23 a24 y17 y18 y19 y20 a6 a7 a25 y21), (mp_arI E a1 0 4 f0), (mp_arI E a2 0 4 f1), (mp_arL E a3 240 f2), (mp_arI E a4 0 25 f3), (mp_arI E a5 0 300 f4)]
    show mp_W E X 8 11 [(0, .ref a0), (1, .int x0), (2, .int x1)] [.int (-2)] w3_ 0 0
    refine mp_run mp_k_cX10_weigh_ok hF mp_tabX10_ok [mp_i (.istore_n 3), mp_i (.iload_n 3), mp_h (.ifCond .eq 5) [18]] (by decide +kernel) ?_
    refine And.intro (fun c_28 => absurd c_28 (by decide)) (fun _ => ?_)
    show mp_W E X 8 16 [(3, .int (-2)), (0, .ref a0), (1, .int x0), (2, .int x1)] [] w3_ 0 0
    refine mp_run mp_k_cX10_weigh_ok hF mp_tabX10_ok [mp_i (.iload_n 3)] (by decide +kernel) ?_
    show mp_W E X 8 17 [(3, .int (-2)), (0, .ref a0), (1, .int x0), (2, .int x1)] [.int (-2)] w3_ 0 0
    exact mp_iret hF hQ rfl rfl (Nat.le_of_ble_eq_true rfl) (Nat.le_of_ble_eq_true rfl) [2, 3, 4, 5, 6, 7, 0, 1] (w' := w2_) rfl rfl (Or.inl ⟨rfl, x_4, rfl⟩) (by first | exact mp_fd_ok mp_k_cX10_weigh_ok (by decide +kernel) | decide +kernel)
  · skip
    refine q_23.elim fun e_29 q_30 => q_30.elim fun c_5 q_31 => q_31.elim fun c_6 q_32 => q_32.elim fun c_7 q_33 => q_33.elim fun x_8 q_34 => q_34.elim fun x_9 q_35 => q_35.elim fun x_10 q_36 => q_36.elim fun x_11 q_37 => q_37.elim fun x_12 q_38 => q_38.elim fun x_13 q_39 => q_39.elim fun x_14 q_40 => q_40.elim fun x_15 q_41 => q_41.elim fun x_16 e_42 => ?_
    clear h_3 q_22 q_23 q_30 q_31 q_32 q_33 q_34 q_35 q_36 q_37 q_38 q_39 q_40 q_41
    subst e_29
    subst e_42
    have c_5 : 0 ≤ x0.toInt := c_5
    have c_6 : x0.toInt ≤ 3 := c_6
    have c_7 : 0 ≤ x1.toInt := c_7
    let w4_ : va_W := [(mp_arI E a6 0 12 f5), (mp_arI E a7 0 12 f6), (mp_ob10 a0 0 a1 a2 a3 a8 a9 y1 y2 y3 y4 y5 y6 y7 y8 y9 y10 a10 a4 a11 a12 a13 a5 a14 a15 y11 a16 a17 a18 a19 y12 y13 y14 a20 a21 y15 y16 a22 a23 a24 y17 y18 y19 y20 a6 a7 a25 y21), (mp_arI E a1 0 4 f0), (mp_arI E a2 0 4 f1), (mp_arL E a3 240 f2), (mp_arI E a4 0 25 f3), (mp_arI E a5 0 300 f4)]
    show mp_W E X 8 11 [(0, .ref a0), (1, .int x0), (2, .int x1)] [.int 0] w4_ 0 0
    refine mp_run mp_k_cX10_weigh_ok hF mp_tabX10_ok [mp_i (.istore_n 3), mp_i (.iload_n 3), mp_h (.ifCond .eq 5) [18]] (by decide +kernel) ?_
    refine And.intro (fun _ => ?_) (fun c_43 => absurd c_43 (by decide))
    show mp_W E X 8 18 [(3, .int 0), (0, .ref a0), (1, .int x0), (2, .int x1)] [] w4_ 0 0
    refine mp_run mp_k_cX10_weigh_ok hF mp_tabX10_ok [mp_i (.aload_n 0), mp_i (.iload_n 1), mp_i (.iload_n 2)] (by decide +kernel) ?_
    show mp_W E X 8 21 [(3, .int 0), (0, .ref a0), (1, .int x0), (2, .int x1)] [.int x1, .int x0, .ref a0] w4_ 0 0
    refine mp_callV hF (As := [.int x0, .int x1]) (rest := []) (wr := [(mp_arI E a6 0 12 f5), (mp_arI E a7 0 12 f6)]) (bX10_laysWays_138 E a0 a1 a2 a3 a4 a5 a8 a9 a10 a11 a12 a13 a14 a15 a16 a17 a18 a19 a20 a21 a22 a23 a24 a6 a7 a25 f0 f1 f2 f3 f4 0 y1 y2 y3 y4 y5 y6 y7 y8 y9 y10 y11 y12 y13 y14 y15 y16 y17 y18 y19 y20 y21 x0 x1 p0 p1 p2 p3 p4 p5 p6 p7 p8 p9 (by omega) (by omega) (by omega) (by omega) l_y1 u_y1 l_y2 u_y2 l_y3 u_y3 l_y4 u_y4 l_y11 u_y11 l_y12 u_y12 l_y13 u_y13 (by first | assumption | omega) (by assumption) (by assumption) (by first | assumption | (have k9 := q0 x1.toInt.toNat (by omega); omega)) (by first | assumption | omega)) mp_lkX10_435 2 rfl [2, 3, 4, 5, 6, 7] [0, 1] rfl rfl rfl rfl rfl ⟨(Nat.le_of_ble_eq_true rfl), (Nat.le_of_ble_eq_true rfl), (Nat.le_of_ble_eq_true rfl), (Nat.le_of_ble_eq_true rfl)⟩ (Nat.le_of_ble_eq_true rfl) (by first | exact mp_fd_ok mp_k_cX10_weigh_ok (by decide +kernel) | decide +kernel) (fun v_44 w_45 h_46 => ?_)
    refine h_46.elim fun r_47 q_57 => q_57.elim fun r_48 q_58 => q_58.elim fun r_49 q_59 => q_59.elim fun r_50 q_60 => q_60.elim fun e_61 q_62 => q_62.elim fun l_51 q_63 => q_63.elim fun u_52 q_64 => q_64.elim fun x_53 q_65 => q_65.elim fun x_54 q_66 => q_66.elim fun x_55 q_67 => q_67.elim fun x_56 e_68 => ?_
    clear h_46 q_57 q_58 q_59 q_60 q_62 q_63 q_64 q_65 q_66 q_67
    subst e_61
    subst e_68
    let w5_ : va_W := [(mp_arI E a6 0 12 f5), (mp_arI E a7 0 12 f6), (mp_ob10 a0 0 a1 a2 a3 a8 a9 y1 y2 y3 y4 y5 y6 y7 y8 y9 y10 a10 a4 a11 a12 a13 a5 a14 a15 y11 a16 a17 a18 a19 y12 y13 y14 a20 a21 y15 y16 a22 a23 a24 r_47 r_48 r_49 r_50 a6 a7 a25 y21), (mp_arI E a1 0 4 f0), (mp_arI E a2 0 4 f1), (mp_arL E a3 240 f2), (mp_arI E a4 0 25 f3), (mp_arI E a5 0 300 f4)]
    show mp_W E X 8 24 [(3, .int 0), (0, .ref a0), (1, .int x0), (2, .int x1)] [] w5_ 0 0
    refine mp_run mp_k_cX10_weigh_ok hF mp_tabX10_ok [mp_c (.iconst (-1)) (-1), mp_i (.istore 4), mp_i (.aload_n 0), mp_h (.getfield 417) [39, 2], mp_i (.istore 5), mp_c (.iconst 1) 1, mp_i (.istore 6)] (by decide +kernel) ?_
    refine And.intro rfl (And.intro rfl ?_)
    show mp_W E X 8 36 [(6, .int 1), (5, .int r_47), (4, .int (-1)), (3, .int 0), (0, .ref a0), (1, .int x0), (2, .int x1)] [] w5_ 0 0
    have lp_80 : ∀ (d_81 : Nat) (i_69 : Int32) (i_70 : Int32) (i_71 : Int32) (g_72 : Nat → Int32) (g_73 : Nat → Int32), 1 ≤ i_69.toInt → i_69.toInt ≤ 12 → (-1) ≤ i_71.toInt → i_71.toInt ≤ 240 → (mp_BM (fun m => mp_ft f2 x0.toInt (f4 (6 * x1.toInt.toNat + 3)).toInt (f4 (6 * x1.toInt.toNat + 2)).toInt (f4 (6 * x1.toInt.toNat + 4)).toInt (Int32.ofNat m) ((f1 x0.toInt.toNat).toInt / 2).toNat) (f4 (6 * x1.toInt.toNat + 2)).toInt (f4 (6 * x1.toInt.toNat + 4)).toInt (f4 (6 * x1.toInt.toNat + 3)).toInt (mp_wN (fun m => mp_ft f2 x0.toInt (f4 (6 * x1.toInt.toNat + 3)).toInt (f4 (6 * x1.toInt.toNat + 2)).toInt (f4 (6 * x1.toInt.toNat + 4)).toInt (Int32.ofNat m) ((f1 x0.toInt.toNat).toInt / 2).toNat) 1024) (i_69.toInt - 1).toNat i_71.toInt i_70.toInt) → (1 ≤ i_69.toInt ∧ i_69.toInt ≤ 11) → -(i_69.toInt) + 11 ≤ (d_81 : Int) → mp_W E X 8 36 [(6, .int i_69), (5, .int i_70), (4, .int i_71), (3, .int 0), (0, .ref a0), (1, .int x0), (2, .int x1)] [] [(mp_arI E a6 0 12 g_72), (mp_arI E a7 0 12 g_73), (mp_ob10 a0 0 a1 a2 a3 a8 a9 y1 y2 y3 y4 y5 y6 y7 y8 y9 y10 a10 a4 a11 a12 a13 a5 a14 a15 y11 a16 a17 a18 a19 y12 y13 y14 a20 a21 y15 y16 a22 a23 a24 r_47 r_48 r_49 r_50 a6 a7 a25 y21), (mp_arI E a1 0 4 f0), (mp_arI E a2 0 4 f1), (mp_arL E a3 240 f2), (mp_arI E a4 0 25 f3), (mp_arI E a5 0 300 f4)] 0 0 := by
      intro d_81
      induction d_81 using Nat.strongRecOn with
      | ind d_81 ih_82 =>
        intro i_69 i_70 i_71 g_72 g_73 l_74 u_75 l_76 u_77 x_78 x_79 hm_83
        refine mp_run mp_k_cX10_weigh_ok hF mp_tabX10_ok [mp_i (.iload 6), mp_c (.bipush 10) 10, mp_h (.if_icmp .gt 44) [84]] (by decide +kernel) ?_
        refine And.intro (fun c_84 => ?_) (fun c_84 => ?_)
        · have c_84 : 10 < i_69.toInt := c_84
          let w6_ : va_W := [(mp_arI E a6 0 12 g_72), (mp_arI E a7 0 12 g_73), (mp_ob10 a0 0 a1 a2 a3 a8 a9 y1 y2 y3 y4 y5 y6 y7 y8 y9 y10 a10 a4 a11 a12 a13 a5 a14 a15 y11 a16 a17 a18 a19 y12 y13 y14 a20 a21 y15 y16 a22 a23 a24 r_47 r_48 r_49 r_50 a6 a7 a25 y21), (mp_arI E a1 0 4 f0), (mp_arI E a2 0 4 f1), (mp_arL E a3 240 f2), (mp_arI E a4 0 25 f3), (mp_arI E a5 0 300 f4)]
          show mp_W E X 8 84 [(6, .int i_69), (5, .int i_70), (4, .int i_71), (3, .int 0), (0, .ref a0), (1, .int x0), (2, .int x1)] [] w6_ 0 0
          refine mp_run mp_k_cX10_weigh_ok hF mp_tabX10_ok [mp_i (.iload 4)] (by decide +kernel) ?_
          show mp_W E X 8 86 [(6, .int i_69), (5, .int i_70), (4, .int i_71), (3, .int 0), (0, .ref a0), (1, .int x0), (2, .int x1)] [.int i_71] w6_ 0 0
          exact mp_iret hF hQ rfl rfl (Nat.le_of_ble_eq_true rfl) (Nat.le_of_ble_eq_true rfl) [2, 3, 4, 5, 6, 7, 0, 1] (w' := [(mp_ob10 a0 0 a1 a2 a3 a8 a9 y1 y2 y3 y4 y5 y6 y7 y8 y9 y10 a10 a4 a11 a12 a13 a5 a14 a15 y11 a16 a17 a18 a19 y12 y13 y14 a20 a21 y15 y16 a22 a23 a24 r_47 r_48 r_49 r_50 a6 a7 a25 y21), (mp_arI E a1 0 4 f0), (mp_arI E a2 0 4 f1), (mp_arL E a3 240 f2), (mp_arI E a4 0 25 f3), (mp_arI E a5 0 300 f4), (mp_arI E a6 0 12 g_72), (mp_arI E a7 0 12 g_73)]) rfl rfl (Or.inr (Or.inl ⟨r_47, r_48, r_49, r_50, g_72, g_73, i_71, rfl, (by first | omega | decide), (by first | omega | decide), (by first | omega | decide), l_51, u_52, l_76, u_77, x_14, x_15, ⟨i_70.toInt, by have k9 := x_78; rw [show (i_69.toInt - 1).toNat = 10 from by omega] at k9; exact k9⟩, rfl⟩)) (by first | exact mp_fd_ok mp_k_cX10_weigh_ok (by decide +kernel) | decide +kernel)
        · have c_84 : i_69.toInt ≤ 10 := c_84
          let w7_ : va_W := [(mp_arI E a6 0 12 g_72), (mp_arI E a7 0 12 g_73), (mp_ob10 a0 0 a1 a2 a3 a8 a9 y1 y2 y3 y4 y5 y6 y7 y8 y9 y10 a10 a4 a11 a12 a13 a5 a14 a15 y11 a16 a17 a18 a19 y12 y13 y14 a20 a21 y15 y16 a22 a23 a24 r_47 r_48 r_49 r_50 a6 a7 a25 y21), (mp_arI E a1 0 4 f0), (mp_arI E a2 0 4 f1), (mp_arL E a3 240 f2), (mp_arI E a4 0 25 f3), (mp_arI E a5 0 300 f4)]
          show mp_W E X 8 43 [(6, .int i_69), (5, .int i_70), (4, .int i_71), (3, .int 0), (0, .ref a0), (1, .int x0), (2, .int x1)] [] w7_ 0 0
          refine mp_run mp_k_cX10_weigh_ok hF mp_tabX10_ok [mp_i (.aload_n 0), mp_i (.iload_n 1), mp_i (.iload_n 2), mp_i (.iload 6)] (by decide +kernel) ?_
          show mp_W E X 8 48 [(6, .int i_69), (5, .int i_70), (4, .int i_71), (3, .int 0), (0, .ref a0), (1, .int x0), (2, .int x1)] [.int i_69, .int x1, .int x0, .ref a0] w7_ 0 0
          refine mp_callV hF (As := [.int x0, .int x1, .int i_69]) (rest := []) (wr := []) (bX10_worstOf_142 E a0 a1 a2 a3 a4 a5 a6 a7 a8 a9 a10 a11 a12 a13 a14 a15 a16 a17 a18 a19 a20 a21 a22 a23 a24 a25 f0 f1 f2 f3 f4 g_72 g_73 0 y1 y2 y3 y4 y5 y6 y7 y8 y9 y10 y11 y12 y13 y14 y15 y16 r_47 r_48 r_49 r_50 y21 x0 x1 i_69 p0 p1 p2 p3 p4 p5 p6 p7 p8 p9 (by omega) (by omega) (by omega) (by omega) (by omega) (by omega) l_y1 u_y1 l_y2 u_y2 l_y3 u_y3 l_y4 u_y4 l_y11 u_y11 l_y12 u_y12 l_y13 u_y13 (by first | assumption | omega) (by assumption) (by assumption) (by first | assumption | (have k9 := q0 x1.toInt.toNat (by omega); omega)) (by first | assumption | omega)) mp_lkX10_438 2 rfl [2, 3, 4, 5, 6, 7, 0, 1] [] rfl rfl rfl rfl rfl ⟨(Nat.le_of_ble_eq_true rfl), (Nat.le_of_ble_eq_true rfl), (Nat.le_of_ble_eq_true rfl), (Nat.le_of_ble_eq_true rfl)⟩ (Nat.le_of_ble_eq_true rfl) (by first | exact mp_fd_ok mp_k_cX10_weigh_ok (by decide +kernel) | decide +kernel) (fun v_85 w_86 h_87 => ?_)
          refine h_87.elim fun g_88 q_93 => q_93.elim fun g_89 q_94 => q_94.elim fun r_90 q_95 => q_95.elim fun e_96 q_97 => q_97.elim fun l_91 q_98 => q_98.elim fun x_92 e_99 => ?_
          clear h_87 q_93 q_94 q_95 q_97 q_98
          subst e_96
          subst e_99
          let w8_ : va_W := [(mp_ob10 a0 0 a1 a2 a3 a8 a9 y1 y2 y3 y4 y5 y6 y7 y8 y9 y10 a10 a4 a11 a12 a13 a5 a14 a15 y11 a16 a17 a18 a19 y12 y13 y14 a20 a21 y15 y16 a22 a23 a24 r_47 r_48 r_49 r_50 a6 a7 a25 y21), (mp_arI E a1 0 4 f0), (mp_arI E a2 0 4 f1), (mp_arL E a3 240 f2), (mp_arI E a4 0 25 f3), (mp_arI E a5 0 300 f4), (mp_arI E a6 0 12 g_88), (mp_arI E a7 0 12 g_89)]
          show mp_W E X 8 51 [(6, .int i_69), (5, .int i_70), (4, .int i_71), (3, .int 0), (0, .ref a0), (1, .int x0), (2, .int x1)] [.int r_90] w8_ 0 0
          refine mp_run mp_k_cX10_weigh_ok hF mp_tabX10_ok [mp_i (.istore 7), mp_i (.iload 7), mp_i (.iload 5), mp_h (.if_icmp .lt 6) [63]] (by decide +kernel) ?_
          refine And.intro (fun c_100 => ?_) (fun c_100 => ?_)
          · have c_100 : r_90.toInt < i_70.toInt := c_100
            show mp_W E X 8 63 [(7, .int r_90), (6, .int i_69), (5, .int i_70), (4, .int i_71), (3, .int 0), (0, .ref a0), (1, .int x0), (2, .int x1)] [] w8_ 0 0
            refine mp_run mp_k_cX10_weigh_ok hF mp_tabX10_ok [mp_i (.aload_n 0), mp_i (.iload_n 2), mp_c (.iconst 3) 3] (by decide +kernel) ?_
            show mp_W E X 8 66 [(7, .int r_90), (6, .int i_69), (5, .int i_70), (4, .int i_71), (3, .int 0), (0, .ref a0), (1, .int x0), (2, .int x1)] [.int 3, .int x1, .ref a0] w8_ 0 0
            refine mp_callV hF (As := [.int x1, .int 3]) (rest := []) (wr := [(mp_arI E a1 0 4 f0), (mp_arI E a2 0 4 f1), (mp_arL E a3 240 f2), (mp_arI E a4 0 25 f3), (mp_arI E a6 0 12 g_88), (mp_arI E a7 0 12 g_89)]) (bX10_of_63 E a0 a5 a1 a2 a3 a8 a9 a10 a4 a11 a12 a13 a14 a15 a16 a17 a18 a19 a20 a21 a22 a23 a24 a6 a7 a25 f4 0 y1 y2 y3 y4 y5 y6 y7 y8 y9 y10 y11 y12 y13 y14 y15 y16 r_47 r_48 r_49 r_50 y21 x1 p6 p7 p8 p9 (by omega) (by omega) l_y1 u_y1 l_y2 u_y2 l_y3 u_y3 l_y4 u_y4 l_y11 u_y11 l_y12 u_y12 l_y13 u_y13) mp_lkX10_267 0 rfl [0, 5] [1, 2, 3, 4, 6, 7] rfl rfl rfl rfl rfl ⟨(Nat.le_of_ble_eq_true rfl), (Nat.le_of_ble_eq_true rfl), (Nat.le_of_ble_eq_true rfl), (Nat.le_of_ble_eq_true rfl)⟩ (Nat.le_of_ble_eq_true rfl) (by first | exact mp_fd_ok mp_k_cX10_weigh_ok (by decide +kernel) | decide +kernel) (fun v_101 w_102 h_103 => ?_)
            refine h_103.elim fun r_104 q_108 => q_108.elim fun e_109 q_110 => q_110.elim fun l_105 q_111 => q_111.elim fun u_106 q_112 => q_112.elim fun x_107 e_113 => ?_
            clear h_103 q_108 q_110 q_111 q_112
            subst e_109
            subst e_113
            let w9_ : va_W := [(mp_arI E a1 0 4 f0), (mp_arI E a2 0 4 f1), (mp_arL E a3 240 f2), (mp_arI E a4 0 25 f3), (mp_arI E a6 0 12 g_88), (mp_arI E a7 0 12 g_89), (mp_ob10 a0 0 a1 a2 a3 a8 a9 y1 y2 y3 y4 y5 y6 y7 y8 y9 y10 a10 a4 a11 a12 a13 a5 a14 a15 y11 a16 a17 a18 a19 y12 y13 y14 a20 a21 y15 y16 a22 a23 a24 r_47 r_48 r_49 r_50 a6 a7 a25 y21), (mp_arI E a5 0 300 f4)]
            show mp_W E X 8 69 [(7, .int r_90), (6, .int i_69), (5, .int i_70), (4, .int i_71), (3, .int 0), (0, .ref a0), (1, .int x0), (2, .int x1)] [.int r_104] w9_ 0 0
            refine mp_run mp_k_cX10_weigh_ok hF mp_tabX10_ok [mp_i (.iload 6), mp_i .iadd, mp_i (.istore 4), mp_i (.iload 7), mp_i (.istore 5), mp_c (.iinc 6 1) 1, mp_h (.goto (-45)) [36]] (by decide +kernel) ?_
            intro z_114 h_115
            have e_116 : z_114.toInt = r_104.toInt + i_69.toInt := mp_add (a := r_104.toInt) (b := i_69.toInt) h_115 rfl rfl (by omega) (by omega)
            intro z_117 h_118
            have e_119 : z_117.toInt = i_69.toInt + 1 := mp_add (a := i_69.toInt) (b := 1) h_118 rfl (by decide) (by omega) (by omega)
            show mp_W E X 8 36 [(6, .int z_117), (5, .int r_90), (4, .int z_114), (7, .int r_90), (3, .int 0), (0, .ref a0), (1, .int x0), (2, .int x1)] [] w9_ 0 0
            exact mp_sub [0, 1, 2, 4, 5, 6, 7] rfl [4, 5, 6, 0, 1, 2, 3, 7] rfl rfl (ih_82 (d_81 - 1) (by omega) z_117 r_90 z_114 g_88 g_89 (by omega) (by omega) (by omega) (by omega) (mp_BM_s x_78 (by have k9 := x_92; rw [show i_69.toInt.toNat = (i_69.toInt - 1).toNat + 1 from by omega] at k9; exact k9) (Or.inl ⟨by omega, by omega, rfl⟩) (by omega)) (by omega) (by omega))
          · have c_100 : i_70.toInt ≤ r_90.toInt := c_100
            show mp_W E X 8 60 [(7, .int r_90), (6, .int i_69), (5, .int i_70), (4, .int i_71), (3, .int 0), (0, .ref a0), (1, .int x0), (2, .int x1)] [] w8_ 0 0
            refine mp_run mp_k_cX10_weigh_ok hF mp_tabX10_ok [mp_h (.goto 18) [78], mp_c (.iinc 6 1) 1, mp_h (.goto (-45)) [36]] (by decide +kernel) ?_
            intro z_120 h_121
            have e_122 : z_120.toInt = i_69.toInt + 1 := mp_add (a := i_69.toInt) (b := 1) h_121 rfl (by decide) (by omega) (by omega)
            show mp_W E X 8 36 [(6, .int z_120), (7, .int r_90), (5, .int i_70), (4, .int i_71), (3, .int 0), (0, .ref a0), (1, .int x0), (2, .int x1)] [] w8_ 0 0
            exact mp_sub [0, 2, 3, 4, 5, 6, 7] rfl [6, 7, 0, 1, 2, 3, 4, 5] rfl rfl (ih_82 (d_81 - 1) (by omega) z_120 i_70 i_71 g_88 g_89 (by omega) (by omega) l_76 u_77 (mp_BM_s x_78 (by have k9 := x_92; rw [show i_69.toInt.toNat = (i_69.toInt - 1).toNat + 1 from by omega] at k9; exact k9) (Or.inr ⟨by omega, rfl, rfl⟩) (by omega)) (by omega) (by omega))
    exact mp_sub [0, 1, 2, 3, 4, 5, 6] rfl [0, 1, 2, 3, 4, 5, 6, 7] rfl rfl (lp_80 _ 1 r_47 (-1) f5 f6 (by decide) (by decide) (by decide) (by decide) (by rw [x_53]; exact mp_BM_0) (by have i0 : (0 : Int32).toInt = 0 := rfl; have i1 : (1 : Int32).toInt = 1 := rfl; omega) (Int.self_le_toNat _))
  · skip
    refine q_24.elim fun e_123 q_124 => q_124.elim fun c_17 q_125 => q_125.elim fun c_18 q_126 => q_126.elim fun c_19 q_127 => q_127.elim fun x_20 e_128 => ?_
    clear h_3 q_22 q_24 q_124 q_125 q_126 q_127
    subst e_123
    subst e_128
    have c_17 : 0 ≤ x0.toInt := c_17
    have c_18 : x0.toInt ≤ 3 := c_18
    have c_19 : 0 ≤ x1.toInt := c_19
    let w10_ : va_W := [(mp_arI E a6 0 12 f5), (mp_arI E a7 0 12 f6), (mp_ob10 a0 0 a1 a2 a3 a8 a9 y1 y2 y3 y4 y5 y6 y7 y8 y9 y10 a10 a4 a11 a12 a13 a5 a14 a15 y11 a16 a17 a18 a19 y12 y13 y14 a20 a21 y15 y16 a22 a23 a24 y17 y18 y19 y20 a6 a7 a25 y21), (mp_arI E a1 0 4 f0), (mp_arI E a2 0 4 f1), (mp_arL E a3 240 f2), (mp_arI E a4 0 25 f3), (mp_arI E a5 0 300 f4)]
    show mp_W E X 8 11 [(0, .ref a0), (1, .int x0), (2, .int x1)] [.int (-6)] w10_ 0 0
    refine mp_run mp_k_cX10_weigh_ok hF mp_tabX10_ok [mp_i (.istore_n 3), mp_i (.iload_n 3), mp_h (.ifCond .eq 5) [18]] (by decide +kernel) ?_
    refine And.intro (fun c_129 => absurd c_129 (by decide)) (fun _ => ?_)
    show mp_W E X 8 16 [(3, .int (-6)), (0, .ref a0), (1, .int x0), (2, .int x1)] [] w10_ 0 0
    refine mp_run mp_k_cX10_weigh_ok hF mp_tabX10_ok [mp_i (.iload_n 3)] (by decide +kernel) ?_
    show mp_W E X 8 17 [(3, .int (-6)), (0, .ref a0), (1, .int x0), (2, .int x1)] [.int (-6)] w10_ 0 0
    exact mp_iret hF hQ rfl rfl (Nat.le_of_ble_eq_true rfl) (Nat.le_of_ble_eq_true rfl) [2, 3, 4, 5, 6, 7, 0, 1] (w' := w2_) rfl rfl (Or.inr (Or.inr ⟨rfl, (by first | omega | decide), (by first | omega | decide), (by first | omega | decide), x_20, rfl⟩)) (by first | exact mp_fd_ok mp_k_cX10_weigh_ok (by decide +kernel) | decide +kernel)
set_option maxHeartbeats 4000000 in
set_option maxRecDepth 100000 in
theorem bX10_said_144 (E : mp_E) (a0 a1 a2 a3 a4 a5 a6 a7 a8 a9 a10 a11 a12 a13 a14 a15 a16 a17 a18 a19 a20 a21 a22 a23 a24 a25 : Nat) (f0 : Nat → Int32) (f1 : Nat → Int32) (f2 : Nat → Int64) (f3 : Nat → Int32) (f4 : Nat → Int32) (y0 : Int32) (y1 : Int32) (y2 : Int32) (y3 : Int32) (y4 : Int32) (y5 : Int32) (y6 : Int64) (y7 : Int32) (y8 : Int32) (y9 : Int32) (y10 : Int32) (y11 : Int32) (y12 : Int32) (y13 : Int32) (y14 : Int32) (y15 : Int32) (y16 : Int32) (y17 : Int32) (y18 : Int32) (y19 : Int32) (y20 : Int32) (y21 : Int32) (x0 : Int32) (x1 : Int32) (p0 : mp_all f1 4 0 60) (p1 : mp_res f3 25 5 0 0 6) (p2 : mp_res f3 25 5 1 0 99) (p3 : mp_res f3 25 5 2 0 6) (p4 : mp_res f3 25 5 3 0 10) (p5 : mp_res f3 25 5 4 0 60) (p6 : mp_res f4 300 6 0 0 5) (p7 : mp_res f4 300 6 1 0 5) (p8 : mp_res f4 300 6 3 0 99) (p9 : mp_res f4 300 6 4 0 1) (l_y1 : 0 ≤ y1.toInt) (u_y1 : y1.toInt ≤ 1600) (l_y2 : 0 ≤ y2.toInt) (u_y2 : y2.toInt ≤ 1600) (l_y3 : 0 ≤ y3.toInt) (u_y3 : y3.toInt ≤ 4) (l_y4 : 0 ≤ y4.toInt) (u_y4 : y4.toInt ≤ 1600) (l_y11 : 0 ≤ y11.toInt) (u_y11 : y11.toInt ≤ 99) (l_y12 : 0 ≤ y12.toInt) (u_y12 : y12.toInt ≤ 5) (l_y13 : 0 ≤ y13.toInt) (u_y13 : y13.toInt ≤ 12) (q0 : ∀ j : Nat, (j : Int) < (f3 3).toInt → 1 ≤ (f4 (6 * j + 2)).toInt ∧ (f4 (6 * j + 2)).toInt ≤ 1000000) : mp_Ct E yX10_said cX10_said 9 (some FieldType.int) 3 0 0 69 [.ref a0, .int x0, .int x1] [(mp_ob10 a0 y0 a1 a2 a3 a6 a7 y1 y2 y3 y4 y5 y6 y7 y8 y9 y10 a8 a4 a9 a10 a11 a5 a12 a13 y11 a14 a15 a16 a17 y12 y13 y14 a18 a19 y15 y16 a20 a21 a22 y17 y18 y19 y20 a23 a24 a25 y21), (mp_arI E a1 0 4 f0), (mp_arI E a2 0 4 f1), (mp_arL E a3 240 f2), (mp_arI E a4 0 25 f3), (mp_arI E a5 0 300 f4)] (fun v w' => (v = some (.int (-2)) ∧ ((x0.toInt < 0 ∨ 3 < x0.toInt ∨ x1.toInt < 0 ∨ (f3 3).toInt ≤ x1.toInt ∨ (0 ≤ x1.toInt ∧ x1.toInt < (f3 3).toInt ∧ (f4 (6 * x1.toInt.toNat + 5)).toInt ≠ -1)) ∨ (((0 ≤ x0.toInt ∧ x0.toInt ≤ 3) ∧ (0 ≤ x1.toInt ∧ x1.toInt < (f3 3).toInt) ∧ (f4 (6 * x1.toInt.toNat + 5)).toInt = -1) ∧ (f0 x0.toInt.toNat).toInt ≠ -1 ∧ ((f1 x0.toInt.toNat).toInt % 2 ≠ 0 ∨ ¬ mp_vd f2 x0.toInt ((f1 x0.toInt.toNat).toInt / 2).toNat (f4 (6 * x1.toInt.toNat + 3)).toInt))) ∧ w' = [(mp_ob10 a0 0 a1 a2 a3 a6 a7 y1 y2 y3 y4 y5 y6 y7 y8 y9 y10 a8 a4 a9 a10 a11 a5 a12 a13 y11 a14 a15 a16 a17 y12 y13 y14 a18 a19 y15 y16 a20 a21 a22 y17 y18 y19 y20 a23 a24 a25 y21), (mp_arI E a1 0 4 f0), (mp_arI E a2 0 4 f1), (mp_arL E a3 240 f2), (mp_arI E a4 0 25 f3), (mp_arI E a5 0 300 f4)]) ∨ (∃ r1 : Int32, v = some (.int r1) ∧ 0 ≤ x0.toInt ∧ x0.toInt ≤ 3 ∧ 0 ≤ x1.toInt ∧ ((0 ≤ x0.toInt ∧ x0.toInt ≤ 3) ∧ (0 ≤ x1.toInt ∧ x1.toInt < (f3 3).toInt) ∧ (f4 (6 * x1.toInt.toNat + 5)).toInt = -1 ∧ (f0 x0.toInt.toNat).toInt ≠ -1 ∧ (f1 x0.toInt.toNat).toInt % 2 = 0) ∧ (mp_vd f2 x0.toInt ((f1 x0.toInt.toNat).toInt / 2).toNat (f4 (6 * x1.toInt.toNat + 3)).toInt) ∧ (r1 = mp_bf (fun m => mp_FM f2 x0.toInt (f4 (6 * x1.toInt.toNat + 2)).toInt (f4 (6 * x1.toInt.toNat + 4)).toInt (m : Int) ((f1 x0.toInt.toNat).toInt / 2).toNat) 31) ∧ w' = [(mp_ob10 a0 0 a1 a2 a3 a6 a7 y1 y2 y3 y4 y5 y6 y7 y8 y9 y10 a8 a4 a9 a10 a11 a5 a12 a13 y11 a14 a15 a16 a17 y12 y13 y14 a18 a19 y15 y16 a20 a21 a22 y17 y18 y19 y20 a23 a24 a25 y21), (mp_arI E a1 0 4 f0), (mp_arI E a2 0 4 f1), (mp_arL E a3 240 f2), (mp_arI E a4 0 25 f3), (mp_arI E a5 0 300 f4)]) ∨ (v = some (.int (-6)) ∧ 0 ≤ x0.toInt ∧ x0.toInt ≤ 3 ∧ 0 ≤ x1.toInt ∧ ((0 ≤ x0.toInt ∧ x0.toInt ≤ 3) ∧ (0 ≤ x1.toInt ∧ x1.toInt < (f3 3).toInt) ∧ (f4 (6 * x1.toInt.toNat + 5)).toInt = -1 ∧ (f0 x0.toInt.toNat).toInt = -1) ∧ w' = [(mp_ob10 a0 0 a1 a2 a3 a6 a7 y1 y2 y3 y4 y5 y6 y7 y8 y9 y10 a8 a4 a9 a10 a11 a5 a12 a13 y11 a14 a15 a16 a17 y12 y13 y14 a18 a19 y15 y16 a20 a21 a22 y17 y18 y19 y20 a23 a24 a25 y21), (mp_arI E a1 0 4 f0), (mp_arI E a2 0 4 f1), (mp_arL E a3 240 f2), (mp_arI E a4 0 25 f3), (mp_arI E a5 0 300 f4)])) := by
  refine mp_met false (by decide) (by decide) (Nat.le_of_ble_eq_true rfl) (fun X hF hQ => ?_)
  have hF : mp_F E X (RX10, cX10_said, 9, (3, 0, 0, 69), (some FieldType.int), false) := hF
  let w1_ : va_W := [(mp_ob10 a0 y0 a1 a2 a3 a6 a7 y1 y2 y3 y4 y5 y6 y7 y8 y9 y10 a8 a4 a9 a10 a11 a5 a12 a13 y11 a14 a15 a16 a17 y12 y13 y14 a18 a19 y15 y16 a20 a21 a22 y17 y18 y19 y20 a23 a24 a25 y21), (mp_arI E a1 0 4 f0), (mp_arI E a2 0 4 f1), (mp_arL E a3 240 f2), (mp_arI E a4 0 25 f3), (mp_arI E a5 0 300 f4)]
  show mp_W E X 9 0 [(0, .ref a0), (1, .int x0), (2, .int x1)] [] w1_ 0 0
  refine mp_run mp_k_cX10_said_ok hF mp_tabX10_ok [mp_i (.aload_n 0), mp_c (.iconst 0) 0, mp_h (.putfield 92) [0, 0]] (by decide +kernel) ?_
  refine And.intro rfl (And.intro rfl (And.intro rfl (And.intro rfl (And.intro (Nat.le_of_ble_eq_true rfl) ?_))))
  let w2_ : va_W := [(mp_ob10 a0 0 a1 a2 a3 a6 a7 y1 y2 y3 y4 y5 y6 y7 y8 y9 y10 a8 a4 a9 a10 a11 a5 a12 a13 y11 a14 a15 a16 a17 y12 y13 y14 a18 a19 y15 y16 a20 a21 a22 y17 y18 y19 y20 a23 a24 a25 y21), (mp_arI E a1 0 4 f0), (mp_arI E a2 0 4 f1), (mp_arL E a3 240 f2), (mp_arI E a4 0 25 f3), (mp_arI E a5 0 300 f4)]
  show mp_W E X 9 5 [(0, .ref a0), (1, .int x0), (2, .int x1)] [] w2_ 0 0
  refine mp_run mp_k_cX10_said_ok hF mp_tabX10_ok [mp_i (.aload_n 0), mp_i (.iload_n 1), mp_i (.iload_n 2)] (by decide +kernel) ?_
  show mp_W E X 9 8 [(0, .ref a0), (1, .int x0), (2, .int x1)] [.int x1, .int x0, .ref a0] w2_ 0 0
  refine mp_callV hF (As := [.int x0, .int x1]) (rest := []) (wr := []) (bX10_whyNot_135 E a0 a1 a2 a3 a4 a5 a6 a7 a8 a9 a10 a11 a12 a13 a14 a15 a16 a17 a18 a19 a20 a21 a22 a23 a24 a25 f0 f1 f2 f3 f4 0 y1 y2 y3 y4 y5 y6 y7 y8 y9 y10 y11 y12 y13 y14 y15 y16 y17 y18 y19 y20 y21 x0 x1 p0 p1 p2 p3 p4 p5 p6 p7 p8 p9 l_y1 u_y1 l_y2 u_y2 l_y3 u_y3 l_y4 u_y4 l_y11 u_y11 l_y12 u_y12 l_y13 u_y13) mp_lkX10_432 0 rfl [0, 1, 2, 3, 4, 5] [] rfl rfl rfl rfl rfl ⟨(Nat.le_of_ble_eq_true rfl), (Nat.le_of_ble_eq_true rfl), (Nat.le_of_ble_eq_true rfl), (Nat.le_of_ble_eq_true rfl)⟩ (Nat.le_of_ble_eq_true rfl) (by first | exact mp_fd_ok mp_k_cX10_said_ok (by decide +kernel) | decide +kernel) (fun v_1 w_2 h_3 => ?_)
  refine h_3.elim (fun q_21 => ?_) (fun q_22 => q_22.elim (fun q_23 => ?_) (fun q_24 => ?_))
  · skip
    refine q_21.elim fun e_25 q_26 => q_26.elim fun x_4 e_27 => ?_
    clear h_3 q_21 q_26
    subst e_25
    subst e_27
    show mp_W E X 9 11 [(0, .ref a0), (1, .int x0), (2, .int x1)] [.int (-2)] w2_ 0 0
    refine mp_run mp_k_cX10_said_ok hF mp_tabX10_ok [mp_i (.istore_n 3), mp_i (.iload_n 3), mp_h (.ifCond .eq 5) [18]] (by decide +kernel) ?_
    refine And.intro (fun c_28 => absurd c_28 (by decide)) (fun _ => ?_)
    show mp_W E X 9 16 [(3, .int (-2)), (0, .ref a0), (1, .int x0), (2, .int x1)] [] w2_ 0 0
    refine mp_run mp_k_cX10_said_ok hF mp_tabX10_ok [mp_i (.iload_n 3)] (by decide +kernel) ?_
    show mp_W E X 9 17 [(3, .int (-2)), (0, .ref a0), (1, .int x0), (2, .int x1)] [.int (-2)] w2_ 0 0
    exact mp_iret hF hQ rfl rfl (Nat.le_of_ble_eq_true rfl) (Nat.le_of_ble_eq_true rfl) [0, 1, 2, 3, 4, 5] (w' := w2_) rfl rfl (Or.inl ⟨rfl, x_4, rfl⟩) (by first | exact mp_fd_ok mp_k_cX10_said_ok (by decide +kernel) | decide +kernel)
  · skip
    refine q_23.elim fun e_29 q_30 => q_30.elim fun c_5 q_31 => q_31.elim fun c_6 q_32 => q_32.elim fun c_7 q_33 => q_33.elim fun x_8 q_34 => q_34.elim fun x_9 q_35 => q_35.elim fun x_10 q_36 => q_36.elim fun x_11 q_37 => q_37.elim fun x_12 q_38 => q_38.elim fun x_13 q_39 => q_39.elim fun x_14 q_40 => q_40.elim fun x_15 q_41 => q_41.elim fun x_16 e_42 => ?_
    clear h_3 q_22 q_23 q_30 q_31 q_32 q_33 q_34 q_35 q_36 q_37 q_38 q_39 q_40 q_41
    subst e_29
    subst e_42
    have c_5 : 0 ≤ x0.toInt := c_5
    have c_6 : x0.toInt ≤ 3 := c_6
    have c_7 : 0 ≤ x1.toInt := c_7
    show mp_W E X 9 11 [(0, .ref a0), (1, .int x0), (2, .int x1)] [.int 0] w2_ 0 0
    refine mp_run mp_k_cX10_said_ok hF mp_tabX10_ok [mp_i (.istore_n 3), mp_i (.iload_n 3), mp_h (.ifCond .eq 5) [18]] (by decide +kernel) ?_
    refine And.intro (fun _ => ?_) (fun c_43 => absurd c_43 (by decide))
    show mp_W E X 9 18 [(3, .int 0), (0, .ref a0), (1, .int x0), (2, .int x1)] [] w2_ 0 0
    refine mp_run mp_k_cX10_said_ok hF mp_tabX10_ok [mp_c (.iconst 0) 0, mp_i (.istore 4), mp_c (.iconst 0) 0, mp_i (.istore 5)] (by decide +kernel) ?_
    show mp_W E X 9 24 [(5, .int 0), (4, .int 0), (3, .int 0), (0, .ref a0), (1, .int x0), (2, .int x1)] [] w2_ 0 0
    have lp_50 : ∀ (d_51 : Nat) (i_44 : Int32) (i_45 : Int32), 0 ≤ i_44.toInt → i_44.toInt ≤ 36 → (i_45 = mp_bf (fun m => mp_FM f2 x0.toInt (f4 (6 * x1.toInt.toNat + 2)).toInt (f4 (6 * x1.toInt.toNat + 4)).toInt (m : Int) ((f1 x0.toInt.toNat).toInt / 2).toNat) i_44.toInt.toNat) → (0 ≤ i_44.toInt ∧ i_44.toInt ≤ 31) → -(i_44.toInt) + 31 ≤ (d_51 : Int) → mp_W E X 9 24 [(5, .int i_44), (4, .int i_45), (3, .int 0), (0, .ref a0), (1, .int x0), (2, .int x1)] [] [(mp_ob10 a0 0 a1 a2 a3 a6 a7 y1 y2 y3 y4 y5 y6 y7 y8 y9 y10 a8 a4 a9 a10 a11 a5 a12 a13 y11 a14 a15 a16 a17 y12 y13 y14 a18 a19 y15 y16 a20 a21 a22 y17 y18 y19 y20 a23 a24 a25 y21), (mp_arI E a1 0 4 f0), (mp_arI E a2 0 4 f1), (mp_arL E a3 240 f2), (mp_arI E a4 0 25 f3), (mp_arI E a5 0 300 f4)] 0 0 := by
      intro d_51
      induction d_51 using Nat.strongRecOn with
      | ind d_51 ih_52 =>
        intro i_44 i_45 l_46 u_47 x_48 x_49 hm_53
        refine mp_run mp_k_cX10_said_ok hF mp_tabX10_ok [mp_i (.iload 5), mp_c (.bipush 30) 30, mp_h (.if_icmp .gt 124) [152]] (by decide +kernel) ?_
        refine And.intro (fun c_54 => ?_) (fun c_54 => ?_)
        · have c_54 : 30 < i_44.toInt := c_54
          show mp_W E X 9 152 [(5, .int i_44), (4, .int i_45), (3, .int 0), (0, .ref a0), (1, .int x0), (2, .int x1)] [] w2_ 0 0
          refine mp_run mp_k_cX10_said_ok hF mp_tabX10_ok [mp_i (.iload 4)] (by decide +kernel) ?_
          show mp_W E X 9 154 [(5, .int i_44), (4, .int i_45), (3, .int 0), (0, .ref a0), (1, .int x0), (2, .int x1)] [.int i_45] w2_ 0 0
          exact mp_iret hF hQ rfl rfl (Nat.le_of_ble_eq_true rfl) (Nat.le_of_ble_eq_true rfl) [0, 1, 2, 3, 4, 5] (w' := w2_) rfl rfl (Or.inr (Or.inl ⟨i_45, rfl, (by first | omega | decide), (by first | omega | decide), (by first | omega | decide), x_14, x_15, (by have k9 := x_48; rw [show i_44.toInt.toNat = 31 from by omega] at k9; exact k9), rfl⟩)) (by first | exact mp_fd_ok mp_k_cX10_said_ok (by decide +kernel) | decide +kernel)
        · have c_54 : i_44.toInt ≤ 30 := c_54
          show mp_W E X 9 31 [(5, .int i_44), (4, .int i_45), (3, .int 0), (0, .ref a0), (1, .int x0), (2, .int x1)] [] w2_ 0 0
          refine mp_run mp_k_cX10_said_ok hF mp_tabX10_ok [mp_c (.iconst 1) 1, mp_i (.istore 6), mp_c (.iconst 0) 0, mp_i (.istore 7)] (by decide +kernel) ?_
          show mp_W E X 9 37 [(7, .int 0), (6, .int 1), (5, .int i_44), (4, .int i_45), (3, .int 0), (0, .ref a0), (1, .int x0), (2, .int x1)] [] w2_ 0 0
          have lp_64 : ∀ (d_65 : Nat) (i_55 : Int32) (i_56 : Int32), 0 ≤ i_55.toInt → i_55.toInt ≤ 78 → 0 ≤ i_56.toInt → i_56.toInt ≤ 1 → (i_55.toInt % 2 = 0) → (0 ≤ i_55.toInt ∧ i_55.toInt ≤ (f1 x0.toInt.toNat).toInt) → ((i_56.toInt = 1 ∧ mp_FM f2 x0.toInt (f4 (6 * x1.toInt.toNat + 2)).toInt (f4 (6 * x1.toInt.toNat + 4)).toInt i_44.toInt (i_55.toInt / 2).toNat = true) ∨ (i_56.toInt = 0 ∧ mp_FM f2 x0.toInt (f4 (6 * x1.toInt.toNat + 2)).toInt (f4 (6 * x1.toInt.toNat + 4)).toInt i_44.toInt (i_55.toInt / 2).toNat = false)) → (f1 x0.toInt.toNat).toInt - i_55.toInt ≤ (d_65 : Int) → mp_W E X 9 37 [(7, .int i_55), (6, .int i_56), (5, .int i_44), (4, .int i_45), (3, .int 0), (0, .ref a0), (1, .int x0), (2, .int x1)] [] [(mp_ob10 a0 0 a1 a2 a3 a6 a7 y1 y2 y3 y4 y5 y6 y7 y8 y9 y10 a8 a4 a9 a10 a11 a5 a12 a13 y11 a14 a15 a16 a17 y12 y13 y14 a18 a19 y15 y16 a20 a21 a22 y17 y18 y19 y20 a23 a24 a25 y21), (mp_arI E a1 0 4 f0), (mp_arI E a2 0 4 f1), (mp_arL E a3 240 f2), (mp_arI E a4 0 25 f3), (mp_arI E a5 0 300 f4)] 0 0 := by
            intro d_65
            induction d_65 using Nat.strongRecOn with
            | ind d_65 ih_66 =>
              intro i_55 i_56 l_57 u_58 l_59 u_60 x_61 x_62 x_63 hm_67
              refine mp_run mp_k_cX10_said_ok hF mp_tabX10_ok [mp_i (.iload 7), mp_i (.aload_n 0), mp_h (.getfield 13) [2, 0], mp_i (.iload_n 1), mp_h .iaload [2], mp_h (.if_icmp .ge 83) [128]] (by decide +kernel) ?_
              refine And.intro rfl (And.intro rfl ?_)
              refine And.intro rfl (And.intro rfl (And.intro (vp_in_iff.mpr (by omega)) ?_))
              intro z_68 h_69
              have e_70 : 0 ≤ z_68.toInt ∧ z_68.toInt ≤ 60 := mp_all_ld h_69 p0 (by omega) (by omega)
              have e_71 : z_68.toInt = (f1 x0.toInt.toNat).toInt := congrArg Int32.toInt h_69
              have e_72 : z_68.toInt = (f1 x0.toInt.toNat).toInt := congrArg Int32.toInt h_69
              refine And.intro (fun c_73 => ?_) (fun c_73 => ?_)
              · have c_73 : z_68.toInt ≤ i_55.toInt := c_73
                show mp_W E X 9 128 [(7, .int i_55), (6, .int i_56), (5, .int i_44), (4, .int i_45), (3, .int 0), (0, .ref a0), (1, .int x0), (2, .int x1)] [] w2_ 0 0
                refine mp_run mp_k_cX10_said_ok hF mp_tabX10_ok [mp_i (.iload 4), mp_i (.iload 6), mp_h (.ifCond .eq 10) [142]] (by decide +kernel) ?_
                refine And.intro (fun c_74 => ?_) (fun c_74 => ?_)
                · have c_74 : i_56.toInt = 0 := (congrArg Int32.toInt c_74)
                  show mp_W E X 9 142 [(7, .int i_55), (6, .int i_56), (5, .int i_44), (4, .int i_45), (3, .int 0), (0, .ref a0), (1, .int x0), (2, .int x1)] [.int i_45] w2_ 0 0
                  refine mp_run mp_k_cX10_said_ok hF mp_tabX10_ok [mp_c (.iconst 0) 0, mp_i .ior, mp_i (.istore 4), mp_c (.iinc 5 1) 1, mp_h (.goto (-125)) [24]] (by decide +kernel) ?_
                  intro z_75 h_76
                  intro z_78 h_79
                  have e_80 : z_78.toInt = i_44.toInt + 1 := mp_add (a := i_44.toInt) (b := 1) h_79 rfl (by decide) (by omega) (by omega)
                  show mp_W E X 9 24 [(5, .int z_78), (4, .int z_75), (7, .int i_55), (6, .int i_56), (3, .int 0), (0, .ref a0), (1, .int x0), (2, .int x1)] [] w2_ 0 0
                  exact mp_sub [0, 1, 4, 5, 6, 7] rfl [0, 1, 2, 3, 4, 5] rfl rfl (ih_52 (d_51 - 1) (by omega) z_78 z_75 (by omega) (by omega) ((mp_or0 h_76).trans (mp_bf_f x_48 (show _ = false from (by have k9 := x_63; rw [show (i_55.toInt / 2).toNat = ((f1 x0.toInt.toNat).toInt / 2).toNat from by omega] at k9; rcases k9 with ⟨k8, k7⟩ | ⟨k8, k7⟩ <;> first | (rw [mp_FM_n (by omega)]; exact k7) | (exfalso; omega))) ⟨by omega, by omega⟩)) (by omega) (by omega))
                · have c_74 : i_56.toInt ≠ 0 := c_74
                  show mp_W E X 9 135 [(7, .int i_55), (6, .int i_56), (5, .int i_44), (4, .int i_45), (3, .int 0), (0, .ref a0), (1, .int x0), (2, .int x1)] [.int i_45] w2_ 0 0
                  refine mp_run mp_k_cX10_said_ok hF mp_tabX10_ok [mp_c (.iconst 1) 1, mp_i (.iload 5), mp_i .ishl, mp_h (.goto 4) [143], mp_i .ior, mp_i (.istore 4), mp_c (.iinc 5 1) 1, mp_h (.goto (-125)) [24]] (by decide +kernel) ?_
                  intro z_81 h_82
                  intro z_84 h_85
                  intro z_87 h_88
                  have e_89 : z_87.toInt = i_44.toInt + 1 := mp_add (a := i_44.toInt) (b := 1) h_88 rfl (by decide) (by omega) (by omega)
                  show mp_W E X 9 24 [(5, .int z_87), (4, .int z_84), (7, .int i_55), (6, .int i_56), (3, .int 0), (0, .ref a0), (1, .int x0), (2, .int x1)] [] w2_ 0 0
                  exact mp_sub [0, 1, 4, 5, 6, 7] rfl [0, 1, 2, 3, 4, 5] rfl rfl (ih_52 (d_51 - 1) (by omega) z_87 z_84 (by omega) (by omega) (mp_bf_t x_48 h_85 h_82 (show _ = true from (by have k9 := x_63; rw [show (i_55.toInt / 2).toNat = ((f1 x0.toInt.toNat).toInt / 2).toNat from by omega] at k9; rcases k9 with ⟨k8, k7⟩ | ⟨k8, k7⟩ <;> first | (rw [mp_FM_n (by omega)]; exact k7) | (exfalso; omega))) ⟨by omega, by omega⟩) (by omega) (by omega))
              · have c_73 : i_55.toInt < z_68.toInt := c_73
                show mp_W E X 9 48 [(7, .int i_55), (6, .int i_56), (5, .int i_44), (4, .int i_45), (3, .int 0), (0, .ref a0), (1, .int x0), (2, .int x1)] [] w2_ 0 0
                refine mp_run mp_k_cX10_said_ok hF mp_tabX10_ok [mp_i (.aload_n 0), mp_h (.getfield 16) [3, 0], mp_c (.bipush 60) 60, mp_i (.iload_n 1), mp_i .imul, mp_i (.iload 7), mp_i .iadd, mp_h .laload [3], mp_i .l2i, mp_i (.istore 8), mp_i (.iload 6), mp_h (.ifCond .eq 54) [119]] (by decide +kernel) ?_
                refine And.intro rfl (And.intro rfl ?_)
                intro z_90 h_91
                have e_92 : z_90.toInt = 60 * x0.toInt := mp_mul (a := 60) (b := x0.toInt) h_91 (by decide) rfl (by omega) (by omega)
                intro z_93 h_94
                have e_95 : z_93.toInt = z_90.toInt + i_55.toInt := mp_add (a := z_90.toInt) (b := i_55.toInt) h_94 rfl rfl (by omega) (by omega)
                refine And.intro rfl (And.intro rfl (And.intro (vp_in_iff.mpr (by omega)) ?_))
                intro z_96 h_97
                have e_98 := mp_res_at p8 (6 * x1.toInt.toNat + 3) (by omega) (by omega)
                have e_99 := mp_res_at p9 (6 * x1.toInt.toNat + 4) (by omega) (by omega)
                have pt_100 : z_96.toInt = mp_pt f2 x0.toInt (i_55.toInt / 2).toNat := mp_pt_at h_97 (by simp only [Int32.toNatClampNeg]; omega)
                have e_101 := x_15 (i_55.toInt / 2).toNat (by omega)
                intro z_102 h_103
                have e_104 : z_102.toInt = z_96.toInt := mp_l_32 h_103 ⟨by omega, by omega⟩
                refine And.intro (fun c_105 => ?_) (fun c_105 => ?_)
                · have c_105 : i_56.toInt = 0 := (congrArg Int32.toInt c_105)
                  show mp_W E X 9 119 [(8, .int z_102), (7, .int i_55), (6, .int i_56), (5, .int i_44), (4, .int i_45), (3, .int 0), (0, .ref a0), (1, .int x0), (2, .int x1)] [] w2_ 0 0
                  refine mp_run mp_k_cX10_said_ok hF mp_tabX10_ok [mp_c (.iconst 0) 0, mp_i (.istore 6), mp_c (.iinc 7 2) 2, mp_h (.goto (-88)) [37]] (by decide +kernel) ?_
                  intro z_106 h_107
                  have e_108 : z_106.toInt = i_55.toInt + 2 := mp_add (a := i_55.toInt) (b := 2) h_107 rfl (by decide) (by omega) (by omega)
                  show mp_W E X 9 37 [(7, .int z_106), (6, .int 0), (8, .int z_102), (5, .int i_44), (4, .int i_45), (3, .int 0), (0, .ref a0), (1, .int x0), (2, .int x1)] [] w2_ 0 0
                  exact mp_sub [0, 1, 3, 4, 5, 6, 7, 8] rfl [0, 1, 2, 3, 4, 5] rfl rfl (ih_66 (d_65 - 1) (by omega) z_106 0 (by omega) (by omega) (by decide) (by decide) (by omega) (by omega) (Or.inr ⟨rfl, (by rcases x_63 with k8 | k8; exact mp_FM_f1 pt_100 (by omega) (by omega); exact mp_FM_f0 k8.2 (by omega))⟩) (by omega))
                · have c_105 : i_56.toInt ≠ 0 := c_105
                  show mp_W E X 9 68 [(8, .int z_102), (7, .int i_55), (6, .int i_56), (5, .int i_44), (4, .int i_45), (3, .int 0), (0, .ref a0), (1, .int x0), (2, .int x1)] [] w2_ 0 0
                  refine mp_run mp_k_cX10_said_ok hF mp_tabX10_ok [mp_i (.iload 8), mp_i (.iload 5), mp_h (.if_icmp .lt 47) [119]] (by decide +kernel) ?_
                  refine And.intro (fun c_109 => ?_) (fun c_109 => ?_)
                  · have c_109 : z_102.toInt < i_44.toInt := c_109
                    show mp_W E X 9 119 [(8, .int z_102), (7, .int i_55), (6, .int i_56), (5, .int i_44), (4, .int i_45), (3, .int 0), (0, .ref a0), (1, .int x0), (2, .int x1)] [] w2_ 0 0
                    refine mp_run mp_k_cX10_said_ok hF mp_tabX10_ok [mp_c (.iconst 0) 0, mp_i (.istore 6), mp_c (.iinc 7 2) 2, mp_h (.goto (-88)) [37]] (by decide +kernel) ?_
                    intro z_110 h_111
                    have e_112 : z_110.toInt = i_55.toInt + 2 := mp_add (a := i_55.toInt) (b := 2) h_111 rfl (by decide) (by omega) (by omega)
                    show mp_W E X 9 37 [(7, .int z_110), (6, .int 0), (8, .int z_102), (5, .int i_44), (4, .int i_45), (3, .int 0), (0, .ref a0), (1, .int x0), (2, .int x1)] [] w2_ 0 0
                    exact mp_sub [0, 1, 3, 4, 5, 6, 7, 8] rfl [0, 1, 2, 3, 4, 5] rfl rfl (ih_66 (d_65 - 1) (by omega) z_110 0 (by omega) (by omega) (by decide) (by decide) (by omega) (by omega) (Or.inr ⟨rfl, (by rcases x_63 with k8 | k8; exact mp_FM_f1 pt_100 (by omega) (by omega); exact mp_FM_f0 k8.2 (by omega))⟩) (by omega))
                  · have c_109 : i_44.toInt ≤ z_102.toInt := c_109
                    show mp_W E X 9 75 [(8, .int z_102), (7, .int i_55), (6, .int i_56), (5, .int i_44), (4, .int i_45), (3, .int 0), (0, .ref a0), (1, .int x0), (2, .int x1)] [] w2_ 0 0
                    refine mp_run mp_k_cX10_said_ok hF mp_tabX10_ok [mp_i (.aload_n 0), mp_i (.iload_n 2), mp_c (.iconst 2) 2] (by decide +kernel) ?_
                    show mp_W E X 9 78 [(8, .int z_102), (7, .int i_55), (6, .int i_56), (5, .int i_44), (4, .int i_45), (3, .int 0), (0, .ref a0), (1, .int x0), (2, .int x1)] [.int 2, .int x1, .ref a0] w2_ 0 0
                    refine mp_callV hF (As := [.int x1, .int 2]) (rest := []) (wr := [(mp_arI E a1 0 4 f0), (mp_arI E a2 0 4 f1), (mp_arL E a3 240 f2), (mp_arI E a4 0 25 f3)]) (bX10_of_70 E a0 a5 a1 a2 a3 a6 a7 a8 a4 a9 a10 a11 a12 a13 a14 a15 a16 a17 a18 a19 a20 a21 a22 a23 a24 a25 f4 0 y1 y2 y3 y4 y5 y6 y7 y8 y9 y10 y11 y12 y13 y14 y15 y16 y17 y18 y19 y20 y21 x1 p6 p7 p8 p9 (by omega) (by omega) l_y1 u_y1 l_y2 u_y2 l_y3 u_y3 l_y4 u_y4 l_y11 u_y11 l_y12 u_y12 l_y13 u_y13) mp_lkX10_267 0 rfl [0, 5] [1, 2, 3, 4] rfl rfl rfl rfl rfl ⟨(Nat.le_of_ble_eq_true rfl), (Nat.le_of_ble_eq_true rfl), (Nat.le_of_ble_eq_true rfl), (Nat.le_of_ble_eq_true rfl)⟩ (Nat.le_of_ble_eq_true rfl) (by first | exact mp_fd_ok mp_k_cX10_said_ok (by decide +kernel) | decide +kernel) (fun v_113 w_114 h_115 => ?_)
                    obtain ⟨r_116, rfl, x_117, rfl⟩ := h_115
                    let w3_ : va_W := [(mp_arI E a1 0 4 f0), (mp_arI E a2 0 4 f1), (mp_arL E a3 240 f2), (mp_arI E a4 0 25 f3), (mp_ob10 a0 0 a1 a2 a3 a6 a7 y1 y2 y3 y4 y5 y6 y7 y8 y9 y10 a8 a4 a9 a10 a11 a5 a12 a13 y11 a14 a15 a16 a17 y12 y13 y14 a18 a19 y15 y16 a20 a21 a22 y17 y18 y19 y20 a23 a24 a25 y21), (mp_arI E a5 0 300 f4)]
                    show mp_W E X 9 81 [(8, .int z_102), (7, .int i_55), (6, .int i_56), (5, .int i_44), (4, .int i_45), (3, .int 0), (0, .ref a0), (1, .int x0), (2, .int x1)] [.int r_116] w3_ 0 0
                    refine mp_run mp_k_cX10_said_ok hF mp_tabX10_ok [mp_i (.iload 8), mp_i (.iload 5), mp_i .isub, mp_i (.aload_n 0), mp_i (.iload_n 2), mp_c (.iconst 4) 4] (by decide +kernel) ?_
                    intro z_118 h_119
                    have e_120 : z_118.toInt = z_102.toInt - i_44.toInt := mp_subi (a := z_102.toInt) (b := i_44.toInt) h_119 rfl rfl (by omega) (by omega)
                    show mp_W E X 9 89 [(8, .int z_102), (7, .int i_55), (6, .int i_56), (5, .int i_44), (4, .int i_45), (3, .int 0), (0, .ref a0), (1, .int x0), (2, .int x1)] [.int 4, .int x1, .ref a0, .int z_118, .int r_116] w3_ 0 0
                    refine mp_callV hF (As := [.int x1, .int 4]) (rest := [.int z_118, .int r_116]) (wr := [(mp_arI E a1 0 4 f0), (mp_arI E a2 0 4 f1), (mp_arL E a3 240 f2), (mp_arI E a4 0 25 f3)]) (bX10_of_65 E a0 a5 a1 a2 a3 a6 a7 a8 a4 a9 a10 a11 a12 a13 a14 a15 a16 a17 a18 a19 a20 a21 a22 a23 a24 a25 f4 0 y1 y2 y3 y4 y5 y6 y7 y8 y9 y10 y11 y12 y13 y14 y15 y16 y17 y18 y19 y20 y21 x1 p6 p7 p8 p9 (by omega) (by omega) l_y1 u_y1 l_y2 u_y2 l_y3 u_y3 l_y4 u_y4 l_y11 u_y11 l_y12 u_y12 l_y13 u_y13) mp_lkX10_267 4 rfl [4, 5] [0, 1, 2, 3] rfl rfl rfl rfl rfl ⟨(Nat.le_of_ble_eq_true rfl), (Nat.le_of_ble_eq_true rfl), (Nat.le_of_ble_eq_true rfl), (Nat.le_of_ble_eq_true rfl)⟩ (Nat.le_of_ble_eq_true rfl) (by first | exact mp_fd_ok mp_k_cX10_said_ok (by decide +kernel) | decide +kernel) (fun v_121 w_122 h_123 => ?_)
                    refine h_123.elim fun r_124 q_128 => q_128.elim fun e_129 q_130 => q_130.elim fun l_125 q_131 => q_131.elim fun u_126 q_132 => q_132.elim fun x_127 e_133 => ?_
                    clear h_123 q_128 q_130 q_131 q_132
                    subst e_129
                    subst e_133
                    show mp_W E X 9 92 [(8, .int z_102), (7, .int i_55), (6, .int i_56), (5, .int i_44), (4, .int i_45), (3, .int 0), (0, .ref a0), (1, .int x0), (2, .int x1)] [.int r_124, .int z_118, .int r_116] w3_ 0 0
                    refine mp_run mp_k_cX10_said_ok hF mp_tabX10_ok [mp_i .iadd] (by decide +kernel) ?_
                    intro z_134 h_135
                    have e_136 : z_134.toInt = z_118.toInt + r_124.toInt := mp_add (a := z_118.toInt) (b := r_124.toInt) h_135 rfl rfl (by omega) (by omega)
                    show mp_W E X 9 93 [(8, .int z_102), (7, .int i_55), (6, .int i_56), (5, .int i_44), (4, .int i_45), (3, .int 0), (0, .ref a0), (1, .int x0), (2, .int x1)] [.int z_134, .int r_116] w3_ 0 0
                    refine mp_callS hF (As := [.int r_116, .int z_134]) (rest := []) (wr := w3_) (bX10_halved_71 E r_116 z_134) mp_lkX10_285 [] [0, 1, 2, 3, 4, 5] rfl rfl rfl rfl rfl ⟨(Nat.le_of_ble_eq_true rfl), (Nat.le_of_ble_eq_true rfl), (Nat.le_of_ble_eq_true rfl), (Nat.le_of_ble_eq_true rfl)⟩ (Nat.le_of_ble_eq_true rfl) (by first | exact mp_fd_ok mp_k_cX10_said_ok (by decide +kernel) | decide +kernel) (fun v_137 w_138 h_139 => ?_)
                    obtain ⟨r_140, rfl, x_141, rfl⟩ := h_139
                    show mp_W E X 9 96 [(8, .int z_102), (7, .int i_55), (6, .int i_56), (5, .int i_44), (4, .int i_45), (3, .int 0), (0, .ref a0), (1, .int x0), (2, .int x1)] [.int r_140] w3_ 0 0
                    refine mp_run mp_k_cX10_said_ok hF mp_tabX10_ok [mp_i .i2l, mp_i (.aload_n 0), mp_h (.getfield 16) [3, 4], mp_c (.bipush 60) 60, mp_i (.iload_n 1), mp_i .imul, mp_i (.iload 7), mp_i .iadd, mp_c (.iconst 1) 1, mp_i .iadd, mp_h .laload [2], mp_i .lcmp, mp_h (.ifCond .ne 7) [119]] (by decide +kernel) ?_
                    intro z_142 h_143
                    have e_144 : z_142.toInt = r_140.toInt := mp_i2l h_143
                    refine And.intro rfl (And.intro rfl ?_)
                    intro z_145 h_146
                    have e_147 : z_145.toInt = 60 * x0.toInt := mp_mul (a := 60) (b := x0.toInt) h_146 (by decide) rfl (by omega) (by omega)
                    intro z_148 h_149
                    have e_150 : z_148.toInt = z_145.toInt + i_55.toInt := mp_add (a := z_145.toInt) (b := i_55.toInt) h_149 rfl rfl (by omega) (by omega)
                    intro z_151 h_152
                    have e_153 : z_151.toInt = z_148.toInt + 1 := mp_add (a := z_148.toInt) (b := 1) h_152 rfl (by decide) (by omega) (by omega)
                    refine And.intro rfl (And.intro rfl (And.intro (vp_in_iff.mpr (by omega)) ?_))
                    intro z_154 h_155
                    have pw_156 : z_154.toInt = mp_pw f2 x0.toInt (i_55.toInt / 2).toNat := mp_pw_at h_155 (by simp only [Int32.toNatClampNeg]; omega)
                    intro z_157 h_158
                    refine And.intro (fun c_159 => ?_) (fun c_159 => ?_)
                    · have c_159 : z_142.toInt ≠ z_154.toInt := mp_lc_ne h_158 c_159
                      show mp_W E X 9 119 [(8, .int z_102), (7, .int i_55), (6, .int i_56), (5, .int i_44), (4, .int i_45), (3, .int 0), (0, .ref a0), (1, .int x0), (2, .int x1)] [] w3_ 0 0
                      refine mp_run mp_k_cX10_said_ok hF mp_tabX10_ok [mp_c (.iconst 0) 0, mp_i (.istore 6), mp_c (.iinc 7 2) 2, mp_h (.goto (-88)) [37]] (by decide +kernel) ?_
                      intro z_160 h_161
                      have e_162 : z_160.toInt = i_55.toInt + 2 := mp_add (a := i_55.toInt) (b := 2) h_161 rfl (by decide) (by omega) (by omega)
                      show mp_W E X 9 37 [(7, .int z_160), (6, .int 0), (8, .int z_102), (5, .int i_44), (4, .int i_45), (3, .int 0), (0, .ref a0), (1, .int x0), (2, .int x1)] [] w3_ 0 0
                      exact mp_sub [0, 1, 3, 4, 5, 6, 7, 8] rfl [4, 0, 1, 2, 3, 5] rfl rfl (ih_66 (d_65 - 1) (by omega) z_160 0 (by omega) (by omega) (by decide) (by decide) (by omega) (by omega) (Or.inr ⟨rfl, mp_FM_f pt_100 pw_156 (Or.inr (by have k9 := (mp_hv_ce (W := (f4 (6 * x1.toInt.toNat + 2)).toInt) (k := (z_96.toInt - i_44.toInt + (f4 (6 * x1.toInt.toNat + 4)).toInt).toNat) x_141 (by omega) (by have k9 := q0 x1.toInt.toNat (by omega); omega) (by omega) (by omega)); omega)) (by omega)⟩) (by omega))
                    · have c_159 : z_142.toInt = z_154.toInt := mp_lc_eq h_158 c_159
                      show mp_W E X 9 115 [(8, .int z_102), (7, .int i_55), (6, .int i_56), (5, .int i_44), (4, .int i_45), (3, .int 0), (0, .ref a0), (1, .int x0), (2, .int x1)] [] w3_ 0 0
                      refine mp_run mp_k_cX10_said_ok hF mp_tabX10_ok [mp_c (.iconst 1) 1, mp_h (.goto 4) [120], mp_i (.istore 6), mp_c (.iinc 7 2) 2, mp_h (.goto (-88)) [37]] (by decide +kernel) ?_
                      intro z_163 h_164
                      have e_165 : z_163.toInt = i_55.toInt + 2 := mp_add (a := i_55.toInt) (b := 2) h_164 rfl (by decide) (by omega) (by omega)
                      show mp_W E X 9 37 [(7, .int z_163), (6, .int 1), (8, .int z_102), (5, .int i_44), (4, .int i_45), (3, .int 0), (0, .ref a0), (1, .int x0), (2, .int x1)] [] w3_ 0 0
                      exact mp_sub [0, 1, 3, 4, 5, 6, 7, 8] rfl [4, 0, 1, 2, 3, 5] rfl rfl (ih_66 (d_65 - 1) (by omega) z_163 1 (by omega) (by omega) (by decide) (by decide) (by omega) (by omega) (Or.inl ⟨rfl, mp_FM_t (by rcases x_63 with k8 | k8; (first | exact k8.2 | (exfalso; omega)); (first | exact k8.2 | (exfalso; omega))) pt_100 pw_156 (by omega) (by have k9 := (mp_hv_ce (W := (f4 (6 * x1.toInt.toNat + 2)).toInt) (k := (z_96.toInt - i_44.toInt + (f4 (6 * x1.toInt.toNat + 4)).toInt).toNat) x_141 (by omega) (by have k9 := q0 x1.toInt.toNat (by omega); omega) (by omega) (by omega)); omega) (by omega)⟩) (by omega))
          exact mp_sub [0, 1, 2, 3, 4, 5, 6, 7] rfl [0, 1, 2, 3, 4, 5] rfl rfl (lp_64 _ 0 1 (by decide) (by decide) (by decide) (by decide) (by decide) (by have i0 : (0 : Int32).toInt = 0 := rfl; have i1 : (1 : Int32).toInt = 1 := rfl; omega) (Or.inl ⟨rfl, rfl⟩) (Int.self_le_toNat _))
    exact mp_sub [0, 1, 2, 3, 4, 5] rfl [0, 1, 2, 3, 4, 5] rfl rfl (lp_50 _ 0 0 (by decide) (by decide) rfl (by have i0 : (0 : Int32).toInt = 0 := rfl; have i1 : (1 : Int32).toInt = 1 := rfl; omega) (Int.self_le_toNat _))
  · skip
    refine q_24.elim fun e_166 q_167 => q_167.elim fun c_17 q_168 => q_168.elim fun c_18 q_169 => q_169.elim fun c_19 q_170 => q_170.elim fun x_20 e_171 => ?_
    clear h_3 q_22 q_24 q_167 q_168 q_169 q_170
    subst e_166
    subst e_171
    have c_17 : 0 ≤ x0.toInt := c_17
    have c_18 : x0.toInt ≤ 3 := c_18
    have c_19 : 0 ≤ x1.toInt := c_19
    show mp_W E X 9 11 [(0, .ref a0), (1, .int x0), (2, .int x1)] [.int (-6)] w2_ 0 0
    refine mp_run mp_k_cX10_said_ok hF mp_tabX10_ok [mp_i (.istore_n 3), mp_i (.iload_n 3), mp_h (.ifCond .eq 5) [18]] (by decide +kernel) ?_
    refine And.intro (fun c_172 => absurd c_172 (by decide)) (fun _ => ?_)
    show mp_W E X 9 16 [(3, .int (-6)), (0, .ref a0), (1, .int x0), (2, .int x1)] [] w2_ 0 0
    refine mp_run mp_k_cX10_said_ok hF mp_tabX10_ok [mp_i (.iload_n 3)] (by decide +kernel) ?_
    show mp_W E X 9 17 [(3, .int (-6)), (0, .ref a0), (1, .int x0), (2, .int x1)] [.int (-6)] w2_ 0 0
    exact mp_iret hF hQ rfl rfl (Nat.le_of_ble_eq_true rfl) (Nat.le_of_ble_eq_true rfl) [0, 1, 2, 3, 4, 5] (w' := w2_) rfl rfl (Or.inr (Or.inr ⟨rfl, (by first | omega | decide), (by first | omega | decide), (by first | omega | decide), x_20, rfl⟩)) (by first | exact mp_fd_ok mp_k_cX10_said_ok (by decide +kernel) | decide +kernel)
