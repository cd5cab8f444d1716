set_option maxHeartbeats 4000000 in
set_option maxRecDepth 100000 in
theorem bX10_span_145 (E : mp_E) (a0 a1 a2 a3 a4 a5 a6 a7 a8 a9 a10 a11 a12 a13 a14 a15 a16 a17 a18 a19 a20 a21 a22 a23 a24 a25 : Nat) (f0 : Nat → Int32) (f1 : Nat → Int32) (f2 : Nat → Int64) (f3 : Nat → Int32) (f4 : Nat → Int32) (y0 : Int32) (y1 : Int32) (y2 : Int32) (y3 : Int32) (y4 : Int32) (y5 : Int32) (y6 : Int64) (y7 : Int32) (y8 : Int32) (y9 : Int32) (y10 : Int32) (y11 : Int32) (y12 : Int32) (y13 : Int32) (y14 : Int32) (y15 : Int32) (y16 : Int32) (y17 : Int32) (y18 : Int32) (y19 : Int32) (y20 : Int32) (y21 : Int32) (x0 : Int32) (x1 : Int32) (x2 : Int32) (p0 : mp_all f1 4 0 60) (p1 : mp_res f3 25 5 0 0 6) (p2 : mp_res f3 25 5 1 0 99) (p3 : mp_res f3 25 5 2 0 6) (p4 : mp_res f3 25 5 3 0 10) (p5 : mp_res f3 25 5 4 0 60) (p6 : mp_res f4 300 6 0 0 5) (p7 : mp_res f4 300 6 1 0 5) (p8 : mp_res f4 300 6 3 0 99) (p9 : mp_res f4 300 6 4 0 1) (l_y1 : 0 ≤ y1.toInt) (u_y1 : y1.toInt ≤ 1600) (l_y2 : 0 ≤ y2.toInt) (u_y2 : y2.toInt ≤ 1600) (l_y3 : 0 ≤ y3.toInt) (u_y3 : y3.toInt ≤ 4) (l_y4 : 0 ≤ y4.toInt) (u_y4 : y4.toInt ≤ 1600) (l_y11 : 0 ≤ y11.toInt) (u_y11 : y11.toInt ≤ 99) (l_y12 : 0 ≤ y12.toInt) (u_y12 : y12.toInt ≤ 5) (l_y13 : 0 ≤ y13.toInt) (u_y13 : y13.toInt ≤ 12) (q0 : ∀ j : Nat, (j : Int) < (f3 3).toInt → 1 ≤ (f4 (6 * j + 2)).toInt ∧ (f4 (6 * j + 2)).toInt ≤ 1000000) : mp_Ct E yX10_span cX10_span 15 (some FieldType.int) 3 0 0 69 [.ref a0, .int x0, .int x1, .int x2] [(mp_ob10 a0 y0 a1 a2 a3 a6 a7 y1 y2 y3 y4 y5 y6 y7 y8 y9 y10 a8 a4 a9 a10 a11 a5 a12 a13 y11 a14 a15 a16 a17 y12 y13 y14 a18 a19 y15 y16 a20 a21 a22 y17 y18 y19 y20 a23 a24 a25 y21), (mp_arI E a1 0 4 f0), (mp_arI E a2 0 4 f1), (mp_arL E a3 240 f2), (mp_arI E a4 0 25 f3), (mp_arI E a5 0 300 f4)] (fun v w' => (v = some (.int (-2)) ∧ ((x2.toInt ≠ 0 ∧ x2.toInt ≠ 1) ∨ (x0.toInt < 0 ∨ 3 < x0.toInt ∨ x1.toInt < 0 ∨ (f3 3).toInt ≤ x1.toInt ∨ (0 ≤ x1.toInt ∧ x1.toInt < (f3 3).toInt ∧ (f4 (6 * x1.toInt.toNat + 5)).toInt ≠ -1)) ∨ (((0 ≤ x0.toInt ∧ x0.toInt ≤ 3) ∧ (0 ≤ x1.toInt ∧ x1.toInt < (f3 3).toInt) ∧ (f4 (6 * x1.toInt.toNat + 5)).toInt = -1) ∧ (f0 x0.toInt.toNat).toInt ≠ -1 ∧ ((f1 x0.toInt.toNat).toInt % 2 ≠ 0 ∨ ¬ mp_vd f2 x0.toInt ((f1 x0.toInt.toNat).toInt / 2).toNat (f4 (6 * x1.toInt.toNat + 3)).toInt))) ∧ w' = [(mp_ob10 a0 0 a1 a2 a3 a6 a7 y1 y2 y3 y4 y5 y6 y7 y8 y9 y10 a8 a4 a9 a10 a11 a5 a12 a13 y11 a14 a15 a16 a17 y12 y13 y14 a18 a19 y15 y16 a20 a21 a22 y17 y18 y19 y20 a23 a24 a25 y21), (mp_arI E a1 0 4 f0), (mp_arI E a2 0 4 f1), (mp_arL E a3 240 f2), (mp_arI E a4 0 25 f3), (mp_arI E a5 0 300 f4)]) ∨ (∃ r1 : Int32, v = some (.int r1) ∧ 0 ≤ x2.toInt ∧ x2.toInt ≤ 1 ∧ 0 ≤ x0.toInt ∧ x0.toInt ≤ 3 ∧ 0 ≤ x1.toInt ∧ ((x2.toInt = 0 ∨ x2.toInt = 1)) ∧ ((0 ≤ x0.toInt ∧ x0.toInt ≤ 3) ∧ (0 ≤ x1.toInt ∧ x1.toInt < (f3 3).toInt) ∧ (f4 (6 * x1.toInt.toNat + 5)).toInt = -1 ∧ (f0 x0.toInt.toNat).toInt ≠ -1 ∧ (f1 x0.toInt.toNat).toInt % 2 = 0) ∧ (mp_vd f2 x0.toInt ((f1 x0.toInt.toNat).toInt / 2).toNat (f4 (6 * x1.toInt.toNat + 3)).toInt) ∧ (r1.toInt = mp_spA f2 x0.toInt (f4 (6 * x1.toInt.toNat + 3)).toInt (f4 (6 * x1.toInt.toNat + 4)).toInt ((f1 x0.toInt.toNat).toInt / 2).toNat x2.toInt) ∧ w' = [(mp_ob10 a0 0 a1 a2 a3 a6 a7 y1 y2 y3 y4 y5 y6 y7 y8 y9 y10 a8 a4 a9 a10 a11 a5 a12 a13 y11 a14 a15 a16 a17 y12 y13 y14 a18 a19 y15 y16 a20 a21 a22 y17 y18 y19 y20 a23 a24 a25 y21), (mp_arI E a1 0 4 f0), (mp_arI E a2 0 4 f1), (mp_arL E a3 240 f2), (mp_arI E a4 0 25 f3), (mp_arI E a5 0 300 f4)]) ∨ (v = some (.int (-6)) ∧ 0 ≤ x2.toInt ∧ x2.toInt ≤ 1 ∧ 0 ≤ x0.toInt ∧ x0.toInt ≤ 3 ∧ 0 ≤ x1.toInt ∧ ((x2.toInt = 0 ∨ x2.toInt = 1)) ∧ ((0 ≤ x0.toInt ∧ x0.toInt ≤ 3) ∧ (0 ≤ x1.toInt ∧ x1.toInt < (f3 3).toInt) ∧ (f4 (6 * x1.toInt.toNat + 5)).toInt = -1 ∧ (f0 x0.toInt.toNat).toInt = -1) ∧ w' = [(mp_ob10 a0 0 a1 a2 a3 a6 a7 y1 y2 y3 y4 y5 y6 y7 y8 y9 y10 a8 a4 a9 a10 a11 a5 a12 a13 y11 a14 a15 a16 a17 y12 y13 y14 a18 a19 y15 y16 a20 a21 a22 y17 y18 y19 y20 a23 a24 a25 y21), (mp_arI E a1 0 4 f0), (mp_arI E a2 0 4 f1), (mp_arL E a3 240 f2), (mp_arI E a4 0 25 f3), (mp_arI E a5 0 300 f4)])) := by
  refine mp_met false (by decide) (by decide) (Nat.le_of_ble_eq_true rfl) (fun X hF hQ => ?_)
  have hF : mp_F E X (RX10, cX10_span, 15, (3, 0, 0, 69), (some FieldType.int), false) := hF
  let w1_ : va_W := [(mp_ob10 a0 y0 a1 a2 a3 a6 a7 y1 y2 y3 y4 y5 y6 y7 y8 y9 y10 a8 a4 a9 a10 a11 a5 a12 a13 y11 a14 a15 a16 a17 y12 y13 y14 a18 a19 y15 y16 a20 a21 a22 y17 y18 y19 y20 a23 a24 a25 y21), (mp_arI E a1 0 4 f0), (mp_arI E a2 0 4 f1), (mp_arL E a3 240 f2), (mp_arI E a4 0 25 f3), (mp_arI E a5 0 300 f4)]
  show mp_W E X 15 0 [(0, .ref a0), (1, .int x0), (2, .int x1), (3, .int x2)] [] w1_ 0 0
  refine mp_run mp_k_cX10_span_ok hF mp_tabX10_ok [mp_i (.aload_n 0), mp_c (.iconst 0) 0, mp_h (.putfield 92) [0, 0]] (by decide +kernel) ?_
  refine And.intro rfl (And.intro rfl (And.intro rfl (And.intro rfl (And.intro (Nat.le_of_ble_eq_true rfl) ?_))))
  let w2_ : va_W := [(mp_ob10 a0 0 a1 a2 a3 a6 a7 y1 y2 y3 y4 y5 y6 y7 y8 y9 y10 a8 a4 a9 a10 a11 a5 a12 a13 y11 a14 a15 a16 a17 y12 y13 y14 a18 a19 y15 y16 a20 a21 a22 y17 y18 y19 y20 a23 a24 a25 y21), (mp_arI E a1 0 4 f0), (mp_arI E a2 0 4 f1), (mp_arL E a3 240 f2), (mp_arI E a4 0 25 f3), (mp_arI E a5 0 300 f4)]
  show mp_W E X 15 5 [(0, .ref a0), (1, .int x0), (2, .int x1), (3, .int x2)] [] w2_ 0 0
  refine mp_run mp_k_cX10_span_ok hF mp_tabX10_ok [mp_i (.iload_n 3), mp_i .i2l, mp_cl (.lconst 0) 0, mp_cl (.lconst 1) 1] (by decide +kernel) ?_
  intro z_1 h_2
  have e_3 : z_1.toInt = x2.toInt := mp_i2l h_2
  show mp_W E X 15 9 [(0, .ref a0), (1, .int x0), (2, .int x1), (3, .int x2)] [.long 1, .long 0, .long z_1] w2_ 0 0
  refine mp_callS hF (As := [.long z_1, .long 0, .long 1]) (rest := []) (wr := w2_) (bX10_in_0 E z_1 0 1) mp_lkX10_97 [] [0, 1, 2, 3, 4, 5] rfl rfl rfl rfl rfl ⟨(Nat.le_of_ble_eq_true rfl), (Nat.le_of_ble_eq_true rfl), (Nat.le_of_ble_eq_true rfl), (Nat.le_of_ble_eq_true rfl)⟩ (Nat.le_of_ble_eq_true rfl) (by first | exact mp_fd_ok mp_k_cX10_span_ok (by decide +kernel) | decide +kernel) (fun v_4 w_5 h_6 => ?_)
  rcases h_6 with ⟨rfl, x_7, rfl⟩ | ⟨rfl, c_8, c_9, rfl⟩
  · skip
    have i_10 : (0 : Int64).toInt = 0 := by decide
    have i_11 : (1 : Int64).toInt = 1 := by decide
    show mp_W E X 15 12 [(0, .ref a0), (1, .int x0), (2, .int x1), (3, .int x2)] [.int 0] w2_ 0 0
    refine mp_run mp_k_cX10_span_ok hF mp_tabX10_ok [mp_h (.ifCond .eq 12) [24]] (by decide +kernel) ?_
    refine And.intro (fun _ => ?_) (fun c_12 => absurd c_12 (by decide))
    show mp_W E X 15 24 [(0, .ref a0), (1, .int x0), (2, .int x1), (3, .int x2)] [] w2_ 0 0
    refine mp_run mp_k_cX10_span_ok hF mp_tabX10_ok [mp_c (.bipush (-2)) (-2), mp_i (.istore 4), mp_i (.iload 4), mp_h (.ifCond .eq 6) [36]] (by decide +kernel) ?_
    refine And.intro (fun c_13 => absurd c_13 (by decide)) (fun _ => ?_)
    show mp_W E X 15 33 [(4, .int (-2)), (0, .ref a0), (1, .int x0), (2, .int x1), (3, .int x2)] [] w2_ 0 0
    refine mp_run mp_k_cX10_span_ok hF mp_tabX10_ok [mp_i (.iload 4)] (by decide +kernel) ?_
    show mp_W E X 15 35 [(4, .int (-2)), (0, .ref a0), (1, .int x0), (2, .int x1), (3, .int x2)] [.int (-2)] w2_ 0 0
    exact mp_iret hF hQ rfl rfl (Nat.le_of_ble_eq_true rfl) (Nat.le_of_ble_eq_true rfl) [0, 1, 2, 3, 4, 5] (w' := w2_) rfl rfl (Or.inl ⟨rfl, (Or.inl (by have z0 : (0 : Int64).toInt = 0 := rfl; have z1 : (1 : Int64).toInt = 1 := rfl; (first | exact mp_o1788 i_10 i_11 e_3 x_7 | omega))), rfl⟩) (by first | exact mp_fd_ok mp_k_cX10_span_ok (by decide +kernel) | decide +kernel)
  · skip
    have c_8 : 0 ≤ z_1.toInt := c_8
    have c_9 : z_1.toInt ≤ 1 := c_9
    have i_14 : (0 : Int64).toInt = 0 := by decide
    have i_15 : (1 : Int64).toInt = 1 := by decide
    show mp_W E X 15 12 [(0, .ref a0), (1, .int x0), (2, .int x1), (3, .int x2)] [.int 1] w2_ 0 0
    refine mp_run mp_k_cX10_span_ok hF mp_tabX10_ok [mp_h (.ifCond .eq 12) [24]] (by decide +kernel) ?_
    refine And.intro (fun c_16 => absurd c_16 (by decide)) (fun _ => ?_)
    show mp_W E X 15 15 [(0, .ref a0), (1, .int x0), (2, .int x1), (3, .int x2)] [] w2_ 0 0
    refine mp_run mp_k_cX10_span_ok hF mp_tabX10_ok [mp_i (.aload_n 0), mp_i (.iload_n 1), mp_i (.iload_n 2)] (by decide +kernel) ?_
    show mp_W E X 15 18 [(0, .ref a0), (1, .int x0), (2, .int x1), (3, .int x2)] [.int x1, .int x0, .ref a0] w2_ 0 0
    refine mp_callV hF (As := [.int x0, .int x1]) (rest := []) (wr := []) (bX10_whyNot_135 E a0 a1 a2 a3 a4 a5 a6 a7 a8 a9 a10 a11 a12 a13 a14 a15 a16 a17 a18 a19 a20 a21 a22 a23 a24 a25 f0 f1 f2 f3 f4 0 y1 y2 y3 y4 y5 y6 y7 y8 y9 y10 y11 y12 y13 y14 y15 y16 y17 y18 y19 y20 y21 x0 x1 p0 p1 p2 p3 p4 p5 p6 p7 p8 p9 l_y1 u_y1 l_y2 u_y2 l_y3 u_y3 l_y4 u_y4 l_y11 u_y11 l_y12 u_y12 l_y13 u_y13) mp_lkX10_432 0 rfl [0, 1, 2, 3, 4, 5] [] rfl rfl rfl rfl rfl ⟨(Nat.le_of_ble_eq_true rfl), (Nat.le_of_ble_eq_true rfl), (Nat.le_of_ble_eq_true rfl), (Nat.le_of_ble_eq_true rfl)⟩ (Nat.le_of_ble_eq_true rfl) (by first | exact mp_fd_ok mp_k_cX10_span_ok (by decide +kernel) | decide +kernel) (fun v_17 w_18 h_19 => ?_)
    refine h_19.elim (fun q_37 => ?_) (fun q_38 => q_38.elim (fun q_39 => ?_) (fun q_40 => ?_))
    · skip
      refine q_37.elim fun e_41 q_42 => q_42.elim fun x_20 e_43 => ?_
      clear h_19 q_37 q_42
      subst e_41
      subst e_43
      show mp_W E X 15 21 [(0, .ref a0), (1, .int x0), (2, .int x1), (3, .int x2)] [.int (-2)] w2_ 0 0
      refine mp_run mp_k_cX10_span_ok hF mp_tabX10_ok [mp_h (.goto 5) [26], mp_i (.istore 4), mp_i (.iload 4), mp_h (.ifCond .eq 6) [36]] (by decide +kernel) ?_
      refine And.intro (fun c_44 => absurd c_44 (by decide)) (fun _ => ?_)
      show mp_W E X 15 33 [(4, .int (-2)), (0, .ref a0), (1, .int x0), (2, .int x1), (3, .int x2)] [] w2_ 0 0
      refine mp_run mp_k_cX10_span_ok hF mp_tabX10_ok [mp_i (.iload 4)] (by decide +kernel) ?_
      show mp_W E X 15 35 [(4, .int (-2)), (0, .ref a0), (1, .int x0), (2, .int x1), (3, .int x2)] [.int (-2)] w2_ 0 0
      exact mp_iret hF hQ rfl rfl (Nat.le_of_ble_eq_true rfl) (Nat.le_of_ble_eq_true rfl) [0, 1, 2, 3, 4, 5] (w' := w2_) rfl rfl (Or.inl ⟨rfl, (Or.inr x_20), rfl⟩) (by first | exact mp_fd_ok mp_k_cX10_span_ok (by decide +kernel) | decide +kernel)
    · skip
      refine q_39.elim fun e_45 q_46 => q_46.elim fun c_21 q_47 => q_47.elim fun c_22 q_48 => q_48.elim fun c_23 q_49 => q_49.elim fun x_24 q_50 => q_50.elim fun x_25 q_51 => q_51.elim fun x_26 q_52 => q_52.elim fun x_27 q_53 => q_53.elim fun x_28 q_54 => q_54.elim fun x_29 q_55 => q_55.elim fun x_30 q_56 => q_56.elim fun x_31 q_57 => q_57.elim fun x_32 e_58 => ?_
      clear h_19 q_38 q_39 q_46 q_47 q_48 q_49 q_50 q_51 q_52 q_53 q_54 q_55 q_56 q_57
      subst e_45
      subst e_58
      have c_21 : 0 ≤ x0.toInt := c_21
      have c_22 : x0.toInt ≤ 3 := c_22
      have c_23 : 0 ≤ x1.toInt := c_23
      show mp_W E X 15 21 [(0, .ref a0), (1, .int x0), (2, .int x1), (3, .int x2)] [.int 0] w2_ 0 0
      refine mp_run mp_k_cX10_span_ok hF mp_tabX10_ok [mp_h (.goto 5) [26], mp_i (.istore 4), mp_i (.iload 4), mp_h (.ifCond .eq 6) [36]] (by decide +kernel) ?_
      refine And.intro (fun _ => ?_) (fun c_59 => absurd c_59 (by decide))
      show mp_W E X 15 36 [(4, .int 0), (0, .ref a0), (1, .int x0), (2, .int x1), (3, .int x2)] [] w2_ 0 0
      refine mp_run mp_k_cX10_span_ok hF mp_tabX10_ok [mp_cl (.lconst 1) 1, mp_i (.lstore 5), mp_cl (.ldc2_w 412) 1000000, mp_i (.lstore 7), mp_c (.iconst 0) 0, mp_i (.istore 9)] (by decide +kernel) ?_
      show mp_W E X 15 47 [(9, .int 0), (7, .long 1000000), (5, .long 1), (4, .int 0), (0, .ref a0), (1, .int x0), (2, .int x1), (3, .int x2)] [] w2_ 0 0
      have lp_70 : ∀ (d_71 : Nat) (i_60 : Int32) (i_61 : Int64) (i_62 : Int64), 0 ≤ i_60.toInt → i_60.toInt ≤ 78 → 1 ≤ i_62.toInt → (i_60.toInt % 2 = 0) → (0 ≤ i_60.toInt ∧ i_60.toInt ≤ (f1 x0.toInt.toNat).toInt) → (i_62.toInt = mp_spL f2 x0.toInt (f4 (6 * x1.toInt.toNat + 3)).toInt (f4 (6 * x1.toInt.toNat + 4)).toInt (i_60.toInt / 2).toNat) → (i_61.toInt = mp_spH f2 x0.toInt (f4 (6 * x1.toInt.toNat + 3)).toInt (f4 (6 * x1.toInt.toNat + 4)).toInt (i_60.toInt / 2).toNat) → (f1 x0.toInt.toNat).toInt - i_60.toInt ≤ (d_71 : Int) → mp_W E X 15 47 [(9, .int i_60), (7, .long i_61), (5, .long i_62), (4, .int 0), (0, .ref a0), (1, .int x0), (2, .int x1), (3, .int x2)] [] [(mp_ob10 a0 0 a1 a2 a3 a6 a7 y1 y2 y3 y4 y5 y6 y7 y8 y9 y10 a8 a4 a9 a10 a11 a5 a12 a13 y11 a14 a15 a16 a17 y12 y13 y14 a18 a19 y15 y16 a20 a21 a22 y17 y18 y19 y20 a23 a24 a25 y21), (mp_arI E a1 0 4 f0), (mp_arI E a2 0 4 f1), (mp_arL E a3 240 f2), (mp_arI E a4 0 25 f3), (mp_arI E a5 0 300 f4)] 0 0 := by
        intro d_71
        induction d_71 using Nat.strongRecOn with
        | ind d_71 ih_72 =>
          intro i_60 i_61 i_62 l_63 u_64 l_65 x_66 x_67 x_68 x_69 hm_73
          refine mp_run mp_k_cX10_span_ok hF mp_tabX10_ok [mp_i (.iload 9), mp_i (.aload_n 0), mp_h (.getfield 13) [2, 0], mp_i (.iload_n 1), mp_h .iaload [2], mp_h (.if_icmp .ge 105) [160]] (by decide +kernel) ?_
          refine And.intro rfl (And.intro rfl ?_)
          refine And.intro rfl (And.intro rfl (And.intro (vp_in_iff.mpr (by (first | exact mp_o637 c_21 c_22 | omega))) ?_))
          intro z_74 h_75
          have e_76 : 0 ≤ z_74.toInt ∧ z_74.toInt ≤ 60 := mp_all_ld h_75 p0 (by (first | exact c_21 | omega)) (by (first | exact mp_o638 c_22 | omega))
          have e_77 : z_74.toInt = (f1 x0.toInt.toNat).toInt := congrArg Int32.toInt h_75
          have e_78 : z_74.toInt = (f1 x0.toInt.toNat).toInt := congrArg Int32.toInt h_75
          refine And.intro (fun c_79 => ?_) (fun c_79 => ?_)
          · have c_79 : z_74.toInt ≤ i_60.toInt := c_79
            show mp_W E X 15 160 [(9, .int i_60), (7, .long i_61), (5, .long i_62), (4, .int 0), (0, .ref a0), (1, .int x0), (2, .int x1), (3, .int x2)] [] w2_ 0 0
            refine mp_run mp_k_cX10_span_ok hF mp_tabX10_ok [mp_i (.lload 5), mp_i (.lload 7), mp_i .lcmp, mp_h (.ifCond .le 7) [172]] (by decide +kernel) ?_
            intro z_80 h_81
            refine And.intro (fun c_82 => ?_) (fun c_82 => ?_)
            · have c_82 : i_62.toInt ≤ i_61.toInt := mp_lc_le h_81 c_82
              show mp_W E X 15 172 [(9, .int i_60), (7, .long i_61), (5, .long i_62), (4, .int 0), (0, .ref a0), (1, .int x0), (2, .int x1), (3, .int x2)] [] w2_ 0 0
              refine mp_run mp_k_cX10_span_ok hF mp_tabX10_ok [mp_i (.iload_n 3), mp_h (.ifCond .ne 8) [181]] (by decide +kernel) ?_
              refine And.intro (fun c_83 => ?_) (fun c_83 => ?_)
              · have c_83 : x2.toInt ≠ 0 := c_83
                show mp_W E X 15 181 [(9, .int i_60), (7, .long i_61), (5, .long i_62), (4, .int 0), (0, .ref a0), (1, .int x0), (2, .int x1), (3, .int x2)] [] w2_ 0 0
                refine mp_run mp_k_cX10_span_ok hF mp_tabX10_ok [mp_i (.lload 7), mp_i .l2i] (by decide +kernel) ?_
                intro z_84 h_85
                show mp_W E X 15 184 [(9, .int i_60), (7, .long i_61), (5, .long i_62), (4, .int 0), (0, .ref a0), (1, .int x0), (2, .int x1), (3, .int x2)] [.int z_84] w2_ 0 0
                exact mp_iret hF hQ rfl rfl (Nat.le_of_ble_eq_true rfl) (Nat.le_of_ble_eq_true rfl) [0, 1, 2, 3, 4, 5] (w' := w2_) rfl rfl (Or.inr (Or.inl ⟨z_84, rfl, (by first | (first | exact mp_o921 c_8 e_3 | omega) | decide), (by first | (first | exact mp_o1789 e_3 c_9 | omega) | decide), (by first | (first | exact c_21 | omega) | decide), (by first | (first | exact c_22 | omega) | decide), (by first | (first | exact c_23 | omega) | decide), (by have z0 : (0 : Int64).toInt = 0 := rfl; have z1 : (1 : Int64).toInt = 1 := rfl; (first | exact mp_o1790 c_8 e_3 c_9 | omega)), x_30, x_31, (mp_spA_i (l := i_62.toInt) (h := i_61.toInt) (by have k9 := x_68; rw [show (i_60.toInt / 2).toNat = ((f1 x0.toInt.toNat).toInt / 2).toNat from by (first | exact mp_o1736 x_67 e_77 c_79 | omega)] at k9; exact k9) (by have k9 := x_69; rw [show (i_60.toInt / 2).toNat = ((f1 x0.toInt.toNat).toInt / 2).toNat from by (first | exact mp_o1736 x_67 e_77 c_79 | omega)] at k9; exact k9) (Or.inr ⟨by (first | exact c_82 | omega), by have k7 := mp_spB x_68 x_69; have k4 := mp_l_32 h_85 ⟨by (first | exact mp_o767 l_65 c_82 | omega), by (first | exact mp_o1791 k7 | omega)⟩; (first | exact mp_o769 c_83 k4 | omega)⟩)), rfl⟩)) (by first | exact mp_fd_ok mp_k_cX10_span_ok (by decide +kernel) | decide +kernel)
              · have c_83 : x2.toInt = 0 := (congrArg Int32.toInt c_83)
                show mp_W E X 15 176 [(9, .int i_60), (7, .long i_61), (5, .long i_62), (4, .int 0), (0, .ref a0), (1, .int x0), (2, .int x1), (3, .int x2)] [] w2_ 0 0
                refine mp_run mp_k_cX10_span_ok hF mp_tabX10_ok [mp_i (.lload 5), mp_h (.goto 5) [183], mp_i .l2i] (by decide +kernel) ?_
                intro z_86 h_87
                show mp_W E X 15 184 [(9, .int i_60), (7, .long i_61), (5, .long i_62), (4, .int 0), (0, .ref a0), (1, .int x0), (2, .int x1), (3, .int x2)] [.int z_86] w2_ 0 0
                exact mp_iret hF hQ rfl rfl (Nat.le_of_ble_eq_true rfl) (Nat.le_of_ble_eq_true rfl) [0, 1, 2, 3, 4, 5] (w' := w2_) rfl rfl (Or.inr (Or.inl ⟨z_86, rfl, (by first | (first | exact mp_o1376 c_83 | omega) | decide), (by first | (first | exact mp_o1792 c_83 | omega) | decide), (by first | (first | exact c_21 | omega) | decide), (by first | (first | exact c_22 | omega) | decide), (by first | (first | exact c_23 | omega) | decide), (by have z0 : (0 : Int64).toInt = 0 := rfl; have z1 : (1 : Int64).toInt = 1 := rfl; (first | exact mp_o783 c_83 | omega)), x_30, x_31, (mp_spA_i (l := i_62.toInt) (h := i_61.toInt) (by have k9 := x_68; rw [show (i_60.toInt / 2).toNat = ((f1 x0.toInt.toNat).toInt / 2).toNat from by (first | exact mp_o1736 x_67 e_77 c_79 | omega)] at k9; exact k9) (by have k9 := x_69; rw [show (i_60.toInt / 2).toNat = ((f1 x0.toInt.toNat).toInt / 2).toNat from by (first | exact mp_o1736 x_67 e_77 c_79 | omega)] at k9; exact k9) (Or.inr ⟨by (first | exact c_82 | omega), by have k7 := mp_spB x_68 x_69; have k4 := mp_l_32 h_87 ⟨by (first | exact mp_o669 l_65 | omega), by (first | exact mp_o1793 k7 c_82 | omega)⟩; (first | exact mp_o771 c_83 k4 | omega)⟩)), rfl⟩)) (by first | exact mp_fd_ok mp_k_cX10_span_ok (by decide +kernel) | decide +kernel)
            · have c_82 : i_61.toInt < i_62.toInt := mp_lc_gt h_81 c_82
              show mp_W E X 15 168 [(9, .int i_60), (7, .long i_61), (5, .long i_62), (4, .int 0), (0, .ref a0), (1, .int x0), (2, .int x1), (3, .int x2)] [] w2_ 0 0
              refine mp_run mp_k_cX10_span_ok hF mp_tabX10_ok [mp_c (.iconst (-1)) (-1), mp_h (.goto 15) [184]] (by decide +kernel) ?_
              show mp_W E X 15 184 [(9, .int i_60), (7, .long i_61), (5, .long i_62), (4, .int 0), (0, .ref a0), (1, .int x0), (2, .int x1), (3, .int x2)] [.int (-1)] w2_ 0 0
              exact mp_iret hF hQ rfl rfl (Nat.le_of_ble_eq_true rfl) (Nat.le_of_ble_eq_true rfl) [0, 1, 2, 3, 4, 5] (w' := w2_) rfl rfl (Or.inr (Or.inl ⟨(-1), rfl, (by first | (first | exact mp_o921 c_8 e_3 | omega) | decide), (by first | (first | exact mp_o1789 e_3 c_9 | omega) | decide), (by first | (first | exact c_21 | omega) | decide), (by first | (first | exact c_22 | omega) | decide), (by first | (first | exact c_23 | omega) | decide), (by have z0 : (0 : Int64).toInt = 0 := rfl; have z1 : (1 : Int64).toInt = 1 := rfl; (first | exact mp_o1790 c_8 e_3 c_9 | omega)), x_30, x_31, (mp_spA_i (l := i_62.toInt) (h := i_61.toInt) (by have k9 := x_68; rw [show (i_60.toInt / 2).toNat = ((f1 x0.toInt.toNat).toInt / 2).toNat from by (first | exact mp_o1736 x_67 e_77 c_79 | omega)] at k9; exact k9) (by have k9 := x_69; rw [show (i_60.toInt / 2).toNat = ((f1 x0.toInt.toNat).toInt / 2).toNat from by (first | exact mp_o1736 x_67 e_77 c_79 | omega)] at k9; exact k9) (Or.inl ⟨by (first | exact c_82 | omega), by decide⟩)), rfl⟩)) (by first | exact mp_fd_ok mp_k_cX10_span_ok (by decide +kernel) | decide +kernel)
          · have c_79 : i_60.toInt < z_74.toInt := c_79
            show mp_W E X 15 58 [(9, .int i_60), (7, .long i_61), (5, .long i_62), (4, .int 0), (0, .ref a0), (1, .int x0), (2, .int x1), (3, .int x2)] [] w2_ 0 0
            refine mp_run mp_k_cX10_span_ok hF mp_tabX10_ok [mp_i (.aload_n 0), mp_h (.getfield 16) [3, 0], mp_c (.bipush 60) 60, mp_i (.iload_n 1), mp_i .imul, mp_i (.iload 9), mp_i .iadd, mp_h .laload [3], mp_i .l2i, mp_i (.aload_n 0), mp_i (.iload_n 2), mp_c (.iconst 3) 3] (by decide +kernel) ?_
            refine And.intro rfl (And.intro rfl ?_)
            intro z_88 h_89
            have e_90 : z_88.toInt = 60 * x0.toInt := mp_mul (a := 60) (b := x0.toInt) h_89 (by decide) rfl (by (first | exact mp_o926 c_21 | omega)) (by (first | exact mp_o927 c_22 | omega))
            intro z_91 h_92
            have e_93 : z_91.toInt = z_88.toInt + i_60.toInt := mp_add (a := z_88.toInt) (b := i_60.toInt) h_92 rfl rfl (by (first | exact mp_o928 l_63 c_21 e_90 | omega)) (by (first | exact mp_o1794 c_22 e_90 c_79 e_76 | omega))
            refine And.intro rfl (And.intro rfl (And.intro (vp_in_iff.mpr (by (first | exact mp_o1739 c_21 c_22 l_63 e_90 e_93 c_79 e_76 | omega))) ?_))
            intro z_94 h_95
            have e_96 := mp_res_at p8 (6 * x1.toInt.toNat + 3) (by (first | exact mp_o1780 x_27 | omega)) (by (first | exact mp_o1781 | omega))
            have e_97 := mp_res_at p9 (6 * x1.toInt.toNat + 4) (by (first | exact mp_o1795 x_27 | omega)) (by (first | exact mp_o1796 | omega))
            have pt_98 : z_94.toInt = mp_pt f2 x0.toInt (i_60.toInt / 2).toNat := mp_pt_at h_95 (by simp only [Int32.toNatClampNeg]; (first | exact mp_o1743 x_66 c_21 l_63 e_90 e_93 | omega))
            have e_99 := x_31 (i_60.toInt / 2).toNat (by (first | exact mp_o1797 x_28 l_63 e_77 c_79 | omega))
            intro z_100 h_101
            have e_102 : z_100.toInt = z_94.toInt := mp_l_32 h_101 ⟨by (first | exact mp_o1798 pt_98 e_96 e_99 | omega), by (first | exact mp_o1799 pt_98 e_96 e_99 | omega)⟩
            show mp_W E X 15 74 [(9, .int i_60), (7, .long i_61), (5, .long i_62), (4, .int 0), (0, .ref a0), (1, .int x0), (2, .int x1), (3, .int x2)] [.int 3, .int x1, .ref a0, .int z_100] w2_ 0 0
            refine mp_callV hF (As := [.int x1, .int 3]) (rest := [.int z_100]) (wr := [(mp_arI E a1 0 4 f0), (mp_arI E a2 0 4 f1), (mp_arL E a3 240 f2), (mp_arI E a4 0 25 f3)]) (bX10_of_63 E a0 a5 a1 a2 a3 a6 a7 a8 a4 a9 a10 a11 a12 a13 a14 a15 a16 a17 a18 a19 a20 a21 a22 a23 a24 a25 f4 0 y1 y2 y3 y4 y5 y6 y7 y8 y9 y10 y11 y12 y13 y14 y15 y16 y17 y18 y19 y20 y21 x1 p6 p7 p8 p9 (by (first | exact c_23 | omega)) (by (first | exact x_27 | omega)) l_y1 u_y1 l_y2 u_y2 l_y3 u_y3 l_y4 u_y4 l_y11 u_y11 l_y12 u_y12 l_y13 u_y13) mp_lkX10_267 0 rfl [0, 5] [1, 2, 3, 4] rfl rfl rfl rfl rfl ⟨(Nat.le_of_ble_eq_true rfl), (Nat.le_of_ble_eq_true rfl), (Nat.le_of_ble_eq_true rfl), (Nat.le_of_ble_eq_true rfl)⟩ (Nat.le_of_ble_eq_true rfl) (by first | exact mp_fd_ok mp_k_cX10_span_ok (by decide +kernel) | decide +kernel) (fun v_103 w_104 h_105 => ?_)
            refine h_105.elim fun r_106 q_110 => q_110.elim fun e_111 q_112 => q_112.elim fun l_107 q_113 => q_113.elim fun u_108 q_114 => q_114.elim fun x_109 e_115 => ?_
            clear h_105 q_110 q_112 q_113 q_114
            subst e_111
            subst e_115
            let w3_ : va_W := [(mp_arI E a1 0 4 f0), (mp_arI E a2 0 4 f1), (mp_arL E a3 240 f2), (mp_arI E a4 0 25 f3), (mp_ob10 a0 0 a1 a2 a3 a6 a7 y1 y2 y3 y4 y5 y6 y7 y8 y9 y10 a8 a4 a9 a10 a11 a5 a12 a13 y11 a14 a15 a16 a17 y12 y13 y14 a18 a19 y15 y16 a20 a21 a22 y17 y18 y19 y20 a23 a24 a25 y21), (mp_arI E a5 0 300 f4)]
            show mp_W E X 15 77 [(9, .int i_60), (7, .long i_61), (5, .long i_62), (4, .int 0), (0, .ref a0), (1, .int x0), (2, .int x1), (3, .int x2)] [.int r_106, .int z_100] w3_ 0 0
            refine mp_run mp_k_cX10_span_ok hF mp_tabX10_ok [mp_i .isub, mp_i (.aload_n 0), mp_i (.iload_n 2), mp_c (.iconst 4) 4] (by decide +kernel) ?_
            intro z_116 h_117
            have e_118 : z_116.toInt = z_100.toInt - r_106.toInt := mp_subi (a := z_100.toInt) (b := r_106.toInt) h_117 rfl rfl (by (first | exact mp_o1800 e_102 x_109 pt_98 e_99 | omega)) (by (first | exact mp_o1801 e_102 x_109 pt_98 e_99 | omega))
            show mp_W E X 15 81 [(9, .int i_60), (7, .long i_61), (5, .long i_62), (4, .int 0), (0, .ref a0), (1, .int x0), (2, .int x1), (3, .int x2)] [.int 4, .int x1, .ref a0, .int z_116] w3_ 0 0
            refine mp_callV hF (As := [.int x1, .int 4]) (rest := [.int z_116]) (wr := [(mp_arI E a1 0 4 f0), (mp_arI E a2 0 4 f1), (mp_arL E a3 240 f2), (mp_arI E a4 0 25 f3)]) (bX10_of_65 E a0 a5 a1 a2 a3 a6 a7 a8 a4 a9 a10 a11 a12 a13 a14 a15 a16 a17 a18 a19 a20 a21 a22 a23 a24 a25 f4 0 y1 y2 y3 y4 y5 y6 y7 y8 y9 y10 y11 y12 y13 y14 y15 y16 y17 y18 y19 y20 y21 x1 p6 p7 p8 p9 (by (first | exact c_23 | omega)) (by (first | exact x_27 | omega)) l_y1 u_y1 l_y2 u_y2 l_y3 u_y3 l_y4 u_y4 l_y11 u_y11 l_y12 u_y12 l_y13 u_y13) mp_lkX10_267 4 rfl [4, 5] [0, 1, 2, 3] rfl rfl rfl rfl rfl ⟨(Nat.le_of_ble_eq_true rfl), (Nat.le_of_ble_eq_true rfl), (Nat.le_of_ble_eq_true rfl), (Nat.le_of_ble_eq_true rfl)⟩ (Nat.le_of_ble_eq_true rfl) (by first | exact mp_fd_ok mp_k_cX10_span_ok (by decide +kernel) | decide +kernel) (fun v_119 w_120 h_121 => ?_)
            refine h_121.elim fun r_122 q_126 => q_126.elim fun e_127 q_128 => q_128.elim fun l_123 q_129 => q_129.elim fun u_124 q_130 => q_130.elim fun x_125 e_131 => ?_
            clear h_121 q_126 q_128 q_129 q_130
            subst e_127
            subst e_131
            show mp_W E X 15 84 [(9, .int i_60), (7, .long i_61), (5, .long i_62), (4, .int 0), (0, .ref a0), (1, .int x0), (2, .int x1), (3, .int x2)] [.int r_122, .int z_116] w3_ 0 0
            refine mp_run mp_k_cX10_span_ok hF mp_tabX10_ok [mp_i .iadd, mp_i (.istore 10), mp_i (.aload_n 0), mp_h (.getfield 16) [3, 4], mp_c (.bipush 60) 60, mp_i (.iload_n 1), mp_i .imul, mp_i (.iload 9), mp_i .iadd, mp_c (.iconst 1) 1, mp_i .iadd, mp_h .laload [2], mp_i (.lstore 11), mp_i (.lload 11), mp_cl (.lconst 1) 1, mp_i .lsub, mp_i (.iload 10), mp_i .lshl, mp_cl (.lconst 1) 1, mp_i .ladd, mp_i (.lstore 13), mp_i (.lload 13), mp_i (.lload 5), mp_i .lcmp, mp_h (.ifCond .le 8) [127]] (by decide +kernel) ?_
            intro z_132 h_133
            have e_134 : z_132.toInt = z_116.toInt + r_122.toInt := mp_add (a := z_116.toInt) (b := r_122.toInt) h_133 rfl rfl (by (first | exact mp_o1802 l_123 pt_98 e_102 e_118 x_109 e_99 | omega)) (by (first | exact mp_o1803 u_124 pt_98 e_102 e_118 x_109 e_99 | omega))
            refine And.intro rfl (And.intro rfl ?_)
            intro z_135 h_136
            have e_137 : z_135.toInt = 60 * x0.toInt := mp_mul (a := 60) (b := x0.toInt) h_136 (by decide) rfl (by (first | exact mp_o926 c_21 | omega)) (by (first | exact mp_o927 c_22 | omega))
            intro z_138 h_139
            have e_140 : z_138.toInt = z_135.toInt + i_60.toInt := mp_add (a := z_135.toInt) (b := i_60.toInt) h_139 rfl rfl (by (first | exact mp_o928 l_63 c_21 e_137 | omega)) (by (first | exact mp_o1794 c_22 e_137 c_79 e_76 | omega))
            intro z_141 h_142
            have e_143 : z_141.toInt = z_138.toInt + 1 := mp_add (a := z_138.toInt) (b := 1) h_142 rfl (by decide) (by (first | exact mp_o1746 c_21 l_63 e_137 e_140 | omega)) (by (first | exact mp_o1804 c_22 e_137 e_140 c_79 e_76 | omega))
            refine And.intro rfl (And.intro rfl (And.intro (vp_in_iff.mpr (by (first | exact mp_o1748 x_66 l_63 c_21 c_22 e_137 e_140 e_143 c_79 e_76 | omega))) ?_))
            intro z_144 h_145
            have pw_146 : z_144.toInt = mp_pw f2 x0.toInt (i_60.toInt / 2).toNat := mp_pw_at h_145 (by simp only [Int32.toNatClampNeg]; (first | exact mp_o1749 x_66 c_21 l_63 e_137 e_140 e_143 | omega))
            intro z_147 h_148
            intro z_149 h_150
            intro z_151 h_152
            intro z_153 h_154
            refine And.intro (fun c_155 => ?_) (fun c_155 => ?_)
            · have c_155 : z_151.toInt ≤ i_62.toInt := mp_lc_le h_154 c_155
              show mp_W E X 15 127 [(13, .long z_151), (11, .long z_144), (10, .int z_132), (9, .int i_60), (7, .long i_61), (5, .long i_62), (4, .int 0), (0, .ref a0), (1, .int x0), (2, .int x1), (3, .int x2)] [] w3_ 0 0
              refine mp_run mp_k_cX10_span_ok hF mp_tabX10_ok [mp_i (.lload 5), mp_i (.lstore 5), mp_i (.lload 11), mp_i (.iload 10), mp_i .lshl, mp_i (.lload 7), mp_i .lcmp, mp_h (.ifCond .ge 11) [150]] (by decide +kernel) ?_
              intro z_156 h_157
              intro z_158 h_159
              refine And.intro (fun c_160 => ?_) (fun c_160 => ?_)
              · have c_160 : i_61.toInt ≤ z_156.toInt := mp_lc_ge h_159 c_160
                show mp_W E X 15 150 [(5, .long i_62), (13, .long z_151), (11, .long z_144), (10, .int z_132), (9, .int i_60), (7, .long i_61), (4, .int 0), (0, .ref a0), (1, .int x0), (2, .int x1), (3, .int x2)] [] w3_ 0 0
                refine mp_run mp_k_cX10_span_ok hF mp_tabX10_ok [mp_i (.lload 7), mp_i (.lstore 7), mp_c (.iinc 9 2) 2, mp_h (.goto (-110)) [47]] (by decide +kernel) ?_
                intro z_161 h_162
                have e_163 : z_161.toInt = i_60.toInt + 2 := mp_add (a := i_60.toInt) (b := 2) h_162 rfl (by decide) (by (first | exact mp_o672 l_63 | omega)) (by (first | exact mp_o1751 u_64 | omega))
                show mp_W E X 15 47 [(9, .int z_161), (7, .long i_61), (5, .long i_62), (13, .long z_151), (11, .long z_144), (10, .int z_132), (4, .int 0), (0, .ref a0), (1, .int x0), (2, .int x1), (3, .int x2)] [] w3_ 0 0
                exact mp_sub [0, 1, 2, 6, 7, 8, 9, 10] rfl [4, 0, 1, 2, 3, 5] rfl rfl (ih_72 (d_71 - 1) (by (first | exact mp_o1454 hm_73 e_77 c_79 | omega)) z_161 i_61 i_62 (by (first | exact mp_o675 l_63 e_163 | omega)) (by (first | exact mp_o1752 e_163 c_79 e_76 | omega)) l_65 (by (first | exact mp_o1753 x_66 e_163 | omega)) (by (first | exact mp_o1805 x_28 x_66 l_63 e_163 e_77 c_79 | omega)) (mp_spL_f x_68 (mp_loA pw_146 h_148 h_150 h_152 ⟨by (first | exact mp_o1806 e_99 | omega), by (first | exact mp_o1807 e_99 | omega)⟩ ⟨by (first | exact mp_o1808 l_123 e_134 pt_98 e_102 e_118 x_109 e_99 | omega), by (first | exact mp_o1809 u_124 e_134 pt_98 e_102 e_118 x_109 e_99 | omega)⟩ (show z_132.toInt.toNat = (mp_pt f2 x0.toInt (i_60.toInt / 2).toNat - (f4 (6 * x1.toInt.toNat + 3)).toInt + (f4 (6 * x1.toInt.toNat + 4)).toInt).toNat from by (first | exact mp_o1810 pt_98 x_109 x_125 e_102 e_118 e_134 | omega))) (by (first | exact c_155 | omega)) (by (first | exact mp_o681 l_63 e_163 | omega))) (mp_spH_f x_69 (mp_hiA pw_146 h_157 ⟨by (first | exact mp_o1806 e_99 | omega), by (first | exact mp_o1807 e_99 | omega)⟩ ⟨by (first | exact mp_o1808 l_123 e_134 pt_98 e_102 e_118 x_109 e_99 | omega), by (first | exact mp_o1809 u_124 e_134 pt_98 e_102 e_118 x_109 e_99 | omega)⟩ (show z_132.toInt.toNat = (mp_pt f2 x0.toInt (i_60.toInt / 2).toNat - (f4 (6 * x1.toInt.toNat + 3)).toInt + (f4 (6 * x1.toInt.toNat + 4)).toInt).toNat from by (first | exact mp_o1810 pt_98 x_109 x_125 e_102 e_118 e_134 | omega))) (by first | (first | exact c_160 | omega) | (have k9 := (mp_hiA pw_146 h_157 ⟨by omega, by omega⟩ ⟨by omega, by omega⟩ (show z_132.toInt.toNat = (mp_pt f2 x0.toInt (i_60.toInt / 2).toNat - (f4 (6 * x1.toInt.toNat + 3)).toInt + (f4 (6 * x1.toInt.toNat + 4)).toInt).toNat from by omega)); have k8 := (mp_hiA pw_146 h_157 ⟨by omega, by omega⟩ ⟨by omega, by omega⟩ (show z_132.toInt.toNat = (mp_pt f2 x0.toInt (i_60.toInt / 2).toNat - (f4 (6 * x1.toInt.toNat + 3)).toInt + (f4 (6 * x1.toInt.toNat + 4)).toInt).toNat from by omega)); omega)) (by (first | exact mp_o681 l_63 e_163 | omega))) (by (first | exact mp_o1757 hm_73 e_163 | omega)))
              · have c_160 : z_156.toInt < i_61.toInt := mp_lc_lt h_159 c_160
                show mp_W E X 15 142 [(5, .long i_62), (13, .long z_151), (11, .long z_144), (10, .int z_132), (9, .int i_60), (7, .long i_61), (4, .int 0), (0, .ref a0), (1, .int x0), (2, .int x1), (3, .int x2)] [] w3_ 0 0
                refine mp_run mp_k_cX10_span_ok hF mp_tabX10_ok [mp_i (.lload 11), mp_i (.iload 10), mp_i .lshl, mp_h (.goto 5) [152], mp_i (.lstore 7), mp_c (.iinc 9 2) 2, mp_h (.goto (-110)) [47]] (by decide +kernel) ?_
                intro z_164 h_165
                intro z_166 h_167
                have e_168 : z_166.toInt = i_60.toInt + 2 := mp_add (a := i_60.toInt) (b := 2) h_167 rfl (by decide) (by (first | exact mp_o672 l_63 | omega)) (by (first | exact mp_o1751 u_64 | omega))
                show mp_W E X 15 47 [(9, .int z_166), (7, .long z_164), (5, .long i_62), (13, .long z_151), (11, .long z_144), (10, .int z_132), (4, .int 0), (0, .ref a0), (1, .int x0), (2, .int x1), (3, .int x2)] [] w3_ 0 0
                exact mp_sub [0, 1, 2, 6, 7, 8, 9, 10] rfl [4, 0, 1, 2, 3, 5] rfl rfl (ih_72 (d_71 - 1) (by omega) z_166 z_164 i_62 (by omega) (by omega) l_65 (by omega) (by omega) (mp_spL_f x_68 (mp_loA pw_146 h_148 h_150 h_152 ⟨by omega, by omega⟩ ⟨by omega, by omega⟩ (show z_132.toInt.toNat = (mp_pt f2 x0.toInt (i_60.toInt / 2).toNat - (f4 (6 * x1.toInt.toNat + 3)).toInt + (f4 (6 * x1.toInt.toNat + 4)).toInt).toNat from by omega)) (by (first | exact c_155 | omega)) (by omega)) (mp_spH_t x_69 (mp_hiA pw_146 h_165 ⟨by omega, by omega⟩ ⟨by omega, by omega⟩ (show z_132.toInt.toNat = (mp_pt f2 x0.toInt (i_60.toInt / 2).toNat - (f4 (6 * x1.toInt.toNat + 3)).toInt + (f4 (6 * x1.toInt.toNat + 4)).toInt).toNat from by omega)) (by first | fail | (have k9 := (mp_hiA pw_146 h_157 ⟨by omega, by omega⟩ ⟨by omega, by omega⟩ (show z_132.toInt.toNat = (mp_pt f2 x0.toInt (i_60.toInt / 2).toNat - (f4 (6 * x1.toInt.toNat + 3)).toInt + (f4 (6 * x1.toInt.toNat + 4)).toInt).toNat from by omega)); have k8 := (mp_hiA pw_146 h_165 ⟨by omega, by omega⟩ ⟨by omega, by omega⟩ (show z_132.toInt.toNat = (mp_pt f2 x0.toInt (i_60.toInt / 2).toNat - (f4 (6 * x1.toInt.toNat + 3)).toInt + (f4 (6 * x1.toInt.toNat + 4)).toInt).toNat from by omega)); (first | exact mp_o1811 c_160 k8 k9 | omega))) (by omega)) (by omega))
            · have c_155 : i_62.toInt < z_151.toInt := mp_lc_gt h_154 c_155
              show mp_W E X 15 122 [(13, .long z_151), (11, .long z_144), (10, .int z_132), (9, .int i_60), (7, .long i_61), (5, .long i_62), (4, .int 0), (0, .ref a0), (1, .int x0), (2, .int x1), (3, .int x2)] [] w3_ 0 0
              refine mp_run mp_k_cX10_span_ok hF mp_tabX10_ok [mp_i (.lload 13), mp_h (.goto 5) [129], mp_i (.lstore 5), mp_i (.lload 11), mp_i (.iload 10), mp_i .lshl, mp_i (.lload 7), mp_i .lcmp, mp_h (.ifCond .ge 11) [150]] (by decide +kernel) ?_
              intro z_169 h_170
              intro z_171 h_172
              refine And.intro (fun c_173 => ?_) (fun c_173 => ?_)
              · have c_173 : i_61.toInt ≤ z_169.toInt := mp_lc_ge h_172 c_173
                show mp_W E X 15 150 [(5, .long z_151), (13, .long z_151), (11, .long z_144), (10, .int z_132), (9, .int i_60), (7, .long i_61), (4, .int 0), (0, .ref a0), (1, .int x0), (2, .int x1), (3, .int x2)] [] w3_ 0 0
                refine mp_run mp_k_cX10_span_ok hF mp_tabX10_ok [mp_i (.lload 7), mp_i (.lstore 7), mp_c (.iinc 9 2) 2, mp_h (.goto (-110)) [47]] (by decide +kernel) ?_
                intro z_174 h_175
                have e_176 : z_174.toInt = i_60.toInt + 2 := mp_add (a := i_60.toInt) (b := 2) h_175 rfl (by decide) (by omega) (by omega)
                show mp_W E X 15 47 [(9, .int z_174), (7, .long i_61), (5, .long z_151), (13, .long z_151), (11, .long z_144), (10, .int z_132), (4, .int 0), (0, .ref a0), (1, .int x0), (2, .int x1), (3, .int x2)] [] w3_ 0 0
                exact mp_sub [0, 1, 2, 6, 7, 8, 9, 10] rfl [4, 0, 1, 2, 3, 5] rfl rfl (ih_72 (d_71 - 1) (by omega) z_174 i_61 z_151 (by omega) (by omega) (by (first | exact mp_o1812 l_65 c_155 | omega)) (by omega) (by omega) (mp_spL_t x_68 (mp_loA pw_146 h_148 h_150 h_152 ⟨by omega, by omega⟩ ⟨by omega, by omega⟩ (show z_132.toInt.toNat = (mp_pt f2 x0.toInt (i_60.toInt / 2).toNat - (f4 (6 * x1.toInt.toNat + 3)).toInt + (f4 (6 * x1.toInt.toNat + 4)).toInt).toNat from by omega)) (by (first | exact c_155 | omega)) (by omega)) (mp_spH_f x_69 (mp_hiA pw_146 h_170 ⟨by omega, by omega⟩ ⟨by omega, by omega⟩ (show z_132.toInt.toNat = (mp_pt f2 x0.toInt (i_60.toInt / 2).toNat - (f4 (6 * x1.toInt.toNat + 3)).toInt + (f4 (6 * x1.toInt.toNat + 4)).toInt).toNat from by omega)) (by first | (first | exact c_173 | omega) | (have k9 := (mp_hiA pw_146 h_170 ⟨by omega, by omega⟩ ⟨by omega, by omega⟩ (show z_132.toInt.toNat = (mp_pt f2 x0.toInt (i_60.toInt / 2).toNat - (f4 (6 * x1.toInt.toNat + 3)).toInt + (f4 (6 * x1.toInt.toNat + 4)).toInt).toNat from by omega)); have k8 := (mp_hiA pw_146 h_170 ⟨by omega, by omega⟩ ⟨by omega, by omega⟩ (show z_132.toInt.toNat = (mp_pt f2 x0.toInt (i_60.toInt / 2).toNat - (f4 (6 * x1.toInt.toNat + 3)).toInt + (f4 (6 * x1.toInt.toNat + 4)).toInt).toNat from by omega)); omega)) (by omega)) (by omega))
              · have c_173 : z_169.toInt < i_61.toInt := mp_lc_lt h_172 c_173
                show mp_W E X 15 142 [(5, .long z_151), (13, .long z_151), (11, .long z_144), (10, .int z_132), (9, .int i_60), (7, .long i_61), (4, .int 0), (0, .ref a0), (1, .int x0), (2, .int x1), (3, .int x2)] [] w3_ 0 0
                refine mp_run mp_k_cX10_span_ok hF mp_tabX10_ok [mp_i (.lload 11), mp_i (.iload 10), mp_i .lshl, mp_h (.goto 5) [152], mp_i (.lstore 7), mp_c (.iinc 9 2) 2, mp_h (.goto (-110)) [47]] (by decide +kernel) ?_
                intro z_177 h_178
                intro z_179 h_180
                have e_181 : z_179.toInt = i_60.toInt + 2 := mp_add (a := i_60.toInt) (b := 2) h_180 rfl (by decide) (by omega) (by omega)
                show mp_W E X 15 47 [(9, .int z_179), (7, .long z_177), (5, .long z_151), (13, .long z_151), (11, .long z_144), (10, .int z_132), (4, .int 0), (0, .ref a0), (1, .int x0), (2, .int x1), (3, .int x2)] [] w3_ 0 0
                exact mp_sub [0, 1, 2, 6, 7, 8, 9, 10] rfl [4, 0, 1, 2, 3, 5] rfl rfl (ih_72 (d_71 - 1) (by omega) z_179 z_177 z_151 (by omega) (by omega) (by omega) (by omega) (by omega) (mp_spL_t x_68 (mp_loA pw_146 h_148 h_150 h_152 ⟨by omega, by omega⟩ ⟨by omega, by omega⟩ (show z_132.toInt.toNat = (mp_pt f2 x0.toInt (i_60.toInt / 2).toNat - (f4 (6 * x1.toInt.toNat + 3)).toInt + (f4 (6 * x1.toInt.toNat + 4)).toInt).toNat from by omega)) (by (first | exact c_155 | omega)) (by omega)) (mp_spH_t x_69 (mp_hiA pw_146 h_178 ⟨by omega, by omega⟩ ⟨by omega, by omega⟩ (show z_132.toInt.toNat = (mp_pt f2 x0.toInt (i_60.toInt / 2).toNat - (f4 (6 * x1.toInt.toNat + 3)).toInt + (f4 (6 * x1.toInt.toNat + 4)).toInt).toNat from by omega)) (by first | fail | (have k9 := (mp_hiA pw_146 h_170 ⟨by omega, by omega⟩ ⟨by omega, by omega⟩ (show z_132.toInt.toNat = (mp_pt f2 x0.toInt (i_60.toInt / 2).toNat - (f4 (6 * x1.toInt.toNat + 3)).toInt + (f4 (6 * x1.toInt.toNat + 4)).toInt).toNat from by omega)); have k8 := (mp_hiA pw_146 h_178 ⟨by omega, by omega⟩ ⟨by omega, by omega⟩ (show z_132.toInt.toNat = (mp_pt f2 x0.toInt (i_60.toInt / 2).toNat - (f4 (6 * x1.toInt.toNat + 3)).toInt + (f4 (6 * x1.toInt.toNat + 4)).toInt).toNat from by omega)); omega)) (by omega)) (by omega))
      exact mp_sub [0, 1, 2, 3, 4, 5, 6, 7] rfl [0, 1, 2, 3, 4, 5] rfl rfl (lp_70 _ 0 1000000 1 (by decide) (by decide) (by decide) (by decide) (by have i0 : (0 : Int32).toInt = 0 := rfl; have i1 : (1 : Int32).toInt = 1 := rfl; (first | exact mp_o879 x_32 i0 | omega)) rfl rfl (Int.self_le_toNat _))
    · skip
      refine q_40.elim fun e_182 q_183 => q_183.elim fun c_33 q_184 => q_184.elim fun c_34 q_185 => q_185.elim fun c_35 q_186 => q_186.elim fun x_36 e_187 => ?_
      clear h_19 q_38 q_40 q_183 q_184 q_185 q_186
      subst e_182
      subst e_187
      have c_33 : 0 ≤ x0.toInt := c_33
      have c_34 : x0.toInt ≤ 3 := c_34
      have c_35 : 0 ≤ x1.toInt := c_35
      show mp_W E X 15 21 [(0, .ref a0), (1, .int x0), (2, .int x1), (3, .int x2)] [.int (-6)] w2_ 0 0
      refine mp_run mp_k_cX10_span_ok hF mp_tabX10_ok [mp_h (.goto 5) [26], mp_i (.istore 4), mp_i (.iload 4), mp_h (.ifCond .eq 6) [36]] (by decide +kernel) ?_
      refine And.intro (fun c_188 => absurd c_188 (by decide)) (fun _ => ?_)
      show mp_W E X 15 33 [(4, .int (-6)), (0, .ref a0), (1, .int x0), (2, .int x1), (3, .int x2)] [] w2_ 0 0
      refine mp_run mp_k_cX10_span_ok hF mp_tabX10_ok [mp_i (.iload 4)] (by decide +kernel) ?_
      show mp_W E X 15 35 [(4, .int (-6)), (0, .ref a0), (1, .int x0), (2, .int x1), (3, .int x2)] [.int (-6)] w2_ 0 0
      exact mp_iret hF hQ rfl rfl (Nat.le_of_ble_eq_true rfl) (Nat.le_of_ble_eq_true rfl) [0, 1, 2, 3, 4, 5] (w' := w2_) rfl rfl (Or.inr (Or.inr ⟨rfl, (by first | (first | exact mp_o921 c_8 e_3 | omega) | decide), (by first | (first | exact mp_o1789 e_3 c_9 | omega) | decide), (by first | (first | exact c_33 | omega) | decide), (by first | (first | exact c_34 | omega) | decide), (by first | (first | exact c_35 | omega) | decide), (by have z0 : (0 : Int64).toInt = 0 := rfl; have z1 : (1 : Int64).toInt = 1 := rfl; (first | exact mp_o1790 c_8 e_3 c_9 | omega)), x_36, rfl⟩)) (by first | exact mp_fd_ok mp_k_cX10_span_ok (by decide +kernel) | decide +kernel)
set_option maxHeartbeats 4000000 in
set_option maxRecDepth 100000 in
theorem bX10_whyNoThreat_146 (E : mp_E) (a0 a1 a2 a3 a4 a5 a6 a7 a8 a9 a10 a11 a12 a13 a14 a15 a16 a17 a18 a19 a20 a21 a22 a23 a24 a25 : Nat) (f0 : Nat → Int32) (f1 : Nat → Int32) (f2 : Nat → Int64) (y0 : Int32) (y1 : Int32) (y2 : Int32) (y3 : Int32) (y4 : Int32) (y5 : Int32) (y6 : Int64) (y7 : Int32) (y8 : Int32) (y9 : Int32) (y10 : Int32) (y11 : Int32) (y12 : Int32) (y13 : Int32) (y14 : Int32) (y15 : Int32) (y16 : Int32) (y17 : Int32) (y18 : Int32) (y19 : Int32) (y20 : Int32) (y21 : Int32) (x0 : Int32) (p0 : mp_all f1 4 0 60) (l_y1 : 0 ≤ y1.toInt) (u_y1 : y1.toInt ≤ 1600) (l_y2 : 0 ≤ y2.toInt) (u_y2 : y2.toInt ≤ 1600) (l_y3 : 0 ≤ y3.toInt) (u_y3 : y3.toInt ≤ 4) (l_y4 : 0 ≤ y4.toInt) (u_y4 : y4.toInt ≤ 1600) (l_y11 : 0 ≤ y11.toInt) (u_y11 : y11.toInt ≤ 99) (l_y12 : 0 ≤ y12.toInt) (u_y12 : y12.toInt ≤ 5) (l_y13 : 0 ≤ y13.toInt) (u_y13 : y13.toInt ≤ 12) : mp_Ct E yX10_whyNoThreat cX10_whyNoThreat 3 (some FieldType.int) 2 0 0 45 [.ref a0, .int x0] [(mp_ob10 a0 y0 a1 a2 a3 a4 a5 y1 y2 y3 y4 y5 y6 y7 y8 y9 y10 a6 a7 a8 a9 a10 a11 a12 a13 y11 a14 a15 a16 a17 y12 y13 y14 a18 a19 y15 y16 a20 a21 a22 y17 y18 y19 y20 a23 a24 a25 y21), (mp_arI E a1 0 4 f0), (mp_arI E a2 0 4 f1), (mp_arL E a3 240 f2)] (fun v w' => (v = some (.int (-2)) ∧ ((x0.toInt < 0 ∨ 3 < x0.toInt) ∨ ((0 ≤ x0.toInt ∧ x0.toInt ≤ 3) ∧ (f0 x0.toInt.toNat).toInt ≠ -1 ∧ (8 < (f1 x0.toInt.toNat).toInt ∨ ¬ mp_c99 f2 x0.toInt (f1 x0.toInt.toNat).toInt))) ∧ w' = [(mp_ob10 a0 y0 a1 a2 a3 a4 a5 y1 y2 y3 y4 y5 y6 y7 y8 y9 y10 a6 a7 a8 a9 a10 a11 a12 a13 y11 a14 a15 a16 a17 y12 y13 y14 a18 a19 y15 y16 a20 a21 a22 y17 y18 y19 y20 a23 a24 a25 y21), (mp_arI E a1 0 4 f0), (mp_arI E a2 0 4 f1), (mp_arL E a3 240 f2)]) ∨ (v = some (.int 0) ∧ 0 ≤ x0.toInt ∧ x0.toInt ≤ 3 ∧ (mp_c99 f2 x0.toInt (f1 x0.toInt.toNat).toInt) ∧ (0 ≤ x0.toInt ∧ x0.toInt ≤ 3) ∧ ((f0 x0.toInt.toNat).toInt ≠ -1 ∧ (f1 x0.toInt.toNat).toInt ≤ 8) ∧ w' = [(mp_ob10 a0 y0 a1 a2 a3 a4 a5 y1 y2 y3 y4 y5 y6 y7 y8 y9 y10 a6 a7 a8 a9 a10 a11 a12 a13 y11 a14 a15 a16 a17 y12 y13 y14 a18 a19 y15 y16 a20 a21 a22 y17 y18 y19 y20 a23 a24 a25 y21), (mp_arI E a1 0 4 f0), (mp_arI E a2 0 4 f1), (mp_arL E a3 240 f2)]) ∨ (v = some (.int (-6)) ∧ 0 ≤ x0.toInt ∧ x0.toInt ≤ 3 ∧ (0 ≤ x0.toInt ∧ x0.toInt ≤ 3 ∧ (f0 x0.toInt.toNat).toInt = -1) ∧ w' = [(mp_ob10 a0 y0 a1 a2 a3 a4 a5 y1 y2 y3 y4 y5 y6 y7 y8 y9 y10 a6 a7 a8 a9 a10 a11 a12 a13 y11 a14 a15 a16 a17 y12 y13 y14 a18 a19 y15 y16 a20 a21 a22 y17 y18 y19 y20 a23 a24 a25 y21), (mp_arI E a1 0 4 f0), (mp_arI E a2 0 4 f1), (mp_arL E a3 240 f2)])) := by
  refine mp_met false (by decide) (by decide) (Nat.le_of_ble_eq_true rfl) (fun X hF hQ => ?_)
  have hF : mp_F E X (RX10, cX10_whyNoThreat, 3, (2, 0, 0, 45), (some FieldType.int), false) := hF
  let w1_ : va_W := [(mp_ob10 a0 y0 a1 a2 a3 a4 a5 y1 y2 y3 y4 y5 y6 y7 y8 y9 y10 a6 a7 a8 a9 a10 a11 a12 a13 y11 a14 a15 a16 a17 y12 y13 y14 a18 a19 y15 y16 a20 a21 a22 y17 y18 y19 y20 a23 a24 a25 y21), (mp_arI E a1 0 4 f0), (mp_arI E a2 0 4 f1), (mp_arL E a3 240 f2)]
  show mp_W E X 3 0 [(0, .ref a0), (1, .int x0)] [] w1_ 0 0
  refine mp_run mp_k_cX10_whyNoThreat_ok hF mp_tabX10_ok [mp_i (.iload_n 1)] (by decide +kernel) ?_
  show mp_W E X 3 1 [(0, .ref a0), (1, .int x0)] [.int x0] w1_ 0 0
  refine mp_callS hF (As := [.int x0]) (rest := []) (wr := w1_) (bX10_isSlot_1 E x0) mp_lkX10_101 [] [0, 1, 2, 3] rfl rfl rfl rfl rfl ⟨(Nat.le_of_ble_eq_true rfl), (Nat.le_of_ble_eq_true rfl), (Nat.le_of_ble_eq_true rfl), (Nat.le_of_ble_eq_true rfl)⟩ (Nat.le_of_ble_eq_true rfl) (by first | exact mp_fd_ok mp_k_cX10_whyNoThreat_ok (by decide +kernel) | decide +kernel) (fun v_1 w_2 h_3 => ?_)
  rcases h_3 with ⟨rfl, x_4, rfl⟩ | ⟨rfl, c_5, c_6, x_7, rfl⟩
  · skip
    show mp_W E X 3 4 [(0, .ref a0), (1, .int x0)] [.int 0] w1_ 0 0
    refine mp_run mp_k_cX10_whyNoThreat_ok hF mp_tabX10_ok [mp_h (.ifCond .ne 6) [10]] (by decide +kernel) ?_
    refine And.intro (fun c_8 => absurd c_8 (by decide)) (fun _ => ?_)
    show mp_W E X 3 7 [(0, .ref a0), (1, .int x0)] [] w1_ 0 0
    refine mp_run mp_k_cX10_whyNoThreat_ok hF mp_tabX10_ok [mp_c (.bipush (-2)) (-2)] (by decide +kernel) ?_
    show mp_W E X 3 9 [(0, .ref a0), (1, .int x0)] [.int (-2)] w1_ 0 0
    exact mp_iret hF hQ rfl rfl (Nat.le_of_ble_eq_true rfl) (Nat.le_of_ble_eq_true rfl) [0, 1, 2, 3] (w' := w1_) rfl rfl (Or.inl ⟨rfl, (by first | exact Or.inl (by (first | exact x_4 | omega)) | exact Or.inr ⟨by omega, by omega, Or.inl (by omega)⟩), rfl⟩) (by first | exact mp_fd_ok mp_k_cX10_whyNoThreat_ok (by decide +kernel) | decide +kernel)
  · skip
    have c_5 : 0 ≤ x0.toInt := c_5
    have c_6 : x0.toInt ≤ 3 := c_6
    show mp_W E X 3 4 [(0, .ref a0), (1, .int x0)] [.int 1] w1_ 0 0
    refine mp_run mp_k_cX10_whyNoThreat_ok hF mp_tabX10_ok [mp_h (.ifCond .ne 6) [10]] (by decide +kernel) ?_
    refine And.intro (fun _ => ?_) (fun c_9 => absurd c_9 (by decide))
    show mp_W E X 3 10 [(0, .ref a0), (1, .int x0)] [] w1_ 0 0
    refine mp_run mp_k_cX10_whyNoThreat_ok hF mp_tabX10_ok [mp_i (.aload_n 0), mp_h (.getfield 7) [1, 0], mp_i (.iload_n 1), mp_h .iaload [1], mp_c (.iconst (-1)) (-1), mp_h (.if_icmp .ne 6) [23]] (by decide +kernel) ?_
    refine And.intro rfl (And.intro rfl ?_)
    refine And.intro rfl (And.intro rfl (And.intro (vp_in_iff.mpr (by (first | exact mp_o637 c_5 c_6 | omega))) ?_))
    intro z_10 h_11
    have e_12 : z_10.toInt = (f0 x0.toInt.toNat).toInt := congrArg Int32.toInt h_11
    refine And.intro (fun c_13 => ?_) (fun c_13 => ?_)
    · have c_13 : z_10.toInt ≠ (-1) := c_13
      show mp_W E X 3 23 [(0, .ref a0), (1, .int x0)] [] w1_ 0 0
      refine mp_run mp_k_cX10_whyNoThreat_ok hF mp_tabX10_ok [mp_i (.aload_n 0), mp_h (.getfield 13) [2, 0], mp_i (.iload_n 1), mp_h .iaload [2], mp_c (.bipush 8) 8, mp_h (.if_icmp .le 6) [37]] (by decide +kernel) ?_
      refine And.intro rfl (And.intro rfl ?_)
      refine And.intro rfl (And.intro rfl (And.intro (vp_in_iff.mpr (by (first | exact mp_o637 c_5 c_6 | omega))) ?_))
      intro z_14 h_15
      have e_16 : 0 ≤ z_14.toInt ∧ z_14.toInt ≤ 60 := mp_all_ld h_15 p0 (by (first | exact c_5 | omega)) (by (first | exact mp_o638 c_6 | omega))
      have e_17 : z_14.toInt = (f1 x0.toInt.toNat).toInt := congrArg Int32.toInt h_15
      refine And.intro (fun c_18 => ?_) (fun c_18 => ?_)
      · have c_18 : z_14.toInt ≤ 8 := c_18
        show mp_W E X 3 37 [(0, .ref a0), (1, .int x0)] [] w1_ 0 0
        refine mp_run mp_k_cX10_whyNoThreat_ok hF mp_tabX10_ok [mp_c (.iconst 0) 0, mp_i (.istore_n 2)] (by decide +kernel) ?_
        show mp_W E X 3 39 [(2, .int 0), (0, .ref a0), (1, .int x0)] [] w1_ 0 0
        have lp_23 : ∀ (d_24 : Nat) (i_19 : Int32), 0 ≤ i_19.toInt → i_19.toInt ≤ 9 → (mp_c99 f2 x0.toInt i_19.toInt) → z_14.toInt - i_19.toInt ≤ (d_24 : Int) → mp_W E X 3 39 [(2, .int i_19), (0, .ref a0), (1, .int x0)] [] [(mp_ob10 a0 y0 a1 a2 a3 a4 a5 y1 y2 y3 y4 y5 y6 y7 y8 y9 y10 a6 a7 a8 a9 a10 a11 a12 a13 y11 a14 a15 a16 a17 y12 y13 y14 a18 a19 y15 y16 a20 a21 a22 y17 y18 y19 y20 a23 a24 a25 y21), (mp_arI E a1 0 4 f0), (mp_arI E a2 0 4 f1), (mp_arL E a3 240 f2)] 0 0 := by
          intro d_24
          induction d_24 using Nat.strongRecOn with
          | ind d_24 ih_25 =>
            intro i_19 l_20 u_21 x_22 hm_26
            refine mp_run mp_k_cX10_whyNoThreat_ok hF mp_tabX10_ok [mp_i (.iload_n 2), mp_i (.aload_n 0), mp_h (.getfield 13) [2, 0], mp_i (.iload_n 1), mp_h .iaload [2], mp_h (.if_icmp .ge 33) [79]] (by decide +kernel) ?_
            refine And.intro rfl (And.intro rfl ?_)
            refine And.intro rfl (And.intro rfl (And.intro (vp_in_iff.mpr (by (first | exact mp_o637 c_5 c_6 | omega))) ?_))
            intro z_27 h_28
            have k_29 : z_14 = z_27 := h_15.trans h_28.symm
            subst k_29
            refine And.intro (fun c_30 => ?_) (fun c_30 => ?_)
            · have c_30 : z_14.toInt ≤ i_19.toInt := c_30
              show mp_W E X 3 79 [(2, .int i_19), (0, .ref a0), (1, .int x0)] [] w1_ 0 0
              refine mp_run mp_k_cX10_whyNoThreat_ok hF mp_tabX10_ok [mp_c (.iconst 0) 0] (by decide +kernel) ?_
              show mp_W E X 3 80 [(2, .int i_19), (0, .ref a0), (1, .int x0)] [.int 0] w1_ 0 0
              exact mp_iret hF hQ rfl rfl (Nat.le_of_ble_eq_true rfl) (Nat.le_of_ble_eq_true rfl) [0, 1, 2, 3] (w' := w1_) rfl rfl (Or.inr (Or.inl ⟨rfl, (by first | (first | exact c_5 | omega) | decide), (by first | (first | exact c_6 | omega) | decide), (mp_c99_le x_22 (by (first | exact mp_o787 e_17 c_30 | omega))), (by (first | exact x_7 | omega)), (by (first | exact mp_o1813 e_12 c_13 e_17 c_18 | omega)), rfl⟩)) (by first | exact mp_fd_ok mp_k_cX10_whyNoThreat_ok (by decide +kernel) | decide +kernel)
            · have c_30 : i_19.toInt < z_14.toInt := c_30
              show mp_W E X 3 49 [(2, .int i_19), (0, .ref a0), (1, .int x0)] [] w1_ 0 0
              refine mp_run mp_k_cX10_whyNoThreat_ok hF mp_tabX10_ok [mp_i (.aload_n 0), mp_h (.getfield 16) [3, 0], mp_c (.bipush 60) 60, mp_i (.iload_n 1), mp_i .imul, mp_i (.iload_n 2), mp_i .iadd, mp_h .laload [3], mp_cl (.lconst 0) 0, mp_cl (.ldc2_w 258) 99] (by decide +kernel) ?_
              refine And.intro rfl (And.intro rfl ?_)
              intro z_31 h_32
              have e_33 : z_31.toInt = 60 * x0.toInt := mp_mul (a := 60) (b := x0.toInt) h_32 (by decide) rfl (by (first | exact mp_o926 c_5 | omega)) (by (first | exact mp_o927 c_6 | omega))
              intro z_34 h_35
              have e_36 : z_34.toInt = z_31.toInt + i_19.toInt := mp_add (a := z_31.toInt) (b := i_19.toInt) h_35 rfl rfl (by (first | exact mp_o928 l_20 c_5 e_33 | omega)) (by (first | exact mp_o1814 u_21 c_6 e_33 | omega))
              refine And.intro rfl (And.intro rfl (And.intro (vp_in_iff.mpr (by (first | exact mp_o1815 c_5 c_6 l_20 u_21 e_33 e_36 | omega))) ?_))
              intro z_37 h_38
              show mp_W E X 3 64 [(2, .int i_19), (0, .ref a0), (1, .int x0)] [.long 99, .long 0, .long z_37] w1_ 0 0
              refine mp_callS hF (As := [.long z_37, .long 0, .long 99]) (rest := []) (wr := w1_) (bX10_in_0 E z_37 0 99) mp_lkX10_97 [] [0, 1, 2, 3] rfl rfl rfl rfl rfl ⟨(Nat.le_of_ble_eq_true rfl), (Nat.le_of_ble_eq_true rfl), (Nat.le_of_ble_eq_true rfl), (Nat.le_of_ble_eq_true rfl)⟩ (Nat.le_of_ble_eq_true rfl) (by first | exact mp_fd_ok mp_k_cX10_whyNoThreat_ok (by decide +kernel) | decide +kernel) (fun v_39 w_40 h_41 => ?_)
              rcases h_41 with ⟨rfl, x_42, rfl⟩ | ⟨rfl, c_43, c_44, rfl⟩
              · skip
                have i_45 : (0 : Int64).toInt = 0 := by decide
                have i_46 : (99 : Int64).toInt = 99 := by decide
                show mp_W E X 3 67 [(2, .int i_19), (0, .ref a0), (1, .int x0)] [.int 0] w1_ 0 0
                refine mp_run mp_k_cX10_whyNoThreat_ok hF mp_tabX10_ok [mp_h (.ifCond .ne 6) [73]] (by decide +kernel) ?_
                refine And.intro (fun c_47 => absurd c_47 (by decide)) (fun _ => ?_)
                show mp_W E X 3 70 [(2, .int i_19), (0, .ref a0), (1, .int x0)] [] w1_ 0 0
                refine mp_run mp_k_cX10_whyNoThreat_ok hF mp_tabX10_ok [mp_c (.bipush (-2)) (-2)] (by decide +kernel) ?_
                show mp_W E X 3 72 [(2, .int i_19), (0, .ref a0), (1, .int x0)] [.int (-2)] w1_ 0 0
                exact mp_iret hF hQ rfl rfl (Nat.le_of_ble_eq_true rfl) (Nat.le_of_ble_eq_true rfl) [0, 1, 2, 3] (w' := w1_) rfl rfl (Or.inl ⟨rfl, (Or.inr ⟨by (first | exact x_7 | omega), by (first | exact mp_o214 e_12 c_13 | omega), Or.inr (mp_c99_no (slot := x0.toInt) (i := i_19.toInt) (h_38.trans (congrArg _ (show z_34.toNatClampNeg = (60 * x0.toInt + i_19.toInt).toNat by simp only [Int32.toNatClampNeg] <;> (first | exact mp_o941 e_33 e_36 | omega)))) (by (first | exact mp_o790 c_5 l_20 e_17 c_30 | omega)) (by (first | exact mp_o1816 i_45 x_42 i_46 | omega)))⟩), rfl⟩) (by first | exact mp_fd_ok mp_k_cX10_whyNoThreat_ok (by decide +kernel) | decide +kernel)
              · skip
                have c_43 : 0 ≤ z_37.toInt := c_43
                have c_44 : z_37.toInt ≤ 99 := c_44
                have i_48 : (0 : Int64).toInt = 0 := by decide
                have i_49 : (99 : Int64).toInt = 99 := by decide
                show mp_W E X 3 67 [(2, .int i_19), (0, .ref a0), (1, .int x0)] [.int 1] w1_ 0 0
                refine mp_run mp_k_cX10_whyNoThreat_ok hF mp_tabX10_ok [mp_h (.ifCond .ne 6) [73]] (by decide +kernel) ?_
                refine And.intro (fun _ => ?_) (fun c_50 => absurd c_50 (by decide))
                show mp_W E X 3 73 [(2, .int i_19), (0, .ref a0), (1, .int x0)] [] w1_ 0 0
                refine mp_run mp_k_cX10_whyNoThreat_ok hF mp_tabX10_ok [mp_c (.iinc 2 1) 1, mp_h (.goto (-37)) [39]] (by decide +kernel) ?_
                intro z_51 h_52
                have e_53 : z_51.toInt = i_19.toInt + 1 := mp_add (a := i_19.toInt) (b := 1) h_52 rfl (by decide) (by (first | exact mp_o2 l_20 | omega)) (by (first | exact mp_o121 u_21 | omega))
                show mp_W E X 3 39 [(2, .int z_51), (0, .ref a0), (1, .int x0)] [] w1_ 0 0
                exact mp_sub [0, 1, 2] rfl [0, 1, 2, 3] rfl rfl (ih_25 (d_24 - 1) (by (first | exact mp_o72 hm_26 c_30 | omega)) z_51 (by (first | exact mp_o51 l_20 e_53 | omega)) (by (first | exact mp_o795 c_18 c_30 e_53 | omega)) (mp_c99_s x_22 h_38 (by (first | exact mp_o1754 e_33 e_36 | omega)) (by (first | exact c_5 | omega)) (by (first | exact l_20 | omega)) (by (first | exact mp_o404 c_43 c_44 | omega)) (by (first | exact e_53 | omega))) (by (first | exact mp_o77 hm_26 e_53 | omega)))
        exact mp_sub [0, 1, 2] rfl [0, 1, 2, 3] rfl rfl (lp_23 _ 0 (by decide) (by decide) (mp_c99_0 (by decide)) (Int.self_le_toNat _))
      · have c_18 : 8 < z_14.toInt := c_18
        show mp_W E X 3 34 [(0, .ref a0), (1, .int x0)] [] w1_ 0 0
        refine mp_run mp_k_cX10_whyNoThreat_ok hF mp_tabX10_ok [mp_c (.bipush (-2)) (-2)] (by decide +kernel) ?_
        show mp_W E X 3 36 [(0, .ref a0), (1, .int x0)] [.int (-2)] w1_ 0 0
        exact mp_iret hF hQ rfl rfl (Nat.le_of_ble_eq_true rfl) (Nat.le_of_ble_eq_true rfl) [0, 1, 2, 3] (w' := w1_) rfl rfl (Or.inl ⟨rfl, (by first | exact Or.inl (by omega) | exact Or.inr ⟨by (first | exact x_7 | omega), by (first | exact mp_o214 e_12 c_13 | omega), Or.inl (by (first | exact mp_o796 c_18 e_17 | omega))⟩), rfl⟩) (by first | exact mp_fd_ok mp_k_cX10_whyNoThreat_ok (by decide +kernel) | decide +kernel)
    · have c_13 : z_10.toInt = (-1) := (congrArg Int32.toInt c_13)
      show mp_W E X 3 20 [(0, .ref a0), (1, .int x0)] [] w1_ 0 0
      refine mp_run mp_k_cX10_whyNoThreat_ok hF mp_tabX10_ok [mp_c (.bipush (-6)) (-6)] (by decide +kernel) ?_
      show mp_W E X 3 22 [(0, .ref a0), (1, .int x0)] [.int (-6)] w1_ 0 0
      exact mp_iret hF hQ rfl rfl (Nat.le_of_ble_eq_true rfl) (Nat.le_of_ble_eq_true rfl) [0, 1, 2, 3] (w' := w1_) rfl rfl (Or.inr (Or.inr ⟨rfl, (by first | (first | exact c_5 | omega) | decide), (by first | (first | exact c_6 | omega) | decide), (by first | (first | exact mp_o942 c_5 c_6 c_13 e_12 | omega) | (have h8 : (0 : Int64).toInt = 0 := rfl; have h9 : (3 : Int64).toInt = 3 := rfl; have h10 : (0 : Int32).toInt = 0 := rfl; have h11 : (3 : Int32).toInt = 3 := rfl; have h12 : (60 : Int32).toInt = 60 := rfl; have h13 : (-1 : Int32).toInt = -1 := rfl; omega)), rfl⟩)) (by first | exact mp_fd_ok mp_k_cX10_whyNoThreat_ok (by decide +kernel) | decide +kernel)
set_option maxHeartbeats 4000000 in
set_option maxRecDepth 100000 in
theorem bX10_laysNimbers_147 (E : mp_E) (a0 a1 a2 a3 a4 a5 a6 a7 a8 a9 a10 a11 a12 a13 a14 a15 a16 a17 a18 a19 a20 a21 a22 a23 a24 a25 : Nat) (f0 : Nat → Int32) (y0 : Int32) (y1 : Int32) (y2 : Int32) (y3 : Int32) (y4 : Int32) (y5 : Int32) (y6 : Int64) (y7 : Int32) (y8 : Int32) (y9 : Int32) (y10 : Int32) (y11 : Int32) (y12 : Int32) (y13 : Int32) (y14 : Int32) (y15 : Int32) (y16 : Int32) (y17 : Int32) (y18 : Int32) (y19 : Int32) (y20 : Int32) (y21 : Int32) (l_y1 : 0 ≤ y1.toInt) (u_y1 : y1.toInt ≤ 1600) (l_y2 : 0 ≤ y2.toInt) (u_y2 : y2.toInt ≤ 1600) (l_y3 : 0 ≤ y3.toInt) (u_y3 : y3.toInt ≤ 4) (l_y4 : 0 ≤ y4.toInt) (u_y4 : y4.toInt ≤ 1600) (l_y11 : 0 ≤ y11.toInt) (u_y11 : y11.toInt ≤ 99) (l_y12 : 0 ≤ y12.toInt) (u_y12 : y12.toInt ≤ 5) (l_y13 : 0 ≤ y13.toInt) (u_y13 : y13.toInt ≤ 12) : mp_Ct E yX10_laysNimbers cX10_laysNimbers 5 none 0 0 0 0 [.ref a0] [(mp_ob10 a0 y0 a2 a3 a4 a5 a6 y1 y2 y3 y4 y5 y6 y7 y8 y9 y10 a7 a8 a9 a10 a11 a12 a13 a14 y11 a15 a16 a17 a18 y12 y13 y14 a19 a20 y15 y16 a21 a22 a23 y17 y18 y19 y20 a24 a25 a1 y21), (mp_arI E a1 0 100 f0)] (fun v w' => ∃ h1 : Nat → Int32, v = none ∧ (∀ j : Nat, (j : Int) < 100 → h1 j = mp_nim j) ∧ w' = [(mp_ob10 a0 y0 a2 a3 a4 a5 a6 y1 y2 y3 y4 y5 y6 y7 y8 y9 y10 a7 a8 a9 a10 a11 a12 a13 a14 y11 a15 a16 a17 a18 y12 y13 y14 a19 a20 y15 y16 a21 a22 a23 y17 y18 y19 y20 a24 a25 a1 y21), (mp_arI E a1 0 100 h1)]) := by
  refine mp_met false (by decide) (by decide) (Nat.le_of_ble_eq_true rfl) (fun X hF hQ => ?_)
  have hF : mp_F E X (RX10, cX10_laysNimbers, 5, (0, 0, 0, 0), none, false) := hF
  let w1_ : va_W := [(mp_ob10 a0 y0 a2 a3 a4 a5 a6 y1 y2 y3 y4 y5 y6 y7 y8 y9 y10 a7 a8 a9 a10 a11 a12 a13 a14 y11 a15 a16 a17 a18 y12 y13 y14 a19 a20 y15 y16 a21 a22 a23 y17 y18 y19 y20 a24 a25 a1 y21), (mp_arI E a1 0 100 f0)]
  show mp_W E X 5 0 [(0, .ref a0)] [] w1_ 0 0
  refine mp_run mp_k_cX10_laysNimbers_ok hF mp_tabX10_ok [mp_i (.aload_n 0), mp_h (.getfield 89) [45, 0], mp_c (.iconst 0) 0, mp_c (.iconst 0) 0, mp_h .iastore [1]] (by decide +kernel) ?_
  refine And.intro rfl (And.intro rfl ?_)
  refine And.intro rfl (And.intro rfl (And.intro (vp_in_iff.mpr (by decide)) ?_))
  intro g_1 h_2
  let w2_ : va_W := [(mp_ob10 a0 y0 a2 a3 a4 a5 a6 y1 y2 y3 y4 y5 y6 y7 y8 y9 y10 a7 a8 a9 a10 a11 a12 a13 a14 y11 a15 a16 a17 a18 y12 y13 y14 a19 a20 y15 y16 a21 a22 a23 y17 y18 y19 y20 a24 a25 a1 y21), (mp_arI E a1 0 100 g_1)]
  show mp_W E X 5 7 [(0, .ref a0)] [] w2_ 0 0
  refine mp_run mp_k_cX10_laysNimbers_ok hF mp_tabX10_ok [mp_c (.iconst 1) 1, mp_i (.istore_n 1)] (by decide +kernel) ?_
  show mp_W E X 5 9 [(1, .int 1), (0, .ref a0)] [] w2_ 0 0
  have lp_9 : ∀ (d_10 : Nat) (i_3 : Int32) (g_4 : Nat → Int32), 1 ≤ i_3.toInt → i_3.toInt ≤ 100 → (∀ j : Nat, (j : Int) < i_3.toInt → g_4 j = mp_nim j) → (i_3.toInt ≤ 100) → -(i_3.toInt) + 100 ≤ (d_10 : Int) → mp_W E X 5 9 [(1, .int i_3), (0, .ref a0)] [] [(mp_ob10 a0 y0 a2 a3 a4 a5 a6 y1 y2 y3 y4 y5 y6 y7 y8 y9 y10 a7 a8 a9 a10 a11 a12 a13 a14 y11 a15 a16 a17 a18 y12 y13 y14 a19 a20 y15 y16 a21 a22 a23 y17 y18 y19 y20 a24 a25 a1 y21), (mp_arI E a1 0 100 g_4)] 0 0 := by
    intro d_10
    induction d_10 using Nat.strongRecOn with
    | ind d_10 ih_11 =>
      intro i_3 g_4 l_5 u_6 x_7 x_8 hm_12
      refine mp_run mp_k_cX10_laysNimbers_ok hF mp_tabX10_ok [mp_i (.iload_n 1), mp_c (.bipush 100) 100, mp_h (.if_icmp .ge 56) [68]] (by decide +kernel) ?_
      refine And.intro (fun c_13 => ?_) (fun c_13 => ?_)
      · have c_13 : 100 ≤ i_3.toInt := c_13
        let w3_ : va_W := [(mp_ob10 a0 y0 a2 a3 a4 a5 a6 y1 y2 y3 y4 y5 y6 y7 y8 y9 y10 a7 a8 a9 a10 a11 a12 a13 a14 y11 a15 a16 a17 a18 y12 y13 y14 a19 a20 y15 y16 a21 a22 a23 y17 y18 y19 y20 a24 a25 a1 y21), (mp_arI E a1 0 100 g_4)]
        show mp_W E X 5 68 [(1, .int i_3), (0, .ref a0)] [] w3_ 0 0
        exact mp_vret hF hQ rfl (Nat.le_of_ble_eq_true rfl) (Nat.le_of_ble_eq_true rfl) [0, 1] (w' := w3_) rfl rfl ⟨g_4, rfl, (fun j hj => x_7 j (by (first | exact mp_o1817 hj c_13 | omega))), rfl⟩ (by first | exact mp_fd_ok mp_k_cX10_laysNimbers_ok (by decide +kernel) | decide +kernel)
      · have c_13 : i_3.toInt < 100 := c_13
        let w4_ : va_W := [(mp_ob10 a0 y0 a2 a3 a4 a5 a6 y1 y2 y3 y4 y5 y6 y7 y8 y9 y10 a7 a8 a9 a10 a11 a12 a13 a14 y11 a15 a16 a17 a18 y12 y13 y14 a19 a20 y15 y16 a21 a22 a23 y17 y18 y19 y20 a24 a25 a1 y21), (mp_arI E a1 0 100 g_4)]
        show mp_W E X 5 15 [(1, .int i_3), (0, .ref a0)] [] w4_ 0 0
        refine mp_run mp_k_cX10_laysNimbers_ok hF mp_tabX10_ok [mp_i (.aload_n 0), mp_h (.getfield 89) [45, 0], mp_i (.iload_n 1), mp_c (.iconst 1) 1, mp_i .isub, mp_h .iaload [1], mp_i (.istore_n 2), mp_i (.aload_n 0), mp_h (.getfield 89) [45, 0], mp_i (.iload_n 1), mp_c (.iconst 2) 2, mp_i .idiv, mp_h .iaload [1], mp_i (.istore_n 3), mp_c (.iconst 0) 0, mp_i (.istore 4)] (by decide +kernel) ?_
        refine And.intro rfl (And.intro rfl ?_)
        intro z_14 h_15
        have e_16 : z_14.toInt = i_3.toInt - 1 := mp_subi (a := i_3.toInt) (b := 1) h_15 rfl (by decide) (by (first | exact mp_o617 l_5 | omega)) (by (first | exact mp_o1818 c_13 | omega))
        refine And.intro rfl (And.intro rfl (And.intro (vp_in_iff.mpr (by (first | exact mp_o1819 l_5 e_16 c_13 | omega))) ?_))
        intro z_17 h_18
        refine And.intro rfl (And.intro rfl ?_)
        refine And.intro (by decide) ?_
        intro z_19 h_20
        have e_21 : z_19.toInt = i_3.toInt / 2 := mp_div (a := i_3.toInt) (b := 2) h_20 rfl (by decide) (by (first | exact mp_o254 l_5 | omega)) (by decide)
        refine And.intro rfl (And.intro rfl (And.intro (vp_in_iff.mpr (by (first | exact mp_o1820 l_5 e_21 c_13 | omega))) ?_))
        intro z_22 h_23
        show mp_W E X 5 36 [(4, .int 0), (3, .int z_22), (2, .int z_17), (1, .int i_3), (0, .ref a0)] [] w4_ 0 0
        have lp_26 : ∀ (d_27 : Nat) (i_24 : Int32), (i_24.toInt = 0 ∨ (i_24.toInt = 1 ∧ (z_17.toInt = 0 ∨ z_22.toInt = 0)) ∨ (i_24.toInt = 2 ∧ ((z_17.toInt = 0 ∧ z_22.toInt = 1) ∨ (z_17.toInt = 1 ∧ z_22.toInt = 0)))) → 3 - i_24.toInt ≤ (d_27 : Int) → mp_W E X 5 36 [(4, .int i_24), (3, .int z_22), (2, .int z_17), (1, .int i_3), (0, .ref a0)] [] [(mp_ob10 a0 y0 a2 a3 a4 a5 a6 y1 y2 y3 y4 y5 y6 y7 y8 y9 y10 a7 a8 a9 a10 a11 a12 a13 a14 y11 a15 a16 a17 a18 y12 y13 y14 a19 a20 y15 y16 a21 a22 a23 y17 y18 y19 y20 a24 a25 a1 y21), (mp_arI E a1 0 100 g_4)] 0 0 := by
          intro d_27
          induction d_27 using Nat.strongRecOn with
          | ind d_27 ih_28 =>
            intro i_24 x_25 hm_29
            refine mp_run mp_k_cX10_laysNimbers_ok hF mp_tabX10_ok [mp_i (.iload 4), mp_i (.iload_n 2), mp_h (.if_icmp .eq 9) [48]] (by decide +kernel) ?_
            refine And.intro (fun c_30 => ?_) (fun c_30 => ?_)
            · have c_30 : i_24.toInt = z_17.toInt := (congrArg Int32.toInt c_30)
              show mp_W E X 5 48 [(4, .int i_24), (3, .int z_22), (2, .int z_17), (1, .int i_3), (0, .ref a0)] [] w4_ 0 0
              refine mp_run mp_k_cX10_laysNimbers_ok hF mp_tabX10_ok [mp_c (.iinc 4 1) 1, mp_h (.goto (-15)) [36]] (by decide +kernel) ?_
              intro z_31 h_32
              have e_33 : z_31.toInt = i_24.toInt + 1 := mp_add (a := i_24.toInt) (b := 1) h_32 rfl (by decide) (by (first | exact mp_o1821 x_25 | omega)) (by (first | exact mp_o1822 x_25 | omega))
              show mp_W E X 5 36 [(4, .int z_31), (3, .int z_22), (2, .int z_17), (1, .int i_3), (0, .ref a0)] [] w4_ 0 0
              exact mp_sub [0, 1, 2, 3, 4] rfl [0, 1] rfl rfl (ih_28 (d_27 - 1) (by (first | exact mp_o1823 hm_29 x_25 | omega)) z_31 (by first | (first | exact mp_o1824 c_30 x_25 e_33 | omega) | decide | (show z_31.toInt = 0 ∨ (z_31.toInt = 1 ∧ (z_17.toInt = 0 ∨ z_22.toInt = 0)) ∨ (z_31.toInt = 2 ∧ ((z_17.toInt = 0 ∧ z_22.toInt = 1) ∨ (z_17.toInt = 1 ∧ z_22.toInt = 0))); first | fail | decide)) (by (first | exact mp_o1825 hm_29 e_33 | omega)))
            · have c_30 : i_24.toInt ≠ z_17.toInt := c_30
              show mp_W E X 5 42 [(4, .int i_24), (3, .int z_22), (2, .int z_17), (1, .int i_3), (0, .ref a0)] [] w4_ 0 0
              refine mp_run mp_k_cX10_laysNimbers_ok hF mp_tabX10_ok [mp_i (.iload 4), mp_i (.iload_n 3), mp_h (.if_icmp .ne 9) [54]] (by decide +kernel) ?_
              refine And.intro (fun c_34 => ?_) (fun c_34 => ?_)
              · have c_34 : i_24.toInt ≠ z_22.toInt := c_34
                show mp_W E X 5 54 [(4, .int i_24), (3, .int z_22), (2, .int z_17), (1, .int i_3), (0, .ref a0)] [] w4_ 0 0
                refine mp_run mp_k_cX10_laysNimbers_ok hF mp_tabX10_ok [mp_i (.aload_n 0), mp_h (.getfield 89) [45, 0], mp_i (.iload_n 1), mp_i (.iload 4), mp_h .iastore [1]] (by decide +kernel) ?_
                refine And.intro rfl (And.intro rfl ?_)
                refine And.intro rfl (And.intro rfl (And.intro (vp_in_iff.mpr (by (first | exact mp_o1826 l_5 c_13 | omega))) ?_))
                intro g_35 h_36
                let w5_ : va_W := [(mp_ob10 a0 y0 a2 a3 a4 a5 a6 y1 y2 y3 y4 y5 y6 y7 y8 y9 y10 a7 a8 a9 a10 a11 a12 a13 a14 y11 a15 a16 a17 a18 y12 y13 y14 a19 a20 y15 y16 a21 a22 a23 y17 y18 y19 y20 a24 a25 a1 y21), (mp_arI E a1 0 100 g_35)]
                show mp_W E X 5 62 [(4, .int i_24), (3, .int z_22), (2, .int z_17), (1, .int i_3), (0, .ref a0)] [] w5_ 0 0
                refine mp_run mp_k_cX10_laysNimbers_ok hF mp_tabX10_ok [mp_c (.iinc 1 1) 1, mp_h (.goto (-56)) [9]] (by decide +kernel) ?_
                intro z_37 h_38
                have e_39 : z_37.toInt = i_3.toInt + 1 := mp_add (a := i_3.toInt) (b := 1) h_38 rfl (by decide) (by (first | exact mp_o457 l_5 | omega)) (by (first | exact mp_o1521 c_13 | omega))
                show mp_W E X 5 9 [(1, .int z_37), (4, .int i_24), (3, .int z_22), (2, .int z_17), (0, .ref a0)] [] w5_ 0 0
                exact mp_sub [0, 4] rfl [0, 1] rfl rfl (ih_11 (d_10 - 1) (by (first | exact mp_o1522 hm_12 c_13 | omega)) z_37 g_35 (by (first | exact mp_o458 l_5 e_39 | omega)) (by (first | exact mp_o1523 c_13 e_39 | omega)) (mp_nim_st x_7 h_36 (by (first | exact mp_o19 | omega)) (by (first | exact l_5 | omega)) (by rw [← show z_17 = _ from h_18.trans (congrArg _ (show z_14.toNatClampNeg = (i_3.toInt - 1).toNat by simp only [Int32.toNatClampNeg] <;> (first | exact mp_o812 e_16 | omega))), ← show z_22 = _ from h_23.trans (congrArg _ (show z_19.toNatClampNeg = (i_3.toInt / 2).toNat by simp only [Int32.toNatClampNeg] <;> (first | exact mp_o814 e_21 | omega)))]; exact mp_mex_of (by (first | exact x_25 | omega)) (by (first | exact c_30 | omega)) (by (first | exact c_34 | omega))) (by (first | exact e_39 | omega))) (by (first | exact mp_o1523 c_13 e_39 | omega)) (by (first | exact mp_o435 hm_12 e_39 | omega)))
              · have c_34 : i_24.toInt = z_22.toInt := (congrArg Int32.toInt c_34)
                show mp_W E X 5 48 [(4, .int i_24), (3, .int z_22), (2, .int z_17), (1, .int i_3), (0, .ref a0)] [] w4_ 0 0
                refine mp_run mp_k_cX10_laysNimbers_ok hF mp_tabX10_ok [mp_c (.iinc 4 1) 1, mp_h (.goto (-15)) [36]] (by decide +kernel) ?_
                intro z_40 h_41
                have e_42 : z_40.toInt = i_24.toInt + 1 := mp_add (a := i_24.toInt) (b := 1) h_41 rfl (by decide) (by (first | exact mp_o1821 x_25 | omega)) (by (first | exact mp_o1822 x_25 | omega))
                show mp_W E X 5 36 [(4, .int z_40), (3, .int z_22), (2, .int z_17), (1, .int i_3), (0, .ref a0)] [] w4_ 0 0
                exact mp_sub [0, 1, 2, 3, 4] rfl [0, 1] rfl rfl (ih_28 (d_27 - 1) (by (first | exact mp_o1823 hm_29 x_25 | omega)) z_40 (by first | (first | exact mp_o1827 c_34 x_25 e_42 | omega) | decide | (show z_40.toInt = 0 ∨ (z_40.toInt = 1 ∧ (z_17.toInt = 0 ∨ z_22.toInt = 0)) ∨ (z_40.toInt = 2 ∧ ((z_17.toInt = 0 ∧ z_22.toInt = 1) ∨ (z_17.toInt = 1 ∧ z_22.toInt = 0))); first | fail | decide)) (by (first | exact mp_o1825 hm_29 e_42 | omega)))
        exact mp_sub [0, 1, 2, 3, 4] rfl [0, 1] rfl rfl (lp_26 _ 0 (by first | fail | decide | (show 0 = 0 ∨ (0 = 1 ∧ (z_17.toInt = 0 ∨ z_22.toInt = 0)) ∨ (0 = 2 ∧ ((z_17.toInt = 0 ∧ z_22.toInt = 1) ∨ (z_17.toInt = 1 ∧ z_22.toInt = 0))); first | (first | exact mp_o1828 | omega) | decide)) (Int.self_le_toNat _))
  exact mp_sub [0, 1] rfl [0, 1] rfl rfl (lp_9 _ 1 g_1 (by decide) (by decide) (mp_nim_z h_2 (by first | decide | omega) (by first | decide | omega)) (by first | fail | decide) (Int.self_le_toNat _))
set_option maxHeartbeats 4000000 in
set_option maxRecDepth 100000 in
theorem bX10_xorOf_148 (E : mp_E) (a0 a1 a2 a3 a4 a5 a6 a7 a8 a9 a10 a11 a12 a13 a14 a15 a16 a17 a18 a19 a20 a21 a22 a23 a24 a25 : Nat) (f0 : Nat → Int32) (f1 : Nat → Int32) (f2 : Nat → Int64) (f3 : Nat → Int32) (y0 : Int32) (y1 : Int32) (y2 : Int32) (y3 : Int32) (y4 : Int32) (y5 : Int32) (y6 : Int64) (y7 : Int32) (y8 : Int32) (y9 : Int32) (y10 : Int32) (y11 : Int32) (y12 : Int32) (y13 : Int32) (y14 : Int32) (y15 : Int32) (y16 : Int32) (y17 : Int32) (y18 : Int32) (y19 : Int32) (y20 : Int32) (y21 : Int32) (x0 : Int32) (p0 : mp_all f1 4 0 60) (l_x0 : 0 ≤ x0.toInt) (u_x0 : x0.toInt ≤ 3) (l_y1 : 0 ≤ y1.toInt) (u_y1 : y1.toInt ≤ 1600) (l_y2 : 0 ≤ y2.toInt) (u_y2 : y2.toInt ≤ 1600) (l_y3 : 0 ≤ y3.toInt) (u_y3 : y3.toInt ≤ 4) (l_y4 : 0 ≤ y4.toInt) (u_y4 : y4.toInt ≤ 1600) (l_y11 : 0 ≤ y11.toInt) (u_y11 : y11.toInt ≤ 99) (l_y12 : 0 ≤ y12.toInt) (u_y12 : y12.toInt ≤ 5) (l_y13 : 0 ≤ y13.toInt) (u_y13 : y13.toInt ≤ 12) (q0 : mp_c99 f2 x0.toInt (f1 x0.toInt.toNat).toInt) : mp_Ct E yX10_xorOf cX10_xorOf 4 (some FieldType.int) 1 0 0 24 [.ref a0, .int x0] [(mp_ob10 a0 y0 a1 a2 a3 a5 a6 y1 y2 y3 y4 y5 y6 y7 y8 y9 y10 a7 a8 a9 a10 a11 a12 a13 a14 y11 a15 a16 a17 a18 y12 y13 y14 a19 a20 y15 y16 a21 a22 a23 y17 y18 y19 y20 a24 a25 a4 y21), (mp_arI E a1 0 4 f0), (mp_arI E a2 0 4 f1), (mp_arL E a3 240 f2), (mp_arI E a4 0 100 f3)] (fun v w' => ∃ h1 : Nat → Int32, ∃ r2 : Int32, v = some (.int r2) ∧ (r2 = mp_xr (fun j : Nat => (f2 (60 * x0.toInt.toNat + j)).toInt32) (f1 x0.toInt.toNat).toInt.toNat) ∧ (∀ j : Nat, (j : Int) < 100 → h1 j = mp_nim j) ∧ w' = [(mp_ob10 a0 y0 a1 a2 a3 a5 a6 y1 y2 y3 y4 y5 y6 y7 y8 y9 y10 a7 a8 a9 a10 a11 a12 a13 a14 y11 a15 a16 a17 a18 y12 y13 y14 a19 a20 y15 y16 a21 a22 a23 y17 y18 y19 y20 a24 a25 a4 y21), (mp_arI E a1 0 4 f0), (mp_arI E a2 0 4 f1), (mp_arL E a3 240 f2), (mp_arI E a4 0 100 h1)]) := by
  refine mp_met false (by decide) (by decide) (Nat.le_of_ble_eq_true rfl) (fun X hF hQ => ?_)
  have hF : mp_F E X (RX10, cX10_xorOf, 4, (1, 0, 0, 24), (some FieldType.int), false) := hF
  let w1_ : va_W := [(mp_ob10 a0 y0 a1 a2 a3 a5 a6 y1 y2 y3 y4 y5 y6 y7 y8 y9 y10 a7 a8 a9 a10 a11 a12 a13 a14 y11 a15 a16 a17 a18 y12 y13 y14 a19 a20 y15 y16 a21 a22 a23 y17 y18 y19 y20 a24 a25 a4 y21), (mp_arI E a1 0 4 f0), (mp_arI E a2 0 4 f1), (mp_arL E a3 240 f2), (mp_arI E a4 0 100 f3)]
  show mp_W E X 4 0 [(0, .ref a0), (1, .int x0)] [] w1_ 0 0
  refine mp_run mp_k_cX10_xorOf_ok hF mp_tabX10_ok [mp_i (.aload_n 0)] (by decide +kernel) ?_
  show mp_W E X 4 1 [(0, .ref a0), (1, .int x0)] [.ref a0] w1_ 0 0
  refine mp_callV hF (As := []) (rest := []) (wr := [(mp_arI E a1 0 4 f0), (mp_arI E a2 0 4 f1), (mp_arL E a3 240 f2)]) (bX10_laysNimbers_147 E a0 a4 a1 a2 a3 a5 a6 a7 a8 a9 a10 a11 a12 a13 a14 a15 a16 a17 a18 a19 a20 a21 a22 a23 a24 a25 f3 y0 y1 y2 y3 y4 y5 y6 y7 y8 y9 y10 y11 y12 y13 y14 y15 y16 y17 y18 y19 y20 y21 l_y1 u_y1 l_y2 u_y2 l_y3 u_y3 l_y4 u_y4 l_y11 u_y11 l_y12 u_y12 l_y13 u_y13) mp_lkX10_441 0 rfl [0, 4] [1, 2, 3] rfl rfl rfl rfl rfl ⟨(Nat.le_of_ble_eq_true rfl), (Nat.le_of_ble_eq_true rfl), (Nat.le_of_ble_eq_true rfl), (Nat.le_of_ble_eq_true rfl)⟩ (Nat.le_of_ble_eq_true rfl) (by first | exact mp_fd_ok mp_k_cX10_xorOf_ok (by decide +kernel) | decide +kernel) (fun v_1 w_2 h_3 => ?_)
  obtain ⟨g_4, rfl, x_5, rfl⟩ := h_3
  let w2_ : va_W := [(mp_arI E a1 0 4 f0), (mp_arI E a2 0 4 f1), (mp_arL E a3 240 f2), (mp_ob10 a0 y0 a1 a2 a3 a5 a6 y1 y2 y3 y4 y5 y6 y7 y8 y9 y10 a7 a8 a9 a10 a11 a12 a13 a14 y11 a15 a16 a17 a18 y12 y13 y14 a19 a20 y15 y16 a21 a22 a23 y17 y18 y19 y20 a24 a25 a4 y21), (mp_arI E a4 0 100 g_4)]
  show mp_W E X 4 4 [(0, .ref a0), (1, .int x0)] [] w2_ 0 0
  refine mp_run mp_k_cX10_xorOf_ok hF mp_tabX10_ok [mp_c (.iconst 0) 0, mp_i (.istore_n 2), mp_c (.iconst 0) 0, mp_i (.istore_n 3)] (by decide +kernel) ?_
  show mp_W E X 4 8 [(3, .int 0), (2, .int 0), (0, .ref a0), (1, .int x0)] [] w2_ 0 0
  have lp_13 : ∀ (d_14 : Nat) (i_6 : Int32) (i_7 : Int32), 0 ≤ i_6.toInt → i_6.toInt ≤ 60 → (i_7 = mp_xr (fun j : Nat => (f2 (60 * x0.toInt.toNat + j)).toInt32) i_6.toInt.toNat) → (0 ≤ i_6.toInt) → (i_6.toInt ≤ (f1 x0.toInt.toNat).toInt ∨ i_6.toInt = 0) → (f1 x0.toInt.toNat).toInt - i_6.toInt ≤ (d_14 : Int) → mp_W E X 4 8 [(3, .int i_6), (2, .int i_7), (0, .ref a0), (1, .int x0)] [] [(mp_arI E a1 0 4 f0), (mp_arI E a2 0 4 f1), (mp_arL E a3 240 f2), (mp_ob10 a0 y0 a1 a2 a3 a5 a6 y1 y2 y3 y4 y5 y6 y7 y8 y9 y10 a7 a8 a9 a10 a11 a12 a13 a14 y11 a15 a16 a17 a18 y12 y13 y14 a19 a20 y15 y16 a21 a22 a23 y17 y18 y19 y20 a24 a25 a4 y21), (mp_arI E a4 0 100 g_4)] 0 0 := by
    intro d_14
    induction d_14 using Nat.strongRecOn with
    | ind d_14 ih_15 =>
      intro i_6 i_7 l_8 u_9 x_10 x_11 x_12 hm_16
      refine mp_run mp_k_cX10_xorOf_ok hF mp_tabX10_ok [mp_i (.iload_n 3), mp_i (.aload_n 0), mp_h (.getfield 13) [2, 3], mp_i (.iload_n 1), mp_h .iaload [1], mp_h (.if_icmp .ge 29) [44]] (by decide +kernel) ?_
      refine And.intro rfl (And.intro rfl ?_)
      refine And.intro rfl (And.intro rfl (And.intro (vp_in_iff.mpr (by (first | exact mp_o637 l_x0 u_x0 | omega))) ?_))
      intro z_17 h_18
      have e_19 : 0 ≤ z_17.toInt ∧ z_17.toInt ≤ 60 := mp_all_ld h_18 p0 (by (first | exact l_x0 | omega)) (by (first | exact mp_o638 u_x0 | omega))
      have e_20 : z_17.toInt = (f1 x0.toInt.toNat).toInt := congrArg Int32.toInt h_18
      refine And.intro (fun c_21 => ?_) (fun c_21 => ?_)
      · have c_21 : z_17.toInt ≤ i_6.toInt := c_21
        show mp_W E X 4 44 [(3, .int i_6), (2, .int i_7), (0, .ref a0), (1, .int x0)] [] w2_ 0 0
        refine mp_run mp_k_cX10_xorOf_ok hF mp_tabX10_ok [mp_i (.iload_n 2)] (by decide +kernel) ?_
        show mp_W E X 4 45 [(3, .int i_6), (2, .int i_7), (0, .ref a0), (1, .int x0)] [.int i_7] w2_ 0 0
        exact mp_iret hF hQ rfl rfl (Nat.le_of_ble_eq_true rfl) (Nat.le_of_ble_eq_true rfl) [3, 0, 1, 2, 4] (w' := [(mp_ob10 a0 y0 a1 a2 a3 a5 a6 y1 y2 y3 y4 y5 y6 y7 y8 y9 y10 a7 a8 a9 a10 a11 a12 a13 a14 y11 a15 a16 a17 a18 y12 y13 y14 a19 a20 y15 y16 a21 a22 a23 y17 y18 y19 y20 a24 a25 a4 y21), (mp_arI E a1 0 4 f0), (mp_arI E a2 0 4 f1), (mp_arL E a3 240 f2), (mp_arI E a4 0 100 g_4)]) rfl rfl ⟨g_4, i_7, rfl, (by rw [x_10, show i_6.toInt.toNat = (f1 x0.toInt.toNat).toInt.toNat from by (first | exact mp_o1829 x_12 e_20 c_21 | omega)]), x_5, rfl⟩ (by first | exact mp_fd_ok mp_k_cX10_xorOf_ok (by decide +kernel) | decide +kernel)
      · have c_21 : i_6.toInt < z_17.toInt := c_21
        show mp_W E X 4 18 [(3, .int i_6), (2, .int i_7), (0, .ref a0), (1, .int x0)] [] w2_ 0 0
        refine mp_run mp_k_cX10_xorOf_ok hF mp_tabX10_ok [mp_i (.iload_n 2), mp_i (.aload_n 0), mp_h (.getfield 89) [45, 3], mp_i (.aload_n 0), mp_h (.getfield 16) [3, 3], mp_c (.bipush 60) 60, mp_i (.iload_n 1), mp_i .imul, mp_i (.iload_n 3), mp_i .iadd, mp_h .laload [2], mp_i .l2i, mp_h .iaload [4], mp_i .ixor, mp_i (.istore_n 2), mp_c (.iinc 3 1) 1, mp_h (.goto (-33)) [8]] (by decide +kernel) ?_
        refine And.intro rfl (And.intro rfl ?_)
        refine And.intro rfl (And.intro rfl ?_)
        intro z_22 h_23
        have e_24 : z_22.toInt = 60 * x0.toInt := mp_mul (a := 60) (b := x0.toInt) h_23 (by decide) rfl (by (first | exact mp_o926 l_x0 | omega)) (by (first | exact mp_o927 u_x0 | omega))
        intro z_25 h_26
        have e_27 : z_25.toInt = z_22.toInt + i_6.toInt := mp_add (a := z_22.toInt) (b := i_6.toInt) h_26 rfl rfl (by (first | exact mp_o928 l_8 l_x0 e_24 | omega)) (by (first | exact mp_o929 u_9 u_x0 e_24 | omega))
        refine And.intro rfl (And.intro rfl (And.intro (vp_in_iff.mpr (by (first | exact mp_o1739 l_x0 u_x0 l_8 e_24 e_27 c_21 e_19 | omega))) ?_))
        intro z_28 h_29
        have e_30 := mp_c99_ld (f := f2) (slot := x0.toInt) (n := (f1 x0.toInt.toNat).toInt) (i := i_6.toInt) (by assumption) h_29 (by (first | exact mp_o1754 e_24 e_27 | omega)) (by (first | exact l_x0 | omega)) (by (first | exact x_11 | omega)) (by (first | exact mp_o1535 e_20 c_21 | omega))
        intro z_31 h_32
        have e_33 : z_31.toInt = z_28.toInt := mp_l2i h_32 (by (first | exact mp_o1830 e_30 | omega)) (by (first | exact mp_o1831 e_30 | omega))
        refine And.intro rfl (And.intro rfl (And.intro (vp_in_iff.mpr (by (first | exact mp_o1832 e_33 e_30 | omega))) ?_))
        intro z_34 h_35
        intro z_36 h_37
        intro z_39 h_40
        have e_41 : z_39.toInt = i_6.toInt + 1 := mp_add (a := i_6.toInt) (b := 1) h_40 rfl (by decide) (by (first | exact mp_o2 l_8 | omega)) (by (first | exact mp_o343 u_9 | omega))
        show mp_W E X 4 8 [(3, .int z_39), (2, .int z_36), (0, .ref a0), (1, .int x0)] [] w2_ 0 0
        exact mp_sub [0, 1, 2, 3] rfl [0, 1, 2, 3, 4] rfl rfl (ih_15 (d_14 - 1) (by (first | exact mp_o1454 hm_16 e_20 c_21 | omega)) z_39 z_36 (by (first | exact mp_o51 l_8 e_41 | omega)) (by (first | exact mp_o1455 e_41 c_21 e_19 | omega)) (mp_xr_s x_10 (by have k1 : z_34 = mp_nim z_31.toInt.toNat := h_35.trans (x_5 z_31.toInt.toNat (by (first | exact mp_o1833 e_33 e_30 | omega))); have k2 := h_32; have k3 := show z_28 = _ from h_29.trans (congrArg _ (show z_25.toNatClampNeg = 60 * x0.toInt.toNat + i_6.toInt.toNat by simp only [Int32.toNatClampNeg] <;> (first | exact mp_o1834 l_x0 l_8 e_24 e_27 | omega))); rw [h_37, k1, h_32, k3]) (by (first | exact mp_o53 l_8 e_41 | omega))) (by (first | exact mp_o51 l_8 e_41 | omega)) (by (first | exact mp_o1835 e_20 c_21 e_41 | omega)) (by (first | exact mp_o77 hm_16 e_41 | omega)))
  exact mp_sub [0, 1, 2, 3] rfl [0, 1, 2, 3, 4] rfl rfl (lp_13 _ 0 0 (by decide) (by decide) rfl (by decide) (Or.inr (by first | rfl | decide | omega)) (Int.self_le_toNat _))
set_option maxHeartbeats 4000000 in
set_option maxRecDepth 100000 in
theorem bX10_wins_149 (E : mp_E) (a0 a1 a2 a3 a4 a5 a6 a7 a8 a9 a10 a11 a12 a13 a14 a15 a16 a17 a18 a19 a20 a21 a22 a23 a24 a25 : Nat) (f0 : Nat → Int32) (f1 : Nat → Int32) (f2 : Nat → Int64) (f3 : Nat → Int32) (y0 : Int32) (y1 : Int32) (y2 : Int32) (y3 : Int32) (y4 : Int32) (y5 : Int32) (y6 : Int64) (y7 : Int32) (y8 : Int32) (y9 : Int32) (y10 : Int32) (y11 : Int32) (y12 : Int32) (y13 : Int32) (y14 : Int32) (y15 : Int32) (y16 : Int32) (y17 : Int32) (y18 : Int32) (y19 : Int32) (y20 : Int32) (y21 : Int32) (x0 : Int32) (p0 : mp_all f1 4 0 60) (l_y1 : 0 ≤ y1.toInt) (u_y1 : y1.toInt ≤ 1600) (l_y2 : 0 ≤ y2.toInt) (u_y2 : y2.toInt ≤ 1600) (l_y3 : 0 ≤ y3.toInt) (u_y3 : y3.toInt ≤ 4) (l_y4 : 0 ≤ y4.toInt) (u_y4 : y4.toInt ≤ 1600) (l_y11 : 0 ≤ y11.toInt) (u_y11 : y11.toInt ≤ 99) (l_y12 : 0 ≤ y12.toInt) (u_y12 : y12.toInt ≤ 5) (l_y13 : 0 ≤ y13.toInt) (u_y13 : y13.toInt ≤ 12) : mp_Ct E yX10_wins cX10_wins 3 (some FieldType.int) 3 0 0 67 [.ref a0, .int x0] [(mp_ob10 a0 y0 a1 a2 a3 a5 a6 y1 y2 y3 y4 y5 y6 y7 y8 y9 y10 a7 a8 a9 a10 a11 a12 a13 a14 y11 a15 a16 a17 a18 y12 y13 y14 a19 a20 y15 y16 a21 a22 a23 y17 y18 y19 y20 a24 a25 a4 y21), (mp_arI E a1 0 4 f0), (mp_arI E a2 0 4 f1), (mp_arL E a3 240 f2), (mp_arI E a4 0 100 f3)] (fun v w' => (v = some (.int (-2)) ∧ ((x0.toInt < 0 ∨ 3 < x0.toInt) ∨ ((0 ≤ x0.toInt ∧ x0.toInt ≤ 3) ∧ (f0 x0.toInt.toNat).toInt ≠ -1 ∧ (8 < (f1 x0.toInt.toNat).toInt ∨ ¬ mp_c99 f2 x0.toInt (f1 x0.toInt.toNat).toInt))) ∧ w' = [(mp_ob10 a0 0 a1 a2 a3 a5 a6 y1 y2 y3 y4 y5 y6 y7 y8 y9 y10 a7 a8 a9 a10 a11 a12 a13 a14 y11 a15 a16 a17 a18 y12 y13 y14 a19 a20 y15 y16 a21 a22 a23 y17 y18 y19 y20 a24 a25 a4 y21), (mp_arI E a1 0 4 f0), (mp_arI E a2 0 4 f1), (mp_arL E a3 240 f2), (mp_arI E a4 0 100 f3)]) ∨ (∃ h1 : Nat → Int32, ∃ r2 : Int32, v = some (.int r2) ∧ 0 ≤ x0.toInt ∧ x0.toInt ≤ 3 ∧ 0 ≤ r2.toInt ∧ r2.toInt ≤ 1 ∧ (0 ≤ x0.toInt ∧ x0.toInt ≤ 3 ∧ (f0 x0.toInt.toNat).toInt ≠ -1 ∧ (f1 x0.toInt.toNat).toInt ≤ 8) ∧ (mp_c99 f2 x0.toInt (f1 x0.toInt.toNat).toInt) ∧ (((mp_xr (fun j : Nat => (f2 (60 * x0.toInt.toNat + j)).toInt32) (f1 x0.toInt.toNat).toInt.toNat).toInt ≠ 0 ∧ r2.toInt = 1) ∨ ((mp_xr (fun j : Nat => (f2 (60 * x0.toInt.toNat + j)).toInt32) (f1 x0.toInt.toNat).toInt.toNat).toInt = 0 ∧ r2.toInt = 0)) ∧ w' = [(mp_ob10 a0 0 a1 a2 a3 a5 a6 y1 y2 y3 y4 y5 y6 y7 y8 y9 y10 a7 a8 a9 a10 a11 a12 a13 a14 y11 a15 a16 a17 a18 y12 y13 y14 a19 a20 y15 y16 a21 a22 a23 y17 y18 y19 y20 a24 a25 a4 y21), (mp_arI E a1 0 4 f0), (mp_arI E a2 0 4 f1), (mp_arL E a3 240 f2), (mp_arI E a4 0 100 h1)]) ∨ (v = some (.int (-6)) ∧ 0 ≤ x0.toInt ∧ x0.toInt ≤ 3 ∧ (0 ≤ x0.toInt ∧ x0.toInt ≤ 3 ∧ (f0 x0.toInt.toNat).toInt = -1) ∧ w' = [(mp_ob10 a0 0 a1 a2 a3 a5 a6 y1 y2 y3 y4 y5 y6 y7 y8 y9 y10 a7 a8 a9 a10 a11 a12 a13 a14 y11 a15 a16 a17 a18 y12 y13 y14 a19 a20 y15 y16 a21 a22 a23 y17 y18 y19 y20 a24 a25 a4 y21), (mp_arI E a1 0 4 f0), (mp_arI E a2 0 4 f1), (mp_arL E a3 240 f2), (mp_arI E a4 0 100 f3)])) := by
  refine mp_met false (by decide) (by decide) (Nat.le_of_ble_eq_true rfl) (fun X hF hQ => ?_)
  have hF : mp_F E X (RX10, cX10_wins, 3, (3, 0, 0, 67), (some FieldType.int), false) := hF
  let w1_ : va_W := [(mp_ob10 a0 y0 a1 a2 a3 a5 a6 y1 y2 y3 y4 y5 y6 y7 y8 y9 y10 a7 a8 a9 a10 a11 a12 a13 a14 y11 a15 a16 a17 a18 y12 y13 y14 a19 a20 y15 y16 a21 a22 a23 y17 y18 y19 y20 a24 a25 a4 y21), (mp_arI E a1 0 4 f0), (mp_arI E a2 0 4 f1), (mp_arL E a3 240 f2), (mp_arI E a4 0 100 f3)]
  show mp_W E X 3 0 [(0, .ref a0), (1, .int x0)] [] w1_ 0 0
  refine mp_run mp_k_cX10_wins_ok hF mp_tabX10_ok [mp_i (.aload_n 0), mp_c (.iconst 0) 0, mp_h (.putfield 92) [0, 0]] (by decide +kernel) ?_
  refine And.intro rfl (And.intro rfl (And.intro rfl (And.intro rfl (And.intro (Nat.le_of_ble_eq_true rfl) ?_))))
  let w2_ : va_W := [(mp_ob10 a0 0 a1 a2 a3 a5 a6 y1 y2 y3 y4 y5 y6 y7 y8 y9 y10 a7 a8 a9 a10 a11 a12 a13 a14 y11 a15 a16 a17 a18 y12 y13 y14 a19 a20 y15 y16 a21 a22 a23 y17 y18 y19 y20 a24 a25 a4 y21), (mp_arI E a1 0 4 f0), (mp_arI E a2 0 4 f1), (mp_arL E a3 240 f2), (mp_arI E a4 0 100 f3)]
  show mp_W E X 3 5 [(0, .ref a0), (1, .int x0)] [] w2_ 0 0
  refine mp_run mp_k_cX10_wins_ok hF mp_tabX10_ok [mp_i (.aload_n 0), mp_i (.iload_n 1)] (by decide +kernel) ?_
  show mp_W E X 3 7 [(0, .ref a0), (1, .int x0)] [.int x0, .ref a0] w2_ 0 0
  refine mp_callV hF (As := [.int x0]) (rest := []) (wr := [(mp_arI E a4 0 100 f3)]) (bX10_whyNoThreat_146 E a0 a1 a2 a3 a5 a6 a7 a8 a9 a10 a11 a12 a13 a14 a15 a16 a17 a18 a19 a20 a21 a22 a23 a24 a25 a4 f0 f1 f2 0 y1 y2 y3 y4 y5 y6 y7 y8 y9 y10 y11 y12 y13 y14 y15 y16 y17 y18 y19 y20 y21 x0 p0 l_y1 u_y1 l_y2 u_y2 l_y3 u_y3 l_y4 u_y4 l_y11 u_y11 l_y12 u_y12 l_y13 u_y13) mp_lkX10_444 0 rfl [0, 1, 2, 3] [4] rfl rfl rfl rfl rfl ⟨(Nat.le_of_ble_eq_true rfl), (Nat.le_of_ble_eq_true rfl), (Nat.le_of_ble_eq_true rfl), (Nat.le_of_ble_eq_true rfl)⟩ (Nat.le_of_ble_eq_true rfl) (by first | exact mp_fd_ok mp_k_cX10_wins_ok (by decide +kernel) | decide +kernel) (fun v_1 w_2 h_3 => ?_)
  refine h_3.elim (fun q_13 => ?_) (fun q_14 => q_14.elim (fun q_15 => ?_) (fun q_16 => ?_))
  · skip
    refine q_13.elim fun e_17 q_18 => q_18.elim fun x_4 e_19 => ?_
    clear h_3 q_13 q_18
    subst e_17
    subst e_19
    let w3_ : va_W := [(mp_arI E a4 0 100 f3), (mp_ob10 a0 0 a1 a2 a3 a5 a6 y1 y2 y3 y4 y5 y6 y7 y8 y9 y10 a7 a8 a9 a10 a11 a12 a13 a14 y11 a15 a16 a17 a18 y12 y13 y14 a19 a20 y15 y16 a21 a22 a23 y17 y18 y19 y20 a24 a25 a4 y21), (mp_arI E a1 0 4 f0), (mp_arI E a2 0 4 f1), (mp_arL E a3 240 f2)]
    show mp_W E X 3 10 [(0, .ref a0), (1, .int x0)] [.int (-2)] w3_ 0 0
    refine mp_run mp_k_cX10_wins_ok hF mp_tabX10_ok [mp_i (.istore_n 2), mp_i (.iload_n 2), mp_h (.ifCond .eq 7) [19]] (by decide +kernel) ?_
    refine And.intro (fun c_20 => absurd c_20 (by decide)) (fun _ => ?_)
    show mp_W E X 3 15 [(2, .int (-2)), (0, .ref a0), (1, .int x0)] [] w3_ 0 0
    refine mp_run mp_k_cX10_wins_ok hF mp_tabX10_ok [mp_i (.iload_n 2), mp_h (.goto 16) [32]] (by decide +kernel) ?_
    show mp_W E X 3 32 [(2, .int (-2)), (0, .ref a0), (1, .int x0)] [.int (-2)] w3_ 0 0
    exact mp_iret hF hQ rfl rfl (Nat.le_of_ble_eq_true rfl) (Nat.le_of_ble_eq_true rfl) [1, 2, 3, 4, 0] (w' := w2_) rfl rfl (Or.inl ⟨rfl, x_4, rfl⟩) (by first | exact mp_fd_ok mp_k_cX10_wins_ok (by decide +kernel) | decide +kernel)
  · skip
    refine q_15.elim fun e_21 q_22 => q_22.elim fun c_5 q_23 => q_23.elim fun c_6 q_24 => q_24.elim fun x_7 q_25 => q_25.elim fun x_8 q_26 => q_26.elim fun x_9 e_27 => ?_
    clear h_3 q_14 q_15 q_22 q_23 q_24 q_25 q_26
    subst e_21
    subst e_27
    have c_5 : 0 ≤ x0.toInt := c_5
    have c_6 : x0.toInt ≤ 3 := c_6
    let w4_ : va_W := [(mp_arI E a4 0 100 f3), (mp_ob10 a0 0 a1 a2 a3 a5 a6 y1 y2 y3 y4 y5 y6 y7 y8 y9 y10 a7 a8 a9 a10 a11 a12 a13 a14 y11 a15 a16 a17 a18 y12 y13 y14 a19 a20 y15 y16 a21 a22 a23 y17 y18 y19 y20 a24 a25 a4 y21), (mp_arI E a1 0 4 f0), (mp_arI E a2 0 4 f1), (mp_arL E a3 240 f2)]
    show mp_W E X 3 10 [(0, .ref a0), (1, .int x0)] [.int 0] w4_ 0 0
    refine mp_run mp_k_cX10_wins_ok hF mp_tabX10_ok [mp_i (.istore_n 2), mp_i (.iload_n 2), mp_h (.ifCond .eq 7) [19]] (by decide +kernel) ?_
    refine And.intro (fun _ => ?_) (fun c_28 => absurd c_28 (by decide))
    show mp_W E X 3 19 [(2, .int 0), (0, .ref a0), (1, .int x0)] [] w4_ 0 0
    refine mp_run mp_k_cX10_wins_ok hF mp_tabX10_ok [mp_i (.aload_n 0), mp_i (.iload_n 1)] (by decide +kernel) ?_
    show mp_W E X 3 21 [(2, .int 0), (0, .ref a0), (1, .int x0)] [.int x0, .ref a0] w4_ 0 0
    refine mp_callV hF (As := [.int x0]) (rest := []) (wr := []) (bX10_xorOf_148 E a0 a1 a2 a3 a4 a5 a6 a7 a8 a9 a10 a11 a12 a13 a14 a15 a16 a17 a18 a19 a20 a21 a22 a23 a24 a25 f0 f1 f2 f3 0 y1 y2 y3 y4 y5 y6 y7 y8 y9 y10 y11 y12 y13 y14 y15 y16 y17 y18 y19 y20 y21 x0 p0 (by (first | exact c_5 | omega)) (by (first | exact c_6 | omega)) l_y1 u_y1 l_y2 u_y2 l_y3 u_y3 l_y4 u_y4 l_y11 u_y11 l_y12 u_y12 l_y13 u_y13 (by assumption)) mp_lkX10_447 1 rfl [1, 2, 3, 4, 0] [] rfl rfl rfl rfl rfl ⟨(Nat.le_of_ble_eq_true rfl), (Nat.le_of_ble_eq_true rfl), (Nat.le_of_ble_eq_true rfl), (Nat.le_of_ble_eq_true rfl)⟩ (Nat.le_of_ble_eq_true rfl) (by first | exact mp_fd_ok mp_k_cX10_wins_ok (by decide +kernel) | decide +kernel) (fun v_29 w_30 h_31 => ?_)
    refine h_31.elim fun g_32 q_36 => q_36.elim fun r_33 q_37 => q_37.elim fun e_38 q_39 => q_39.elim fun x_34 q_40 => q_40.elim fun x_35 e_41 => ?_
    clear h_31 q_36 q_37 q_39 q_40
    subst e_38
    subst e_41
    let w5_ : va_W := [(mp_ob10 a0 0 a1 a2 a3 a5 a6 y1 y2 y3 y4 y5 y6 y7 y8 y9 y10 a7 a8 a9 a10 a11 a12 a13 a14 y11 a15 a16 a17 a18 y12 y13 y14 a19 a20 y15 y16 a21 a22 a23 y17 y18 y19 y20 a24 a25 a4 y21), (mp_arI E a1 0 4 f0), (mp_arI E a2 0 4 f1), (mp_arL E a3 240 f2), (mp_arI E a4 0 100 g_32)]
    show mp_W E X 3 24 [(2, .int 0), (0, .ref a0), (1, .int x0)] [.int r_33] w5_ 0 0
    refine mp_run mp_k_cX10_wins_ok hF mp_tabX10_ok [mp_h (.ifCond .eq 7) [31]] (by decide +kernel) ?_
    refine And.intro (fun c_42 => ?_) (fun c_42 => ?_)
    · have c_42 : r_33.toInt = 0 := (congrArg Int32.toInt c_42)
      show mp_W E X 3 31 [(2, .int 0), (0, .ref a0), (1, .int x0)] [] w5_ 0 0
      refine mp_run mp_k_cX10_wins_ok hF mp_tabX10_ok [mp_c (.iconst 0) 0] (by decide +kernel) ?_
      show mp_W E X 3 32 [(2, .int 0), (0, .ref a0), (1, .int x0)] [.int 0] w5_ 0 0
      exact mp_iret hF hQ rfl rfl (Nat.le_of_ble_eq_true rfl) (Nat.le_of_ble_eq_true rfl) [0, 1, 2, 3, 4] (w' := w5_) rfl rfl (Or.inr (Or.inl ⟨g_32, 0, rfl, (by first | (first | exact c_5 | omega) | decide), (by first | (first | exact c_6 | omega) | decide), (by decide), (by decide), (by (first | exact mp_o1836 x_9 c_5 c_6 | omega)), x_7, (by rw [← x_34]; have i0 : (0 : Int32).toInt = 0 := rfl; have i1 : (1 : Int32).toInt = 1 := rfl; (first | exact mp_o805 c_42 i0 | omega)), rfl⟩)) (by first | exact mp_fd_ok mp_k_cX10_wins_ok (by decide +kernel) | decide +kernel)
    · have c_42 : r_33.toInt ≠ 0 := c_42
      show mp_W E X 3 27 [(2, .int 0), (0, .ref a0), (1, .int x0)] [] w5_ 0 0
      refine mp_run mp_k_cX10_wins_ok hF mp_tabX10_ok [mp_c (.iconst 1) 1, mp_h (.goto 4) [32]] (by decide +kernel) ?_
      show mp_W E X 3 32 [(2, .int 0), (0, .ref a0), (1, .int x0)] [.int 1] w5_ 0 0
      exact mp_iret hF hQ rfl rfl (Nat.le_of_ble_eq_true rfl) (Nat.le_of_ble_eq_true rfl) [0, 1, 2, 3, 4] (w' := w5_) rfl rfl (Or.inr (Or.inl ⟨g_32, 1, rfl, (by first | (first | exact c_5 | omega) | decide), (by first | (first | exact c_6 | omega) | decide), (by decide), (by decide), (by (first | exact mp_o1836 x_9 c_5 c_6 | omega)), x_7, (by rw [← x_34]; have i0 : (0 : Int32).toInt = 0 := rfl; have i1 : (1 : Int32).toInt = 1 := rfl; (first | exact mp_o806 c_42 i1 | omega)), rfl⟩)) (by first | exact mp_fd_ok mp_k_cX10_wins_ok (by decide +kernel) | decide +kernel)
  · skip
    refine q_16.elim fun e_43 q_44 => q_44.elim fun c_10 q_45 => q_45.elim fun c_11 q_46 => q_46.elim fun x_12 e_47 => ?_
    clear h_3 q_14 q_16 q_44 q_45 q_46
    subst e_43
    subst e_47
    have c_10 : 0 ≤ x0.toInt := c_10
    have c_11 : x0.toInt ≤ 3 := c_11
    let w6_ : va_W := [(mp_arI E a4 0 100 f3), (mp_ob10 a0 0 a1 a2 a3 a5 a6 y1 y2 y3 y4 y5 y6 y7 y8 y9 y10 a7 a8 a9 a10 a11 a12 a13 a14 y11 a15 a16 a17 a18 y12 y13 y14 a19 a20 y15 y16 a21 a22 a23 y17 y18 y19 y20 a24 a25 a4 y21), (mp_arI E a1 0 4 f0), (mp_arI E a2 0 4 f1), (mp_arL E a3 240 f2)]
    show mp_W E X 3 10 [(0, .ref a0), (1, .int x0)] [.int (-6)] w6_ 0 0
    refine mp_run mp_k_cX10_wins_ok hF mp_tabX10_ok [mp_i (.istore_n 2), mp_i (.iload_n 2), mp_h (.ifCond .eq 7) [19]] (by decide +kernel) ?_
    refine And.intro (fun c_48 => absurd c_48 (by decide)) (fun _ => ?_)
    show mp_W E X 3 15 [(2, .int (-6)), (0, .ref a0), (1, .int x0)] [] w6_ 0 0
    refine mp_run mp_k_cX10_wins_ok hF mp_tabX10_ok [mp_i (.iload_n 2), mp_h (.goto 16) [32]] (by decide +kernel) ?_
    show mp_W E X 3 32 [(2, .int (-6)), (0, .ref a0), (1, .int x0)] [.int (-6)] w6_ 0 0
    exact mp_iret hF hQ rfl rfl (Nat.le_of_ble_eq_true rfl) (Nat.le_of_ble_eq_true rfl) [1, 2, 3, 4, 0] (w' := w2_) rfl rfl (Or.inr (Or.inr ⟨rfl, (by first | (first | exact c_10 | omega) | decide), (by first | (first | exact c_11 | omega) | decide), x_12, rfl⟩)) (by first | exact mp_fd_ok mp_k_cX10_wins_ok (by decide +kernel) | decide +kernel)
set_option maxHeartbeats 4000000 in
set_option maxRecDepth 100000 in
theorem bX10_turn_150 (E : mp_E) (a0 a1 a2 a3 a4 a5 a6 a7 a8 a9 a10 a11 a12 a13 a14 a15 a16 a17 a18 a19 a20 a21 a22 a23 a24 a25 : Nat) (f0 : Nat → Int32) (f1 : Nat → Int32) (f2 : Nat → Int64) (f3 : Nat → Int32) (y0 : Int32) (y1 : Int32) (y2 : Int32) (y3 : Int32) (y4 : Int32) (y5 : Int32) (y6 : Int64) (y7 : Int32) (y8 : Int32) (y9 : Int32) (y10 : Int32) (y11 : Int32) (y12 : Int32) (y13 : Int32) (y14 : Int32) (y15 : Int32) (y16 : Int32) (y17 : Int32) (y18 : Int32) (y19 : Int32) (y20 : Int32) (y21 : Int32) (x0 : Int32) (p0 : mp_all f1 4 0 60) (l_y1 : 0 ≤ y1.toInt) (u_y1 : y1.toInt ≤ 1600) (l_y2 : 0 ≤ y2.toInt) (u_y2 : y2.toInt ≤ 1600) (l_y3 : 0 ≤ y3.toInt) (u_y3 : y3.toInt ≤ 4) (l_y4 : 0 ≤ y4.toInt) (u_y4 : y4.toInt ≤ 1600) (l_y11 : 0 ≤ y11.toInt) (u_y11 : y11.toInt ≤ 99) (l_y12 : 0 ≤ y12.toInt) (u_y12 : y12.toInt ≤ 5) (l_y13 : 0 ≤ y13.toInt) (u_y13 : y13.toInt ≤ 12) : mp_Ct E yX10_turn cX10_turn 7 (some FieldType.int) 3 0 0 67 [.ref a0, .int x0] [(mp_ob10 a0 y0 a1 a2 a3 a5 a6 y1 y2 y3 y4 y5 y6 y7 y8 y9 y10 a7 a8 a9 a10 a11 a12 a13 a14 y11 a15 a16 a17 a18 y12 y13 y14 a19 a20 y15 y16 a21 a22 a23 y17 y18 y19 y20 a24 a25 a4 y21), (mp_arI E a1 0 4 f0), (mp_arI E a2 0 4 f1), (mp_arL E a3 240 f2), (mp_arI E a4 0 100 f3)] (fun v w' => (v = some (.int (-2)) ∧ ((x0.toInt < 0 ∨ 3 < x0.toInt) ∨ ((0 ≤ x0.toInt ∧ x0.toInt ≤ 3) ∧ (f0 x0.toInt.toNat).toInt ≠ -1 ∧ (8 < (f1 x0.toInt.toNat).toInt ∨ ¬ mp_c99 f2 x0.toInt (f1 x0.toInt.toNat).toInt))) ∧ w' = [(mp_ob10 a0 0 a1 a2 a3 a5 a6 y1 y2 y3 y4 y5 y6 y7 y8 y9 y10 a7 a8 a9 a10 a11 a12 a13 a14 y11 a15 a16 a17 a18 y12 y13 y14 a19 a20 y15 y16 a21 a22 a23 y17 y18 y19 y20 a24 a25 a4 y21), (mp_arI E a1 0 4 f0), (mp_arI E a2 0 4 f1), (mp_arL E a3 240 f2), (mp_arI E a4 0 100 f3)]) ∨ (∃ h1 : Nat → Int32, ∃ r2 : Int32, v = some (.int r2) ∧ 0 ≤ x0.toInt ∧ x0.toInt ≤ 3 ∧ (-1) ≤ r2.toInt ∧ r2.toInt ≤ 69 ∧ (0 ≤ x0.toInt ∧ x0.toInt ≤ 3 ∧ (f0 x0.toInt.toNat).toInt ≠ -1 ∧ (f1 x0.toInt.toNat).toInt ≤ 8) ∧ (mp_c99 f2 x0.toInt (f1 x0.toInt.toNat).toInt) ∧ (r2.toInt = mp_tn (fun j : Nat => (f2 (60 * x0.toInt.toNat + j)).toInt32) (mp_xr (fun j : Nat => (f2 (60 * x0.toInt.toNat + j)).toInt32) (f1 x0.toInt.toNat).toInt.toNat) (f1 x0.toInt.toNat).toInt.toNat 0) ∧ w' = [(mp_ob10 a0 0 a1 a2 a3 a5 a6 y1 y2 y3 y4 y5 y6 y7 y8 y9 y10 a7 a8 a9 a10 a11 a12 a13 a14 y11 a15 a16 a17 a18 y12 y13 y14 a19 a20 y15 y16 a21 a22 a23 y17 y18 y19 y20 a24 a25 a4 y21), (mp_arI E a1 0 4 f0), (mp_arI E a2 0 4 f1), (mp_arL E a3 240 f2), (mp_arI E a4 0 100 h1)]) ∨ (v = some (.int (-6)) ∧ 0 ≤ x0.toInt ∧ x0.toInt ≤ 3 ∧ (0 ≤ x0.toInt ∧ x0.toInt ≤ 3 ∧ (f0 x0.toInt.toNat).toInt = -1) ∧ w' = [(mp_ob10 a0 0 a1 a2 a3 a5 a6 y1 y2 y3 y4 y5 y6 y7 y8 y9 y10 a7 a8 a9 a10 a11 a12 a13 a14 y11 a15 a16 a17 a18 y12 y13 y14 a19 a20 y15 y16 a21 a22 a23 y17 y18 y19 y20 a24 a25 a4 y21), (mp_arI E a1 0 4 f0), (mp_arI E a2 0 4 f1), (mp_arL E a3 240 f2), (mp_arI E a4 0 100 f3)])) := by
  refine mp_met false (by decide) (by decide) (Nat.le_of_ble_eq_true rfl) (fun X hF hQ => ?_)
  have hF : mp_F E X (RX10, cX10_turn, 7, (3, 0, 0, 67), (some FieldType.int), false) := hF
  let w1_ : va_W := [(mp_ob10 a0 y0 a1 a2 a3 a5 a6 y1 y2 y3 y4 y5 y6 y7 y8 y9 y10 a7 a8 a9 a10 a11 a12 a13 a14 y11 a15 a16 a17 a18 y12 y13 y14 a19 a20 y15 y16 a21 a22 a23 y17 y18 y19 y20 a24 a25 a4 y21), (mp_arI E a1 0 4 f0), (mp_arI E a2 0 4 f1), (mp_arL E a3 240 f2), (mp_arI E a4 0 100 f3)]
  show mp_W E X 7 0 [(0, .ref a0), (1, .int x0)] [] w1_ 0 0
  refine mp_run mp_k_cX10_turn_ok hF mp_tabX10_ok [mp_i (.aload_n 0), mp_c (.iconst 0) 0, mp_h (.putfield 92) [0, 0]] (by decide +kernel) ?_
  refine And.intro rfl (And.intro rfl (And.intro rfl (And.intro rfl (And.intro (Nat.le_of_ble_eq_true rfl) ?_))))
  let w2_ : va_W := [(mp_ob10 a0 0 a1 a2 a3 a5 a6 y1 y2 y3 y4 y5 y6 y7 y8 y9 y10 a7 a8 a9 a10 a11 a12 a13 a14 y11 a15 a16 a17 a18 y12 y13 y14 a19 a20 y15 y16 a21 a22 a23 y17 y18 y19 y20 a24 a25 a4 y21), (mp_arI E a1 0 4 f0), (mp_arI E a2 0 4 f1), (mp_arL E a3 240 f2), (mp_arI E a4 0 100 f3)]
  show mp_W E X 7 5 [(0, .ref a0), (1, .int x0)] [] w2_ 0 0
  refine mp_run mp_k_cX10_turn_ok hF mp_tabX10_ok [mp_i (.aload_n 0), mp_i (.iload_n 1)] (by decide +kernel) ?_
  show mp_W E X 7 7 [(0, .ref a0), (1, .int x0)] [.int x0, .ref a0] w2_ 0 0
  refine mp_callV hF (As := [.int x0]) (rest := []) (wr := [(mp_arI E a4 0 100 f3)]) (bX10_whyNoThreat_146 E a0 a1 a2 a3 a5 a6 a7 a8 a9 a10 a11 a12 a13 a14 a15 a16 a17 a18 a19 a20 a21 a22 a23 a24 a25 a4 f0 f1 f2 0 y1 y2 y3 y4 y5 y6 y7 y8 y9 y10 y11 y12 y13 y14 y15 y16 y17 y18 y19 y20 y21 x0 p0 l_y1 u_y1 l_y2 u_y2 l_y3 u_y3 l_y4 u_y4 l_y11 u_y11 l_y12 u_y12 l_y13 u_y13) mp_lkX10_444 0 rfl [0, 1, 2, 3] [4] rfl rfl rfl rfl rfl ⟨(Nat.le_of_ble_eq_true rfl), (Nat.le_of_ble_eq_true rfl), (Nat.le_of_ble_eq_true rfl), (Nat.le_of_ble_eq_true rfl)⟩ (Nat.le_of_ble_eq_true rfl) (by first | exact mp_fd_ok mp_k_cX10_turn_ok (by decide +kernel) | decide +kernel) (fun v_1 w_2 h_3 => ?_)
  refine h_3.elim (fun q_13 => ?_) (fun q_14 => q_14.elim (fun q_15 => ?_) (fun q_16 => ?_))
  · skip
    refine q_13.elim fun e_17 q_18 => q_18.elim fun x_4 e_19 => ?_
    clear h_3 q_13 q_18
    subst e_17
    subst e_19
    let w3_ : va_W := [(mp_arI E a4 0 100 f3), (mp_ob10 a0 0 a1 a2 a3 a5 a6 y1 y2 y3 y4 y5 y6 y7 y8 y9 y10 a7 a8 a9 a10 a11 a12 a13 a14 y11 a15 a16 a17 a18 y12 y13 y14 a19 a20 y15 y16 a21 a22 a23 y17 y18 y19 y20 a24 a25 a4 y21), (mp_arI E a1 0 4 f0), (mp_arI E a2 0 4 f1), (mp_arL E a3 240 f2)]
    show mp_W E X 7 10 [(0, .ref a0), (1, .int x0)] [.int (-2)] w3_ 0 0
    refine mp_run mp_k_cX10_turn_ok hF mp_tabX10_ok [mp_i (.istore_n 2), mp_i (.iload_n 2), mp_h (.ifCond .eq 5) [17]] (by decide +kernel) ?_
    refine And.intro (fun c_20 => absurd c_20 (by decide)) (fun _ => ?_)
    show mp_W E X 7 15 [(2, .int (-2)), (0, .ref a0), (1, .int x0)] [] w3_ 0 0
    refine mp_run mp_k_cX10_turn_ok hF mp_tabX10_ok [mp_i (.iload_n 2)] (by decide +kernel) ?_
    show mp_W E X 7 16 [(2, .int (-2)), (0, .ref a0), (1, .int x0)] [.int (-2)] w3_ 0 0
    exact mp_iret hF hQ rfl rfl (Nat.le_of_ble_eq_true rfl) (Nat.le_of_ble_eq_true rfl) [1, 2, 3, 4, 0] (w' := w2_) rfl rfl (Or.inl ⟨rfl, x_4, rfl⟩) (by first | exact mp_fd_ok mp_k_cX10_turn_ok (by decide +kernel) | decide +kernel)
  · skip
    refine q_15.elim fun e_21 q_22 => q_22.elim fun c_5 q_23 => q_23.elim fun c_6 q_24 => q_24.elim fun x_7 q_25 => q_25.elim fun x_8 q_26 => q_26.elim fun x_9 e_27 => ?_
    clear h_3 q_14 q_15 q_22 q_23 q_24 q_25 q_26
    subst e_21
    subst e_27
    have c_5 : 0 ≤ x0.toInt := c_5
    have c_6 : x0.toInt ≤ 3 := c_6
    let w4_ : va_W := [(mp_arI E a4 0 100 f3), (mp_ob10 a0 0 a1 a2 a3 a5 a6 y1 y2 y3 y4 y5 y6 y7 y8 y9 y10 a7 a8 a9 a10 a11 a12 a13 a14 y11 a15 a16 a17 a18 y12 y13 y14 a19 a20 y15 y16 a21 a22 a23 y17 y18 y19 y20 a24 a25 a4 y21), (mp_arI E a1 0 4 f0), (mp_arI E a2 0 4 f1), (mp_arL E a3 240 f2)]
    show mp_W E X 7 10 [(0, .ref a0), (1, .int x0)] [.int 0] w4_ 0 0
    refine mp_run mp_k_cX10_turn_ok hF mp_tabX10_ok [mp_i (.istore_n 2), mp_i (.iload_n 2), mp_h (.ifCond .eq 5) [17]] (by decide +kernel) ?_
    refine And.intro (fun _ => ?_) (fun c_28 => absurd c_28 (by decide))
    show mp_W E X 7 17 [(2, .int 0), (0, .ref a0), (1, .int x0)] [] w4_ 0 0
    refine mp_run mp_k_cX10_turn_ok hF mp_tabX10_ok [mp_i (.aload_n 0), mp_i (.iload_n 1)] (by decide +kernel) ?_
    show mp_W E X 7 19 [(2, .int 0), (0, .ref a0), (1, .int x0)] [.int x0, .ref a0] w4_ 0 0
    refine mp_callV hF (As := [.int x0]) (rest := []) (wr := []) (bX10_xorOf_148 E a0 a1 a2 a3 a4 a5 a6 a7 a8 a9 a10 a11 a12 a13 a14 a15 a16 a17 a18 a19 a20 a21 a22 a23 a24 a25 f0 f1 f2 f3 0 y1 y2 y3 y4 y5 y6 y7 y8 y9 y10 y11 y12 y13 y14 y15 y16 y17 y18 y19 y20 y21 x0 p0 (by (first | exact c_5 | omega)) (by (first | exact c_6 | omega)) l_y1 u_y1 l_y2 u_y2 l_y3 u_y3 l_y4 u_y4 l_y11 u_y11 l_y12 u_y12 l_y13 u_y13 (by assumption)) mp_lkX10_447 1 rfl [1, 2, 3, 4, 0] [] rfl rfl rfl rfl rfl ⟨(Nat.le_of_ble_eq_true rfl), (Nat.le_of_ble_eq_true rfl), (Nat.le_of_ble_eq_true rfl), (Nat.le_of_ble_eq_true rfl)⟩ (Nat.le_of_ble_eq_true rfl) (by first | exact mp_fd_ok mp_k_cX10_turn_ok (by decide +kernel) | decide +kernel) (fun v_29 w_30 h_31 => ?_)
    refine h_31.elim fun g_32 q_36 => q_36.elim fun r_33 q_37 => q_37.elim fun e_38 q_39 => q_39.elim fun x_34 q_40 => q_40.elim fun x_35 e_41 => ?_
    clear h_31 q_36 q_37 q_39 q_40
    subst e_38
    subst e_41
    let w5_ : va_W := [(mp_ob10 a0 0 a1 a2 a3 a5 a6 y1 y2 y3 y4 y5 y6 y7 y8 y9 y10 a7 a8 a9 a10 a11 a12 a13 a14 y11 a15 a16 a17 a18 y12 y13 y14 a19 a20 y15 y16 a21 a22 a23 y17 y18 y19 y20 a24 a25 a4 y21), (mp_arI E a1 0 4 f0), (mp_arI E a2 0 4 f1), (mp_arL E a3 240 f2), (mp_arI E a4 0 100 g_32)]
    show mp_W E X 7 22 [(2, .int 0), (0, .ref a0), (1, .int x0)] [.int r_33] w5_ 0 0
    refine mp_run mp_k_cX10_turn_ok hF mp_tabX10_ok [mp_i (.istore_n 3), mp_c (.iconst 0) 0, mp_i (.istore 4)] (by decide +kernel) ?_
    show mp_W E X 7 26 [(4, .int 0), (3, .int r_33), (2, .int 0), (0, .ref a0), (1, .int x0)] [] w5_ 0 0
    have lp_47 : ∀ (d_48 : Nat) (i_42 : Int32), 0 ≤ i_42.toInt → i_42.toInt ≤ 60 → (mp_tn (fun j : Nat => (f2 (60 * x0.toInt.toNat + j)).toInt32) r_33 ((f1 x0.toInt.toNat).toInt - i_42.toInt).toNat i_42.toInt.toNat = mp_tn (fun j : Nat => (f2 (60 * x0.toInt.toNat + j)).toInt32) r_33 ((f1 x0.toInt.toNat).toInt).toNat 0) → (0 ≤ i_42.toInt) → (f1 x0.toInt.toNat).toInt - i_42.toInt ≤ (d_48 : Int) → mp_W E X 7 26 [(4, .int i_42), (3, .int r_33), (2, .int 0), (0, .ref a0), (1, .int x0)] [] [(mp_ob10 a0 0 a1 a2 a3 a5 a6 y1 y2 y3 y4 y5 y6 y7 y8 y9 y10 a7 a8 a9 a10 a11 a12 a13 a14 y11 a15 a16 a17 a18 y12 y13 y14 a19 a20 y15 y16 a21 a22 a23 y17 y18 y19 y20 a24 a25 a4 y21), (mp_arI E a1 0 4 f0), (mp_arI E a2 0 4 f1), (mp_arL E a3 240 f2), (mp_arI E a4 0 100 g_32)] 0 0 := by
      intro d_48
      induction d_48 using Nat.strongRecOn with
      | ind d_48 ih_49 =>
        intro i_42 l_43 u_44 x_45 x_46 hm_50
        refine mp_run mp_k_cX10_turn_ok hF mp_tabX10_ok [mp_i (.iload 4), mp_i (.aload_n 0), mp_h (.getfield 13) [2, 0], mp_i (.iload_n 1), mp_h .iaload [2], mp_h (.if_icmp .ge 80) [114]] (by decide +kernel) ?_
        refine And.intro rfl (And.intro rfl ?_)
        refine And.intro rfl (And.intro rfl (And.intro (vp_in_iff.mpr (by (first | exact mp_o637 c_5 c_6 | omega))) ?_))
        intro z_51 h_52
        have e_53 : 0 ≤ z_51.toInt ∧ z_51.toInt ≤ 60 := mp_all_ld h_52 p0 (by (first | exact c_5 | omega)) (by (first | exact mp_o638 c_6 | omega))
        have e_54 : z_51.toInt = (f1 x0.toInt.toNat).toInt := congrArg Int32.toInt h_52
        refine And.intro (fun c_55 => ?_) (fun c_55 => ?_)
        · have c_55 : z_51.toInt ≤ i_42.toInt := c_55
          show mp_W E X 7 114 [(4, .int i_42), (3, .int r_33), (2, .int 0), (0, .ref a0), (1, .int x0)] [] w5_ 0 0
          refine mp_run mp_k_cX10_turn_ok hF mp_tabX10_ok [mp_c (.iconst (-1)) (-1)] (by decide +kernel) ?_
          show mp_W E X 7 115 [(4, .int i_42), (3, .int r_33), (2, .int 0), (0, .ref a0), (1, .int x0)] [.int (-1)] w5_ 0 0
          exact mp_iret hF hQ rfl rfl (Nat.le_of_ble_eq_true rfl) (Nat.le_of_ble_eq_true rfl) [0, 1, 2, 3, 4] (w' := w5_) rfl rfl (Or.inr (Or.inl ⟨g_32, (-1), rfl, (by first | (first | exact c_5 | omega) | decide), (by first | (first | exact c_6 | omega) | decide), (by decide), (by decide), (by (first | exact mp_o1836 x_9 c_5 c_6 | omega)), x_7, (by rw [← x_34]; exact mp_tn_d x_45 (by (first | exact mp_o787 e_54 c_55 | omega))), rfl⟩)) (by first | exact mp_fd_ok mp_k_cX10_turn_ok (by decide +kernel) | decide +kernel)
        · have c_55 : i_42.toInt < z_51.toInt := c_55
          show mp_W E X 7 37 [(4, .int i_42), (3, .int r_33), (2, .int 0), (0, .ref a0), (1, .int x0)] [] w5_ 0 0
          refine mp_run mp_k_cX10_turn_ok hF mp_tabX10_ok [mp_i (.aload_n 0), mp_h (.getfield 16) [3, 0], mp_c (.bipush 60) 60, mp_i (.iload_n 1), mp_i .imul, mp_i (.iload 4), mp_i .iadd, mp_h .laload [3], mp_i .l2i, mp_i (.istore 5), mp_i (.iload 5), mp_h (.ifCond .ne 6) [60]] (by decide +kernel) ?_
          refine And.intro rfl (And.intro rfl ?_)
          intro z_56 h_57
          have e_58 : z_56.toInt = 60 * x0.toInt := mp_mul (a := 60) (b := x0.toInt) h_57 (by decide) rfl (by (first | exact mp_o926 c_5 | omega)) (by (first | exact mp_o927 c_6 | omega))
          intro z_59 h_60
          have e_61 : z_59.toInt = z_56.toInt + i_42.toInt := mp_add (a := z_56.toInt) (b := i_42.toInt) h_60 rfl rfl (by (first | exact mp_o928 l_43 c_5 e_58 | omega)) (by (first | exact mp_o1794 c_6 e_58 c_55 e_53 | omega))
          refine And.intro rfl (And.intro rfl (And.intro (vp_in_iff.mpr (by (first | exact mp_o1739 c_5 c_6 l_43 e_58 e_61 c_55 e_53 | omega))) ?_))
          intro z_62 h_63
          have e_64 := mp_c99_ld (f := f2) (slot := x0.toInt) (n := (f1 x0.toInt.toNat).toInt) (i := i_42.toInt) (by assumption) h_63 (by (first | exact mp_o1754 e_58 e_61 | omega)) (by (first | exact c_5 | omega)) (by (first | exact x_46 | omega)) (by (first | exact mp_o1535 e_54 c_55 | omega))
          intro z_65 h_66
          have e_67 : z_65.toInt = z_62.toInt := mp_l2i h_66 (by (first | exact mp_o1830 e_64 | omega)) (by (first | exact mp_o1831 e_64 | omega))
          refine And.intro (fun c_68 => ?_) (fun c_68 => ?_)
          · have c_68 : z_65.toInt ≠ 0 := c_68
            show mp_W E X 7 60 [(5, .int z_65), (4, .int i_42), (3, .int r_33), (2, .int 0), (0, .ref a0), (1, .int x0)] [] w5_ 0 0
            refine mp_run mp_k_cX10_turn_ok hF mp_tabX10_ok [mp_i (.iload_n 3), mp_i (.aload_n 0), mp_h (.getfield 89) [45, 0], mp_i (.iload 5), mp_h .iaload [4], mp_i .ixor, mp_i (.istore 6), mp_i (.iload 6), mp_i (.aload_n 0), mp_h (.getfield 89) [45, 0], mp_i (.iload 5), mp_c (.iconst 1) 1, mp_i .isub, mp_h .iaload [4], mp_h (.if_icmp .ne 6) [88]] (by decide +kernel) ?_
            refine And.intro rfl (And.intro rfl ?_)
            refine And.intro rfl (And.intro rfl (And.intro (vp_in_iff.mpr (by (first | exact mp_o1832 e_67 e_64 | omega))) ?_))
            intro z_69 h_70
            intro z_71 h_72
            refine And.intro rfl (And.intro rfl ?_)
            intro z_74 h_75
            have e_76 : z_74.toInt = z_65.toInt - 1 := mp_subi (a := z_65.toInt) (b := 1) h_75 rfl (by decide) (by (first | exact mp_o1837 e_67 e_64 | omega)) (by (first | exact mp_o1838 e_67 e_64 | omega))
            refine And.intro rfl (And.intro rfl (And.intro (vp_in_iff.mpr (by (first | exact mp_o1839 c_68 e_76 e_67 e_64 | omega))) ?_))
            intro z_77 h_78
            refine And.intro (fun c_79 => ?_) (fun c_79 => ?_)
            · have c_79 : z_71.toInt ≠ z_77.toInt := c_79
              show mp_W E X 7 88 [(6, .int z_71), (5, .int z_65), (4, .int i_42), (3, .int r_33), (2, .int 0), (0, .ref a0), (1, .int x0)] [] w5_ 0 0
              refine mp_run mp_k_cX10_turn_ok hF mp_tabX10_ok [mp_i (.iload 6), mp_i (.aload_n 0), mp_h (.getfield 89) [45, 0], mp_i (.iload 5), mp_c (.iconst 2) 2, mp_i .idiv, mp_h .iaload [4], mp_h (.if_icmp .ne 9) [108]] (by decide +kernel) ?_
              refine And.intro rfl (And.intro rfl ?_)
              refine And.intro (by decide) ?_
              intro z_80 h_81
              have e_82 : z_80.toInt = z_65.toInt / 2 := mp_div (a := z_65.toInt) (b := 2) h_81 rfl (by decide) (by (first | exact mp_o1840 e_67 e_64 | omega)) (by decide)
              refine And.intro rfl (And.intro rfl (And.intro (vp_in_iff.mpr (by (first | exact mp_o1841 e_82 e_67 e_64 | omega))) ?_))
              intro z_83 h_84
              refine And.intro (fun c_85 => ?_) (fun c_85 => ?_)
              · have c_85 : z_71.toInt ≠ z_83.toInt := c_85
                show mp_W E X 7 108 [(6, .int z_71), (5, .int z_65), (4, .int i_42), (3, .int r_33), (2, .int 0), (0, .ref a0), (1, .int x0)] [] w5_ 0 0
                refine mp_run mp_k_cX10_turn_ok hF mp_tabX10_ok [mp_c (.iinc 4 1) 1, mp_h (.goto (-85)) [26]] (by decide +kernel) ?_
                intro z_86 h_87
                have e_88 : z_86.toInt = i_42.toInt + 1 := mp_add (a := i_42.toInt) (b := 1) h_87 rfl (by decide) (by (first | exact mp_o2 l_43 | omega)) (by (first | exact mp_o343 u_44 | omega))
                show mp_W E X 7 26 [(4, .int z_86), (6, .int z_71), (5, .int z_65), (3, .int r_33), (2, .int 0), (0, .ref a0), (1, .int x0)] [] w5_ 0 0
                exact mp_sub [0, 3, 4, 5, 6] rfl [0, 1, 2, 3, 4] rfl rfl (ih_49 (d_48 - 1) (by (first | exact mp_o1454 hm_50 e_54 c_55 | omega)) z_86 (by (first | exact mp_o51 l_43 e_88 | omega)) (by (first | exact mp_o1455 e_88 c_55 e_53 | omega)) (mp_tn_n x_45 (by (first | exact mp_o1842 l_43 e_54 c_55 | omega)) (show z_65 = (fun j : Nat => (f2 (60 * x0.toInt.toNat + j)).toInt32) i_42.toInt.toNat from by have k3 := show z_62 = _ from h_63.trans (congrArg _ (show z_59.toNatClampNeg = 60 * x0.toInt.toNat + i_42.toInt.toNat by simp only [Int32.toNatClampNeg] <;> (first | exact mp_o1834 c_5 l_43 e_58 e_61 | omega))); rw [h_66, k3]) h_72 (h_70.trans ((congrArg _ (show z_65.toNatClampNeg = z_65.toInt.toNat by simp only [Int32.toNatClampNeg] <;> omega)).trans (x_35 _ (by (first | exact mp_o1833 e_67 e_64 | omega))))) (h_78.trans ((congrArg _ (show z_74.toNatClampNeg = (z_65.toInt - 1).toNat by simp only [Int32.toNatClampNeg] <;> (first | exact mp_o812 e_76 | omega))).trans (x_35 _ (by (first | exact mp_o1843 e_67 e_64 | omega))))) (h_84.trans ((congrArg _ (show z_80.toNatClampNeg = (z_65.toInt / 2).toNat by simp only [Int32.toNatClampNeg] <;> (first | exact mp_o814 e_82 | omega))).trans (x_35 _ (by (first | exact mp_o1844 e_67 e_64 | omega))))) (by (first | exact mp_o1845 c_79 | omega)) (by (first | exact mp_o1845 c_85 | omega)) (by (first | exact e_88 | omega))) (by (first | exact mp_o51 l_43 e_88 | omega)) (by (first | exact mp_o77 hm_50 e_88 | omega)))
              · have c_85 : z_71.toInt = z_83.toInt := (congrArg Int32.toInt c_85)
                show mp_W E X 7 102 [(6, .int z_71), (5, .int z_65), (4, .int i_42), (3, .int r_33), (2, .int 0), (0, .ref a0), (1, .int x0)] [] w5_ 0 0
                refine mp_run mp_k_cX10_turn_ok hF mp_tabX10_ok [mp_c (.bipush 10) 10, mp_i (.iload 4), mp_i .iadd] (by decide +kernel) ?_
                intro z_89 h_90
                have e_91 : z_89.toInt = 10 + i_42.toInt := mp_add (a := 10) (b := i_42.toInt) h_90 (by decide) rfl (by (first | exact mp_o816 l_43 | omega)) (by (first | exact mp_o1846 u_44 | omega))
                show mp_W E X 7 107 [(6, .int z_71), (5, .int z_65), (4, .int i_42), (3, .int r_33), (2, .int 0), (0, .ref a0), (1, .int x0)] [.int z_89] w5_ 0 0
                exact mp_iret hF hQ rfl rfl (Nat.le_of_ble_eq_true rfl) (Nat.le_of_ble_eq_true rfl) [0, 1, 2, 3, 4] (w' := w5_) rfl rfl (Or.inr (Or.inl ⟨g_32, z_89, rfl, (by first | (first | exact c_5 | omega) | decide), (by first | (first | exact c_6 | omega) | decide), (by (first | exact mp_o818 l_43 e_91 | omega)), (by (first | exact mp_o1847 e_91 c_55 e_53 | omega)), (by (first | exact mp_o1836 x_9 c_5 c_6 | omega)), x_7, (by rw [← x_34]; exact (show z_89.toInt = 10 + i_42.toInt from by (first | exact e_91 | omega)).trans (mp_tn_2 x_45 (by (first | exact mp_o1842 l_43 e_54 c_55 | omega)) (show z_65 = (fun j : Nat => (f2 (60 * x0.toInt.toNat + j)).toInt32) i_42.toInt.toNat from by have k3 := show z_62 = _ from h_63.trans (congrArg _ (show z_59.toNatClampNeg = 60 * x0.toInt.toNat + i_42.toInt.toNat by simp only [Int32.toNatClampNeg] <;> (first | exact mp_o1834 c_5 l_43 e_58 e_61 | omega))); rw [h_66, k3]) (by (first | exact mp_o1848 c_68 e_67 e_64 | omega)) h_72 (h_70.trans ((congrArg _ (show z_65.toNatClampNeg = z_65.toInt.toNat by simp only [Int32.toNatClampNeg] <;> omega)).trans (x_35 _ (by (first | exact mp_o1833 e_67 e_64 | omega))))) (h_78.trans ((congrArg _ (show z_74.toNatClampNeg = (z_65.toInt - 1).toNat by simp only [Int32.toNatClampNeg] <;> (first | exact mp_o812 e_76 | omega))).trans (x_35 _ (by (first | exact mp_o1843 e_67 e_64 | omega))))) (h_84.trans ((congrArg _ (show z_80.toNatClampNeg = (z_65.toInt / 2).toNat by simp only [Int32.toNatClampNeg] <;> (first | exact mp_o814 e_82 | omega))).trans (x_35 _ (by (first | exact mp_o1844 e_67 e_64 | omega))))) (by (first | exact mp_o1845 c_79 | omega)) (by (first | exact mp_o275 c_85 | omega)))), rfl⟩)) (by first | exact mp_fd_ok mp_k_cX10_turn_ok (by decide +kernel) | decide +kernel)
            · have c_79 : z_71.toInt = z_77.toInt := (congrArg Int32.toInt c_79)
              show mp_W E X 7 85 [(6, .int z_71), (5, .int z_65), (4, .int i_42), (3, .int r_33), (2, .int 0), (0, .ref a0), (1, .int x0)] [] w5_ 0 0
              refine mp_run mp_k_cX10_turn_ok hF mp_tabX10_ok [mp_i (.iload 4)] (by decide +kernel) ?_
              show mp_W E X 7 87 [(6, .int z_71), (5, .int z_65), (4, .int i_42), (3, .int r_33), (2, .int 0), (0, .ref a0), (1, .int x0)] [.int i_42] w5_ 0 0
              exact mp_iret hF hQ rfl rfl (Nat.le_of_ble_eq_true rfl) (Nat.le_of_ble_eq_true rfl) [0, 1, 2, 3, 4] (w' := w5_) rfl rfl (Or.inr (Or.inl ⟨g_32, i_42, rfl, (by first | (first | exact c_5 | omega) | decide), (by first | (first | exact c_6 | omega) | decide), (by (first | exact mp_o44 l_43 | omega)), (by (first | exact mp_o1849 u_44 | omega)), (by (first | exact mp_o1836 x_9 c_5 c_6 | omega)), x_7, (by rw [← x_34]; exact (mp_tn_1 x_45 (by (first | exact mp_o1842 l_43 e_54 c_55 | omega)) (show z_65 = (fun j : Nat => (f2 (60 * x0.toInt.toNat + j)).toInt32) i_42.toInt.toNat from by have k3 := show z_62 = _ from h_63.trans (congrArg _ (show z_59.toNatClampNeg = 60 * x0.toInt.toNat + i_42.toInt.toNat by simp only [Int32.toNatClampNeg] <;> (first | exact mp_o1834 c_5 l_43 e_58 e_61 | omega))); rw [h_66, k3]) (by (first | exact mp_o1848 c_68 e_67 e_64 | omega)) h_72 (h_70.trans ((congrArg _ (show z_65.toNatClampNeg = z_65.toInt.toNat by simp only [Int32.toNatClampNeg] <;> omega)).trans (x_35 _ (by (first | exact mp_o1833 e_67 e_64 | omega))))) (h_78.trans ((congrArg _ (show z_74.toNatClampNeg = (z_65.toInt - 1).toNat by simp only [Int32.toNatClampNeg] <;> (first | exact mp_o812 e_76 | omega))).trans (x_35 _ (by (first | exact mp_o1843 e_67 e_64 | omega))))) (by (first | exact mp_o275 c_79 | omega)))), rfl⟩)) (by first | exact mp_fd_ok mp_k_cX10_turn_ok (by decide +kernel) | decide +kernel)
          · have c_68 : z_65.toInt = 0 := (congrArg Int32.toInt c_68)
            show mp_W E X 7 57 [(5, .int z_65), (4, .int i_42), (3, .int r_33), (2, .int 0), (0, .ref a0), (1, .int x0)] [] w5_ 0 0
            refine mp_run mp_k_cX10_turn_ok hF mp_tabX10_ok [mp_h (.goto 51) [108], mp_c (.iinc 4 1) 1, mp_h (.goto (-85)) [26]] (by decide +kernel) ?_
            intro z_92 h_93
            have e_94 : z_92.toInt = i_42.toInt + 1 := mp_add (a := i_42.toInt) (b := 1) h_93 rfl (by decide) (by (first | exact mp_o2 l_43 | omega)) (by (first | exact mp_o343 u_44 | omega))
            show mp_W E X 7 26 [(4, .int z_92), (5, .int z_65), (3, .int r_33), (2, .int 0), (0, .ref a0), (1, .int x0)] [] w5_ 0 0
            exact mp_sub [0, 2, 3, 4, 5] rfl [0, 1, 2, 3, 4] rfl rfl (ih_49 (d_48 - 1) (by (first | exact mp_o1454 hm_50 e_54 c_55 | omega)) z_92 (by (first | exact mp_o51 l_43 e_94 | omega)) (by (first | exact mp_o1455 e_94 c_55 e_53 | omega)) (mp_tn_z x_45 (by (first | exact mp_o1842 l_43 e_54 c_55 | omega)) (show z_65 = (fun j : Nat => (f2 (60 * x0.toInt.toNat + j)).toInt32) i_42.toInt.toNat from by have k3 := show z_62 = _ from h_63.trans (congrArg _ (show z_59.toNatClampNeg = 60 * x0.toInt.toNat + i_42.toInt.toNat by simp only [Int32.toNatClampNeg] <;> (first | exact mp_o1834 c_5 l_43 e_58 e_61 | omega))); rw [h_66, k3]) (by (first | exact mp_o515 c_68 | omega)) (by (first | exact e_94 | omega))) (by (first | exact mp_o51 l_43 e_94 | omega)) (by (first | exact mp_o77 hm_50 e_94 | omega)))
    exact mp_sub [0, 1, 2, 3, 4] rfl [0, 1, 2, 3, 4] rfl rfl (lp_47 _ 0 (by decide) (by decide) (by have i0 : (0 : Int32).toInt = 0 := rfl; rw [i0, Int.sub_zero]; first | done | rfl) (by first | fail | decide) (Int.self_le_toNat _))
  · skip
    refine q_16.elim fun e_95 q_96 => q_96.elim fun c_10 q_97 => q_97.elim fun c_11 q_98 => q_98.elim fun x_12 e_99 => ?_
    clear h_3 q_14 q_16 q_96 q_97 q_98
    subst e_95
    subst e_99
    have c_10 : 0 ≤ x0.toInt := c_10
    have c_11 : x0.toInt ≤ 3 := c_11
    let w6_ : va_W := [(mp_arI E a4 0 100 f3), (mp_ob10 a0 0 a1 a2 a3 a5 a6 y1 y2 y3 y4 y5 y6 y7 y8 y9 y10 a7 a8 a9 a10 a11 a12 a13 a14 y11 a15 a16 a17 a18 y12 y13 y14 a19 a20 y15 y16 a21 a22 a23 y17 y18 y19 y20 a24 a25 a4 y21), (mp_arI E a1 0 4 f0), (mp_arI E a2 0 4 f1), (mp_arL E a3 240 f2)]
    show mp_W E X 7 10 [(0, .ref a0), (1, .int x0)] [.int (-6)] w6_ 0 0
    refine mp_run mp_k_cX10_turn_ok hF mp_tabX10_ok [mp_i (.istore_n 2), mp_i (.iload_n 2), mp_h (.ifCond .eq 5) [17]] (by decide +kernel) ?_
    refine And.intro (fun c_100 => absurd c_100 (by decide)) (fun _ => ?_)
    show mp_W E X 7 15 [(2, .int (-6)), (0, .ref a0), (1, .int x0)] [] w6_ 0 0
    refine mp_run mp_k_cX10_turn_ok hF mp_tabX10_ok [mp_i (.iload_n 2)] (by decide +kernel) ?_
    show mp_W E X 7 16 [(2, .int (-6)), (0, .ref a0), (1, .int x0)] [.int (-6)] w6_ 0 0
    exact mp_iret hF hQ rfl rfl (Nat.le_of_ble_eq_true rfl) (Nat.le_of_ble_eq_true rfl) [1, 2, 3, 4, 0] (w' := w2_) rfl rfl (Or.inr (Or.inr ⟨rfl, (by first | (first | exact c_10 | omega) | decide), (by first | (first | exact c_11 | omega) | decide), x_12, rfl⟩)) (by first | exact mp_fd_ok mp_k_cX10_turn_ok (by decide +kernel) | decide +kernel)
set_option maxHeartbeats 4000000 in
set_option maxRecDepth 100000 in
theorem bX10_isDraw_151 (E : mp_E) (a0 a1 a2 a3 a4 a5 a6 a7 a8 a9 a10 a11 a12 a13 a14 a15 a16 a17 a18 a19 a20 a21 a22 a23 a24 a25 : Nat) (f0 : Nat → Int32) (y0 : Int32) (y1 : Int32) (y2 : Int32) (y3 : Int32) (y4 : Int32) (y5 : Int32) (y6 : Int64) (y7 : Int32) (y8 : Int32) (y9 : Int32) (y10 : Int32) (y11 : Int32) (y12 : Int32) (y13 : Int32) (y14 : Int32) (y15 : Int32) (y16 : Int32) (y17 : Int32) (y18 : Int32) (y19 : Int32) (y20 : Int32) (y21 : Int32) (x0 : Int32) (x1 : Int32) (x2 : Int32) (p0 : mp_res f0 25 5 0 0 6) (p1 : mp_res f0 25 5 1 0 99) (p2 : mp_res f0 25 5 2 0 6) (p3 : mp_res f0 25 5 3 0 10) (p4 : mp_res f0 25 5 4 0 60) (l_y1 : 0 ≤ y1.toInt) (u_y1 : y1.toInt ≤ 1600) (l_y2 : 0 ≤ y2.toInt) (u_y2 : y2.toInt ≤ 1600) (l_y3 : 0 ≤ y3.toInt) (u_y3 : y3.toInt ≤ 4) (l_y4 : 0 ≤ y4.toInt) (u_y4 : y4.toInt ≤ 1600) (l_y11 : 0 ≤ y11.toInt) (u_y11 : y11.toInt ≤ 99) (l_y12 : 0 ≤ y12.toInt) (u_y12 : y12.toInt ≤ 5) (l_y13 : 0 ≤ y13.toInt) (u_y13 : y13.toInt ≤ 12) : mp_Ct E yX10_isDraw cX10_isDraw 4 (some FieldType.boolean) 2 0 0 46 [.ref a0, .int x0, .int x1, .int x2] [(mp_ob10 a0 y0 a2 a3 a4 a5 a6 y1 y2 y3 y4 y5 y6 y7 y8 y9 y10 a7 a1 a8 a9 a10 a11 a12 a13 y11 a14 a15 a16 a17 y12 y13 y14 a18 a19 y15 y16 a20 a21 a22 y17 y18 y19 y20 a23 a24 a25 y21), (mp_arI E a1 0 25 f0)] (fun v w' => (v = some (.int 0) ∧ w' = [(mp_ob10 a0 y0 a2 a3 a4 a5 a6 y1 y2 y3 y4 y5 y6 y7 y8 y9 y10 a7 a1 a8 a9 a10 a11 a12 a13 y11 a14 a15 a16 a17 y12 y13 y14 a18 a19 y15 y16 a20 a21 a22 y17 y18 y19 y20 a23 a24 a25 y21), (mp_arI E a1 0 25 f0)]) ∨ (v = some (.int 1) ∧ 0 ≤ x0.toInt ∧ x0.toInt ≤ 2000000000 ∧ 1 ≤ x1.toInt ∧ x1.toInt ≤ 40 ∧ 0 ≤ x2.toInt ∧ (0 ≤ x0.toInt) ∧ (1 ≤ x1.toInt) ∧ (x1.toInt ≤ 40) ∧ (0 ≤ x2.toInt) ∧ (x2.toInt ≤ 9) ∧ (x2.toInt < (f0 3).toInt) ∧ w' = [(mp_ob10 a0 y0 a2 a3 a4 a5 a6 y1 y2 y3 y4 y5 y6 y7 y8 y9 y10 a7 a1 a8 a9 a10 a11 a12 a13 y11 a14 a15 a16 a17 y12 y13 y14 a18 a19 y15 y16 a20 a21 a22 y17 y18 y19 y20 a23 a24 a25 y21), (mp_arI E a1 0 25 f0)])) := by
  refine mp_met false (by decide) (by decide) (Nat.le_of_ble_eq_true rfl) (fun X hF hQ => ?_)
  have hF : mp_F E X (RX10, cX10_isDraw, 4, (2, 0, 0, 46), (some FieldType.boolean), false) := hF
  let w1_ : va_W := [(mp_ob10 a0 y0 a2 a3 a4 a5 a6 y1 y2 y3 y4 y5 y6 y7 y8 y9 y10 a7 a1 a8 a9 a10 a11 a12 a13 y11 a14 a15 a16 a17 y12 y13 y14 a18 a19 y15 y16 a20 a21 a22 y17 y18 y19 y20 a23 a24 a25 y21), (mp_arI E a1 0 25 f0)]
  show mp_W E X 4 0 [(0, .ref a0), (1, .int x0), (2, .int x1), (3, .int x2)] [] w1_ 0 0
  refine mp_run mp_k_cX10_isDraw_ok hF mp_tabX10_ok [mp_i (.iload_n 1), mp_i .i2l, mp_cl (.lconst 0) 0, mp_cl (.ldc2_w 463) 2000000000] (by decide +kernel) ?_
  intro z_1 h_2
  have e_3 : z_1.toInt = x0.toInt := mp_i2l h_2
  show mp_W E X 4 6 [(0, .ref a0), (1, .int x0), (2, .int x1), (3, .int x2)] [.long 2000000000, .long 0, .long z_1] w1_ 0 0
  refine mp_callS hF (As := [.long z_1, .long 0, .long 2000000000]) (rest := []) (wr := w1_) (bX10_in_0 E z_1 0 2000000000) mp_lkX10_97 [] [0, 1] rfl rfl rfl rfl rfl ⟨(Nat.le_of_ble_eq_true rfl), (Nat.le_of_ble_eq_true rfl), (Nat.le_of_ble_eq_true rfl), (Nat.le_of_ble_eq_true rfl)⟩ (Nat.le_of_ble_eq_true rfl) (by first | exact mp_fd_ok mp_k_cX10_isDraw_ok (by decide +kernel) | decide +kernel) (fun v_4 w_5 h_6 => ?_)
  rcases h_6 with ⟨rfl, x_7, rfl⟩ | ⟨rfl, c_8, c_9, rfl⟩
  · skip
    have i_10 : (0 : Int64).toInt = 0 := by decide
    have i_11 : (2000000000 : Int64).toInt = 2000000000 := by decide
    show mp_W E X 4 9 [(0, .ref a0), (1, .int x0), (2, .int x1), (3, .int x2)] [.int 0] w1_ 0 0
    refine mp_run mp_k_cX10_isDraw_ok hF mp_tabX10_ok [mp_h (.ifCond .eq 27) [36]] (by decide +kernel) ?_
    refine And.intro (fun _ => ?_) (fun c_12 => absurd c_12 (by decide))
    show mp_W E X 4 36 [(0, .ref a0), (1, .int x0), (2, .int x1), (3, .int x2)] [] w1_ 0 0
    refine mp_run mp_k_cX10_isDraw_ok hF mp_tabX10_ok [mp_c (.iconst 0) 0] (by decide +kernel) ?_
    show mp_W E X 4 37 [(0, .ref a0), (1, .int x0), (2, .int x1), (3, .int x2)] [.int 0] w1_ 0 0
    exact mp_iret hF hQ rfl (by decide) (Nat.le_of_ble_eq_true rfl) (Nat.le_of_ble_eq_true rfl) [0, 1] (w' := w1_) rfl rfl (Or.inl ⟨rfl, rfl⟩) (by first | exact mp_fd_ok mp_k_cX10_isDraw_ok (by decide +kernel) | decide +kernel)
  · skip
    have c_8 : 0 ≤ z_1.toInt := c_8
    have c_9 : z_1.toInt ≤ 2000000000 := c_9
    have i_13 : (0 : Int64).toInt = 0 := by decide
    have i_14 : (2000000000 : Int64).toInt = 2000000000 := by decide
    show mp_W E X 4 9 [(0, .ref a0), (1, .int x0), (2, .int x1), (3, .int x2)] [.int 1] w1_ 0 0
    refine mp_run mp_k_cX10_isDraw_ok hF mp_tabX10_ok [mp_h (.ifCond .eq 27) [36]] (by decide +kernel) ?_
    refine And.intro (fun c_15 => absurd c_15 (by decide)) (fun _ => ?_)
    show mp_W E X 4 12 [(0, .ref a0), (1, .int x0), (2, .int x1), (3, .int x2)] [] w1_ 0 0
    refine mp_run mp_k_cX10_isDraw_ok hF mp_tabX10_ok [mp_i (.iload_n 2), mp_i .i2l, mp_cl (.lconst 1) 1, mp_cl (.ldc2_w 465) 40] (by decide +kernel) ?_
    intro z_16 h_17
    have e_18 : z_16.toInt = x1.toInt := mp_i2l h_17
    show mp_W E X 4 18 [(0, .ref a0), (1, .int x0), (2, .int x1), (3, .int x2)] [.long 40, .long 1, .long z_16] w1_ 0 0
    refine mp_callS hF (As := [.long z_16, .long 1, .long 40]) (rest := []) (wr := w1_) (bX10_in_0 E z_16 1 40) mp_lkX10_97 [] [0, 1] rfl rfl rfl rfl rfl ⟨(Nat.le_of_ble_eq_true rfl), (Nat.le_of_ble_eq_true rfl), (Nat.le_of_ble_eq_true rfl), (Nat.le_of_ble_eq_true rfl)⟩ (Nat.le_of_ble_eq_true rfl) (by first | exact mp_fd_ok mp_k_cX10_isDraw_ok (by decide +kernel) | decide +kernel) (fun v_19 w_20 h_21 => ?_)
    rcases h_21 with ⟨rfl, x_22, rfl⟩ | ⟨rfl, c_23, c_24, rfl⟩
    · skip
      have i_25 : (1 : Int64).toInt = 1 := by decide
      have i_26 : (40 : Int64).toInt = 40 := by decide
      show mp_W E X 4 21 [(0, .ref a0), (1, .int x0), (2, .int x1), (3, .int x2)] [.int 0] w1_ 0 0
      refine mp_run mp_k_cX10_isDraw_ok hF mp_tabX10_ok [mp_h (.ifCond .eq 15) [36]] (by decide +kernel) ?_
      refine And.intro (fun _ => ?_) (fun c_27 => absurd c_27 (by decide))
      show mp_W E X 4 36 [(0, .ref a0), (1, .int x0), (2, .int x1), (3, .int x2)] [] w1_ 0 0
      refine mp_run mp_k_cX10_isDraw_ok hF mp_tabX10_ok [mp_c (.iconst 0) 0] (by decide +kernel) ?_
      show mp_W E X 4 37 [(0, .ref a0), (1, .int x0), (2, .int x1), (3, .int x2)] [.int 0] w1_ 0 0
      exact mp_iret hF hQ rfl (by decide) (Nat.le_of_ble_eq_true rfl) (Nat.le_of_ble_eq_true rfl) [0, 1] (w' := w1_) rfl rfl (Or.inl ⟨rfl, rfl⟩) (by first | exact mp_fd_ok mp_k_cX10_isDraw_ok (by decide +kernel) | decide +kernel)
    · skip
      have c_23 : 1 ≤ z_16.toInt := c_23
      have c_24 : z_16.toInt ≤ 40 := c_24
      have i_28 : (1 : Int64).toInt = 1 := by decide
      have i_29 : (40 : Int64).toInt = 40 := by decide
      show mp_W E X 4 21 [(0, .ref a0), (1, .int x0), (2, .int x1), (3, .int x2)] [.int 1] w1_ 0 0
      refine mp_run mp_k_cX10_isDraw_ok hF mp_tabX10_ok [mp_h (.ifCond .eq 15) [36]] (by decide +kernel) ?_
      refine And.intro (fun c_30 => absurd c_30 (by decide)) (fun _ => ?_)
      show mp_W E X 4 24 [(0, .ref a0), (1, .int x0), (2, .int x1), (3, .int x2)] [] w1_ 0 0
      refine mp_run mp_k_cX10_isDraw_ok hF mp_tabX10_ok [mp_i (.aload_n 0), mp_i (.iload_n 3)] (by decide +kernel) ?_
      show mp_W E X 4 26 [(0, .ref a0), (1, .int x0), (2, .int x1), (3, .int x2)] [.int x2, .ref a0] w1_ 0 0
      refine mp_callV hF (As := [.int x2]) (rest := []) (wr := []) (bX10_isPromise_55 E a0 a1 a2 a3 a4 a5 a6 a7 a8 a9 a10 a11 a12 a13 a14 a15 a16 a17 a18 a19 a20 a21 a22 a23 a24 a25 f0 y0 y1 y2 y3 y4 y5 y6 y7 y8 y9 y10 y11 y12 y13 y14 y15 y16 y17 y18 y19 y20 y21 x2 p0 p1 p2 p3 p4 l_y1 u_y1 l_y2 u_y2 l_y3 u_y3 l_y4 u_y4 l_y11 u_y11 l_y12 u_y12 l_y13 u_y13) mp_lkX10_262 0 rfl [0, 1] [] rfl rfl rfl rfl rfl ⟨(Nat.le_of_ble_eq_true rfl), (Nat.le_of_ble_eq_true rfl), (Nat.le_of_ble_eq_true rfl), (Nat.le_of_ble_eq_true rfl)⟩ (Nat.le_of_ble_eq_true rfl) (by first | exact mp_fd_ok mp_k_cX10_isDraw_ok (by decide +kernel) | decide +kernel) (fun v_31 w_32 h_33 => ?_)
      refine h_33.elim (fun q_39 => ?_) (fun q_40 => ?_)
      · skip
        refine q_39.elim fun e_41 q_42 => q_42.elim fun x_34 e_43 => ?_
        clear h_33 q_39 q_42
        subst e_41
        subst e_43
        show mp_W E X 4 29 [(0, .ref a0), (1, .int x0), (2, .int x1), (3, .int x2)] [.int 0] w1_ 0 0
        refine mp_run mp_k_cX10_isDraw_ok hF mp_tabX10_ok [mp_h (.ifCond .eq 7) [36]] (by decide +kernel) ?_
        refine And.intro (fun _ => ?_) (fun c_44 => absurd c_44 (by decide))
        show mp_W E X 4 36 [(0, .ref a0), (1, .int x0), (2, .int x1), (3, .int x2)] [] w1_ 0 0
        refine mp_run mp_k_cX10_isDraw_ok hF mp_tabX10_ok [mp_c (.iconst 0) 0] (by decide +kernel) ?_
        show mp_W E X 4 37 [(0, .ref a0), (1, .int x0), (2, .int x1), (3, .int x2)] [.int 0] w1_ 0 0
        exact mp_iret hF hQ rfl (by decide) (Nat.le_of_ble_eq_true rfl) (Nat.le_of_ble_eq_true rfl) [0, 1] (w' := w1_) rfl rfl (Or.inl ⟨rfl, rfl⟩) (by first | exact mp_fd_ok mp_k_cX10_isDraw_ok (by decide +kernel) | decide +kernel)
      · skip
        refine q_40.elim fun e_45 q_46 => q_46.elim fun c_35 q_47 => q_47.elim fun x_36 q_48 => q_48.elim fun x_37 q_49 => q_49.elim fun x_38 e_50 => ?_
        clear h_33 q_40 q_46 q_47 q_48 q_49
        subst e_45
        subst e_50
        have c_35 : 0 ≤ x2.toInt := c_35
        show mp_W E X 4 29 [(0, .ref a0), (1, .int x0), (2, .int x1), (3, .int x2)] [.int 1] w1_ 0 0
        refine mp_run mp_k_cX10_isDraw_ok hF mp_tabX10_ok [mp_h (.ifCond .eq 7) [36]] (by decide +kernel) ?_
        refine And.intro (fun c_51 => absurd c_51 (by decide)) (fun _ => ?_)
        show mp_W E X 4 32 [(0, .ref a0), (1, .int x0), (2, .int x1), (3, .int x2)] [] w1_ 0 0
        refine mp_run mp_k_cX10_isDraw_ok hF mp_tabX10_ok [mp_c (.iconst 1) 1, mp_h (.goto 4) [37]] (by decide +kernel) ?_
        show mp_W E X 4 37 [(0, .ref a0), (1, .int x0), (2, .int x1), (3, .int x2)] [.int 1] w1_ 0 0
        exact mp_iret hF hQ rfl (by decide) (Nat.le_of_ble_eq_true rfl) (Nat.le_of_ble_eq_true rfl) [0, 1] (w' := w1_) rfl rfl (Or.inr ⟨rfl, (by first | (first | exact mp_o921 c_8 e_3 | omega) | decide), (by first | (first | exact mp_o1850 e_3 c_9 | omega) | decide), (by first | (first | exact mp_o1310 c_23 e_18 | omega) | decide), (by first | (first | exact mp_o1851 e_18 c_24 | omega) | decide), (by first | (first | exact c_35 | omega) | decide), (by first | (first | exact mp_o921 c_8 e_3 | omega) | decide | (have h8 : (0 : Int32).toInt = 0 := rfl; have h9 : (1 : Int32).toInt = 1 := rfl; have h10 : (-1 : Int32).toInt = -1 := rfl; omega)), (by first | (first | exact mp_o1310 c_23 e_18 | omega) | decide | (have h8 : (0 : Int32).toInt = 0 := rfl; have h9 : (1 : Int32).toInt = 1 := rfl; have h10 : (-1 : Int32).toInt = -1 := rfl; omega)), (by first | (first | exact mp_o1851 e_18 c_24 | omega) | decide | (have h8 : (0 : Int32).toInt = 0 := rfl; have h9 : (1 : Int32).toInt = 1 := rfl; have h10 : (-1 : Int32).toInt = -1 := rfl; omega)), (by first | (first | exact c_35 | omega) | decide | (have h8 : (0 : Int32).toInt = 0 := rfl; have h9 : (1 : Int32).toInt = 1 := rfl; have h10 : (-1 : Int32).toInt = -1 := rfl; omega)), (by first | (first | exact x_37 | omega) | decide | (have h8 : (0 : Int32).toInt = 0 := rfl; have h9 : (1 : Int32).toInt = 1 := rfl; have h10 : (-1 : Int32).toInt = -1 := rfl; omega)), (by first | (first | exact x_36 | omega) | decide | (have h8 : (0 : Int32).toInt = 0 := rfl; have h9 : (1 : Int32).toInt = 1 := rfl; have h10 : (-1 : Int32).toInt = -1 := rfl; omega)), rfl⟩) (by first | exact mp_fd_ok mp_k_cX10_isDraw_ok (by decide +kernel) | decide +kernel)
set_option maxHeartbeats 4000000 in
set_option maxRecDepth 100000 in
theorem bX10_draws_152 (E : mp_E) (a0 a1 a2 a3 a4 a5 a6 a7 a8 a9 a10 a11 a12 a13 a14 a15 a16 a17 a18 a19 a20 a21 a22 a23 a24 a25 : Nat) (f0 : Nat → Int32) (f1 : Nat → Int32) (f2 : Nat → Int32) (f3 : Nat → Int32) (f4 : Nat → Int32) (f5 : Nat → Int32) (f6 : Nat → Int32) (f7 : Nat → Int32) (f8 : Nat → Int32) (y0 : Int32) (y1 : Int32) (y2 : Int32) (y3 : Int32) (y4 : Int32) (y5 : Int32) (y6 : Int64) (y7 : Int32) (y8 : Int32) (y9 : Int32) (y10 : Int32) (y11 : Int32) (y12 : Int32) (y13 : Int32) (y14 : Int32) (y15 : Int32) (y16 : Int32) (y17 : Int32) (y18 : Int32) (y19 : Int32) (y20 : Int32) (y21 : Int32) (x0 : Int64) (x1 : Int32) (x2 : Int32) (p0 : mp_res f0 25 5 0 0 6) (p1 : mp_res f0 25 5 1 0 99) (p2 : mp_res f0 25 5 2 0 6) (p3 : mp_res f0 25 5 3 0 10) (p4 : mp_res f0 25 5 4 0 60) (p5 : mp_all f1 180 0 20) (p6 : mp_res f2 90 3 0 0 5) (p7 : mp_res f2 90 3 1 (-1) 99) (p8 : mp_res f3 300 6 0 0 5) (p9 : mp_res f3 300 6 1 0 5) (p10 : mp_res f3 300 6 3 0 99) (p11 : mp_res f3 300 6 4 0 1) (p12 : mp_actm f4) (p13 : mp_all f5 6 0 5) (l_x1 : 1 ≤ x1.toInt) (u_x1 : x1.toInt ≤ 40) (l_x2 : 0 ≤ x2.toInt) (u_x2 : x2.toInt ≤ 9) (l_y1 : 0 ≤ y1.toInt) (u_y1 : y1.toInt ≤ 1600) (l_y2 : 0 ≤ y2.toInt) (u_y2 : y2.toInt ≤ 1600) (l_y3 : 0 ≤ y3.toInt) (u_y3 : y3.toInt ≤ 4) (l_y4 : 0 ≤ y4.toInt) (u_y4 : y4.toInt ≤ 1600) (l_y11 : 0 ≤ y11.toInt) (u_y11 : y11.toInt ≤ 99) (l_y12 : 0 ≤ y12.toInt) (u_y12 : y12.toInt ≤ 5) (l_y13 : 0 ≤ y13.toInt) (u_y13 : y13.toInt ≤ 12) (q0 : mp_prm f3 (f0 3).toInt) (q1 : x2.toInt < (f0 3).toInt) (q2 : (f0 1).toInt + mp_k200 f4 (f0 4).toInt ≤ 99) : mp_Ct E yX10_draws cX10_draws 9 (some FieldType.int) 14 0 0 334 [.ref a0, .long x0, .int x1, .int x2] [(mp_ob10 a0 y0 a10 a11 a12 a13 a14 y1 y2 y3 y4 y5 y6 y7 y8 y9 y10 a15 a1 a2 a16 a3 a4 a5 a17 y11 a6 a7 a8 a9 y12 y13 y14 a18 a19 y15 y16 a20 a21 a22 y17 y18 y19 y20 a23 a24 a25 y21), (mp_arI E a1 0 25 f0), (mp_arI E a2 0 180 f1), (mp_arI E a3 0 90 f2), (mp_arI E a4 0 300 f3), (mp_arI E a5 0 300 f4), (mp_arI E a6 0 6 f5), (mp_arI E a7 0 6 f6), (mp_arI E a8 0 6 f7), (mp_arI E a9 3 1500 f8)] (fun v w' => ∃ r1 : Int32, ∃ r2 : Int32, ∃ h3 : Nat → Int32, ∃ h4 : Nat → Int32, ∃ h5 : Nat → Int32, ∃ h6 : Nat → Int32, ∃ r7 : Int32, v = some (.int r7) ∧ 0 ≤ r1.toInt ∧ r1.toInt ≤ 99 ∧ mp_all h3 6 0 5 ∧ w' = [(mp_ob10 a0 y0 a10 a11 a12 a13 a14 y1 y2 y3 y4 y5 y6 y7 y8 y9 y10 a15 a1 a2 a16 a3 a4 a5 a17 r1 a6 a7 a8 a9 y12 y13 y14 a18 a19 y15 y16 a20 a21 a22 y17 y18 y19 y20 a23 a24 a25 r2), (mp_arI E a1 0 25 f0), (mp_arI E a2 0 180 f1), (mp_arI E a3 0 90 f2), (mp_arI E a4 0 300 f3), (mp_arI E a5 0 300 f4), (mp_arI E a6 0 6 h3), (mp_arI E a7 0 6 h4), (mp_arI E a8 0 6 h5), (mp_arI E a9 3 1500 h6)]) := by
  refine mp_met false (by decide) (by decide) (Nat.le_of_ble_eq_true rfl) (fun X hF hQ => ?_)
  have hF : mp_F E X (RX10, cX10_draws, 9, (14, 0, 0, 334), (some FieldType.int), false) := hF
  let w1_ : va_W := [(mp_ob10 a0 y0 a10 a11 a12 a13 a14 y1 y2 y3 y4 y5 y6 y7 y8 y9 y10 a15 a1 a2 a16 a3 a4 a5 a17 y11 a6 a7 a8 a9 y12 y13 y14 a18 a19 y15 y16 a20 a21 a22 y17 y18 y19 y20 a23 a24 a25 y21), (mp_arI E a1 0 25 f0), (mp_arI E a2 0 180 f1), (mp_arI E a3 0 90 f2), (mp_arI E a4 0 300 f3), (mp_arI E a5 0 300 f4), (mp_arI E a6 0 6 f5), (mp_arI E a7 0 6 f6), (mp_arI E a8 0 6 f7), (mp_arI E a9 3 1500 f8)]
  show mp_W E X 9 0 [(0, .ref a0), (1, .long x0), (3, .int x1), (4, .int x2)] [] w1_ 0 0
  refine mp_run mp_k_cX10_draws_ok hF mp_tabX10_ok [mp_i (.aload_n 0)] (by decide +kernel) ?_
  show mp_W E X 9 1 [(0, .ref a0), (1, .long x0), (3, .int x1), (4, .int x2)] [.ref a0] w1_ 0 0
  refine mp_callV hF (As := []) (rest := []) (wr := [(mp_arI E a4 0 300 f3)]) (bX10_lays_62 E a0 a1 a2 a3 a5 a6 a7 a8 a9 a10 a11 a12 a13 a14 a15 a16 a4 a17 a18 a19 a20 a21 a22 a23 a24 a25 f0 f1 f2 f4 f5 f6 f7 f8 y0 y1 y2 y3 y4 y5 y6 y7 y8 y9 y10 y11 y12 y13 y14 y15 y16 y17 y18 y19 y20 y21 p0 p1 p2 p3 p4 p5 p6 p7 p12 p13 l_y1 u_y1 l_y2 u_y2 l_y3 u_y3 l_y4 u_y4 l_y11 u_y11 l_y12 u_y12 l_y13 u_y13 (by (first | exact q2 | omega))) mp_lkX10_288 0 rfl [0, 1, 2, 3, 5, 6, 7, 8, 9] [4] rfl rfl rfl rfl rfl ⟨(Nat.le_of_ble_eq_true rfl), (Nat.le_of_ble_eq_true rfl), (Nat.le_of_ble_eq_true rfl), (Nat.le_of_ble_eq_true rfl)⟩ (Nat.le_of_ble_eq_true rfl) (by first | exact mp_fd_ok mp_k_cX10_draws_ok (by decide +kernel) | decide +kernel) (fun v_1 w_2 h_3 => ?_)
  refine h_3.elim fun r_4 q_14 => q_14.elim fun g_5 q_15 => q_15.elim fun g_6 q_16 => q_16.elim fun g_7 q_17 => q_17.elim fun g_8 q_18 => q_18.elim fun e_19 q_20 => q_20.elim fun l_9 q_21 => q_21.elim fun u_10 q_22 => q_22.elim fun p_11 q_23 => q_23.elim fun x_12 q_24 => q_24.elim fun x_13 e_25 => ?_
  clear h_3 q_14 q_15 q_16 q_17 q_18 q_20 q_21 q_22 q_23 q_24
  subst e_19
  subst e_25
  let w2_ : va_W := [(mp_arI E a4 0 300 f3), (mp_ob10 a0 y0 a10 a11 a12 a13 a14 y1 y2 y3 y4 y5 y6 y7 y8 y9 y10 a15 a1 a2 a16 a3 a4 a5 a17 r_4 a6 a7 a8 a9 y12 y13 y14 a18 a19 y15 y16 a20 a21 a22 y17 y18 y19 y20 a23 a24 a25 y21), (mp_arI E a1 0 25 f0), (mp_arI E a2 0 180 f1), (mp_arI E a3 0 90 f2), (mp_arI E a5 0 300 f4), (mp_arI E a6 0 6 g_5), (mp_arI E a7 0 6 g_6), (mp_arI E a8 0 6 g_7), (mp_arI E a9 3 1500 g_8)]
  show mp_W E X 9 4 [(0, .ref a0), (1, .long x0), (3, .int x1), (4, .int x2)] [] w2_ 0 0
  refine mp_run mp_k_cX10_draws_ok hF mp_tabX10_ok [mp_i (.lload_n 1), mp_i (.lstore 5), mp_i (.aload_n 0), mp_c (.iconst 0) 0, mp_h (.putfield 450) [46, 1]] (by decide +kernel) ?_
  refine And.intro rfl (And.intro rfl (And.intro rfl (And.intro rfl (And.intro (Nat.le_of_ble_eq_true rfl) ?_))))
  let w3_ : va_W := [(mp_arI E a4 0 300 f3), (mp_ob10 a0 y0 a10 a11 a12 a13 a14 y1 y2 y3 y4 y5 y6 y7 y8 y9 y10 a15 a1 a2 a16 a3 a4 a5 a17 r_4 a6 a7 a8 a9 y12 y13 y14 a18 a19 y15 y16 a20 a21 a22 y17 y18 y19 y20 a23 a24 a25 0), (mp_arI E a1 0 25 f0), (mp_arI E a2 0 180 f1), (mp_arI E a3 0 90 f2), (mp_arI E a5 0 300 f4), (mp_arI E a6 0 6 g_5), (mp_arI E a7 0 6 g_6), (mp_arI E a8 0 6 g_7), (mp_arI E a9 3 1500 g_8)]
  show mp_W E X 9 12 [(5, .long x0), (0, .ref a0), (1, .long x0), (3, .int x1), (4, .int x2)] [] w3_ 0 0
  refine mp_run mp_k_cX10_draws_ok hF mp_tabX10_ok [mp_i (.aload_n 0), mp_h (.getfield 276) [24, 1], mp_c (.iconst 1) 1, mp_i .iadd, mp_i (.istore 7)] (by decide +kernel) ?_
  refine And.intro rfl (And.intro rfl ?_)
  intro z_26 h_27
  have e_28 : z_26.toInt = r_4.toInt + 1 := mp_add (a := r_4.toInt) (b := 1) h_27 rfl (by decide) (by (first | exact mp_o2 l_9 | omega)) (by (first | exact mp_o330 u_10 | omega))
  show mp_W E X 9 20 [(7, .int z_26), (5, .long x0), (0, .ref a0), (1, .long x0), (3, .int x1), (4, .int x2)] [] w3_ 0 0
  have lp_35 : ∀ (d_36 : Nat) (i_29 : Int32) (i_30 : Int64) (i_31 : Int32) (g_32 : Nat → Int32), 1 ≤ i_29.toInt → i_29.toInt ≤ 240 → r_4.toInt + x1.toInt - i_29.toInt + 1 ≤ (d_36 : Int) → mp_W E X 9 20 [(7, .int i_29), (5, .long i_30), (0, .ref a0), (1, .long x0), (3, .int x1), (4, .int x2)] [] [(mp_arI E a4 0 300 f3), (mp_ob10 a0 y0 a10 a11 a12 a13 a14 y1 y2 y3 y4 y5 y6 y7 y8 y9 y10 a15 a1 a2 a16 a3 a4 a5 a17 r_4 a6 a7 a8 a9 y12 y13 y14 a18 a19 y15 y16 a20 a21 a22 y17 y18 y19 y20 a23 a24 a25 i_31), (mp_arI E a1 0 25 f0), (mp_arI E a2 0 180 f1), (mp_arI E a3 0 90 f2), (mp_arI E a5 0 300 f4), (mp_arI E a6 0 6 g_5), (mp_arI E a7 0 6 g_6), (mp_arI E a8 0 6 g_7), (mp_arI E a9 3 1500 g_32)] 0 0 := by
    intro d_36
    induction d_36 using Nat.strongRecOn with
    | ind d_36 ih_37 =>
      intro i_29 i_30 i_31 g_32 l_33 u_34 hm_38
      refine mp_run mp_k_cX10_draws_ok hF mp_tabX10_ok [mp_i (.iload 7), mp_i (.aload_n 0), mp_h (.getfield 276) [24, 1], mp_i (.iload_n 3), mp_i .iadd, mp_h (.if_icmp .gt 150) [178]] (by decide +kernel) ?_
      refine And.intro rfl (And.intro rfl ?_)
      intro z_39 h_40
      have e_41 : z_39.toInt = r_4.toInt + x1.toInt := mp_add (a := r_4.toInt) (b := x1.toInt) h_40 rfl rfl (by (first | exact mp_o524 l_9 l_x1 | omega)) (by (first | exact mp_o822 u_10 u_x1 | omega))
      refine And.intro (fun c_42 => ?_) (fun c_42 => ?_)
      · have c_42 : z_39.toInt < i_29.toInt := c_42
        let w4_ : va_W := [(mp_arI E a4 0 300 f3), (mp_ob10 a0 y0 a10 a11 a12 a13 a14 y1 y2 y3 y4 y5 y6 y7 y8 y9 y10 a15 a1 a2 a16 a3 a4 a5 a17 r_4 a6 a7 a8 a9 y12 y13 y14 a18 a19 y15 y16 a20 a21 a22 y17 y18 y19 y20 a23 a24 a25 i_31), (mp_arI E a1 0 25 f0), (mp_arI E a2 0 180 f1), (mp_arI E a3 0 90 f2), (mp_arI E a5 0 300 f4), (mp_arI E a6 0 6 g_5), (mp_arI E a7 0 6 g_6), (mp_arI E a8 0 6 g_7), (mp_arI E a9 3 1500 g_32)]
        show mp_W E X 9 178 [(7, .int i_29), (5, .long i_30), (0, .ref a0), (1, .long x0), (3, .int x1), (4, .int x2)] [] w4_ 0 0
        refine mp_run mp_k_cX10_draws_ok hF mp_tabX10_ok [mp_i (.aload_n 0), mp_i (.iload 4), mp_i (.aload_n 0), mp_h (.getfield 276) [24, 1], mp_i (.iload_n 3), mp_i .iadd] (by decide +kernel) ?_
        refine And.intro rfl (And.intro rfl ?_)
        intro z_43 h_44
        have e_45 : z_43.toInt = r_4.toInt + x1.toInt := mp_add (a := r_4.toInt) (b := x1.toInt) h_44 rfl rfl (by (first | exact mp_o524 l_9 l_x1 | omega)) (by (first | exact mp_o1852 e_41 u_34 c_42 | omega))
        show mp_W E X 9 187 [(7, .int i_29), (5, .long i_30), (0, .ref a0), (1, .long x0), (3, .int x1), (4, .int x2)] [.int z_43, .int x2, .ref a0] w4_ 0 0
        refine mp_callV hF (As := [.int x2, .int z_43]) (rest := []) (wr := [(mp_arI E a2 0 180 f1), (mp_arI E a5 0 300 f4), (mp_arI E a6 0 6 g_5), (mp_arI E a7 0 6 g_6), (mp_arI E a8 0 6 g_7)]) (bX10_worthOf_72 E a0 a1 a3 a4 a9 a10 a11 a12 a13 a14 a15 a2 a16 a5 a17 a6 a7 a8 a18 a19 a20 a21 a22 a23 a24 a25 f0 f2 f3 g_32 y0 y1 y2 y3 y4 y5 y6 y7 y8 y9 y10 r_4 y12 y13 y14 y15 y16 y17 y18 y19 y20 i_31 x2 z_43 p0 p1 p2 p3 p4 p6 p7 p8 p9 p10 p11 l_x2 u_x2 (by (first | exact mp_o1853 l_9 l_x1 e_45 | omega)) (by (first | exact mp_o1854 u_x1 u_10 e_45 | omega)) l_y1 u_y1 l_y2 u_y2 l_y3 u_y3 l_y4 u_y4 l_9 u_10 l_y12 u_y12 l_y13 u_y13 (by first | assumption | (rw [rfl]; assumption)) (by (first | exact q1 | omega))) mp_lkX10_291 1 rfl [1, 2, 4, 0, 9] [3, 5, 6, 7, 8] rfl rfl rfl rfl rfl ⟨(Nat.le_of_ble_eq_true rfl), (Nat.le_of_ble_eq_true rfl), (Nat.le_of_ble_eq_true rfl), (Nat.le_of_ble_eq_true rfl)⟩ (Nat.le_of_ble_eq_true rfl) (by first | exact mp_fd_ok mp_k_cX10_draws_ok (by decide +kernel) | decide +kernel) (fun v_46 w_47 h_48 => ?_)
        obtain ⟨r_49, rfl, rfl⟩ := h_48
        let w5_ : va_W := [(mp_arI E a2 0 180 f1), (mp_arI E a5 0 300 f4), (mp_arI E a6 0 6 g_5), (mp_arI E a7 0 6 g_6), (mp_arI E a8 0 6 g_7), (mp_ob10 a0 y0 a10 a11 a12 a13 a14 y1 y2 y3 y4 y5 y6 y7 y8 y9 y10 a15 a1 a2 a16 a3 a4 a5 a17 r_4 a6 a7 a8 a9 y12 y13 y14 a18 a19 y15 y16 a20 a21 a22 y17 y18 y19 y20 a23 a24 a25 i_31), (mp_arI E a1 0 25 f0), (mp_arI E a3 0 90 f2), (mp_arI E a4 0 300 f3), (mp_arI E a9 3 1500 g_32)]
        show mp_W E X 9 190 [(7, .int i_29), (5, .long i_30), (0, .ref a0), (1, .long x0), (3, .int x1), (4, .int x2)] [.int r_49] w5_ 0 0
        exact mp_iret hF hQ rfl rfl (Nat.le_of_ble_eq_true rfl) (Nat.le_of_ble_eq_true rfl) [5, 6, 0, 7, 8, 1, 2, 3, 4, 9] (w' := [(mp_ob10 a0 y0 a10 a11 a12 a13 a14 y1 y2 y3 y4 y5 y6 y7 y8 y9 y10 a15 a1 a2 a16 a3 a4 a5 a17 r_4 a6 a7 a8 a9 y12 y13 y14 a18 a19 y15 y16 a20 a21 a22 y17 y18 y19 y20 a23 a24 a25 i_31), (mp_arI E a1 0 25 f0), (mp_arI E a2 0 180 f1), (mp_arI E a3 0 90 f2), (mp_arI E a4 0 300 f3), (mp_arI E a5 0 300 f4), (mp_arI E a6 0 6 g_5), (mp_arI E a7 0 6 g_6), (mp_arI E a8 0 6 g_7), (mp_arI E a9 3 1500 g_32)]) rfl rfl ⟨r_4, i_31, g_5, g_6, g_7, g_32, r_49, rfl, l_9, u_10, p_11, rfl⟩ (by first | exact mp_fd_ok mp_k_cX10_draws_ok (by decide +kernel) | decide +kernel)
      · have c_42 : i_29.toInt ≤ z_39.toInt := c_42
        let w6_ : va_W := [(mp_arI E a4 0 300 f3), (mp_ob10 a0 y0 a10 a11 a12 a13 a14 y1 y2 y3 y4 y5 y6 y7 y8 y9 y10 a15 a1 a2 a16 a3 a4 a5 a17 r_4 a6 a7 a8 a9 y12 y13 y14 a18 a19 y15 y16 a20 a21 a22 y17 y18 y19 y20 a23 a24 a25 i_31), (mp_arI E a1 0 25 f0), (mp_arI E a2 0 180 f1), (mp_arI E a3 0 90 f2), (mp_arI E a5 0 300 f4), (mp_arI E a6 0 6 g_5), (mp_arI E a7 0 6 g_6), (mp_arI E a8 0 6 g_7), (mp_arI E a9 3 1500 g_32)]
        show mp_W E X 9 31 [(7, .int i_29), (5, .long i_30), (0, .ref a0), (1, .long x0), (3, .int x1), (4, .int x2)] [] w6_ 0 0
        refine mp_run mp_k_cX10_draws_ok hF mp_tabX10_ok [mp_c (.iconst 0) 0, mp_i (.istore 8)] (by decide +kernel) ?_
        show mp_W E X 9 34 [(8, .int 0), (7, .int i_29), (5, .long i_30), (0, .ref a0), (1, .long x0), (3, .int x1), (4, .int x2)] [] w6_ 0 0
        have lp_56 : ∀ (d_57 : Nat) (i_50 : Int32) (i_51 : Int64) (i_52 : Int32) (g_53 : Nat → Int32), 0 ≤ i_50.toInt → i_50.toInt ≤ 10 → (f0 3).toInt - i_50.toInt ≤ (d_57 : Int) → mp_W E X 9 34 [(8, .int i_50), (7, .int i_29), (5, .long i_51), (0, .ref a0), (1, .long x0), (3, .int x1), (4, .int x2)] [] [(mp_arI E a4 0 300 f3), (mp_ob10 a0 y0 a10 a11 a12 a13 a14 y1 y2 y3 y4 y5 y6 y7 y8 y9 y10 a15 a1 a2 a16 a3 a4 a5 a17 r_4 a6 a7 a8 a9 y12 y13 y14 a18 a19 y15 y16 a20 a21 a22 y17 y18 y19 y20 a23 a24 a25 i_52), (mp_arI E a1 0 25 f0), (mp_arI E a2 0 180 f1), (mp_arI E a3 0 90 f2), (mp_arI E a5 0 300 f4), (mp_arI E a6 0 6 g_5), (mp_arI E a7 0 6 g_6), (mp_arI E a8 0 6 g_7), (mp_arI E a9 3 1500 g_53)] 0 0 := by
          intro d_57
          induction d_57 using Nat.strongRecOn with
          | ind d_57 ih_58 =>
            intro i_50 i_51 i_52 g_53 l_54 u_55 hm_59
            refine mp_run mp_k_cX10_draws_ok hF mp_tabX10_ok [mp_i (.iload 8), mp_i (.aload_n 0), mp_h (.getfield 34) [17, 1], mp_c (.iconst 3) 3, mp_h .iaload [2], mp_h (.if_icmp .ge 130) [172]] (by decide +kernel) ?_
            refine And.intro rfl (And.intro rfl ?_)
            refine And.intro rfl (And.intro rfl (And.intro (vp_in_iff.mpr (by decide)) ?_))
            intro z_60 h_61
            have e_62 : 0 ≤ z_60.toInt ∧ z_60.toInt ≤ 10 := mp_res_ld h_61 p3 (by decide) (by decide) (by decide)
            have e_63 : z_60.toInt = (f0 3).toInt := congrArg Int32.toInt (mp_at h_61 (by decide) rfl)
            refine And.intro (fun c_64 => ?_) (fun c_64 => ?_)
            · have c_64 : z_60.toInt ≤ i_50.toInt := c_64
              let w7_ : va_W := [(mp_arI E a4 0 300 f3), (mp_ob10 a0 y0 a10 a11 a12 a13 a14 y1 y2 y3 y4 y5 y6 y7 y8 y9 y10 a15 a1 a2 a16 a3 a4 a5 a17 r_4 a6 a7 a8 a9 y12 y13 y14 a18 a19 y15 y16 a20 a21 a22 y17 y18 y19 y20 a23 a24 a25 i_52), (mp_arI E a1 0 25 f0), (mp_arI E a2 0 180 f1), (mp_arI E a3 0 90 f2), (mp_arI E a5 0 300 f4), (mp_arI E a6 0 6 g_5), (mp_arI E a7 0 6 g_6), (mp_arI E a8 0 6 g_7), (mp_arI E a9 3 1500 g_53)]
              show mp_W E X 9 172 [(8, .int i_50), (7, .int i_29), (5, .long i_51), (0, .ref a0), (1, .long x0), (3, .int x1), (4, .int x2)] [] w7_ 0 0
              refine mp_run mp_k_cX10_draws_ok hF mp_tabX10_ok [mp_c (.iinc 7 1) 1, mp_h (.goto (-155)) [20]] (by decide +kernel) ?_
              intro z_65 h_66
              have e_67 : z_65.toInt = i_29.toInt + 1 := mp_add (a := i_29.toInt) (b := 1) h_66 rfl (by decide) (by (first | exact mp_o457 l_33 | omega)) (by (first | exact mp_o823 u_34 | omega))
              show mp_W E X 9 20 [(7, .int z_65), (8, .int i_50), (5, .long i_51), (0, .ref a0), (1, .long x0), (3, .int x1), (4, .int x2)] [] w7_ 0 0
              exact mp_sub [0, 2, 3, 4, 5, 6] rfl [0, 1, 2, 3, 4, 5, 6, 7, 8, 9] rfl rfl (ih_37 (d_36 - 1) (by (first | exact mp_o824 c_42 hm_38 e_41 | omega)) z_65 i_51 i_52 g_53 (by (first | exact mp_o458 l_33 e_67 | omega)) (by (first | exact mp_o825 u_x1 u_10 e_41 c_42 e_67 | omega)) (by (first | exact mp_o826 hm_38 e_67 | omega)))
            · have c_64 : i_50.toInt < z_60.toInt := c_64
              let w8_ : va_W := [(mp_arI E a4 0 300 f3), (mp_ob10 a0 y0 a10 a11 a12 a13 a14 y1 y2 y3 y4 y5 y6 y7 y8 y9 y10 a15 a1 a2 a16 a3 a4 a5 a17 r_4 a6 a7 a8 a9 y12 y13 y14 a18 a19 y15 y16 a20 a21 a22 y17 y18 y19 y20 a23 a24 a25 i_52), (mp_arI E a1 0 25 f0), (mp_arI E a2 0 180 f1), (mp_arI E a3 0 90 f2), (mp_arI E a5 0 300 f4), (mp_arI E a6 0 6 g_5), (mp_arI E a7 0 6 g_6), (mp_arI E a8 0 6 g_7), (mp_arI E a9 3 1500 g_53)]
              show mp_W E X 9 45 [(8, .int i_50), (7, .int i_29), (5, .long i_51), (0, .ref a0), (1, .long x0), (3, .int x1), (4, .int x2)] [] w8_ 0 0
              refine mp_run mp_k_cX10_draws_ok hF mp_tabX10_ok [mp_i (.aload_n 0), mp_i (.aload_n 0), mp_i (.iload 8), mp_c (.iconst 0) 0] (by decide +kernel) ?_
              show mp_W E X 9 50 [(8, .int i_50), (7, .int i_29), (5, .long i_51), (0, .ref a0), (1, .long x0), (3, .int x1), (4, .int x2)] [.int 0, .int i_50, .ref a0, .ref a0] w8_ 0 0
              refine mp_callV hF (As := [.int i_50, .int 0]) (rest := [.ref a0]) (wr := [(mp_arI E a1 0 25 f0), (mp_arI E a2 0 180 f1), (mp_arI E a3 0 90 f2), (mp_arI E a5 0 300 f4), (mp_arI E a6 0 6 g_5), (mp_arI E a7 0 6 g_6), (mp_arI E a8 0 6 g_7), (mp_arI E a9 3 1500 g_53)]) (bX10_of_64 E a0 a4 a10 a11 a12 a13 a14 a15 a1 a2 a16 a3 a5 a17 a6 a7 a8 a9 a18 a19 a20 a21 a22 a23 a24 a25 f3 y0 y1 y2 y3 y4 y5 y6 y7 y8 y9 y10 r_4 y12 y13 y14 y15 y16 y17 y18 y19 y20 i_52 i_50 p8 p9 p10 p11 l_54 (by (first | exact mp_o1533 c_64 e_62 | omega)) l_y1 u_y1 l_y2 u_y2 l_y3 u_y3 l_y4 u_y4 l_9 u_10 l_y12 u_y12 l_y13 u_y13) mp_lkX10_267 1 rfl [1, 0] [2, 3, 4, 5, 6, 7, 8, 9] rfl rfl rfl rfl rfl ⟨(Nat.le_of_ble_eq_true rfl), (Nat.le_of_ble_eq_true rfl), (Nat.le_of_ble_eq_true rfl), (Nat.le_of_ble_eq_true rfl)⟩ (Nat.le_of_ble_eq_true rfl) (by first | exact mp_fd_ok mp_k_cX10_draws_ok (by decide +kernel) | decide +kernel) (fun v_68 w_69 h_70 => ?_)
              refine h_70.elim fun r_71 q_75 => q_75.elim fun e_76 q_77 => q_77.elim fun l_72 q_78 => q_78.elim fun u_73 q_79 => q_79.elim fun x_74 e_80 => ?_
              clear h_70 q_75 q_77 q_78 q_79
              subst e_76
              subst e_80
              let w9_ : va_W := [(mp_arI E a1 0 25 f0), (mp_arI E a2 0 180 f1), (mp_arI E a3 0 90 f2), (mp_arI E a5 0 300 f4), (mp_arI E a6 0 6 g_5), (mp_arI E a7 0 6 g_6), (mp_arI E a8 0 6 g_7), (mp_arI E a9 3 1500 g_53), (mp_ob10 a0 y0 a10 a11 a12 a13 a14 y1 y2 y3 y4 y5 y6 y7 y8 y9 y10 a15 a1 a2 a16 a3 a4 a5 a17 r_4 a6 a7 a8 a9 y12 y13 y14 a18 a19 y15 y16 a20 a21 a22 y17 y18 y19 y20 a23 a24 a25 i_52), (mp_arI E a4 0 300 f3)]
              show mp_W E X 9 53 [(8, .int i_50), (7, .int i_29), (5, .long i_51), (0, .ref a0), (1, .long x0), (3, .int x1), (4, .int x2)] [.int r_71, .ref a0] w9_ 0 0
              refine mp_run mp_k_cX10_draws_ok hF mp_tabX10_ok [mp_i (.iload 7)] (by decide +kernel) ?_
              show mp_W E X 9 55 [(8, .int i_50), (7, .int i_29), (5, .long i_51), (0, .ref a0), (1, .long x0), (3, .int x1), (4, .int x2)] [.int i_29, .int r_71, .ref a0] w9_ 0 0
              refine mp_callV hF (As := [.int r_71, .int i_29]) (rest := []) (wr := [(mp_arI E a1 0 25 f0), (mp_arI E a2 0 180 f1), (mp_arI E a5 0 300 f4), (mp_arI E a6 0 6 g_5), (mp_arI E a7 0 6 g_6), (mp_arI E a8 0 6 g_7), (mp_arI E a9 3 1500 g_53), (mp_arI E a4 0 300 f3)]) (bX10_isDead_91 E a0 a3 a10 a11 a12 a13 a14 a15 a1 a2 a16 a4 a5 a17 a6 a7 a8 a9 a18 a19 a20 a21 a22 a23 a24 a25 f2 y0 y1 y2 y3 y4 y5 y6 y7 y8 y9 y10 r_4 y12 y13 y14 y15 y16 y17 y18 y19 y20 i_52 r_71 i_29 p6 p7 l_72 u_73 l_y1 u_y1 l_y2 u_y2 l_y3 u_y3 l_y4 u_y4 l_9 u_10 l_y12 u_y12 l_y13 u_y13) mp_lkX10_315 8 rfl [8, 2] [0, 1, 3, 4, 5, 6, 7, 9] rfl rfl rfl rfl rfl ⟨(Nat.le_of_ble_eq_true rfl), (Nat.le_of_ble_eq_true rfl), (Nat.le_of_ble_eq_true rfl), (Nat.le_of_ble_eq_true rfl)⟩ (Nat.le_of_ble_eq_true rfl) (by first | exact mp_fd_ok mp_k_cX10_draws_ok (by decide +kernel) | decide +kernel) (fun v_81 w_82 h_83 => ?_)
              rcases h_83 with ⟨rfl, x_84, rfl⟩ | ⟨rfl, x_85, rfl⟩
              · skip
                rw [x_74] at x_84
                let w10_ : va_W := [(mp_arI E a1 0 25 f0), (mp_arI E a2 0 180 f1), (mp_arI E a5 0 300 f4), (mp_arI E a6 0 6 g_5), (mp_arI E a7 0 6 g_6), (mp_arI E a8 0 6 g_7), (mp_arI E a9 3 1500 g_53), (mp_arI E a4 0 300 f3), (mp_ob10 a0 y0 a10 a11 a12 a13 a14 y1 y2 y3 y4 y5 y6 y7 y8 y9 y10 a15 a1 a2 a16 a3 a4 a5 a17 r_4 a6 a7 a8 a9 y12 y13 y14 a18 a19 y15 y16 a20 a21 a22 y17 y18 y19 y20 a23 a24 a25 i_52), (mp_arI E a3 0 90 f2)]
                show mp_W E X 9 58 [(8, .int i_50), (7, .int i_29), (5, .long i_51), (0, .ref a0), (1, .long x0), (3, .int x1), (4, .int x2)] [.int 0] w10_ 0 0
                refine mp_run mp_k_cX10_draws_ok hF mp_tabX10_ok [mp_h (.ifCond .ne 108) [166]] (by decide +kernel) ?_
                refine And.intro (fun c_86 => absurd c_86 (by decide)) (fun _ => ?_)
                show mp_W E X 9 61 [(8, .int i_50), (7, .int i_29), (5, .long i_51), (0, .ref a0), (1, .long x0), (3, .int x1), (4, .int x2)] [] w10_ 0 0
                refine mp_run mp_k_cX10_draws_ok hF mp_tabX10_ok [mp_i (.aload_n 0), mp_i (.aload_n 0), mp_i (.iload 8), mp_c (.iconst 1) 1] (by decide +kernel) ?_
                show mp_W E X 9 66 [(8, .int i_50), (7, .int i_29), (5, .long i_51), (0, .ref a0), (1, .long x0), (3, .int x1), (4, .int x2)] [.int 1, .int i_50, .ref a0, .ref a0] w10_ 0 0
                refine mp_callV hF (As := [.int i_50, .int 1]) (rest := [.ref a0]) (wr := [(mp_arI E a1 0 25 f0), (mp_arI E a2 0 180 f1), (mp_arI E a5 0 300 f4), (mp_arI E a6 0 6 g_5), (mp_arI E a7 0 6 g_6), (mp_arI E a8 0 6 g_7), (mp_arI E a9 3 1500 g_53), (mp_arI E a3 0 90 f2)]) (bX10_of_76 E a0 a4 a10 a11 a12 a13 a14 a15 a1 a2 a16 a3 a5 a17 a6 a7 a8 a9 a18 a19 a20 a21 a22 a23 a24 a25 f3 y0 y1 y2 y3 y4 y5 y6 y7 y8 y9 y10 r_4 y12 y13 y14 y15 y16 y17 y18 y19 y20 i_52 i_50 p8 p9 p10 p11 l_54 (by (first | exact mp_o1533 c_64 e_62 | omega)) l_y1 u_y1 l_y2 u_y2 l_y3 u_y3 l_y4 u_y4 l_9 u_10 l_y12 u_y12 l_y13 u_y13) mp_lkX10_267 8 rfl [8, 7] [0, 1, 2, 3, 4, 5, 6, 9] rfl rfl rfl rfl rfl ⟨(Nat.le_of_ble_eq_true rfl), (Nat.le_of_ble_eq_true rfl), (Nat.le_of_ble_eq_true rfl), (Nat.le_of_ble_eq_true rfl)⟩ (Nat.le_of_ble_eq_true rfl) (by first | exact mp_fd_ok mp_k_cX10_draws_ok (by decide +kernel) | decide +kernel) (fun v_87 w_88 h_89 => ?_)
                refine h_89.elim fun r_90 q_94 => q_94.elim fun e_95 q_96 => q_96.elim fun l_91 q_97 => q_97.elim fun u_92 q_98 => q_98.elim fun x_93 e_99 => ?_
                clear h_89 q_94 q_96 q_97 q_98
                subst e_95
                subst e_99
                let w11_ : va_W := [(mp_arI E a1 0 25 f0), (mp_arI E a2 0 180 f1), (mp_arI E a5 0 300 f4), (mp_arI E a6 0 6 g_5), (mp_arI E a7 0 6 g_6), (mp_arI E a8 0 6 g_7), (mp_arI E a9 3 1500 g_53), (mp_arI E a3 0 90 f2), (mp_ob10 a0 y0 a10 a11 a12 a13 a14 y1 y2 y3 y4 y5 y6 y7 y8 y9 y10 a15 a1 a2 a16 a3 a4 a5 a17 r_4 a6 a7 a8 a9 y12 y13 y14 a18 a19 y15 y16 a20 a21 a22 y17 y18 y19 y20 a23 a24 a25 i_52), (mp_arI E a4 0 300 f3)]
                show mp_W E X 9 69 [(8, .int i_50), (7, .int i_29), (5, .long i_51), (0, .ref a0), (1, .long x0), (3, .int x1), (4, .int x2)] [.int r_90, .ref a0] w11_ 0 0
                refine mp_run mp_k_cX10_draws_ok hF mp_tabX10_ok [mp_i (.iload 7)] (by decide +kernel) ?_
                show mp_W E X 9 71 [(8, .int i_50), (7, .int i_29), (5, .long i_51), (0, .ref a0), (1, .long x0), (3, .int x1), (4, .int x2)] [.int i_29, .int r_90, .ref a0] w11_ 0 0
                refine mp_callV hF (As := [.int r_90, .int i_29]) (rest := []) (wr := [(mp_arI E a1 0 25 f0), (mp_arI E a2 0 180 f1), (mp_arI E a5 0 300 f4), (mp_arI E a6 0 6 g_5), (mp_arI E a7 0 6 g_6), (mp_arI E a8 0 6 g_7), (mp_arI E a9 3 1500 g_53), (mp_arI E a4 0 300 f3)]) (bX10_isDead_91 E a0 a3 a10 a11 a12 a13 a14 a15 a1 a2 a16 a4 a5 a17 a6 a7 a8 a9 a18 a19 a20 a21 a22 a23 a24 a25 f2 y0 y1 y2 y3 y4 y5 y6 y7 y8 y9 y10 r_4 y12 y13 y14 y15 y16 y17 y18 y19 y20 i_52 r_90 i_29 p6 p7 l_91 u_92 l_y1 u_y1 l_y2 u_y2 l_y3 u_y3 l_y4 u_y4 l_9 u_10 l_y12 u_y12 l_y13 u_y13) mp_lkX10_315 8 rfl [8, 7] [0, 1, 2, 3, 4, 5, 6, 9] rfl rfl rfl rfl rfl ⟨(Nat.le_of_ble_eq_true rfl), (Nat.le_of_ble_eq_true rfl), (Nat.le_of_ble_eq_true rfl), (Nat.le_of_ble_eq_true rfl)⟩ (Nat.le_of_ble_eq_true rfl) (by first | exact mp_fd_ok mp_k_cX10_draws_ok (by decide +kernel) | decide +kernel) (fun v_100 w_101 h_102 => ?_)
                rcases h_102 with ⟨rfl, x_103, rfl⟩ | ⟨rfl, x_104, rfl⟩
                · skip
                  rw [x_93] at x_103
                  show mp_W E X 9 74 [(8, .int i_50), (7, .int i_29), (5, .long i_51), (0, .ref a0), (1, .long x0), (3, .int x1), (4, .int x2)] [.int 0] w10_ 0 0
                  refine mp_run mp_k_cX10_draws_ok hF mp_tabX10_ok [mp_h (.ifCond .eq 6) [80]] (by decide +kernel) ?_
                  refine And.intro (fun _ => ?_) (fun c_105 => absurd c_105 (by decide))
                  show mp_W E X 9 80 [(8, .int i_50), (7, .int i_29), (5, .long i_51), (0, .ref a0), (1, .long x0), (3, .int x1), (4, .int x2)] [] w10_ 0 0
                  refine mp_run mp_k_cX10_draws_ok hF mp_tabX10_ok [mp_cl (.ldc2_w 453) 1103515245, mp_i (.lload 5), mp_i .lmul, mp_cl (.ldc2_w 455) 12345, mp_i .ladd, mp_cl (.ldc2_w 457) 2147483648, mp_i .lrem, mp_i (.lstore 5), mp_i (.lload 5), mp_cl (.ldc2_w 459) 65536, mp_i .ldiv, mp_cl (.ldc2_w 461) 100, mp_i .lrem, mp_i (.aload_n 0), mp_h (.getfield 44) [20, 8], mp_c (.iconst 3) 3, mp_i (.aload_n 0), mp_i (.iload 8), mp_c (.iconst 0) 0] (by decide +kernel) ?_
                  intro z_106 h_107
                  intro z_108 h_109
                  refine And.intro (by decide) ?_
                  intro z_110 h_111
                  refine And.intro (by decide) ?_
                  intro z_112 h_113
                  refine And.intro (by decide) ?_
                  intro z_114 h_115
                  refine And.intro rfl (And.intro rfl ?_)
                  show mp_W E X 9 115 [(5, .long z_110), (8, .int i_50), (7, .int i_29), (0, .ref a0), (1, .long x0), (3, .int x1), (4, .int x2)] [.int 0, .int i_50, .ref a0, .int 3, .ref a3, .long z_114] w10_ 0 0
                  refine mp_callV hF (As := [.int i_50, .int 0]) (rest := [.int 3, .ref a3, .long z_114]) (wr := [(mp_arI E a1 0 25 f0), (mp_arI E a2 0 180 f1), (mp_arI E a5 0 300 f4), (mp_arI E a6 0 6 g_5), (mp_arI E a7 0 6 g_6), (mp_arI E a8 0 6 g_7), (mp_arI E a9 3 1500 g_53), (mp_arI E a3 0 90 f2)]) (bX10_of_64 E a0 a4 a10 a11 a12 a13 a14 a15 a1 a2 a16 a3 a5 a17 a6 a7 a8 a9 a18 a19 a20 a21 a22 a23 a24 a25 f3 y0 y1 y2 y3 y4 y5 y6 y7 y8 y9 y10 r_4 y12 y13 y14 y15 y16 y17 y18 y19 y20 i_52 i_50 p8 p9 p10 p11 l_54 (by (first | exact mp_o1533 c_64 e_62 | omega)) l_y1 u_y1 l_y2 u_y2 l_y3 u_y3 l_y4 u_y4 l_9 u_10 l_y12 u_y12 l_y13 u_y13) mp_lkX10_267 8 rfl [8, 7] [0, 1, 2, 3, 4, 5, 6, 9] rfl rfl rfl rfl rfl ⟨(Nat.le_of_ble_eq_true rfl), (Nat.le_of_ble_eq_true rfl), (Nat.le_of_ble_eq_true rfl), (Nat.le_of_ble_eq_true rfl)⟩ (Nat.le_of_ble_eq_true rfl) (by first | exact mp_fd_ok mp_k_cX10_draws_ok (by decide +kernel) | decide +kernel) (fun v_116 w_117 h_118 => ?_)
                  refine h_118.elim fun r_119 q_123 => q_123.elim fun e_124 q_125 => q_125.elim fun l_120 q_126 => q_126.elim fun u_121 q_127 => q_127.elim fun x_122 e_128 => ?_
                  clear h_118 q_123 q_125 q_126 q_127
                  subst e_124
                  subst e_128
                  show mp_W E X 9 118 [(5, .long z_110), (8, .int i_50), (7, .int i_29), (0, .ref a0), (1, .long x0), (3, .int x1), (4, .int x2)] [.int r_119, .int 3, .ref a3, .long z_114] w11_ 0 0
                  refine mp_run mp_k_cX10_draws_ok hF mp_tabX10_ok [mp_i .imul, mp_c (.iconst 2) 2, mp_i .iadd, mp_h .iaload [7], mp_i .i2l, mp_i .lcmp, mp_h (.ifCond .lt 6) [130]] (by decide +kernel) ?_
                  intro z_129 h_130
                  have e_131 : z_129.toInt = 3 * r_119.toInt := mp_mul (a := 3) (b := r_119.toInt) h_130 (by decide) rfl (by (first | exact mp_o1399 l_120 | omega)) (by (first | exact mp_o1400 u_121 | omega))
                  intro z_132 h_133
                  have e_134 : z_132.toInt = z_129.toInt + 2 := mp_add (a := z_129.toInt) (b := 2) h_133 rfl (by decide) (by (first | exact mp_o1855 l_120 e_131 | omega)) (by (first | exact mp_o1856 u_121 e_131 | omega))
                  refine And.intro rfl (And.intro rfl (And.intro (vp_in_iff.mpr (by (first | exact mp_o1857 l_120 u_121 e_131 e_134 | omega))) ?_))
                  intro z_135 h_136
                  intro z_137 h_138
                  have e_139 : z_137.toInt = z_135.toInt := mp_i2l h_138
                  intro z_140 h_141
                  refine And.intro (fun c_142 => ?_) (fun c_142 => ?_)
                  · have c_142 : z_114.toInt < z_137.toInt := mp_lc_lt h_141 c_142
                    show mp_W E X 9 130 [(5, .long z_110), (8, .int i_50), (7, .int i_29), (0, .ref a0), (1, .long x0), (3, .int x1), (4, .int x2)] [] w11_ 0 0
                    refine mp_run mp_k_cX10_draws_ok hF mp_tabX10_ok [mp_i (.aload_n 0), mp_h (.getfield 65) [28, 8], mp_c (.sipush 150) 150, mp_i (.iload 8), mp_i .imul, mp_i (.iload 7), mp_i .iadd, mp_c (.iconst 1) 1, mp_h .bastore [6, 0]] (by decide +kernel) ?_
                    refine And.intro rfl (And.intro rfl ?_)
                    intro z_143 h_144
                    have e_145 : z_143.toInt = 150 * i_50.toInt := mp_mul (a := 150) (b := i_50.toInt) h_144 (by decide) rfl (by (first | exact mp_o1858 l_54 | omega)) (by (first | exact mp_o1859 u_55 | omega))
                    intro z_146 h_147
                    have e_148 : z_146.toInt = z_143.toInt + i_29.toInt := mp_add (a := z_143.toInt) (b := i_29.toInt) h_147 rfl rfl (by (first | exact mp_o1860 l_33 l_54 e_145 | omega)) (by (first | exact mp_o1861 u_55 e_145 u_x1 u_10 e_41 c_42 | omega))
                    refine And.intro rfl (And.intro rfl (And.intro (vp_in_iff.mpr (by (first | exact mp_o1862 l_54 l_33 e_145 e_148 u_x1 u_10 e_41 c_42 c_64 e_62 | omega))) ?_))
                    intro g_149 h_150
                    have h_151 : g_149 = upd g_53 z_146.toNatClampNeg 1 := h_150.trans (congrArg (upd _ _) (by decide))
                    let w12_ : va_W := [(mp_arI E a1 0 25 f0), (mp_arI E a2 0 180 f1), (mp_arI E a5 0 300 f4), (mp_arI E a6 0 6 g_5), (mp_arI E a7 0 6 g_6), (mp_arI E a8 0 6 g_7), (mp_arI E a9 3 1500 g_149), (mp_arI E a3 0 90 f2), (mp_ob10 a0 y0 a10 a11 a12 a13 a14 y1 y2 y3 y4 y5 y6 y7 y8 y9 y10 a15 a1 a2 a16 a3 a4 a5 a17 r_4 a6 a7 a8 a9 y12 y13 y14 a18 a19 y15 y16 a20 a21 a22 y17 y18 y19 y20 a23 a24 a25 i_52), (mp_arI E a4 0 300 f3)]
                    show mp_W E X 9 145 [(5, .long z_110), (8, .int i_50), (7, .int i_29), (0, .ref a0), (1, .long x0), (3, .int x1), (4, .int x2)] [] w12_ 0 0
                    refine mp_run mp_k_cX10_draws_ok hF mp_tabX10_ok [mp_i (.aload_n 0), mp_i .dup, mp_h (.getfield 450) [46, 8], mp_i (.iload 8), mp_i (.iload 4), mp_h (.if_icmp .ne 7) [161]] (by decide +kernel) ?_
                    refine And.intro rfl ?_
                    refine And.intro rfl (And.intro rfl ?_)
                    refine And.intro (fun c_152 => ?_) (fun c_152 => ?_)
                    · have c_152 : i_50.toInt ≠ x2.toInt := c_152
                      show mp_W E X 9 161 [(5, .long z_110), (8, .int i_50), (7, .int i_29), (0, .ref a0), (1, .long x0), (3, .int x1), (4, .int x2)] [.int i_52, .ref a0] w12_ 0 0
                      refine mp_run mp_k_cX10_draws_ok hF mp_tabX10_ok [mp_c (.iconst 0) 0, mp_i .iadd, mp_h (.putfield 450) [46, 8]] (by decide +kernel) ?_
                      intro z_153 h_154
                      have e_155 := mp_bnd i_52
                      have e_156 : z_153.toInt = i_52.toInt + 0 := mp_add (a := i_52.toInt) (b := 0) h_154 rfl (by decide) (by (first | exact mp_o827 e_155 | omega)) (by (first | exact mp_o828 e_155 | omega))
                      refine And.intro rfl (And.intro rfl (And.intro rfl (And.intro rfl (And.intro (Nat.le_of_ble_eq_true rfl) ?_))))
                      let w13_ : va_W := [(mp_arI E a1 0 25 f0), (mp_arI E a2 0 180 f1), (mp_arI E a5 0 300 f4), (mp_arI E a6 0 6 g_5), (mp_arI E a7 0 6 g_6), (mp_arI E a8 0 6 g_7), (mp_arI E a9 3 1500 g_149), (mp_arI E a3 0 90 f2), (mp_ob10 a0 y0 a10 a11 a12 a13 a14 y1 y2 y3 y4 y5 y6 y7 y8 y9 y10 a15 a1 a2 a16 a3 a4 a5 a17 r_4 a6 a7 a8 a9 y12 y13 y14 a18 a19 y15 y16 a20 a21 a22 y17 y18 y19 y20 a23 a24 a25 z_153), (mp_arI E a4 0 300 f3)]
                      show mp_W E X 9 166 [(5, .long z_110), (8, .int i_50), (7, .int i_29), (0, .ref a0), (1, .long x0), (3, .int x1), (4, .int x2)] [] w13_ 0 0
                      refine mp_run mp_k_cX10_draws_ok hF mp_tabX10_ok [mp_c (.iinc 8 1) 1, mp_h (.goto (-135)) [34]] (by decide +kernel) ?_
                      intro z_157 h_158
                      have e_159 : z_157.toInt = i_50.toInt + 1 := mp_add (a := i_50.toInt) (b := 1) h_158 rfl (by decide) (by (first | exact mp_o2 l_54 | omega)) (by (first | exact mp_o420 u_55 | omega))
                      show mp_W E X 9 34 [(8, .int z_157), (5, .long z_110), (7, .int i_29), (0, .ref a0), (1, .long x0), (3, .int x1), (4, .int x2)] [] w13_ 0 0
                      exact mp_sub [0, 2, 1, 3, 4, 5, 6] rfl [9, 8, 0, 1, 7, 2, 3, 4, 5, 6] rfl rfl (ih_58 (d_57 - 1) (by (first | exact mp_o1454 hm_59 e_63 c_64 | omega)) z_157 z_110 z_153 g_149 (by (first | exact mp_o51 l_54 e_159 | omega)) (by (first | exact mp_o1534 e_159 c_64 e_62 | omega)) (by (first | exact mp_o77 hm_59 e_159 | omega)))
                    · have c_152 : i_50.toInt = x2.toInt := (congrArg Int32.toInt c_152)
                      show mp_W E X 9 157 [(5, .long z_110), (8, .int i_50), (7, .int i_29), (0, .ref a0), (1, .long x0), (3, .int x1), (4, .int x2)] [.int i_52, .ref a0] w12_ 0 0
                      refine mp_run mp_k_cX10_draws_ok hF mp_tabX10_ok [mp_c (.iconst 1) 1, mp_h (.goto 4) [162], mp_i .iadd, mp_h (.putfield 450) [46, 8]] (by decide +kernel) ?_
                      intro z_160 h_161
                      have e_162 := mp_bnd i_52
                      refine And.intro rfl (And.intro rfl (And.intro rfl (And.intro rfl (And.intro (Nat.le_of_ble_eq_true rfl) ?_))))
                      let w14_ : va_W := [(mp_arI E a1 0 25 f0), (mp_arI E a2 0 180 f1), (mp_arI E a5 0 300 f4), (mp_arI E a6 0 6 g_5), (mp_arI E a7 0 6 g_6), (mp_arI E a8 0 6 g_7), (mp_arI E a9 3 1500 g_149), (mp_arI E a3 0 90 f2), (mp_ob10 a0 y0 a10 a11 a12 a13 a14 y1 y2 y3 y4 y5 y6 y7 y8 y9 y10 a15 a1 a2 a16 a3 a4 a5 a17 r_4 a6 a7 a8 a9 y12 y13 y14 a18 a19 y15 y16 a20 a21 a22 y17 y18 y19 y20 a23 a24 a25 z_160), (mp_arI E a4 0 300 f3)]
                      show mp_W E X 9 166 [(5, .long z_110), (8, .int i_50), (7, .int i_29), (0, .ref a0), (1, .long x0), (3, .int x1), (4, .int x2)] [] w14_ 0 0
                      refine mp_run mp_k_cX10_draws_ok hF mp_tabX10_ok [mp_c (.iinc 8 1) 1, mp_h (.goto (-135)) [34]] (by decide +kernel) ?_
                      intro z_164 h_165
                      have e_166 : z_164.toInt = i_50.toInt + 1 := mp_add (a := i_50.toInt) (b := 1) h_165 rfl (by decide) (by (first | exact mp_o298 l_x2 c_152 | omega)) (by (first | exact mp_o829 u_x2 c_152 | omega))
                      show mp_W E X 9 34 [(8, .int z_164), (5, .long z_110), (7, .int i_29), (0, .ref a0), (1, .long x0), (3, .int x1), (4, .int x2)] [] w14_ 0 0
                      exact mp_sub [0, 2, 1, 3, 4, 5, 6] rfl [9, 8, 0, 1, 7, 2, 3, 4, 5, 6] rfl rfl (ih_58 (d_57 - 1) (by (first | exact mp_o631 hm_59 q1 c_152 | omega)) z_164 z_110 z_160 g_149 (by (first | exact mp_o605 l_x2 c_152 e_166 | omega)) (by (first | exact mp_o830 u_x2 c_152 e_166 | omega)) (by (first | exact mp_o77 hm_59 e_166 | omega)))
                  · have c_142 : z_137.toInt ≤ z_114.toInt := mp_lc_ge h_141 c_142
                    show mp_W E X 9 127 [(5, .long z_110), (8, .int i_50), (7, .int i_29), (0, .ref a0), (1, .long x0), (3, .int x1), (4, .int x2)] [] w11_ 0 0
                    refine mp_run mp_k_cX10_draws_ok hF mp_tabX10_ok [mp_h (.goto 39) [166], mp_c (.iinc 8 1) 1, mp_h (.goto (-135)) [34]] (by decide +kernel) ?_
                    intro z_167 h_168
                    have e_169 : z_167.toInt = i_50.toInt + 1 := mp_add (a := i_50.toInt) (b := 1) h_168 rfl (by decide) (by (first | exact mp_o2 l_54 | omega)) (by (first | exact mp_o420 u_55 | omega))
                    show mp_W E X 9 34 [(8, .int z_167), (5, .long z_110), (7, .int i_29), (0, .ref a0), (1, .long x0), (3, .int x1), (4, .int x2)] [] w11_ 0 0
                    exact mp_sub [0, 2, 1, 3, 4, 5, 6] rfl [9, 8, 0, 1, 7, 2, 3, 4, 5, 6] rfl rfl (ih_58 (d_57 - 1) (by (first | exact mp_o1454 hm_59 e_63 c_64 | omega)) z_167 z_110 i_52 g_53 (by (first | exact mp_o51 l_54 e_169 | omega)) (by (first | exact mp_o1534 e_169 c_64 e_62 | omega)) (by (first | exact mp_o77 hm_59 e_169 | omega)))
                · skip
                  rw [x_93] at x_104
                  show mp_W E X 9 74 [(8, .int i_50), (7, .int i_29), (5, .long i_51), (0, .ref a0), (1, .long x0), (3, .int x1), (4, .int x2)] [.int 1] w10_ 0 0
                  refine mp_run mp_k_cX10_draws_ok hF mp_tabX10_ok [mp_h (.ifCond .eq 6) [80]] (by decide +kernel) ?_
                  refine And.intro (fun c_170 => absurd c_170 (by decide)) (fun _ => ?_)
                  show mp_W E X 9 77 [(8, .int i_50), (7, .int i_29), (5, .long i_51), (0, .ref a0), (1, .long x0), (3, .int x1), (4, .int x2)] [] w10_ 0 0
                  refine mp_run mp_k_cX10_draws_ok hF mp_tabX10_ok [mp_h (.goto 89) [166], mp_c (.iinc 8 1) 1, mp_h (.goto (-135)) [34]] (by decide +kernel) ?_
                  intro z_171 h_172
                  have e_173 : z_171.toInt = i_50.toInt + 1 := mp_add (a := i_50.toInt) (b := 1) h_172 rfl (by decide) (by (first | exact mp_o2 l_54 | omega)) (by (first | exact mp_o420 u_55 | omega))
                  show mp_W E X 9 34 [(8, .int z_171), (7, .int i_29), (5, .long i_51), (0, .ref a0), (1, .long x0), (3, .int x1), (4, .int x2)] [] w10_ 0 0
                  exact mp_sub [0, 1, 2, 3, 4, 5, 6] rfl [7, 8, 0, 1, 9, 2, 3, 4, 5, 6] rfl rfl (ih_58 (d_57 - 1) (by (first | exact mp_o1454 hm_59 e_63 c_64 | omega)) z_171 i_51 i_52 g_53 (by (first | exact mp_o51 l_54 e_173 | omega)) (by (first | exact mp_o1534 e_173 c_64 e_62 | omega)) (by (first | exact mp_o77 hm_59 e_173 | omega)))
              · skip
                rw [x_74] at x_85
                let w15_ : va_W := [(mp_arI E a1 0 25 f0), (mp_arI E a2 0 180 f1), (mp_arI E a5 0 300 f4), (mp_arI E a6 0 6 g_5), (mp_arI E a7 0 6 g_6), (mp_arI E a8 0 6 g_7), (mp_arI E a9 3 1500 g_53), (mp_arI E a4 0 300 f3), (mp_ob10 a0 y0 a10 a11 a12 a13 a14 y1 y2 y3 y4 y5 y6 y7 y8 y9 y10 a15 a1 a2 a16 a3 a4 a5 a17 r_4 a6 a7 a8 a9 y12 y13 y14 a18 a19 y15 y16 a20 a21 a22 y17 y18 y19 y20 a23 a24 a25 i_52), (mp_arI E a3 0 90 f2)]
                show mp_W E X 9 58 [(8, .int i_50), (7, .int i_29), (5, .long i_51), (0, .ref a0), (1, .long x0), (3, .int x1), (4, .int x2)] [.int 1] w15_ 0 0
                refine mp_run mp_k_cX10_draws_ok hF mp_tabX10_ok [mp_h (.ifCond .ne 108) [166]] (by decide +kernel) ?_
                refine And.intro (fun _ => ?_) (fun c_174 => absurd c_174 (by decide))
                show mp_W E X 9 166 [(8, .int i_50), (7, .int i_29), (5, .long i_51), (0, .ref a0), (1, .long x0), (3, .int x1), (4, .int x2)] [] w15_ 0 0
                refine mp_run mp_k_cX10_draws_ok hF mp_tabX10_ok [mp_c (.iinc 8 1) 1, mp_h (.goto (-135)) [34]] (by decide +kernel) ?_
                intro z_175 h_176
                have e_177 : z_175.toInt = i_50.toInt + 1 := mp_add (a := i_50.toInt) (b := 1) h_176 rfl (by decide) (by (first | exact mp_o2 l_54 | omega)) (by (first | exact mp_o420 u_55 | omega))
                show mp_W E X 9 34 [(8, .int z_175), (7, .int i_29), (5, .long i_51), (0, .ref a0), (1, .long x0), (3, .int x1), (4, .int x2)] [] w15_ 0 0
                exact mp_sub [0, 1, 2, 3, 4, 5, 6] rfl [7, 8, 0, 1, 9, 2, 3, 4, 5, 6] rfl rfl (ih_58 (d_57 - 1) (by (first | exact mp_o1454 hm_59 e_63 c_64 | omega)) z_175 i_51 i_52 g_53 (by (first | exact mp_o51 l_54 e_177 | omega)) (by (first | exact mp_o1534 e_177 c_64 e_62 | omega)) (by (first | exact mp_o77 hm_59 e_177 | omega)))
        exact mp_sub [0, 1, 2, 3, 4, 5, 6] rfl [0, 1, 2, 3, 4, 5, 6, 7, 8, 9] rfl rfl (lp_56 _ 0 i_30 i_31 g_32 (by decide) (by decide) (Int.self_le_toNat _))
  exact mp_sub [0, 1, 2, 3, 4, 5] rfl [0, 1, 2, 3, 4, 5, 6, 7, 8, 9] rfl rfl (lp_35 _ z_26 x0 0 g_8 (by (first | exact mp_o182 l_9 e_28 | omega)) (by (first | exact mp_o831 u_10 e_28 | omega)) (Int.self_le_toNat _))
