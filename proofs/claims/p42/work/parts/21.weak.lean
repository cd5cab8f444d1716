set_option maxHeartbeats 4000000 in
set_option maxRecDepth 100000 in
theorem bX9_wins_163 (E : mp_E) (a0 a1 a2 a3 a4 a5 a6 a7 a8 a9 a10 a11 a12 a13 a14 : Nat) (f0 : Nat → Int32) (f1 : Nat → Int32) (f2 : Nat → Int64) (f3 : Nat → Int32) (y0 : Int32) (x0 : Int32) (p0 : mp_all f0 8 0 99) (p1 : mp_all f3 4 (-1) 60) (l_y0 : (-1) ≤ y0.toInt) (u_y0 : y0.toInt ≤ 8) (q0 : ∀ j : Nat, (j : Int) < 100 → f1 j = mp_nim j) : mp_Ct E yX9_wins cX9_wins 3 (some FieldType.int) 3 0 0 68 [.ref a0, .int x0] [(mp_ob9 a0 a7 a8 a9 a10 a11 a12 a1 a13 a4), (mp_ob6 a1 y0 a2 a3), (mp_arI E a2 0 8 f0), (mp_arI E a3 0 100 f1), (mp_ob5 a4 a5 a14 a6), (mp_arL E a5 240 f2), (mp_arI E a6 0 4 f3)] (fun v w' => (∃ r1 : Int32, ∃ h2 : Nat → Int32, v = some (.int (-2)) ∧ (-1) ≤ r1.toInt ∧ r1.toInt ≤ 8 ∧ mp_all h2 8 0 99 ∧ ((x0.toInt < 0 ∨ 3 < x0.toInt) ∨ ((0 ≤ x0.toInt ∧ x0.toInt ≤ 3) ∧ (f3 x0.toInt.toNat).toInt ≠ -1 ∧ (8 < (f3 x0.toInt.toNat).toInt ∨ ¬ mp_c99 f2 x0.toInt (f3 x0.toInt.toNat).toInt))) ∧ w' = [(mp_ob9 a0 a7 a8 a9 a10 a11 a12 a1 a13 a4), (mp_ob6 a1 r1 a2 a3), (mp_arI E a2 0 8 h2), (mp_arI E a3 0 100 f1), (mp_ob5 a4 a5 a14 a6), (mp_arL E a5 240 f2), (mp_arI E a6 0 4 f3)]) ∨ (v = some (.int (-6)) ∧ 0 ≤ x0.toInt ∧ x0.toInt < 4 ∧ (0 ≤ x0.toInt ∧ x0.toInt ≤ 3 ∧ (f3 x0.toInt.toNat).toInt = -1) ∧ w' = [(mp_ob9 a0 a7 a8 a9 a10 a11 a12 a1 a13 a4), (mp_ob6 a1 y0 a2 a3), (mp_arI E a2 0 8 f0), (mp_arI E a3 0 100 f1), (mp_ob5 a4 a5 a14 a6), (mp_arL E a5 240 f2), (mp_arI E a6 0 4 f3)]) ∨ (∃ r1 : Int32, ∃ h2 : Nat → Int32, ∃ r3 : Int32, v = some (.int r3) ∧ 0 ≤ x0.toInt ∧ x0.toInt < 4 ∧ (-1) ≤ r1.toInt ∧ r1.toInt ≤ 8 ∧ 0 ≤ r3.toInt ∧ r3.toInt ≤ 1 ∧ mp_all h2 8 0 99 ∧ (0 ≤ x0.toInt ∧ x0.toInt ≤ 3 ∧ (f3 x0.toInt.toNat).toInt ≠ -1 ∧ (f3 x0.toInt.toNat).toInt ≤ 8) ∧ (mp_c99 f2 x0.toInt (f3 x0.toInt.toNat).toInt) ∧ (((mp_xr (fun j : Nat => (f2 (60 * x0.toInt.toNat + j)).toInt32) (f3 x0.toInt.toNat).toInt.toNat).toInt ≠ 0 ∧ r3.toInt = 1) ∨ ((mp_xr (fun j : Nat => (f2 (60 * x0.toInt.toNat + j)).toInt32) (f3 x0.toInt.toNat).toInt.toNat).toInt = 0 ∧ r3.toInt = 0)) ∧ w' = [(mp_ob9 a0 a7 a8 a9 a10 a11 a12 a1 a13 a4), (mp_ob6 a1 r1 a2 a3), (mp_arI E a2 0 8 h2), (mp_arI E a3 0 100 f1), (mp_ob5 a4 a5 a14 a6), (mp_arL E a5 240 f2), (mp_arI E a6 0 4 f3)])) := by
  refine mp_met false (by decide) (by decide) (Nat.le_of_ble_eq_true rfl) (fun X hF hQ => ?_)
  have hF : mp_F E X (RX9, cX9_wins, 3, (3, 0, 0, 68), (some FieldType.int), false) := hF
  let w1_ : va_W := [(mp_ob9 a0 a7 a8 a9 a10 a11 a12 a1 a13 a4), (mp_ob6 a1 y0 a2 a3), (mp_arI E a2 0 8 f0), (mp_arI E a3 0 100 f1), (mp_ob5 a4 a5 a14 a6), (mp_arL E a5 240 f2), (mp_arI E a6 0 4 f3)]
  show mp_W E X 3 0 [(0, .ref a0), (1, .int x0)] [] w1_ 0 0
  refine mp_run mp_k_cX9_wins_ok hF mp_tabX9_ok [mp_i (.aload_n 0), mp_i (.iload_n 1)] (by decide +kernel) ?_
  show mp_W E X 3 2 [(0, .ref a0), (1, .int x0)] [.int x0, .ref a0] w1_ 0 0
  refine mp_callV hF (As := [.int x0]) (rest := []) (wr := []) (bX9_putInThreat_161 E a0 a1 a2 a3 a4 a5 a6 a7 a8 a9 a10 a11 a12 a13 a14 f0 f1 f2 f3 y0 x0 p0 p1 l_y0 u_y0) mp_lkX9_307 0 rfl [0, 1, 2, 3, 4, 5, 6] [] rfl rfl rfl rfl rfl ⟨(Nat.le_of_ble_eq_true rfl), (Nat.le_of_ble_eq_true rfl), (Nat.le_of_ble_eq_true rfl), (Nat.le_of_ble_eq_true rfl)⟩ (Nat.le_of_ble_eq_true rfl) (by first | exact mp_fd_ok mp_k_cX9_wins_ok (by decide +kernel) | decide +kernel) (fun v_1 w_2 h_3 => ?_)
  refine h_3.elim (fun q_24 => ?_) (fun q_25 => q_25.elim (fun q_26 => ?_) (fun q_27 => ?_))
  · skip
    refine q_24.elim fun r_4 q_28 => q_28.elim fun g_5 q_29 => q_29.elim fun e_30 q_31 => q_31.elim fun l_6 q_32 => q_32.elim fun u_7 q_33 => q_33.elim fun p_8 q_34 => q_34.elim fun x_9 e_35 => ?_
    clear h_3 q_24 q_28 q_29 q_31 q_32 q_33 q_34
    subst e_30
    subst e_35
    let w2_ : va_W := [(mp_ob9 a0 a7 a8 a9 a10 a11 a12 a1 a13 a4), (mp_ob6 a1 r_4 a2 a3), (mp_arI E a2 0 8 g_5), (mp_arI E a3 0 100 f1), (mp_ob5 a4 a5 a14 a6), (mp_arL E a5 240 f2), (mp_arI E a6 0 4 f3)]
    show mp_W E X 3 5 [(0, .ref a0), (1, .int x0)] [.int (-2)] w2_ 0 0
    refine mp_run mp_k_cX9_wins_ok hF mp_tabX9_ok [mp_i (.istore_n 2), mp_i (.iload_n 2), mp_h (.ifCond .eq 5) [12]] (by decide +kernel) ?_
    refine And.intro (fun c_36 => absurd c_36 (by decide)) (fun _ => ?_)
    show mp_W E X 3 10 [(2, .int (-2)), (0, .ref a0), (1, .int x0)] [] w2_ 0 0
    refine mp_run mp_k_cX9_wins_ok hF mp_tabX9_ok [mp_i (.iload_n 2)] (by decide +kernel) ?_
    show mp_W E X 3 11 [(2, .int (-2)), (0, .ref a0), (1, .int x0)] [.int (-2)] w2_ 0 0
    exact mp_iret hF hQ rfl rfl (Nat.le_of_ble_eq_true rfl) (Nat.le_of_ble_eq_true rfl) [0, 1, 2, 3, 4, 5, 6] (w' := w2_) rfl rfl (Or.inl ⟨r_4, g_5, rfl, l_6, u_7, p_8, x_9, rfl⟩) (by first | exact mp_fd_ok mp_k_cX9_wins_ok (by decide +kernel) | decide +kernel)
  · skip
    refine q_26.elim fun e_37 q_38 => q_38.elim fun c_10 q_39 => q_39.elim fun c_11 q_40 => q_40.elim fun x_12 e_41 => ?_
    clear h_3 q_25 q_26 q_38 q_39 q_40
    subst e_37
    subst e_41
    have c_10 : 0 ≤ x0.toInt := c_10
    have c_11 : x0.toInt < 4 := c_11
    show mp_W E X 3 5 [(0, .ref a0), (1, .int x0)] [.int (-6)] w1_ 0 0
    refine mp_run mp_k_cX9_wins_ok hF mp_tabX9_ok [mp_i (.istore_n 2), mp_i (.iload_n 2), mp_h (.ifCond .eq 5) [12]] (by decide +kernel) ?_
    refine And.intro (fun c_42 => absurd c_42 (by decide)) (fun _ => ?_)
    show mp_W E X 3 10 [(2, .int (-6)), (0, .ref a0), (1, .int x0)] [] w1_ 0 0
    refine mp_run mp_k_cX9_wins_ok hF mp_tabX9_ok [mp_i (.iload_n 2)] (by decide +kernel) ?_
    show mp_W E X 3 11 [(2, .int (-6)), (0, .ref a0), (1, .int x0)] [.int (-6)] w1_ 0 0
    exact mp_iret hF hQ rfl rfl (Nat.le_of_ble_eq_true rfl) (Nat.le_of_ble_eq_true rfl) [0, 1, 2, 3, 4, 5, 6] (w' := w1_) rfl rfl (Or.inr (Or.inl ⟨rfl, (by first | (first | exact c_10 | omega) | decide), (by first | (first | exact c_11 | omega) | decide), x_12, rfl⟩)) (by first | exact mp_fd_ok mp_k_cX9_wins_ok (by decide +kernel) | decide +kernel)
  · skip
    refine q_27.elim fun r_13 q_43 => q_43.elim fun g_14 q_44 => q_44.elim fun e_45 q_46 => q_46.elim fun c_15 q_47 => q_47.elim fun c_16 q_48 => q_48.elim fun l_17 q_49 => q_49.elim fun u_18 q_50 => q_50.elim fun p_19 q_51 => q_51.elim fun x_20 q_52 => q_52.elim fun x_21 q_53 => q_53.elim fun x_22 q_54 => q_54.elim fun x_23 e_55 => ?_
    clear h_3 q_25 q_27 q_43 q_44 q_46 q_47 q_48 q_49 q_50 q_51 q_52 q_53 q_54
    subst e_45
    subst e_55
    have c_15 : 0 ≤ x0.toInt := c_15
    have c_16 : x0.toInt < 4 := c_16
    let w3_ : va_W := [(mp_ob9 a0 a7 a8 a9 a10 a11 a12 a1 a13 a4), (mp_ob6 a1 r_13 a2 a3), (mp_arI E a2 0 8 g_14), (mp_arI E a3 0 100 f1), (mp_ob5 a4 a5 a14 a6), (mp_arL E a5 240 f2), (mp_arI E a6 0 4 f3)]
    show mp_W E X 3 5 [(0, .ref a0), (1, .int x0)] [.int 0] w3_ 0 0
    refine mp_run mp_k_cX9_wins_ok hF mp_tabX9_ok [mp_i (.istore_n 2), mp_i (.iload_n 2), mp_h (.ifCond .eq 5) [12]] (by decide +kernel) ?_
    refine And.intro (fun _ => ?_) (fun c_56 => absurd c_56 (by decide))
    show mp_W E X 3 12 [(2, .int 0), (0, .ref a0), (1, .int x0)] [] w3_ 0 0
    refine mp_run mp_k_cX9_wins_ok hF mp_tabX9_ok [mp_i (.aload_n 0), mp_h (.getfield 53) [42, 0]] (by decide +kernel) ?_
    refine And.intro rfl (And.intro rfl ?_)
    show mp_W E X 3 16 [(2, .int 0), (0, .ref a0), (1, .int x0)] [.ref a1] w3_ 0 0
    refine mp_callV hF (As := []) (rest := []) (wr := [(mp_ob9 a0 a7 a8 a9 a10 a11 a12 a1 a13 a4), (mp_ob5 a4 a5 a14 a6), (mp_arL E a5 240 f2), (mp_arI E a6 0 4 f3)]) (bX6_total_162 E a1 a2 a3 g_14 f1 r_13 p_19 l_17 u_18 (by assumption)) mp_lkX9_310 1 rfl [1, 2, 3] [0, 4, 5, 6] rfl rfl rfl rfl rfl ⟨(Nat.le_of_ble_eq_true rfl), (Nat.le_of_ble_eq_true rfl), (Nat.le_of_ble_eq_true rfl), (Nat.le_of_ble_eq_true rfl)⟩ (Nat.le_of_ble_eq_true rfl) (by first | exact mp_fd_ok mp_k_cX9_wins_ok (by decide +kernel) | decide +kernel) (fun v_57 w_58 h_59 => ?_)
    obtain ⟨r_60, rfl, x_61, rfl⟩ := h_59
    let w4_ : va_W := [(mp_ob9 a0 a7 a8 a9 a10 a11 a12 a1 a13 a4), (mp_ob5 a4 a5 a14 a6), (mp_arL E a5 240 f2), (mp_arI E a6 0 4 f3), (mp_ob6 a1 r_13 a2 a3), (mp_arI E a2 0 8 g_14), (mp_arI E a3 0 100 f1)]
    show mp_W E X 3 19 [(2, .int 0), (0, .ref a0), (1, .int x0)] [.int r_60] w4_ 0 0
    refine mp_run mp_k_cX9_wins_ok hF mp_tabX9_ok [mp_h (.ifCond .eq 7) [26]] (by decide +kernel) ?_
    refine And.intro (fun c_62 => ?_) (fun c_62 => ?_)
    · have c_62 : r_60.toInt = 0 := (congrArg Int32.toInt c_62)
      show mp_W E X 3 26 [(2, .int 0), (0, .ref a0), (1, .int x0)] [] w4_ 0 0
      refine mp_run mp_k_cX9_wins_ok hF mp_tabX9_ok [mp_c (.iconst 0) 0] (by decide +kernel) ?_
      show mp_W E X 3 27 [(2, .int 0), (0, .ref a0), (1, .int x0)] [.int 0] w4_ 0 0
      exact mp_iret hF hQ rfl rfl (Nat.le_of_ble_eq_true rfl) (Nat.le_of_ble_eq_true rfl) [0, 4, 5, 6, 1, 2, 3] (w' := w3_) rfl rfl (Or.inr (Or.inr ⟨r_13, g_14, 0, rfl, (by first | (first | exact c_15 | omega) | decide), (by first | (first | exact c_16 | omega) | decide), l_17, u_18, (by decide), (by decide), p_19, x_20, x_21, (by have k9 := x_61; rw [mp_xr_cong (fun j hj => x_22 j (by (first | exact mp_o804 x_23 hj | omega))), x_23] at k9; rw [← k9]; have i0 : (0 : Int32).toInt = 0 := rfl; have i1 : (1 : Int32).toInt = 1 := rfl; (first | exact mp_o805 c_62 i0 | omega)), rfl⟩)) (by first | exact mp_fd_ok mp_k_cX9_wins_ok (by decide +kernel) | decide +kernel)
    · have c_62 : r_60.toInt ≠ 0 := c_62
      show mp_W E X 3 22 [(2, .int 0), (0, .ref a0), (1, .int x0)] [] w4_ 0 0
      refine mp_run mp_k_cX9_wins_ok hF mp_tabX9_ok [mp_c (.iconst 1) 1, mp_h (.goto 4) [27]] (by decide +kernel) ?_
      show mp_W E X 3 27 [(2, .int 0), (0, .ref a0), (1, .int x0)] [.int 1] w4_ 0 0
      exact mp_iret hF hQ rfl rfl (Nat.le_of_ble_eq_true rfl) (Nat.le_of_ble_eq_true rfl) [0, 4, 5, 6, 1, 2, 3] (w' := w3_) rfl rfl (Or.inr (Or.inr ⟨r_13, g_14, 1, rfl, (by first | (first | exact c_15 | omega) | decide), (by first | (first | exact c_16 | omega) | decide), l_17, u_18, (by decide), (by decide), p_19, x_20, x_21, (by have k9 := x_61; rw [mp_xr_cong (fun j hj => x_22 j (by (first | exact mp_o804 x_23 hj | omega))), x_23] at k9; rw [← k9]; have i0 : (0 : Int32).toInt = 0 := rfl; have i1 : (1 : Int32).toInt = 1 := rfl; (first | exact mp_o806 c_62 i1 | omega)), rfl⟩)) (by first | exact mp_fd_ok mp_k_cX9_wins_ok (by decide +kernel) | decide +kernel)
set_option maxHeartbeats 4000000 in
set_option maxRecDepth 100000 in
theorem bX6_winningTurn_164 (E : mp_E) (a0 a1 a2 : Nat) (f0 : Nat → Int32) (f1 : Nat → Int32) (y0 : Int32) (p0 : mp_all f0 8 0 99) (l_y0 : (-1) ≤ y0.toInt) (u_y0 : y0.toInt ≤ 8) (q0 : ∀ j : Nat, (j : Int) < 100 → f1 j = mp_nim j) : mp_Ct E yX6_winningTurn cX6_winningTurn 4 (some FieldType.int) 1 0 0 22 [.ref a0] [(mp_ob6 a0 y0 a1 a2), (mp_arI E a1 0 8 f0), (mp_arI E a2 0 100 f1)] (fun v w' => ∃ r1 : Int32, v = some (.int r1) ∧ (-1) ≤ r1.toInt ∧ r1.toInt ≤ 17 ∧ (r1.toInt = mp_tn f0 (mp_xr f0 y0.toInt.toNat) y0.toInt.toNat 0) ∧ w' = [(mp_ob6 a0 y0 a1 a2), (mp_arI E a1 0 8 f0), (mp_arI E a2 0 100 f1)]) := by
  refine mp_met false (by decide) (by decide) (Nat.le_of_ble_eq_true rfl) (fun X hF hQ => ?_)
  have hF : mp_F E X (RX6, cX6_winningTurn, 4, (1, 0, 0, 22), (some FieldType.int), false) := hF
  show mp_W E X 4 0 [(0, .ref a0)] [] [(mp_ob6 a0 y0 a1 a2), (mp_arI E a1 0 8 f0), (mp_arI E a2 0 100 f1)] 0 0
  refine mp_run mp_k_cX6_winningTurn_ok hF mp_tabX6_ok [mp_i (.aload_n 0)] (by decide +kernel) ?_
  show mp_W E X 4 1 [(0, .ref a0)] [.ref a0] [(mp_ob6 a0 y0 a1 a2), (mp_arI E a1 0 8 f0), (mp_arI E a2 0 100 f1)] 0 0
  refine mp_callV hF (As := []) (rest := []) (wr := []) (bX6_total_162 E a0 a1 a2 f0 f1 y0 p0 l_y0 u_y0 (by assumption)) mp_lkX6_33 0 rfl [0, 1, 2] [] rfl rfl rfl rfl rfl ⟨(Nat.le_of_ble_eq_true rfl), (Nat.le_of_ble_eq_true rfl), (Nat.le_of_ble_eq_true rfl), (Nat.le_of_ble_eq_true rfl)⟩ (Nat.le_of_ble_eq_true rfl) (by first | exact mp_fd_ok mp_k_cX6_winningTurn_ok (by decide +kernel) | decide +kernel) (fun v_1 w_2 h_3 => ?_)
  obtain ⟨r_4, rfl, x_5, rfl⟩ := h_3
  show mp_W E X 4 4 [(0, .ref a0)] [.int r_4] [(mp_ob6 a0 y0 a1 a2), (mp_arI E a1 0 8 f0), (mp_arI E a2 0 100 f1)] 0 0
  refine mp_run mp_k_cX6_winningTurn_ok hF mp_tabX6_ok [mp_i (.istore_n 1), mp_c (.iconst 0) 0, mp_i (.istore_n 2)] (by decide +kernel) ?_
  show mp_W E X 4 7 [(2, .int 0), (1, .int r_4), (0, .ref a0)] [] [(mp_ob6 a0 y0 a1 a2), (mp_arI E a1 0 8 f0), (mp_arI E a2 0 100 f1)] 0 0
  have lp_11 : ∀ (d_12 : Nat) (i_6 : Int32), 0 ≤ i_6.toInt → i_6.toInt ≤ 9 → (mp_tn f0 r_4 (y0.toInt - i_6.toInt).toNat i_6.toInt.toNat = mp_tn f0 r_4 (y0.toInt).toNat 0) → (0 ≤ i_6.toInt) → y0.toInt - i_6.toInt ≤ (d_12 : Int) → mp_W E X 4 7 [(2, .int i_6), (1, .int r_4), (0, .ref a0)] [] [(mp_ob6 a0 y0 a1 a2), (mp_arI E a1 0 8 f0), (mp_arI E a2 0 100 f1)] 0 0 := by
    intro d_12
    induction d_12 using Nat.strongRecOn with
    | ind d_12 ih_13 =>
      intro i_6 l_7 u_8 x_9 x_10 hm_14
      refine mp_run mp_k_cX6_winningTurn_ok hF mp_tabX6_ok [mp_i (.iload_n 2), mp_i (.aload_n 0), mp_h (.getfield 23) [0, 0], mp_h (.if_icmp .ge 82) [94]] (by decide +kernel) ?_
      refine And.intro rfl (And.intro rfl ?_)
      refine And.intro (fun c_15 => ?_) (fun c_15 => ?_)
      · have c_15 : y0.toInt ≤ i_6.toInt := c_15
        show mp_W E X 4 94 [(2, .int i_6), (1, .int r_4), (0, .ref a0)] [] [(mp_ob6 a0 y0 a1 a2), (mp_arI E a1 0 8 f0), (mp_arI E a2 0 100 f1)] 0 0
        refine mp_run mp_k_cX6_winningTurn_ok hF mp_tabX6_ok [mp_c (.iconst (-1)) (-1)] (by decide +kernel) ?_
        show mp_W E X 4 95 [(2, .int i_6), (1, .int r_4), (0, .ref a0)] [.int (-1)] [(mp_ob6 a0 y0 a1 a2), (mp_arI E a1 0 8 f0), (mp_arI E a2 0 100 f1)] 0 0
        exact mp_iret hF hQ rfl rfl (Nat.le_of_ble_eq_true rfl) (Nat.le_of_ble_eq_true rfl) [0, 1, 2] (w' := [(mp_ob6 a0 y0 a1 a2), (mp_arI E a1 0 8 f0), (mp_arI E a2 0 100 f1)]) rfl rfl ⟨(-1), rfl, (by decide), (by decide), (by have kt := x_5; rw [← kt]; exact mp_tn_d x_9 (by (first | exact c_15 | omega))), rfl⟩ (by first | exact mp_fd_ok mp_k_cX6_winningTurn_ok (by decide +kernel) | decide +kernel)
      · have c_15 : i_6.toInt < y0.toInt := c_15
        show mp_W E X 4 15 [(2, .int i_6), (1, .int r_4), (0, .ref a0)] [] [(mp_ob6 a0 y0 a1 a2), (mp_arI E a1 0 8 f0), (mp_arI E a2 0 100 f1)] 0 0
        refine mp_run mp_k_cX6_winningTurn_ok hF mp_tabX6_ok [mp_i (.iload_n 1), mp_i (.aload_n 0), mp_h (.getfield 15) [2, 0], mp_i (.aload_n 0), mp_h (.getfield 11) [1, 0], mp_i (.iload_n 2), mp_h .iaload [1], mp_h .iaload [2], mp_i .ixor, mp_i (.istore_n 3), mp_i (.aload_n 0), mp_h (.getfield 11) [1, 0], mp_i (.iload_n 2), mp_h .iaload [1], mp_h (.ifCond .le 22) [57]] (by decide +kernel) ?_
        refine And.intro rfl (And.intro rfl ?_)
        refine And.intro rfl (And.intro rfl ?_)
        refine And.intro rfl (And.intro rfl (And.intro (vp_in_iff.mpr (by (first | exact mp_o793 l_7 u_y0 c_15 | omega))) ?_))
        intro z_16 h_17
        have e_18 : 0 ≤ z_16.toInt ∧ z_16.toInt ≤ 99 := mp_all_ld h_17 p0 (by (first | exact x_10 | omega)) (by (first | exact mp_o800 u_y0 c_15 | omega))
        refine And.intro rfl (And.intro rfl (And.intro (vp_in_iff.mpr (by (first | exact mp_o801 e_18 | omega))) ?_))
        intro z_19 h_20
        intro z_21 h_22
        refine And.intro rfl (And.intro rfl ?_)
        refine And.intro rfl (And.intro rfl (And.intro (vp_in_iff.mpr (by (first | exact mp_o793 l_7 u_y0 c_15 | omega))) ?_))
        intro z_24 h_25
        have k_26 : z_16 = z_24 := h_17.trans h_25.symm
        subst k_26
        refine And.intro (fun c_27 => ?_) (fun c_27 => ?_)
        · have c_27 : z_16.toInt ≤ 0 := c_27
          show mp_W E X 4 57 [(3, .int z_21), (2, .int i_6), (1, .int r_4), (0, .ref a0)] [] [(mp_ob6 a0 y0 a1 a2), (mp_arI E a1 0 8 f0), (mp_arI E a2 0 100 f1)] 0 0
          refine mp_run mp_k_cX6_winningTurn_ok hF mp_tabX6_ok [mp_i (.aload_n 0), mp_h (.getfield 11) [1, 0], mp_i (.iload_n 2), mp_h .iaload [1], mp_h (.ifCond .le 25) [88]] (by decide +kernel) ?_
          refine And.intro rfl (And.intro rfl ?_)
          refine And.intro rfl (And.intro rfl (And.intro (vp_in_iff.mpr (by (first | exact mp_o793 l_7 u_y0 c_15 | omega))) ?_))
          intro z_28 h_29
          have k_30 : z_16 = z_28 := h_17.trans h_29.symm
          subst k_30
          refine And.intro (fun c_31 => ?_) (fun c_31 => ?_)
          · have c_31 : z_16.toInt ≤ 0 := c_31
            show mp_W E X 4 88 [(3, .int z_21), (2, .int i_6), (1, .int r_4), (0, .ref a0)] [] [(mp_ob6 a0 y0 a1 a2), (mp_arI E a1 0 8 f0), (mp_arI E a2 0 100 f1)] 0 0
            refine mp_run mp_k_cX6_winningTurn_ok hF mp_tabX6_ok [mp_c (.iinc 2 1) 1, mp_h (.goto (-84)) [7]] (by decide +kernel) ?_
            intro z_32 h_33
            have e_34 : z_32.toInt = i_6.toInt + 1 := mp_add (a := i_6.toInt) (b := 1) h_33 rfl (by decide) (by (first | exact mp_o2 l_7 | omega)) (by (first | exact mp_o121 u_8 | omega))
            show mp_W E X 4 7 [(2, .int z_32), (3, .int z_21), (1, .int r_4), (0, .ref a0)] [] [(mp_ob6 a0 y0 a1 a2), (mp_arI E a1 0 8 f0), (mp_arI E a2 0 100 f1)] 0 0
            exact mp_sub [0, 2, 3] rfl [0, 1, 2] rfl rfl (ih_13 (d_12 - 1) (by (first | exact mp_o72 hm_14 c_15 | omega)) z_32 (by (first | exact mp_o51 l_7 e_34 | omega)) (by (first | exact mp_o795 u_y0 c_15 e_34 | omega)) (mp_tn_z x_9 (by (first | exact mp_o80 l_7 c_15 | omega)) (show z_16 = f0 i_6.toInt.toNat from h_17) (by (first | exact c_31 | omega)) (by (first | exact e_34 | omega))) (by (first | exact mp_o51 l_7 e_34 | omega)) (by (first | exact mp_o77 hm_14 e_34 | omega)))
          · have c_31 : 0 < z_16.toInt := c_31
            exfalso; (first | exact mp_o807 c_31 c_27 | omega)
        · have c_27 : 0 < z_16.toInt := c_27
          show mp_W E X 4 38 [(3, .int z_21), (2, .int i_6), (1, .int r_4), (0, .ref a0)] [] [(mp_ob6 a0 y0 a1 a2), (mp_arI E a1 0 8 f0), (mp_arI E a2 0 100 f1)] 0 0
          refine mp_run mp_k_cX6_winningTurn_ok hF mp_tabX6_ok [mp_i (.aload_n 0), mp_h (.getfield 15) [2, 0], mp_i (.aload_n 0), mp_h (.getfield 11) [1, 0], mp_i (.iload_n 2), mp_h .iaload [1], mp_c (.iconst 1) 1, mp_i .isub, mp_h .iaload [2], mp_i (.iload_n 3), mp_h (.if_icmp .ne 5) [57]] (by decide +kernel) ?_
          refine And.intro rfl (And.intro rfl ?_)
          refine And.intro rfl (And.intro rfl ?_)
          refine And.intro rfl (And.intro rfl (And.intro (vp_in_iff.mpr (by (first | exact mp_o793 l_7 u_y0 c_15 | omega))) ?_))
          intro z_35 h_36
          have k_37 : z_16 = z_35 := h_17.trans h_36.symm
          subst k_37
          intro z_38 h_39
          have e_40 : z_38.toInt = z_16.toInt - 1 := mp_subi (a := z_16.toInt) (b := 1) h_39 rfl (by decide) (by (first | exact mp_o735 c_27 | omega)) (by (first | exact mp_o808 e_18 | omega))
          refine And.intro rfl (And.intro rfl (And.intro (vp_in_iff.mpr (by (first | exact mp_o809 c_27 e_18 e_40 | omega))) ?_))
          intro z_41 h_42
          refine And.intro (fun c_43 => ?_) (fun c_43 => ?_)
          · have c_43 : z_41.toInt ≠ z_21.toInt := c_43
            show mp_W E X 4 57 [(3, .int z_21), (2, .int i_6), (1, .int r_4), (0, .ref a0)] [] [(mp_ob6 a0 y0 a1 a2), (mp_arI E a1 0 8 f0), (mp_arI E a2 0 100 f1)] 0 0
            refine mp_run mp_k_cX6_winningTurn_ok hF mp_tabX6_ok [mp_i (.aload_n 0), mp_h (.getfield 11) [1, 0], mp_i (.iload_n 2), mp_h .iaload [1], mp_h (.ifCond .le 25) [88]] (by decide +kernel) ?_
            refine And.intro rfl (And.intro rfl ?_)
            refine And.intro rfl (And.intro rfl (And.intro (vp_in_iff.mpr (by (first | exact mp_o793 l_7 u_y0 c_15 | omega))) ?_))
            intro z_44 h_45
            have k_46 : z_16 = z_44 := h_17.trans h_45.symm
            subst k_46
            refine And.intro (fun c_47 => ?_) (fun c_47 => ?_)
            · have c_47 : z_16.toInt ≤ 0 := c_47
              exfalso; (first | exact mp_o807 c_27 c_47 | omega)
            · have c_47 : 0 < z_16.toInt := c_47
              show mp_W E X 4 66 [(3, .int z_21), (2, .int i_6), (1, .int r_4), (0, .ref a0)] [] [(mp_ob6 a0 y0 a1 a2), (mp_arI E a1 0 8 f0), (mp_arI E a2 0 100 f1)] 0 0
              refine mp_run mp_k_cX6_winningTurn_ok hF mp_tabX6_ok [mp_i (.aload_n 0), mp_h (.getfield 15) [2, 0], mp_i (.aload_n 0), mp_h (.getfield 11) [1, 0], mp_i (.iload_n 2), mp_h .iaload [1], mp_c (.iconst 2) 2, mp_i .idiv, mp_h .iaload [2], mp_i (.iload_n 3), mp_h (.if_icmp .ne 8) [88]] (by decide +kernel) ?_
              refine And.intro rfl (And.intro rfl ?_)
              refine And.intro rfl (And.intro rfl ?_)
              refine And.intro rfl (And.intro rfl (And.intro (vp_in_iff.mpr (by (first | exact mp_o793 l_7 u_y0 c_15 | omega))) ?_))
              intro z_48 h_49
              have k_50 : z_16 = z_48 := h_17.trans h_49.symm
              subst k_50
              refine And.intro (by decide) ?_
              intro z_51 h_52
              have e_53 : z_51.toInt = z_16.toInt / 2 := mp_div (a := z_16.toInt) (b := 2) h_52 rfl (by decide) (by (first | exact mp_o810 c_27 | omega)) (by decide)
              refine And.intro rfl (And.intro rfl (And.intro (vp_in_iff.mpr (by (first | exact mp_o811 e_53 e_18 | omega))) ?_))
              intro z_54 h_55
              refine And.intro (fun c_56 => ?_) (fun c_56 => ?_)
              · have c_56 : z_54.toInt ≠ z_21.toInt := c_56
                show mp_W E X 4 88 [(3, .int z_21), (2, .int i_6), (1, .int r_4), (0, .ref a0)] [] [(mp_ob6 a0 y0 a1 a2), (mp_arI E a1 0 8 f0), (mp_arI E a2 0 100 f1)] 0 0
                refine mp_run mp_k_cX6_winningTurn_ok hF mp_tabX6_ok [mp_c (.iinc 2 1) 1, mp_h (.goto (-84)) [7]] (by decide +kernel) ?_
                intro z_57 h_58
                have e_59 : z_57.toInt = i_6.toInt + 1 := mp_add (a := i_6.toInt) (b := 1) h_58 rfl (by decide) (by (first | exact mp_o2 l_7 | omega)) (by (first | exact mp_o121 u_8 | omega))
                show mp_W E X 4 7 [(2, .int z_57), (3, .int z_21), (1, .int r_4), (0, .ref a0)] [] [(mp_ob6 a0 y0 a1 a2), (mp_arI E a1 0 8 f0), (mp_arI E a2 0 100 f1)] 0 0
                exact mp_sub [0, 2, 3] rfl [0, 1, 2] rfl rfl (ih_13 (d_12 - 1) (by (first | exact mp_o72 hm_14 c_15 | omega)) z_57 (by (first | exact mp_o51 l_7 e_59 | omega)) (by (first | exact mp_o795 u_y0 c_15 e_59 | omega)) (mp_tn_n x_9 (by (first | exact mp_o80 l_7 c_15 | omega)) (show z_16 = f0 i_6.toInt.toNat from h_17) h_22 (h_20.trans ((congrArg _ (show z_16.toNatClampNeg = z_16.toInt.toNat by simp only [Int32.toNatClampNeg] <;> omega)).trans (q0 _ (by (first | exact mp_o802 e_18 | omega))))) (h_42.trans ((congrArg _ (show z_38.toNatClampNeg = (z_16.toInt - 1).toNat by simp only [Int32.toNatClampNeg] <;> (first | exact mp_o812 e_40 | omega))).trans (q0 _ (by (first | exact mp_o813 e_18 | omega))))) (h_55.trans ((congrArg _ (show z_51.toNatClampNeg = (z_16.toInt / 2).toNat by simp only [Int32.toNatClampNeg] <;> (first | exact mp_o814 e_53 | omega))).trans (q0 _ (by (first | exact mp_o815 e_18 | omega))))) (by (first | exact c_43 | omega)) (by (first | exact c_56 | omega)) (by (first | exact e_59 | omega))) (by (first | exact mp_o51 l_7 e_59 | omega)) (by (first | exact mp_o77 hm_14 e_59 | omega)))
              · have c_56 : z_54.toInt = z_21.toInt := (congrArg Int32.toInt c_56)
                show mp_W E X 4 83 [(3, .int z_21), (2, .int i_6), (1, .int r_4), (0, .ref a0)] [] [(mp_ob6 a0 y0 a1 a2), (mp_arI E a1 0 8 f0), (mp_arI E a2 0 100 f1)] 0 0
                refine mp_run mp_k_cX6_winningTurn_ok hF mp_tabX6_ok [mp_c (.bipush 10) 10, mp_i (.iload_n 2), mp_i .iadd] (by decide +kernel) ?_
                intro z_60 h_61
                have e_62 : z_60.toInt = 10 + i_6.toInt := mp_add (a := 10) (b := i_6.toInt) h_61 (by decide) rfl (by (first | exact mp_o816 l_7 | omega)) (by (first | exact mp_o817 u_8 | omega))
                show mp_W E X 4 87 [(3, .int z_21), (2, .int i_6), (1, .int r_4), (0, .ref a0)] [.int z_60] [(mp_ob6 a0 y0 a1 a2), (mp_arI E a1 0 8 f0), (mp_arI E a2 0 100 f1)] 0 0
                exact mp_iret hF hQ rfl rfl (Nat.le_of_ble_eq_true rfl) (Nat.le_of_ble_eq_true rfl) [0, 1, 2] (w' := [(mp_ob6 a0 y0 a1 a2), (mp_arI E a1 0 8 f0), (mp_arI E a2 0 100 f1)]) rfl rfl ⟨z_60, rfl, (by (first | exact mp_o818 l_7 e_62 | omega)), (by (first | exact mp_o819 u_y0 c_15 e_62 | omega)), (by have kt := x_5; rw [← kt]; exact (show z_60.toInt = 10 + i_6.toInt from by (first | exact e_62 | omega)).trans (mp_tn_2 x_9 (by (first | exact mp_o80 l_7 c_15 | omega)) (show z_16 = f0 i_6.toInt.toNat from h_17) (by (first | exact c_47 | omega)) h_22 (h_20.trans ((congrArg _ (show z_16.toNatClampNeg = z_16.toInt.toNat by simp only [Int32.toNatClampNeg] <;> omega)).trans (q0 _ (by (first | exact mp_o802 e_18 | omega))))) (h_42.trans ((congrArg _ (show z_38.toNatClampNeg = (z_16.toInt - 1).toNat by simp only [Int32.toNatClampNeg] <;> (first | exact mp_o812 e_40 | omega))).trans (q0 _ (by (first | exact mp_o813 e_18 | omega))))) (h_55.trans ((congrArg _ (show z_51.toNatClampNeg = (z_16.toInt / 2).toNat by simp only [Int32.toNatClampNeg] <;> (first | exact mp_o814 e_53 | omega))).trans (q0 _ (by (first | exact mp_o815 e_18 | omega))))) (by (first | exact c_43 | omega)) (by (first | exact c_56 | omega)))), rfl⟩ (by first | exact mp_fd_ok mp_k_cX6_winningTurn_ok (by decide +kernel) | decide +kernel)
          · have c_43 : z_41.toInt = z_21.toInt := (congrArg Int32.toInt c_43)
            show mp_W E X 4 55 [(3, .int z_21), (2, .int i_6), (1, .int r_4), (0, .ref a0)] [] [(mp_ob6 a0 y0 a1 a2), (mp_arI E a1 0 8 f0), (mp_arI E a2 0 100 f1)] 0 0
            refine mp_run mp_k_cX6_winningTurn_ok hF mp_tabX6_ok [mp_i (.iload_n 2)] (by decide +kernel) ?_
            show mp_W E X 4 56 [(3, .int z_21), (2, .int i_6), (1, .int r_4), (0, .ref a0)] [.int i_6] [(mp_ob6 a0 y0 a1 a2), (mp_arI E a1 0 8 f0), (mp_arI E a2 0 100 f1)] 0 0
            exact mp_iret hF hQ rfl rfl (Nat.le_of_ble_eq_true rfl) (Nat.le_of_ble_eq_true rfl) [0, 1, 2] (w' := [(mp_ob6 a0 y0 a1 a2), (mp_arI E a1 0 8 f0), (mp_arI E a2 0 100 f1)]) rfl rfl ⟨i_6, rfl, (by (first | exact mp_o44 l_7 | omega)), (by (first | exact mp_o820 u_8 | omega)), (by have kt := x_5; rw [← kt]; exact (mp_tn_1 x_9 (by (first | exact mp_o80 l_7 c_15 | omega)) (show z_16 = f0 i_6.toInt.toNat from h_17) (by (first | exact c_27 | omega)) h_22 (h_20.trans ((congrArg _ (show z_16.toNatClampNeg = z_16.toInt.toNat by simp only [Int32.toNatClampNeg] <;> omega)).trans (q0 _ (by (first | exact mp_o802 e_18 | omega))))) (h_42.trans ((congrArg _ (show z_38.toNatClampNeg = (z_16.toInt - 1).toNat by simp only [Int32.toNatClampNeg] <;> (first | exact mp_o812 e_40 | omega))).trans (q0 _ (by (first | exact mp_o813 e_18 | omega))))) (by (first | exact c_43 | omega)))), rfl⟩ (by first | exact mp_fd_ok mp_k_cX6_winningTurn_ok (by decide +kernel) | decide +kernel)
  exact mp_sub [0, 1, 2] rfl [0, 1, 2] rfl rfl (lp_11 _ 0 (by decide) (by decide) (by have i0 : (0 : Int32).toInt = 0 := rfl; rw [i0, Int.sub_zero]; first | done | rfl) (by first | fail | decide) (Int.self_le_toNat _))
set_option maxHeartbeats 4000000 in
set_option maxRecDepth 100000 in
theorem bX9_turn_165 (E : mp_E) (a0 a1 a2 a3 a4 a5 a6 a7 a8 a9 a10 a11 a12 a13 a14 : Nat) (f0 : Nat → Int32) (f1 : Nat → Int32) (f2 : Nat → Int64) (f3 : Nat → Int32) (y0 : Int32) (x0 : Int32) (p0 : mp_all f0 8 0 99) (p1 : mp_all f3 4 (-1) 60) (l_y0 : (-1) ≤ y0.toInt) (u_y0 : y0.toInt ≤ 8) (q0 : ∀ j : Nat, (j : Int) < 100 → f1 j = mp_nim j) : mp_Ct E yX9_turn cX9_turn 3 (some FieldType.int) 3 0 0 68 [.ref a0, .int x0] [(mp_ob9 a0 a7 a8 a9 a10 a11 a12 a1 a13 a4), (mp_ob6 a1 y0 a2 a3), (mp_arI E a2 0 8 f0), (mp_arI E a3 0 100 f1), (mp_ob5 a4 a5 a14 a6), (mp_arL E a5 240 f2), (mp_arI E a6 0 4 f3)] (fun v w' => (∃ r1 : Int32, ∃ h2 : Nat → Int32, v = some (.int (-2)) ∧ (-1) ≤ r1.toInt ∧ r1.toInt ≤ 8 ∧ mp_all h2 8 0 99 ∧ ((x0.toInt < 0 ∨ 3 < x0.toInt) ∨ ((0 ≤ x0.toInt ∧ x0.toInt ≤ 3) ∧ (f3 x0.toInt.toNat).toInt ≠ -1 ∧ (8 < (f3 x0.toInt.toNat).toInt ∨ ¬ mp_c99 f2 x0.toInt (f3 x0.toInt.toNat).toInt))) ∧ w' = [(mp_ob9 a0 a7 a8 a9 a10 a11 a12 a1 a13 a4), (mp_ob6 a1 r1 a2 a3), (mp_arI E a2 0 8 h2), (mp_arI E a3 0 100 f1), (mp_ob5 a4 a5 a14 a6), (mp_arL E a5 240 f2), (mp_arI E a6 0 4 f3)]) ∨ (v = some (.int (-6)) ∧ 0 ≤ x0.toInt ∧ x0.toInt < 4 ∧ (0 ≤ x0.toInt ∧ x0.toInt ≤ 3 ∧ (f3 x0.toInt.toNat).toInt = -1) ∧ w' = [(mp_ob9 a0 a7 a8 a9 a10 a11 a12 a1 a13 a4), (mp_ob6 a1 y0 a2 a3), (mp_arI E a2 0 8 f0), (mp_arI E a3 0 100 f1), (mp_ob5 a4 a5 a14 a6), (mp_arL E a5 240 f2), (mp_arI E a6 0 4 f3)]) ∨ (∃ r1 : Int32, ∃ h2 : Nat → Int32, ∃ r3 : Int32, v = some (.int r3) ∧ 0 ≤ x0.toInt ∧ x0.toInt < 4 ∧ (-1) ≤ r1.toInt ∧ r1.toInt ≤ 8 ∧ (-1) ≤ r3.toInt ∧ r3.toInt ≤ 17 ∧ mp_all h2 8 0 99 ∧ (0 ≤ x0.toInt ∧ x0.toInt ≤ 3 ∧ (f3 x0.toInt.toNat).toInt ≠ -1 ∧ (f3 x0.toInt.toNat).toInt ≤ 8) ∧ (mp_c99 f2 x0.toInt (f3 x0.toInt.toNat).toInt) ∧ (r3.toInt = mp_tn (fun j : Nat => (f2 (60 * x0.toInt.toNat + j)).toInt32) (mp_xr (fun j : Nat => (f2 (60 * x0.toInt.toNat + j)).toInt32) (f3 x0.toInt.toNat).toInt.toNat) (f3 x0.toInt.toNat).toInt.toNat 0) ∧ w' = [(mp_ob9 a0 a7 a8 a9 a10 a11 a12 a1 a13 a4), (mp_ob6 a1 r1 a2 a3), (mp_arI E a2 0 8 h2), (mp_arI E a3 0 100 f1), (mp_ob5 a4 a5 a14 a6), (mp_arL E a5 240 f2), (mp_arI E a6 0 4 f3)])) := by
  refine mp_met false (by decide) (by decide) (Nat.le_of_ble_eq_true rfl) (fun X hF hQ => ?_)
  have hF : mp_F E X (RX9, cX9_turn, 3, (3, 0, 0, 68), (some FieldType.int), false) := hF
  let w1_ : va_W := [(mp_ob9 a0 a7 a8 a9 a10 a11 a12 a1 a13 a4), (mp_ob6 a1 y0 a2 a3), (mp_arI E a2 0 8 f0), (mp_arI E a3 0 100 f1), (mp_ob5 a4 a5 a14 a6), (mp_arL E a5 240 f2), (mp_arI E a6 0 4 f3)]
  show mp_W E X 3 0 [(0, .ref a0), (1, .int x0)] [] w1_ 0 0
  refine mp_run mp_k_cX9_turn_ok hF mp_tabX9_ok [mp_i (.aload_n 0), mp_i (.iload_n 1)] (by decide +kernel) ?_
  show mp_W E X 3 2 [(0, .ref a0), (1, .int x0)] [.int x0, .ref a0] w1_ 0 0
  refine mp_callV hF (As := [.int x0]) (rest := []) (wr := []) (bX9_putInThreat_161 E a0 a1 a2 a3 a4 a5 a6 a7 a8 a9 a10 a11 a12 a13 a14 f0 f1 f2 f3 y0 x0 p0 p1 l_y0 u_y0) mp_lkX9_307 0 rfl [0, 1, 2, 3, 4, 5, 6] [] rfl rfl rfl rfl rfl ⟨(Nat.le_of_ble_eq_true rfl), (Nat.le_of_ble_eq_true rfl), (Nat.le_of_ble_eq_true rfl), (Nat.le_of_ble_eq_true rfl)⟩ (Nat.le_of_ble_eq_true rfl) (by first | exact mp_fd_ok mp_k_cX9_turn_ok (by decide +kernel) | decide +kernel) (fun v_1 w_2 h_3 => ?_)
  refine h_3.elim (fun q_24 => ?_) (fun q_25 => q_25.elim (fun q_26 => ?_) (fun q_27 => ?_))
  · skip
    refine q_24.elim fun r_4 q_28 => q_28.elim fun g_5 q_29 => q_29.elim fun e_30 q_31 => q_31.elim fun l_6 q_32 => q_32.elim fun u_7 q_33 => q_33.elim fun p_8 q_34 => q_34.elim fun x_9 e_35 => ?_
    clear h_3 q_24 q_28 q_29 q_31 q_32 q_33 q_34
    subst e_30
    subst e_35
    let w2_ : va_W := [(mp_ob9 a0 a7 a8 a9 a10 a11 a12 a1 a13 a4), (mp_ob6 a1 r_4 a2 a3), (mp_arI E a2 0 8 g_5), (mp_arI E a3 0 100 f1), (mp_ob5 a4 a5 a14 a6), (mp_arL E a5 240 f2), (mp_arI E a6 0 4 f3)]
    show mp_W E X 3 5 [(0, .ref a0), (1, .int x0)] [.int (-2)] w2_ 0 0
    refine mp_run mp_k_cX9_turn_ok hF mp_tabX9_ok [mp_i (.istore_n 2), mp_i (.iload_n 2), mp_h (.ifCond .eq 7) [14]] (by decide +kernel) ?_
    refine And.intro (fun c_36 => absurd c_36 (by decide)) (fun _ => ?_)
    show mp_W E X 3 10 [(2, .int (-2)), (0, .ref a0), (1, .int x0)] [] w2_ 0 0
    refine mp_run mp_k_cX9_turn_ok hF mp_tabX9_ok [mp_i (.iload_n 2), mp_h (.goto 10) [21]] (by decide +kernel) ?_
    show mp_W E X 3 21 [(2, .int (-2)), (0, .ref a0), (1, .int x0)] [.int (-2)] w2_ 0 0
    exact mp_iret hF hQ rfl rfl (Nat.le_of_ble_eq_true rfl) (Nat.le_of_ble_eq_true rfl) [0, 1, 2, 3, 4, 5, 6] (w' := w2_) rfl rfl (Or.inl ⟨r_4, g_5, rfl, l_6, u_7, p_8, x_9, rfl⟩) (by first | exact mp_fd_ok mp_k_cX9_turn_ok (by decide +kernel) | decide +kernel)
  · skip
    refine q_26.elim fun e_37 q_38 => q_38.elim fun c_10 q_39 => q_39.elim fun c_11 q_40 => q_40.elim fun x_12 e_41 => ?_
    clear h_3 q_25 q_26 q_38 q_39 q_40
    subst e_37
    subst e_41
    have c_10 : 0 ≤ x0.toInt := c_10
    have c_11 : x0.toInt < 4 := c_11
    show mp_W E X 3 5 [(0, .ref a0), (1, .int x0)] [.int (-6)] w1_ 0 0
    refine mp_run mp_k_cX9_turn_ok hF mp_tabX9_ok [mp_i (.istore_n 2), mp_i (.iload_n 2), mp_h (.ifCond .eq 7) [14]] (by decide +kernel) ?_
    refine And.intro (fun c_42 => absurd c_42 (by decide)) (fun _ => ?_)
    show mp_W E X 3 10 [(2, .int (-6)), (0, .ref a0), (1, .int x0)] [] w1_ 0 0
    refine mp_run mp_k_cX9_turn_ok hF mp_tabX9_ok [mp_i (.iload_n 2), mp_h (.goto 10) [21]] (by decide +kernel) ?_
    show mp_W E X 3 21 [(2, .int (-6)), (0, .ref a0), (1, .int x0)] [.int (-6)] w1_ 0 0
    exact mp_iret hF hQ rfl rfl (Nat.le_of_ble_eq_true rfl) (Nat.le_of_ble_eq_true rfl) [0, 1, 2, 3, 4, 5, 6] (w' := w1_) rfl rfl (Or.inr (Or.inl ⟨rfl, (by first | (first | exact c_10 | omega) | decide), (by first | (first | exact c_11 | omega) | decide), x_12, rfl⟩)) (by first | exact mp_fd_ok mp_k_cX9_turn_ok (by decide +kernel) | decide +kernel)
  · skip
    refine q_27.elim fun r_13 q_43 => q_43.elim fun g_14 q_44 => q_44.elim fun e_45 q_46 => q_46.elim fun c_15 q_47 => q_47.elim fun c_16 q_48 => q_48.elim fun l_17 q_49 => q_49.elim fun u_18 q_50 => q_50.elim fun p_19 q_51 => q_51.elim fun x_20 q_52 => q_52.elim fun x_21 q_53 => q_53.elim fun x_22 q_54 => q_54.elim fun x_23 e_55 => ?_
    clear h_3 q_25 q_27 q_43 q_44 q_46 q_47 q_48 q_49 q_50 q_51 q_52 q_53 q_54
    subst e_45
    subst e_55
    have c_15 : 0 ≤ x0.toInt := c_15
    have c_16 : x0.toInt < 4 := c_16
    let w3_ : va_W := [(mp_ob9 a0 a7 a8 a9 a10 a11 a12 a1 a13 a4), (mp_ob6 a1 r_13 a2 a3), (mp_arI E a2 0 8 g_14), (mp_arI E a3 0 100 f1), (mp_ob5 a4 a5 a14 a6), (mp_arL E a5 240 f2), (mp_arI E a6 0 4 f3)]
    show mp_W E X 3 5 [(0, .ref a0), (1, .int x0)] [.int 0] w3_ 0 0
    refine mp_run mp_k_cX9_turn_ok hF mp_tabX9_ok [mp_i (.istore_n 2), mp_i (.iload_n 2), mp_h (.ifCond .eq 7) [14]] (by decide +kernel) ?_
    refine And.intro (fun _ => ?_) (fun c_56 => absurd c_56 (by decide))
    show mp_W E X 3 14 [(2, .int 0), (0, .ref a0), (1, .int x0)] [] w3_ 0 0
    refine mp_run mp_k_cX9_turn_ok hF mp_tabX9_ok [mp_i (.aload_n 0), mp_h (.getfield 53) [42, 0]] (by decide +kernel) ?_
    refine And.intro rfl (And.intro rfl ?_)
    show mp_W E X 3 18 [(2, .int 0), (0, .ref a0), (1, .int x0)] [.ref a1] w3_ 0 0
    refine mp_callV hF (As := []) (rest := []) (wr := [(mp_ob9 a0 a7 a8 a9 a10 a11 a12 a1 a13 a4), (mp_ob5 a4 a5 a14 a6), (mp_arL E a5 240 f2), (mp_arI E a6 0 4 f3)]) (bX6_winningTurn_164 E a1 a2 a3 g_14 f1 r_13 p_19 l_17 u_18 (by assumption)) mp_lkX9_313 1 rfl [1, 2, 3] [0, 4, 5, 6] rfl rfl rfl rfl rfl ⟨(Nat.le_of_ble_eq_true rfl), (Nat.le_of_ble_eq_true rfl), (Nat.le_of_ble_eq_true rfl), (Nat.le_of_ble_eq_true rfl)⟩ (Nat.le_of_ble_eq_true rfl) (by first | exact mp_fd_ok mp_k_cX9_turn_ok (by decide +kernel) | decide +kernel) (fun v_57 w_58 h_59 => ?_)
    refine h_59.elim fun r_60 q_64 => q_64.elim fun e_65 q_66 => q_66.elim fun l_61 q_67 => q_67.elim fun u_62 q_68 => q_68.elim fun x_63 e_69 => ?_
    clear h_59 q_64 q_66 q_67 q_68
    subst e_65
    subst e_69
    let w4_ : va_W := [(mp_ob9 a0 a7 a8 a9 a10 a11 a12 a1 a13 a4), (mp_ob5 a4 a5 a14 a6), (mp_arL E a5 240 f2), (mp_arI E a6 0 4 f3), (mp_ob6 a1 r_13 a2 a3), (mp_arI E a2 0 8 g_14), (mp_arI E a3 0 100 f1)]
    show mp_W E X 3 21 [(2, .int 0), (0, .ref a0), (1, .int x0)] [.int r_60] w4_ 0 0
    exact mp_iret hF hQ rfl rfl (Nat.le_of_ble_eq_true rfl) (Nat.le_of_ble_eq_true rfl) [0, 4, 5, 6, 1, 2, 3] (w' := w3_) rfl rfl (Or.inr (Or.inr ⟨r_13, g_14, r_60, rfl, (by first | (first | exact c_15 | omega) | decide), (by first | (first | exact c_16 | omega) | decide), l_17, u_18, l_61, u_62, p_19, x_20, x_21, (by have k9 := x_63; rw [mp_xr_cong (fun j hj => x_22 j (by (first | exact mp_o804 x_23 hj | omega))), mp_tn_cong (fun j hj => x_22 j (by (first | exact mp_o821 x_23 hj | omega))), x_23] at k9; exact k9), rfl⟩)) (by first | exact mp_fd_ok mp_k_cX9_turn_ok (by decide +kernel) | decide +kernel)
set_option maxHeartbeats 4000000 in
set_option maxRecDepth 100000 in
theorem bX9_canDraw_166 (E : mp_E) (a0 a1 a2 a3 a4 a5 a6 a7 a8 a9 a10 a11 a12 a13 a14 a15 a16 a17 a18 a19 a20 a21 a22 a23 a24 a25 a26 a27 a28 : Nat) (y0 : Int32) (y1 : Int32) (y2 : Int32) (y3 : Int32) (y4 : Int32) (y5 : Int32) (y6 : Int32) (x0 : Int32) (x1 : Int32) (x2 : Int32) (l_y0 : 0 ≤ y0.toInt) (u_y0 : y0.toInt ≤ 99) (l_y2 : 0 ≤ y2.toInt) (u_y2 : y2.toInt ≤ 6) (l_y3 : 0 ≤ y3.toInt) (u_y3 : y3.toInt ≤ 99) (l_y4 : 0 ≤ y4.toInt) (u_y4 : y4.toInt ≤ 6) (l_y5 : 0 ≤ y5.toInt) (u_y5 : y5.toInt ≤ 10) (l_y6 : 0 ≤ y6.toInt) (u_y6 : y6.toInt ≤ 60) : mp_Ct E yX9_canDraw cX9_canDraw 4 (some FieldType.boolean) 1 0 0 21 [.ref a0, .int x0, .int x1, .int x2] [(mp_ob9 a0 a3 a1 a4 a5 a6 a7 a8 a9 a10), (mp_ob0 a1 a2 y0 a11 a12 a13 a14 a15 a16), (mp_ob7 a2 y1 y2 y3 y4 y5 y6 a17 a18 a19 a20 a21 a22 a23 a24 a25 a26 a27 a28)] (fun v w' => (v = some (.int 0) ∧ w' = [(mp_ob9 a0 a3 a1 a4 a5 a6 a7 a8 a9 a10), (mp_ob0 a1 a2 y0 a11 a12 a13 a14 a15 a16), (mp_ob7 a2 y1 y2 y3 y4 y5 y6 a17 a18 a19 a20 a21 a22 a23 a24 a25 a26 a27 a28)]) ∨ (v = some (.int 1) ∧ 0 ≤ x2.toInt ∧ x2.toInt < y5.toInt ∧ 0 ≤ x0.toInt ∧ x0.toInt ≤ 2000000000 ∧ 1 ≤ x1.toInt ∧ x1.toInt ≤ 40 ∧ y0.toInt + x1.toInt ≤ 99 ∧ w' = [(mp_ob9 a0 a3 a1 a4 a5 a6 a7 a8 a9 a10), (mp_ob0 a1 a2 y0 a11 a12 a13 a14 a15 a16), (mp_ob7 a2 y1 y2 y3 y4 y5 y6 a17 a18 a19 a20 a21 a22 a23 a24 a25 a26 a27 a28)])) := by
  refine mp_met false (by decide) (by decide) (Nat.le_of_ble_eq_true rfl) (fun X hF hQ => ?_)
  have hF : mp_F E X (RX9, cX9_canDraw, 4, (1, 0, 0, 21), (some FieldType.boolean), false) := hF
  let w1_ : va_W := [(mp_ob9 a0 a3 a1 a4 a5 a6 a7 a8 a9 a10), (mp_ob0 a1 a2 y0 a11 a12 a13 a14 a15 a16), (mp_ob7 a2 y1 y2 y3 y4 y5 y6 a17 a18 a19 a20 a21 a22 a23 a24 a25 a26 a27 a28)]
  show mp_W E X 4 0 [(0, .ref a0), (1, .int x0), (2, .int x1), (3, .int x2)] [] w1_ 0 0
  refine mp_run mp_k_cX9_canDraw_ok hF mp_tabX9_ok [mp_i (.aload_n 0), mp_h (.getfield 19) [37, 0], mp_h (.getfield 83) [20, 1], mp_i (.iload_n 3)] (by decide +kernel) ?_
  refine And.intro rfl (And.intro rfl ?_)
  refine And.intro rfl (And.intro rfl ?_)
  show mp_W E X 4 8 [(0, .ref a0), (1, .int x0), (2, .int x1), (3, .int x2)] [.int x2, .ref a2] w1_ 0 0
  refine mp_callV hF (As := [.int x2]) (rest := []) (wr := [(mp_ob9 a0 a3 a1 a4 a5 a6 a7 a8 a9 a10), (mp_ob0 a1 a2 y0 a11 a12 a13 a14 a15 a16)]) (bX7_isPromise_53 E a2 a17 a18 a19 a20 a21 a22 a23 a24 a25 a26 a27 a28 y1 y2 y3 y4 y5 y6 x2 l_y2 u_y2 l_y3 u_y3 l_y4 u_y4 l_y5 u_y5 l_y6 u_y6) mp_lkX9_120 2 rfl [2] [0, 1] rfl rfl rfl rfl rfl ⟨(Nat.le_of_ble_eq_true rfl), (Nat.le_of_ble_eq_true rfl), (Nat.le_of_ble_eq_true rfl), (Nat.le_of_ble_eq_true rfl)⟩ (Nat.le_of_ble_eq_true rfl) (by first | exact mp_fd_ok mp_k_cX9_canDraw_ok (by decide +kernel) | decide +kernel) (fun v_1 w_2 h_3 => ?_)
  rcases h_3 with ⟨rfl, x_4, rfl⟩ | ⟨rfl, c_5, c_6, x_7, rfl⟩
  · skip
    show mp_W E X 4 11 [(0, .ref a0), (1, .int x0), (2, .int x1), (3, .int x2)] [.int 0] w1_ 0 0
    refine mp_run mp_k_cX9_canDraw_ok hF mp_tabX9_ok [mp_h (.ifCond .eq 43) [54]] (by decide +kernel) ?_
    refine And.intro (fun _ => ?_) (fun c_8 => absurd c_8 (by decide))
    show mp_W E X 4 54 [(0, .ref a0), (1, .int x0), (2, .int x1), (3, .int x2)] [] w1_ 0 0
    refine mp_run mp_k_cX9_canDraw_ok hF mp_tabX9_ok [mp_c (.iconst 0) 0] (by decide +kernel) ?_
    show mp_W E X 4 55 [(0, .ref a0), (1, .int x0), (2, .int x1), (3, .int x2)] [.int 0] w1_ 0 0
    exact mp_iret hF hQ rfl (by decide) (Nat.le_of_ble_eq_true rfl) (Nat.le_of_ble_eq_true rfl) [0, 1, 2] (w' := w1_) rfl rfl (Or.inl ⟨rfl, rfl⟩) (by first | exact mp_fd_ok mp_k_cX9_canDraw_ok (by decide +kernel) | decide +kernel)
  · skip
    have c_5 : 0 ≤ x2.toInt := c_5
    have c_6 : x2.toInt < y5.toInt := c_6
    show mp_W E X 4 11 [(0, .ref a0), (1, .int x0), (2, .int x1), (3, .int x2)] [.int 1] w1_ 0 0
    refine mp_run mp_k_cX9_canDraw_ok hF mp_tabX9_ok [mp_h (.ifCond .eq 43) [54]] (by decide +kernel) ?_
    refine And.intro (fun c_9 => absurd c_9 (by decide)) (fun _ => ?_)
    show mp_W E X 4 14 [(0, .ref a0), (1, .int x0), (2, .int x1), (3, .int x2)] [] w1_ 0 0
    refine mp_run mp_k_cX9_canDraw_ok hF mp_tabX9_ok [mp_i (.iload_n 1), mp_h (.ifCond .lt 39) [54]] (by decide +kernel) ?_
    refine And.intro (fun c_10 => ?_) (fun c_10 => ?_)
    · have c_10 : x0.toInt < 0 := c_10
      show mp_W E X 4 54 [(0, .ref a0), (1, .int x0), (2, .int x1), (3, .int x2)] [] w1_ 0 0
      refine mp_run mp_k_cX9_canDraw_ok hF mp_tabX9_ok [mp_c (.iconst 0) 0] (by decide +kernel) ?_
      show mp_W E X 4 55 [(0, .ref a0), (1, .int x0), (2, .int x1), (3, .int x2)] [.int 0] w1_ 0 0
      exact mp_iret hF hQ rfl (by decide) (Nat.le_of_ble_eq_true rfl) (Nat.le_of_ble_eq_true rfl) [0, 1, 2] (w' := w1_) rfl rfl (Or.inl ⟨rfl, rfl⟩) (by first | exact mp_fd_ok mp_k_cX9_canDraw_ok (by decide +kernel) | decide +kernel)
    · have c_10 : 0 ≤ x0.toInt := c_10
      show mp_W E X 4 18 [(0, .ref a0), (1, .int x0), (2, .int x1), (3, .int x2)] [] w1_ 0 0
      refine mp_run mp_k_cX9_canDraw_ok hF mp_tabX9_ok [mp_i (.iload_n 1), mp_c (.ldc_w 378) 2000000000, mp_h (.if_icmp .gt 32) [54]] (by decide +kernel) ?_
      refine And.intro (fun c_11 => ?_) (fun c_11 => ?_)
      · have c_11 : 2000000000 < x0.toInt := c_11
        show mp_W E X 4 54 [(0, .ref a0), (1, .int x0), (2, .int x1), (3, .int x2)] [] w1_ 0 0
        refine mp_run mp_k_cX9_canDraw_ok hF mp_tabX9_ok [mp_c (.iconst 0) 0] (by decide +kernel) ?_
        show mp_W E X 4 55 [(0, .ref a0), (1, .int x0), (2, .int x1), (3, .int x2)] [.int 0] w1_ 0 0
        exact mp_iret hF hQ rfl (by decide) (Nat.le_of_ble_eq_true rfl) (Nat.le_of_ble_eq_true rfl) [0, 1, 2] (w' := w1_) rfl rfl (Or.inl ⟨rfl, rfl⟩) (by first | exact mp_fd_ok mp_k_cX9_canDraw_ok (by decide +kernel) | decide +kernel)
      · have c_11 : x0.toInt ≤ 2000000000 := c_11
        show mp_W E X 4 25 [(0, .ref a0), (1, .int x0), (2, .int x1), (3, .int x2)] [] w1_ 0 0
        refine mp_run mp_k_cX9_canDraw_ok hF mp_tabX9_ok [mp_i (.iload_n 2), mp_c (.iconst 1) 1, mp_h (.if_icmp .lt 27) [54]] (by decide +kernel) ?_
        refine And.intro (fun c_12 => ?_) (fun c_12 => ?_)
        · have c_12 : x1.toInt < 1 := c_12
          show mp_W E X 4 54 [(0, .ref a0), (1, .int x0), (2, .int x1), (3, .int x2)] [] w1_ 0 0
          refine mp_run mp_k_cX9_canDraw_ok hF mp_tabX9_ok [mp_c (.iconst 0) 0] (by decide +kernel) ?_
          show mp_W E X 4 55 [(0, .ref a0), (1, .int x0), (2, .int x1), (3, .int x2)] [.int 0] w1_ 0 0
          exact mp_iret hF hQ rfl (by decide) (Nat.le_of_ble_eq_true rfl) (Nat.le_of_ble_eq_true rfl) [0, 1, 2] (w' := w1_) rfl rfl (Or.inl ⟨rfl, rfl⟩) (by first | exact mp_fd_ok mp_k_cX9_canDraw_ok (by decide +kernel) | decide +kernel)
        · have c_12 : 1 ≤ x1.toInt := c_12
          show mp_W E X 4 30 [(0, .ref a0), (1, .int x0), (2, .int x1), (3, .int x2)] [] w1_ 0 0
          refine mp_run mp_k_cX9_canDraw_ok hF mp_tabX9_ok [mp_i (.iload_n 2), mp_c (.bipush 40) 40, mp_h (.if_icmp .gt 21) [54]] (by decide +kernel) ?_
          refine And.intro (fun c_13 => ?_) (fun c_13 => ?_)
          · have c_13 : 40 < x1.toInt := c_13
            show mp_W E X 4 54 [(0, .ref a0), (1, .int x0), (2, .int x1), (3, .int x2)] [] w1_ 0 0
            refine mp_run mp_k_cX9_canDraw_ok hF mp_tabX9_ok [mp_c (.iconst 0) 0] (by decide +kernel) ?_
            show mp_W E X 4 55 [(0, .ref a0), (1, .int x0), (2, .int x1), (3, .int x2)] [.int 0] w1_ 0 0
            exact mp_iret hF hQ rfl (by decide) (Nat.le_of_ble_eq_true rfl) (Nat.le_of_ble_eq_true rfl) [0, 1, 2] (w' := w1_) rfl rfl (Or.inl ⟨rfl, rfl⟩) (by first | exact mp_fd_ok mp_k_cX9_canDraw_ok (by decide +kernel) | decide +kernel)
          · have c_13 : x1.toInt ≤ 40 := c_13
            show mp_W E X 4 36 [(0, .ref a0), (1, .int x0), (2, .int x1), (3, .int x2)] [] w1_ 0 0
            refine mp_run mp_k_cX9_canDraw_ok hF mp_tabX9_ok [mp_i (.aload_n 0), mp_h (.getfield 19) [37, 0], mp_h (.getfield 166) [21, 1], mp_i (.iload_n 2), mp_i .iadd, mp_c (.bipush 99) 99, mp_h (.if_icmp .gt 7) [54]] (by decide +kernel) ?_
            refine And.intro rfl (And.intro rfl ?_)
            refine And.intro rfl (And.intro rfl ?_)
            intro z_14 h_15
            have e_16 : z_14.toInt = y0.toInt + x1.toInt := mp_add (a := y0.toInt) (b := x1.toInt) h_15 rfl rfl (by (first | exact mp_o524 l_y0 c_12 | omega)) (by (first | exact mp_o822 u_y0 c_13 | omega))
            refine And.intro (fun c_17 => ?_) (fun c_17 => ?_)
            · have c_17 : 99 < z_14.toInt := c_17
              show mp_W E X 4 54 [(0, .ref a0), (1, .int x0), (2, .int x1), (3, .int x2)] [] w1_ 0 0
              refine mp_run mp_k_cX9_canDraw_ok hF mp_tabX9_ok [mp_c (.iconst 0) 0] (by decide +kernel) ?_
              show mp_W E X 4 55 [(0, .ref a0), (1, .int x0), (2, .int x1), (3, .int x2)] [.int 0] w1_ 0 0
              exact mp_iret hF hQ rfl (by decide) (Nat.le_of_ble_eq_true rfl) (Nat.le_of_ble_eq_true rfl) [0, 1, 2] (w' := w1_) rfl rfl (Or.inl ⟨rfl, rfl⟩) (by first | exact mp_fd_ok mp_k_cX9_canDraw_ok (by decide +kernel) | decide +kernel)
            · have c_17 : z_14.toInt ≤ 99 := c_17
              show mp_W E X 4 50 [(0, .ref a0), (1, .int x0), (2, .int x1), (3, .int x2)] [] w1_ 0 0
              refine mp_run mp_k_cX9_canDraw_ok hF mp_tabX9_ok [mp_c (.iconst 1) 1, mp_h (.goto 4) [55]] (by decide +kernel) ?_
              show mp_W E X 4 55 [(0, .ref a0), (1, .int x0), (2, .int x1), (3, .int x2)] [.int 1] w1_ 0 0
              exact mp_iret hF hQ rfl (by decide) (Nat.le_of_ble_eq_true rfl) (Nat.le_of_ble_eq_true rfl) [0, 1, 2] (w' := w1_) rfl rfl (Or.inr ⟨rfl, (by first | (first | exact c_5 | omega) | decide), (by first | (first | exact c_6 | omega) | decide), (by first | (first | exact c_10 | omega) | decide), (by first | (first | exact c_11 | omega) | decide), (by first | (first | exact c_12 | omega) | decide), (by first | (first | exact c_13 | omega) | decide), (by first | (first | exact mp_o526 e_16 c_17 | omega) | decide), rfl⟩) (by first | exact mp_fd_ok mp_k_cX9_canDraw_ok (by decide +kernel) | decide +kernel)
set_option maxHeartbeats 4000000 in
set_option maxRecDepth 100000 in
theorem bX8_pass_167 (E : mp_E) (a0 a1 a2 a3 a4 a5 a6 a7 a8 a9 a10 a11 a12 a13 a14 a15 a16 a17 a18 a19 a20 a21 : Nat) (f0 : Nat → Int32) (f1 : Nat → Int32) (f2 : Nat → Int32) (f3 : Nat → Int32) (f4 : Nat → Int32) (f5 : Nat → Int32) (f6 : Nat → Int32) (f7 : Nat → Int32) (f8 : Nat → Int32) (f9 : Nat → Int64) (f10 : Nat → Int32) (y0 : Int32) (y1 : Int32) (y2 : Int32) (y3 : Int32) (y4 : Int32) (y5 : Int32) (y6 : Int32) (y7 : Int32) (y8 : Int32) (x0 : Int32) (x1 : Int32) (x2 : Int32) (p0 : mp_all f3 10 0 5) (p1 : mp_all f4 10 0 5) (p2 : mp_all f6 10 0 99) (p3 : mp_all f7 10 0 1) (p4 : mp_all f8 10 (-1) 9) (l_x1 : 1 ≤ x1.toInt) (u_x1 : x1.toInt ≤ 40) (l_x2 : 0 ≤ x2.toInt) (u_x2 : x2.toInt ≤ 9) (l_y2 : 0 ≤ y2.toInt) (u_y2 : y2.toInt ≤ 99) (l_y4 : 0 ≤ y4.toInt) (u_y4 : y4.toInt ≤ 6) (l_y5 : 0 ≤ y5.toInt) (u_y5 : y5.toInt ≤ 99) (l_y6 : 0 ≤ y6.toInt) (u_y6 : y6.toInt ≤ 6) (l_y7 : 0 ≤ y7.toInt) (u_y7 : y7.toInt ≤ 10) (l_y8 : 0 ≤ y8.toInt) (u_y8 : y8.toInt ≤ 60) (q0 : y2.toInt + x1.toInt ≤ 99) : mp_Ct E yX8_pass cX8_pass 10 none 3 0 0 75 [.ref a0, .ref a1, .int x0, .int x1, .int x2] [(mp_ob8 a0 a2 y0 y1), (mp_arI E a2 0 10 f0), (mp_ob0 a1 a3 y2 a14 a15 a16 a12 a13 a17), (mp_ob7 a3 y3 y4 y5 y6 y7 y8 a18 a19 a20 a4 a5 a6 a7 a8 a9 a10 a11 a21), (mp_arI E a4 0 6 f1), (mp_arI E a5 0 6 f2), (mp_arI E a6 0 10 f3), (mp_arI E a7 0 10 f4), (mp_arI E a8 0 10 f5), (mp_arI E a9 0 10 f6), (mp_arI E a10 0 10 f7), (mp_arI E a11 0 10 f8), (mp_arL E a12 20 f9), (mp_arI E a13 0 10 f10)] (fun v w' => ∃ r1 : Int32, ∃ r2 : Int32, ∃ h3 : Nat → Int32, ∃ h4 : Nat → Int32, v = none ∧ w' = [(mp_ob8 a0 a2 r1 r2), (mp_arI E a2 0 10 h3), (mp_ob0 a1 a3 y2 a14 a15 a16 a12 a13 a17), (mp_ob7 a3 y3 y4 y5 y6 y7 y8 a18 a19 a20 a4 a5 a6 a7 a8 a9 a10 a11 a21), (mp_arI E a4 0 6 f1), (mp_arI E a5 0 6 f2), (mp_arI E a6 0 10 f3), (mp_arI E a7 0 10 f4), (mp_arI E a8 0 10 f5), (mp_arI E a9 0 10 f6), (mp_arI E a10 0 10 f7), (mp_arI E a11 0 10 f8), (mp_arL E a12 20 f9), (mp_arI E a13 0 10 h4)]) := by
  refine mp_met false (by decide) (by decide) (Nat.le_of_ble_eq_true rfl) (fun X hF hQ => ?_)
  have hF : mp_F E X (RX8, cX8_pass, 10, (3, 0, 0, 75), none, false) := hF
  let w1_ : va_W := [(mp_ob8 a0 a2 y0 y1), (mp_arI E a2 0 10 f0), (mp_ob0 a1 a3 y2 a14 a15 a16 a12 a13 a17), (mp_ob7 a3 y3 y4 y5 y6 y7 y8 a18 a19 a20 a4 a5 a6 a7 a8 a9 a10 a11 a21), (mp_arI E a4 0 6 f1), (mp_arI E a5 0 6 f2), (mp_arI E a6 0 10 f3), (mp_arI E a7 0 10 f4), (mp_arI E a8 0 10 f5), (mp_arI E a9 0 10 f6), (mp_arI E a10 0 10 f7), (mp_arI E a11 0 10 f8), (mp_arL E a12 20 f9), (mp_arI E a13 0 10 f10)]
  show mp_W E X 10 0 [(0, .ref a0), (1, .ref a1), (2, .int x0), (3, .int x1), (4, .int x2)] [] w1_ 0 0
  refine mp_run mp_k_cX8_pass_ok hF mp_tabX8_ok [mp_i (.aload_n 1), mp_h (.getfield 15) [3, 2], mp_i (.astore 5), mp_i (.aload_n 1), mp_i (.aload_n 1), mp_h (.getfield 21) [4, 2]] (by decide +kernel) ?_
  refine And.intro rfl (And.intro rfl ?_)
  refine And.intro rfl (And.intro rfl ?_)
  show mp_W E X 10 11 [(5, .ref a3), (0, .ref a0), (1, .ref a1), (2, .int x0), (3, .int x1), (4, .int x2)] [.int y2, .ref a1] w1_ 0 0
  refine mp_callV hF (As := [.int y2]) (rest := []) (wr := [(mp_ob8 a0 a2 y0 y1), (mp_arI E a2 0 10 f0), (mp_arI E a4 0 6 f1), (mp_arI E a5 0 6 f2), (mp_arI E a6 0 10 f3), (mp_arI E a7 0 10 f4), (mp_arI E a8 0 10 f5), (mp_arI E a10 0 10 f7), (mp_arI E a11 0 10 f8)]) (bX0_lastsAt_61 E a1 a3 a9 a12 a13 a14 a15 a16 a17 a18 a19 a20 a4 a5 a6 a7 a8 a10 a11 a21 f6 f9 f10 y2 y3 y4 y5 y6 y7 y8 y2 p2 l_y2 u_y2 l_y4 u_y4 l_y5 u_y5 l_y6 u_y6 l_y7 u_y7 l_y8 u_y8) mp_lkX8_25 2 rfl [2, 3, 9, 12, 13] [0, 1, 4, 5, 6, 7, 8, 10, 11] rfl rfl rfl rfl rfl ⟨(Nat.le_of_ble_eq_true rfl), (Nat.le_of_ble_eq_true rfl), (Nat.le_of_ble_eq_true rfl), (Nat.le_of_ble_eq_true rfl)⟩ (Nat.le_of_ble_eq_true rfl) (by first | exact mp_fd_ok mp_k_cX8_pass_ok (by decide +kernel) | decide +kernel) (fun v_1 w_2 h_3 => ?_)
  obtain ⟨g_4, rfl, rfl⟩ := h_3
  let w2_ : va_W := [(mp_ob8 a0 a2 y0 y1), (mp_arI E a2 0 10 f0), (mp_arI E a4 0 6 f1), (mp_arI E a5 0 6 f2), (mp_arI E a6 0 10 f3), (mp_arI E a7 0 10 f4), (mp_arI E a8 0 10 f5), (mp_arI E a10 0 10 f7), (mp_arI E a11 0 10 f8), (mp_ob0 a1 a3 y2 a14 a15 a16 a12 a13 a17), (mp_ob7 a3 y3 y4 y5 y6 y7 y8 a18 a19 a20 a4 a5 a6 a7 a8 a9 a10 a11 a21), (mp_arI E a9 0 10 f6), (mp_arL E a12 20 f9), (mp_arI E a13 0 10 g_4)]
  show mp_W E X 10 14 [(5, .ref a3), (0, .ref a0), (1, .ref a1), (2, .int x0), (3, .int x1), (4, .int x2)] [.ref a13] w2_ 0 0
  refine mp_run mp_k_cX8_pass_ok hF mp_tabX8_ok [mp_c (.iconst 0) 0, mp_i (.aload_n 0), mp_h (.getfield 9) [5, 0], mp_c (.iconst 0) 0, mp_c (.bipush 10) 10] (by decide +kernel) ?_
  refine And.intro rfl (And.intro rfl ?_)
  show mp_W E X 10 22 [(5, .ref a3), (0, .ref a0), (1, .ref a1), (2, .int x0), (3, .int x1), (4, .int x2)] [.int 10, .int 0, .ref a2, .int 0, .ref a13] w2_ 0 0
  refine mp_copyi hF (idx := 29) (mp_gm (j := 5151) (by decide +kernel)) 13 1 rfl rfl (by decide) (by decide) (by decide) (by decide) (by decide) ⟨(Nat.le_of_ble_eq_true rfl), (Nat.le_of_ble_eq_true rfl)⟩ (by first | exact mp_fd_ok mp_k_cX8_pass_ok (by decide +kernel) | decide +kernel) (fun g_5 h_6 => ?_)
  let w3_ : va_W := [(mp_ob8 a0 a2 y0 y1), (mp_arI E a2 0 10 g_5), (mp_arI E a4 0 6 f1), (mp_arI E a5 0 6 f2), (mp_arI E a6 0 10 f3), (mp_arI E a7 0 10 f4), (mp_arI E a8 0 10 f5), (mp_arI E a10 0 10 f7), (mp_arI E a11 0 10 f8), (mp_ob0 a1 a3 y2 a14 a15 a16 a12 a13 a17), (mp_ob7 a3 y3 y4 y5 y6 y7 y8 a18 a19 a20 a4 a5 a6 a7 a8 a9 a10 a11 a21), (mp_arI E a9 0 10 f6), (mp_arL E a12 20 f9), (mp_arI E a13 0 10 g_4)]
  show mp_W E X 10 25 [(5, .ref a3), (0, .ref a0), (1, .ref a1), (2, .int x0), (3, .int x1), (4, .int x2)] [] w3_ 0 0
  refine mp_run mp_k_cX8_pass_ok hF mp_tabX8_ok [mp_i (.iload_n 2), mp_i .i2l, mp_i (.lstore 6), mp_i (.aload_n 0), mp_c (.iconst 0) 0, mp_h (.putfield 35) [7, 0]] (by decide +kernel) ?_
  intro z_7 h_8
  have e_9 : z_7.toInt = x0.toInt := mp_i2l h_8
  refine And.intro rfl (And.intro rfl (And.intro rfl (And.intro rfl (And.intro (Nat.le_of_ble_eq_true rfl) ?_))))
  let w4_ : va_W := [(mp_ob8 a0 a2 y0 0), (mp_arI E a2 0 10 g_5), (mp_arI E a4 0 6 f1), (mp_arI E a5 0 6 f2), (mp_arI E a6 0 10 f3), (mp_arI E a7 0 10 f4), (mp_arI E a8 0 10 f5), (mp_arI E a10 0 10 f7), (mp_arI E a11 0 10 f8), (mp_ob0 a1 a3 y2 a14 a15 a16 a12 a13 a17), (mp_ob7 a3 y3 y4 y5 y6 y7 y8 a18 a19 a20 a4 a5 a6 a7 a8 a9 a10 a11 a21), (mp_arI E a9 0 10 f6), (mp_arL E a12 20 f9), (mp_arI E a13 0 10 g_4)]
  show mp_W E X 10 34 [(6, .long z_7), (5, .ref a3), (0, .ref a0), (1, .ref a1), (2, .int x0), (3, .int x1), (4, .int x2)] [] w4_ 0 0
  refine mp_run mp_k_cX8_pass_ok hF mp_tabX8_ok [mp_i (.aload_n 1), mp_h (.getfield 21) [4, 9], mp_c (.iconst 1) 1, mp_i .iadd, mp_i (.istore 8)] (by decide +kernel) ?_
  refine And.intro rfl (And.intro rfl ?_)
  intro z_10 h_11
  have e_12 : z_10.toInt = y2.toInt + 1 := mp_add (a := y2.toInt) (b := 1) h_11 rfl (by decide) (by (first | exact mp_o2 l_y2 | omega)) (by (first | exact mp_o330 u_y2 | omega))
  show mp_W E X 10 42 [(8, .int z_10), (6, .long z_7), (5, .ref a3), (0, .ref a0), (1, .ref a1), (2, .int x0), (3, .int x1), (4, .int x2)] [] w4_ 0 0
  have lp_19 : ∀ (d_20 : Nat) (i_13 : Int32) (i_14 : Int64) (i_15 : Int32) (g_16 : Nat → Int32), 1 ≤ i_13.toInt → i_13.toInt ≤ 240 → y2.toInt + x1.toInt - i_13.toInt + 1 ≤ (d_20 : Int) → mp_W E X 10 42 [(8, .int i_13), (6, .long i_14), (5, .ref a3), (0, .ref a0), (1, .ref a1), (2, .int x0), (3, .int x1), (4, .int x2)] [] [(mp_ob8 a0 a2 y0 i_15), (mp_arI E a2 0 10 g_16), (mp_arI E a4 0 6 f1), (mp_arI E a5 0 6 f2), (mp_arI E a6 0 10 f3), (mp_arI E a7 0 10 f4), (mp_arI E a8 0 10 f5), (mp_arI E a10 0 10 f7), (mp_arI E a11 0 10 f8), (mp_ob0 a1 a3 y2 a14 a15 a16 a12 a13 a17), (mp_ob7 a3 y3 y4 y5 y6 y7 y8 a18 a19 a20 a4 a5 a6 a7 a8 a9 a10 a11 a21), (mp_arI E a9 0 10 f6), (mp_arL E a12 20 f9), (mp_arI E a13 0 10 g_4)] 0 0 := by
    intro d_20
    induction d_20 using Nat.strongRecOn with
    | ind d_20 ih_21 =>
      intro i_13 i_14 i_15 g_16 l_17 u_18 hm_22
      refine mp_run mp_k_cX8_pass_ok hF mp_tabX8_ok [mp_i (.iload 8), mp_i (.aload_n 1), mp_h (.getfield 21) [4, 9], mp_i (.iload_n 3), mp_i .iadd, mp_h (.if_icmp .gt 114) [164]] (by decide +kernel) ?_
      refine And.intro rfl (And.intro rfl ?_)
      intro z_23 h_24
      have e_25 : z_23.toInt = y2.toInt + x1.toInt := mp_add (a := y2.toInt) (b := x1.toInt) h_24 rfl rfl (by (first | exact mp_o524 l_y2 l_x1 | omega)) (by (first | exact mp_o607 q0 | omega))
      refine And.intro (fun c_26 => ?_) (fun c_26 => ?_)
      · have c_26 : z_23.toInt < i_13.toInt := c_26
        let w5_ : va_W := [(mp_ob8 a0 a2 y0 i_15), (mp_arI E a2 0 10 g_16), (mp_arI E a4 0 6 f1), (mp_arI E a5 0 6 f2), (mp_arI E a6 0 10 f3), (mp_arI E a7 0 10 f4), (mp_arI E a8 0 10 f5), (mp_arI E a10 0 10 f7), (mp_arI E a11 0 10 f8), (mp_ob0 a1 a3 y2 a14 a15 a16 a12 a13 a17), (mp_ob7 a3 y3 y4 y5 y6 y7 y8 a18 a19 a20 a4 a5 a6 a7 a8 a9 a10 a11 a21), (mp_arI E a9 0 10 f6), (mp_arL E a12 20 f9), (mp_arI E a13 0 10 g_4)]
        show mp_W E X 10 164 [(8, .int i_13), (6, .long i_14), (5, .ref a3), (0, .ref a0), (1, .ref a1), (2, .int x0), (3, .int x1), (4, .int x2)] [] w5_ 0 0
        refine mp_run mp_k_cX8_pass_ok hF mp_tabX8_ok [mp_i (.aload_n 0), mp_i (.aload 5), mp_i (.aload_n 0), mp_h (.getfield 9) [5, 0], mp_i (.iload 4), mp_i (.aload_n 1), mp_h (.getfield 21) [4, 9], mp_i (.iload_n 3), mp_i .iadd] (by decide +kernel) ?_
        refine And.intro rfl (And.intro rfl ?_)
        refine And.intro rfl (And.intro rfl ?_)
        intro z_27 h_28
        have e_29 : z_27.toInt = y2.toInt + x1.toInt := mp_add (a := y2.toInt) (b := x1.toInt) h_28 rfl rfl (by (first | exact mp_o524 l_y2 l_x1 | omega)) (by (first | exact mp_o607 q0 | omega))
        show mp_W E X 10 179 [(8, .int i_13), (6, .long i_14), (5, .ref a3), (0, .ref a0), (1, .ref a1), (2, .int x0), (3, .int x1), (4, .int x2)] [.int z_27, .int x2, .ref a2, .ref a3, .ref a0] w5_ 0 0
        refine mp_callV hF (As := [.ref a2, .int x2, .int z_27]) (rest := [.ref a0]) (wr := [(mp_ob8 a0 a2 y0 i_15), (mp_arI E a5 0 6 f2), (mp_arI E a7 0 10 f4), (mp_ob0 a1 a3 y2 a14 a15 a16 a12 a13 a17), (mp_arL E a12 20 f9), (mp_arI E a13 0 10 g_4)]) (bX7_worthBy_66 E a3 a2 a4 a6 a8 a9 a10 a11 a18 a19 a20 a5 a7 a21 f1 f3 f5 f6 f7 f8 g_16 y3 y4 y5 y6 y7 y8 x2 z_27 p0 p2 p3 p4 l_x2 u_x2 l_y4 u_y4 l_y5 u_y5 l_y6 u_y6 l_y7 u_y7 l_y8 u_y8) mp_lkX8_61 10 rfl [10, 2, 4, 6, 11, 7, 8, 1] [0, 3, 5, 9, 12, 13] rfl rfl rfl rfl rfl ⟨(Nat.le_of_ble_eq_true rfl), (Nat.le_of_ble_eq_true rfl), (Nat.le_of_ble_eq_true rfl), (Nat.le_of_ble_eq_true rfl)⟩ (Nat.le_of_ble_eq_true rfl) (by first | exact mp_fd_ok mp_k_cX8_pass_ok (by decide +kernel) | decide +kernel) (fun v_30 w_31 h_32 => ?_)
        obtain ⟨r_33, rfl, rfl⟩ := h_32
        let w6_ : va_W := [(mp_ob8 a0 a2 y0 i_15), (mp_arI E a5 0 6 f2), (mp_arI E a7 0 10 f4), (mp_ob0 a1 a3 y2 a14 a15 a16 a12 a13 a17), (mp_arL E a12 20 f9), (mp_arI E a13 0 10 g_4), (mp_ob7 a3 y3 y4 y5 y6 y7 y8 a18 a19 a20 a4 a5 a6 a7 a8 a9 a10 a11 a21), (mp_arI E a4 0 6 f1), (mp_arI E a6 0 10 f3), (mp_arI E a8 0 10 f5), (mp_arI E a9 0 10 f6), (mp_arI E a10 0 10 f7), (mp_arI E a11 0 10 f8), (mp_arI E a2 0 10 g_16)]
        show mp_W E X 10 182 [(8, .int i_13), (6, .long i_14), (5, .ref a3), (0, .ref a0), (1, .ref a1), (2, .int x0), (3, .int x1), (4, .int x2)] [.int r_33, .ref a0] w6_ 0 0
        refine mp_run mp_k_cX8_pass_ok hF mp_tabX8_ok [mp_h (.putfield 65) [6, 0]] (by decide +kernel) ?_
        refine And.intro rfl (And.intro rfl (And.intro rfl (And.intro rfl (And.intro (Nat.le_of_ble_eq_true rfl) ?_))))
        let w7_ : va_W := [(mp_ob8 a0 a2 r_33 i_15), (mp_arI E a5 0 6 f2), (mp_arI E a7 0 10 f4), (mp_ob0 a1 a3 y2 a14 a15 a16 a12 a13 a17), (mp_arL E a12 20 f9), (mp_arI E a13 0 10 g_4), (mp_ob7 a3 y3 y4 y5 y6 y7 y8 a18 a19 a20 a4 a5 a6 a7 a8 a9 a10 a11 a21), (mp_arI E a4 0 6 f1), (mp_arI E a6 0 10 f3), (mp_arI E a8 0 10 f5), (mp_arI E a9 0 10 f6), (mp_arI E a10 0 10 f7), (mp_arI E a11 0 10 f8), (mp_arI E a2 0 10 g_16)]
        show mp_W E X 10 185 [(8, .int i_13), (6, .long i_14), (5, .ref a3), (0, .ref a0), (1, .ref a1), (2, .int x0), (3, .int x1), (4, .int x2)] [] w7_ 0 0
        exact mp_vret hF hQ rfl (Nat.le_of_ble_eq_true rfl) (Nat.le_of_ble_eq_true rfl) [0, 13, 3, 6, 7, 1, 8, 2, 9, 10, 11, 12, 4, 5] (w' := [(mp_ob8 a0 a2 r_33 i_15), (mp_arI E a2 0 10 g_16), (mp_ob0 a1 a3 y2 a14 a15 a16 a12 a13 a17), (mp_ob7 a3 y3 y4 y5 y6 y7 y8 a18 a19 a20 a4 a5 a6 a7 a8 a9 a10 a11 a21), (mp_arI E a4 0 6 f1), (mp_arI E a5 0 6 f2), (mp_arI E a6 0 10 f3), (mp_arI E a7 0 10 f4), (mp_arI E a8 0 10 f5), (mp_arI E a9 0 10 f6), (mp_arI E a10 0 10 f7), (mp_arI E a11 0 10 f8), (mp_arL E a12 20 f9), (mp_arI E a13 0 10 g_4)]) rfl rfl ⟨r_33, i_15, g_16, g_4, rfl, rfl⟩ (by first | exact mp_fd_ok mp_k_cX8_pass_ok (by decide +kernel) | decide +kernel)
      · have c_26 : i_13.toInt ≤ z_23.toInt := c_26
        let w8_ : va_W := [(mp_ob8 a0 a2 y0 i_15), (mp_arI E a2 0 10 g_16), (mp_arI E a4 0 6 f1), (mp_arI E a5 0 6 f2), (mp_arI E a6 0 10 f3), (mp_arI E a7 0 10 f4), (mp_arI E a8 0 10 f5), (mp_arI E a10 0 10 f7), (mp_arI E a11 0 10 f8), (mp_ob0 a1 a3 y2 a14 a15 a16 a12 a13 a17), (mp_ob7 a3 y3 y4 y5 y6 y7 y8 a18 a19 a20 a4 a5 a6 a7 a8 a9 a10 a11 a21), (mp_arI E a9 0 10 f6), (mp_arL E a12 20 f9), (mp_arI E a13 0 10 g_4)]
        show mp_W E X 10 53 [(8, .int i_13), (6, .long i_14), (5, .ref a3), (0, .ref a0), (1, .ref a1), (2, .int x0), (3, .int x1), (4, .int x2)] [] w8_ 0 0
        refine mp_run mp_k_cX8_pass_ok hF mp_tabX8_ok [mp_c (.iconst 0) 0, mp_i (.istore 9)] (by decide +kernel) ?_
        show mp_W E X 10 56 [(9, .int 0), (8, .int i_13), (6, .long i_14), (5, .ref a3), (0, .ref a0), (1, .ref a1), (2, .int x0), (3, .int x1), (4, .int x2)] [] w8_ 0 0
        have lp_40 : ∀ (d_41 : Nat) (i_34 : Int32) (i_35 : Int64) (i_36 : Int32) (g_37 : Nat → Int32), 0 ≤ i_34.toInt → i_34.toInt ≤ 10 → y7.toInt - i_34.toInt ≤ (d_41 : Int) → mp_W E X 10 56 [(9, .int i_34), (8, .int i_13), (6, .long i_35), (5, .ref a3), (0, .ref a0), (1, .ref a1), (2, .int x0), (3, .int x1), (4, .int x2)] [] [(mp_ob8 a0 a2 y0 i_36), (mp_arI E a2 0 10 g_37), (mp_arI E a4 0 6 f1), (mp_arI E a5 0 6 f2), (mp_arI E a6 0 10 f3), (mp_arI E a7 0 10 f4), (mp_arI E a8 0 10 f5), (mp_arI E a10 0 10 f7), (mp_arI E a11 0 10 f8), (mp_ob0 a1 a3 y2 a14 a15 a16 a12 a13 a17), (mp_ob7 a3 y3 y4 y5 y6 y7 y8 a18 a19 a20 a4 a5 a6 a7 a8 a9 a10 a11 a21), (mp_arI E a9 0 10 f6), (mp_arL E a12 20 f9), (mp_arI E a13 0 10 g_4)] 0 0 := by
          intro d_41
          induction d_41 using Nat.strongRecOn with
          | ind d_41 ih_42 =>
            intro i_34 i_35 i_36 g_37 l_38 u_39 hm_43
            refine mp_run mp_k_cX8_pass_ok hF mp_tabX8_ok [mp_i (.iload 9), mp_i (.aload 5), mp_h (.getfield 38) [0, 10], mp_h (.if_icmp .ge 95) [158]] (by decide +kernel) ?_
            refine And.intro rfl (And.intro rfl ?_)
            refine And.intro (fun c_44 => ?_) (fun c_44 => ?_)
            · have c_44 : y7.toInt ≤ i_34.toInt := c_44
              let w9_ : va_W := [(mp_ob8 a0 a2 y0 i_36), (mp_arI E a2 0 10 g_37), (mp_arI E a4 0 6 f1), (mp_arI E a5 0 6 f2), (mp_arI E a6 0 10 f3), (mp_arI E a7 0 10 f4), (mp_arI E a8 0 10 f5), (mp_arI E a10 0 10 f7), (mp_arI E a11 0 10 f8), (mp_ob0 a1 a3 y2 a14 a15 a16 a12 a13 a17), (mp_ob7 a3 y3 y4 y5 y6 y7 y8 a18 a19 a20 a4 a5 a6 a7 a8 a9 a10 a11 a21), (mp_arI E a9 0 10 f6), (mp_arL E a12 20 f9), (mp_arI E a13 0 10 g_4)]
              show mp_W E X 10 158 [(9, .int i_34), (8, .int i_13), (6, .long i_35), (5, .ref a3), (0, .ref a0), (1, .ref a1), (2, .int x0), (3, .int x1), (4, .int x2)] [] w9_ 0 0
              refine mp_run mp_k_cX8_pass_ok hF mp_tabX8_ok [mp_c (.iinc 8 1) 1, mp_h (.goto (-119)) [42]] (by decide +kernel) ?_
              intro z_45 h_46
              have e_47 : z_45.toInt = i_13.toInt + 1 := mp_add (a := i_13.toInt) (b := 1) h_46 rfl (by decide) (by (first | exact mp_o457 l_17 | omega)) (by (first | exact mp_o823 u_18 | omega))
              show mp_W E X 10 42 [(8, .int z_45), (9, .int i_34), (6, .long i_35), (5, .ref a3), (0, .ref a0), (1, .ref a1), (2, .int x0), (3, .int x1), (4, .int x2)] [] w9_ 0 0
              exact mp_sub [0, 2, 3, 4, 5, 6, 7, 8] rfl [0, 1, 2, 3, 4, 5, 6, 7, 8, 9, 10, 11, 12, 13] rfl rfl (ih_21 (d_20 - 1) (by (first | exact mp_o824 c_26 hm_22 e_25 | omega)) z_45 i_35 i_36 g_37 (by (first | exact mp_o458 l_17 e_47 | omega)) (by (first | exact mp_o825 u_x1 u_y2 e_25 c_26 e_47 | omega)) (by (first | exact mp_o826 hm_22 e_47 | omega)))
            · have c_44 : i_34.toInt < y7.toInt := c_44
              let w10_ : va_W := [(mp_ob8 a0 a2 y0 i_36), (mp_arI E a2 0 10 g_37), (mp_arI E a4 0 6 f1), (mp_arI E a5 0 6 f2), (mp_arI E a6 0 10 f3), (mp_arI E a7 0 10 f4), (mp_arI E a8 0 10 f5), (mp_arI E a10 0 10 f7), (mp_arI E a11 0 10 f8), (mp_ob0 a1 a3 y2 a14 a15 a16 a12 a13 a17), (mp_ob7 a3 y3 y4 y5 y6 y7 y8 a18 a19 a20 a4 a5 a6 a7 a8 a9 a10 a11 a21), (mp_arI E a9 0 10 f6), (mp_arL E a12 20 f9), (mp_arI E a13 0 10 g_4)]
              show mp_W E X 10 66 [(9, .int i_34), (8, .int i_13), (6, .long i_35), (5, .ref a3), (0, .ref a0), (1, .ref a1), (2, .int x0), (3, .int x1), (4, .int x2)] [] w10_ 0 0
              refine mp_run mp_k_cX8_pass_ok hF mp_tabX8_ok [mp_i (.aload 5), mp_i (.iload 9), mp_i (.iload 8)] (by decide +kernel) ?_
              show mp_W E X 10 72 [(9, .int i_34), (8, .int i_13), (6, .long i_35), (5, .ref a3), (0, .ref a0), (1, .ref a1), (2, .int x0), (3, .int x1), (4, .int x2)] [.int i_13, .int i_34, .ref a3] w10_ 0 0
              refine mp_callV hF (As := [.int i_34, .int i_13]) (rest := []) (wr := [(mp_ob8 a0 a2 y0 i_36), (mp_arI E a2 0 10 g_37), (mp_arI E a5 0 6 f2), (mp_arI E a8 0 10 f5), (mp_arI E a10 0 10 f7), (mp_arI E a11 0 10 f8), (mp_ob0 a1 a3 y2 a14 a15 a16 a12 a13 a17), (mp_arI E a9 0 10 f6), (mp_arL E a12 20 f9), (mp_arI E a13 0 10 g_4)]) (bX7_bothLive_92 E a3 a4 a6 a7 a18 a19 a20 a5 a8 a9 a10 a11 a21 f1 f3 f4 y3 y4 y5 y6 y7 y8 i_34 i_13 p0 p1 l_38 (by (first | exact mp_o419 u_y7 c_44 | omega)) l_y4 u_y4 l_y5 u_y5 l_y6 u_y6 l_y7 u_y7 l_y8 u_y8) mp_lkX8_43 10 rfl [10, 2, 4, 5] [0, 1, 3, 6, 7, 8, 9, 11, 12, 13] rfl rfl rfl rfl rfl ⟨(Nat.le_of_ble_eq_true rfl), (Nat.le_of_ble_eq_true rfl), (Nat.le_of_ble_eq_true rfl), (Nat.le_of_ble_eq_true rfl)⟩ (Nat.le_of_ble_eq_true rfl) (by first | exact mp_fd_ok mp_k_cX8_pass_ok (by decide +kernel) | decide +kernel) (fun v_48 w_49 h_50 => ?_)
              rcases h_50 with ⟨rfl, x_51, rfl⟩ | ⟨rfl, x_52, rfl⟩
              · skip
                let w11_ : va_W := [(mp_ob8 a0 a2 y0 i_36), (mp_arI E a2 0 10 g_37), (mp_arI E a5 0 6 f2), (mp_arI E a8 0 10 f5), (mp_arI E a10 0 10 f7), (mp_arI E a11 0 10 f8), (mp_ob0 a1 a3 y2 a14 a15 a16 a12 a13 a17), (mp_arI E a9 0 10 f6), (mp_arL E a12 20 f9), (mp_arI E a13 0 10 g_4), (mp_ob7 a3 y3 y4 y5 y6 y7 y8 a18 a19 a20 a4 a5 a6 a7 a8 a9 a10 a11 a21), (mp_arI E a4 0 6 f1), (mp_arI E a6 0 10 f3), (mp_arI E a7 0 10 f4)]
                show mp_W E X 10 75 [(9, .int i_34), (8, .int i_13), (6, .long i_35), (5, .ref a3), (0, .ref a0), (1, .ref a1), (2, .int x0), (3, .int x1), (4, .int x2)] [.int 1] w11_ 0 0
                refine mp_run mp_k_cX8_pass_ok hF mp_tabX8_ok [mp_h (.ifCond .eq 77) [152]] (by decide +kernel) ?_
                refine And.intro (fun c_53 => absurd c_53 (by decide)) (fun _ => ?_)
                show mp_W E X 10 78 [(9, .int i_34), (8, .int i_13), (6, .long i_35), (5, .ref a3), (0, .ref a0), (1, .ref a1), (2, .int x0), (3, .int x1), (4, .int x2)] [] w11_ 0 0
                refine mp_run mp_k_cX8_pass_ok hF mp_tabX8_ok [mp_cl (.ldc2_w 47) 1103515245, mp_i (.lload 6), mp_i .lmul, mp_cl (.ldc2_w 49) 12345, mp_i .ladd, mp_cl (.ldc2_w 51) 2147483647, mp_i .land, mp_i (.lstore 6), mp_i (.lload 6), mp_c (.bipush 16) 16, mp_i .lshr, mp_cl (.ldc2_w 53) 100, mp_i .lrem, mp_i (.aload 5), mp_h (.getfield 55) [1, 10], mp_i (.aload 5), mp_h (.getfield 58) [2, 10], mp_i (.iload 9), mp_h .iaload [12], mp_h .iaload [2], mp_i .i2l, mp_i .lcmp, mp_h (.ifCond .ge 33) [152]] (by decide +kernel) ?_
                intro z_54 h_55
                intro z_56 h_57
                intro z_58 h_59
                intro z_60 h_61
                refine And.intro (by decide) ?_
                intro z_62 h_63
                refine And.intro rfl (And.intro rfl ?_)
                refine And.intro rfl (And.intro rfl ?_)
                refine And.intro rfl (And.intro rfl (And.intro (vp_in_iff.mpr (by (first | exact mp_o381 l_38 u_y7 c_44 | omega))) ?_))
                intro z_64 h_65
                have e_66 : 0 ≤ z_64.toInt ∧ z_64.toInt ≤ 5 := mp_all_ld h_65 p0 (by (first | exact l_38 | omega)) (by (first | exact mp_o382 u_y7 c_44 | omega))
                refine And.intro rfl (And.intro rfl (And.intro (vp_in_iff.mpr (by (first | exact mp_o422 e_66 | omega))) ?_))
                intro z_67 h_68
                intro z_69 h_70
                have e_71 : z_69.toInt = z_67.toInt := mp_i2l h_70
                intro z_72 h_73
                refine And.intro (fun c_74 => ?_) (fun c_74 => ?_)
                · have c_74 : z_69.toInt ≤ z_62.toInt := mp_lc_ge h_73 c_74
                  show mp_W E X 10 152 [(6, .long z_58), (9, .int i_34), (8, .int i_13), (5, .ref a3), (0, .ref a0), (1, .ref a1), (2, .int x0), (3, .int x1), (4, .int x2)] [] w11_ 0 0
                  refine mp_run mp_k_cX8_pass_ok hF mp_tabX8_ok [mp_c (.iinc 9 1) 1, mp_h (.goto (-99)) [56]] (by decide +kernel) ?_
                  intro z_75 h_76
                  have e_77 : z_75.toInt = i_34.toInt + 1 := mp_add (a := i_34.toInt) (b := 1) h_76 rfl (by decide) (by (first | exact mp_o2 l_38 | omega)) (by (first | exact mp_o420 u_39 | omega))
                  show mp_W E X 10 56 [(9, .int z_75), (6, .long z_58), (8, .int i_13), (5, .ref a3), (0, .ref a0), (1, .ref a1), (2, .int x0), (3, .int x1), (4, .int x2)] [] w11_ 0 0
                  exact mp_sub [0, 2, 1, 3, 4, 5, 6, 7, 8] rfl [0, 1, 11, 2, 12, 13, 3, 4, 5, 6, 10, 7, 8, 9] rfl rfl (ih_42 (d_41 - 1) (by (first | exact mp_o72 hm_43 c_44 | omega)) z_75 z_58 i_36 g_37 (by (first | exact mp_o51 l_38 e_77 | omega)) (by (first | exact mp_o421 u_y7 c_44 e_77 | omega)) (by (first | exact mp_o77 hm_43 e_77 | omega)))
                · have c_74 : z_62.toInt < z_69.toInt := mp_lc_lt h_73 c_74
                  show mp_W E X 10 122 [(6, .long z_58), (9, .int i_34), (8, .int i_13), (5, .ref a3), (0, .ref a0), (1, .ref a1), (2, .int x0), (3, .int x1), (4, .int x2)] [] w11_ 0 0
                  refine mp_run mp_k_cX8_pass_ok hF mp_tabX8_ok [mp_i (.aload_n 0), mp_h (.getfield 9) [5, 0], mp_i (.iload 9), mp_i (.iload 8), mp_h .iastore [1]] (by decide +kernel) ?_
                  refine And.intro rfl (And.intro rfl ?_)
                  refine And.intro rfl (And.intro rfl (And.intro (vp_in_iff.mpr (by (first | exact mp_o381 l_38 u_y7 c_44 | omega))) ?_))
                  intro g_78 h_79
                  let w12_ : va_W := [(mp_ob8 a0 a2 y0 i_36), (mp_arI E a2 0 10 g_78), (mp_arI E a5 0 6 f2), (mp_arI E a8 0 10 f5), (mp_arI E a10 0 10 f7), (mp_arI E a11 0 10 f8), (mp_ob0 a1 a3 y2 a14 a15 a16 a12 a13 a17), (mp_arI E a9 0 10 f6), (mp_arL E a12 20 f9), (mp_arI E a13 0 10 g_4), (mp_ob7 a3 y3 y4 y5 y6 y7 y8 a18 a19 a20 a4 a5 a6 a7 a8 a9 a10 a11 a21), (mp_arI E a4 0 6 f1), (mp_arI E a6 0 10 f3), (mp_arI E a7 0 10 f4)]
                  show mp_W E X 10 131 [(6, .long z_58), (9, .int i_34), (8, .int i_13), (5, .ref a3), (0, .ref a0), (1, .ref a1), (2, .int x0), (3, .int x1), (4, .int x2)] [] w12_ 0 0
                  refine mp_run mp_k_cX8_pass_ok hF mp_tabX8_ok [mp_i (.aload_n 0), mp_i .dup, mp_h (.getfield 35) [7, 0], mp_i (.iload 9), mp_i (.iload 4), mp_h (.if_icmp .ne 7) [147]] (by decide +kernel) ?_
                  refine And.intro rfl ?_
                  refine And.intro rfl (And.intro rfl ?_)
                  refine And.intro (fun c_80 => ?_) (fun c_80 => ?_)
                  · have c_80 : i_34.toInt ≠ x2.toInt := c_80
                    show mp_W E X 10 147 [(6, .long z_58), (9, .int i_34), (8, .int i_13), (5, .ref a3), (0, .ref a0), (1, .ref a1), (2, .int x0), (3, .int x1), (4, .int x2)] [.int i_36, .ref a0] w12_ 0 0
                    refine mp_run mp_k_cX8_pass_ok hF mp_tabX8_ok [mp_c (.iconst 0) 0, mp_i .iadd, mp_h (.putfield 35) [7, 0]] (by decide +kernel) ?_
                    intro z_81 h_82
                    have e_83 := mp_bnd i_36
                    have e_84 : z_81.toInt = i_36.toInt + 0 := mp_add (a := i_36.toInt) (b := 0) h_82 rfl (by decide) (by (first | exact mp_o827 e_83 | omega)) (by (first | exact mp_o828 e_83 | omega))
                    refine And.intro rfl (And.intro rfl (And.intro rfl (And.intro rfl (And.intro (Nat.le_of_ble_eq_true rfl) ?_))))
                    let w13_ : va_W := [(mp_ob8 a0 a2 y0 z_81), (mp_arI E a2 0 10 g_78), (mp_arI E a5 0 6 f2), (mp_arI E a8 0 10 f5), (mp_arI E a10 0 10 f7), (mp_arI E a11 0 10 f8), (mp_ob0 a1 a3 y2 a14 a15 a16 a12 a13 a17), (mp_arI E a9 0 10 f6), (mp_arL E a12 20 f9), (mp_arI E a13 0 10 g_4), (mp_ob7 a3 y3 y4 y5 y6 y7 y8 a18 a19 a20 a4 a5 a6 a7 a8 a9 a10 a11 a21), (mp_arI E a4 0 6 f1), (mp_arI E a6 0 10 f3), (mp_arI E a7 0 10 f4)]
                    show mp_W E X 10 152 [(6, .long z_58), (9, .int i_34), (8, .int i_13), (5, .ref a3), (0, .ref a0), (1, .ref a1), (2, .int x0), (3, .int x1), (4, .int x2)] [] w13_ 0 0
                    refine mp_run mp_k_cX8_pass_ok hF mp_tabX8_ok [mp_c (.iinc 9 1) 1, mp_h (.goto (-99)) [56]] (by decide +kernel) ?_
                    intro z_85 h_86
                    have e_87 : z_85.toInt = i_34.toInt + 1 := mp_add (a := i_34.toInt) (b := 1) h_86 rfl (by decide) (by (first | exact mp_o2 l_38 | omega)) (by (first | exact mp_o420 u_39 | omega))
                    show mp_W E X 10 56 [(9, .int z_85), (6, .long z_58), (8, .int i_13), (5, .ref a3), (0, .ref a0), (1, .ref a1), (2, .int x0), (3, .int x1), (4, .int x2)] [] w13_ 0 0
                    exact mp_sub [0, 2, 1, 3, 4, 5, 6, 7, 8] rfl [0, 1, 11, 2, 12, 13, 3, 4, 5, 6, 10, 7, 8, 9] rfl rfl (ih_42 (d_41 - 1) (by (first | exact mp_o72 hm_43 c_44 | omega)) z_85 z_58 z_81 g_78 (by (first | exact mp_o51 l_38 e_87 | omega)) (by (first | exact mp_o421 u_y7 c_44 e_87 | omega)) (by (first | exact mp_o77 hm_43 e_87 | omega)))
                  · have c_80 : i_34.toInt = x2.toInt := (congrArg Int32.toInt c_80)
                    show mp_W E X 10 143 [(6, .long z_58), (9, .int i_34), (8, .int i_13), (5, .ref a3), (0, .ref a0), (1, .ref a1), (2, .int x0), (3, .int x1), (4, .int x2)] [.int i_36, .ref a0] w12_ 0 0
                    refine mp_run mp_k_cX8_pass_ok hF mp_tabX8_ok [mp_c (.iconst 1) 1, mp_h (.goto 4) [148], mp_i .iadd, mp_h (.putfield 35) [7, 0]] (by decide +kernel) ?_
                    intro z_88 h_89
                    have e_90 := mp_bnd i_36
                    refine And.intro rfl (And.intro rfl (And.intro rfl (And.intro rfl (And.intro (Nat.le_of_ble_eq_true rfl) ?_))))
                    let w14_ : va_W := [(mp_ob8 a0 a2 y0 z_88), (mp_arI E a2 0 10 g_78), (mp_arI E a5 0 6 f2), (mp_arI E a8 0 10 f5), (mp_arI E a10 0 10 f7), (mp_arI E a11 0 10 f8), (mp_ob0 a1 a3 y2 a14 a15 a16 a12 a13 a17), (mp_arI E a9 0 10 f6), (mp_arL E a12 20 f9), (mp_arI E a13 0 10 g_4), (mp_ob7 a3 y3 y4 y5 y6 y7 y8 a18 a19 a20 a4 a5 a6 a7 a8 a9 a10 a11 a21), (mp_arI E a4 0 6 f1), (mp_arI E a6 0 10 f3), (mp_arI E a7 0 10 f4)]
                    show mp_W E X 10 152 [(6, .long z_58), (9, .int i_34), (8, .int i_13), (5, .ref a3), (0, .ref a0), (1, .ref a1), (2, .int x0), (3, .int x1), (4, .int x2)] [] w14_ 0 0
                    refine mp_run mp_k_cX8_pass_ok hF mp_tabX8_ok [mp_c (.iinc 9 1) 1, mp_h (.goto (-99)) [56]] (by decide +kernel) ?_
                    intro z_92 h_93
                    have e_94 : z_92.toInt = i_34.toInt + 1 := mp_add (a := i_34.toInt) (b := 1) h_93 rfl (by decide) (by (first | exact mp_o298 l_x2 c_80 | omega)) (by (first | exact mp_o829 u_x2 c_80 | omega))
                    show mp_W E X 10 56 [(9, .int z_92), (6, .long z_58), (8, .int i_13), (5, .ref a3), (0, .ref a0), (1, .ref a1), (2, .int x0), (3, .int x1), (4, .int x2)] [] w14_ 0 0
                    exact mp_sub [0, 2, 1, 3, 4, 5, 6, 7, 8] rfl [0, 1, 11, 2, 12, 13, 3, 4, 5, 6, 10, 7, 8, 9] rfl rfl (ih_42 (d_41 - 1) (by (first | exact mp_o72 hm_43 c_44 | omega)) z_92 z_58 z_88 g_78 (by (first | exact mp_o605 l_x2 c_80 e_94 | omega)) (by (first | exact mp_o830 u_x2 c_80 e_94 | omega)) (by (first | exact mp_o77 hm_43 e_94 | omega)))
              · skip
                let w15_ : va_W := [(mp_ob8 a0 a2 y0 i_36), (mp_arI E a2 0 10 g_37), (mp_arI E a5 0 6 f2), (mp_arI E a8 0 10 f5), (mp_arI E a10 0 10 f7), (mp_arI E a11 0 10 f8), (mp_ob0 a1 a3 y2 a14 a15 a16 a12 a13 a17), (mp_arI E a9 0 10 f6), (mp_arL E a12 20 f9), (mp_arI E a13 0 10 g_4), (mp_ob7 a3 y3 y4 y5 y6 y7 y8 a18 a19 a20 a4 a5 a6 a7 a8 a9 a10 a11 a21), (mp_arI E a4 0 6 f1), (mp_arI E a6 0 10 f3), (mp_arI E a7 0 10 f4)]
                show mp_W E X 10 75 [(9, .int i_34), (8, .int i_13), (6, .long i_35), (5, .ref a3), (0, .ref a0), (1, .ref a1), (2, .int x0), (3, .int x1), (4, .int x2)] [.int 0] w15_ 0 0
                refine mp_run mp_k_cX8_pass_ok hF mp_tabX8_ok [mp_h (.ifCond .eq 77) [152]] (by decide +kernel) ?_
                refine And.intro (fun _ => ?_) (fun c_95 => absurd c_95 (by decide))
                show mp_W E X 10 152 [(9, .int i_34), (8, .int i_13), (6, .long i_35), (5, .ref a3), (0, .ref a0), (1, .ref a1), (2, .int x0), (3, .int x1), (4, .int x2)] [] w15_ 0 0
                refine mp_run mp_k_cX8_pass_ok hF mp_tabX8_ok [mp_c (.iinc 9 1) 1, mp_h (.goto (-99)) [56]] (by decide +kernel) ?_
                intro z_96 h_97
                have e_98 : z_96.toInt = i_34.toInt + 1 := mp_add (a := i_34.toInt) (b := 1) h_97 rfl (by decide) (by (first | exact mp_o2 l_38 | omega)) (by (first | exact mp_o420 u_39 | omega))
                show mp_W E X 10 56 [(9, .int z_96), (8, .int i_13), (6, .long i_35), (5, .ref a3), (0, .ref a0), (1, .ref a1), (2, .int x0), (3, .int x1), (4, .int x2)] [] w15_ 0 0
                exact mp_sub [0, 1, 2, 3, 4, 5, 6, 7, 8] rfl [0, 1, 11, 2, 12, 13, 3, 4, 5, 6, 10, 7, 8, 9] rfl rfl (ih_42 (d_41 - 1) (by (first | exact mp_o72 hm_43 c_44 | omega)) z_96 i_35 i_36 g_37 (by (first | exact mp_o51 l_38 e_98 | omega)) (by (first | exact mp_o421 u_y7 c_44 e_98 | omega)) (by (first | exact mp_o77 hm_43 e_98 | omega)))
        exact mp_sub [0, 1, 2, 3, 4, 5, 6, 7, 8] rfl [0, 1, 2, 3, 4, 5, 6, 7, 8, 9, 10, 11, 12, 13] rfl rfl (lp_40 _ 0 i_14 i_15 g_16 (by decide) (by decide) (Int.self_le_toNat _))
  exact mp_sub [0, 1, 2, 3, 4, 5, 6, 7] rfl [0, 1, 2, 3, 4, 5, 6, 7, 8, 9, 10, 11, 12, 13] rfl rfl (lp_19 _ z_10 z_7 0 g_5 (by (first | exact mp_o182 l_y2 e_12 | omega)) (by (first | exact mp_o831 u_y2 e_12 | omega)) (Int.self_le_toNat _))
set_option maxHeartbeats 4000000 in
set_option maxRecDepth 100000 in
theorem bX9_drawn_168 (E : mp_E) (a0 a1 a2 a3 a4 a5 a6 a7 a8 a9 a10 a11 a12 a13 a14 a15 a16 a17 a18 a19 a20 a21 a22 a23 a24 a25 a26 a27 a28 a29 : Nat) (f0 : Nat → Int32) (f1 : Nat → Int32) (f2 : Nat → Int32) (f3 : Nat → Int32) (f4 : Nat → Int32) (f5 : Nat → Int32) (f6 : Nat → Int32) (f7 : Nat → Int32) (f8 : Nat → Int64) (f9 : Nat → Int32) (f10 : Nat → Int32) (y0 : Int32) (y1 : Int32) (y2 : Int32) (y3 : Int32) (y4 : Int32) (y5 : Int32) (y6 : Int32) (y7 : Int32) (y8 : Int32) (x0 : Int32) (x1 : Int32) (x2 : Int32) (p0 : mp_all f2 10 0 5) (p1 : mp_all f3 10 0 5) (p2 : mp_all f5 10 0 99) (p3 : mp_all f6 10 0 1) (p4 : mp_all f7 10 (-1) 9) (l_y0 : 0 ≤ y0.toInt) (u_y0 : y0.toInt ≤ 99) (l_y2 : 0 ≤ y2.toInt) (u_y2 : y2.toInt ≤ 6) (l_y3 : 0 ≤ y3.toInt) (u_y3 : y3.toInt ≤ 99) (l_y4 : 0 ≤ y4.toInt) (u_y4 : y4.toInt ≤ 6) (l_y5 : 0 ≤ y5.toInt) (u_y5 : y5.toInt ≤ 10) (l_y6 : 0 ≤ y6.toInt) (u_y6 : y6.toInt ≤ 60) : mp_Ct E yX9_drawn cX9_drawn 4 (some FieldType.int) 4 0 0 104 [.ref a0, .int x0, .int x1, .int x2] [(mp_ob9 a0 a15 a1 a16 a17 a18 a19 a20 a13 a21), (mp_ob0 a1 a2 y0 a22 a23 a24 a11 a12 a25), (mp_ob7 a2 y1 y2 y3 y4 y5 y6 a26 a27 a28 a3 a4 a5 a6 a7 a8 a9 a10 a29), (mp_arI E a3 0 6 f0), (mp_arI E a4 0 6 f1), (mp_arI E a5 0 10 f2), (mp_arI E a6 0 10 f3), (mp_arI E a7 0 10 f4), (mp_arI E a8 0 10 f5), (mp_arI E a9 0 10 f6), (mp_arI E a10 0 10 f7), (mp_arL E a11 20 f8), (mp_arI E a12 0 10 f9), (mp_ob8 a13 a14 y7 y8), (mp_arI E a14 0 10 f10)] (fun v w' => ∃ h1 : Nat → Int32, ∃ r2 : Int32, ∃ r3 : Int32, ∃ h4 : Nat → Int32, ∃ r5 : Int32, v = some (.int r5) ∧ w' = [(mp_ob9 a0 a15 a1 a16 a17 a18 a19 a20 a13 a21), (mp_ob0 a1 a2 y0 a22 a23 a24 a11 a12 a25), (mp_ob7 a2 y1 y2 y3 y4 y5 y6 a26 a27 a28 a3 a4 a5 a6 a7 a8 a9 a10 a29), (mp_arI E a3 0 6 f0), (mp_arI E a4 0 6 f1), (mp_arI E a5 0 10 f2), (mp_arI E a6 0 10 f3), (mp_arI E a7 0 10 f4), (mp_arI E a8 0 10 f5), (mp_arI E a9 0 10 f6), (mp_arI E a10 0 10 f7), (mp_arL E a11 20 f8), (mp_arI E a12 0 10 h1), (mp_ob8 a13 a14 r2 r3), (mp_arI E a14 0 10 h4)]) := by
  refine mp_met false (by decide) (by decide) (Nat.le_of_ble_eq_true rfl) (fun X hF hQ => ?_)
  have hF : mp_F E X (RX9, cX9_drawn, 4, (4, 0, 0, 104), (some FieldType.int), false) := hF
  let w1_ : va_W := [(mp_ob9 a0 a15 a1 a16 a17 a18 a19 a20 a13 a21), (mp_ob0 a1 a2 y0 a22 a23 a24 a11 a12 a25), (mp_ob7 a2 y1 y2 y3 y4 y5 y6 a26 a27 a28 a3 a4 a5 a6 a7 a8 a9 a10 a29), (mp_arI E a3 0 6 f0), (mp_arI E a4 0 6 f1), (mp_arI E a5 0 10 f2), (mp_arI E a6 0 10 f3), (mp_arI E a7 0 10 f4), (mp_arI E a8 0 10 f5), (mp_arI E a9 0 10 f6), (mp_arI E a10 0 10 f7), (mp_arL E a11 20 f8), (mp_arI E a12 0 10 f9), (mp_ob8 a13 a14 y7 y8), (mp_arI E a14 0 10 f10)]
  show mp_W E X 4 0 [(0, .ref a0), (1, .int x0), (2, .int x1), (3, .int x2)] [] w1_ 0 0
  refine mp_run mp_k_cX9_drawn_ok hF mp_tabX9_ok [mp_i (.aload_n 0), mp_i (.iload_n 1), mp_i (.iload_n 2), mp_i (.iload_n 3)] (by decide +kernel) ?_
  show mp_W E X 4 4 [(0, .ref a0), (1, .int x0), (2, .int x1), (3, .int x2)] [.int x2, .int x1, .int x0, .ref a0] w1_ 0 0
  refine mp_callV hF (As := [.int x0, .int x1, .int x2]) (rest := []) (wr := [(mp_arI E a3 0 6 f0), (mp_arI E a4 0 6 f1), (mp_arI E a5 0 10 f2), (mp_arI E a6 0 10 f3), (mp_arI E a7 0 10 f4), (mp_arI E a8 0 10 f5), (mp_arI E a9 0 10 f6), (mp_arI E a10 0 10 f7), (mp_arL E a11 20 f8), (mp_arI E a12 0 10 f9), (mp_ob8 a13 a14 y7 y8), (mp_arI E a14 0 10 f10)]) (bX9_canDraw_166 E a0 a1 a2 a15 a16 a17 a18 a19 a20 a13 a21 a22 a23 a24 a11 a12 a25 a26 a27 a28 a3 a4 a5 a6 a7 a8 a9 a10 a29 y0 y1 y2 y3 y4 y5 y6 x0 x1 x2 l_y0 u_y0 l_y2 u_y2 l_y3 u_y3 l_y4 u_y4 l_y5 u_y5 l_y6 u_y6) mp_lkX9_316 0 rfl [0, 1, 2] [3, 4, 5, 6, 7, 8, 9, 10, 11, 12, 13, 14] rfl rfl rfl rfl rfl ⟨(Nat.le_of_ble_eq_true rfl), (Nat.le_of_ble_eq_true rfl), (Nat.le_of_ble_eq_true rfl), (Nat.le_of_ble_eq_true rfl)⟩ (Nat.le_of_ble_eq_true rfl) (by first | exact mp_fd_ok mp_k_cX9_drawn_ok (by decide +kernel) | decide +kernel) (fun v_1 w_2 h_3 => ?_)
  refine h_3.elim (fun q_11 => ?_) (fun q_12 => ?_)
  · skip
    refine q_11.elim fun e_13 e_14 => ?_
    clear h_3 q_11
    subst e_13
    subst e_14
    let w2_ : va_W := [(mp_arI E a3 0 6 f0), (mp_arI E a4 0 6 f1), (mp_arI E a5 0 10 f2), (mp_arI E a6 0 10 f3), (mp_arI E a7 0 10 f4), (mp_arI E a8 0 10 f5), (mp_arI E a9 0 10 f6), (mp_arI E a10 0 10 f7), (mp_arL E a11 20 f8), (mp_arI E a12 0 10 f9), (mp_ob8 a13 a14 y7 y8), (mp_arI E a14 0 10 f10), (mp_ob9 a0 a15 a1 a16 a17 a18 a19 a20 a13 a21), (mp_ob0 a1 a2 y0 a22 a23 a24 a11 a12 a25), (mp_ob7 a2 y1 y2 y3 y4 y5 y6 a26 a27 a28 a3 a4 a5 a6 a7 a8 a9 a10 a29)]
    show mp_W E X 4 7 [(0, .ref a0), (1, .int x0), (2, .int x1), (3, .int x2)] [.int 0] w2_ 0 0
    refine mp_run mp_k_cX9_drawn_ok hF mp_tabX9_ok [mp_h (.ifCond .ne 6) [13]] (by decide +kernel) ?_
    refine And.intro (fun c_15 => absurd c_15 (by decide)) (fun _ => ?_)
    show mp_W E X 4 10 [(0, .ref a0), (1, .int x0), (2, .int x1), (3, .int x2)] [] w2_ 0 0
    refine mp_run mp_k_cX9_drawn_ok hF mp_tabX9_ok [mp_c (.bipush (-2)) (-2)] (by decide +kernel) ?_
    show mp_W E X 4 12 [(0, .ref a0), (1, .int x0), (2, .int x1), (3, .int x2)] [.int (-2)] w2_ 0 0
    exact mp_iret hF hQ rfl rfl (Nat.le_of_ble_eq_true rfl) (Nat.le_of_ble_eq_true rfl) [12, 13, 14, 0, 1, 2, 3, 4, 5, 6, 7, 8, 9, 10, 11] (w' := w1_) rfl rfl ⟨f9, y7, y8, f10, (-2), rfl, rfl⟩ (by first | exact mp_fd_ok mp_k_cX9_drawn_ok (by decide +kernel) | decide +kernel)
  · skip
    refine q_12.elim fun e_16 q_17 => q_17.elim fun c_4 q_18 => q_18.elim fun c_5 q_19 => q_19.elim fun c_6 q_20 => q_20.elim fun c_7 q_21 => q_21.elim fun c_8 q_22 => q_22.elim fun c_9 q_23 => q_23.elim fun c_10 e_24 => ?_
    clear h_3 q_12 q_17 q_18 q_19 q_20 q_21 q_22 q_23
    subst e_16
    subst e_24
    have c_4 : 0 ≤ x2.toInt := c_4
    have c_5 : x2.toInt < y5.toInt := c_5
    have c_6 : 0 ≤ x0.toInt := c_6
    have c_7 : x0.toInt ≤ 2000000000 := c_7
    have c_8 : 1 ≤ x1.toInt := c_8
    have c_9 : x1.toInt ≤ 40 := c_9
    have c_10 : y0.toInt + x1.toInt ≤ 99 := c_10
    let w3_ : va_W := [(mp_arI E a3 0 6 f0), (mp_arI E a4 0 6 f1), (mp_arI E a5 0 10 f2), (mp_arI E a6 0 10 f3), (mp_arI E a7 0 10 f4), (mp_arI E a8 0 10 f5), (mp_arI E a9 0 10 f6), (mp_arI E a10 0 10 f7), (mp_arL E a11 20 f8), (mp_arI E a12 0 10 f9), (mp_ob8 a13 a14 y7 y8), (mp_arI E a14 0 10 f10), (mp_ob9 a0 a15 a1 a16 a17 a18 a19 a20 a13 a21), (mp_ob0 a1 a2 y0 a22 a23 a24 a11 a12 a25), (mp_ob7 a2 y1 y2 y3 y4 y5 y6 a26 a27 a28 a3 a4 a5 a6 a7 a8 a9 a10 a29)]
    show mp_W E X 4 7 [(0, .ref a0), (1, .int x0), (2, .int x1), (3, .int x2)] [.int 1] w3_ 0 0
    refine mp_run mp_k_cX9_drawn_ok hF mp_tabX9_ok [mp_h (.ifCond .ne 6) [13]] (by decide +kernel) ?_
    refine And.intro (fun _ => ?_) (fun c_25 => absurd c_25 (by decide))
    show mp_W E X 4 13 [(0, .ref a0), (1, .int x0), (2, .int x1), (3, .int x2)] [] w3_ 0 0
    refine mp_run mp_k_cX9_drawn_ok hF mp_tabX9_ok [mp_i (.aload_n 0), mp_h (.getfield 60) [43, 12], mp_i (.aload_n 0), mp_h (.getfield 19) [37, 12], mp_i (.iload_n 1), mp_i (.iload_n 2), mp_i (.iload_n 3)] (by decide +kernel) ?_
    refine And.intro rfl (And.intro rfl ?_)
    refine And.intro rfl (And.intro rfl ?_)
    show mp_W E X 4 24 [(0, .ref a0), (1, .int x0), (2, .int x1), (3, .int x2)] [.int x2, .int x1, .int x0, .ref a1, .ref a13] w3_ 0 0
    refine mp_callV hF (As := [.ref a1, .int x0, .int x1, .int x2]) (rest := []) (wr := [(mp_ob9 a0 a15 a1 a16 a17 a18 a19 a20 a13 a21)]) (bX8_pass_167 E a13 a1 a14 a2 a3 a4 a5 a6 a7 a8 a9 a10 a11 a12 a22 a23 a24 a25 a26 a27 a28 a29 f10 f0 f1 f2 f3 f4 f5 f6 f7 f8 f9 y7 y8 y0 y1 y2 y3 y4 y5 y6 x0 x1 x2 p0 p1 p2 p3 p4 (by (first | exact c_8 | omega)) (by (first | exact c_9 | omega)) (by (first | exact c_4 | omega)) (by (first | exact mp_o419 u_y5 c_5 | omega)) l_y0 u_y0 l_y2 u_y2 l_y3 u_y3 l_y4 u_y4 l_y5 u_y5 l_y6 u_y6 (by first | (first | exact c_10 | omega) | (show y0.toInt + x1.toInt ≤ 99; omega))) mp_lkX9_319 10 rfl [10, 11, 13, 14, 0, 1, 2, 3, 4, 5, 6, 7, 8, 9] [12] rfl rfl rfl rfl rfl ⟨(Nat.le_of_ble_eq_true rfl), (Nat.le_of_ble_eq_true rfl), (Nat.le_of_ble_eq_true rfl), (Nat.le_of_ble_eq_true rfl)⟩ (Nat.le_of_ble_eq_true rfl) (by first | exact mp_fd_ok mp_k_cX9_drawn_ok (by decide +kernel) | decide +kernel) (fun v_26 w_27 h_28 => ?_)
    refine h_28.elim fun r_29 q_33 => q_33.elim fun r_30 q_34 => q_34.elim fun g_31 q_35 => q_35.elim fun g_32 q_36 => q_36.elim fun e_37 e_38 => ?_
    clear h_28 q_33 q_34 q_35 q_36
    subst e_37
    subst e_38
    let w4_ : va_W := [(mp_ob9 a0 a15 a1 a16 a17 a18 a19 a20 a13 a21), (mp_ob8 a13 a14 r_29 r_30), (mp_arI E a14 0 10 g_31), (mp_ob0 a1 a2 y0 a22 a23 a24 a11 a12 a25), (mp_ob7 a2 y1 y2 y3 y4 y5 y6 a26 a27 a28 a3 a4 a5 a6 a7 a8 a9 a10 a29), (mp_arI E a3 0 6 f0), (mp_arI E a4 0 6 f1), (mp_arI E a5 0 10 f2), (mp_arI E a6 0 10 f3), (mp_arI E a7 0 10 f4), (mp_arI E a8 0 10 f5), (mp_arI E a9 0 10 f6), (mp_arI E a10 0 10 f7), (mp_arL E a11 20 f8), (mp_arI E a12 0 10 g_32)]
    show mp_W E X 4 27 [(0, .ref a0), (1, .int x0), (2, .int x1), (3, .int x2)] [] w4_ 0 0
    refine mp_run mp_k_cX9_drawn_ok hF mp_tabX9_ok [mp_i (.aload_n 0), mp_h (.getfield 60) [43, 0], mp_h (.getfield 322) [32, 1]] (by decide +kernel) ?_
    refine And.intro rfl (And.intro rfl ?_)
    refine And.intro rfl (And.intro rfl ?_)
    show mp_W E X 4 34 [(0, .ref a0), (1, .int x0), (2, .int x1), (3, .int x2)] [.int r_29] w4_ 0 0
    exact mp_iret hF hQ rfl rfl (Nat.le_of_ble_eq_true rfl) (Nat.le_of_ble_eq_true rfl) [0, 3, 4, 5, 6, 7, 8, 9, 10, 11, 12, 13, 14, 1, 2] (w' := [(mp_ob9 a0 a15 a1 a16 a17 a18 a19 a20 a13 a21), (mp_ob0 a1 a2 y0 a22 a23 a24 a11 a12 a25), (mp_ob7 a2 y1 y2 y3 y4 y5 y6 a26 a27 a28 a3 a4 a5 a6 a7 a8 a9 a10 a29), (mp_arI E a3 0 6 f0), (mp_arI E a4 0 6 f1), (mp_arI E a5 0 10 f2), (mp_arI E a6 0 10 f3), (mp_arI E a7 0 10 f4), (mp_arI E a8 0 10 f5), (mp_arI E a9 0 10 f6), (mp_arI E a10 0 10 f7), (mp_arL E a11 20 f8), (mp_arI E a12 0 10 g_32), (mp_ob8 a13 a14 r_29 r_30), (mp_arI E a14 0 10 g_31)]) rfl rfl ⟨g_32, r_29, r_30, g_31, r_29, rfl, rfl⟩ (by first | exact mp_fd_ok mp_k_cX9_drawn_ok (by decide +kernel) | decide +kernel)
set_option maxHeartbeats 4000000 in
set_option maxRecDepth 100000 in
theorem bX9_often_169 (E : mp_E) (a0 a1 a2 a3 a4 a5 a6 a7 a8 a9 a10 a11 a12 a13 a14 a15 a16 a17 a18 a19 a20 a21 a22 a23 a24 a25 a26 a27 a28 a29 : Nat) (f0 : Nat → Int32) (f1 : Nat → Int32) (f2 : Nat → Int32) (f3 : Nat → Int32) (f4 : Nat → Int32) (f5 : Nat → Int32) (f6 : Nat → Int32) (f7 : Nat → Int32) (f8 : Nat → Int64) (f9 : Nat → Int32) (f10 : Nat → Int32) (y0 : Int32) (y1 : Int32) (y2 : Int32) (y3 : Int32) (y4 : Int32) (y5 : Int32) (y6 : Int32) (y7 : Int32) (y8 : Int32) (x0 : Int32) (x1 : Int32) (x2 : Int32) (p0 : mp_all f2 10 0 5) (p1 : mp_all f3 10 0 5) (p2 : mp_all f5 10 0 99) (p3 : mp_all f6 10 0 1) (p4 : mp_all f7 10 (-1) 9) (l_y0 : 0 ≤ y0.toInt) (u_y0 : y0.toInt ≤ 99) (l_y2 : 0 ≤ y2.toInt) (u_y2 : y2.toInt ≤ 6) (l_y3 : 0 ≤ y3.toInt) (u_y3 : y3.toInt ≤ 99) (l_y4 : 0 ≤ y4.toInt) (u_y4 : y4.toInt ≤ 6) (l_y5 : 0 ≤ y5.toInt) (u_y5 : y5.toInt ≤ 10) (l_y6 : 0 ≤ y6.toInt) (u_y6 : y6.toInt ≤ 60) : mp_Ct E yX9_often cX9_often 4 (some FieldType.int) 4 0 0 104 [.ref a0, .int x0, .int x1, .int x2] [(mp_ob9 a0 a15 a1 a16 a17 a18 a19 a20 a13 a21), (mp_ob0 a1 a2 y0 a22 a23 a24 a11 a12 a25), (mp_ob7 a2 y1 y2 y3 y4 y5 y6 a26 a27 a28 a3 a4 a5 a6 a7 a8 a9 a10 a29), (mp_arI E a3 0 6 f0), (mp_arI E a4 0 6 f1), (mp_arI E a5 0 10 f2), (mp_arI E a6 0 10 f3), (mp_arI E a7 0 10 f4), (mp_arI E a8 0 10 f5), (mp_arI E a9 0 10 f6), (mp_arI E a10 0 10 f7), (mp_arL E a11 20 f8), (mp_arI E a12 0 10 f9), (mp_ob8 a13 a14 y7 y8), (mp_arI E a14 0 10 f10)] (fun v w' => ∃ h1 : Nat → Int32, ∃ r2 : Int32, ∃ r3 : Int32, ∃ h4 : Nat → Int32, ∃ r5 : Int32, v = some (.int r5) ∧ w' = [(mp_ob9 a0 a15 a1 a16 a17 a18 a19 a20 a13 a21), (mp_ob0 a1 a2 y0 a22 a23 a24 a11 a12 a25), (mp_ob7 a2 y1 y2 y3 y4 y5 y6 a26 a27 a28 a3 a4 a5 a6 a7 a8 a9 a10 a29), (mp_arI E a3 0 6 f0), (mp_arI E a4 0 6 f1), (mp_arI E a5 0 10 f2), (mp_arI E a6 0 10 f3), (mp_arI E a7 0 10 f4), (mp_arI E a8 0 10 f5), (mp_arI E a9 0 10 f6), (mp_arI E a10 0 10 f7), (mp_arL E a11 20 f8), (mp_arI E a12 0 10 h1), (mp_ob8 a13 a14 r2 r3), (mp_arI E a14 0 10 h4)]) := by
  refine mp_met false (by decide) (by decide) (Nat.le_of_ble_eq_true rfl) (fun X hF hQ => ?_)
  have hF : mp_F E X (RX9, cX9_often, 4, (4, 0, 0, 104), (some FieldType.int), false) := hF
  let w1_ : va_W := [(mp_ob9 a0 a15 a1 a16 a17 a18 a19 a20 a13 a21), (mp_ob0 a1 a2 y0 a22 a23 a24 a11 a12 a25), (mp_ob7 a2 y1 y2 y3 y4 y5 y6 a26 a27 a28 a3 a4 a5 a6 a7 a8 a9 a10 a29), (mp_arI E a3 0 6 f0), (mp_arI E a4 0 6 f1), (mp_arI E a5 0 10 f2), (mp_arI E a6 0 10 f3), (mp_arI E a7 0 10 f4), (mp_arI E a8 0 10 f5), (mp_arI E a9 0 10 f6), (mp_arI E a10 0 10 f7), (mp_arL E a11 20 f8), (mp_arI E a12 0 10 f9), (mp_ob8 a13 a14 y7 y8), (mp_arI E a14 0 10 f10)]
  show mp_W E X 4 0 [(0, .ref a0), (1, .int x0), (2, .int x1), (3, .int x2)] [] w1_ 0 0
  refine mp_run mp_k_cX9_often_ok hF mp_tabX9_ok [mp_i (.aload_n 0), mp_i (.iload_n 1), mp_i (.iload_n 2), mp_i (.iload_n 3)] (by decide +kernel) ?_
  show mp_W E X 4 4 [(0, .ref a0), (1, .int x0), (2, .int x1), (3, .int x2)] [.int x2, .int x1, .int x0, .ref a0] w1_ 0 0
  refine mp_callV hF (As := [.int x0, .int x1, .int x2]) (rest := []) (wr := [(mp_arI E a3 0 6 f0), (mp_arI E a4 0 6 f1), (mp_arI E a5 0 10 f2), (mp_arI E a6 0 10 f3), (mp_arI E a7 0 10 f4), (mp_arI E a8 0 10 f5), (mp_arI E a9 0 10 f6), (mp_arI E a10 0 10 f7), (mp_arL E a11 20 f8), (mp_arI E a12 0 10 f9), (mp_ob8 a13 a14 y7 y8), (mp_arI E a14 0 10 f10)]) (bX9_canDraw_166 E a0 a1 a2 a15 a16 a17 a18 a19 a20 a13 a21 a22 a23 a24 a11 a12 a25 a26 a27 a28 a3 a4 a5 a6 a7 a8 a9 a10 a29 y0 y1 y2 y3 y4 y5 y6 x0 x1 x2 l_y0 u_y0 l_y2 u_y2 l_y3 u_y3 l_y4 u_y4 l_y5 u_y5 l_y6 u_y6) mp_lkX9_316 0 rfl [0, 1, 2] [3, 4, 5, 6, 7, 8, 9, 10, 11, 12, 13, 14] rfl rfl rfl rfl rfl ⟨(Nat.le_of_ble_eq_true rfl), (Nat.le_of_ble_eq_true rfl), (Nat.le_of_ble_eq_true rfl), (Nat.le_of_ble_eq_true rfl)⟩ (Nat.le_of_ble_eq_true rfl) (by first | exact mp_fd_ok mp_k_cX9_often_ok (by decide +kernel) | decide +kernel) (fun v_1 w_2 h_3 => ?_)
  refine h_3.elim (fun q_11 => ?_) (fun q_12 => ?_)
  · skip
    refine q_11.elim fun e_13 e_14 => ?_
    clear h_3 q_11
    subst e_13
    subst e_14
    let w2_ : va_W := [(mp_arI E a3 0 6 f0), (mp_arI E a4 0 6 f1), (mp_arI E a5 0 10 f2), (mp_arI E a6 0 10 f3), (mp_arI E a7 0 10 f4), (mp_arI E a8 0 10 f5), (mp_arI E a9 0 10 f6), (mp_arI E a10 0 10 f7), (mp_arL E a11 20 f8), (mp_arI E a12 0 10 f9), (mp_ob8 a13 a14 y7 y8), (mp_arI E a14 0 10 f10), (mp_ob9 a0 a15 a1 a16 a17 a18 a19 a20 a13 a21), (mp_ob0 a1 a2 y0 a22 a23 a24 a11 a12 a25), (mp_ob7 a2 y1 y2 y3 y4 y5 y6 a26 a27 a28 a3 a4 a5 a6 a7 a8 a9 a10 a29)]
    show mp_W E X 4 7 [(0, .ref a0), (1, .int x0), (2, .int x1), (3, .int x2)] [.int 0] w2_ 0 0
    refine mp_run mp_k_cX9_often_ok hF mp_tabX9_ok [mp_h (.ifCond .ne 6) [13]] (by decide +kernel) ?_
    refine And.intro (fun c_15 => absurd c_15 (by decide)) (fun _ => ?_)
    show mp_W E X 4 10 [(0, .ref a0), (1, .int x0), (2, .int x1), (3, .int x2)] [] w2_ 0 0
    refine mp_run mp_k_cX9_often_ok hF mp_tabX9_ok [mp_c (.bipush (-2)) (-2)] (by decide +kernel) ?_
    show mp_W E X 4 12 [(0, .ref a0), (1, .int x0), (2, .int x1), (3, .int x2)] [.int (-2)] w2_ 0 0
    exact mp_iret hF hQ rfl rfl (Nat.le_of_ble_eq_true rfl) (Nat.le_of_ble_eq_true rfl) [12, 13, 14, 0, 1, 2, 3, 4, 5, 6, 7, 8, 9, 10, 11] (w' := w1_) rfl rfl ⟨f9, y7, y8, f10, (-2), rfl, rfl⟩ (by first | exact mp_fd_ok mp_k_cX9_often_ok (by decide +kernel) | decide +kernel)
  · skip
    refine q_12.elim fun e_16 q_17 => q_17.elim fun c_4 q_18 => q_18.elim fun c_5 q_19 => q_19.elim fun c_6 q_20 => q_20.elim fun c_7 q_21 => q_21.elim fun c_8 q_22 => q_22.elim fun c_9 q_23 => q_23.elim fun c_10 e_24 => ?_
    clear h_3 q_12 q_17 q_18 q_19 q_20 q_21 q_22 q_23
    subst e_16
    subst e_24
    have c_4 : 0 ≤ x2.toInt := c_4
    have c_5 : x2.toInt < y5.toInt := c_5
    have c_6 : 0 ≤ x0.toInt := c_6
    have c_7 : x0.toInt ≤ 2000000000 := c_7
    have c_8 : 1 ≤ x1.toInt := c_8
    have c_9 : x1.toInt ≤ 40 := c_9
    have c_10 : y0.toInt + x1.toInt ≤ 99 := c_10
    let w3_ : va_W := [(mp_arI E a3 0 6 f0), (mp_arI E a4 0 6 f1), (mp_arI E a5 0 10 f2), (mp_arI E a6 0 10 f3), (mp_arI E a7 0 10 f4), (mp_arI E a8 0 10 f5), (mp_arI E a9 0 10 f6), (mp_arI E a10 0 10 f7), (mp_arL E a11 20 f8), (mp_arI E a12 0 10 f9), (mp_ob8 a13 a14 y7 y8), (mp_arI E a14 0 10 f10), (mp_ob9 a0 a15 a1 a16 a17 a18 a19 a20 a13 a21), (mp_ob0 a1 a2 y0 a22 a23 a24 a11 a12 a25), (mp_ob7 a2 y1 y2 y3 y4 y5 y6 a26 a27 a28 a3 a4 a5 a6 a7 a8 a9 a10 a29)]
    show mp_W E X 4 7 [(0, .ref a0), (1, .int x0), (2, .int x1), (3, .int x2)] [.int 1] w3_ 0 0
    refine mp_run mp_k_cX9_often_ok hF mp_tabX9_ok [mp_h (.ifCond .ne 6) [13]] (by decide +kernel) ?_
    refine And.intro (fun _ => ?_) (fun c_25 => absurd c_25 (by decide))
    show mp_W E X 4 13 [(0, .ref a0), (1, .int x0), (2, .int x1), (3, .int x2)] [] w3_ 0 0
    refine mp_run mp_k_cX9_often_ok hF mp_tabX9_ok [mp_i (.aload_n 0), mp_h (.getfield 60) [43, 12], mp_i (.aload_n 0), mp_h (.getfield 19) [37, 12], mp_i (.iload_n 1), mp_i (.iload_n 2), mp_i (.iload_n 3)] (by decide +kernel) ?_
    refine And.intro rfl (And.intro rfl ?_)
    refine And.intro rfl (And.intro rfl ?_)
    show mp_W E X 4 24 [(0, .ref a0), (1, .int x0), (2, .int x1), (3, .int x2)] [.int x2, .int x1, .int x0, .ref a1, .ref a13] w3_ 0 0
    refine mp_callV hF (As := [.ref a1, .int x0, .int x1, .int x2]) (rest := []) (wr := [(mp_ob9 a0 a15 a1 a16 a17 a18 a19 a20 a13 a21)]) (bX8_pass_167 E a13 a1 a14 a2 a3 a4 a5 a6 a7 a8 a9 a10 a11 a12 a22 a23 a24 a25 a26 a27 a28 a29 f10 f0 f1 f2 f3 f4 f5 f6 f7 f8 f9 y7 y8 y0 y1 y2 y3 y4 y5 y6 x0 x1 x2 p0 p1 p2 p3 p4 (by (first | exact c_8 | omega)) (by (first | exact c_9 | omega)) (by (first | exact c_4 | omega)) (by (first | exact mp_o419 u_y5 c_5 | omega)) l_y0 u_y0 l_y2 u_y2 l_y3 u_y3 l_y4 u_y4 l_y5 u_y5 l_y6 u_y6 (by first | (first | exact c_10 | omega) | (show y0.toInt + x1.toInt ≤ 99; omega))) mp_lkX9_319 10 rfl [10, 11, 13, 14, 0, 1, 2, 3, 4, 5, 6, 7, 8, 9] [12] rfl rfl rfl rfl rfl ⟨(Nat.le_of_ble_eq_true rfl), (Nat.le_of_ble_eq_true rfl), (Nat.le_of_ble_eq_true rfl), (Nat.le_of_ble_eq_true rfl)⟩ (Nat.le_of_ble_eq_true rfl) (by first | exact mp_fd_ok mp_k_cX9_often_ok (by decide +kernel) | decide +kernel) (fun v_26 w_27 h_28 => ?_)
    refine h_28.elim fun r_29 q_33 => q_33.elim fun r_30 q_34 => q_34.elim fun g_31 q_35 => q_35.elim fun g_32 q_36 => q_36.elim fun e_37 e_38 => ?_
    clear h_28 q_33 q_34 q_35 q_36
    subst e_37
    subst e_38
    let w4_ : va_W := [(mp_ob9 a0 a15 a1 a16 a17 a18 a19 a20 a13 a21), (mp_ob8 a13 a14 r_29 r_30), (mp_arI E a14 0 10 g_31), (mp_ob0 a1 a2 y0 a22 a23 a24 a11 a12 a25), (mp_ob7 a2 y1 y2 y3 y4 y5 y6 a26 a27 a28 a3 a4 a5 a6 a7 a8 a9 a10 a29), (mp_arI E a3 0 6 f0), (mp_arI E a4 0 6 f1), (mp_arI E a5 0 10 f2), (mp_arI E a6 0 10 f3), (mp_arI E a7 0 10 f4), (mp_arI E a8 0 10 f5), (mp_arI E a9 0 10 f6), (mp_arI E a10 0 10 f7), (mp_arL E a11 20 f8), (mp_arI E a12 0 10 g_32)]
    show mp_W E X 4 27 [(0, .ref a0), (1, .int x0), (2, .int x1), (3, .int x2)] [] w4_ 0 0
    refine mp_run mp_k_cX9_often_ok hF mp_tabX9_ok [mp_i (.aload_n 0), mp_h (.getfield 60) [43, 0], mp_h (.getfield 325) [33, 1]] (by decide +kernel) ?_
    refine And.intro rfl (And.intro rfl ?_)
    refine And.intro rfl (And.intro rfl ?_)
    show mp_W E X 4 34 [(0, .ref a0), (1, .int x0), (2, .int x1), (3, .int x2)] [.int r_30] w4_ 0 0
    exact mp_iret hF hQ rfl rfl (Nat.le_of_ble_eq_true rfl) (Nat.le_of_ble_eq_true rfl) [0, 3, 4, 5, 6, 7, 8, 9, 10, 11, 12, 13, 14, 1, 2] (w' := [(mp_ob9 a0 a15 a1 a16 a17 a18 a19 a20 a13 a21), (mp_ob0 a1 a2 y0 a22 a23 a24 a11 a12 a25), (mp_ob7 a2 y1 y2 y3 y4 y5 y6 a26 a27 a28 a3 a4 a5 a6 a7 a8 a9 a10 a29), (mp_arI E a3 0 6 f0), (mp_arI E a4 0 6 f1), (mp_arI E a5 0 10 f2), (mp_arI E a6 0 10 f3), (mp_arI E a7 0 10 f4), (mp_arI E a8 0 10 f5), (mp_arI E a9 0 10 f6), (mp_arI E a10 0 10 f7), (mp_arL E a11 20 f8), (mp_arI E a12 0 10 g_32), (mp_ob8 a13 a14 r_29 r_30), (mp_arI E a14 0 10 g_31)]) rfl rfl ⟨g_32, r_29, r_30, g_31, r_30, rfl, rfl⟩ (by first | exact mp_fd_ok mp_k_cX9_often_ok (by decide +kernel) | decide +kernel)
set_option maxHeartbeats 4000000 in
set_option maxRecDepth 100000 in
theorem bX9_lucky_170 (E : mp_E) (a0 a1 a2 a3 a4 a5 a6 a7 a8 a9 a10 a11 a12 a13 a14 a15 a16 a17 a18 a19 a20 a21 a22 a23 a24 a25 a26 a27 a28 a29 : Nat) (f0 : Nat → Int32) (f1 : Nat → Int32) (f2 : Nat → Int32) (f3 : Nat → Int32) (f4 : Nat → Int32) (f5 : Nat → Int32) (f6 : Nat → Int32) (f7 : Nat → Int32) (f8 : Nat → Int64) (f9 : Nat → Int32) (f10 : Nat → Int32) (y0 : Int32) (y1 : Int32) (y2 : Int32) (y3 : Int32) (y4 : Int32) (y5 : Int32) (y6 : Int32) (y7 : Int32) (y8 : Int32) (x0 : Int32) (x1 : Int32) (x2 : Int32) (x3 : Int32) (p0 : mp_all f2 10 0 5) (p1 : mp_all f3 10 0 5) (p2 : mp_all f5 10 0 99) (p3 : mp_all f6 10 0 1) (p4 : mp_all f7 10 (-1) 9) (l_y0 : 0 ≤ y0.toInt) (u_y0 : y0.toInt ≤ 99) (l_y2 : 0 ≤ y2.toInt) (u_y2 : y2.toInt ≤ 6) (l_y3 : 0 ≤ y3.toInt) (u_y3 : y3.toInt ≤ 99) (l_y4 : 0 ≤ y4.toInt) (u_y4 : y4.toInt ≤ 6) (l_y5 : 0 ≤ y5.toInt) (u_y5 : y5.toInt ≤ 10) (l_y6 : 0 ≤ y6.toInt) (u_y6 : y6.toInt ≤ 60) : mp_Ct E yX9_lucky cX9_lucky 7 (some FieldType.int) 4 0 0 104 [.ref a0, .int x0, .int x1, .int x2, .int x3] [(mp_ob9 a0 a15 a1 a16 a17 a18 a19 a20 a13 a21), (mp_ob0 a1 a2 y0 a22 a23 a24 a11 a12 a25), (mp_ob7 a2 y1 y2 y3 y4 y5 y6 a26 a27 a28 a3 a4 a5 a6 a7 a8 a9 a10 a29), (mp_arI E a3 0 6 f0), (mp_arI E a4 0 6 f1), (mp_arI E a5 0 10 f2), (mp_arI E a6 0 10 f3), (mp_arI E a7 0 10 f4), (mp_arI E a8 0 10 f5), (mp_arI E a9 0 10 f6), (mp_arI E a10 0 10 f7), (mp_arL E a11 20 f8), (mp_arI E a12 0 10 f9), (mp_ob8 a13 a14 y7 y8), (mp_arI E a14 0 10 f10)] (fun v w' => ∃ h1 : Nat → Int32, ∃ r2 : Int32, ∃ r3 : Int32, ∃ h4 : Nat → Int32, ∃ r5 : Int32, v = some (.int r5) ∧ w' = [(mp_ob9 a0 a15 a1 a16 a17 a18 a19 a20 a13 a21), (mp_ob0 a1 a2 y0 a22 a23 a24 a11 a12 a25), (mp_ob7 a2 y1 y2 y3 y4 y5 y6 a26 a27 a28 a3 a4 a5 a6 a7 a8 a9 a10 a29), (mp_arI E a3 0 6 f0), (mp_arI E a4 0 6 f1), (mp_arI E a5 0 10 f2), (mp_arI E a6 0 10 f3), (mp_arI E a7 0 10 f4), (mp_arI E a8 0 10 f5), (mp_arI E a9 0 10 f6), (mp_arI E a10 0 10 f7), (mp_arL E a11 20 f8), (mp_arI E a12 0 10 h1), (mp_ob8 a13 a14 r2 r3), (mp_arI E a14 0 10 h4)]) := by
  refine mp_met false (by decide) (by decide) (Nat.le_of_ble_eq_true rfl) (fun X hF hQ => ?_)
  have hF : mp_F E X (RX9, cX9_lucky, 7, (4, 0, 0, 104), (some FieldType.int), false) := hF
  let w1_ : va_W := [(mp_ob9 a0 a15 a1 a16 a17 a18 a19 a20 a13 a21), (mp_ob0 a1 a2 y0 a22 a23 a24 a11 a12 a25), (mp_ob7 a2 y1 y2 y3 y4 y5 y6 a26 a27 a28 a3 a4 a5 a6 a7 a8 a9 a10 a29), (mp_arI E a3 0 6 f0), (mp_arI E a4 0 6 f1), (mp_arI E a5 0 10 f2), (mp_arI E a6 0 10 f3), (mp_arI E a7 0 10 f4), (mp_arI E a8 0 10 f5), (mp_arI E a9 0 10 f6), (mp_arI E a10 0 10 f7), (mp_arL E a11 20 f8), (mp_arI E a12 0 10 f9), (mp_ob8 a13 a14 y7 y8), (mp_arI E a14 0 10 f10)]
  show mp_W E X 7 0 [(0, .ref a0), (1, .int x0), (2, .int x1), (3, .int x2), (4, .int x3)] [] w1_ 0 0
  refine mp_run mp_k_cX9_lucky_ok hF mp_tabX9_ok [mp_i (.aload_n 0), mp_i (.iload_n 1), mp_i (.iload_n 3), mp_i (.iload 4)] (by decide +kernel) ?_
  show mp_W E X 7 5 [(0, .ref a0), (1, .int x0), (2, .int x1), (3, .int x2), (4, .int x3)] [.int x3, .int x2, .int x0, .ref a0] w1_ 0 0
  refine mp_callV hF (As := [.int x0, .int x2, .int x3]) (rest := []) (wr := [(mp_arI E a3 0 6 f0), (mp_arI E a4 0 6 f1), (mp_arI E a5 0 10 f2), (mp_arI E a6 0 10 f3), (mp_arI E a7 0 10 f4), (mp_arI E a8 0 10 f5), (mp_arI E a9 0 10 f6), (mp_arI E a10 0 10 f7), (mp_arL E a11 20 f8), (mp_arI E a12 0 10 f9), (mp_ob8 a13 a14 y7 y8), (mp_arI E a14 0 10 f10)]) (bX9_canDraw_166 E a0 a1 a2 a15 a16 a17 a18 a19 a20 a13 a21 a22 a23 a24 a11 a12 a25 a26 a27 a28 a3 a4 a5 a6 a7 a8 a9 a10 a29 y0 y1 y2 y3 y4 y5 y6 x0 x2 x3 l_y0 u_y0 l_y2 u_y2 l_y3 u_y3 l_y4 u_y4 l_y5 u_y5 l_y6 u_y6) mp_lkX9_316 0 rfl [0, 1, 2] [3, 4, 5, 6, 7, 8, 9, 10, 11, 12, 13, 14] rfl rfl rfl rfl rfl ⟨(Nat.le_of_ble_eq_true rfl), (Nat.le_of_ble_eq_true rfl), (Nat.le_of_ble_eq_true rfl), (Nat.le_of_ble_eq_true rfl)⟩ (Nat.le_of_ble_eq_true rfl) (by first | exact mp_fd_ok mp_k_cX9_lucky_ok (by decide +kernel) | decide +kernel) (fun v_1 w_2 h_3 => ?_)
  refine h_3.elim (fun q_11 => ?_) (fun q_12 => ?_)
  · skip
    refine q_11.elim fun e_13 e_14 => ?_
    clear h_3 q_11
    subst e_13
    subst e_14
    let w2_ : va_W := [(mp_arI E a3 0 6 f0), (mp_arI E a4 0 6 f1), (mp_arI E a5 0 10 f2), (mp_arI E a6 0 10 f3), (mp_arI E a7 0 10 f4), (mp_arI E a8 0 10 f5), (mp_arI E a9 0 10 f6), (mp_arI E a10 0 10 f7), (mp_arL E a11 20 f8), (mp_arI E a12 0 10 f9), (mp_ob8 a13 a14 y7 y8), (mp_arI E a14 0 10 f10), (mp_ob9 a0 a15 a1 a16 a17 a18 a19 a20 a13 a21), (mp_ob0 a1 a2 y0 a22 a23 a24 a11 a12 a25), (mp_ob7 a2 y1 y2 y3 y4 y5 y6 a26 a27 a28 a3 a4 a5 a6 a7 a8 a9 a10 a29)]
    show mp_W E X 7 8 [(0, .ref a0), (1, .int x0), (2, .int x1), (3, .int x2), (4, .int x3)] [.int 0] w2_ 0 0
    refine mp_run mp_k_cX9_lucky_ok hF mp_tabX9_ok [mp_h (.ifCond .eq 14) [22]] (by decide +kernel) ?_
    refine And.intro (fun _ => ?_) (fun c_15 => absurd c_15 (by decide))
    show mp_W E X 7 22 [(0, .ref a0), (1, .int x0), (2, .int x1), (3, .int x2), (4, .int x3)] [] w2_ 0 0
    refine mp_run mp_k_cX9_lucky_ok hF mp_tabX9_ok [mp_c (.bipush (-2)) (-2)] (by decide +kernel) ?_
    show mp_W E X 7 24 [(0, .ref a0), (1, .int x0), (2, .int x1), (3, .int x2), (4, .int x3)] [.int (-2)] w2_ 0 0
    exact mp_iret hF hQ rfl rfl (Nat.le_of_ble_eq_true rfl) (Nat.le_of_ble_eq_true rfl) [12, 13, 14, 0, 1, 2, 3, 4, 5, 6, 7, 8, 9, 10, 11] (w' := w1_) rfl rfl ⟨f9, y7, y8, f10, (-2), rfl, rfl⟩ (by first | exact mp_fd_ok mp_k_cX9_lucky_ok (by decide +kernel) | decide +kernel)
  · skip
    refine q_12.elim fun e_16 q_17 => q_17.elim fun c_4 q_18 => q_18.elim fun c_5 q_19 => q_19.elim fun c_6 q_20 => q_20.elim fun c_7 q_21 => q_21.elim fun c_8 q_22 => q_22.elim fun c_9 q_23 => q_23.elim fun c_10 e_24 => ?_
    clear h_3 q_12 q_17 q_18 q_19 q_20 q_21 q_22 q_23
    subst e_16
    subst e_24
    have c_4 : 0 ≤ x3.toInt := c_4
    have c_5 : x3.toInt < y5.toInt := c_5
    have c_6 : 0 ≤ x0.toInt := c_6
    have c_7 : x0.toInt ≤ 2000000000 := c_7
    have c_8 : 1 ≤ x2.toInt := c_8
    have c_9 : x2.toInt ≤ 40 := c_9
    have c_10 : y0.toInt + x2.toInt ≤ 99 := c_10
    let w3_ : va_W := [(mp_arI E a3 0 6 f0), (mp_arI E a4 0 6 f1), (mp_arI E a5 0 10 f2), (mp_arI E a6 0 10 f3), (mp_arI E a7 0 10 f4), (mp_arI E a8 0 10 f5), (mp_arI E a9 0 10 f6), (mp_arI E a10 0 10 f7), (mp_arL E a11 20 f8), (mp_arI E a12 0 10 f9), (mp_ob8 a13 a14 y7 y8), (mp_arI E a14 0 10 f10), (mp_ob9 a0 a15 a1 a16 a17 a18 a19 a20 a13 a21), (mp_ob0 a1 a2 y0 a22 a23 a24 a11 a12 a25), (mp_ob7 a2 y1 y2 y3 y4 y5 y6 a26 a27 a28 a3 a4 a5 a6 a7 a8 a9 a10 a29)]
    show mp_W E X 7 8 [(0, .ref a0), (1, .int x0), (2, .int x1), (3, .int x2), (4, .int x3)] [.int 1] w3_ 0 0
    refine mp_run mp_k_cX9_lucky_ok hF mp_tabX9_ok [mp_h (.ifCond .eq 14) [22]] (by decide +kernel) ?_
    refine And.intro (fun c_25 => absurd c_25 (by decide)) (fun _ => ?_)
    show mp_W E X 7 11 [(0, .ref a0), (1, .int x0), (2, .int x1), (3, .int x2), (4, .int x3)] [] w3_ 0 0
    refine mp_run mp_k_cX9_lucky_ok hF mp_tabX9_ok [mp_i (.iload_n 2), mp_c (.iconst 1) 1, mp_h (.if_icmp .lt 9) [22]] (by decide +kernel) ?_
    refine And.intro (fun c_26 => ?_) (fun c_26 => ?_)
    · have c_26 : x1.toInt < 1 := c_26
      show mp_W E X 7 22 [(0, .ref a0), (1, .int x0), (2, .int x1), (3, .int x2), (4, .int x3)] [] w3_ 0 0
      refine mp_run mp_k_cX9_lucky_ok hF mp_tabX9_ok [mp_c (.bipush (-2)) (-2)] (by decide +kernel) ?_
      show mp_W E X 7 24 [(0, .ref a0), (1, .int x0), (2, .int x1), (3, .int x2), (4, .int x3)] [.int (-2)] w3_ 0 0
      exact mp_iret hF hQ rfl rfl (Nat.le_of_ble_eq_true rfl) (Nat.le_of_ble_eq_true rfl) [12, 13, 14, 0, 1, 2, 3, 4, 5, 6, 7, 8, 9, 10, 11] (w' := w1_) rfl rfl ⟨f9, y7, y8, f10, (-2), rfl, rfl⟩ (by first | exact mp_fd_ok mp_k_cX9_lucky_ok (by decide +kernel) | decide +kernel)
    · have c_26 : 1 ≤ x1.toInt := c_26
      show mp_W E X 7 16 [(0, .ref a0), (1, .int x0), (2, .int x1), (3, .int x2), (4, .int x3)] [] w3_ 0 0
      refine mp_run mp_k_cX9_lucky_ok hF mp_tabX9_ok [mp_i (.iload_n 2), mp_c (.bipush 20) 20, mp_h (.if_icmp .le 6) [25]] (by decide +kernel) ?_
      refine And.intro (fun c_27 => ?_) (fun c_27 => ?_)
      · have c_27 : x1.toInt ≤ 20 := c_27
        show mp_W E X 7 25 [(0, .ref a0), (1, .int x0), (2, .int x1), (3, .int x2), (4, .int x3)] [] w3_ 0 0
        refine mp_run mp_k_cX9_lucky_ok hF mp_tabX9_ok [mp_c (.iconst 0) 0, mp_i (.istore 5), mp_c (.iconst 0) 0, mp_i (.istore 6)] (by decide +kernel) ?_
        show mp_W E X 7 31 [(6, .int 0), (5, .int 0), (0, .ref a0), (1, .int x0), (2, .int x1), (3, .int x2), (4, .int x3)] [] w3_ 0 0
        have lp_36 : ∀ (d_37 : Nat) (i_28 : Int32) (g_29 : Nat → Int32) (i_30 : Int32) (i_31 : Int32) (g_32 : Nat → Int32) (i_33 : Int32), 0 ≤ i_28.toInt → i_28.toInt ≤ 20 → x1.toInt - i_28.toInt ≤ (d_37 : Int) → mp_W E X 7 31 [(6, .int i_28), (5, .int i_33), (0, .ref a0), (1, .int x0), (2, .int x1), (3, .int x2), (4, .int x3)] [] [(mp_arI E a3 0 6 f0), (mp_arI E a4 0 6 f1), (mp_arI E a5 0 10 f2), (mp_arI E a6 0 10 f3), (mp_arI E a7 0 10 f4), (mp_arI E a8 0 10 f5), (mp_arI E a9 0 10 f6), (mp_arI E a10 0 10 f7), (mp_arL E a11 20 f8), (mp_arI E a12 0 10 g_29), (mp_ob8 a13 a14 i_30 i_31), (mp_arI E a14 0 10 g_32), (mp_ob9 a0 a15 a1 a16 a17 a18 a19 a20 a13 a21), (mp_ob0 a1 a2 y0 a22 a23 a24 a11 a12 a25), (mp_ob7 a2 y1 y2 y3 y4 y5 y6 a26 a27 a28 a3 a4 a5 a6 a7 a8 a9 a10 a29)] 0 0 := by
          intro d_37
          induction d_37 using Nat.strongRecOn with
          | ind d_37 ih_38 =>
            intro i_28 g_29 i_30 i_31 g_32 i_33 l_34 u_35 hm_39
            refine mp_run mp_k_cX9_lucky_ok hF mp_tabX9_ok [mp_i (.iload 6), mp_i (.iload_n 2), mp_h (.if_icmp .ge 55) [89]] (by decide +kernel) ?_
            refine And.intro (fun c_40 => ?_) (fun c_40 => ?_)
            · have c_40 : x1.toInt ≤ i_28.toInt := c_40
              let w4_ : va_W := [(mp_arI E a3 0 6 f0), (mp_arI E a4 0 6 f1), (mp_arI E a5 0 10 f2), (mp_arI E a6 0 10 f3), (mp_arI E a7 0 10 f4), (mp_arI E a8 0 10 f5), (mp_arI E a9 0 10 f6), (mp_arI E a10 0 10 f7), (mp_arL E a11 20 f8), (mp_arI E a12 0 10 g_29), (mp_ob8 a13 a14 i_30 i_31), (mp_arI E a14 0 10 g_32), (mp_ob9 a0 a15 a1 a16 a17 a18 a19 a20 a13 a21), (mp_ob0 a1 a2 y0 a22 a23 a24 a11 a12 a25), (mp_ob7 a2 y1 y2 y3 y4 y5 y6 a26 a27 a28 a3 a4 a5 a6 a7 a8 a9 a10 a29)]
              show mp_W E X 7 89 [(6, .int i_28), (5, .int i_33), (0, .ref a0), (1, .int x0), (2, .int x1), (3, .int x2), (4, .int x3)] [] w4_ 0 0
              refine mp_run mp_k_cX9_lucky_ok hF mp_tabX9_ok [mp_i (.iload 5)] (by decide +kernel) ?_
              show mp_W E X 7 91 [(6, .int i_28), (5, .int i_33), (0, .ref a0), (1, .int x0), (2, .int x1), (3, .int x2), (4, .int x3)] [.int i_33] w4_ 0 0
              exact mp_iret hF hQ rfl rfl (Nat.le_of_ble_eq_true rfl) (Nat.le_of_ble_eq_true rfl) [12, 13, 14, 0, 1, 2, 3, 4, 5, 6, 7, 8, 9, 10, 11] (w' := [(mp_ob9 a0 a15 a1 a16 a17 a18 a19 a20 a13 a21), (mp_ob0 a1 a2 y0 a22 a23 a24 a11 a12 a25), (mp_ob7 a2 y1 y2 y3 y4 y5 y6 a26 a27 a28 a3 a4 a5 a6 a7 a8 a9 a10 a29), (mp_arI E a3 0 6 f0), (mp_arI E a4 0 6 f1), (mp_arI E a5 0 10 f2), (mp_arI E a6 0 10 f3), (mp_arI E a7 0 10 f4), (mp_arI E a8 0 10 f5), (mp_arI E a9 0 10 f6), (mp_arI E a10 0 10 f7), (mp_arL E a11 20 f8), (mp_arI E a12 0 10 g_29), (mp_ob8 a13 a14 i_30 i_31), (mp_arI E a14 0 10 g_32)]) rfl rfl ⟨g_29, i_30, i_31, g_32, i_33, rfl, rfl⟩ (by first | exact mp_fd_ok mp_k_cX9_lucky_ok (by decide +kernel) | decide +kernel)
            · have c_40 : i_28.toInt < x1.toInt := c_40
              let w5_ : va_W := [(mp_arI E a3 0 6 f0), (mp_arI E a4 0 6 f1), (mp_arI E a5 0 10 f2), (mp_arI E a6 0 10 f3), (mp_arI E a7 0 10 f4), (mp_arI E a8 0 10 f5), (mp_arI E a9 0 10 f6), (mp_arI E a10 0 10 f7), (mp_arL E a11 20 f8), (mp_arI E a12 0 10 g_29), (mp_ob8 a13 a14 i_30 i_31), (mp_arI E a14 0 10 g_32), (mp_ob9 a0 a15 a1 a16 a17 a18 a19 a20 a13 a21), (mp_ob0 a1 a2 y0 a22 a23 a24 a11 a12 a25), (mp_ob7 a2 y1 y2 y3 y4 y5 y6 a26 a27 a28 a3 a4 a5 a6 a7 a8 a9 a10 a29)]
              show mp_W E X 7 37 [(6, .int i_28), (5, .int i_33), (0, .ref a0), (1, .int x0), (2, .int x1), (3, .int x2), (4, .int x3)] [] w5_ 0 0
              refine mp_run mp_k_cX9_lucky_ok hF mp_tabX9_ok [mp_i (.aload_n 0), mp_h (.getfield 60) [43, 12], mp_i (.aload_n 0), mp_h (.getfield 19) [37, 12], mp_i (.iload_n 1), mp_i (.iload 6), mp_i .iadd, mp_i (.iload_n 3), mp_i (.iload 4)] (by decide +kernel) ?_
              refine And.intro rfl (And.intro rfl ?_)
              refine And.intro rfl (And.intro rfl ?_)
              intro z_41 h_42
              have e_43 : z_41.toInt = x0.toInt + i_28.toInt := mp_add (a := x0.toInt) (b := i_28.toInt) h_42 rfl rfl (by (first | exact mp_o116 c_6 l_34 | omega)) (by (first | exact mp_o832 c_7 u_35 | omega))
              show mp_W E X 7 52 [(6, .int i_28), (5, .int i_33), (0, .ref a0), (1, .int x0), (2, .int x1), (3, .int x2), (4, .int x3)] [.int x3, .int x2, .int z_41, .ref a1, .ref a13] w5_ 0 0
              refine mp_callV hF (As := [.ref a1, .int z_41, .int x2, .int x3]) (rest := []) (wr := [(mp_ob9 a0 a15 a1 a16 a17 a18 a19 a20 a13 a21)]) (bX8_pass_167 E a13 a1 a14 a2 a3 a4 a5 a6 a7 a8 a9 a10 a11 a12 a22 a23 a24 a25 a26 a27 a28 a29 g_32 f0 f1 f2 f3 f4 f5 f6 f7 f8 g_29 i_30 i_31 y0 y1 y2 y3 y4 y5 y6 z_41 x2 x3 p0 p1 p2 p3 p4 (by (first | exact c_8 | omega)) (by (first | exact c_9 | omega)) (by (first | exact c_4 | omega)) (by (first | exact mp_o419 u_y5 c_5 | omega)) l_y0 u_y0 l_y2 u_y2 l_y3 u_y3 l_y4 u_y4 l_y5 u_y5 l_y6 u_y6 (by first | (first | exact c_10 | omega) | (show y0.toInt + x2.toInt ≤ 99; omega))) mp_lkX9_319 10 rfl [10, 11, 13, 14, 0, 1, 2, 3, 4, 5, 6, 7, 8, 9] [12] rfl rfl rfl rfl rfl ⟨(Nat.le_of_ble_eq_true rfl), (Nat.le_of_ble_eq_true rfl), (Nat.le_of_ble_eq_true rfl), (Nat.le_of_ble_eq_true rfl)⟩ (Nat.le_of_ble_eq_true rfl) (by first | exact mp_fd_ok mp_k_cX9_lucky_ok (by decide +kernel) | decide +kernel) (fun v_44 w_45 h_46 => ?_)
              refine h_46.elim fun r_47 q_51 => q_51.elim fun r_48 q_52 => q_52.elim fun g_49 q_53 => q_53.elim fun g_50 q_54 => q_54.elim fun e_55 e_56 => ?_
              clear h_46 q_51 q_52 q_53 q_54
              subst e_55
              subst e_56
              let w6_ : va_W := [(mp_ob9 a0 a15 a1 a16 a17 a18 a19 a20 a13 a21), (mp_ob8 a13 a14 r_47 r_48), (mp_arI E a14 0 10 g_49), (mp_ob0 a1 a2 y0 a22 a23 a24 a11 a12 a25), (mp_ob7 a2 y1 y2 y3 y4 y5 y6 a26 a27 a28 a3 a4 a5 a6 a7 a8 a9 a10 a29), (mp_arI E a3 0 6 f0), (mp_arI E a4 0 6 f1), (mp_arI E a5 0 10 f2), (mp_arI E a6 0 10 f3), (mp_arI E a7 0 10 f4), (mp_arI E a8 0 10 f5), (mp_arI E a9 0 10 f6), (mp_arI E a10 0 10 f7), (mp_arL E a11 20 f8), (mp_arI E a12 0 10 g_50)]
              show mp_W E X 7 55 [(6, .int i_28), (5, .int i_33), (0, .ref a0), (1, .int x0), (2, .int x1), (3, .int x2), (4, .int x3)] [] w6_ 0 0
              refine mp_run mp_k_cX9_lucky_ok hF mp_tabX9_ok [mp_c (.iconst 2) 2, mp_i (.aload_n 0), mp_h (.getfield 60) [43, 0], mp_h (.getfield 322) [32, 1], mp_i .imul, mp_i (.aload_n 0), mp_h (.getfield 19) [37, 0], mp_h (.getfield 83) [20, 3], mp_h (.getfield 129) [11, 4], mp_i (.iload 4), mp_h .iaload [9], mp_h (.if_icmp .lt 6) [83]] (by decide +kernel) ?_
              refine And.intro rfl (And.intro rfl ?_)
              refine And.intro rfl (And.intro rfl ?_)
              intro z_57 h_58
              refine And.intro rfl (And.intro rfl ?_)
              refine And.intro rfl (And.intro rfl ?_)
              refine And.intro rfl (And.intro rfl ?_)
              refine And.intro rfl (And.intro rfl (And.intro (vp_in_iff.mpr (by (first | exact mp_o381 c_4 u_y5 c_5 | omega))) ?_))
              intro z_60 h_61
              refine And.intro (fun c_62 => ?_) (fun c_62 => ?_)
              · have c_62 : z_57.toInt < z_60.toInt := c_62
                show mp_W E X 7 83 [(6, .int i_28), (5, .int i_33), (0, .ref a0), (1, .int x0), (2, .int x1), (3, .int x2), (4, .int x3)] [] w6_ 0 0
                refine mp_run mp_k_cX9_lucky_ok hF mp_tabX9_ok [mp_c (.iinc 6 1) 1, mp_h (.goto (-55)) [31]] (by decide +kernel) ?_
                intro z_63 h_64
                have e_65 : z_63.toInt = i_28.toInt + 1 := mp_add (a := i_28.toInt) (b := 1) h_64 rfl (by decide) (by (first | exact mp_o2 l_34 | omega)) (by (first | exact mp_o612 u_35 | omega))
                show mp_W E X 7 31 [(6, .int z_63), (5, .int i_33), (0, .ref a0), (1, .int x0), (2, .int x1), (3, .int x2), (4, .int x3)] [] w6_ 0 0
                exact mp_sub [0, 1, 2, 3, 4, 5, 6] rfl [5, 6, 7, 8, 9, 10, 11, 12, 13, 14, 1, 2, 0, 3, 4] rfl rfl (ih_38 (d_37 - 1) (by (first | exact mp_o72 hm_39 c_40 | omega)) z_63 g_50 r_47 r_48 g_49 i_33 (by (first | exact mp_o51 l_34 e_65 | omega)) (by (first | exact mp_o833 c_27 c_40 e_65 | omega)) (by (first | exact mp_o77 hm_39 e_65 | omega)))
              · have c_62 : z_60.toInt ≤ z_57.toInt := c_62
                show mp_W E X 7 80 [(6, .int i_28), (5, .int i_33), (0, .ref a0), (1, .int x0), (2, .int x1), (3, .int x2), (4, .int x3)] [] w6_ 0 0
                refine mp_run mp_k_cX9_lucky_ok hF mp_tabX9_ok [mp_c (.iinc 5 1) 1, mp_c (.iinc 6 1) 1, mp_h (.goto (-55)) [31]] (by decide +kernel) ?_
                intro z_66 h_67
                have e_68 := mp_bnd i_33
                intro z_70 h_71
                have e_72 : z_70.toInt = i_28.toInt + 1 := mp_add (a := i_28.toInt) (b := 1) h_71 rfl (by decide) (by (first | exact mp_o2 l_34 | omega)) (by (first | exact mp_o612 u_35 | omega))
                show mp_W E X 7 31 [(6, .int z_70), (5, .int z_66), (0, .ref a0), (1, .int x0), (2, .int x1), (3, .int x2), (4, .int x3)] [] w6_ 0 0
                exact mp_sub [0, 1, 2, 3, 4, 5, 6] rfl [5, 6, 7, 8, 9, 10, 11, 12, 13, 14, 1, 2, 0, 3, 4] rfl rfl (ih_38 (d_37 - 1) (by (first | exact mp_o72 hm_39 c_40 | omega)) z_70 g_50 r_47 r_48 g_49 z_66 (by (first | exact mp_o51 l_34 e_72 | omega)) (by (first | exact mp_o833 c_27 c_40 e_72 | omega)) (by (first | exact mp_o77 hm_39 e_72 | omega)))
        exact mp_sub [0, 1, 2, 3, 4, 5, 6] rfl [0, 1, 2, 3, 4, 5, 6, 7, 8, 9, 10, 11, 12, 13, 14] rfl rfl (lp_36 _ 0 f9 y7 y8 f10 0 (by decide) (by decide) (Int.self_le_toNat _))
      · have c_27 : 20 < x1.toInt := c_27
        show mp_W E X 7 22 [(0, .ref a0), (1, .int x0), (2, .int x1), (3, .int x2), (4, .int x3)] [] w3_ 0 0
        refine mp_run mp_k_cX9_lucky_ok hF mp_tabX9_ok [mp_c (.bipush (-2)) (-2)] (by decide +kernel) ?_
        show mp_W E X 7 24 [(0, .ref a0), (1, .int x0), (2, .int x1), (3, .int x2), (4, .int x3)] [.int (-2)] w3_ 0 0
        exact mp_iret hF hQ rfl rfl (Nat.le_of_ble_eq_true rfl) (Nat.le_of_ble_eq_true rfl) [12, 13, 14, 0, 1, 2, 3, 4, 5, 6, 7, 8, 9, 10, 11] (w' := w1_) rfl rfl ⟨f9, y7, y8, f10, (-2), rfl, rfl⟩ (by first | exact mp_fd_ok mp_k_cX9_lucky_ok (by decide +kernel) | decide +kernel)
set_option maxHeartbeats 4000000 in
set_option maxRecDepth 100000 in
theorem bX9_promises_171 (E : mp_E) (a0 a1 a2 a3 a4 a5 a6 a7 a8 a9 a10 a11 a12 a13 a14 a15 a16 a17 a18 a19 a20 a21 a22 a23 a24 a25 a26 a27 a28 : Nat) (f0 : Nat → Int32) (f1 : Nat → Int32) (f2 : Nat → Int32) (f3 : Nat → Int32) (f4 : Nat → Int32) (f5 : Nat → Int32) (y0 : Int32) (y1 : Int32) (y2 : Int32) (y3 : Int32) (y4 : Int32) (y5 : Int32) (y6 : Int32) (x0 : Int32) (x1 : Int32) (x2 : Int32) (p0 : mp_all f0 10 0 5) (p1 : mp_all f1 10 0 5) (p2 : mp_all f3 10 0 99) (p3 : mp_all f4 10 0 1) (p4 : mp_all f5 10 (-1) 9) (l_y0 : 0 ≤ y0.toInt) (u_y0 : y0.toInt ≤ 99) (l_y2 : 0 ≤ y2.toInt) (u_y2 : y2.toInt ≤ 6) (l_y3 : 0 ≤ y3.toInt) (u_y3 : y3.toInt ≤ 99) (l_y4 : 0 ≤ y4.toInt) (u_y4 : y4.toInt ≤ 6) (l_y5 : 0 ≤ y5.toInt) (u_y5 : y5.toInt ≤ 10) (l_y6 : 0 ≤ y6.toInt) (u_y6 : y6.toInt ≤ 60) : mp_Ct E yX9_promises cX9_promises 5 (some FieldType.int) 2 0 0 43 [.ref a0, .int x0, .int x1, .int x2] [(mp_ob9 a0 a9 a1 a10 a11 a12 a13 a14 a15 a16), (mp_ob0 a1 a2 y0 a17 a18 a19 a20 a21 a22), (mp_ob7 a2 y1 y2 y3 y4 y5 y6 a23 a24 a25 a26 a27 a3 a4 a5 a6 a7 a8 a28), (mp_arI E a3 0 10 f0), (mp_arI E a4 0 10 f1), (mp_arI E a5 0 10 f2), (mp_arI E a6 0 10 f3), (mp_arI E a7 0 10 f4), (mp_arI E a8 0 10 f5)] (fun v w' => (v = some (.int (-2)) ∧ (x0.toInt < 0 ∨ y4.toInt ≤ x0.toInt ∨ x1.toInt < 0 ∨ y4.toInt ≤ x1.toInt ∨ x0.toInt = x1.toInt ∨ x2.toInt < 1 ∨ 1000000 < x2.toInt) ∧ w' = [(mp_ob9 a0 a9 a1 a10 a11 a12 a13 a14 a15 a16), (mp_ob0 a1 a2 y0 a17 a18 a19 a20 a21 a22), (mp_ob7 a2 y1 y2 y3 y4 y5 y6 a23 a24 a25 a26 a27 a3 a4 a5 a6 a7 a8 a28), (mp_arI E a3 0 10 f0), (mp_arI E a4 0 10 f1), (mp_arI E a5 0 10 f2), (mp_arI E a6 0 10 f3), (mp_arI E a7 0 10 f4), (mp_arI E a8 0 10 f5)]) ∨ (∃ r1 : Int32, ∃ h2 : Nat → Int32, ∃ h3 : Nat → Int32, ∃ h4 : Nat → Int32, ∃ h5 : Nat → Int32, ∃ h6 : Nat → Int32, ∃ h7 : Nat → Int32, ∃ r8 : Int32, v = some (.int r8) ∧ 0 ≤ x0.toInt ∧ x0.toInt < y4.toInt ∧ 0 ≤ x1.toInt ∧ x1.toInt < y4.toInt ∧ x0.toInt ≠ x1.toInt ∧ 1 ≤ x2.toInt ∧ x2.toInt ≤ 1000000 ∧ y6.toInt ≤ 0 ∧ y5.toInt < 10 ∧ 1 ≤ r1.toInt ∧ r1.toInt ≤ 10 ∧ 0 ≤ r8.toInt ∧ r8.toInt ≤ 9 ∧ mp_all h2 10 0 5 ∧ mp_all h3 10 0 5 ∧ mp_all h5 10 0 99 ∧ mp_all h6 10 0 1 ∧ mp_all h7 10 (-1) 9 ∧ (0 ≤ x0.toInt ∧ x0.toInt < y4.toInt ∧ 0 ≤ x1.toInt ∧ x1.toInt < y4.toInt ∧ x0.toInt ≠ x1.toInt ∧ 1 ≤ x2.toInt ∧ x2.toInt ≤ 1000000) ∧ (y6.toInt ≤ 0) ∧ (y5.toInt < 10) ∧ (r8.toInt = y5.toInt) ∧ (r1.toInt = y5.toInt + 1) ∧ (h2 = upd f0 y5.toInt.toNat x0) ∧ (h3 = upd f1 y5.toInt.toNat x1) ∧ (h4 = upd f2 y5.toInt.toNat x2) ∧ (h5 = upd f3 y5.toInt.toNat y0) ∧ (h6 = upd f4 y5.toInt.toNat 0) ∧ (h7 = upd f5 y5.toInt.toNat (-1)) ∧ w' = [(mp_ob9 a0 a9 a1 a10 a11 a12 a13 a14 a15 a16), (mp_ob0 a1 a2 y0 a17 a18 a19 a20 a21 a22), (mp_ob7 a2 y1 y2 y3 y4 r1 y6 a23 a24 a25 a26 a27 a3 a4 a5 a6 a7 a8 a28), (mp_arI E a3 0 10 h2), (mp_arI E a4 0 10 h3), (mp_arI E a5 0 10 h4), (mp_arI E a6 0 10 h5), (mp_arI E a7 0 10 h6), (mp_arI E a8 0 10 h7)]) ∨ (v = some (.int (-3)) ∧ 0 ≤ x0.toInt ∧ x0.toInt < y4.toInt ∧ 0 ≤ x1.toInt ∧ x1.toInt < y4.toInt ∧ x0.toInt ≠ x1.toInt ∧ 1 ≤ x2.toInt ∧ x2.toInt ≤ 1000000 ∧ y6.toInt ≤ 0 ∧ 10 ≤ y5.toInt ∧ (0 ≤ x0.toInt ∧ x0.toInt < y4.toInt ∧ 0 ≤ x1.toInt ∧ x1.toInt < y4.toInt ∧ x0.toInt ≠ x1.toInt ∧ 1 ≤ x2.toInt ∧ x2.toInt ≤ 1000000) ∧ (y6.toInt ≤ 0) ∧ (10 ≤ y5.toInt) ∧ w' = [(mp_ob9 a0 a9 a1 a10 a11 a12 a13 a14 a15 a16), (mp_ob0 a1 a2 y0 a17 a18 a19 a20 a21 a22), (mp_ob7 a2 y1 y2 y3 y4 y5 y6 a23 a24 a25 a26 a27 a3 a4 a5 a6 a7 a8 a28), (mp_arI E a3 0 10 f0), (mp_arI E a4 0 10 f1), (mp_arI E a5 0 10 f2), (mp_arI E a6 0 10 f3), (mp_arI E a7 0 10 f4), (mp_arI E a8 0 10 f5)]) ∨ (v = some (.int (-5)) ∧ 0 ≤ x0.toInt ∧ x0.toInt < y4.toInt ∧ 0 ≤ x1.toInt ∧ x1.toInt < y4.toInt ∧ x0.toInt ≠ x1.toInt ∧ 1 ≤ x2.toInt ∧ x2.toInt ≤ 1000000 ∧ 0 < y6.toInt ∧ (0 ≤ x0.toInt ∧ x0.toInt < y4.toInt ∧ 0 ≤ x1.toInt ∧ x1.toInt < y4.toInt ∧ x0.toInt ≠ x1.toInt ∧ 1 ≤ x2.toInt ∧ x2.toInt ≤ 1000000) ∧ (0 < y6.toInt) ∧ w' = [(mp_ob9 a0 a9 a1 a10 a11 a12 a13 a14 a15 a16), (mp_ob0 a1 a2 y0 a17 a18 a19 a20 a21 a22), (mp_ob7 a2 y1 y2 y3 y4 y5 y6 a23 a24 a25 a26 a27 a3 a4 a5 a6 a7 a8 a28), (mp_arI E a3 0 10 f0), (mp_arI E a4 0 10 f1), (mp_arI E a5 0 10 f2), (mp_arI E a6 0 10 f3), (mp_arI E a7 0 10 f4), (mp_arI E a8 0 10 f5)])) := by
  refine mp_met false (by decide) (by decide) (Nat.le_of_ble_eq_true rfl) (fun X hF hQ => ?_)
  have hF : mp_F E X (RX9, cX9_promises, 5, (2, 0, 0, 43), (some FieldType.int), false) := hF
  let w1_ : va_W := [(mp_ob9 a0 a9 a1 a10 a11 a12 a13 a14 a15 a16), (mp_ob0 a1 a2 y0 a17 a18 a19 a20 a21 a22), (mp_ob7 a2 y1 y2 y3 y4 y5 y6 a23 a24 a25 a26 a27 a3 a4 a5 a6 a7 a8 a28), (mp_arI E a3 0 10 f0), (mp_arI E a4 0 10 f1), (mp_arI E a5 0 10 f2), (mp_arI E a6 0 10 f3), (mp_arI E a7 0 10 f4), (mp_arI E a8 0 10 f5)]
  show mp_W E X 5 0 [(0, .ref a0), (1, .int x0), (2, .int x1), (3, .int x2)] [] w1_ 0 0
  refine mp_run mp_k_cX9_promises_ok hF mp_tabX9_ok [mp_i (.aload_n 0), mp_h (.getfield 19) [37, 0], mp_h (.getfield 83) [20, 1], mp_i (.astore 4), mp_i (.aload_n 0), mp_i (.iload_n 1), mp_i (.iload_n 2)] (by decide +kernel) ?_
  refine And.intro rfl (And.intro rfl ?_)
  refine And.intro rfl (And.intro rfl ?_)
  show mp_W E X 5 12 [(4, .ref a2), (0, .ref a0), (1, .int x0), (2, .int x1), (3, .int x2)] [.int x1, .int x0, .ref a0] w1_ 0 0
  refine mp_callV hF (As := [.int x0, .int x1]) (rest := []) (wr := [(mp_arI E a3 0 10 f0), (mp_arI E a4 0 10 f1), (mp_arI E a5 0 10 f2), (mp_arI E a6 0 10 f3), (mp_arI E a7 0 10 f4), (mp_arI E a8 0 10 f5)]) (bX9_arePair_69 E a0 a1 a2 a9 a10 a11 a12 a13 a14 a15 a16 a17 a18 a19 a20 a21 a22 a23 a24 a25 a26 a27 a3 a4 a5 a6 a7 a8 a28 y0 y1 y2 y3 y4 y5 y6 x0 x1 l_y0 u_y0 l_y2 u_y2 l_y3 u_y3 l_y4 u_y4 l_y5 u_y5 l_y6 u_y6) mp_lkX9_169 0 rfl [0, 1, 2] [3, 4, 5, 6, 7, 8] rfl rfl rfl rfl rfl ⟨(Nat.le_of_ble_eq_true rfl), (Nat.le_of_ble_eq_true rfl), (Nat.le_of_ble_eq_true rfl), (Nat.le_of_ble_eq_true rfl)⟩ (Nat.le_of_ble_eq_true rfl) (by first | exact mp_fd_ok mp_k_cX9_promises_ok (by decide +kernel) | decide +kernel) (fun v_1 w_2 h_3 => ?_)
  refine h_3.elim (fun q_11 => ?_) (fun q_12 => ?_)
  · skip
    refine q_11.elim fun e_13 q_14 => q_14.elim fun x_4 e_15 => ?_
    clear h_3 q_11 q_14
    subst e_13
    subst e_15
    let w2_ : va_W := [(mp_arI E a3 0 10 f0), (mp_arI E a4 0 10 f1), (mp_arI E a5 0 10 f2), (mp_arI E a6 0 10 f3), (mp_arI E a7 0 10 f4), (mp_arI E a8 0 10 f5), (mp_ob9 a0 a9 a1 a10 a11 a12 a13 a14 a15 a16), (mp_ob0 a1 a2 y0 a17 a18 a19 a20 a21 a22), (mp_ob7 a2 y1 y2 y3 y4 y5 y6 a23 a24 a25 a26 a27 a3 a4 a5 a6 a7 a8 a28)]
    show mp_W E X 5 15 [(4, .ref a2), (0, .ref a0), (1, .int x0), (2, .int x1), (3, .int x2)] [.int 0] w2_ 0 0
    refine mp_run mp_k_cX9_promises_ok hF mp_tabX9_ok [mp_h (.ifCond .eq 15) [30]] (by decide +kernel) ?_
    refine And.intro (fun _ => ?_) (fun c_16 => absurd c_16 (by decide))
    show mp_W E X 5 30 [(4, .ref a2), (0, .ref a0), (1, .int x0), (2, .int x1), (3, .int x2)] [] w2_ 0 0
    refine mp_run mp_k_cX9_promises_ok hF mp_tabX9_ok [mp_c (.bipush (-2)) (-2)] (by decide +kernel) ?_
    show mp_W E X 5 32 [(4, .ref a2), (0, .ref a0), (1, .int x0), (2, .int x1), (3, .int x2)] [.int (-2)] w2_ 0 0
    exact mp_iret hF hQ rfl rfl (Nat.le_of_ble_eq_true rfl) (Nat.le_of_ble_eq_true rfl) [6, 7, 8, 0, 1, 2, 3, 4, 5] (w' := w1_) rfl rfl (Or.inl ⟨rfl, (by first | (first | exact mp_o834 x_4 | omega) | decide | (have h8 : (0 : Int64).toInt = 0 := rfl; have h9 : (-1 : Int32).toInt = -1 := rfl; have h10 : (-2 : Int32).toInt = -2 := rfl; have h11 : (0 : Int32).toInt = 0 := rfl; have h12 : (1 : Int32).toInt = 1 := rfl; have h13 : (-5 : Int32).toInt = -5 := rfl; have h14 : (-3 : Int32).toInt = -3 := rfl; omega)), rfl⟩) (by first | exact mp_fd_ok mp_k_cX9_promises_ok (by decide +kernel) | decide +kernel)
  · skip
    refine q_12.elim fun e_17 q_18 => q_18.elim fun c_5 q_19 => q_19.elim fun c_6 q_20 => q_20.elim fun c_7 q_21 => q_21.elim fun c_8 q_22 => q_22.elim fun c_9 q_23 => q_23.elim fun x_10 e_24 => ?_
    clear h_3 q_12 q_18 q_19 q_20 q_21 q_22 q_23
    subst e_17
    subst e_24
    have c_5 : 0 ≤ x0.toInt := c_5
    have c_6 : x0.toInt < y4.toInt := c_6
    have c_7 : 0 ≤ x1.toInt := c_7
    have c_8 : x1.toInt < y4.toInt := c_8
    have c_9 : x0.toInt ≠ x1.toInt := c_9
    let w3_ : va_W := [(mp_arI E a3 0 10 f0), (mp_arI E a4 0 10 f1), (mp_arI E a5 0 10 f2), (mp_arI E a6 0 10 f3), (mp_arI E a7 0 10 f4), (mp_arI E a8 0 10 f5), (mp_ob9 a0 a9 a1 a10 a11 a12 a13 a14 a15 a16), (mp_ob0 a1 a2 y0 a17 a18 a19 a20 a21 a22), (mp_ob7 a2 y1 y2 y3 y4 y5 y6 a23 a24 a25 a26 a27 a3 a4 a5 a6 a7 a8 a28)]
    show mp_W E X 5 15 [(4, .ref a2), (0, .ref a0), (1, .int x0), (2, .int x1), (3, .int x2)] [.int 1] w3_ 0 0
    refine mp_run mp_k_cX9_promises_ok hF mp_tabX9_ok [mp_h (.ifCond .eq 15) [30]] (by decide +kernel) ?_
    refine And.intro (fun c_25 => absurd c_25 (by decide)) (fun _ => ?_)
    show mp_W E X 5 18 [(4, .ref a2), (0, .ref a0), (1, .int x0), (2, .int x1), (3, .int x2)] [] w3_ 0 0
    refine mp_run mp_k_cX9_promises_ok hF mp_tabX9_ok [mp_i (.iload_n 3), mp_c (.iconst 1) 1, mp_h (.if_icmp .lt 10) [30]] (by decide +kernel) ?_
    refine And.intro (fun c_26 => ?_) (fun c_26 => ?_)
    · have c_26 : x2.toInt < 1 := c_26
      show mp_W E X 5 30 [(4, .ref a2), (0, .ref a0), (1, .int x0), (2, .int x1), (3, .int x2)] [] w3_ 0 0
      refine mp_run mp_k_cX9_promises_ok hF mp_tabX9_ok [mp_c (.bipush (-2)) (-2)] (by decide +kernel) ?_
      show mp_W E X 5 32 [(4, .ref a2), (0, .ref a0), (1, .int x0), (2, .int x1), (3, .int x2)] [.int (-2)] w3_ 0 0
      exact mp_iret hF hQ rfl rfl (Nat.le_of_ble_eq_true rfl) (Nat.le_of_ble_eq_true rfl) [6, 7, 8, 0, 1, 2, 3, 4, 5] (w' := w1_) rfl rfl (Or.inl ⟨rfl, (by first | (first | exact mp_o835 c_26 | omega) | decide | (have h8 : (0 : Int64).toInt = 0 := rfl; have h9 : (-1 : Int32).toInt = -1 := rfl; have h10 : (-2 : Int32).toInt = -2 := rfl; have h11 : (0 : Int32).toInt = 0 := rfl; have h12 : (1 : Int32).toInt = 1 := rfl; have h13 : (-5 : Int32).toInt = -5 := rfl; have h14 : (-3 : Int32).toInt = -3 := rfl; omega)), rfl⟩) (by first | exact mp_fd_ok mp_k_cX9_promises_ok (by decide +kernel) | decide +kernel)
    · have c_26 : 1 ≤ x2.toInt := c_26
      show mp_W E X 5 23 [(4, .ref a2), (0, .ref a0), (1, .int x0), (2, .int x1), (3, .int x2)] [] w3_ 0 0
      refine mp_run mp_k_cX9_promises_ok hF mp_tabX9_ok [mp_i (.iload_n 3), mp_c (.ldc_w 328) 1000000, mp_h (.if_icmp .le 6) [33]] (by decide +kernel) ?_
      refine And.intro (fun c_27 => ?_) (fun c_27 => ?_)
      · have c_27 : x2.toInt ≤ 1000000 := c_27
        show mp_W E X 5 33 [(4, .ref a2), (0, .ref a0), (1, .int x0), (2, .int x1), (3, .int x2)] [] w3_ 0 0
        refine mp_run mp_k_cX9_promises_ok hF mp_tabX9_ok [mp_i (.aload 4), mp_h (.getfield 214) [5, 8], mp_h (.ifCond .le 6) [44]] (by decide +kernel) ?_
        refine And.intro rfl (And.intro rfl ?_)
        refine And.intro (fun c_28 => ?_) (fun c_28 => ?_)
        · have c_28 : y6.toInt ≤ 0 := c_28
          show mp_W E X 5 44 [(4, .ref a2), (0, .ref a0), (1, .int x0), (2, .int x1), (3, .int x2)] [] w3_ 0 0
          refine mp_run mp_k_cX9_promises_ok hF mp_tabX9_ok [mp_i (.aload 4), mp_h (.getfield 196) [4, 8], mp_c (.bipush 10) 10, mp_h (.if_icmp .lt 6) [57]] (by decide +kernel) ?_
          refine And.intro rfl (And.intro rfl ?_)
          refine And.intro (fun c_29 => ?_) (fun c_29 => ?_)
          · have c_29 : y5.toInt < 10 := c_29
            show mp_W E X 5 57 [(4, .ref a2), (0, .ref a0), (1, .int x0), (2, .int x1), (3, .int x2)] [] w3_ 0 0
            refine mp_run mp_k_cX9_promises_ok hF mp_tabX9_ok [mp_i (.aload 4), mp_i (.iload_n 1), mp_i (.iload_n 2), mp_i (.iload_n 3), mp_i (.aload_n 0), mp_h (.getfield 19) [37, 6], mp_h (.getfield 166) [21, 7]] (by decide +kernel) ?_
            refine And.intro rfl (And.intro rfl ?_)
            refine And.intro rfl (And.intro rfl ?_)
            show mp_W E X 5 69 [(4, .ref a2), (0, .ref a0), (1, .int x0), (2, .int x1), (3, .int x2)] [.int y0, .int x2, .int x1, .int x0, .ref a2] w3_ 0 0
            refine mp_callV hF (As := [.int x0, .int x1, .int x2, .int y0]) (rest := []) (wr := [(mp_ob9 a0 a9 a1 a10 a11 a12 a13 a14 a15 a16), (mp_ob0 a1 a2 y0 a17 a18 a19 a20 a21 a22)]) (bX7_addPromise_28 E a2 a3 a4 a5 a6 a7 a8 a23 a24 a25 a26 a27 a28 f0 f1 f2 f3 f4 f5 y1 y2 y3 y4 y5 y6 x0 x1 x2 y0 p0 p1 p2 p3 p4 (by (first | exact c_5 | omega)) (by (first | exact mp_o398 u_y4 c_6 | omega)) (by (first | exact c_7 | omega)) (by (first | exact mp_o398 u_y4 c_8 | omega)) l_y0 u_y0 l_y2 u_y2 l_y3 u_y3 l_y4 u_y4 l_y5 (by (first | exact mp_o199 c_29 | omega)) l_y6 u_y6) mp_lkX9_329 8 rfl [8, 0, 1, 2, 3, 4, 5] [6, 7] rfl rfl rfl rfl rfl ⟨(Nat.le_of_ble_eq_true rfl), (Nat.le_of_ble_eq_true rfl), (Nat.le_of_ble_eq_true rfl), (Nat.le_of_ble_eq_true rfl)⟩ (Nat.le_of_ble_eq_true rfl) (by first | exact mp_fd_ok mp_k_cX9_promises_ok (by decide +kernel) | decide +kernel) (fun v_30 w_31 h_32 => ?_)
            refine h_32.elim fun r_33 q_54 => q_54.elim fun g_34 q_55 => q_55.elim fun g_35 q_56 => q_56.elim fun g_36 q_57 => q_57.elim fun g_37 q_58 => q_58.elim fun g_38 q_59 => q_59.elim fun g_39 q_60 => q_60.elim fun e_61 q_62 => q_62.elim fun l_40 q_63 => q_63.elim fun u_41 q_64 => q_64.elim fun p_42 q_65 => q_65.elim fun p_43 q_66 => q_66.elim fun p_44 q_67 => q_67.elim fun p_45 q_68 => q_68.elim fun p_46 q_69 => q_69.elim fun x_47 q_70 => q_70.elim fun x_48 q_71 => q_71.elim fun x_49 q_72 => q_72.elim fun x_50 q_73 => q_73.elim fun x_51 q_74 => q_74.elim fun x_52 q_75 => q_75.elim fun x_53 e_76 => ?_
            clear h_32 q_54 q_55 q_56 q_57 q_58 q_59 q_60 q_62 q_63 q_64 q_65 q_66 q_67 q_68 q_69 q_70 q_71 q_72 q_73 q_74 q_75
            subst e_61
            subst e_76
            let w4_ : va_W := [(mp_ob9 a0 a9 a1 a10 a11 a12 a13 a14 a15 a16), (mp_ob0 a1 a2 y0 a17 a18 a19 a20 a21 a22), (mp_ob7 a2 y1 y2 y3 y4 r_33 y6 a23 a24 a25 a26 a27 a3 a4 a5 a6 a7 a8 a28), (mp_arI E a3 0 10 g_34), (mp_arI E a4 0 10 g_35), (mp_arI E a5 0 10 g_36), (mp_arI E a6 0 10 g_37), (mp_arI E a7 0 10 g_38), (mp_arI E a8 0 10 g_39)]
            show mp_W E X 5 72 [(4, .ref a2), (0, .ref a0), (1, .int x0), (2, .int x1), (3, .int x2)] [] w4_ 0 0
            refine mp_run mp_k_cX9_promises_ok hF mp_tabX9_ok [mp_i (.aload 4), mp_h (.getfield 196) [4, 2], mp_c (.iconst 1) 1, mp_i .isub] (by decide +kernel) ?_
            refine And.intro rfl (And.intro rfl ?_)
            intro z_77 h_78
            have e_79 : z_77.toInt = r_33.toInt - 1 := mp_subi (a := r_33.toInt) (b := 1) h_78 rfl (by decide) (by (first | exact mp_o836 l_y5 x_53 | omega)) (by (first | exact mp_o837 c_29 x_53 | omega))
            show mp_W E X 5 79 [(4, .ref a2), (0, .ref a0), (1, .int x0), (2, .int x1), (3, .int x2)] [.int z_77] w4_ 0 0
            exact mp_iret hF hQ rfl rfl (Nat.le_of_ble_eq_true rfl) (Nat.le_of_ble_eq_true rfl) [0, 1, 2, 3, 4, 5, 6, 7, 8] (w' := w4_) rfl rfl (Or.inr (Or.inl ⟨r_33, g_34, g_35, g_36, g_37, g_38, g_39, z_77, rfl, (by first | (first | exact c_5 | omega) | decide), (by first | (first | exact c_6 | omega) | decide), (by first | (first | exact c_7 | omega) | decide), (by first | (first | exact c_8 | omega) | decide), (by first | (first | exact c_9 | omega) | decide), (by first | (first | exact c_26 | omega) | decide), (by first | (first | exact c_27 | omega) | decide), (by first | (first | exact c_28 | omega) | decide), (by first | (first | exact c_29 | omega) | decide), l_40, u_41, (by (first | exact mp_o838 l_y5 x_53 e_79 | omega)), (by (first | exact mp_o839 c_29 x_53 e_79 | omega)), p_42, p_43, p_44, p_45, p_46, (by first | (first | exact mp_o840 c_5 c_7 c_26 c_6 c_9 c_8 c_27 | omega) | decide | (have h8 : (0 : Int64).toInt = 0 := rfl; have h9 : (-1 : Int32).toInt = -1 := rfl; have h10 : (-2 : Int32).toInt = -2 := rfl; have h11 : (0 : Int32).toInt = 0 := rfl; have h12 : (1 : Int32).toInt = 1 := rfl; have h13 : (-5 : Int32).toInt = -5 := rfl; have h14 : (-3 : Int32).toInt = -3 := rfl; omega)), (by first | (first | exact c_28 | omega) | decide | (have h8 : (0 : Int64).toInt = 0 := rfl; have h9 : (-1 : Int32).toInt = -1 := rfl; have h10 : (-2 : Int32).toInt = -2 := rfl; have h11 : (0 : Int32).toInt = 0 := rfl; have h12 : (1 : Int32).toInt = 1 := rfl; have h13 : (-5 : Int32).toInt = -5 := rfl; have h14 : (-3 : Int32).toInt = -3 := rfl; omega)), (by first | (first | exact c_29 | omega) | decide | (have h8 : (0 : Int64).toInt = 0 := rfl; have h9 : (-1 : Int32).toInt = -1 := rfl; have h10 : (-2 : Int32).toInt = -2 := rfl; have h11 : (0 : Int32).toInt = 0 := rfl; have h12 : (1 : Int32).toInt = 1 := rfl; have h13 : (-5 : Int32).toInt = -5 := rfl; have h14 : (-3 : Int32).toInt = -3 := rfl; omega)), (by first | (first | exact mp_o841 x_53 e_79 | omega) | decide | (have h8 : (0 : Int64).toInt = 0 := rfl; have h9 : (-1 : Int32).toInt = -1 := rfl; have h10 : (-2 : Int32).toInt = -2 := rfl; have h11 : (0 : Int32).toInt = 0 := rfl; have h12 : (1 : Int32).toInt = 1 := rfl; have h13 : (-5 : Int32).toInt = -5 := rfl; have h14 : (-3 : Int32).toInt = -3 := rfl; omega)), (by first | (first | exact x_53 | omega) | decide | (have h8 : (0 : Int64).toInt = 0 := rfl; have h9 : (-1 : Int32).toInt = -1 := rfl; have h10 : (-2 : Int32).toInt = -2 := rfl; have h11 : (0 : Int32).toInt = 0 := rfl; have h12 : (1 : Int32).toInt = 1 := rfl; have h13 : (-5 : Int32).toInt = -5 := rfl; have h14 : (-3 : Int32).toInt = -3 := rfl; omega)), x_47, x_48, x_49, x_50, x_51, x_52, rfl⟩)) (by first | exact mp_fd_ok mp_k_cX9_promises_ok (by decide +kernel) | decide +kernel)
          · have c_29 : 10 ≤ y5.toInt := c_29
            show mp_W E X 5 54 [(4, .ref a2), (0, .ref a0), (1, .int x0), (2, .int x1), (3, .int x2)] [] w3_ 0 0
            refine mp_run mp_k_cX9_promises_ok hF mp_tabX9_ok [mp_c (.bipush (-3)) (-3)] (by decide +kernel) ?_
            show mp_W E X 5 56 [(4, .ref a2), (0, .ref a0), (1, .int x0), (2, .int x1), (3, .int x2)] [.int (-3)] w3_ 0 0
            exact mp_iret hF hQ rfl rfl (Nat.le_of_ble_eq_true rfl) (Nat.le_of_ble_eq_true rfl) [6, 7, 8, 0, 1, 2, 3, 4, 5] (w' := w1_) rfl rfl (Or.inr (Or.inr (Or.inl ⟨rfl, (by first | (first | exact c_5 | omega) | decide), (by first | (first | exact c_6 | omega) | decide), (by first | (first | exact c_7 | omega) | decide), (by first | (first | exact c_8 | omega) | decide), (by first | (first | exact c_9 | omega) | decide), (by first | (first | exact c_26 | omega) | decide), (by first | (first | exact c_27 | omega) | decide), (by first | (first | exact c_28 | omega) | decide), (by first | (first | exact c_29 | omega) | decide), (by first | (first | exact mp_o840 c_5 c_7 c_26 c_6 c_9 c_8 c_27 | omega) | decide | (have h8 : (0 : Int64).toInt = 0 := rfl; have h9 : (-1 : Int32).toInt = -1 := rfl; have h10 : (-2 : Int32).toInt = -2 := rfl; have h11 : (0 : Int32).toInt = 0 := rfl; have h12 : (1 : Int32).toInt = 1 := rfl; have h13 : (-5 : Int32).toInt = -5 := rfl; have h14 : (-3 : Int32).toInt = -3 := rfl; omega)), (by first | (first | exact c_28 | omega) | decide | (have h8 : (0 : Int64).toInt = 0 := rfl; have h9 : (-1 : Int32).toInt = -1 := rfl; have h10 : (-2 : Int32).toInt = -2 := rfl; have h11 : (0 : Int32).toInt = 0 := rfl; have h12 : (1 : Int32).toInt = 1 := rfl; have h13 : (-5 : Int32).toInt = -5 := rfl; have h14 : (-3 : Int32).toInt = -3 := rfl; omega)), (by first | (first | exact c_29 | omega) | decide | (have h8 : (0 : Int64).toInt = 0 := rfl; have h9 : (-1 : Int32).toInt = -1 := rfl; have h10 : (-2 : Int32).toInt = -2 := rfl; have h11 : (0 : Int32).toInt = 0 := rfl; have h12 : (1 : Int32).toInt = 1 := rfl; have h13 : (-5 : Int32).toInt = -5 := rfl; have h14 : (-3 : Int32).toInt = -3 := rfl; omega)), rfl⟩))) (by first | exact mp_fd_ok mp_k_cX9_promises_ok (by decide +kernel) | decide +kernel)
        · have c_28 : 0 < y6.toInt := c_28
          show mp_W E X 5 41 [(4, .ref a2), (0, .ref a0), (1, .int x0), (2, .int x1), (3, .int x2)] [] w3_ 0 0
          refine mp_run mp_k_cX9_promises_ok hF mp_tabX9_ok [mp_c (.bipush (-5)) (-5)] (by decide +kernel) ?_
          show mp_W E X 5 43 [(4, .ref a2), (0, .ref a0), (1, .int x0), (2, .int x1), (3, .int x2)] [.int (-5)] w3_ 0 0
          exact mp_iret hF hQ rfl rfl (Nat.le_of_ble_eq_true rfl) (Nat.le_of_ble_eq_true rfl) [6, 7, 8, 0, 1, 2, 3, 4, 5] (w' := w1_) rfl rfl (Or.inr (Or.inr (Or.inr ⟨rfl, (by first | (first | exact c_5 | omega) | decide), (by first | (first | exact c_6 | omega) | decide), (by first | (first | exact c_7 | omega) | decide), (by first | (first | exact c_8 | omega) | decide), (by first | (first | exact c_9 | omega) | decide), (by first | (first | exact c_26 | omega) | decide), (by first | (first | exact c_27 | omega) | decide), (by first | (first | exact c_28 | omega) | decide), (by first | (first | exact mp_o840 c_5 c_7 c_26 c_6 c_9 c_8 c_27 | omega) | decide | (have h8 : (0 : Int64).toInt = 0 := rfl; have h9 : (-1 : Int32).toInt = -1 := rfl; have h10 : (-2 : Int32).toInt = -2 := rfl; have h11 : (0 : Int32).toInt = 0 := rfl; have h12 : (1 : Int32).toInt = 1 := rfl; have h13 : (-5 : Int32).toInt = -5 := rfl; have h14 : (-3 : Int32).toInt = -3 := rfl; omega)), (by first | (first | exact c_28 | omega) | decide | (have h8 : (0 : Int64).toInt = 0 := rfl; have h9 : (-1 : Int32).toInt = -1 := rfl; have h10 : (-2 : Int32).toInt = -2 := rfl; have h11 : (0 : Int32).toInt = 0 := rfl; have h12 : (1 : Int32).toInt = 1 := rfl; have h13 : (-5 : Int32).toInt = -5 := rfl; have h14 : (-3 : Int32).toInt = -3 := rfl; omega)), rfl⟩))) (by first | exact mp_fd_ok mp_k_cX9_promises_ok (by decide +kernel) | decide +kernel)
      · have c_27 : 1000000 < x2.toInt := c_27
        show mp_W E X 5 30 [(4, .ref a2), (0, .ref a0), (1, .int x0), (2, .int x1), (3, .int x2)] [] w3_ 0 0
        refine mp_run mp_k_cX9_promises_ok hF mp_tabX9_ok [mp_c (.bipush (-2)) (-2)] (by decide +kernel) ?_
        show mp_W E X 5 32 [(4, .ref a2), (0, .ref a0), (1, .int x0), (2, .int x1), (3, .int x2)] [.int (-2)] w3_ 0 0
        exact mp_iret hF hQ rfl rfl (Nat.le_of_ble_eq_true rfl) (Nat.le_of_ble_eq_true rfl) [6, 7, 8, 0, 1, 2, 3, 4, 5] (w' := w1_) rfl rfl (Or.inl ⟨rfl, (by first | (first | exact mp_o842 c_27 | omega) | decide | (have h8 : (0 : Int64).toInt = 0 := rfl; have h9 : (-1 : Int32).toInt = -1 := rfl; have h10 : (-2 : Int32).toInt = -2 := rfl; have h11 : (0 : Int32).toInt = 0 := rfl; have h12 : (1 : Int32).toInt = 1 := rfl; have h13 : (-5 : Int32).toInt = -5 := rfl; have h14 : (-3 : Int32).toInt = -3 := rfl; omega)), rfl⟩) (by first | exact mp_fd_ok mp_k_cX9_promises_ok (by decide +kernel) | decide +kernel)
set_option maxHeartbeats 4000000 in
set_option maxRecDepth 100000 in
theorem bX9_shuts_172 (E : mp_E) (a0 a1 a2 a3 a4 a5 a6 a7 a8 a9 a10 a11 a12 a13 a14 a15 a16 a17 a18 a19 a20 a21 a22 a23 a24 a25 a26 a27 a28 : Nat) (f0 : Nat → Int64) (y0 : Int32) (y1 : Int32) (y2 : Int32) (y3 : Int32) (y4 : Int32) (y5 : Int32) (y6 : Int32) (x0 : Int32) (x1 : Int32) (x2 : Int32) (l_y0 : 0 ≤ y0.toInt) (u_y0 : y0.toInt ≤ 99) (l_y2 : 0 ≤ y2.toInt) (u_y2 : y2.toInt ≤ 6) (l_y3 : 0 ≤ y3.toInt) (u_y3 : y3.toInt ≤ 99) (l_y4 : 0 ≤ y4.toInt) (u_y4 : y4.toInt ≤ 6) (l_y5 : 0 ≤ y5.toInt) (u_y5 : y5.toInt ≤ 10) (l_y6 : 0 ≤ y6.toInt) (u_y6 : y6.toInt ≤ 60) : mp_Ct E yX9_shuts cX9_shuts 6 (some FieldType.int) 1 0 0 26 [.ref a0, .int x0, .int x1, .int x2] [(mp_ob9 a0 a4 a1 a5 a6 a7 a8 a9 a10 a11), (mp_ob0 a1 a2 y0 a12 a13 a14 a15 a16 a17), (mp_ob7 a2 y1 y2 y3 y4 y5 y6 a18 a3 a19 a20 a21 a22 a23 a24 a25 a26 a27 a28), (mp_arL E a3 12 f0)] (fun v w' => (v = some (.int (-2)) ∧ (x0.toInt < 0 ∨ y2.toInt ≤ x0.toInt ∨ x1.toInt < 0 ∨ 99 < x1.toInt ∨ x2.toInt < 0 ∨ 1 < x2.toInt) ∧ w' = [(mp_ob9 a0 a4 a1 a5 a6 a7 a8 a9 a10 a11), (mp_ob0 a1 a2 y0 a12 a13 a14 a15 a16 a17), (mp_ob7 a2 y1 y2 y3 y4 y5 y6 a18 a3 a19 a20 a21 a22 a23 a24 a25 a26 a27 a28), (mp_arL E a3 12 f0)]) ∨ (∃ h1 : Nat → Int64, ∃ r2 : Int32, v = some (.int r2) ∧ 0 ≤ x0.toInt ∧ x0.toInt < y2.toInt ∧ 0 ≤ x1.toInt ∧ x1.toInt ≤ 99 ∧ 0 ≤ x2.toInt ∧ x2.toInt ≤ 1 ∧ y6.toInt ≤ 0 ∧ 0 ≤ r2.toInt ∧ r2.toInt ≤ 1 ∧ (0 ≤ x0.toInt ∧ x0.toInt < y2.toInt ∧ 0 ≤ x1.toInt ∧ x1.toInt ≤ 99 ∧ 0 ≤ x2.toInt ∧ x2.toInt ≤ 1) ∧ (y6.toInt ≤ 0) ∧ ((mp_shb f0 (100 * x0.toInt + x1.toInt).toNat = true ∧ r2.toInt = 1) ∨ (mp_shb f0 (100 * x0.toInt + x1.toInt).toNat = false ∧ r2.toInt = 0)) ∧ (mp_shb h1 = fun j => if j = (100 * x0.toInt + x1.toInt).toNat then decide (x2.toInt = 1) else mp_shb f0 j) ∧ w' = [(mp_ob9 a0 a4 a1 a5 a6 a7 a8 a9 a10 a11), (mp_ob0 a1 a2 y0 a12 a13 a14 a15 a16 a17), (mp_ob7 a2 y1 y2 y3 y4 y5 y6 a18 a3 a19 a20 a21 a22 a23 a24 a25 a26 a27 a28), (mp_arL E a3 12 h1)]) ∨ (v = some (.int (-5)) ∧ 0 ≤ x0.toInt ∧ x0.toInt < y2.toInt ∧ 0 ≤ x1.toInt ∧ x1.toInt ≤ 99 ∧ 0 ≤ x2.toInt ∧ x2.toInt ≤ 1 ∧ 0 < y6.toInt ∧ (0 ≤ x0.toInt ∧ x0.toInt < y2.toInt ∧ 0 ≤ x1.toInt ∧ x1.toInt ≤ 99 ∧ 0 ≤ x2.toInt ∧ x2.toInt ≤ 1) ∧ (0 < y6.toInt) ∧ w' = [(mp_ob9 a0 a4 a1 a5 a6 a7 a8 a9 a10 a11), (mp_ob0 a1 a2 y0 a12 a13 a14 a15 a16 a17), (mp_ob7 a2 y1 y2 y3 y4 y5 y6 a18 a3 a19 a20 a21 a22 a23 a24 a25 a26 a27 a28), (mp_arL E a3 12 f0)])) := by
  refine mp_met false (by decide) (by decide) (Nat.le_of_ble_eq_true rfl) (fun X hF hQ => ?_)
  have hF : mp_F E X (RX9, cX9_shuts, 6, (1, 0, 0, 26), (some FieldType.int), false) := hF
  let w1_ : va_W := [(mp_ob9 a0 a4 a1 a5 a6 a7 a8 a9 a10 a11), (mp_ob0 a1 a2 y0 a12 a13 a14 a15 a16 a17), (mp_ob7 a2 y1 y2 y3 y4 y5 y6 a18 a3 a19 a20 a21 a22 a23 a24 a25 a26 a27 a28), (mp_arL E a3 12 f0)]
  show mp_W E X 6 0 [(0, .ref a0), (1, .int x0), (2, .int x1), (3, .int x2)] [] w1_ 0 0
  refine mp_run mp_k_cX9_shuts_ok hF mp_tabX9_ok [mp_i (.aload_n 0), mp_h (.getfield 19) [37, 0], mp_h (.getfield 83) [20, 1], mp_i (.astore 4), mp_i (.aload 4), mp_i (.iload_n 1)] (by decide +kernel) ?_
  refine And.intro rfl (And.intro rfl ?_)
  refine And.intro rfl (And.intro rfl ?_)
  show mp_W E X 6 12 [(4, .ref a2), (0, .ref a0), (1, .int x0), (2, .int x1), (3, .int x2)] [.int x0, .ref a2] w1_ 0 0
  refine mp_callV hF (As := [.int x0]) (rest := []) (wr := [(mp_ob9 a0 a4 a1 a5 a6 a7 a8 a9 a10 a11), (mp_ob0 a1 a2 y0 a12 a13 a14 a15 a16 a17), (mp_arL E a3 12 f0)]) (bX7_isIsle_55 E a2 a18 a3 a19 a20 a21 a22 a23 a24 a25 a26 a27 a28 y1 y2 y3 y4 y5 y6 x0 l_y2 u_y2 l_y3 u_y3 l_y4 u_y4 l_y5 u_y5 l_y6 u_y6) mp_lkX9_141 2 rfl [2] [0, 1, 3] rfl rfl rfl rfl rfl ⟨(Nat.le_of_ble_eq_true rfl), (Nat.le_of_ble_eq_true rfl), (Nat.le_of_ble_eq_true rfl), (Nat.le_of_ble_eq_true rfl)⟩ (Nat.le_of_ble_eq_true rfl) (by first | exact mp_fd_ok mp_k_cX9_shuts_ok (by decide +kernel) | decide +kernel) (fun v_1 w_2 h_3 => ?_)
  rcases h_3 with ⟨rfl, x_4, rfl⟩ | ⟨rfl, c_5, c_6, x_7, rfl⟩
  · skip
    let w2_ : va_W := [(mp_ob9 a0 a4 a1 a5 a6 a7 a8 a9 a10 a11), (mp_ob0 a1 a2 y0 a12 a13 a14 a15 a16 a17), (mp_arL E a3 12 f0), (mp_ob7 a2 y1 y2 y3 y4 y5 y6 a18 a3 a19 a20 a21 a22 a23 a24 a25 a26 a27 a28)]
    show mp_W E X 6 15 [(4, .ref a2), (0, .ref a0), (1, .int x0), (2, .int x1), (3, .int x2)] [.int 0] w2_ 0 0
    refine mp_run mp_k_cX9_shuts_ok hF mp_tabX9_ok [mp_h (.ifCond .eq 19) [34]] (by decide +kernel) ?_
    refine And.intro (fun _ => ?_) (fun c_8 => absurd c_8 (by decide))
    show mp_W E X 6 34 [(4, .ref a2), (0, .ref a0), (1, .int x0), (2, .int x1), (3, .int x2)] [] w2_ 0 0
    refine mp_run mp_k_cX9_shuts_ok hF mp_tabX9_ok [mp_c (.bipush (-2)) (-2)] (by decide +kernel) ?_
    show mp_W E X 6 36 [(4, .ref a2), (0, .ref a0), (1, .int x0), (2, .int x1), (3, .int x2)] [.int (-2)] w2_ 0 0
    exact mp_iret hF hQ rfl rfl (Nat.le_of_ble_eq_true rfl) (Nat.le_of_ble_eq_true rfl) [0, 1, 3, 2] (w' := w1_) rfl rfl (Or.inl ⟨rfl, (by first | (first | exact mp_o843 x_4 | omega) | decide | (have h8 : (0 : Int64).toInt = 0 := rfl; have h9 : (-1 : Int32).toInt = -1 := rfl; have h10 : (-2 : Int32).toInt = -2 := rfl; have h11 : (0 : Int32).toInt = 0 := rfl; have h12 : (1 : Int32).toInt = 1 := rfl; have h13 : (-5 : Int32).toInt = -5 := rfl; have h14 : (-3 : Int32).toInt = -3 := rfl; omega)), rfl⟩) (by first | exact mp_fd_ok mp_k_cX9_shuts_ok (by decide +kernel) | decide +kernel)
  · skip
    have c_5 : 0 ≤ x0.toInt := c_5
    have c_6 : x0.toInt < y2.toInt := c_6
    let w3_ : va_W := [(mp_ob9 a0 a4 a1 a5 a6 a7 a8 a9 a10 a11), (mp_ob0 a1 a2 y0 a12 a13 a14 a15 a16 a17), (mp_arL E a3 12 f0), (mp_ob7 a2 y1 y2 y3 y4 y5 y6 a18 a3 a19 a20 a21 a22 a23 a24 a25 a26 a27 a28)]
    show mp_W E X 6 15 [(4, .ref a2), (0, .ref a0), (1, .int x0), (2, .int x1), (3, .int x2)] [.int 1] w3_ 0 0
    refine mp_run mp_k_cX9_shuts_ok hF mp_tabX9_ok [mp_h (.ifCond .eq 19) [34]] (by decide +kernel) ?_
    refine And.intro (fun c_9 => absurd c_9 (by decide)) (fun _ => ?_)
    show mp_W E X 6 18 [(4, .ref a2), (0, .ref a0), (1, .int x0), (2, .int x1), (3, .int x2)] [] w3_ 0 0
    refine mp_run mp_k_cX9_shuts_ok hF mp_tabX9_ok [mp_i (.iload_n 2)] (by decide +kernel) ?_
    show mp_W E X 6 19 [(4, .ref a2), (0, .ref a0), (1, .int x0), (2, .int x1), (3, .int x2)] [.int x1] w3_ 0 0
    refine mp_callS hF (As := [.int x1]) (rest := []) (wr := w3_) (bX9_isMoon_57 E x1) mp_lkX9_148 [] [0, 1, 2, 3] rfl rfl rfl rfl rfl ⟨(Nat.le_of_ble_eq_true rfl), (Nat.le_of_ble_eq_true rfl), (Nat.le_of_ble_eq_true rfl), (Nat.le_of_ble_eq_true rfl)⟩ (Nat.le_of_ble_eq_true rfl) (by first | exact mp_fd_ok mp_k_cX9_shuts_ok (by decide +kernel) | decide +kernel) (fun v_10 w_11 h_12 => ?_)
    rcases h_12 with ⟨rfl, x_13, rfl⟩ | ⟨rfl, c_14, c_15, x_16, rfl⟩
    · skip
      show mp_W E X 6 22 [(4, .ref a2), (0, .ref a0), (1, .int x0), (2, .int x1), (3, .int x2)] [.int 0] w3_ 0 0
      refine mp_run mp_k_cX9_shuts_ok hF mp_tabX9_ok [mp_h (.ifCond .eq 12) [34]] (by decide +kernel) ?_
      refine And.intro (fun _ => ?_) (fun c_17 => absurd c_17 (by decide))
      show mp_W E X 6 34 [(4, .ref a2), (0, .ref a0), (1, .int x0), (2, .int x1), (3, .int x2)] [] w3_ 0 0
      refine mp_run mp_k_cX9_shuts_ok hF mp_tabX9_ok [mp_c (.bipush (-2)) (-2)] (by decide +kernel) ?_
      show mp_W E X 6 36 [(4, .ref a2), (0, .ref a0), (1, .int x0), (2, .int x1), (3, .int x2)] [.int (-2)] w3_ 0 0
      exact mp_iret hF hQ rfl rfl (Nat.le_of_ble_eq_true rfl) (Nat.le_of_ble_eq_true rfl) [0, 1, 3, 2] (w' := w1_) rfl rfl (Or.inl ⟨rfl, (by first | (first | exact mp_o844 x_13 | omega) | decide | (have h8 : (0 : Int64).toInt = 0 := rfl; have h9 : (-1 : Int32).toInt = -1 := rfl; have h10 : (-2 : Int32).toInt = -2 := rfl; have h11 : (0 : Int32).toInt = 0 := rfl; have h12 : (1 : Int32).toInt = 1 := rfl; have h13 : (-5 : Int32).toInt = -5 := rfl; have h14 : (-3 : Int32).toInt = -3 := rfl; omega)), rfl⟩) (by first | exact mp_fd_ok mp_k_cX9_shuts_ok (by decide +kernel) | decide +kernel)
    · skip
      have c_14 : 0 ≤ x1.toInt := c_14
      have c_15 : x1.toInt ≤ 99 := c_15
      show mp_W E X 6 22 [(4, .ref a2), (0, .ref a0), (1, .int x0), (2, .int x1), (3, .int x2)] [.int 1] w3_ 0 0
      refine mp_run mp_k_cX9_shuts_ok hF mp_tabX9_ok [mp_h (.ifCond .eq 12) [34]] (by decide +kernel) ?_
      refine And.intro (fun c_18 => absurd c_18 (by decide)) (fun _ => ?_)
      show mp_W E X 6 25 [(4, .ref a2), (0, .ref a0), (1, .int x0), (2, .int x1), (3, .int x2)] [] w3_ 0 0
      refine mp_run mp_k_cX9_shuts_ok hF mp_tabX9_ok [mp_i (.iload_n 3), mp_h (.ifCond .lt 8) [34]] (by decide +kernel) ?_
      refine And.intro (fun c_19 => ?_) (fun c_19 => ?_)
      · have c_19 : x2.toInt < 0 := c_19
        show mp_W E X 6 34 [(4, .ref a2), (0, .ref a0), (1, .int x0), (2, .int x1), (3, .int x2)] [] w3_ 0 0
        refine mp_run mp_k_cX9_shuts_ok hF mp_tabX9_ok [mp_c (.bipush (-2)) (-2)] (by decide +kernel) ?_
        show mp_W E X 6 36 [(4, .ref a2), (0, .ref a0), (1, .int x0), (2, .int x1), (3, .int x2)] [.int (-2)] w3_ 0 0
        exact mp_iret hF hQ rfl rfl (Nat.le_of_ble_eq_true rfl) (Nat.le_of_ble_eq_true rfl) [0, 1, 3, 2] (w' := w1_) rfl rfl (Or.inl ⟨rfl, (by first | (first | exact mp_o845 c_19 | omega) | decide | (have h8 : (0 : Int64).toInt = 0 := rfl; have h9 : (-1 : Int32).toInt = -1 := rfl; have h10 : (-2 : Int32).toInt = -2 := rfl; have h11 : (0 : Int32).toInt = 0 := rfl; have h12 : (1 : Int32).toInt = 1 := rfl; have h13 : (-5 : Int32).toInt = -5 := rfl; have h14 : (-3 : Int32).toInt = -3 := rfl; omega)), rfl⟩) (by first | exact mp_fd_ok mp_k_cX9_shuts_ok (by decide +kernel) | decide +kernel)
      · have c_19 : 0 ≤ x2.toInt := c_19
        show mp_W E X 6 29 [(4, .ref a2), (0, .ref a0), (1, .int x0), (2, .int x1), (3, .int x2)] [] w3_ 0 0
        refine mp_run mp_k_cX9_shuts_ok hF mp_tabX9_ok [mp_i (.iload_n 3), mp_c (.iconst 1) 1, mp_h (.if_icmp .le 6) [37]] (by decide +kernel) ?_
        refine And.intro (fun c_20 => ?_) (fun c_20 => ?_)
        · have c_20 : x2.toInt ≤ 1 := c_20
          show mp_W E X 6 37 [(4, .ref a2), (0, .ref a0), (1, .int x0), (2, .int x1), (3, .int x2)] [] w3_ 0 0
          refine mp_run mp_k_cX9_shuts_ok hF mp_tabX9_ok [mp_i (.aload 4), mp_h (.getfield 214) [5, 3], mp_h (.ifCond .le 6) [48]] (by decide +kernel) ?_
          refine And.intro rfl (And.intro rfl ?_)
          refine And.intro (fun c_21 => ?_) (fun c_21 => ?_)
          · have c_21 : y6.toInt ≤ 0 := c_21
            show mp_W E X 6 48 [(4, .ref a2), (0, .ref a0), (1, .int x0), (2, .int x1), (3, .int x2)] [] w3_ 0 0
            refine mp_run mp_k_cX9_shuts_ok hF mp_tabX9_ok [mp_i (.aload 4), mp_i (.iload_n 1), mp_i (.iload_n 2)] (by decide +kernel) ?_
            show mp_W E X 6 52 [(4, .ref a2), (0, .ref a0), (1, .int x0), (2, .int x1), (3, .int x2)] [.int x1, .int x0, .ref a2] w3_ 0 0
            refine mp_callV hF (As := [.int x0, .int x1]) (rest := []) (wr := [(mp_ob9 a0 a4 a1 a5 a6 a7 a8 a9 a10 a11), (mp_ob0 a1 a2 y0 a12 a13 a14 a15 a16 a17)]) (bX7_isShut_58 E a2 a3 a18 a19 a20 a21 a22 a23 a24 a25 a26 a27 a28 f0 y1 y2 y3 y4 y5 y6 x0 x1 (by (first | exact c_5 | omega)) (by (first | exact mp_o398 u_y2 c_6 | omega)) (by (first | exact c_14 | omega)) (by (first | exact c_15 | omega)) l_y2 u_y2 l_y3 u_y3 l_y4 u_y4 l_y5 u_y5 l_y6 u_y6) mp_lkX9_151 3 rfl [3, 2] [0, 1] rfl rfl rfl rfl rfl ⟨(Nat.le_of_ble_eq_true rfl), (Nat.le_of_ble_eq_true rfl), (Nat.le_of_ble_eq_true rfl), (Nat.le_of_ble_eq_true rfl)⟩ (Nat.le_of_ble_eq_true rfl) (by first | exact mp_fd_ok mp_k_cX9_shuts_ok (by decide +kernel) | decide +kernel) (fun v_22 w_23 h_24 => ?_)
            rcases h_24 with ⟨rfl, x_25, rfl⟩ | ⟨rfl, x_26, rfl⟩
            · skip
              show mp_W E X 6 55 [(4, .ref a2), (0, .ref a0), (1, .int x0), (2, .int x1), (3, .int x2)] [.int 0] w1_ 0 0
              refine mp_run mp_k_cX9_shuts_ok hF mp_tabX9_ok [mp_h (.ifCond .eq 7) [62]] (by decide +kernel) ?_
              refine And.intro (fun _ => ?_) (fun c_27 => absurd c_27 (by decide))
              show mp_W E X 6 62 [(4, .ref a2), (0, .ref a0), (1, .int x0), (2, .int x1), (3, .int x2)] [] w1_ 0 0
              refine mp_run mp_k_cX9_shuts_ok hF mp_tabX9_ok [mp_c (.iconst 0) 0, mp_i (.istore 5), mp_i (.aload 4), mp_i (.iload_n 1), mp_i (.iload_n 2), mp_i (.iload_n 3), mp_c (.iconst 1) 1, mp_h (.if_icmp .ne 7) [78]] (by decide +kernel) ?_
              refine And.intro (fun c_28 => ?_) (fun c_28 => ?_)
              · have c_28 : x2.toInt ≠ 1 := c_28
                show mp_W E X 6 78 [(5, .int 0), (4, .ref a2), (0, .ref a0), (1, .int x0), (2, .int x1), (3, .int x2)] [.int x1, .int x0, .ref a2] w1_ 0 0
                refine mp_run mp_k_cX9_shuts_ok hF mp_tabX9_ok [mp_c (.iconst 0) 0] (by decide +kernel) ?_
                show mp_W E X 6 79 [(5, .int 0), (4, .ref a2), (0, .ref a0), (1, .int x0), (2, .int x1), (3, .int x2)] [.int 0, .int x1, .int x0, .ref a2] w1_ 0 0
                refine mp_callV hF (As := [.int x0, .int x1, .int 0]) (rest := []) (wr := [(mp_ob9 a0 a4 a1 a5 a6 a7 a8 a9 a10 a11), (mp_ob0 a1 a2 y0 a12 a13 a14 a15 a16 a17)]) (bX7_setShut_23 E a2 a3 a18 a19 a20 a21 a22 a23 a24 a25 a26 a27 a28 f0 y1 y2 y3 y4 y5 y6 x0 x1 0 (by (first | exact c_5 | omega)) (by (first | exact mp_o398 u_y2 c_6 | omega)) (by (first | exact c_14 | omega)) (by (first | exact c_15 | omega)) l_y2 u_y2 l_y3 u_y3 l_y4 u_y4 l_y5 u_y5 l_y6 u_y6) mp_lkX9_333 2 rfl [2, 3] [0, 1] rfl rfl rfl rfl rfl ⟨(Nat.le_of_ble_eq_true rfl), (Nat.le_of_ble_eq_true rfl), (Nat.le_of_ble_eq_true rfl), (Nat.le_of_ble_eq_true rfl)⟩ (Nat.le_of_ble_eq_true rfl) (by first | exact mp_fd_ok mp_k_cX9_shuts_ok (by decide +kernel) | decide +kernel) (fun v_29 w_30 h_31 => ?_)
                obtain ⟨g_32, rfl, x_33, x_34, rfl⟩ := h_31
                let w4_ : va_W := [(mp_ob9 a0 a4 a1 a5 a6 a7 a8 a9 a10 a11), (mp_ob0 a1 a2 y0 a12 a13 a14 a15 a16 a17), (mp_ob7 a2 y1 y2 y3 y4 y5 y6 a18 a3 a19 a20 a21 a22 a23 a24 a25 a26 a27 a28), (mp_arL E a3 12 g_32)]
                show mp_W E X 6 82 [(5, .int 0), (4, .ref a2), (0, .ref a0), (1, .int x0), (2, .int x1), (3, .int x2)] [] w4_ 0 0
                refine mp_run mp_k_cX9_shuts_ok hF mp_tabX9_ok [mp_i (.iload 5)] (by decide +kernel) ?_
                show mp_W E X 6 84 [(5, .int 0), (4, .ref a2), (0, .ref a0), (1, .int x0), (2, .int x1), (3, .int x2)] [.int 0] w4_ 0 0
                exact mp_iret hF hQ rfl rfl (Nat.le_of_ble_eq_true rfl) (Nat.le_of_ble_eq_true rfl) [0, 1, 2, 3] (w' := w4_) rfl rfl (Or.inr (Or.inl ⟨g_32, 0, rfl, (by first | (first | exact c_5 | omega) | decide), (by first | (first | exact c_6 | omega) | decide), (by first | (first | exact c_14 | omega) | decide), (by first | (first | exact c_15 | omega) | decide), (by first | (first | exact c_19 | omega) | decide), (by first | (first | exact c_20 | omega) | decide), (by first | (first | exact c_21 | omega) | decide), (by decide), (by decide), (by first | (first | exact mp_o846 c_5 c_14 c_19 c_6 c_15 c_20 | omega) | decide | (have h8 : (0 : Int64).toInt = 0 := rfl; have h9 : (-1 : Int32).toInt = -1 := rfl; have h10 : (-2 : Int32).toInt = -2 := rfl; have h11 : (0 : Int32).toInt = 0 := rfl; have h12 : (1 : Int32).toInt = 1 := rfl; have h13 : (-5 : Int32).toInt = -5 := rfl; have h14 : (-3 : Int32).toInt = -3 := rfl; omega)), (by first | (first | exact c_21 | omega) | decide | (have h8 : (0 : Int64).toInt = 0 := rfl; have h9 : (-1 : Int32).toInt = -1 := rfl; have h10 : (-2 : Int32).toInt = -2 := rfl; have h11 : (0 : Int32).toInt = 0 := rfl; have h12 : (1 : Int32).toInt = 1 := rfl; have h13 : (-5 : Int32).toInt = -5 := rfl; have h14 : (-3 : Int32).toInt = -3 := rfl; omega)), (Or.inr ⟨x_25, (by first | fail | decide | (have h8 : (0 : Int64).toInt = 0 := rfl; have h9 : (-1 : Int32).toInt = -1 := rfl; have h10 : (-2 : Int32).toInt = -2 := rfl; have h11 : (0 : Int32).toInt = 0 := rfl; have h12 : (1 : Int32).toInt = 1 := rfl; have h13 : (-5 : Int32).toInt = -5 := rfl; have h14 : (-3 : Int32).toInt = -3 := rfl; omega))⟩), (by by_cases q9 : x2.toInt = 1; (first | (have k9 := x_33.resolve_left (by first | omega | decide | (have h8 : (0 : Int64).toInt = 0 := rfl; have h9 : (-1 : Int32).toInt = -1 := rfl; have h10 : (-2 : Int32).toInt = -2 := rfl; have h11 : (0 : Int32).toInt = 0 := rfl; have h12 : (1 : Int32).toInt = 1 := rfl; have h13 : (-5 : Int32).toInt = -5 := rfl; have h14 : (-3 : Int32).toInt = -3 := rfl; omega)); rw [k9, decide_eq_true q9]) | (exfalso; omega)); (first | (have k9 := x_34.resolve_left (by first | fail | decide | (have h8 : (0 : Int64).toInt = 0 := rfl; have h9 : (-1 : Int32).toInt = -1 := rfl; have h10 : (-2 : Int32).toInt = -2 := rfl; have h11 : (0 : Int32).toInt = 0 := rfl; have h12 : (1 : Int32).toInt = 1 := rfl; have h13 : (-5 : Int32).toInt = -5 := rfl; have h14 : (-3 : Int32).toInt = -3 := rfl; omega)); rw [k9, decide_eq_false q9]) | (exfalso; omega))), rfl⟩)) (by first | exact mp_fd_ok mp_k_cX9_shuts_ok (by decide +kernel) | decide +kernel)
              · have c_28 : x2.toInt = 1 := (congrArg Int32.toInt c_28)
                show mp_W E X 6 74 [(5, .int 0), (4, .ref a2), (0, .ref a0), (1, .int x0), (2, .int x1), (3, .int x2)] [.int x1, .int x0, .ref a2] w1_ 0 0
                refine mp_run mp_k_cX9_shuts_ok hF mp_tabX9_ok [mp_c (.iconst 1) 1, mp_h (.goto 4) [79]] (by decide +kernel) ?_
                show mp_W E X 6 79 [(5, .int 0), (4, .ref a2), (0, .ref a0), (1, .int x0), (2, .int x1), (3, .int x2)] [.int 1, .int x1, .int x0, .ref a2] w1_ 0 0
                refine mp_callV hF (As := [.int x0, .int x1, .int 1]) (rest := []) (wr := [(mp_ob9 a0 a4 a1 a5 a6 a7 a8 a9 a10 a11), (mp_ob0 a1 a2 y0 a12 a13 a14 a15 a16 a17)]) (bX7_setShut_23 E a2 a3 a18 a19 a20 a21 a22 a23 a24 a25 a26 a27 a28 f0 y1 y2 y3 y4 y5 y6 x0 x1 1 (by (first | exact c_5 | omega)) (by (first | exact mp_o398 u_y2 c_6 | omega)) (by (first | exact c_14 | omega)) (by (first | exact c_15 | omega)) l_y2 u_y2 l_y3 u_y3 l_y4 u_y4 l_y5 u_y5 l_y6 u_y6) mp_lkX9_333 2 rfl [2, 3] [0, 1] rfl rfl rfl rfl rfl ⟨(Nat.le_of_ble_eq_true rfl), (Nat.le_of_ble_eq_true rfl), (Nat.le_of_ble_eq_true rfl), (Nat.le_of_ble_eq_true rfl)⟩ (Nat.le_of_ble_eq_true rfl) (by first | exact mp_fd_ok mp_k_cX9_shuts_ok (by decide +kernel) | decide +kernel) (fun v_35 w_36 h_37 => ?_)
                obtain ⟨g_38, rfl, x_39, x_40, rfl⟩ := h_37
                let w5_ : va_W := [(mp_ob9 a0 a4 a1 a5 a6 a7 a8 a9 a10 a11), (mp_ob0 a1 a2 y0 a12 a13 a14 a15 a16 a17), (mp_ob7 a2 y1 y2 y3 y4 y5 y6 a18 a3 a19 a20 a21 a22 a23 a24 a25 a26 a27 a28), (mp_arL E a3 12 g_38)]
                show mp_W E X 6 82 [(5, .int 0), (4, .ref a2), (0, .ref a0), (1, .int x0), (2, .int x1), (3, .int x2)] [] w5_ 0 0
                refine mp_run mp_k_cX9_shuts_ok hF mp_tabX9_ok [mp_i (.iload 5)] (by decide +kernel) ?_
                show mp_W E X 6 84 [(5, .int 0), (4, .ref a2), (0, .ref a0), (1, .int x0), (2, .int x1), (3, .int x2)] [.int 0] w5_ 0 0
                exact mp_iret hF hQ rfl rfl (Nat.le_of_ble_eq_true rfl) (Nat.le_of_ble_eq_true rfl) [0, 1, 2, 3] (w' := w5_) rfl rfl (Or.inr (Or.inl ⟨g_38, 0, rfl, (by first | (first | exact c_5 | omega) | decide), (by first | (first | exact c_6 | omega) | decide), (by first | (first | exact c_14 | omega) | decide), (by first | (first | exact c_15 | omega) | decide), (by first | (first | exact c_19 | omega) | decide), (by first | (first | exact c_20 | omega) | decide), (by first | (first | exact c_21 | omega) | decide), (by decide), (by decide), (by first | (first | exact mp_o847 c_5 c_14 c_6 c_15 c_28 | omega) | decide | (have h8 : (0 : Int64).toInt = 0 := rfl; have h9 : (-1 : Int32).toInt = -1 := rfl; have h10 : (-2 : Int32).toInt = -2 := rfl; have h11 : (0 : Int32).toInt = 0 := rfl; have h12 : (1 : Int32).toInt = 1 := rfl; have h13 : (-5 : Int32).toInt = -5 := rfl; have h14 : (-3 : Int32).toInt = -3 := rfl; omega)), (by first | (first | exact c_21 | omega) | decide | (have h8 : (0 : Int64).toInt = 0 := rfl; have h9 : (-1 : Int32).toInt = -1 := rfl; have h10 : (-2 : Int32).toInt = -2 := rfl; have h11 : (0 : Int32).toInt = 0 := rfl; have h12 : (1 : Int32).toInt = 1 := rfl; have h13 : (-5 : Int32).toInt = -5 := rfl; have h14 : (-3 : Int32).toInt = -3 := rfl; omega)), (Or.inr ⟨x_25, (by first | fail | decide | (have h8 : (0 : Int64).toInt = 0 := rfl; have h9 : (-1 : Int32).toInt = -1 := rfl; have h10 : (-2 : Int32).toInt = -2 := rfl; have h11 : (0 : Int32).toInt = 0 := rfl; have h12 : (1 : Int32).toInt = 1 := rfl; have h13 : (-5 : Int32).toInt = -5 := rfl; have h14 : (-3 : Int32).toInt = -3 := rfl; omega))⟩), (by by_cases q9 : x2.toInt = 1; (first | (have k9 := x_39.resolve_left (by first | (first | exact h_1 | omega) | decide | (have h8 : (0 : Int64).toInt = 0 := rfl; have h9 : (-1 : Int32).toInt = -1 := rfl; have h10 : (-2 : Int32).toInt = -2 := rfl; have h11 : (0 : Int32).toInt = 0 := rfl; have h12 : (1 : Int32).toInt = 1 := rfl; have h13 : (-5 : Int32).toInt = -5 := rfl; have h14 : (-3 : Int32).toInt = -3 := rfl; omega)); rw [k9, decide_eq_true q9]) | (exfalso; omega)); (first | (have k9 := x_40.resolve_left (by first | (first | exact mp_o848 c_28 q9 | omega) | decide | (have h8 : (0 : Int64).toInt = 0 := rfl; have h9 : (-1 : Int32).toInt = -1 := rfl; have h10 : (-2 : Int32).toInt = -2 := rfl; have h11 : (0 : Int32).toInt = 0 := rfl; have h12 : (1 : Int32).toInt = 1 := rfl; have h13 : (-5 : Int32).toInt = -5 := rfl; have h14 : (-3 : Int32).toInt = -3 := rfl; omega)); rw [k9, decide_eq_false q9]) | (exfalso; omega))), rfl⟩)) (by first | exact mp_fd_ok mp_k_cX9_shuts_ok (by decide +kernel) | decide +kernel)
            · skip
              show mp_W E X 6 55 [(4, .ref a2), (0, .ref a0), (1, .int x0), (2, .int x1), (3, .int x2)] [.int 1] w1_ 0 0
              refine mp_run mp_k_cX9_shuts_ok hF mp_tabX9_ok [mp_h (.ifCond .eq 7) [62]] (by decide +kernel) ?_
              refine And.intro (fun c_41 => absurd c_41 (by decide)) (fun _ => ?_)
              show mp_W E X 6 58 [(4, .ref a2), (0, .ref a0), (1, .int x0), (2, .int x1), (3, .int x2)] [] w1_ 0 0
              refine mp_run mp_k_cX9_shuts_ok hF mp_tabX9_ok [mp_c (.iconst 1) 1, mp_h (.goto 4) [63], mp_i (.istore 5), mp_i (.aload 4), mp_i (.iload_n 1), mp_i (.iload_n 2), mp_i (.iload_n 3), mp_c (.iconst 1) 1, mp_h (.if_icmp .ne 7) [78]] (by decide +kernel) ?_
              refine And.intro (fun c_42 => ?_) (fun c_42 => ?_)
              · have c_42 : x2.toInt ≠ 1 := c_42
                show mp_W E X 6 78 [(5, .int 1), (4, .ref a2), (0, .ref a0), (1, .int x0), (2, .int x1), (3, .int x2)] [.int x1, .int x0, .ref a2] w1_ 0 0
                refine mp_run mp_k_cX9_shuts_ok hF mp_tabX9_ok [mp_c (.iconst 0) 0] (by decide +kernel) ?_
                show mp_W E X 6 79 [(5, .int 1), (4, .ref a2), (0, .ref a0), (1, .int x0), (2, .int x1), (3, .int x2)] [.int 0, .int x1, .int x0, .ref a2] w1_ 0 0
                refine mp_callV hF (As := [.int x0, .int x1, .int 0]) (rest := []) (wr := [(mp_ob9 a0 a4 a1 a5 a6 a7 a8 a9 a10 a11), (mp_ob0 a1 a2 y0 a12 a13 a14 a15 a16 a17)]) (bX7_setShut_23 E a2 a3 a18 a19 a20 a21 a22 a23 a24 a25 a26 a27 a28 f0 y1 y2 y3 y4 y5 y6 x0 x1 0 (by (first | exact c_5 | omega)) (by (first | exact mp_o398 u_y2 c_6 | omega)) (by (first | exact c_14 | omega)) (by (first | exact c_15 | omega)) l_y2 u_y2 l_y3 u_y3 l_y4 u_y4 l_y5 u_y5 l_y6 u_y6) mp_lkX9_333 2 rfl [2, 3] [0, 1] rfl rfl rfl rfl rfl ⟨(Nat.le_of_ble_eq_true rfl), (Nat.le_of_ble_eq_true rfl), (Nat.le_of_ble_eq_true rfl), (Nat.le_of_ble_eq_true rfl)⟩ (Nat.le_of_ble_eq_true rfl) (by first | exact mp_fd_ok mp_k_cX9_shuts_ok (by decide +kernel) | decide +kernel) (fun v_43 w_44 h_45 => ?_)
                obtain ⟨g_46, rfl, x_47, x_48, rfl⟩ := h_45
                let w6_ : va_W := [(mp_ob9 a0 a4 a1 a5 a6 a7 a8 a9 a10 a11), (mp_ob0 a1 a2 y0 a12 a13 a14 a15 a16 a17), (mp_ob7 a2 y1 y2 y3 y4 y5 y6 a18 a3 a19 a20 a21 a22 a23 a24 a25 a26 a27 a28), (mp_arL E a3 12 g_46)]
                show mp_W E X 6 82 [(5, .int 1), (4, .ref a2), (0, .ref a0), (1, .int x0), (2, .int x1), (3, .int x2)] [] w6_ 0 0
                refine mp_run mp_k_cX9_shuts_ok hF mp_tabX9_ok [mp_i (.iload 5)] (by decide +kernel) ?_
                show mp_W E X 6 84 [(5, .int 1), (4, .ref a2), (0, .ref a0), (1, .int x0), (2, .int x1), (3, .int x2)] [.int 1] w6_ 0 0
                exact mp_iret hF hQ rfl rfl (Nat.le_of_ble_eq_true rfl) (Nat.le_of_ble_eq_true rfl) [0, 1, 2, 3] (w' := w6_) rfl rfl (Or.inr (Or.inl ⟨g_46, 1, rfl, (by first | (first | exact c_5 | omega) | decide), (by first | (first | exact c_6 | omega) | decide), (by first | (first | exact c_14 | omega) | decide), (by first | (first | exact c_15 | omega) | decide), (by first | (first | exact c_19 | omega) | decide), (by first | (first | exact c_20 | omega) | decide), (by first | (first | exact c_21 | omega) | decide), (by decide), (by decide), (by first | (first | exact mp_o846 c_5 c_14 c_19 c_6 c_15 c_20 | omega) | decide | (have h8 : (0 : Int64).toInt = 0 := rfl; have h9 : (-1 : Int32).toInt = -1 := rfl; have h10 : (-2 : Int32).toInt = -2 := rfl; have h11 : (0 : Int32).toInt = 0 := rfl; have h12 : (1 : Int32).toInt = 1 := rfl; have h13 : (-5 : Int32).toInt = -5 := rfl; have h14 : (-3 : Int32).toInt = -3 := rfl; omega)), (by first | (first | exact c_21 | omega) | decide | (have h8 : (0 : Int64).toInt = 0 := rfl; have h9 : (-1 : Int32).toInt = -1 := rfl; have h10 : (-2 : Int32).toInt = -2 := rfl; have h11 : (0 : Int32).toInt = 0 := rfl; have h12 : (1 : Int32).toInt = 1 := rfl; have h13 : (-5 : Int32).toInt = -5 := rfl; have h14 : (-3 : Int32).toInt = -3 := rfl; omega)), (Or.inl ⟨x_26, (by first | fail | decide | (have h8 : (0 : Int64).toInt = 0 := rfl; have h9 : (-1 : Int32).toInt = -1 := rfl; have h10 : (-2 : Int32).toInt = -2 := rfl; have h11 : (0 : Int32).toInt = 0 := rfl; have h12 : (1 : Int32).toInt = 1 := rfl; have h13 : (-5 : Int32).toInt = -5 := rfl; have h14 : (-3 : Int32).toInt = -3 := rfl; omega))⟩), (by by_cases q9 : x2.toInt = 1; (first | (have k9 := x_47.resolve_left (by first | omega | decide | (have h8 : (0 : Int64).toInt = 0 := rfl; have h9 : (-1 : Int32).toInt = -1 := rfl; have h10 : (-2 : Int32).toInt = -2 := rfl; have h11 : (0 : Int32).toInt = 0 := rfl; have h12 : (1 : Int32).toInt = 1 := rfl; have h13 : (-5 : Int32).toInt = -5 := rfl; have h14 : (-3 : Int32).toInt = -3 := rfl; omega)); rw [k9, decide_eq_true q9]) | (exfalso; omega)); (first | (have k9 := x_48.resolve_left (by first | fail | decide | (have h8 : (0 : Int64).toInt = 0 := rfl; have h9 : (-1 : Int32).toInt = -1 := rfl; have h10 : (-2 : Int32).toInt = -2 := rfl; have h11 : (0 : Int32).toInt = 0 := rfl; have h12 : (1 : Int32).toInt = 1 := rfl; have h13 : (-5 : Int32).toInt = -5 := rfl; have h14 : (-3 : Int32).toInt = -3 := rfl; omega)); rw [k9, decide_eq_false q9]) | (exfalso; omega))), rfl⟩)) (by first | exact mp_fd_ok mp_k_cX9_shuts_ok (by decide +kernel) | decide +kernel)
              · have c_42 : x2.toInt = 1 := (congrArg Int32.toInt c_42)
                show mp_W E X 6 74 [(5, .int 1), (4, .ref a2), (0, .ref a0), (1, .int x0), (2, .int x1), (3, .int x2)] [.int x1, .int x0, .ref a2] w1_ 0 0
                refine mp_run mp_k_cX9_shuts_ok hF mp_tabX9_ok [mp_c (.iconst 1) 1, mp_h (.goto 4) [79]] (by decide +kernel) ?_
                show mp_W E X 6 79 [(5, .int 1), (4, .ref a2), (0, .ref a0), (1, .int x0), (2, .int x1), (3, .int x2)] [.int 1, .int x1, .int x0, .ref a2] w1_ 0 0
                refine mp_callV hF (As := [.int x0, .int x1, .int 1]) (rest := []) (wr := [(mp_ob9 a0 a4 a1 a5 a6 a7 a8 a9 a10 a11), (mp_ob0 a1 a2 y0 a12 a13 a14 a15 a16 a17)]) (bX7_setShut_23 E a2 a3 a18 a19 a20 a21 a22 a23 a24 a25 a26 a27 a28 f0 y1 y2 y3 y4 y5 y6 x0 x1 1 (by (first | exact c_5 | omega)) (by (first | exact mp_o398 u_y2 c_6 | omega)) (by (first | exact c_14 | omega)) (by (first | exact c_15 | omega)) l_y2 u_y2 l_y3 u_y3 l_y4 u_y4 l_y5 u_y5 l_y6 u_y6) mp_lkX9_333 2 rfl [2, 3] [0, 1] rfl rfl rfl rfl rfl ⟨(Nat.le_of_ble_eq_true rfl), (Nat.le_of_ble_eq_true rfl), (Nat.le_of_ble_eq_true rfl), (Nat.le_of_ble_eq_true rfl)⟩ (Nat.le_of_ble_eq_true rfl) (by first | exact mp_fd_ok mp_k_cX9_shuts_ok (by decide +kernel) | decide +kernel) (fun v_49 w_50 h_51 => ?_)
                obtain ⟨g_52, rfl, x_53, x_54, rfl⟩ := h_51
                let w7_ : va_W := [(mp_ob9 a0 a4 a1 a5 a6 a7 a8 a9 a10 a11), (mp_ob0 a1 a2 y0 a12 a13 a14 a15 a16 a17), (mp_ob7 a2 y1 y2 y3 y4 y5 y6 a18 a3 a19 a20 a21 a22 a23 a24 a25 a26 a27 a28), (mp_arL E a3 12 g_52)]
                show mp_W E X 6 82 [(5, .int 1), (4, .ref a2), (0, .ref a0), (1, .int x0), (2, .int x1), (3, .int x2)] [] w7_ 0 0
                refine mp_run mp_k_cX9_shuts_ok hF mp_tabX9_ok [mp_i (.iload 5)] (by decide +kernel) ?_
                show mp_W E X 6 84 [(5, .int 1), (4, .ref a2), (0, .ref a0), (1, .int x0), (2, .int x1), (3, .int x2)] [.int 1] w7_ 0 0
                exact mp_iret hF hQ rfl rfl (Nat.le_of_ble_eq_true rfl) (Nat.le_of_ble_eq_true rfl) [0, 1, 2, 3] (w' := w7_) rfl rfl (Or.inr (Or.inl ⟨g_52, 1, rfl, (by first | (first | exact c_5 | omega) | decide), (by first | (first | exact c_6 | omega) | decide), (by first | (first | exact c_14 | omega) | decide), (by first | (first | exact c_15 | omega) | decide), (by first | (first | exact c_19 | omega) | decide), (by first | (first | exact c_20 | omega) | decide), (by first | (first | exact c_21 | omega) | decide), (by decide), (by decide), (by first | (first | exact mp_o847 c_5 c_14 c_6 c_15 c_42 | omega) | decide | (have h8 : (0 : Int64).toInt = 0 := rfl; have h9 : (-1 : Int32).toInt = -1 := rfl; have h10 : (-2 : Int32).toInt = -2 := rfl; have h11 : (0 : Int32).toInt = 0 := rfl; have h12 : (1 : Int32).toInt = 1 := rfl; have h13 : (-5 : Int32).toInt = -5 := rfl; have h14 : (-3 : Int32).toInt = -3 := rfl; omega)), (by first | (first | exact c_21 | omega) | decide | (have h8 : (0 : Int64).toInt = 0 := rfl; have h9 : (-1 : Int32).toInt = -1 := rfl; have h10 : (-2 : Int32).toInt = -2 := rfl; have h11 : (0 : Int32).toInt = 0 := rfl; have h12 : (1 : Int32).toInt = 1 := rfl; have h13 : (-5 : Int32).toInt = -5 := rfl; have h14 : (-3 : Int32).toInt = -3 := rfl; omega)), (Or.inl ⟨x_26, (by first | fail | decide | (have h8 : (0 : Int64).toInt = 0 := rfl; have h9 : (-1 : Int32).toInt = -1 := rfl; have h10 : (-2 : Int32).toInt = -2 := rfl; have h11 : (0 : Int32).toInt = 0 := rfl; have h12 : (1 : Int32).toInt = 1 := rfl; have h13 : (-5 : Int32).toInt = -5 := rfl; have h14 : (-3 : Int32).toInt = -3 := rfl; omega))⟩), (by by_cases q9 : x2.toInt = 1; (first | (have k9 := x_53.resolve_left (by first | (first | exact h_2 | omega) | decide | (have h8 : (0 : Int64).toInt = 0 := rfl; have h9 : (-1 : Int32).toInt = -1 := rfl; have h10 : (-2 : Int32).toInt = -2 := rfl; have h11 : (0 : Int32).toInt = 0 := rfl; have h12 : (1 : Int32).toInt = 1 := rfl; have h13 : (-5 : Int32).toInt = -5 := rfl; have h14 : (-3 : Int32).toInt = -3 := rfl; omega)); rw [k9, decide_eq_true q9]) | (exfalso; omega)); (first | (have k9 := x_54.resolve_left (by first | (first | exact mp_o848 c_42 q9 | omega) | decide | (have h8 : (0 : Int64).toInt = 0 := rfl; have h9 : (-1 : Int32).toInt = -1 := rfl; have h10 : (-2 : Int32).toInt = -2 := rfl; have h11 : (0 : Int32).toInt = 0 := rfl; have h12 : (1 : Int32).toInt = 1 := rfl; have h13 : (-5 : Int32).toInt = -5 := rfl; have h14 : (-3 : Int32).toInt = -3 := rfl; omega)); rw [k9, decide_eq_false q9]) | (exfalso; omega))), rfl⟩)) (by first | exact mp_fd_ok mp_k_cX9_shuts_ok (by decide +kernel) | decide +kernel)
          · have c_21 : 0 < y6.toInt := c_21
            show mp_W E X 6 45 [(4, .ref a2), (0, .ref a0), (1, .int x0), (2, .int x1), (3, .int x2)] [] w3_ 0 0
            refine mp_run mp_k_cX9_shuts_ok hF mp_tabX9_ok [mp_c (.bipush (-5)) (-5)] (by decide +kernel) ?_
            show mp_W E X 6 47 [(4, .ref a2), (0, .ref a0), (1, .int x0), (2, .int x1), (3, .int x2)] [.int (-5)] w3_ 0 0
            exact mp_iret hF hQ rfl rfl (Nat.le_of_ble_eq_true rfl) (Nat.le_of_ble_eq_true rfl) [0, 1, 3, 2] (w' := w1_) rfl rfl (Or.inr (Or.inr ⟨rfl, (by first | (first | exact c_5 | omega) | decide), (by first | (first | exact c_6 | omega) | decide), (by first | (first | exact c_14 | omega) | decide), (by first | (first | exact c_15 | omega) | decide), (by first | (first | exact c_19 | omega) | decide), (by first | (first | exact c_20 | omega) | decide), (by first | (first | exact c_21 | omega) | decide), (by first | (first | exact mp_o846 c_5 c_14 c_19 c_6 c_15 c_20 | omega) | decide | (have h8 : (0 : Int64).toInt = 0 := rfl; have h9 : (-1 : Int32).toInt = -1 := rfl; have h10 : (-2 : Int32).toInt = -2 := rfl; have h11 : (0 : Int32).toInt = 0 := rfl; have h12 : (1 : Int32).toInt = 1 := rfl; have h13 : (-5 : Int32).toInt = -5 := rfl; have h14 : (-3 : Int32).toInt = -3 := rfl; omega)), (by first | (first | exact c_21 | omega) | decide | (have h8 : (0 : Int64).toInt = 0 := rfl; have h9 : (-1 : Int32).toInt = -1 := rfl; have h10 : (-2 : Int32).toInt = -2 := rfl; have h11 : (0 : Int32).toInt = 0 := rfl; have h12 : (1 : Int32).toInt = 1 := rfl; have h13 : (-5 : Int32).toInt = -5 := rfl; have h14 : (-3 : Int32).toInt = -3 := rfl; omega)), rfl⟩)) (by first | exact mp_fd_ok mp_k_cX9_shuts_ok (by decide +kernel) | decide +kernel)
        · have c_20 : 1 < x2.toInt := c_20
          show mp_W E X 6 34 [(4, .ref a2), (0, .ref a0), (1, .int x0), (2, .int x1), (3, .int x2)] [] w3_ 0 0
          refine mp_run mp_k_cX9_shuts_ok hF mp_tabX9_ok [mp_c (.bipush (-2)) (-2)] (by decide +kernel) ?_
          show mp_W E X 6 36 [(4, .ref a2), (0, .ref a0), (1, .int x0), (2, .int x1), (3, .int x2)] [.int (-2)] w3_ 0 0
          exact mp_iret hF hQ rfl rfl (Nat.le_of_ble_eq_true rfl) (Nat.le_of_ble_eq_true rfl) [0, 1, 3, 2] (w' := w1_) rfl rfl (Or.inl ⟨rfl, (by first | (first | exact mp_o849 c_20 | omega) | decide | (have h8 : (0 : Int64).toInt = 0 := rfl; have h9 : (-1 : Int32).toInt = -1 := rfl; have h10 : (-2 : Int32).toInt = -2 := rfl; have h11 : (0 : Int32).toInt = 0 := rfl; have h12 : (1 : Int32).toInt = 1 := rfl; have h13 : (-5 : Int32).toInt = -5 := rfl; have h14 : (-3 : Int32).toInt = -3 := rfl; omega)), rfl⟩) (by first | exact mp_fd_ok mp_k_cX9_shuts_ok (by decide +kernel) | decide +kernel)
