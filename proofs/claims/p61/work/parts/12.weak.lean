set_option maxHeartbeats 4000000 in
set_option maxRecDepth 100000 in
theorem bJ7_fill_d0a16_45 (E : mp_E) (a0 : Nat) (f0 : Nat → Int64) (x0 : Int64) : mp_Ct E yJ7_fill_d0a16 cJ7_fill_d0a16 5 none 0 0 0 0 [.ref a0, .long x0] [(mp_arL E a0 20 f0)] (fun v w' => ∃ h1 : Nat → Int64, v = none ∧ (∀ j : Nat, (j : Int) < 20 → h1 j = x0) ∧ w' = [(mp_arL E a0 20 h1)]) := by
  refine mp_met false (by decide) (by decide) (Nat.le_of_ble_eq_true rfl) (fun X hF hQ => ?_)
  have hF : mp_F E X (RJ7, cJ7_fill_d0a16, 5, (0, 0, 0, 0), none, false) := hF
  show mp_W E X 5 0 [(0, .ref a0), (1, .long x0)] [] [(mp_arL E a0 20 f0)] 0 0
  refine mp_run mp_k_cJ7_fill_d0a16_ok hF mp_tab0_ok [mp_c (.iconst 0) 0, mp_i (.istore_n 3), mp_i (.aload_n 0), mp_h .arraylength [0, 2], mp_i (.istore 4)] (by decide +kernel) ?_
  refine And.intro rfl (And.intro rfl (And.intro (by decide) ?_))
  intro z_1 h_2
  obtain rfl : z_1 = 20 := h_2.trans (show Int32.ofNat 20 = (20 : Int32) by decide)
  show mp_W E X 5 6 [(4, .int 20), (3, .int 0), (0, .ref a0), (1, .long x0)] [] [(mp_arL E a0 20 f0)] 0 0
  have lp_9 : ∀ (d_10 : Nat) (i_3 : Int32) (g_4 : Nat → Int64), 0 ≤ i_3.toInt → i_3.toInt ≤ 20 → (∀ j : Nat, (j : Int) < i_3.toInt → g_4 j = x0) → (0 ≤ i_3.toInt) → -(i_3.toInt) + 20 ≤ (d_10 : Int) → mp_W E X 5 6 [(4, .int 20), (3, .int i_3), (0, .ref a0), (1, .long x0)] [] [(mp_arL E a0 20 g_4)] 0 0 := by
    intro d_10
    induction d_10 using Nat.strongRecOn with
    | ind d_10 ih_11 =>
      intro i_3 g_4 l_5 u_6 x_7 x_8 hm_12
      refine mp_run mp_k_cJ7_fill_d0a16_ok hF mp_tab0_ok [mp_i (.iload_n 3), mp_i (.iload 4), mp_h (.if_icmp .ge 13) [22]] (by decide +kernel) ?_
      refine And.intro (fun c_13 => ?_) (fun c_13 => ?_)
      · have c_13 : 20 ≤ i_3.toInt := c_13
        show mp_W E X 5 22 [(4, .int 20), (3, .int i_3), (0, .ref a0), (1, .long x0)] [] [(mp_arL E a0 20 g_4)] 0 0
        exact mp_vret hF hQ rfl (Nat.le_of_ble_eq_true rfl) (Nat.le_of_ble_eq_true rfl) [0] (w' := [(mp_arL E a0 20 g_4)]) rfl rfl ⟨g_4, rfl, (fun j hj => x_7 j (by (first | exact mp_o305 hj c_13 | omega))), rfl⟩ (by first | exact mp_fd_ok mp_k_cJ7_fill_d0a16_ok (by decide +kernel) | decide +kernel)
      · have c_13 : i_3.toInt < 20 := c_13
        show mp_W E X 5 12 [(4, .int 20), (3, .int i_3), (0, .ref a0), (1, .long x0)] [] [(mp_arL E a0 20 g_4)] 0 0
        refine mp_run mp_k_cJ7_fill_d0a16_ok hF mp_tab0_ok [mp_i (.aload_n 0), mp_i (.iload_n 3), mp_i (.lload_n 1), mp_h .lastore [0]] (by decide +kernel) ?_
        refine And.intro rfl (And.intro rfl (And.intro (vp_in_iff.mpr (by (first | exact mp_o306 l_5 c_13 | omega))) ?_))
        intro g_14 h_15
        show mp_W E X 5 16 [(4, .int 20), (3, .int i_3), (0, .ref a0), (1, .long x0)] [] [(mp_arL E a0 20 g_14)] 0 0
        refine mp_run mp_k_cJ7_fill_d0a16_ok hF mp_tab0_ok [mp_c (.iinc 3 1) 1, mp_h (.goto (-13)) [6]] (by decide +kernel) ?_
        intro z_16 h_17
        have e_18 : z_16.toInt = i_3.toInt + 1 := mp_add (a := i_3.toInt) (b := 1) h_17 rfl (by decide) (by (first | exact mp_o2 l_5 | omega)) (by (first | exact mp_o307 c_13 | omega))
        show mp_W E X 5 6 [(3, .int z_16), (4, .int 20), (0, .ref a0), (1, .long x0)] [] [(mp_arL E a0 20 g_14)] 0 0
        exact mp_sub [1, 0, 2, 3] rfl [0] rfl rfl (ih_11 (d_10 - 1) (by (first | exact mp_o308 hm_12 c_13 | omega)) z_16 g_14 (by (first | exact mp_o51 l_5 e_18 | omega)) (by (first | exact mp_o309 c_13 e_18 | omega)) (mp_fill_s x_7 (by rw [h_15]; exact if_pos rfl) (fun j hj => by rw [h_15]; exact if_neg hj) (by (first | exact mp_o53 l_5 e_18 | omega))) (by (first | exact mp_o51 l_5 e_18 | omega)) (by (first | exact mp_o310 hm_12 e_18 | omega)))
  exact mp_sub [0, 1, 2, 3] rfl [0] rfl rfl (lp_9 _ 0 f0 (by decide) (by decide) (fun j hj => absurd hj (by have h8 : (0 : Int32).toInt = 0 := rfl; omega)) (by decide) (Int.self_le_toNat _))
set_option maxHeartbeats 4000000 in
set_option maxRecDepth 100000 in
theorem bX7_oarsBetween_46 (E : mp_E) (a0 a1 a2 a3 a4 a5 a6 a7 a8 a9 a10 a11 a12 : Nat) (f0 : Nat → Int32) (y0 : Int32) (y1 : Int32) (y2 : Int32) (y3 : Int32) (y4 : Int32) (y5 : Int32) (x0 : Int32) (x1 : Int32) (p0 : mp_all f0 36 0 20) (l_x0 : 0 ≤ x0.toInt) (u_x0 : x0.toInt ≤ 5) (l_x1 : 0 ≤ x1.toInt) (u_x1 : x1.toInt ≤ 5) (l_y1 : 0 ≤ y1.toInt) (u_y1 : y1.toInt ≤ 6) (l_y2 : 0 ≤ y2.toInt) (u_y2 : y2.toInt ≤ 99) (l_y3 : 0 ≤ y3.toInt) (u_y3 : y3.toInt ≤ 6) (l_y4 : 0 ≤ y4.toInt) (u_y4 : y4.toInt ≤ 10) (l_y5 : 0 ≤ y5.toInt) (u_y5 : y5.toInt ≤ 60) : mp_Ct E yX7_oarsBetween cX7_oarsBetween 3 (some FieldType.int) 0 0 0 0 [.ref a0, .int x0, .int x1] [(mp_ob7 a0 y0 y1 y2 y3 y4 y5 a1 a2 a3 a4 a5 a6 a7 a8 a9 a10 a11 a12), (mp_arI E a1 0 36 f0)] (fun v w' => ∃ r1 : Int32, v = some (.int r1) ∧ 0 ≤ r1.toInt ∧ r1.toInt ≤ 20 ∧ (r1.toInt = (f0 (6 * x0.toInt + x1.toInt).toNat).toInt) ∧ w' = [(mp_ob7 a0 y0 y1 y2 y3 y4 y5 a1 a2 a3 a4 a5 a6 a7 a8 a9 a10 a11 a12), (mp_arI E a1 0 36 f0)]) := by
  refine mp_met false (by decide) (by decide) (Nat.le_of_ble_eq_true rfl) (fun X hF hQ => ?_)
  have hF : mp_F E X (RX7, cX7_oarsBetween, 3, (0, 0, 0, 0), (some FieldType.int), false) := hF
  let w1_ : va_W := [(mp_ob7 a0 y0 y1 y2 y3 y4 y5 a1 a2 a3 a4 a5 a6 a7 a8 a9 a10 a11 a12), (mp_arI E a1 0 36 f0)]
  show mp_W E X 3 0 [(0, .ref a0), (1, .int x0), (2, .int x1)] [] w1_ 0 0
  refine mp_run mp_k_cX7_oarsBetween_ok hF mp_tabX7_ok [mp_i (.aload_n 0), mp_h (.getfield 9) [6, 0], mp_i (.iload_n 1), mp_c (.bipush 6) 6, mp_i .imul, mp_i (.iload_n 2), mp_i .iadd, mp_h .iaload [1]] (by decide +kernel) ?_
  refine And.intro rfl (And.intro rfl ?_)
  intro z_1 h_2
  have e_3 : z_1.toInt = x0.toInt * 6 := mp_mul (a := x0.toInt) (b := 6) h_2 rfl (by decide) (by (first | exact mp_o249 l_x0 | omega)) (by (first | exact mp_o250 u_x0 | omega))
  intro z_4 h_5
  have e_6 : z_4.toInt = z_1.toInt + x1.toInt := mp_add (a := z_1.toInt) (b := x1.toInt) h_5 rfl rfl (by (first | exact mp_o251 l_x1 l_x0 e_3 | omega)) (by (first | exact mp_o252 u_x1 u_x0 e_3 | omega))
  refine And.intro rfl (And.intro rfl (And.intro (vp_in_iff.mpr (by (first | exact mp_o253 l_x0 u_x0 l_x1 u_x1 e_3 e_6 | omega))) ?_))
  intro z_7 h_8
  have e_9 : 0 ≤ z_7.toInt ∧ z_7.toInt ≤ 20 := mp_all_ld h_8 p0 (by (first | exact mp_o311 l_x0 l_x1 e_3 e_6 | omega)) (by (first | exact mp_o312 u_x0 e_3 u_x1 e_6 | omega))
  have e_10 : z_7.toInt = (f0 (6 * x0.toInt + x1.toInt).toNat).toInt := mp_at_i h_8 (by (first | exact mp_o313 l_x0 l_x1 e_3 e_6 | omega))
  show mp_W E X 3 11 [(0, .ref a0), (1, .int x0), (2, .int x1)] [.int z_7] w1_ 0 0
  exact mp_iret hF hQ rfl rfl (Nat.le_of_ble_eq_true rfl) (Nat.le_of_ble_eq_true rfl) [0, 1] (w' := w1_) rfl rfl ⟨z_7, rfl, e_9.1, e_9.2, (by first | (first | exact e_10 | omega) | decide | (have h8 : (0 : Int64).toInt = 0 := rfl; have h9 : (-1 : Int32).toInt = -1 := rfl; have h10 : (-2 : Int32).toInt = -2 := rfl; have h11 : (0 : Int32).toInt = 0 := rfl; have h12 : (1 : Int32).toInt = 1 := rfl; have h13 : (-5 : Int32).toInt = -5 := rfl; have h14 : (-3 : Int32).toInt = -3 := rfl; omega)), rfl⟩ (by first | exact mp_fd_ok mp_k_cX7_oarsBetween_ok (by decide +kernel) | decide +kernel)
set_option maxHeartbeats 4000000 in
set_option maxRecDepth 100000 in
theorem bX0_apply_47 (E : mp_E) (a0 a1 a2 a3 a4 a5 a6 a7 a8 a9 a10 a11 a12 a13 a14 a15 a16 a17 a18 a19 : Nat) (f0 : Nat → Int32) (f1 : Nat → Int32) (f2 : Nat → Int32) (f3 : Nat → Int32) (f4 : Nat → Int64) (y0 : Int32) (y1 : Int32) (y2 : Int32) (y3 : Int32) (y4 : Int32) (y5 : Int32) (y6 : Int32) (x0 : Int32) (p0 : mp_all f0 36 0 20) (p1 : mp_all f1 6 0 5) (l_x0 : 0 ≤ x0.toInt) (u_x0 : x0.toInt ≤ 200) (l_y0 : 0 ≤ y0.toInt) (u_y0 : y0.toInt ≤ 99) (l_y2 : 0 ≤ y2.toInt) (u_y2 : y2.toInt ≤ 6) (l_y3 : 0 ≤ y3.toInt) (u_y3 : y3.toInt ≤ 99) (l_y4 : 0 ≤ y4.toInt) (u_y4 : y4.toInt ≤ 6) (l_y5 : 0 ≤ y5.toInt) (u_y5 : y5.toInt ≤ 10) (l_y6 : 0 ≤ y6.toInt) (u_y6 : y6.toInt ≤ 60) (q0 : (x0.toInt = 200 ∧ y0.toInt ≤ 98) ∨ (100 ≤ x0.toInt ∧ x0.toInt ≤ 109) ∨ (0 ≤ x0.toInt ∧ x0.toInt ≤ 55 ∧ x0.toInt % 10 ≤ 5)) : mp_Ct E yX0_apply cX0_apply 4 none 1 0 0 22 [.ref a0, .int x0] [(mp_ob0 a0 a1 y0 a3 a4 a5 a6 a7 a8), (mp_ob7 a1 y1 y2 y3 y4 y5 y6 a2 a9 a10 a11 a12 a13 a14 a15 a16 a17 a18 a19), (mp_arI E a2 0 36 f0), (mp_arI E a3 0 6 f1), (mp_arI E a4 0 6 f2), (mp_arI E a5 0 6 f3), (mp_arL E a6 20 f4)] (fun v w' => ∃ r1 : Int32, ∃ h2 : Nat → Int32, ∃ h3 : Nat → Int32, ∃ h4 : Nat → Int32, ∃ h5 : Nat → Int64, v = none ∧ 0 ≤ r1.toInt ∧ r1.toInt ≤ 99 ∧ mp_all h2 6 0 5 ∧ ((x0.toInt = 200 ∧ r1.toInt = y0.toInt + 1) ∨ (x0.toInt ≠ 200 ∧ r1.toInt = y0.toInt)) ∧ (mp_AP f1 f2 f3 h2 h3 h4 f0 x0.toInt y0.toInt) ∧ w' = [(mp_ob0 a0 a1 r1 a3 a4 a5 a6 a7 a8), (mp_ob7 a1 y1 y2 y3 y4 y5 y6 a2 a9 a10 a11 a12 a13 a14 a15 a16 a17 a18 a19), (mp_arI E a2 0 36 f0), (mp_arI E a3 0 6 h2), (mp_arI E a4 0 6 h3), (mp_arI E a5 0 6 h4), (mp_arL E a6 20 h5)]) := by
  refine mp_met false (by decide) (by decide) (Nat.le_of_ble_eq_true rfl) (fun X hF hQ => ?_)
  have hF : mp_F E X (RX0, cX0_apply, 4, (1, 0, 0, 22), none, false) := hF
  let w1_ : va_W := [(mp_ob0 a0 a1 y0 a3 a4 a5 a6 a7 a8), (mp_ob7 a1 y1 y2 y3 y4 y5 y6 a2 a9 a10 a11 a12 a13 a14 a15 a16 a17 a18 a19), (mp_arI E a2 0 36 f0), (mp_arI E a3 0 6 f1), (mp_arI E a4 0 6 f2), (mp_arI E a5 0 6 f3), (mp_arL E a6 20 f4)]
  show mp_W E X 4 0 [(0, .ref a0), (1, .int x0)] [] w1_ 0 0
  refine mp_run mp_k_cX0_apply_ok hF mp_tabX0_ok [mp_i (.iload_n 1), mp_c (.sipush 200) 200, mp_h (.if_icmp .ne 16) [20]] (by decide +kernel) ?_
  refine And.intro (fun c_1 => ?_) (fun c_1 => ?_)
  · have c_1 : x0.toInt ≠ 200 := c_1
    show mp_W E X 4 20 [(0, .ref a0), (1, .int x0)] [] w1_ 0 0
    refine mp_run mp_k_cX0_apply_ok hF mp_tabX0_ok [mp_i (.iload_n 1), mp_c (.bipush 100) 100, mp_h (.if_icmp .lt 37) [60]] (by decide +kernel) ?_
    refine And.intro (fun c_2 => ?_) (fun c_2 => ?_)
    · have c_2 : x0.toInt < 100 := c_2
      show mp_W E X 4 60 [(0, .ref a0), (1, .int x0)] [] w1_ 0 0
      refine mp_run mp_k_cX0_apply_ok hF mp_tabX0_ok [mp_i (.iload_n 1), mp_c (.bipush 10) 10, mp_i .idiv, mp_i (.istore_n 2), mp_i (.iload_n 1), mp_c (.bipush 10) 10, mp_i .irem, mp_i (.istore_n 3), mp_i (.aload_n 0), mp_h (.getfield 22) [14, 0], mp_i (.iload_n 2), mp_i .dup2, mp_h .iaload [4], mp_i (.aload_n 0), mp_h (.getfield 12) [11, 0], mp_i (.aload_n 0), mp_h (.getfield 18) [13, 0], mp_i (.iload_n 2), mp_h .iaload [3], mp_i (.iload_n 3)] (by decide +kernel) ?_
      refine And.intro (by decide) ?_
      intro z_3 h_4
      have e_5 : z_3.toInt = x0.toInt / 10 := mp_div (a := x0.toInt) (b := 10) h_4 rfl (by decide) (by (first | exact l_x0 | omega)) (by decide)
      refine And.intro (by decide) ?_
      intro z_6 h_7
      have e_8 : z_6.toInt = x0.toInt % 10 := mp_rem (a := x0.toInt) (b := 10) h_7 rfl (by decide) (by (first | exact l_x0 | omega)) (by decide)
      refine And.intro rfl (And.intro rfl ?_)
      refine And.intro rfl (And.intro rfl (And.intro (vp_in_iff.mpr (by (first | exact mp_o314 c_2 e_5 q0 | omega))) ?_))
      intro z_9 h_10
      have e_11 : z_9.toInt = (f2 (x0.toInt / 10).toNat).toInt := mp_at_i h_10 (by (first | exact mp_o315 l_x0 e_5 | omega))
      refine And.intro rfl (And.intro rfl ?_)
      refine And.intro rfl (And.intro rfl ?_)
      refine And.intro rfl (And.intro rfl (And.intro (vp_in_iff.mpr (by (first | exact mp_o314 c_2 e_5 q0 | omega))) ?_))
      intro z_12 h_13
      have e_14 : 0 ≤ z_12.toInt ∧ z_12.toInt ≤ 5 := mp_all_ld h_13 p1 (by (first | exact mp_o316 l_x0 e_5 | omega)) (by (first | exact mp_o317 c_2 e_5 q0 | omega))
      have e_15 : z_12.toInt = (f1 (x0.toInt / 10).toNat).toInt := mp_at_i h_13 (by (first | exact mp_o315 l_x0 e_5 | omega))
      show mp_W E X 4 88 [(3, .int z_6), (2, .int z_3), (0, .ref a0), (1, .int x0)] [.int z_6, .int z_12, .ref a1, .int z_9, .int z_3, .ref a4] w1_ 0 0
      refine mp_callV hF (As := [.int z_12, .int z_6]) (rest := [.int z_9, .int z_3, .ref a4]) (wr := [(mp_ob0 a0 a1 y0 a3 a4 a5 a6 a7 a8), (mp_arI E a3 0 6 f1), (mp_arI E a4 0 6 f2), (mp_arI E a5 0 6 f3), (mp_arL E a6 20 f4)]) (bX7_oarsBetween_46 E a1 a2 a9 a10 a11 a12 a13 a14 a15 a16 a17 a18 a19 f0 y1 y2 y3 y4 y5 y6 z_12 z_6 p0 e_14.1 e_14.2 (by (first | exact mp_o318 e_8 | omega)) (by (first | exact mp_o319 c_2 e_8 q0 | omega)) l_y2 u_y2 l_y3 u_y3 l_y4 u_y4 l_y5 u_y5 l_y6 u_y6) mp_lkX0_65 1 rfl [1, 2] [0, 3, 4, 5, 6] rfl rfl rfl rfl rfl ⟨(Nat.le_of_ble_eq_true rfl), (Nat.le_of_ble_eq_true rfl), (Nat.le_of_ble_eq_true rfl), (Nat.le_of_ble_eq_true rfl)⟩ (Nat.le_of_ble_eq_true rfl) (by first | exact mp_fd_ok mp_k_cX0_apply_ok (by decide +kernel) | decide +kernel) (fun v_16 w_17 h_18 => ?_)
      refine h_18.elim fun r_19 q_23 => q_23.elim fun e_24 q_25 => q_25.elim fun l_20 q_26 => q_26.elim fun u_21 q_27 => q_27.elim fun x_22 e_28 => ?_
      clear h_18 q_23 q_25 q_26 q_27
      subst e_24
      subst e_28
      let w2_ : va_W := [(mp_ob0 a0 a1 y0 a3 a4 a5 a6 a7 a8), (mp_arI E a3 0 6 f1), (mp_arI E a4 0 6 f2), (mp_arI E a5 0 6 f3), (mp_arL E a6 20 f4), (mp_ob7 a1 y1 y2 y3 y4 y5 y6 a2 a9 a10 a11 a12 a13 a14 a15 a16 a17 a18 a19), (mp_arI E a2 0 36 f0)]
      show mp_W E X 4 91 [(3, .int z_6), (2, .int z_3), (0, .ref a0), (1, .int x0)] [.int r_19, .int z_9, .int z_3, .ref a4] w2_ 0 0
      refine mp_run mp_k_cX0_apply_ok hF mp_tabX0_ok [mp_i .iadd, mp_h .iastore [2]] (by decide +kernel) ?_
      intro z_29 h_30
      refine And.intro rfl (And.intro rfl (And.intro (vp_in_iff.mpr (by (first | exact mp_o314 c_2 e_5 q0 | omega))) ?_))
      intro g_32 h_33
      let w3_ : va_W := [(mp_ob0 a0 a1 y0 a3 a4 a5 a6 a7 a8), (mp_arI E a3 0 6 f1), (mp_arI E a4 0 6 g_32), (mp_arI E a5 0 6 f3), (mp_arL E a6 20 f4), (mp_ob7 a1 y1 y2 y3 y4 y5 y6 a2 a9 a10 a11 a12 a13 a14 a15 a16 a17 a18 a19), (mp_arI E a2 0 36 f0)]
      show mp_W E X 4 93 [(3, .int z_6), (2, .int z_3), (0, .ref a0), (1, .int x0)] [] w3_ 0 0
      refine mp_run mp_k_cX0_apply_ok hF mp_tabX0_ok [mp_i (.aload_n 0), mp_h (.getfield 18) [13, 0], mp_i (.iload_n 2), mp_i (.iload_n 3), mp_h .iastore [1]] (by decide +kernel) ?_
      refine And.intro rfl (And.intro rfl ?_)
      refine And.intro rfl (And.intro rfl (And.intro (vp_in_iff.mpr (by (first | exact mp_o314 c_2 e_5 q0 | omega))) ?_))
      intro g_34 h_35
      have p_36 : mp_all g_34 6 0 5 := mp_all_st h_35 p1 (by (first | exact mp_o318 e_8 | omega)) (by (first | exact mp_o319 c_2 e_8 q0 | omega))
      let w4_ : va_W := [(mp_ob0 a0 a1 y0 a3 a4 a5 a6 a7 a8), (mp_arI E a3 0 6 g_34), (mp_arI E a4 0 6 g_32), (mp_arI E a5 0 6 f3), (mp_arL E a6 20 f4), (mp_ob7 a1 y1 y2 y3 y4 y5 y6 a2 a9 a10 a11 a12 a13 a14 a15 a16 a17 a18 a19), (mp_arI E a2 0 36 f0)]
      show mp_W E X 4 100 [(3, .int z_6), (2, .int z_3), (0, .ref a0), (1, .int x0)] [] w4_ 0 0
      refine mp_run mp_k_cX0_apply_ok hF mp_tabX0_ok [mp_i (.aload_n 0), mp_h (.getfield 25) [15, 0], mp_i (.iload_n 2), mp_i (.aload_n 0), mp_h (.getfield 42) [12, 0], mp_h .iastore [3]] (by decide +kernel) ?_
      refine And.intro rfl (And.intro rfl ?_)
      refine And.intro rfl (And.intro rfl ?_)
      refine And.intro rfl (And.intro rfl (And.intro (vp_in_iff.mpr (by (first | exact mp_o314 c_2 e_5 q0 | omega))) ?_))
      intro g_37 h_38
      let w5_ : va_W := [(mp_ob0 a0 a1 y0 a3 a4 a5 a6 a7 a8), (mp_arI E a3 0 6 g_34), (mp_arI E a4 0 6 g_32), (mp_arI E a5 0 6 g_37), (mp_arL E a6 20 f4), (mp_ob7 a1 y1 y2 y3 y4 y5 y6 a2 a9 a10 a11 a12 a13 a14 a15 a16 a17 a18 a19), (mp_arI E a2 0 36 f0)]
      show mp_W E X 4 110 [(3, .int z_6), (2, .int z_3), (0, .ref a0), (1, .int x0)] [] w5_ 0 0
      exact mp_vret hF hQ rfl (Nat.le_of_ble_eq_true rfl) (Nat.le_of_ble_eq_true rfl) [0, 5, 6, 1, 2, 3, 4] (w' := [(mp_ob0 a0 a1 y0 a3 a4 a5 a6 a7 a8), (mp_ob7 a1 y1 y2 y3 y4 y5 y6 a2 a9 a10 a11 a12 a13 a14 a15 a16 a17 a18 a19), (mp_arI E a2 0 36 f0), (mp_arI E a3 0 6 g_34), (mp_arI E a4 0 6 g_32), (mp_arI E a5 0 6 g_37), (mp_arL E a6 20 f4)]) rfl rfl ⟨y0, g_34, g_32, g_37, f4, rfl, l_y0, u_y0, p_36, (by first | (first | exact mp_o320 c_2 | omega) | decide | (have h8 : (0 : Int64).toInt = 0 := rfl; have h9 : (-1 : Int32).toInt = -1 := rfl; have h10 : (-2 : Int32).toInt = -2 := rfl; have h11 : (0 : Int32).toInt = 0 := rfl; have h12 : (1 : Int32).toInt = 1 := rfl; have h13 : (-5 : Int32).toInt = -5 := rfl; have h14 : (-3 : Int32).toInt = -3 := rfl; omega)), (mp_AP_row h_33 h_30 h_10 (by rw [x_22, show 6 * z_12.toInt + z_6.toInt = 6 * (f1 (x0.toInt / 10).toNat).toInt + x0.toInt % 10 from by (first | exact mp_o321 e_15 e_8 | omega)]) h_35 h_38 (by (first | exact e_5 | omega)) (by (first | exact e_5 | omega)) (by (first | exact e_5 | omega)) (by (first | exact e_5 | omega)) (by (first | exact e_8 | omega)) (by first | rfl | omega) (by (first | exact c_2 | omega))), rfl⟩ (by first | exact mp_fd_ok mp_k_cX0_apply_ok (by decide +kernel) | decide +kernel)
    · have c_2 : 100 ≤ x0.toInt := c_2
      show mp_W E X 4 26 [(0, .ref a0), (1, .int x0)] [] w1_ 0 0
      refine mp_run mp_k_cX0_apply_ok hF mp_tabX0_ok [mp_i (.aload_n 0), mp_h (.getfield 28) [16, 0], mp_c (.iconst 2) 2, mp_i (.iload_n 1), mp_c (.bipush 100) 100, mp_i .isub, mp_i .imul, mp_i (.aload_n 0), mp_h (.getfield 42) [12, 0], mp_c (.bipush 50) 50, mp_i .idiv, mp_i .iadd, mp_i .dup2, mp_h .laload [6], mp_cl (.lconst 1) 1, mp_i (.aload_n 0), mp_h (.getfield 42) [12, 0], mp_c (.bipush 50) 50, mp_i .irem, mp_i .lshl, mp_i .lor, mp_h .lastore [6]] (by decide +kernel) ?_
      refine And.intro rfl (And.intro rfl ?_)
      intro z_39 h_40
      have e_41 : z_39.toInt = x0.toInt - 100 := mp_subi (a := x0.toInt) (b := 100) h_40 rfl (by decide) (by (first | exact mp_o322 l_x0 | omega)) (by (first | exact mp_o323 u_x0 | omega))
      intro z_42 h_43
      have e_44 : z_42.toInt = 2 * z_39.toInt := mp_mul (a := 2) (b := z_39.toInt) h_43 (by decide) rfl (by (first | exact mp_o324 l_x0 e_41 | omega)) (by (first | exact mp_o325 u_x0 e_41 | omega))
      refine And.intro rfl (And.intro rfl ?_)
      refine And.intro (by decide) ?_
      intro z_45 h_46
      have e_47 : z_45.toInt = y0.toInt / 50 := mp_div (a := y0.toInt) (b := 50) h_46 rfl (by decide) (by (first | exact l_y0 | omega)) (by decide)
      intro z_48 h_49
      have e_50 : z_48.toInt = z_42.toInt + z_45.toInt := mp_add (a := z_42.toInt) (b := z_45.toInt) h_49 rfl rfl (by (first | exact mp_o326 l_x0 l_y0 e_47 e_41 e_44 | omega)) (by (first | exact mp_o327 u_x0 e_41 e_44 u_y0 e_47 | omega))
      refine And.intro rfl (And.intro rfl (And.intro (vp_in_iff.mpr (by (first | exact mp_o328 l_y0 u_y0 c_2 q0 c_1 e_47 e_41 e_44 e_50 | omega))) ?_))
      intro z_51 h_52
      refine And.intro rfl (And.intro rfl ?_)
      refine And.intro (by decide) ?_
      intro z_53 h_54
      have e_55 : z_53.toInt = y0.toInt % 50 := mp_rem (a := y0.toInt) (b := 50) h_54 rfl (by decide) (by (first | exact l_y0 | omega)) (by decide)
      intro z_56 h_57
      intro z_58 h_59
      refine And.intro rfl (And.intro rfl (And.intro (vp_in_iff.mpr (by (first | exact mp_o328 l_y0 u_y0 c_2 q0 c_1 e_47 e_41 e_44 e_50 | omega))) ?_))
      intro g_60 h_61
      let w6_ : va_W := [(mp_ob0 a0 a1 y0 a3 a4 a5 a6 a7 a8), (mp_ob7 a1 y1 y2 y3 y4 y5 y6 a2 a9 a10 a11 a12 a13 a14 a15 a16 a17 a18 a19), (mp_arI E a2 0 36 f0), (mp_arI E a3 0 6 f1), (mp_arI E a4 0 6 f2), (mp_arI E a5 0 6 f3), (mp_arL E a6 20 g_60)]
      show mp_W E X 4 57 [(0, .ref a0), (1, .int x0)] [] w6_ 0 0
      refine mp_run mp_k_cX0_apply_ok hF mp_tabX0_ok [mp_h (.goto 53) [110]] (by decide +kernel) ?_
      show mp_W E X 4 110 [(0, .ref a0), (1, .int x0)] [] w6_ 0 0
      exact mp_vret hF hQ rfl (Nat.le_of_ble_eq_true rfl) (Nat.le_of_ble_eq_true rfl) [0, 1, 2, 3, 4, 5, 6] (w' := w6_) rfl rfl ⟨y0, f1, f2, f3, g_60, rfl, l_y0, u_y0, p1, (by first | (first | exact mp_o329 c_1 | omega) | decide | (have h8 : (0 : Int64).toInt = 0 := rfl; have h9 : (-1 : Int32).toInt = -1 := rfl; have h10 : (-2 : Int32).toInt = -2 := rfl; have h11 : (0 : Int32).toInt = 0 := rfl; have h12 : (1 : Int32).toInt = 1 := rfl; have h13 : (-5 : Int32).toInt = -5 := rfl; have h14 : (-3 : Int32).toInt = -3 := rfl; omega)), (Or.inl ⟨(by first | (first | exact c_2 | omega) | (have h8 : (100 : Int32).toInt = 100 := rfl; have h9 : (200 : Int32).toInt = 200 := rfl; omega)), rfl, rfl, rfl⟩), rfl⟩ (by first | exact mp_fd_ok mp_k_cX0_apply_ok (by decide +kernel) | decide +kernel)
  · have c_1 : x0.toInt = 200 := (congrArg Int32.toInt c_1)
    show mp_W E X 4 7 [(0, .ref a0), (1, .int x0)] [] w1_ 0 0
    refine mp_run mp_k_cX0_apply_ok hF mp_tabX0_ok [mp_i (.aload_n 0), mp_i .dup, mp_h (.getfield 42) [12, 0], mp_c (.iconst 1) 1, mp_i .iadd, mp_h (.putfield 42) [12, 0]] (by decide +kernel) ?_
    refine And.intro rfl ?_
    refine And.intro rfl (And.intro rfl ?_)
    intro z_62 h_63
    have e_64 : z_62.toInt = y0.toInt + 1 := mp_add (a := y0.toInt) (b := 1) h_63 rfl (by decide) (by (first | exact mp_o2 l_y0 | omega)) (by (first | exact mp_o330 u_y0 | omega))
    refine And.intro rfl (And.intro rfl (And.intro rfl (And.intro rfl (And.intro (Nat.le_of_ble_eq_true rfl) ?_))))
    let w7_ : va_W := [(mp_ob0 a0 a1 z_62 a3 a4 a5 a6 a7 a8), (mp_ob7 a1 y1 y2 y3 y4 y5 y6 a2 a9 a10 a11 a12 a13 a14 a15 a16 a17 a18 a19), (mp_arI E a2 0 36 f0), (mp_arI E a3 0 6 f1), (mp_arI E a4 0 6 f2), (mp_arI E a5 0 6 f3), (mp_arL E a6 20 f4)]
    show mp_W E X 4 17 [(0, .ref a0), (1, .int x0)] [] w7_ 0 0
    refine mp_run mp_k_cX0_apply_ok hF mp_tabX0_ok [mp_h (.goto 93) [110]] (by decide +kernel) ?_
    show mp_W E X 4 110 [(0, .ref a0), (1, .int x0)] [] w7_ 0 0
    exact mp_vret hF hQ rfl (Nat.le_of_ble_eq_true rfl) (Nat.le_of_ble_eq_true rfl) [0, 1, 2, 3, 4, 5, 6] (w' := w7_) rfl rfl ⟨z_62, f1, f2, f3, f4, rfl, (by (first | exact mp_o51 l_y0 e_64 | omega)), (by (first | exact mp_o331 c_1 q0 e_64 | omega)), p1, (by first | (first | exact mp_o332 c_1 e_64 | omega) | decide | (have h8 : (0 : Int64).toInt = 0 := rfl; have h9 : (-1 : Int32).toInt = -1 := rfl; have h10 : (-2 : Int32).toInt = -2 := rfl; have h11 : (0 : Int32).toInt = 0 := rfl; have h12 : (1 : Int32).toInt = 1 := rfl; have h13 : (-5 : Int32).toInt = -5 := rfl; have h14 : (-3 : Int32).toInt = -3 := rfl; omega)), (Or.inl ⟨(by first | (first | exact mp_o333 c_1 | omega) | (have h8 : (100 : Int32).toInt = 100 := rfl; have h9 : (200 : Int32).toInt = 200 := rfl; omega)), rfl, rfl, rfl⟩), rfl⟩ (by first | exact mp_fd_ok mp_k_cX0_apply_ok (by decide +kernel) | decide +kernel)
set_option maxHeartbeats 4000000 in
set_option maxRecDepth 100000 in
theorem bX0_replay_48 (E : mp_E) (a0 a1 a2 a3 a4 a5 a6 a7 a8 a9 a10 a11 a12 a13 a14 a15 a16 a17 a18 a19 : Nat) (f0 : Nat → Int32) (f1 : Nat → Int32) (f2 : Nat → Int32) (f3 : Nat → Int32) (f4 : Nat → Int32) (f5 : Nat → Int32) (f6 : Nat → Int64) (y0 : Int32) (y1 : Int32) (y2 : Int32) (y3 : Int32) (y4 : Int32) (y5 : Int32) (y6 : Int32) (p0 : mp_all f0 36 0 20) (p1 : mp_all f1 6 0 5) (p2 : mp_acts f2) (p3 : mp_all f3 6 0 5) (l_y0 : 0 ≤ y0.toInt) (u_y0 : y0.toInt ≤ 99) (l_y2 : 0 ≤ y2.toInt) (u_y2 : y2.toInt ≤ 6) (l_y3 : 0 ≤ y3.toInt) (u_y3 : y3.toInt ≤ 99) (l_y4 : 0 ≤ y4.toInt) (u_y4 : y4.toInt ≤ 6) (l_y5 : 0 ≤ y5.toInt) (u_y5 : y5.toInt ≤ 10) (l_y6 : 0 ≤ y6.toInt) (u_y6 : y6.toInt ≤ 60) (q0 : y3.toInt + mp_k200 f2 y6.toInt ≤ 99) : mp_Ct E yX0_replay cX0_replay 2 none 2 0 0 45 [.ref a0] [(mp_ob0 a0 a1 y0 a5 a6 a7 a8 a9 a10), (mp_ob7 a1 y1 y2 y3 y4 y5 y6 a2 a11 a3 a12 a13 a14 a15 a16 a17 a18 a19 a4), (mp_arI E a2 0 36 f0), (mp_arI E a3 0 6 f1), (mp_arI E a4 0 60 f2), (mp_arI E a5 0 6 f3), (mp_arI E a6 0 6 f4), (mp_arI E a7 0 6 f5), (mp_arL E a8 20 f6)] (fun v w' => ∃ r1 : Int32, ∃ h2 : Nat → Int32, ∃ h3 : Nat → Int32, ∃ h4 : Nat → Int32, ∃ h5 : Nat → Int64, v = none ∧ 0 ≤ r1.toInt ∧ r1.toInt ≤ 99 ∧ mp_all h2 6 0 5 ∧ (r1.toInt = y3.toInt + mp_k200 f2 y6.toInt) ∧ (mp_CS h2 h3 h4 f0 f1 f2 y3.toInt y4.toInt (y6.toInt).toNat) ∧ w' = [(mp_ob0 a0 a1 r1 a5 a6 a7 a8 a9 a10), (mp_ob7 a1 y1 y2 y3 y4 y5 y6 a2 a11 a3 a12 a13 a14 a15 a16 a17 a18 a19 a4), (mp_arI E a2 0 36 f0), (mp_arI E a3 0 6 f1), (mp_arI E a4 0 60 f2), (mp_arI E a5 0 6 h2), (mp_arI E a6 0 6 h3), (mp_arI E a7 0 6 h4), (mp_arL E a8 20 h5)]) := by
  refine mp_met false (by decide) (by decide) (Nat.le_of_ble_eq_true rfl) (fun X hF hQ => ?_)
  have hF : mp_F E X (RX0, cX0_replay, 2, (2, 0, 0, 45), none, false) := hF
  let w1_ : va_W := [(mp_ob0 a0 a1 y0 a5 a6 a7 a8 a9 a10), (mp_ob7 a1 y1 y2 y3 y4 y5 y6 a2 a11 a3 a12 a13 a14 a15 a16 a17 a18 a19 a4), (mp_arI E a2 0 36 f0), (mp_arI E a3 0 6 f1), (mp_arI E a4 0 60 f2), (mp_arI E a5 0 6 f3), (mp_arI E a6 0 6 f4), (mp_arI E a7 0 6 f5), (mp_arL E a8 20 f6)]
  show mp_W E X 2 0 [(0, .ref a0)] [] w1_ 0 0
  refine mp_run mp_k_cX0_replay_ok hF mp_tabX0_ok [mp_i (.aload_n 0), mp_i (.aload_n 0), mp_h (.getfield 12) [11, 0], mp_h (.getfield 38) [0, 1], mp_h (.putfield 42) [12, 0]] (by decide +kernel) ?_
  refine And.intro rfl (And.intro rfl ?_)
  refine And.intro rfl (And.intro rfl ?_)
  refine And.intro rfl (And.intro rfl (And.intro rfl (And.intro rfl (And.intro (Nat.le_of_ble_eq_true rfl) ?_))))
  let w2_ : va_W := [(mp_ob0 a0 a1 y3 a5 a6 a7 a8 a9 a10), (mp_ob7 a1 y1 y2 y3 y4 y5 y6 a2 a11 a3 a12 a13 a14 a15 a16 a17 a18 a19 a4), (mp_arI E a2 0 36 f0), (mp_arI E a3 0 6 f1), (mp_arI E a4 0 60 f2), (mp_arI E a5 0 6 f3), (mp_arI E a6 0 6 f4), (mp_arI E a7 0 6 f5), (mp_arL E a8 20 f6)]
  show mp_W E X 2 11 [(0, .ref a0)] [] w2_ 0 0
  refine mp_run mp_k_cX0_replay_ok hF mp_tabX0_ok [mp_c (.iconst 0) 0, mp_i (.istore_n 1)] (by decide +kernel) ?_
  show mp_W E X 2 13 [(1, .int 0), (0, .ref a0)] [] w2_ 0 0
  have lp_10 : ∀ (d_11 : Nat) (i_1 : Int32) (g_2 : Nat → Int32) (g_3 : Nat → Int32) (g_4 : Nat → Int32), 0 ≤ i_1.toInt → i_1.toInt ≤ 6 → mp_all g_2 6 0 5 → (mp_init g_2 g_3 g_4 f1 i_1.toInt) → (0 ≤ i_1.toInt) → y4.toInt - i_1.toInt ≤ (d_11 : Int) → mp_W E X 2 13 [(1, .int i_1), (0, .ref a0)] [] [(mp_ob0 a0 a1 y3 a5 a6 a7 a8 a9 a10), (mp_ob7 a1 y1 y2 y3 y4 y5 y6 a2 a11 a3 a12 a13 a14 a15 a16 a17 a18 a19 a4), (mp_arI E a2 0 36 f0), (mp_arI E a3 0 6 f1), (mp_arI E a4 0 60 f2), (mp_arI E a5 0 6 g_2), (mp_arI E a6 0 6 g_3), (mp_arI E a7 0 6 g_4), (mp_arL E a8 20 f6)] 0 0 := by
    intro d_11
    induction d_11 using Nat.strongRecOn with
    | ind d_11 ih_12 =>
      intro i_1 g_2 g_3 g_4 l_5 u_6 p_7 x_8 x_9 hm_13
      refine mp_run mp_k_cX0_replay_ok hF mp_tabX0_ok [mp_i (.iload_n 1), mp_i (.aload_n 0), mp_h (.getfield 12) [11, 0], mp_h (.getfield 43) [1, 1], mp_h (.if_icmp .ge 38) [59]] (by decide +kernel) ?_
      refine And.intro rfl (And.intro rfl ?_)
      refine And.intro rfl (And.intro rfl ?_)
      refine And.intro (fun c_14 => ?_) (fun c_14 => ?_)
      · have c_14 : y4.toInt ≤ i_1.toInt := c_14
        let w3_ : va_W := [(mp_ob0 a0 a1 y3 a5 a6 a7 a8 a9 a10), (mp_ob7 a1 y1 y2 y3 y4 y5 y6 a2 a11 a3 a12 a13 a14 a15 a16 a17 a18 a19 a4), (mp_arI E a2 0 36 f0), (mp_arI E a3 0 6 f1), (mp_arI E a4 0 60 f2), (mp_arI E a5 0 6 g_2), (mp_arI E a6 0 6 g_3), (mp_arI E a7 0 6 g_4), (mp_arL E a8 20 f6)]
        show mp_W E X 2 59 [(1, .int i_1), (0, .ref a0)] [] w3_ 0 0
        refine mp_run mp_k_cX0_replay_ok hF mp_tabX0_ok [mp_i (.aload_n 0), mp_h (.getfield 28) [16, 0], mp_cl (.lconst 0) 0] (by decide +kernel) ?_
        refine And.intro rfl (And.intro rfl ?_)
        show mp_W E X 2 64 [(1, .int i_1), (0, .ref a0)] [.long 0, .ref a8] w3_ 0 0
        refine mp_callS hF (As := [.ref a8, .long 0]) (rest := []) (wr := [(mp_ob0 a0 a1 y3 a5 a6 a7 a8 a9 a10), (mp_ob7 a1 y1 y2 y3 y4 y5 y6 a2 a11 a3 a12 a13 a14 a15 a16 a17 a18 a19 a4), (mp_arI E a2 0 36 f0), (mp_arI E a3 0 6 f1), (mp_arI E a4 0 60 f2), (mp_arI E a5 0 6 g_2), (mp_arI E a6 0 6 g_3), (mp_arI E a7 0 6 g_4)]) (bJ7_fill_d0a16_45 E a8 f6 0) mp_lkX0_49 [8] [0, 1, 2, 3, 4, 5, 6, 7] rfl rfl rfl rfl rfl ⟨(Nat.le_of_ble_eq_true rfl), (Nat.le_of_ble_eq_true rfl), (Nat.le_of_ble_eq_true rfl), (Nat.le_of_ble_eq_true rfl)⟩ (Nat.le_of_ble_eq_true rfl) (by first | exact mp_fd_ok mp_k_cX0_replay_ok (by decide +kernel) | decide +kernel) (fun v_15 w_16 h_17 => ?_)
        obtain ⟨g_18, rfl, x_19, rfl⟩ := h_17
        let w4_ : va_W := [(mp_ob0 a0 a1 y3 a5 a6 a7 a8 a9 a10), (mp_ob7 a1 y1 y2 y3 y4 y5 y6 a2 a11 a3 a12 a13 a14 a15 a16 a17 a18 a19 a4), (mp_arI E a2 0 36 f0), (mp_arI E a3 0 6 f1), (mp_arI E a4 0 60 f2), (mp_arI E a5 0 6 g_2), (mp_arI E a6 0 6 g_3), (mp_arI E a7 0 6 g_4), (mp_arL E a8 20 g_18)]
        show mp_W E X 2 67 [(1, .int i_1), (0, .ref a0)] [] w4_ 0 0
        refine mp_run mp_k_cX0_replay_ok hF mp_tabX0_ok [mp_c (.iconst 0) 0, mp_i (.istore_n 1)] (by decide +kernel) ?_
        show mp_W E X 2 69 [(1, .int 0), (0, .ref a0)] [] w4_ 0 0
        have lp_35 : ∀ (d_36 : Nat) (i_20 : Int32) (i_21 : Int32) (g_22 : Nat → Int32) (g_23 : Nat → Int32) (g_24 : Nat → Int32) (g_25 : Nat → Int64), 0 ≤ i_20.toInt → i_20.toInt ≤ 60 → 0 ≤ i_21.toInt → i_21.toInt ≤ 99 → mp_all g_22 6 0 5 → (i_21.toInt = y3.toInt + mp_k200 f2 i_20.toInt) → (i_20.toInt ≤ y6.toInt) → (mp_CS g_22 g_23 g_24 f0 f1 f2 y3.toInt y4.toInt i_20.toInt.toNat) → (0 ≤ i_20.toInt) → y6.toInt - i_20.toInt ≤ (d_36 : Int) → mp_W E X 2 69 [(1, .int i_20), (0, .ref a0)] [] [(mp_ob0 a0 a1 i_21 a5 a6 a7 a8 a9 a10), (mp_ob7 a1 y1 y2 y3 y4 y5 y6 a2 a11 a3 a12 a13 a14 a15 a16 a17 a18 a19 a4), (mp_arI E a2 0 36 f0), (mp_arI E a3 0 6 f1), (mp_arI E a4 0 60 f2), (mp_arI E a5 0 6 g_22), (mp_arI E a6 0 6 g_23), (mp_arI E a7 0 6 g_24), (mp_arL E a8 20 g_25)] 0 0 := by
          intro d_36
          induction d_36 using Nat.strongRecOn with
          | ind d_36 ih_37 =>
            intro i_20 i_21 g_22 g_23 g_24 g_25 l_26 u_27 l_28 u_29 p_30 x_31 x_32 x_33 x_34 hm_38
            refine mp_run mp_k_cX0_replay_ok hF mp_tabX0_ok [mp_i (.iload_n 1), mp_i (.aload_n 0), mp_h (.getfield 12) [11, 0], mp_h (.getfield 55) [3, 1], mp_h (.if_icmp .ge 22) [99]] (by decide +kernel) ?_
            refine And.intro rfl (And.intro rfl ?_)
            refine And.intro rfl (And.intro rfl ?_)
            refine And.intro (fun c_39 => ?_) (fun c_39 => ?_)
            · have c_39 : y6.toInt ≤ i_20.toInt := c_39
              let w5_ : va_W := [(mp_ob0 a0 a1 i_21 a5 a6 a7 a8 a9 a10), (mp_ob7 a1 y1 y2 y3 y4 y5 y6 a2 a11 a3 a12 a13 a14 a15 a16 a17 a18 a19 a4), (mp_arI E a2 0 36 f0), (mp_arI E a3 0 6 f1), (mp_arI E a4 0 60 f2), (mp_arI E a5 0 6 g_22), (mp_arI E a6 0 6 g_23), (mp_arI E a7 0 6 g_24), (mp_arL E a8 20 g_25)]
              show mp_W E X 2 99 [(1, .int i_20), (0, .ref a0)] [] w5_ 0 0
              exact mp_vret hF hQ rfl (Nat.le_of_ble_eq_true rfl) (Nat.le_of_ble_eq_true rfl) [0, 1, 2, 3, 4, 5, 6, 7, 8] (w' := w5_) rfl rfl ⟨i_21, g_22, g_23, g_24, g_25, rfl, l_28, u_29, p_30, (by have k9 := mp_k200_eq (f := f2) (a := i_20.toInt) (b := y6.toInt) (by (first | exact mp_o334 x_32 c_39 | omega)); (first | exact mp_o335 k9 x_31 | omega)), (mp_CS_to x_33 (by (first | exact mp_o336 x_32 c_39 | omega))), rfl⟩ (by first | exact mp_fd_ok mp_k_cX0_replay_ok (by decide +kernel) | decide +kernel)
            · have c_39 : i_20.toInt < y6.toInt := c_39
              let w6_ : va_W := [(mp_ob0 a0 a1 i_21 a5 a6 a7 a8 a9 a10), (mp_ob7 a1 y1 y2 y3 y4 y5 y6 a2 a11 a3 a12 a13 a14 a15 a16 a17 a18 a19 a4), (mp_arI E a2 0 36 f0), (mp_arI E a3 0 6 f1), (mp_arI E a4 0 60 f2), (mp_arI E a5 0 6 g_22), (mp_arI E a6 0 6 g_23), (mp_arI E a7 0 6 g_24), (mp_arL E a8 20 g_25)]
              show mp_W E X 2 80 [(1, .int i_20), (0, .ref a0)] [] w6_ 0 0
              refine mp_run mp_k_cX0_replay_ok hF mp_tabX0_ok [mp_i (.aload_n 0), mp_i (.aload_n 0), mp_h (.getfield 12) [11, 0], mp_h (.getfield 58) [10, 1], mp_i (.iload_n 1), mp_h .iaload [4]] (by decide +kernel) ?_
              refine And.intro rfl (And.intro rfl ?_)
              refine And.intro rfl (And.intro rfl ?_)
              refine And.intro rfl (And.intro rfl (And.intro (vp_in_iff.mpr (by (first | exact mp_o337 l_26 u_y6 c_39 | omega))) ?_))
              intro z_40 h_41
              have e_42 := mp_acts_ld h_41 p2 (by (first | exact x_34 | omega)) (by (first | exact mp_o338 u_y6 c_39 | omega))
              have e_43 := mp_k200_ld h_41 (by (first | exact x_34 | omega))
              have e_44 := mp_k200_mono (f := f2) (a := i_20.toInt + 1) (b := y6.toInt) (by (first | exact mp_o339 c_39 | omega))
              have e_45 : z_40.toInt = (f2 i_20.toInt.toNat).toInt := congrArg Int32.toInt h_41
              show mp_W E X 2 90 [(1, .int i_20), (0, .ref a0)] [.int z_40, .ref a0] w6_ 0 0
              refine mp_callV hF (As := [.int z_40]) (rest := []) (wr := [(mp_arI E a3 0 6 f1), (mp_arI E a4 0 60 f2)]) (bX0_apply_47 E a0 a1 a2 a5 a6 a7 a8 a9 a10 a11 a3 a12 a13 a14 a15 a16 a17 a18 a19 a4 f0 g_22 g_23 g_24 g_25 i_21 y1 y2 y3 y4 y5 y6 z_40 p0 p_30 (by (first | exact mp_o340 e_42 | omega)) (by (first | exact mp_o341 e_42 | omega)) l_28 u_29 l_y2 u_y2 l_y3 u_y3 l_y4 u_y4 l_y5 u_y5 l_y6 u_y6 (by (first | exact mp_o342 e_42 q0 e_44 x_31 e_43 | omega))) mp_lkX0_61 0 rfl [0, 1, 2, 5, 6, 7, 8] [3, 4] rfl rfl rfl rfl rfl ⟨(Nat.le_of_ble_eq_true rfl), (Nat.le_of_ble_eq_true rfl), (Nat.le_of_ble_eq_true rfl), (Nat.le_of_ble_eq_true rfl)⟩ (Nat.le_of_ble_eq_true rfl) (by first | exact mp_fd_ok mp_k_cX0_replay_ok (by decide +kernel) | decide +kernel) (fun v_46 w_47 h_48 => ?_)
              refine h_48.elim fun r_49 q_59 => q_59.elim fun g_50 q_60 => q_60.elim fun g_51 q_61 => q_61.elim fun g_52 q_62 => q_62.elim fun g_53 q_63 => q_63.elim fun e_64 q_65 => q_65.elim fun l_54 q_66 => q_66.elim fun u_55 q_67 => q_67.elim fun p_56 q_68 => q_68.elim fun x_57 q_69 => q_69.elim fun x_58 e_70 => ?_
              clear h_48 q_59 q_60 q_61 q_62 q_63 q_65 q_66 q_67 q_68 q_69
              subst e_64
              subst e_70
              let w7_ : va_W := [(mp_arI E a3 0 6 f1), (mp_arI E a4 0 60 f2), (mp_ob0 a0 a1 r_49 a5 a6 a7 a8 a9 a10), (mp_ob7 a1 y1 y2 y3 y4 y5 y6 a2 a11 a3 a12 a13 a14 a15 a16 a17 a18 a19 a4), (mp_arI E a2 0 36 f0), (mp_arI E a5 0 6 g_50), (mp_arI E a6 0 6 g_51), (mp_arI E a7 0 6 g_52), (mp_arL E a8 20 g_53)]
              show mp_W E X 2 93 [(1, .int i_20), (0, .ref a0)] [] w7_ 0 0
              refine mp_run mp_k_cX0_replay_ok hF mp_tabX0_ok [mp_c (.iinc 1 1) 1, mp_h (.goto (-27)) [69]] (by decide +kernel) ?_
              intro z_71 h_72
              have e_73 : z_71.toInt = i_20.toInt + 1 := mp_add (a := i_20.toInt) (b := 1) h_72 rfl (by decide) (by (first | exact mp_o2 l_26 | omega)) (by (first | exact mp_o343 u_27 | omega))
              show mp_W E X 2 69 [(1, .int z_71), (0, .ref a0)] [] w7_ 0 0
              exact mp_sub [0, 1] rfl [2, 3, 4, 0, 1, 5, 6, 7, 8] rfl rfl (ih_37 (d_36 - 1) (by (first | exact mp_o72 hm_38 c_39 | omega)) z_71 r_49 g_50 g_51 g_52 g_53 (by (first | exact mp_o51 l_26 e_73 | omega)) (by (first | exact mp_o344 u_y6 c_39 e_73 | omega)) l_54 u_55 p_56 (by first | fail | (rw [e_73]; (first | exact mp_o345 x_31 x_57 e_43 | omega)) | (rw [mp_k200_z]; omega)) (by first | (first | exact mp_o97 c_39 e_73 | omega) | decide | (show (0 : Int) ≤ _; omega)) (mp_CS_to (mp_CS_s x_33 x_58 (by (first | exact mp_o346 e_42 e_45 | omega)) (show _ = _ + mp_k200 _ i_20.toInt by (first | exact x_31 | omega))) (by (first | exact mp_o347 l_26 e_73 | omega))) (by (first | exact mp_o51 l_26 e_73 | omega)) (by (first | exact mp_o77 hm_38 e_73 | omega)))
        exact mp_sub [0, 1] rfl [0, 1, 2, 3, 4, 5, 6, 7, 8] rfl rfl (lp_35 _ 0 y3 g_2 g_3 g_4 g_18 (by decide) (by decide) l_y3 u_y3 p_7 (by first | fail | (rw [rfl]; omega) | (rw [mp_k200_z]; (first | exact mp_o348 | omega))) (by first | fail | decide | (show (0 : Int) ≤ _; (first | exact l_y6 | omega))) (mp_CS_to (i := 0) (mp_CS_0 x_8 (by (first | exact c_14 | omega))) (by first | rfl | decide)) (by first | fail | decide) (Int.self_le_toNat _))
      · have c_14 : i_1.toInt < y4.toInt := c_14
        let w8_ : va_W := [(mp_ob0 a0 a1 y3 a5 a6 a7 a8 a9 a10), (mp_ob7 a1 y1 y2 y3 y4 y5 y6 a2 a11 a3 a12 a13 a14 a15 a16 a17 a18 a19 a4), (mp_arI E a2 0 36 f0), (mp_arI E a3 0 6 f1), (mp_arI E a4 0 60 f2), (mp_arI E a5 0 6 g_2), (mp_arI E a6 0 6 g_3), (mp_arI E a7 0 6 g_4), (mp_arL E a8 20 f6)]
        show mp_W E X 2 24 [(1, .int i_1), (0, .ref a0)] [] w8_ 0 0
        refine mp_run mp_k_cX0_replay_ok hF mp_tabX0_ok [mp_i (.aload_n 0), mp_h (.getfield 18) [13, 0], mp_i (.iload_n 1), mp_i (.aload_n 0), mp_h (.getfield 12) [11, 0], mp_h (.getfield 46) [4, 1], mp_i (.iload_n 1), mp_h .iaload [3], mp_h .iastore [5]] (by decide +kernel) ?_
        refine And.intro rfl (And.intro rfl ?_)
        refine And.intro rfl (And.intro rfl ?_)
        refine And.intro rfl (And.intro rfl ?_)
        refine And.intro rfl (And.intro rfl (And.intro (vp_in_iff.mpr (by (first | exact mp_o349 l_5 u_y4 c_14 | omega))) ?_))
        intro z_74 h_75
        have e_76 : 0 ≤ z_74.toInt ∧ z_74.toInt ≤ 5 := mp_all_ld h_75 p1 (by (first | exact x_9 | omega)) (by (first | exact mp_o350 u_y4 c_14 | omega))
        have e_77 : z_74.toInt = (f1 i_1.toInt.toNat).toInt := congrArg Int32.toInt h_75
        refine And.intro rfl (And.intro rfl (And.intro (vp_in_iff.mpr (by (first | exact mp_o349 l_5 u_y4 c_14 | omega))) ?_))
        intro g_78 h_79
        have p_80 : mp_all g_78 6 0 5 := mp_all_st h_79 p_7 e_76.1 e_76.2
        let w9_ : va_W := [(mp_ob0 a0 a1 y3 a5 a6 a7 a8 a9 a10), (mp_ob7 a1 y1 y2 y3 y4 y5 y6 a2 a11 a3 a12 a13 a14 a15 a16 a17 a18 a19 a4), (mp_arI E a2 0 36 f0), (mp_arI E a3 0 6 f1), (mp_arI E a4 0 60 f2), (mp_arI E a5 0 6 g_78), (mp_arI E a6 0 6 g_3), (mp_arI E a7 0 6 g_4), (mp_arL E a8 20 f6)]
        show mp_W E X 2 39 [(1, .int i_1), (0, .ref a0)] [] w9_ 0 0
        refine mp_run mp_k_cX0_replay_ok hF mp_tabX0_ok [mp_i (.aload_n 0), mp_h (.getfield 22) [14, 0], mp_i (.iload_n 1), mp_c (.iconst 0) 0, mp_h .iastore [6]] (by decide +kernel) ?_
        refine And.intro rfl (And.intro rfl ?_)
        refine And.intro rfl (And.intro rfl (And.intro (vp_in_iff.mpr (by (first | exact mp_o349 l_5 u_y4 c_14 | omega))) ?_))
        intro g_81 h_82
        let w10_ : va_W := [(mp_ob0 a0 a1 y3 a5 a6 a7 a8 a9 a10), (mp_ob7 a1 y1 y2 y3 y4 y5 y6 a2 a11 a3 a12 a13 a14 a15 a16 a17 a18 a19 a4), (mp_arI E a2 0 36 f0), (mp_arI E a3 0 6 f1), (mp_arI E a4 0 60 f2), (mp_arI E a5 0 6 g_78), (mp_arI E a6 0 6 g_81), (mp_arI E a7 0 6 g_4), (mp_arL E a8 20 f6)]
        show mp_W E X 2 46 [(1, .int i_1), (0, .ref a0)] [] w10_ 0 0
        refine mp_run mp_k_cX0_replay_ok hF mp_tabX0_ok [mp_i (.aload_n 0), mp_h (.getfield 25) [15, 0], mp_i (.iload_n 1), mp_c (.iconst (-1)) (-1), mp_h .iastore [7]] (by decide +kernel) ?_
        refine And.intro rfl (And.intro rfl ?_)
        refine And.intro rfl (And.intro rfl (And.intro (vp_in_iff.mpr (by (first | exact mp_o349 l_5 u_y4 c_14 | omega))) ?_))
        intro g_83 h_84
        let w11_ : va_W := [(mp_ob0 a0 a1 y3 a5 a6 a7 a8 a9 a10), (mp_ob7 a1 y1 y2 y3 y4 y5 y6 a2 a11 a3 a12 a13 a14 a15 a16 a17 a18 a19 a4), (mp_arI E a2 0 36 f0), (mp_arI E a3 0 6 f1), (mp_arI E a4 0 60 f2), (mp_arI E a5 0 6 g_78), (mp_arI E a6 0 6 g_81), (mp_arI E a7 0 6 g_83), (mp_arL E a8 20 f6)]
        show mp_W E X 2 53 [(1, .int i_1), (0, .ref a0)] [] w11_ 0 0
        refine mp_run mp_k_cX0_replay_ok hF mp_tabX0_ok [mp_c (.iinc 1 1) 1, mp_h (.goto (-43)) [13]] (by decide +kernel) ?_
        intro z_85 h_86
        have e_87 : z_85.toInt = i_1.toInt + 1 := mp_add (a := i_1.toInt) (b := 1) h_86 rfl (by decide) (by (first | exact mp_o2 l_5 | omega)) (by (first | exact mp_o351 u_6 | omega))
        show mp_W E X 2 13 [(1, .int z_85), (0, .ref a0)] [] w11_ 0 0
        exact mp_sub [0, 1] rfl [0, 1, 2, 3, 4, 5, 6, 7, 8] rfl rfl (ih_12 (d_11 - 1) (by (first | exact mp_o72 hm_13 c_14 | omega)) z_85 g_78 g_81 g_83 (by (first | exact mp_o51 l_5 e_87 | omega)) (by (first | exact mp_o352 u_y4 c_14 e_87 | omega)) p_80 (mp_init_s x_8 h_79 e_77 h_82 h_84 (by (first | exact mp_o353 l_5 e_87 | omega))) (by (first | exact mp_o51 l_5 e_87 | omega)) (by (first | exact mp_o77 hm_13 e_87 | omega)))
  exact mp_sub [0, 1] rfl [0, 1, 2, 3, 4, 5, 6, 7, 8] rfl rfl (lp_10 _ 0 f3 f4 f5 (by decide) (by decide) p3 (mp_init_0 (by first | fail | decide)) (by first | fail | decide) (Int.self_le_toNat _))
set_option maxHeartbeats 4000000 in
set_option maxRecDepth 100000 in
theorem bX9_isles_49 (E : mp_E) (a0 a1 a2 a3 a4 a5 a6 a7 a8 a9 a10 a11 a12 a13 a14 a15 a16 a17 a18 a19 a20 a21 a22 a23 a24 a25 a26 a27 a28 a29 a30 a31 a32 a33 a34 a35 a36 a37 a38 a39 a40 a41 a42 : Nat) (f0 : Nat → Int32) (f1 : Nat → Int32) (f2 : Nat → Int64) (f3 : Nat → Int32) (f4 : Nat → Int32) (f5 : Nat → Int32) (f6 : Nat → Int32) (f7 : Nat → Int32) (f8 : Nat → Int32) (f9 : Nat → Int32) (f10 : Nat → Int32) (f11 : Nat → Int32) (f12 : Nat → Int32) (f13 : Nat → Int32) (f14 : Nat → Int64) (f15 : Nat → Int32) (f16 : Nat → Int32) (f17 : Nat → Int32) (f18 : Nat → Int32) (f19 : Nat → Int32) (f20 : Nat → Int32) (f21 : Nat → Int32) (f22 : Nat → Int32) (f23 : Nat → Int32) (f24 : Nat → Int32) (f25 : Nat → Int32) (f26 : Nat → Int32) (f27 : Nat → Int32) (f28 : Nat → Int64) (y0 : Int32) (y1 : Int32) (y2 : Int32) (y3 : Int32) (y4 : Int32) (y5 : Int32) (y6 : Int32) (y7 : Int32) (y8 : Int32) (y9 : Int32) (y10 : Int32) (y11 : Int32) (y12 : Int32) (y13 : Int32) (y14 : Int32) (y15 : Int32) (y16 : Int32) (y17 : Int32) (y18 : Int32) (y19 : Int32) (y20 : Int32) (p0 : mp_all f1 36 0 20) (p1 : mp_all f3 6 0 5) (p2 : mp_all f6 10 0 5) (p3 : mp_all f7 10 0 5) (p4 : mp_all f9 10 0 99) (p5 : mp_all f10 10 0 1) (p6 : mp_all f11 10 (-1) 9) (p7 : mp_acts f12) (p8 : mp_all f13 36 0 20) (p9 : mp_all f15 6 0 5) (p10 : mp_all f18 10 0 5) (p11 : mp_all f19 10 0 5) (p12 : mp_all f21 10 0 99) (p13 : mp_all f22 10 0 1) (p14 : mp_all f23 10 (-1) 9) (p15 : mp_acts f24) (p16 : mp_all f25 6 0 5) (l_y0 : 0 ≤ y0.toInt) (u_y0 : y0.toInt ≤ 1600) (l_y4 : 0 ≤ y4.toInt) (u_y4 : y4.toInt ≤ 1600) (l_y5 : 0 ≤ y5.toInt) (u_y5 : y5.toInt ≤ 1600) (l_y9 : 0 ≤ y9.toInt) (u_y9 : y9.toInt ≤ 6) (l_y10 : 0 ≤ y10.toInt) (u_y10 : y10.toInt ≤ 99) (l_y11 : 0 ≤ y11.toInt) (u_y11 : y11.toInt ≤ 6) (l_y12 : 0 ≤ y12.toInt) (u_y12 : y12.toInt ≤ 10) (l_y13 : 0 ≤ y13.toInt) (u_y13 : y13.toInt ≤ 60) (l_y14 : 0 ≤ y14.toInt) (u_y14 : y14.toInt ≤ 99) (l_y16 : 0 ≤ y16.toInt) (u_y16 : y16.toInt ≤ 6) (l_y17 : 0 ≤ y17.toInt) (u_y17 : y17.toInt ≤ 99) (l_y18 : 0 ≤ y18.toInt) (u_y18 : y18.toInt ≤ 6) (l_y19 : 0 ≤ y19.toInt) (u_y19 : y19.toInt ≤ 10) (l_y20 : 0 ≤ y20.toInt) (u_y20 : y20.toInt ≤ 60) (q0 : y14.toInt = y17.toInt + mp_k200 f24 y20.toInt) : mp_Ct E yX9_isles cX9_isles 2 (some FieldType.int) 9 0 0 194 [.ref a0] [(mp_ob9 a0 a1 a16 a34 a35 a36 a37 a38 a39 a40), (mp_ob3 a1 a2 y0 a3 y1 y2 y3 y4 y5 y6 y7), (mp_arI E a2 1 1600 f0), (mp_ob7 a3 y8 y9 y10 y11 y12 y13 a4 a5 a6 a7 a8 a9 a10 a11 a12 a13 a14 a15), (mp_arI E a4 0 36 f1), (mp_arL E a5 12 f2), (mp_arI E a6 0 6 f3), (mp_arI E a7 0 6 f4), (mp_arI E a8 0 6 f5), (mp_arI E a9 0 10 f6), (mp_arI E a10 0 10 f7), (mp_arI E a11 0 10 f8), (mp_arI E a12 0 10 f9), (mp_arI E a13 0 10 f10), (mp_arI E a14 0 10 f11), (mp_arI E a15 0 60 f12), (mp_ob0 a16 a17 y14 a30 a31 a32 a33 a41 a42), (mp_ob7 a17 y15 y16 y17 y18 y19 y20 a18 a19 a20 a21 a22 a23 a24 a25 a26 a27 a28 a29), (mp_arI E a18 0 36 f13), (mp_arL E a19 12 f14), (mp_arI E a20 0 6 f15), (mp_arI E a21 0 6 f16), (mp_arI E a22 0 6 f17), (mp_arI E a23 0 10 f18), (mp_arI E a24 0 10 f19), (mp_arI E a25 0 10 f20), (mp_arI E a26 0 10 f21), (mp_arI E a27 0 10 f22), (mp_arI E a28 0 10 f23), (mp_arI E a29 0 60 f24), (mp_arI E a30 0 6 f25), (mp_arI E a31 0 6 f26), (mp_arI E a32 0 6 f27), (mp_arL E a33 20 f28)] (fun v w' => (∃ r1 : Int32, ∃ r2 : Int32, ∃ r3 : Int32, ∃ r4 : Int32, ∃ r5 : Int32, ∃ r6 : Int32, ∃ r7 : Int32, ∃ r8 : Int32, ∃ r9 : Int32, ∃ r10 : Int32, ∃ h11 : Nat → Int32, ∃ h12 : Nat → Int64, ∃ h13 : Nat → Int32, ∃ h14 : Nat → Int32, ∃ h15 : Nat → Int32, ∃ h16 : Nat → Int32, ∃ h17 : Nat → Int32, ∃ h18 : Nat → Int32, ∃ h19 : Nat → Int32, ∃ h20 : Nat → Int32, ∃ h21 : Nat → Int32, ∃ r22 : Int32, ∃ r23 : Int32, ∃ r24 : Int32, ∃ r25 : Int32, ∃ r26 : Int32, ∃ r27 : Int32, ∃ h28 : Nat → Int32, ∃ h29 : Nat → Int64, ∃ h30 : Nat → Int32, ∃ h31 : Nat → Int32, ∃ h32 : Nat → Int32, ∃ h33 : Nat → Int32, ∃ h34 : Nat → Int32, ∃ h35 : Nat → Int32, ∃ h36 : Nat → Int32, ∃ h37 : Nat → Int32, ∃ h38 : Nat → Int32, ∃ h39 : Nat → Int32, ∃ h40 : Nat → Int32, ∃ h41 : Nat → Int32, ∃ h42 : Nat → Int32, ∃ h43 : Nat → Int64, ∃ r44 : Int32, v = some (.int r44) ∧ 0 ≤ r1.toInt ∧ r1.toInt ≤ 4 ∧ 0 ≤ r2.toInt ∧ r2.toInt ≤ 1600 ∧ 0 ≤ r3.toInt ∧ r3.toInt ≤ 1600 ∧ 0 ≤ r4.toInt ∧ r4.toInt ≤ 100000000 ∧ 0 ≤ r6.toInt ∧ r6.toInt ≤ 1600 ∧ 0 ≤ r7.toInt ∧ r7.toInt ≤ 6 ∧ 0 ≤ r8.toInt ∧ r8.toInt ≤ 99 ∧ 0 ≤ r9.toInt ∧ r9.toInt ≤ 6 ∧ 0 ≤ r10.toInt ∧ r10.toInt ≤ 10 ∧ 0 ≤ r22.toInt ∧ r22.toInt ≤ 99 ∧ 0 ≤ r23.toInt ∧ r23.toInt ≤ 1600 ∧ 0 ≤ r24.toInt ∧ r24.toInt ≤ 6 ∧ 0 ≤ r25.toInt ∧ r25.toInt ≤ 99 ∧ 0 ≤ r26.toInt ∧ r26.toInt ≤ 6 ∧ 0 ≤ r27.toInt ∧ r27.toInt ≤ 10 ∧ 0 ≤ r44.toInt ∧ r44.toInt ≤ 1600 ∧ mp_all h11 36 0 20 ∧ mp_all h13 6 0 5 ∧ mp_all h16 10 0 5 ∧ mp_all h17 10 0 5 ∧ mp_all h19 10 0 99 ∧ mp_all h20 10 0 1 ∧ mp_all h21 10 (-1) 9 ∧ mp_all h28 36 0 20 ∧ mp_all h30 6 0 5 ∧ mp_all h33 10 0 5 ∧ mp_all h34 10 0 5 ∧ mp_all h36 10 0 99 ∧ mp_all h37 10 0 1 ∧ mp_all h38 10 (-1) 9 ∧ mp_acts h39 ∧ mp_all h40 6 0 5 ∧ (r22.toInt = r25.toInt + mp_k200 h39 0) ∧ (mp_islR f0 y0.toInt r44.toInt 0 (-1)) ∧ (0 = 0) ∧ (0 = 0) ∧ (∃ t9 : mp_TD, mp_islD f0 y0.toInt t9 ∧ mp_RT t9 (mp_tC (r24.toInt, r25.toInt, r26.toInt, r27.toInt, r23.toInt) 0 (h28, h29, h30, h31, h32, h33, h34, h35, h36, h37, h38, h39))) ∧ (mp_CS h40 h41 h42 h28 h30 h39 r25.toInt r26.toInt (0 : Int).toNat) ∧ w' = [(mp_ob9 a0 a1 a16 a34 a35 a36 a37 a38 a39 a40), (mp_ob3 a1 a2 0 a3 0 (-1) r1 r2 r3 r4 r5), (mp_arI E a2 1 1600 f0), (mp_ob7 a3 r6 r7 r8 r9 r10 0 a4 a5 a6 a7 a8 a9 a10 a11 a12 a13 a14 a15), (mp_arI E a4 0 36 h11), (mp_arL E a5 12 h12), (mp_arI E a6 0 6 h13), (mp_arI E a7 0 6 h14), (mp_arI E a8 0 6 h15), (mp_arI E a9 0 10 h16), (mp_arI E a10 0 10 h17), (mp_arI E a11 0 10 h18), (mp_arI E a12 0 10 h19), (mp_arI E a13 0 10 h20), (mp_arI E a14 0 10 h21), (mp_arI E a15 0 60 f12), (mp_ob0 a16 a17 r22 a30 a31 a32 a33 a41 a42), (mp_ob7 a17 r23 r24 r25 r26 r27 0 a18 a19 a20 a21 a22 a23 a24 a25 a26 a27 a28 a29), (mp_arI E a18 0 36 h28), (mp_arL E a19 12 h29), (mp_arI E a20 0 6 h30), (mp_arI E a21 0 6 h31), (mp_arI E a22 0 6 h32), (mp_arI E a23 0 10 h33), (mp_arI E a24 0 10 h34), (mp_arI E a25 0 10 h35), (mp_arI E a26 0 10 h36), (mp_arI E a27 0 10 h37), (mp_arI E a28 0 10 h38), (mp_arI E a29 0 60 h39), (mp_arI E a30 0 6 h40), (mp_arI E a31 0 6 h41), (mp_arI E a32 0 6 h42), (mp_arL E a33 20 h43)]) ∨ (∃ r1 : Int32, ∃ r2 : Int32, ∃ r3 : Int32, ∃ r4 : Int32, ∃ r5 : Int32, ∃ r6 : Int32, ∃ r7 : Int32, ∃ r8 : Int32, ∃ r9 : Int32, ∃ r10 : Int32, ∃ r11 : Int32, ∃ r12 : Int32, ∃ h13 : Nat → Int32, ∃ h14 : Nat → Int64, ∃ h15 : Nat → Int32, ∃ h16 : Nat → Int32, ∃ h17 : Nat → Int32, ∃ h18 : Nat → Int32, ∃ h19 : Nat → Int32, ∃ h20 : Nat → Int32, ∃ h21 : Nat → Int32, ∃ h22 : Nat → Int32, ∃ h23 : Nat → Int32, v = some (.int (-4)) ∧ 1 ≤ r1.toInt ∧ r1.toInt ≤ 3 ∧ 0 ≤ r2.toInt ∧ r2.toInt ≤ 1600 ∧ 0 ≤ r4.toInt ∧ r4.toInt ≤ 1600 ∧ 0 ≤ r5.toInt ∧ r5.toInt ≤ 1600 ∧ 0 ≤ r8.toInt ∧ r8.toInt ≤ 1600 ∧ 0 ≤ r9.toInt ∧ r9.toInt ≤ 6 ∧ 0 ≤ r10.toInt ∧ r10.toInt ≤ 99 ∧ 0 ≤ r11.toInt ∧ r11.toInt ≤ 6 ∧ 0 ≤ r12.toInt ∧ r12.toInt ≤ 10 ∧ mp_all h13 36 0 20 ∧ mp_all h15 6 0 5 ∧ mp_all h18 10 0 5 ∧ mp_all h19 10 0 5 ∧ mp_all h21 10 0 99 ∧ mp_all h22 10 0 1 ∧ mp_all h23 10 (-1) 9 ∧ (y14.toInt = y17.toInt + mp_k200 f24 y20.toInt) ∧ (mp_islR f0 y0.toInt (-4) r1.toInt r2.toInt) ∧ (0 = 0) ∧ (r1.toInt ≠ 0) ∧ w' = [(mp_ob9 a0 a1 a16 a34 a35 a36 a37 a38 a39 a40), (mp_ob3 a1 a2 0 a3 r1 r2 r3 r4 r5 r6 r7), (mp_arI E a2 1 1600 f0), (mp_ob7 a3 r8 r9 r10 r11 r12 0 a4 a5 a6 a7 a8 a9 a10 a11 a12 a13 a14 a15), (mp_arI E a4 0 36 h13), (mp_arL E a5 12 h14), (mp_arI E a6 0 6 h15), (mp_arI E a7 0 6 h16), (mp_arI E a8 0 6 h17), (mp_arI E a9 0 10 h18), (mp_arI E a10 0 10 h19), (mp_arI E a11 0 10 h20), (mp_arI E a12 0 10 h21), (mp_arI E a13 0 10 h22), (mp_arI E a14 0 10 h23), (mp_arI E a15 0 60 f12), (mp_ob0 a16 a17 y14 a30 a31 a32 a33 a41 a42), (mp_ob7 a17 y15 y16 y17 y18 y19 y20 a18 a19 a20 a21 a22 a23 a24 a25 a26 a27 a28 a29), (mp_arI E a18 0 36 f13), (mp_arL E a19 12 f14), (mp_arI E a20 0 6 f15), (mp_arI E a21 0 6 f16), (mp_arI E a22 0 6 f17), (mp_arI E a23 0 10 f18), (mp_arI E a24 0 10 f19), (mp_arI E a25 0 10 f20), (mp_arI E a26 0 10 f21), (mp_arI E a27 0 10 f22), (mp_arI E a28 0 10 f23), (mp_arI E a29 0 60 f24), (mp_arI E a30 0 6 f25), (mp_arI E a31 0 6 f26), (mp_arI E a32 0 6 f27), (mp_arL E a33 20 f28)])) := by
  refine mp_met false (by decide) (by decide) (Nat.le_of_ble_eq_true rfl) (fun X hF hQ => ?_)
  have hF : mp_F E X (RX9, cX9_isles, 2, (9, 0, 0, 194), (some FieldType.int), false) := hF
  let w1_ : va_W := [(mp_ob9 a0 a1 a16 a34 a35 a36 a37 a38 a39 a40), (mp_ob3 a1 a2 y0 a3 y1 y2 y3 y4 y5 y6 y7), (mp_arI E a2 1 1600 f0), (mp_ob7 a3 y8 y9 y10 y11 y12 y13 a4 a5 a6 a7 a8 a9 a10 a11 a12 a13 a14 a15), (mp_arI E a4 0 36 f1), (mp_arL E a5 12 f2), (mp_arI E a6 0 6 f3), (mp_arI E a7 0 6 f4), (mp_arI E a8 0 6 f5), (mp_arI E a9 0 10 f6), (mp_arI E a10 0 10 f7), (mp_arI E a11 0 10 f8), (mp_arI E a12 0 10 f9), (mp_arI E a13 0 10 f10), (mp_arI E a14 0 10 f11), (mp_arI E a15 0 60 f12), (mp_ob0 a16 a17 y14 a30 a31 a32 a33 a41 a42), (mp_ob7 a17 y15 y16 y17 y18 y19 y20 a18 a19 a20 a21 a22 a23 a24 a25 a26 a27 a28 a29), (mp_arI E a18 0 36 f13), (mp_arL E a19 12 f14), (mp_arI E a20 0 6 f15), (mp_arI E a21 0 6 f16), (mp_arI E a22 0 6 f17), (mp_arI E a23 0 10 f18), (mp_arI E a24 0 10 f19), (mp_arI E a25 0 10 f20), (mp_arI E a26 0 10 f21), (mp_arI E a27 0 10 f22), (mp_arI E a28 0 10 f23), (mp_arI E a29 0 60 f24), (mp_arI E a30 0 6 f25), (mp_arI E a31 0 6 f26), (mp_arI E a32 0 6 f27), (mp_arL E a33 20 f28)]
  show mp_W E X 2 0 [(0, .ref a0)] [] w1_ 0 0
  refine mp_run mp_k_cX9_isles_ok hF mp_tabX9_ok [mp_i (.aload_n 0), mp_h (.getfield 10) [36, 0]] (by decide +kernel) ?_
  refine And.intro rfl (And.intro rfl ?_)
  show mp_W E X 2 4 [(0, .ref a0)] [.ref a1] w1_ 0 0
  refine mp_callV hF (As := []) (rest := []) (wr := [(mp_ob9 a0 a1 a16 a34 a35 a36 a37 a38 a39 a40), (mp_arI E a15 0 60 f12), (mp_ob0 a16 a17 y14 a30 a31 a32 a33 a41 a42), (mp_ob7 a17 y15 y16 y17 y18 y19 y20 a18 a19 a20 a21 a22 a23 a24 a25 a26 a27 a28 a29), (mp_arI E a18 0 36 f13), (mp_arL E a19 12 f14), (mp_arI E a20 0 6 f15), (mp_arI E a21 0 6 f16), (mp_arI E a22 0 6 f17), (mp_arI E a23 0 10 f18), (mp_arI E a24 0 10 f19), (mp_arI E a25 0 10 f20), (mp_arI E a26 0 10 f21), (mp_arI E a27 0 10 f22), (mp_arI E a28 0 10 f23), (mp_arI E a29 0 60 f24), (mp_arI E a30 0 6 f25), (mp_arI E a31 0 6 f26), (mp_arI E a32 0 6 f27), (mp_arL E a33 20 f28)]) (bX3_readAll_43 E a1 a2 a3 a4 a5 a6 a7 a8 a9 a10 a11 a12 a13 a14 a15 f0 f1 f2 f3 f4 f5 f6 f7 f8 f9 f10 f11 y0 y1 y2 y3 y4 y5 y6 y7 y8 y9 y10 y11 y12 y13 p0 p1 p2 p3 p4 p5 p6 l_y0 u_y0 l_y4 u_y4 l_y5 u_y5 l_y9 u_y9 l_y10 u_y10 l_y11 u_y11 l_y12 u_y12 l_y13 u_y13) mp_lkX9_79 1 rfl [1, 2, 3, 4, 5, 6, 7, 8, 9, 10, 11, 12, 13, 14] [0, 15, 16, 17, 18, 19, 20, 21, 22, 23, 24, 25, 26, 27, 28, 29, 30, 31, 32, 33] rfl rfl rfl rfl rfl ⟨(Nat.le_of_ble_eq_true rfl), (Nat.le_of_ble_eq_true rfl), (Nat.le_of_ble_eq_true rfl), (Nat.le_of_ble_eq_true rfl)⟩ (Nat.le_of_ble_eq_true rfl) (by first | exact mp_fd_ok mp_k_cX9_isles_ok (by decide +kernel) | decide +kernel) (fun v_1 w_2 h_3 => ?_)
  refine h_3.elim (fun q_100 => ?_) (fun q_101 => ?_)
  · skip
    refine q_100.elim fun r_4 q_102 => q_102.elim fun r_5 q_103 => q_103.elim fun r_6 q_104 => q_104.elim fun r_7 q_105 => q_105.elim fun r_8 q_106 => q_106.elim fun r_9 q_107 => q_107.elim fun r_10 q_108 => q_108.elim fun r_11 q_109 => q_109.elim fun r_12 q_110 => q_110.elim fun r_13 q_111 => q_111.elim fun g_14 q_112 => q_112.elim fun g_15 q_113 => q_113.elim fun g_16 q_114 => q_114.elim fun g_17 q_115 => q_115.elim fun g_18 q_116 => q_116.elim fun g_19 q_117 => q_117.elim fun g_20 q_118 => q_118.elim fun g_21 q_119 => q_119.elim fun g_22 q_120 => q_120.elim fun g_23 q_121 => q_121.elim fun g_24 q_122 => q_122.elim fun e_123 q_124 => q_124.elim fun l_25 q_125 => q_125.elim fun u_26 q_126 => q_126.elim fun l_27 q_127 => q_127.elim fun u_28 q_128 => q_128.elim fun l_29 q_129 => q_129.elim fun u_30 q_130 => q_130.elim fun l_31 q_131 => q_131.elim fun u_32 q_132 => q_132.elim fun l_33 q_133 => q_133.elim fun u_34 q_134 => q_134.elim fun l_35 q_135 => q_135.elim fun u_36 q_136 => q_136.elim fun l_37 q_137 => q_137.elim fun u_38 q_138 => q_138.elim fun l_39 q_139 => q_139.elim fun u_40 q_140 => q_140.elim fun l_41 q_141 => q_141.elim fun u_42 q_142 => q_142.elim fun p_43 q_143 => q_143.elim fun p_44 q_144 => q_144.elim fun p_45 q_145 => q_145.elim fun p_46 q_146 => q_146.elim fun p_47 q_147 => q_147.elim fun p_48 q_148 => q_148.elim fun p_49 q_149 => q_149.elim fun x_50 e_150 => ?_
    clear h_3 q_100 q_102 q_103 q_104 q_105 q_106 q_107 q_108 q_109 q_110 q_111 q_112 q_113 q_114 q_115 q_116 q_117 q_118 q_119 q_120 q_121 q_122 q_124 q_125 q_126 q_127 q_128 q_129 q_130 q_131 q_132 q_133 q_134 q_135 q_136 q_137 q_138 q_139 q_140 q_141 q_142 q_143 q_144 q_145 q_146 q_147 q_148 q_149
    subst e_123
    subst e_150
    let w2_ : va_W := [(mp_ob9 a0 a1 a16 a34 a35 a36 a37 a38 a39 a40), (mp_arI E a15 0 60 f12), (mp_ob0 a16 a17 y14 a30 a31 a32 a33 a41 a42), (mp_ob7 a17 y15 y16 y17 y18 y19 y20 a18 a19 a20 a21 a22 a23 a24 a25 a26 a27 a28 a29), (mp_arI E a18 0 36 f13), (mp_arL E a19 12 f14), (mp_arI E a20 0 6 f15), (mp_arI E a21 0 6 f16), (mp_arI E a22 0 6 f17), (mp_arI E a23 0 10 f18), (mp_arI E a24 0 10 f19), (mp_arI E a25 0 10 f20), (mp_arI E a26 0 10 f21), (mp_arI E a27 0 10 f22), (mp_arI E a28 0 10 f23), (mp_arI E a29 0 60 f24), (mp_arI E a30 0 6 f25), (mp_arI E a31 0 6 f26), (mp_arI E a32 0 6 f27), (mp_arL E a33 20 f28), (mp_ob3 a1 a2 y0 a3 0 (-1) r_4 r_5 r_6 r_7 r_8), (mp_arI E a2 1 1600 f0), (mp_ob7 a3 r_9 r_10 r_11 r_12 r_13 0 a4 a5 a6 a7 a8 a9 a10 a11 a12 a13 a14 a15), (mp_arI E a4 0 36 g_14), (mp_arL E a5 12 g_15), (mp_arI E a6 0 6 g_16), (mp_arI E a7 0 6 g_17), (mp_arI E a8 0 6 g_18), (mp_arI E a9 0 10 g_19), (mp_arI E a10 0 10 g_20), (mp_arI E a11 0 10 g_21), (mp_arI E a12 0 10 g_22), (mp_arI E a13 0 10 g_23), (mp_arI E a14 0 10 g_24)]
    show mp_W E X 2 7 [(0, .ref a0)] [.int 1] w2_ 0 0
    refine mp_run mp_k_cX9_isles_ok hF mp_tabX9_ok [mp_i (.istore_n 1), mp_i (.aload_n 0), mp_h (.getfield 10) [36, 0], mp_c (.iconst 0) 0, mp_h (.putfield 71) [16, 20]] (by decide +kernel) ?_
    refine And.intro rfl (And.intro rfl ?_)
    refine And.intro rfl (And.intro rfl (And.intro rfl (And.intro rfl (And.intro (Nat.le_of_ble_eq_true rfl) ?_))))
    let w3_ : va_W := [(mp_ob9 a0 a1 a16 a34 a35 a36 a37 a38 a39 a40), (mp_arI E a15 0 60 f12), (mp_ob0 a16 a17 y14 a30 a31 a32 a33 a41 a42), (mp_ob7 a17 y15 y16 y17 y18 y19 y20 a18 a19 a20 a21 a22 a23 a24 a25 a26 a27 a28 a29), (mp_arI E a18 0 36 f13), (mp_arL E a19 12 f14), (mp_arI E a20 0 6 f15), (mp_arI E a21 0 6 f16), (mp_arI E a22 0 6 f17), (mp_arI E a23 0 10 f18), (mp_arI E a24 0 10 f19), (mp_arI E a25 0 10 f20), (mp_arI E a26 0 10 f21), (mp_arI E a27 0 10 f22), (mp_arI E a28 0 10 f23), (mp_arI E a29 0 60 f24), (mp_arI E a30 0 6 f25), (mp_arI E a31 0 6 f26), (mp_arI E a32 0 6 f27), (mp_arL E a33 20 f28), (mp_ob3 a1 a2 0 a3 0 (-1) r_4 r_5 r_6 r_7 r_8), (mp_arI E a2 1 1600 f0), (mp_ob7 a3 r_9 r_10 r_11 r_12 r_13 0 a4 a5 a6 a7 a8 a9 a10 a11 a12 a13 a14 a15), (mp_arI E a4 0 36 g_14), (mp_arL E a5 12 g_15), (mp_arI E a6 0 6 g_16), (mp_arI E a7 0 6 g_17), (mp_arI E a8 0 6 g_18), (mp_arI E a9 0 10 g_19), (mp_arI E a10 0 10 g_20), (mp_arI E a11 0 10 g_21), (mp_arI E a12 0 10 g_22), (mp_arI E a13 0 10 g_23), (mp_arI E a14 0 10 g_24)]
    show mp_W E X 2 16 [(1, .int 1), (0, .ref a0)] [] w3_ 0 0
    refine mp_run mp_k_cX9_isles_ok hF mp_tabX9_ok [mp_i (.iload_n 1), mp_h (.ifCond .ne 6) [23]] (by decide +kernel) ?_
    refine And.intro (fun _ => ?_) (fun c_151 => absurd c_151 (by decide))
    show mp_W E X 2 23 [(1, .int 1), (0, .ref a0)] [] w3_ 0 0
    refine mp_run mp_k_cX9_isles_ok hF mp_tabX9_ok [mp_i (.aload_n 0), mp_h (.getfield 19) [37, 0], mp_h (.getfield 83) [20, 2], mp_i (.aload_n 0), mp_h (.getfield 10) [36, 0], mp_h (.getfield 87) [17, 20]] (by decide +kernel) ?_
    refine And.intro rfl (And.intro rfl ?_)
    refine And.intro rfl (And.intro rfl ?_)
    refine And.intro rfl (And.intro rfl ?_)
    refine And.intro rfl (And.intro rfl ?_)
    show mp_W E X 2 37 [(1, .int 1), (0, .ref a0)] [.ref a3, .ref a17] w3_ 0 0
    refine mp_callV hF (As := [.ref a3]) (rest := []) (wr := [(mp_ob9 a0 a1 a16 a34 a35 a36 a37 a38 a39 a40), (mp_ob0 a16 a17 y14 a30 a31 a32 a33 a41 a42), (mp_arI E a30 0 6 f25), (mp_arI E a31 0 6 f26), (mp_arI E a32 0 6 f27), (mp_arL E a33 20 f28), (mp_ob3 a1 a2 0 a3 0 (-1) r_4 r_5 r_6 r_7 r_8), (mp_arI E a2 1 1600 f0)]) (bX7_copyFrom_44 E a17 a3 a18 a19 a20 a21 a22 a23 a24 a25 a26 a27 a28 a29 a4 a5 a6 a7 a8 a9 a10 a11 a12 a13 a14 a15 f13 f14 f15 f16 f17 f18 f19 f20 f21 f22 f23 f24 g_14 g_15 g_16 g_17 g_18 g_19 g_20 g_21 g_22 g_23 g_24 f12 y15 y16 y17 y18 y19 y20 r_9 r_10 r_11 r_12 r_13 0 p8 p9 p10 p11 p12 p13 p14 p15 p_43 p_44 p_45 p_46 p_47 p_48 p_49 p7 l_y16 u_y16 l_y17 u_y17 l_y18 u_y18 l_y19 u_y19 l_y20 u_y20 l_35 u_36 l_37 u_38 l_39 u_40 l_41 u_42 (by decide) (by decide)) mp_lkX9_90 3 rfl [3, 4, 5, 6, 7, 8, 9, 10, 11, 12, 13, 14, 15, 22, 23, 24, 25, 26, 27, 28, 29, 30, 31, 32, 33, 1] [0, 2, 16, 17, 18, 19, 20, 21] rfl rfl rfl rfl rfl ⟨(Nat.le_of_ble_eq_true rfl), (Nat.le_of_ble_eq_true rfl), (Nat.le_of_ble_eq_true rfl), (Nat.le_of_ble_eq_true rfl)⟩ (Nat.le_of_ble_eq_true rfl) (by first | exact mp_fd_ok mp_k_cX9_isles_ok (by decide +kernel) | decide +kernel) (fun v_152 w_153 h_154 => ?_)
    refine h_154.elim fun g_155 q_177 => q_177.elim fun g_156 q_178 => q_178.elim fun g_157 q_179 => q_179.elim fun g_158 q_180 => q_180.elim fun g_159 q_181 => q_181.elim fun g_160 q_182 => q_182.elim fun g_161 q_183 => q_183.elim fun g_162 q_184 => q_184.elim fun g_163 q_185 => q_185.elim fun g_164 q_186 => q_186.elim fun g_165 q_187 => q_187.elim fun g_166 q_188 => q_188.elim fun e_189 q_190 => q_190.elim fun p_167 q_191 => q_191.elim fun p_168 q_192 => q_192.elim fun p_169 q_193 => q_193.elim fun p_170 q_194 => q_194.elim fun p_171 q_195 => q_195.elim fun p_172 q_196 => q_196.elim fun p_173 q_197 => q_197.elim fun p_174 q_198 => q_198.elim fun x_175 q_199 => q_199.elim fun x_176 e_200 => ?_
    clear h_154 q_177 q_178 q_179 q_180 q_181 q_182 q_183 q_184 q_185 q_186 q_187 q_188 q_190 q_191 q_192 q_193 q_194 q_195 q_196 q_197 q_198 q_199
    subst e_189
    subst e_200
    let w4_ : va_W := [(mp_ob9 a0 a1 a16 a34 a35 a36 a37 a38 a39 a40), (mp_ob0 a16 a17 y14 a30 a31 a32 a33 a41 a42), (mp_arI E a30 0 6 f25), (mp_arI E a31 0 6 f26), (mp_arI E a32 0 6 f27), (mp_arL E a33 20 f28), (mp_ob3 a1 a2 0 a3 0 (-1) r_4 r_5 r_6 r_7 r_8), (mp_arI E a2 1 1600 f0), (mp_ob7 a17 r_9 r_10 r_11 r_12 r_13 0 a18 a19 a20 a21 a22 a23 a24 a25 a26 a27 a28 a29), (mp_arI E a18 0 36 g_155), (mp_arL E a19 12 g_156), (mp_arI E a20 0 6 g_157), (mp_arI E a21 0 6 g_158), (mp_arI E a22 0 6 g_159), (mp_arI E a23 0 10 g_160), (mp_arI E a24 0 10 g_161), (mp_arI E a25 0 10 g_162), (mp_arI E a26 0 10 g_163), (mp_arI E a27 0 10 g_164), (mp_arI E a28 0 10 g_165), (mp_arI E a29 0 60 g_166), (mp_ob7 a3 r_9 r_10 r_11 r_12 r_13 0 a4 a5 a6 a7 a8 a9 a10 a11 a12 a13 a14 a15), (mp_arI E a4 0 36 g_14), (mp_arL E a5 12 g_15), (mp_arI E a6 0 6 g_16), (mp_arI E a7 0 6 g_17), (mp_arI E a8 0 6 g_18), (mp_arI E a9 0 10 g_19), (mp_arI E a10 0 10 g_20), (mp_arI E a11 0 10 g_21), (mp_arI E a12 0 10 g_22), (mp_arI E a13 0 10 g_23), (mp_arI E a14 0 10 g_24), (mp_arI E a15 0 60 f12)]
    show mp_W E X 2 40 [(1, .int 1), (0, .ref a0)] [] w4_ 0 0
    refine mp_run mp_k_cX9_isles_ok hF mp_tabX9_ok [mp_i (.aload_n 0), mp_h (.getfield 19) [37, 0]] (by decide +kernel) ?_
    refine And.intro rfl (And.intro rfl ?_)
    show mp_W E X 2 44 [(1, .int 1), (0, .ref a0)] [.ref a16] w4_ 0 0
    refine mp_callV hF (As := []) (rest := []) (wr := [(mp_ob9 a0 a1 a16 a34 a35 a36 a37 a38 a39 a40), (mp_ob3 a1 a2 0 a3 0 (-1) r_4 r_5 r_6 r_7 r_8), (mp_arI E a2 1 1600 f0), (mp_arL E a19 12 g_156), (mp_arI E a21 0 6 g_158), (mp_arI E a22 0 6 g_159), (mp_arI E a23 0 10 g_160), (mp_arI E a24 0 10 g_161), (mp_arI E a25 0 10 g_162), (mp_arI E a26 0 10 g_163), (mp_arI E a27 0 10 g_164), (mp_arI E a28 0 10 g_165), (mp_ob7 a3 r_9 r_10 r_11 r_12 r_13 0 a4 a5 a6 a7 a8 a9 a10 a11 a12 a13 a14 a15), (mp_arI E a4 0 36 g_14), (mp_arL E a5 12 g_15), (mp_arI E a6 0 6 g_16), (mp_arI E a7 0 6 g_17), (mp_arI E a8 0 6 g_18), (mp_arI E a9 0 10 g_19), (mp_arI E a10 0 10 g_20), (mp_arI E a11 0 10 g_21), (mp_arI E a12 0 10 g_22), (mp_arI E a13 0 10 g_23), (mp_arI E a14 0 10 g_24), (mp_arI E a15 0 60 f12)]) (bX0_replay_48 E a16 a17 a18 a20 a29 a30 a31 a32 a33 a41 a42 a19 a21 a22 a23 a24 a25 a26 a27 a28 g_155 g_157 g_166 f25 f26 f27 f28 y14 r_9 r_10 r_11 r_12 r_13 0 p_167 p_168 p_174 p16 l_y14 u_y14 l_35 u_36 l_37 u_38 l_39 u_40 l_41 u_42 (by decide) (by decide) (by first | fail | (rw [mp_k200_z]; (first | exact mp_o354 u_38 | omega)) | exact mp_tinv_le q0 (by omega) (by omega))) mp_lkX9_94 1 rfl [1, 8, 9, 11, 20, 2, 3, 4, 5] [0, 6, 7, 10, 12, 13, 14, 15, 16, 17, 18, 19, 21, 22, 23, 24, 25, 26, 27, 28, 29, 30, 31, 32, 33] rfl rfl rfl rfl rfl ⟨(Nat.le_of_ble_eq_true rfl), (Nat.le_of_ble_eq_true rfl), (Nat.le_of_ble_eq_true rfl), (Nat.le_of_ble_eq_true rfl)⟩ (Nat.le_of_ble_eq_true rfl) (by first | exact mp_fd_ok mp_k_cX9_isles_ok (by decide +kernel) | decide +kernel) (fun v_201 w_202 h_203 => ?_)
    refine h_203.elim fun r_204 q_214 => q_214.elim fun g_205 q_215 => q_215.elim fun g_206 q_216 => q_216.elim fun g_207 q_217 => q_217.elim fun g_208 q_218 => q_218.elim fun e_219 q_220 => q_220.elim fun l_209 q_221 => q_221.elim fun u_210 q_222 => q_222.elim fun p_211 q_223 => q_223.elim fun x_212 q_224 => q_224.elim fun x_213 e_225 => ?_
    clear h_203 q_214 q_215 q_216 q_217 q_218 q_220 q_221 q_222 q_223 q_224
    subst e_219
    subst e_225
    let w5_ : va_W := [(mp_ob9 a0 a1 a16 a34 a35 a36 a37 a38 a39 a40), (mp_ob3 a1 a2 0 a3 0 (-1) r_4 r_5 r_6 r_7 r_8), (mp_arI E a2 1 1600 f0), (mp_arL E a19 12 g_156), (mp_arI E a21 0 6 g_158), (mp_arI E a22 0 6 g_159), (mp_arI E a23 0 10 g_160), (mp_arI E a24 0 10 g_161), (mp_arI E a25 0 10 g_162), (mp_arI E a26 0 10 g_163), (mp_arI E a27 0 10 g_164), (mp_arI E a28 0 10 g_165), (mp_ob7 a3 r_9 r_10 r_11 r_12 r_13 0 a4 a5 a6 a7 a8 a9 a10 a11 a12 a13 a14 a15), (mp_arI E a4 0 36 g_14), (mp_arL E a5 12 g_15), (mp_arI E a6 0 6 g_16), (mp_arI E a7 0 6 g_17), (mp_arI E a8 0 6 g_18), (mp_arI E a9 0 10 g_19), (mp_arI E a10 0 10 g_20), (mp_arI E a11 0 10 g_21), (mp_arI E a12 0 10 g_22), (mp_arI E a13 0 10 g_23), (mp_arI E a14 0 10 g_24), (mp_arI E a15 0 60 f12), (mp_ob0 a16 a17 r_204 a30 a31 a32 a33 a41 a42), (mp_ob7 a17 r_9 r_10 r_11 r_12 r_13 0 a18 a19 a20 a21 a22 a23 a24 a25 a26 a27 a28 a29), (mp_arI E a18 0 36 g_155), (mp_arI E a20 0 6 g_157), (mp_arI E a29 0 60 g_166), (mp_arI E a30 0 6 g_205), (mp_arI E a31 0 6 g_206), (mp_arI E a32 0 6 g_207), (mp_arL E a33 20 g_208)]
    show mp_W E X 2 47 [(1, .int 1), (0, .ref a0)] [] w5_ 0 0
    refine mp_run mp_k_cX9_isles_ok hF mp_tabX9_ok [mp_i (.aload_n 0), mp_h (.getfield 19) [37, 0], mp_h (.getfield 83) [20, 25], mp_h (.getfield 97) [0, 26]] (by decide +kernel) ?_
    refine And.intro rfl (And.intro rfl ?_)
    refine And.intro rfl (And.intro rfl ?_)
    refine And.intro rfl (And.intro rfl ?_)
    show mp_W E X 2 57 [(1, .int 1), (0, .ref a0)] [.int r_9] w5_ 0 0
    exact mp_iret hF hQ rfl rfl (Nat.le_of_ble_eq_true rfl) (Nat.le_of_ble_eq_true rfl) [0, 1, 2, 12, 13, 14, 15, 16, 17, 18, 19, 20, 21, 22, 23, 24, 25, 26, 27, 3, 28, 4, 5, 6, 7, 8, 9, 10, 11, 29, 30, 31, 32, 33] (w' := [(mp_ob9 a0 a1 a16 a34 a35 a36 a37 a38 a39 a40), (mp_ob3 a1 a2 0 a3 0 (-1) r_4 r_5 r_6 r_7 r_8), (mp_arI E a2 1 1600 f0), (mp_ob7 a3 r_9 r_10 r_11 r_12 r_13 0 a4 a5 a6 a7 a8 a9 a10 a11 a12 a13 a14 a15), (mp_arI E a4 0 36 g_14), (mp_arL E a5 12 g_15), (mp_arI E a6 0 6 g_16), (mp_arI E a7 0 6 g_17), (mp_arI E a8 0 6 g_18), (mp_arI E a9 0 10 g_19), (mp_arI E a10 0 10 g_20), (mp_arI E a11 0 10 g_21), (mp_arI E a12 0 10 g_22), (mp_arI E a13 0 10 g_23), (mp_arI E a14 0 10 g_24), (mp_arI E a15 0 60 f12), (mp_ob0 a16 a17 r_204 a30 a31 a32 a33 a41 a42), (mp_ob7 a17 r_9 r_10 r_11 r_12 r_13 0 a18 a19 a20 a21 a22 a23 a24 a25 a26 a27 a28 a29), (mp_arI E a18 0 36 g_155), (mp_arL E a19 12 g_156), (mp_arI E a20 0 6 g_157), (mp_arI E a21 0 6 g_158), (mp_arI E a22 0 6 g_159), (mp_arI E a23 0 10 g_160), (mp_arI E a24 0 10 g_161), (mp_arI E a25 0 10 g_162), (mp_arI E a26 0 10 g_163), (mp_arI E a27 0 10 g_164), (mp_arI E a28 0 10 g_165), (mp_arI E a29 0 60 g_166), (mp_arI E a30 0 6 g_205), (mp_arI E a31 0 6 g_206), (mp_arI E a32 0 6 g_207), (mp_arL E a33 20 g_208)]) rfl rfl (Or.inl ⟨r_4, r_5, r_6, r_7, r_8, r_9, r_10, r_11, r_12, r_13, g_14, g_15, g_16, g_17, g_18, g_19, g_20, g_21, g_22, g_23, g_24, r_204, r_9, r_10, r_11, r_12, r_13, g_155, g_156, g_157, g_158, g_159, g_160, g_161, g_162, g_163, g_164, g_165, g_166, g_205, g_206, g_207, g_208, r_9, rfl, l_25, u_26, l_27, u_28, l_29, u_30, l_31, u_32, l_33, u_34, l_35, u_36, l_37, u_38, l_39, u_40, l_41, u_42, l_209, u_210, l_33, u_34, l_35, u_36, l_37, u_38, l_39, u_40, l_41, u_42, l_33, u_34, p_43, p_44, p_45, p_46, p_47, p_48, p_49, p_167, p_168, p_169, p_170, p_171, p_172, p_173, p_174, p_211, (by first | fail | decide | (have h8 : (-1 : Int32).toInt = -1 := rfl; have h9 : (0 : Int32).toInt = 0 := rfl; have h7 : (-4 : Int32).toInt = -4 := rfl; omega) | (show _ = _ + mp_k200 _ ((0 : Int32).toInt); (first | exact x_212 | omega))), (by obtain ⟨q8, q9, z8, z9, fu, p, h1⟩ := x_50; exact ⟨fu, _, _, mp_Z_C z8 z9, h1, Or.inr ⟨rfl, (by first | fail | (dsimp only <;> omega) | (have h8 : (-1 : Int32).toInt = -1 := rfl; have h9 : (0 : Int32).toInt = 0 := rfl; have h7 : (-4 : Int32).toInt = -4 := rfl; first | fail | (dsimp only <;> omega))), (by first | (first | exact mp_o355 | omega) | (dsimp only <;> omega) | (have h8 : (-1 : Int32).toInt = -1 := rfl; have h9 : (0 : Int32).toInt = 0 := rfl; have h7 : (-4 : Int32).toInt = -4 := rfl; first | fail | (dsimp only <;> omega))), (by first | (first | exact mp_o356 | omega) | (dsimp only <;> omega) | (have h8 : (-1 : Int32).toInt = -1 := rfl; have h9 : (0 : Int32).toInt = 0 := rfl; have h7 : (-4 : Int32).toInt = -4 := rfl; first | fail | (dsimp only <;> omega)))⟩⟩), (by first | (first | exact mp_o355 | omega) | decide | (have h8 : (-1 : Int32).toInt = -1 := rfl; have h9 : (0 : Int32).toInt = 0 := rfl; have h7 : (-4 : Int32).toInt = -4 := rfl; omega) | (show _ = _ + mp_k200 _ ((0 : Int32).toInt); omega)), (by first | (first | exact mp_o355 | omega) | (have h8 : (-1 : Int32).toInt = -1 := rfl; have h9 : (0 : Int32).toInt = 0 := rfl; have h7 : (-4 : Int32).toInt = -4 := rfl; first | fail | (dsimp only <;> omega))), (by obtain ⟨q8, q9, z8, z9, fu, p, h1⟩ := x_50; exact ⟨mp_tC (r_10.toInt, r_11.toInt, r_12.toInt, r_13.toInt, r_9.toInt) 0 (g_14, g_15, g_16, g_17, g_18, g_19, g_20, g_21, g_22, g_23, g_24, f12), ⟨fu, _, _, mp_Z_C z8 z9, h1, rfl, rfl, rfl, rfl⟩, mp_tC_cp x_176 ⟨(show r_12.toInt ≤ 6 from by (first | exact u_40 | omega)), (show r_13.toInt ≤ 10 from by (first | exact u_42 | omega)), by decide⟩ (by first | rfl | exact mp_sc5 (by omega) (by omega) (by omega) (by omega) (by omega)) (by first | rfl | omega)⟩), (mp_CS_to x_213 (by first | fail | rfl | decide)), rfl⟩) (by first | exact mp_fd_ok mp_k_cX9_isles_ok (by decide +kernel) | decide +kernel)
  · skip
    refine q_101.elim fun r_51 q_226 => q_226.elim fun r_52 q_227 => q_227.elim fun r_53 q_228 => q_228.elim fun r_54 q_229 => q_229.elim fun r_55 q_230 => q_230.elim fun r_56 q_231 => q_231.elim fun r_57 q_232 => q_232.elim fun r_58 q_233 => q_233.elim fun r_59 q_234 => q_234.elim fun r_60 q_235 => q_235.elim fun r_61 q_236 => q_236.elim fun r_62 q_237 => q_237.elim fun g_63 q_238 => q_238.elim fun g_64 q_239 => q_239.elim fun g_65 q_240 => q_240.elim fun g_66 q_241 => q_241.elim fun g_67 q_242 => q_242.elim fun g_68 q_243 => q_243.elim fun g_69 q_244 => q_244.elim fun g_70 q_245 => q_245.elim fun g_71 q_246 => q_246.elim fun g_72 q_247 => q_247.elim fun g_73 q_248 => q_248.elim fun e_249 q_250 => q_250.elim fun l_74 q_251 => q_251.elim fun u_75 q_252 => q_252.elim fun l_76 q_253 => q_253.elim fun u_77 q_254 => q_254.elim fun l_78 q_255 => q_255.elim fun u_79 q_256 => q_256.elim fun l_80 q_257 => q_257.elim fun u_81 q_258 => q_258.elim fun l_82 q_259 => q_259.elim fun u_83 q_260 => q_260.elim fun l_84 q_261 => q_261.elim fun u_85 q_262 => q_262.elim fun l_86 q_263 => q_263.elim fun u_87 q_264 => q_264.elim fun l_88 q_265 => q_265.elim fun u_89 q_266 => q_266.elim fun l_90 q_267 => q_267.elim fun u_91 q_268 => q_268.elim fun p_92 q_269 => q_269.elim fun p_93 q_270 => q_270.elim fun p_94 q_271 => q_271.elim fun p_95 q_272 => q_272.elim fun p_96 q_273 => q_273.elim fun p_97 q_274 => q_274.elim fun p_98 q_275 => q_275.elim fun x_99 e_276 => ?_
    clear h_3 q_101 q_226 q_227 q_228 q_229 q_230 q_231 q_232 q_233 q_234 q_235 q_236 q_237 q_238 q_239 q_240 q_241 q_242 q_243 q_244 q_245 q_246 q_247 q_248 q_250 q_251 q_252 q_253 q_254 q_255 q_256 q_257 q_258 q_259 q_260 q_261 q_262 q_263 q_264 q_265 q_266 q_267 q_268 q_269 q_270 q_271 q_272 q_273 q_274 q_275
    subst e_249
    subst e_276
    let w6_ : va_W := [(mp_ob9 a0 a1 a16 a34 a35 a36 a37 a38 a39 a40), (mp_arI E a15 0 60 f12), (mp_ob0 a16 a17 y14 a30 a31 a32 a33 a41 a42), (mp_ob7 a17 y15 y16 y17 y18 y19 y20 a18 a19 a20 a21 a22 a23 a24 a25 a26 a27 a28 a29), (mp_arI E a18 0 36 f13), (mp_arL E a19 12 f14), (mp_arI E a20 0 6 f15), (mp_arI E a21 0 6 f16), (mp_arI E a22 0 6 f17), (mp_arI E a23 0 10 f18), (mp_arI E a24 0 10 f19), (mp_arI E a25 0 10 f20), (mp_arI E a26 0 10 f21), (mp_arI E a27 0 10 f22), (mp_arI E a28 0 10 f23), (mp_arI E a29 0 60 f24), (mp_arI E a30 0 6 f25), (mp_arI E a31 0 6 f26), (mp_arI E a32 0 6 f27), (mp_arL E a33 20 f28), (mp_ob3 a1 a2 y0 a3 r_51 r_52 r_53 r_54 r_55 r_56 r_57), (mp_arI E a2 1 1600 f0), (mp_ob7 a3 r_58 r_59 r_60 r_61 r_62 0 a4 a5 a6 a7 a8 a9 a10 a11 a12 a13 a14 a15), (mp_arI E a4 0 36 g_63), (mp_arL E a5 12 g_64), (mp_arI E a6 0 6 g_65), (mp_arI E a7 0 6 g_66), (mp_arI E a8 0 6 g_67), (mp_arI E a9 0 10 g_68), (mp_arI E a10 0 10 g_69), (mp_arI E a11 0 10 g_70), (mp_arI E a12 0 10 g_71), (mp_arI E a13 0 10 g_72), (mp_arI E a14 0 10 g_73)]
    show mp_W E X 2 7 [(0, .ref a0)] [.int 0] w6_ 0 0
    refine mp_run mp_k_cX9_isles_ok hF mp_tabX9_ok [mp_i (.istore_n 1), mp_i (.aload_n 0), mp_h (.getfield 10) [36, 0], mp_c (.iconst 0) 0, mp_h (.putfield 71) [16, 20]] (by decide +kernel) ?_
    refine And.intro rfl (And.intro rfl ?_)
    refine And.intro rfl (And.intro rfl (And.intro rfl (And.intro rfl (And.intro (Nat.le_of_ble_eq_true rfl) ?_))))
    let w7_ : va_W := [(mp_ob9 a0 a1 a16 a34 a35 a36 a37 a38 a39 a40), (mp_arI E a15 0 60 f12), (mp_ob0 a16 a17 y14 a30 a31 a32 a33 a41 a42), (mp_ob7 a17 y15 y16 y17 y18 y19 y20 a18 a19 a20 a21 a22 a23 a24 a25 a26 a27 a28 a29), (mp_arI E a18 0 36 f13), (mp_arL E a19 12 f14), (mp_arI E a20 0 6 f15), (mp_arI E a21 0 6 f16), (mp_arI E a22 0 6 f17), (mp_arI E a23 0 10 f18), (mp_arI E a24 0 10 f19), (mp_arI E a25 0 10 f20), (mp_arI E a26 0 10 f21), (mp_arI E a27 0 10 f22), (mp_arI E a28 0 10 f23), (mp_arI E a29 0 60 f24), (mp_arI E a30 0 6 f25), (mp_arI E a31 0 6 f26), (mp_arI E a32 0 6 f27), (mp_arL E a33 20 f28), (mp_ob3 a1 a2 0 a3 r_51 r_52 r_53 r_54 r_55 r_56 r_57), (mp_arI E a2 1 1600 f0), (mp_ob7 a3 r_58 r_59 r_60 r_61 r_62 0 a4 a5 a6 a7 a8 a9 a10 a11 a12 a13 a14 a15), (mp_arI E a4 0 36 g_63), (mp_arL E a5 12 g_64), (mp_arI E a6 0 6 g_65), (mp_arI E a7 0 6 g_66), (mp_arI E a8 0 6 g_67), (mp_arI E a9 0 10 g_68), (mp_arI E a10 0 10 g_69), (mp_arI E a11 0 10 g_70), (mp_arI E a12 0 10 g_71), (mp_arI E a13 0 10 g_72), (mp_arI E a14 0 10 g_73)]
    show mp_W E X 2 16 [(1, .int 0), (0, .ref a0)] [] w7_ 0 0
    refine mp_run mp_k_cX9_isles_ok hF mp_tabX9_ok [mp_i (.iload_n 1), mp_h (.ifCond .ne 6) [23]] (by decide +kernel) ?_
    refine And.intro (fun c_277 => absurd c_277 (by decide)) (fun _ => ?_)
    show mp_W E X 2 20 [(1, .int 0), (0, .ref a0)] [] w7_ 0 0
    refine mp_run mp_k_cX9_isles_ok hF mp_tabX9_ok [mp_c (.bipush (-4)) (-4)] (by decide +kernel) ?_
    show mp_W E X 2 22 [(1, .int 0), (0, .ref a0)] [.int (-4)] w7_ 0 0
    exact mp_iret hF hQ rfl rfl (Nat.le_of_ble_eq_true rfl) (Nat.le_of_ble_eq_true rfl) [0, 20, 21, 22, 23, 24, 25, 26, 27, 28, 29, 30, 31, 32, 33, 1, 2, 3, 4, 5, 6, 7, 8, 9, 10, 11, 12, 13, 14, 15, 16, 17, 18, 19] (w' := [(mp_ob9 a0 a1 a16 a34 a35 a36 a37 a38 a39 a40), (mp_ob3 a1 a2 0 a3 r_51 r_52 r_53 r_54 r_55 r_56 r_57), (mp_arI E a2 1 1600 f0), (mp_ob7 a3 r_58 r_59 r_60 r_61 r_62 0 a4 a5 a6 a7 a8 a9 a10 a11 a12 a13 a14 a15), (mp_arI E a4 0 36 g_63), (mp_arL E a5 12 g_64), (mp_arI E a6 0 6 g_65), (mp_arI E a7 0 6 g_66), (mp_arI E a8 0 6 g_67), (mp_arI E a9 0 10 g_68), (mp_arI E a10 0 10 g_69), (mp_arI E a11 0 10 g_70), (mp_arI E a12 0 10 g_71), (mp_arI E a13 0 10 g_72), (mp_arI E a14 0 10 g_73), (mp_arI E a15 0 60 f12), (mp_ob0 a16 a17 y14 a30 a31 a32 a33 a41 a42), (mp_ob7 a17 y15 y16 y17 y18 y19 y20 a18 a19 a20 a21 a22 a23 a24 a25 a26 a27 a28 a29), (mp_arI E a18 0 36 f13), (mp_arL E a19 12 f14), (mp_arI E a20 0 6 f15), (mp_arI E a21 0 6 f16), (mp_arI E a22 0 6 f17), (mp_arI E a23 0 10 f18), (mp_arI E a24 0 10 f19), (mp_arI E a25 0 10 f20), (mp_arI E a26 0 10 f21), (mp_arI E a27 0 10 f22), (mp_arI E a28 0 10 f23), (mp_arI E a29 0 60 f24), (mp_arI E a30 0 6 f25), (mp_arI E a31 0 6 f26), (mp_arI E a32 0 6 f27), (mp_arL E a33 20 f28)]) rfl rfl (Or.inr ⟨r_51, r_52, r_53, r_54, r_55, r_56, r_57, r_58, r_59, r_60, r_61, r_62, g_63, g_64, g_65, g_66, g_67, g_68, g_69, g_70, g_71, g_72, g_73, rfl, l_74, u_75, l_76, u_77, l_78, u_79, l_80, u_81, l_82, u_83, l_84, u_85, l_86, u_87, l_88, u_89, l_90, u_91, p_92, p_93, p_94, p_95, p_96, p_97, p_98, (by first | (first | exact q0 | omega) | decide | (have h8 : (-1 : Int32).toInt = -1 := rfl; have h9 : (0 : Int32).toInt = 0 := rfl; have h7 : (-4 : Int32).toInt = -4 := rfl; omega) | (show _ = _ + mp_k200 _ ((0 : Int32).toInt); omega)), (by obtain ⟨q8, q9, z8, z9, fu, r9, h1, h2, h3, h4⟩ := x_99; exact ⟨fu, r9, _, mp_Z_C z8 z9, h1, Or.inl ⟨h4, by have h8 : (-1 : Int32).toInt = -1 := rfl; have h9 : (0 : Int32).toInt = 0 := rfl; have h7 : (-4 : Int32).toInt = -4 := rfl; (first | exact mp_o357 | omega), h2.symm, h3.symm⟩⟩), (by first | omega | decide | (have h8 : (-1 : Int32).toInt = -1 := rfl; have h9 : (0 : Int32).toInt = 0 := rfl; have h7 : (-4 : Int32).toInt = -4 := rfl; omega) | (show _ = _ + mp_k200 _ ((0 : Int32).toInt); omega)), (by obtain ⟨q8, q9, z8, z9, fu, r9, h1, h2, h3, h4⟩ := x_99; rw [h2] at h4; exact h4), rfl⟩) (by first | exact mp_fd_ok mp_k_cX9_isles_ok (by decide +kernel) | decide +kernel)
set_option maxHeartbeats 4000000 in
set_option maxRecDepth 100000 in
theorem bX9_fault_50 (E : mp_E) (a0 a1 a2 a3 a4 a5 a6 a7 a8 a9 a10 a11 : Nat) (y0 : Int32) (y1 : Int32) (y2 : Int32) (y3 : Int32) (y4 : Int32) (y5 : Int32) (y6 : Int32) (y7 : Int32) (x0 : Int32) (l_y0 : 0 ≤ y0.toInt) (u_y0 : y0.toInt ≤ 1600) (l_y4 : 0 ≤ y4.toInt) (u_y4 : y4.toInt ≤ 1600) (l_y5 : 0 ≤ y5.toInt) (u_y5 : y5.toInt ≤ 1600) : mp_Ct E yX9_fault cX9_fault 2 (some FieldType.int) 0 0 0 0 [.ref a0, .int x0] [(mp_ob9 a0 a1 a2 a3 a4 a5 a6 a7 a8 a9), (mp_ob3 a1 a10 y0 a11 y1 y2 y3 y4 y5 y6 y7)] (fun v w' => ∃ r1 : Int32, v = some (.int r1) ∧ ((x0.toInt = 0 ∧ r1.toInt = y1.toInt) ∨ (x0.toInt = 1 ∧ r1.toInt = y2.toInt) ∨ (x0.toInt ≠ 0 ∧ x0.toInt ≠ 1 ∧ r1.toInt = -1)) ∧ w' = [(mp_ob9 a0 a1 a2 a3 a4 a5 a6 a7 a8 a9), (mp_ob3 a1 a10 y0 a11 y1 y2 y3 y4 y5 y6 y7)]) := by
  refine mp_met false (by decide) (by decide) (Nat.le_of_ble_eq_true rfl) (fun X hF hQ => ?_)
  have hF : mp_F E X (RX9, cX9_fault, 2, (0, 0, 0, 0), (some FieldType.int), false) := hF
  let w1_ : va_W := [(mp_ob9 a0 a1 a2 a3 a4 a5 a6 a7 a8 a9), (mp_ob3 a1 a10 y0 a11 y1 y2 y3 y4 y5 y6 y7)]
  show mp_W E X 2 0 [(0, .ref a0), (1, .int x0)] [] w1_ 0 0
  refine mp_run mp_k_cX9_fault_ok hF mp_tabX9_ok [mp_i (.iload_n 1), mp_h (.ifCond .ne 11) [12]] (by decide +kernel) ?_
  refine And.intro (fun c_1 => ?_) (fun c_1 => ?_)
  · have c_1 : x0.toInt ≠ 0 := c_1
    show mp_W E X 2 12 [(0, .ref a0), (1, .int x0)] [] w1_ 0 0
    refine mp_run mp_k_cX9_fault_ok hF mp_tabX9_ok [mp_i (.iload_n 1), mp_c (.iconst 1) 1, mp_h (.if_icmp .ne 13) [27]] (by decide +kernel) ?_
    refine And.intro (fun c_2 => ?_) (fun c_2 => ?_)
    · have c_2 : x0.toInt ≠ 1 := c_2
      show mp_W E X 2 27 [(0, .ref a0), (1, .int x0)] [] w1_ 0 0
      refine mp_run mp_k_cX9_fault_ok hF mp_tabX9_ok [mp_c (.iconst (-1)) (-1)] (by decide +kernel) ?_
      show mp_W E X 2 28 [(0, .ref a0), (1, .int x0)] [.int (-1)] w1_ 0 0
      exact mp_iret hF hQ rfl rfl (Nat.le_of_ble_eq_true rfl) (Nat.le_of_ble_eq_true rfl) [0, 1] (w' := w1_) rfl rfl ⟨(-1), rfl, (by first | fail | (have h8 : (-1 : Int32).toInt = -1 := rfl; (first | exact mp_o358 c_1 c_2 h8 | omega))), rfl⟩ (by first | exact mp_fd_ok mp_k_cX9_fault_ok (by decide +kernel) | decide +kernel)
    · have c_2 : x0.toInt = 1 := (congrArg Int32.toInt c_2)
      show mp_W E X 2 17 [(0, .ref a0), (1, .int x0)] [] w1_ 0 0
      refine mp_run mp_k_cX9_fault_ok hF mp_tabX9_ok [mp_i (.aload_n 0), mp_h (.getfield 10) [36, 0], mp_h (.getfield 103) [19, 1], mp_h (.goto 4) [28]] (by decide +kernel) ?_
      refine And.intro rfl (And.intro rfl ?_)
      refine And.intro rfl (And.intro rfl ?_)
      show mp_W E X 2 28 [(0, .ref a0), (1, .int x0)] [.int y2] w1_ 0 0
      exact mp_iret hF hQ rfl rfl (Nat.le_of_ble_eq_true rfl) (Nat.le_of_ble_eq_true rfl) [0, 1] (w' := w1_) rfl rfl ⟨y2, rfl, (by first | (first | exact mp_o359 c_2 | omega) | (have h8 : (-1 : Int32).toInt = -1 := rfl; omega)), rfl⟩ (by first | exact mp_fd_ok mp_k_cX9_fault_ok (by decide +kernel) | decide +kernel)
  · have c_1 : x0.toInt = 0 := (congrArg Int32.toInt c_1)
    show mp_W E X 2 4 [(0, .ref a0), (1, .int x0)] [] w1_ 0 0
    refine mp_run mp_k_cX9_fault_ok hF mp_tabX9_ok [mp_i (.aload_n 0), mp_h (.getfield 10) [36, 0], mp_h (.getfield 100) [18, 1]] (by decide +kernel) ?_
    refine And.intro rfl (And.intro rfl ?_)
    refine And.intro rfl (And.intro rfl ?_)
    show mp_W E X 2 11 [(0, .ref a0), (1, .int x0)] [.int y1] w1_ 0 0
    exact mp_iret hF hQ rfl rfl (Nat.le_of_ble_eq_true rfl) (Nat.le_of_ble_eq_true rfl) [0, 1] (w' := w1_) rfl rfl ⟨y1, rfl, (by first | (first | exact mp_o360 c_1 | omega) | (have h8 : (-1 : Int32).toInt = -1 := rfl; omega)), rfl⟩ (by first | exact mp_fd_ok mp_k_cX9_fault_ok (by decide +kernel) | decide +kernel)
set_option maxHeartbeats 4000000 in
set_option maxRecDepth 100000 in
theorem bX7_isPerson_51 (E : mp_E) (a0 a1 a2 a3 a4 a5 a6 a7 a8 a9 a10 a11 a12 : Nat) (y0 : Int32) (y1 : Int32) (y2 : Int32) (y3 : Int32) (y4 : Int32) (y5 : Int32) (x0 : Int32) (l_y1 : 0 ≤ y1.toInt) (u_y1 : y1.toInt ≤ 6) (l_y2 : 0 ≤ y2.toInt) (u_y2 : y2.toInt ≤ 99) (l_y3 : 0 ≤ y3.toInt) (u_y3 : y3.toInt ≤ 6) (l_y4 : 0 ≤ y4.toInt) (u_y4 : y4.toInt ≤ 10) (l_y5 : 0 ≤ y5.toInt) (u_y5 : y5.toInt ≤ 60) : mp_Ct E yX7_isPerson cX7_isPerson 2 (some FieldType.boolean) 0 0 0 0 [.ref a0, .int x0] [(mp_ob7 a0 y0 y1 y2 y3 y4 y5 a1 a2 a3 a4 a5 a6 a7 a8 a9 a10 a11 a12)] (fun v w' => (v = some (.int 0) ∧ (x0.toInt < 0 ∨ y3.toInt ≤ x0.toInt) ∧ w' = [(mp_ob7 a0 y0 y1 y2 y3 y4 y5 a1 a2 a3 a4 a5 a6 a7 a8 a9 a10 a11 a12)]) ∨ (v = some (.int 1) ∧ 0 ≤ x0.toInt ∧ x0.toInt < y3.toInt ∧ (0 ≤ x0.toInt ∧ x0.toInt < y3.toInt) ∧ w' = [(mp_ob7 a0 y0 y1 y2 y3 y4 y5 a1 a2 a3 a4 a5 a6 a7 a8 a9 a10 a11 a12)])) := by
  refine mp_met false (by decide) (by decide) (Nat.le_of_ble_eq_true rfl) (fun X hF hQ => ?_)
  have hF : mp_F E X (RX7, cX7_isPerson, 2, (0, 0, 0, 0), (some FieldType.boolean), false) := hF
  let w1_ : va_W := [(mp_ob7 a0 y0 y1 y2 y3 y4 y5 a1 a2 a3 a4 a5 a6 a7 a8 a9 a10 a11 a12)]
  show mp_W E X 2 0 [(0, .ref a0), (1, .int x0)] [] w1_ 0 0
  refine mp_run mp_k_cX7_isPerson_ok hF mp_tabX7_ok [mp_i (.iload_n 1), mp_h (.ifCond .lt 15) [16]] (by decide +kernel) ?_
  refine And.intro (fun c_1 => ?_) (fun c_1 => ?_)
  · have c_1 : x0.toInt < 0 := c_1
    show mp_W E X 2 16 [(0, .ref a0), (1, .int x0)] [] w1_ 0 0
    refine mp_run mp_k_cX7_isPerson_ok hF mp_tabX7_ok [mp_c (.iconst 0) 0] (by decide +kernel) ?_
    show mp_W E X 2 17 [(0, .ref a0), (1, .int x0)] [.int 0] w1_ 0 0
    exact mp_iret hF hQ rfl (by decide) (Nat.le_of_ble_eq_true rfl) (Nat.le_of_ble_eq_true rfl) [0] (w' := w1_) rfl rfl (Or.inl ⟨rfl, (by first | (first | exact mp_o361 c_1 | omega) | decide | (have h8 : (0 : Int64).toInt = 0 := rfl; have h9 : (-1 : Int32).toInt = -1 := rfl; have h10 : (-2 : Int32).toInt = -2 := rfl; have h11 : (0 : Int32).toInt = 0 := rfl; have h12 : (1 : Int32).toInt = 1 := rfl; have h13 : (-5 : Int32).toInt = -5 := rfl; have h14 : (-3 : Int32).toInt = -3 := rfl; omega)), rfl⟩) (by first | exact mp_fd_ok mp_k_cX7_isPerson_ok (by decide +kernel) | decide +kernel)
  · have c_1 : 0 ≤ x0.toInt := c_1
    show mp_W E X 2 4 [(0, .ref a0), (1, .int x0)] [] w1_ 0 0
    refine mp_run mp_k_cX7_isPerson_ok hF mp_tabX7_ok [mp_i (.iload_n 1), mp_i (.aload_n 0), mp_h (.getfield 59) [3, 0], mp_h (.if_icmp .ge 7) [16]] (by decide +kernel) ?_
    refine And.intro rfl (And.intro rfl ?_)
    refine And.intro (fun c_2 => ?_) (fun c_2 => ?_)
    · have c_2 : y3.toInt ≤ x0.toInt := c_2
      show mp_W E X 2 16 [(0, .ref a0), (1, .int x0)] [] w1_ 0 0
      refine mp_run mp_k_cX7_isPerson_ok hF mp_tabX7_ok [mp_c (.iconst 0) 0] (by decide +kernel) ?_
      show mp_W E X 2 17 [(0, .ref a0), (1, .int x0)] [.int 0] w1_ 0 0
      exact mp_iret hF hQ rfl (by decide) (Nat.le_of_ble_eq_true rfl) (Nat.le_of_ble_eq_true rfl) [0] (w' := w1_) rfl rfl (Or.inl ⟨rfl, (by first | (first | exact mp_o362 c_2 | omega) | decide | (have h8 : (0 : Int64).toInt = 0 := rfl; have h9 : (-1 : Int32).toInt = -1 := rfl; have h10 : (-2 : Int32).toInt = -2 := rfl; have h11 : (0 : Int32).toInt = 0 := rfl; have h12 : (1 : Int32).toInt = 1 := rfl; have h13 : (-5 : Int32).toInt = -5 := rfl; have h14 : (-3 : Int32).toInt = -3 := rfl; omega)), rfl⟩) (by first | exact mp_fd_ok mp_k_cX7_isPerson_ok (by decide +kernel) | decide +kernel)
    · have c_2 : x0.toInt < y3.toInt := c_2
      show mp_W E X 2 12 [(0, .ref a0), (1, .int x0)] [] w1_ 0 0
      refine mp_run mp_k_cX7_isPerson_ok hF mp_tabX7_ok [mp_c (.iconst 1) 1, mp_h (.goto 4) [17]] (by decide +kernel) ?_
      show mp_W E X 2 17 [(0, .ref a0), (1, .int x0)] [.int 1] w1_ 0 0
      exact mp_iret hF hQ rfl (by decide) (Nat.le_of_ble_eq_true rfl) (Nat.le_of_ble_eq_true rfl) [0] (w' := w1_) rfl rfl (Or.inr ⟨rfl, (by first | (first | exact c_1 | omega) | decide), (by first | (first | exact c_2 | omega) | decide), (by first | (first | exact mp_o80 c_1 c_2 | omega) | decide | (have h8 : (0 : Int64).toInt = 0 := rfl; have h9 : (-1 : Int32).toInt = -1 := rfl; have h10 : (-2 : Int32).toInt = -2 := rfl; have h11 : (0 : Int32).toInt = 0 := rfl; have h12 : (1 : Int32).toInt = 1 := rfl; have h13 : (-5 : Int32).toInt = -5 := rfl; have h14 : (-3 : Int32).toInt = -3 := rfl; omega)), rfl⟩) (by first | exact mp_fd_ok mp_k_cX7_isPerson_ok (by decide +kernel) | decide +kernel)
set_option maxHeartbeats 4000000 in
set_option maxRecDepth 100000 in
theorem bX9_person_52 (E : mp_E) (a0 a1 a2 a3 a4 a5 a6 a7 a8 a9 a10 a11 a12 a13 a14 a15 a16 a17 a18 a19 a20 a21 a22 a23 a24 a25 a26 a27 a28 : Nat) (f0 : Nat → Int32) (f1 : Nat → Int32) (f2 : Nat → Int32) (y0 : Int32) (y1 : Int32) (y2 : Int32) (y3 : Int32) (y4 : Int32) (y5 : Int32) (y6 : Int32) (x0 : Int32) (x1 : Int32) (p0 : mp_all f0 6 0 5) (l_y0 : 0 ≤ y0.toInt) (u_y0 : y0.toInt ≤ 99) (l_y2 : 0 ≤ y2.toInt) (u_y2 : y2.toInt ≤ 6) (l_y3 : 0 ≤ y3.toInt) (u_y3 : y3.toInt ≤ 99) (l_y4 : 0 ≤ y4.toInt) (u_y4 : y4.toInt ≤ 6) (l_y5 : 0 ≤ y5.toInt) (u_y5 : y5.toInt ≤ 10) (l_y6 : 0 ≤ y6.toInt) (u_y6 : y6.toInt ≤ 60) : mp_Ct E yX9_person cX9_person 4 (some FieldType.int) 1 0 0 21 [.ref a0, .int x0, .int x1] [(mp_ob9 a0 a6 a1 a7 a8 a9 a10 a11 a12 a13), (mp_ob0 a1 a2 y0 a14 a15 a16 a17 a18 a19), (mp_ob7 a2 y1 y2 y3 y4 y5 y6 a20 a21 a3 a4 a5 a22 a23 a24 a25 a26 a27 a28), (mp_arI E a3 0 6 f0), (mp_arI E a4 0 6 f1), (mp_arI E a5 0 6 f2)] (fun v w' => ∃ r1 : Int32, v = some (.int r1) ∧ (((x0.toInt < 0 ∨ y4.toInt ≤ x0.toInt ∨ x1.toInt < 0 ∨ 2 < x1.toInt) ∧ r1.toInt = -2) ∨ ((0 ≤ x0.toInt ∧ x0.toInt < y4.toInt) ∧ ((x1.toInt = 0 ∧ r1.toInt = (f0 x0.toInt.toNat).toInt) ∨ (x1.toInt = 1 ∧ r1.toInt = (f1 x0.toInt.toNat).toInt) ∨ (x1.toInt = 2 ∧ r1.toInt = (f2 x0.toInt.toNat).toInt)))) ∧ w' = [(mp_ob9 a0 a6 a1 a7 a8 a9 a10 a11 a12 a13), (mp_ob0 a1 a2 y0 a14 a15 a16 a17 a18 a19), (mp_ob7 a2 y1 y2 y3 y4 y5 y6 a20 a21 a3 a4 a5 a22 a23 a24 a25 a26 a27 a28), (mp_arI E a3 0 6 f0), (mp_arI E a4 0 6 f1), (mp_arI E a5 0 6 f2)]) := by
  refine mp_met false (by decide) (by decide) (Nat.le_of_ble_eq_true rfl) (fun X hF hQ => ?_)
  have hF : mp_F E X (RX9, cX9_person, 4, (1, 0, 0, 21), (some FieldType.int), false) := hF
  let w1_ : va_W := [(mp_ob9 a0 a6 a1 a7 a8 a9 a10 a11 a12 a13), (mp_ob0 a1 a2 y0 a14 a15 a16 a17 a18 a19), (mp_ob7 a2 y1 y2 y3 y4 y5 y6 a20 a21 a3 a4 a5 a22 a23 a24 a25 a26 a27 a28), (mp_arI E a3 0 6 f0), (mp_arI E a4 0 6 f1), (mp_arI E a5 0 6 f2)]
  show mp_W E X 4 0 [(0, .ref a0), (1, .int x0), (2, .int x1)] [] w1_ 0 0
  refine mp_run mp_k_cX9_person_ok hF mp_tabX9_ok [mp_i (.aload_n 0), mp_h (.getfield 19) [37, 0], mp_h (.getfield 83) [20, 1], mp_i (.astore_n 3), mp_i (.aload_n 3), mp_i (.iload_n 1)] (by decide +kernel) ?_
  refine And.intro rfl (And.intro rfl ?_)
  refine And.intro rfl (And.intro rfl ?_)
  show mp_W E X 4 10 [(3, .ref a2), (0, .ref a0), (1, .int x0), (2, .int x1)] [.int x0, .ref a2] w1_ 0 0
  refine mp_callV hF (As := [.int x0]) (rest := []) (wr := [(mp_ob9 a0 a6 a1 a7 a8 a9 a10 a11 a12 a13), (mp_ob0 a1 a2 y0 a14 a15 a16 a17 a18 a19), (mp_arI E a3 0 6 f0), (mp_arI E a4 0 6 f1), (mp_arI E a5 0 6 f2)]) (bX7_isPerson_51 E a2 a20 a21 a3 a4 a5 a22 a23 a24 a25 a26 a27 a28 y1 y2 y3 y4 y5 y6 x0 l_y2 u_y2 l_y3 u_y3 l_y4 u_y4 l_y5 u_y5 l_y6 u_y6) mp_lkX9_106 2 rfl [2] [0, 1, 3, 4, 5] rfl rfl rfl rfl rfl ⟨(Nat.le_of_ble_eq_true rfl), (Nat.le_of_ble_eq_true rfl), (Nat.le_of_ble_eq_true rfl), (Nat.le_of_ble_eq_true rfl)⟩ (Nat.le_of_ble_eq_true rfl) (by first | exact mp_fd_ok mp_k_cX9_person_ok (by decide +kernel) | decide +kernel) (fun v_1 w_2 h_3 => ?_)
  rcases h_3 with ⟨rfl, x_4, rfl⟩ | ⟨rfl, c_5, c_6, x_7, rfl⟩
  · skip
    let w2_ : va_W := [(mp_ob9 a0 a6 a1 a7 a8 a9 a10 a11 a12 a13), (mp_ob0 a1 a2 y0 a14 a15 a16 a17 a18 a19), (mp_arI E a3 0 6 f0), (mp_arI E a4 0 6 f1), (mp_arI E a5 0 6 f2), (mp_ob7 a2 y1 y2 y3 y4 y5 y6 a20 a21 a3 a4 a5 a22 a23 a24 a25 a26 a27 a28)]
    show mp_W E X 4 13 [(3, .ref a2), (0, .ref a0), (1, .int x0), (2, .int x1)] [.int 0] w2_ 0 0
    refine mp_run mp_k_cX9_person_ok hF mp_tabX9_ok [mp_h (.ifCond .ne 6) [19]] (by decide +kernel) ?_
    refine And.intro (fun c_8 => absurd c_8 (by decide)) (fun _ => ?_)
    show mp_W E X 4 16 [(3, .ref a2), (0, .ref a0), (1, .int x0), (2, .int x1)] [] w2_ 0 0
    refine mp_run mp_k_cX9_person_ok hF mp_tabX9_ok [mp_c (.bipush (-2)) (-2)] (by decide +kernel) ?_
    show mp_W E X 4 18 [(3, .ref a2), (0, .ref a0), (1, .int x0), (2, .int x1)] [.int (-2)] w2_ 0 0
    exact mp_iret hF hQ rfl rfl (Nat.le_of_ble_eq_true rfl) (Nat.le_of_ble_eq_true rfl) [0, 1, 5, 2, 3, 4] (w' := w1_) rfl rfl ⟨(-2), rfl, (by first | exact Or.inl ⟨x_4.elim (fun q => Or.inl q) (fun q => Or.inr (Or.inl q)), rfl⟩ | omega | decide | (have h8 : (0 : Int64).toInt = 0 := rfl; have h9 : (-1 : Int32).toInt = -1 := rfl; have h10 : (-2 : Int32).toInt = -2 := rfl; have h11 : (0 : Int32).toInt = 0 := rfl; have h12 : (1 : Int32).toInt = 1 := rfl; have h13 : (-5 : Int32).toInt = -5 := rfl; have h14 : (-3 : Int32).toInt = -3 := rfl; omega)), rfl⟩ (by first | exact mp_fd_ok mp_k_cX9_person_ok (by decide +kernel) | decide +kernel)
  · skip
    have c_5 : 0 ≤ x0.toInt := c_5
    have c_6 : x0.toInt < y4.toInt := c_6
    let w3_ : va_W := [(mp_ob9 a0 a6 a1 a7 a8 a9 a10 a11 a12 a13), (mp_ob0 a1 a2 y0 a14 a15 a16 a17 a18 a19), (mp_arI E a3 0 6 f0), (mp_arI E a4 0 6 f1), (mp_arI E a5 0 6 f2), (mp_ob7 a2 y1 y2 y3 y4 y5 y6 a20 a21 a3 a4 a5 a22 a23 a24 a25 a26 a27 a28)]
    show mp_W E X 4 13 [(3, .ref a2), (0, .ref a0), (1, .int x0), (2, .int x1)] [.int 1] w3_ 0 0
    refine mp_run mp_k_cX9_person_ok hF mp_tabX9_ok [mp_h (.ifCond .ne 6) [19]] (by decide +kernel) ?_
    refine And.intro (fun _ => ?_) (fun c_9 => absurd c_9 (by decide))
    show mp_W E X 4 19 [(3, .ref a2), (0, .ref a0), (1, .int x0), (2, .int x1)] [] w3_ 0 0
    refine mp_run mp_k_cX9_person_ok hF mp_tabX9_ok [mp_i (.iload_n 2)] (by decide +kernel) ?_
    show mp_W E X 4 20 [(3, .ref a2), (0, .ref a0), (1, .int x0), (2, .int x1)] [.int x1] w3_ 0 0
    rcases (mp_swc_0_2 x1.toInt) with c_10 | c_10 | c_10 | c_10 | c_10
    · refine mp_tabOut hF (dflt := 49) (lo := 0) (hi := 2) (offs := #[28, 35, 42]) (len := 28) (by first | exact mp_fd_ok mp_k_cX9_person_ok (by decide +kernel) | decide +kernel) (Or.inl c_10) (tgt := 69) (by decide) ?_
      show mp_W E X 4 69 [(3, .ref a2), (0, .ref a0), (1, .int x0), (2, .int x1)] [] w3_ 0 0
      refine mp_run mp_k_cX9_person_ok hF mp_tabX9_ok [mp_c (.bipush (-2)) (-2)] (by decide +kernel) ?_
      show mp_W E X 4 71 [(3, .ref a2), (0, .ref a0), (1, .int x0), (2, .int x1)] [.int (-2)] w3_ 0 0
      exact mp_iret hF hQ rfl rfl (Nat.le_of_ble_eq_true rfl) (Nat.le_of_ble_eq_true rfl) [0, 1, 5, 2, 3, 4] (w' := w1_) rfl rfl ⟨(-2), rfl, (by first | exact Or.inl ⟨Or.inr (Or.inr (Or.inl c_10)), rfl⟩ | omega | decide | (have h8 : (0 : Int64).toInt = 0 := rfl; have h9 : (-1 : Int32).toInt = -1 := rfl; have h10 : (-2 : Int32).toInt = -2 := rfl; have h11 : (0 : Int32).toInt = 0 := rfl; have h12 : (1 : Int32).toInt = 1 := rfl; have h13 : (-5 : Int32).toInt = -5 := rfl; have h14 : (-3 : Int32).toInt = -3 := rfl; omega)), rfl⟩ (by first | exact mp_fd_ok mp_k_cX9_person_ok (by decide +kernel) | decide +kernel)
    · refine mp_tabOut hF (dflt := 49) (lo := 0) (hi := 2) (offs := #[28, 35, 42]) (len := 28) (by first | exact mp_fd_ok mp_k_cX9_person_ok (by decide +kernel) | decide +kernel) (Or.inr c_10) (tgt := 69) (by decide) ?_
      show mp_W E X 4 69 [(3, .ref a2), (0, .ref a0), (1, .int x0), (2, .int x1)] [] w3_ 0 0
      refine mp_run mp_k_cX9_person_ok hF mp_tabX9_ok [mp_c (.bipush (-2)) (-2)] (by decide +kernel) ?_
      show mp_W E X 4 71 [(3, .ref a2), (0, .ref a0), (1, .int x0), (2, .int x1)] [.int (-2)] w3_ 0 0
      exact mp_iret hF hQ rfl rfl (Nat.le_of_ble_eq_true rfl) (Nat.le_of_ble_eq_true rfl) [0, 1, 5, 2, 3, 4] (w' := w1_) rfl rfl ⟨(-2), rfl, (by first | exact Or.inl ⟨Or.inr (Or.inr (Or.inr c_10)), rfl⟩ | omega | decide | (have h8 : (0 : Int64).toInt = 0 := rfl; have h9 : (-1 : Int32).toInt = -1 := rfl; have h10 : (-2 : Int32).toInt = -2 := rfl; have h11 : (0 : Int32).toInt = 0 := rfl; have h12 : (1 : Int32).toInt = 1 := rfl; have h13 : (-5 : Int32).toInt = -5 := rfl; have h14 : (-3 : Int32).toInt = -3 := rfl; omega)), rfl⟩ (by first | exact mp_fd_ok mp_k_cX9_person_ok (by decide +kernel) | decide +kernel)
    · refine mp_tabIn hF (dflt := 49) (lo := 0) (hi := 2) (offs := #[28, 35, 42]) (len := 28) (off := 28) (tgt := 48) (by first | exact mp_fd_ok mp_k_cX9_person_ok (by decide +kernel) | decide +kernel) (by omega) (by omega) (by rw [c_10]; rfl) (by decide) ?_
      show mp_W E X 4 48 [(3, .ref a2), (0, .ref a0), (1, .int x0), (2, .int x1)] [] w3_ 0 0
      refine mp_run mp_k_cX9_person_ok hF mp_tabX9_ok [mp_i (.aload_n 3), mp_h (.getfield 110) [6, 5], mp_i (.iload_n 1), mp_h .iaload [2]] (by decide +kernel) ?_
      refine And.intro rfl (And.intro rfl ?_)
      refine And.intro rfl (And.intro rfl (And.intro (vp_in_iff.mpr (by omega)) ?_))
      intro z_11 h_12
      have e_13 : 0 ≤ z_11.toInt ∧ z_11.toInt ≤ 5 := mp_all_ld h_12 p0 (by omega) (by omega)
      have e_14 : z_11.toInt = (f0 (x0.toInt).toNat).toInt := mp_at_i h_12 (by omega)
      show mp_W E X 4 54 [(3, .ref a2), (0, .ref a0), (1, .int x0), (2, .int x1)] [.int z_11] w3_ 0 0
      exact mp_iret hF hQ rfl rfl (Nat.le_of_ble_eq_true rfl) (Nat.le_of_ble_eq_true rfl) [0, 1, 5, 2, 3, 4] (w' := w1_) rfl rfl ⟨z_11, rfl, (by first | exact Or.inr ⟨⟨c_5, c_6⟩, Or.inl ⟨c_10, e_14⟩⟩ | omega | decide | (have h8 : (0 : Int64).toInt = 0 := rfl; have h9 : (-1 : Int32).toInt = -1 := rfl; have h10 : (-2 : Int32).toInt = -2 := rfl; have h11 : (0 : Int32).toInt = 0 := rfl; have h12 : (1 : Int32).toInt = 1 := rfl; have h13 : (-5 : Int32).toInt = -5 := rfl; have h14 : (-3 : Int32).toInt = -3 := rfl; omega)), rfl⟩ (by first | exact mp_fd_ok mp_k_cX9_person_ok (by decide +kernel) | decide +kernel)
    · refine mp_tabIn hF (dflt := 49) (lo := 0) (hi := 2) (offs := #[28, 35, 42]) (len := 28) (off := 35) (tgt := 55) (by first | exact mp_fd_ok mp_k_cX9_person_ok (by decide +kernel) | decide +kernel) (by omega) (by omega) (by rw [c_10]; rfl) (by decide) ?_
      show mp_W E X 4 55 [(3, .ref a2), (0, .ref a0), (1, .int x0), (2, .int x1)] [] w3_ 0 0
      refine mp_run mp_k_cX9_person_ok hF mp_tabX9_ok [mp_i (.aload_n 3), mp_h (.getfield 114) [7, 5], mp_i (.iload_n 1), mp_h .iaload [3]] (by decide +kernel) ?_
      refine And.intro rfl (And.intro rfl ?_)
      refine And.intro rfl (And.intro rfl (And.intro (vp_in_iff.mpr (by omega)) ?_))
      intro z_15 h_16
      have e_17 : z_15.toInt = (f1 (x0.toInt).toNat).toInt := mp_at_i h_16 (by omega)
      show mp_W E X 4 61 [(3, .ref a2), (0, .ref a0), (1, .int x0), (2, .int x1)] [.int z_15] w3_ 0 0
      exact mp_iret hF hQ rfl rfl (Nat.le_of_ble_eq_true rfl) (Nat.le_of_ble_eq_true rfl) [0, 1, 5, 2, 3, 4] (w' := w1_) rfl rfl ⟨z_15, rfl, (by first | exact Or.inr ⟨⟨c_5, c_6⟩, Or.inr (Or.inl ⟨c_10, e_17⟩)⟩ | omega | decide | (have h8 : (0 : Int64).toInt = 0 := rfl; have h9 : (-1 : Int32).toInt = -1 := rfl; have h10 : (-2 : Int32).toInt = -2 := rfl; have h11 : (0 : Int32).toInt = 0 := rfl; have h12 : (1 : Int32).toInt = 1 := rfl; have h13 : (-5 : Int32).toInt = -5 := rfl; have h14 : (-3 : Int32).toInt = -3 := rfl; omega)), rfl⟩ (by first | exact mp_fd_ok mp_k_cX9_person_ok (by decide +kernel) | decide +kernel)
    · refine mp_tabIn hF (dflt := 49) (lo := 0) (hi := 2) (offs := #[28, 35, 42]) (len := 28) (off := 42) (tgt := 62) (by first | exact mp_fd_ok mp_k_cX9_person_ok (by decide +kernel) | decide +kernel) (by omega) (by omega) (by rw [c_10]; rfl) (by decide) ?_
      show mp_W E X 4 62 [(3, .ref a2), (0, .ref a0), (1, .int x0), (2, .int x1)] [] w3_ 0 0
      refine mp_run mp_k_cX9_person_ok hF mp_tabX9_ok [mp_i (.aload_n 3), mp_h (.getfield 117) [8, 5], mp_i (.iload_n 1), mp_h .iaload [4]] (by decide +kernel) ?_
      refine And.intro rfl (And.intro rfl ?_)
      refine And.intro rfl (And.intro rfl (And.intro (vp_in_iff.mpr (by omega)) ?_))
      intro z_18 h_19
      have e_20 : z_18.toInt = (f2 (x0.toInt).toNat).toInt := mp_at_i h_19 (by omega)
      show mp_W E X 4 68 [(3, .ref a2), (0, .ref a0), (1, .int x0), (2, .int x1)] [.int z_18] w3_ 0 0
      exact mp_iret hF hQ rfl rfl (Nat.le_of_ble_eq_true rfl) (Nat.le_of_ble_eq_true rfl) [0, 1, 5, 2, 3, 4] (w' := w1_) rfl rfl ⟨z_18, rfl, (by first | exact Or.inr ⟨⟨c_5, c_6⟩, Or.inr (Or.inr ⟨c_10, e_20⟩)⟩ | omega | decide | (have h8 : (0 : Int64).toInt = 0 := rfl; have h9 : (-1 : Int32).toInt = -1 := rfl; have h10 : (-2 : Int32).toInt = -2 := rfl; have h11 : (0 : Int32).toInt = 0 := rfl; have h12 : (1 : Int32).toInt = 1 := rfl; have h13 : (-5 : Int32).toInt = -5 := rfl; have h14 : (-3 : Int32).toInt = -3 := rfl; omega)), rfl⟩ (by first | exact mp_fd_ok mp_k_cX9_person_ok (by decide +kernel) | decide +kernel)
set_option maxHeartbeats 4000000 in
set_option maxRecDepth 100000 in
theorem bX7_isPromise_53 (E : mp_E) (a0 a1 a2 a3 a4 a5 a6 a7 a8 a9 a10 a11 a12 : Nat) (y0 : Int32) (y1 : Int32) (y2 : Int32) (y3 : Int32) (y4 : Int32) (y5 : Int32) (x0 : Int32) (l_y1 : 0 ≤ y1.toInt) (u_y1 : y1.toInt ≤ 6) (l_y2 : 0 ≤ y2.toInt) (u_y2 : y2.toInt ≤ 99) (l_y3 : 0 ≤ y3.toInt) (u_y3 : y3.toInt ≤ 6) (l_y4 : 0 ≤ y4.toInt) (u_y4 : y4.toInt ≤ 10) (l_y5 : 0 ≤ y5.toInt) (u_y5 : y5.toInt ≤ 60) : mp_Ct E yX7_isPromise cX7_isPromise 2 (some FieldType.boolean) 0 0 0 0 [.ref a0, .int x0] [(mp_ob7 a0 y0 y1 y2 y3 y4 y5 a1 a2 a3 a4 a5 a6 a7 a8 a9 a10 a11 a12)] (fun v w' => (v = some (.int 0) ∧ (x0.toInt < 0 ∨ y4.toInt ≤ x0.toInt) ∧ w' = [(mp_ob7 a0 y0 y1 y2 y3 y4 y5 a1 a2 a3 a4 a5 a6 a7 a8 a9 a10 a11 a12)]) ∨ (v = some (.int 1) ∧ 0 ≤ x0.toInt ∧ x0.toInt < y4.toInt ∧ (0 ≤ x0.toInt ∧ x0.toInt < y4.toInt) ∧ w' = [(mp_ob7 a0 y0 y1 y2 y3 y4 y5 a1 a2 a3 a4 a5 a6 a7 a8 a9 a10 a11 a12)])) := by
  refine mp_met false (by decide) (by decide) (Nat.le_of_ble_eq_true rfl) (fun X hF hQ => ?_)
  have hF : mp_F E X (RX7, cX7_isPromise, 2, (0, 0, 0, 0), (some FieldType.boolean), false) := hF
  let w1_ : va_W := [(mp_ob7 a0 y0 y1 y2 y3 y4 y5 a1 a2 a3 a4 a5 a6 a7 a8 a9 a10 a11 a12)]
  show mp_W E X 2 0 [(0, .ref a0), (1, .int x0)] [] w1_ 0 0
  refine mp_run mp_k_cX7_isPromise_ok hF mp_tabX7_ok [mp_i (.iload_n 1), mp_h (.ifCond .lt 15) [16]] (by decide +kernel) ?_
  refine And.intro (fun c_1 => ?_) (fun c_1 => ?_)
  · have c_1 : x0.toInt < 0 := c_1
    show mp_W E X 2 16 [(0, .ref a0), (1, .int x0)] [] w1_ 0 0
    refine mp_run mp_k_cX7_isPromise_ok hF mp_tabX7_ok [mp_c (.iconst 0) 0] (by decide +kernel) ?_
    show mp_W E X 2 17 [(0, .ref a0), (1, .int x0)] [.int 0] w1_ 0 0
    exact mp_iret hF hQ rfl (by decide) (Nat.le_of_ble_eq_true rfl) (Nat.le_of_ble_eq_true rfl) [0] (w' := w1_) rfl rfl (Or.inl ⟨rfl, (by first | (first | exact mp_o361 c_1 | omega) | decide | (have h8 : (0 : Int64).toInt = 0 := rfl; have h9 : (-1 : Int32).toInt = -1 := rfl; have h10 : (-2 : Int32).toInt = -2 := rfl; have h11 : (0 : Int32).toInt = 0 := rfl; have h12 : (1 : Int32).toInt = 1 := rfl; have h13 : (-5 : Int32).toInt = -5 := rfl; have h14 : (-3 : Int32).toInt = -3 := rfl; omega)), rfl⟩) (by first | exact mp_fd_ok mp_k_cX7_isPromise_ok (by decide +kernel) | decide +kernel)
  · have c_1 : 0 ≤ x0.toInt := c_1
    show mp_W E X 2 4 [(0, .ref a0), (1, .int x0)] [] w1_ 0 0
    refine mp_run mp_k_cX7_isPromise_ok hF mp_tabX7_ok [mp_i (.iload_n 1), mp_i (.aload_n 0), mp_h (.getfield 62) [4, 0], mp_h (.if_icmp .ge 7) [16]] (by decide +kernel) ?_
    refine And.intro rfl (And.intro rfl ?_)
    refine And.intro (fun c_2 => ?_) (fun c_2 => ?_)
    · have c_2 : y4.toInt ≤ x0.toInt := c_2
      show mp_W E X 2 16 [(0, .ref a0), (1, .int x0)] [] w1_ 0 0
      refine mp_run mp_k_cX7_isPromise_ok hF mp_tabX7_ok [mp_c (.iconst 0) 0] (by decide +kernel) ?_
      show mp_W E X 2 17 [(0, .ref a0), (1, .int x0)] [.int 0] w1_ 0 0
      exact mp_iret hF hQ rfl (by decide) (Nat.le_of_ble_eq_true rfl) (Nat.le_of_ble_eq_true rfl) [0] (w' := w1_) rfl rfl (Or.inl ⟨rfl, (by first | (first | exact mp_o362 c_2 | omega) | decide | (have h8 : (0 : Int64).toInt = 0 := rfl; have h9 : (-1 : Int32).toInt = -1 := rfl; have h10 : (-2 : Int32).toInt = -2 := rfl; have h11 : (0 : Int32).toInt = 0 := rfl; have h12 : (1 : Int32).toInt = 1 := rfl; have h13 : (-5 : Int32).toInt = -5 := rfl; have h14 : (-3 : Int32).toInt = -3 := rfl; omega)), rfl⟩) (by first | exact mp_fd_ok mp_k_cX7_isPromise_ok (by decide +kernel) | decide +kernel)
    · have c_2 : x0.toInt < y4.toInt := c_2
      show mp_W E X 2 12 [(0, .ref a0), (1, .int x0)] [] w1_ 0 0
      refine mp_run mp_k_cX7_isPromise_ok hF mp_tabX7_ok [mp_c (.iconst 1) 1, mp_h (.goto 4) [17]] (by decide +kernel) ?_
      show mp_W E X 2 17 [(0, .ref a0), (1, .int x0)] [.int 1] w1_ 0 0
      exact mp_iret hF hQ rfl (by decide) (Nat.le_of_ble_eq_true rfl) (Nat.le_of_ble_eq_true rfl) [0] (w' := w1_) rfl rfl (Or.inr ⟨rfl, (by first | (first | exact c_1 | omega) | decide), (by first | (first | exact c_2 | omega) | decide), (by first | (first | exact mp_o80 c_1 c_2 | omega) | decide | (have h8 : (0 : Int64).toInt = 0 := rfl; have h9 : (-1 : Int32).toInt = -1 := rfl; have h10 : (-2 : Int32).toInt = -2 := rfl; have h11 : (0 : Int32).toInt = 0 := rfl; have h12 : (1 : Int32).toInt = 1 := rfl; have h13 : (-5 : Int32).toInt = -5 := rfl; have h14 : (-3 : Int32).toInt = -3 := rfl; omega)), rfl⟩) (by first | exact mp_fd_ok mp_k_cX7_isPromise_ok (by decide +kernel) | decide +kernel)
set_option maxHeartbeats 4000000 in
set_option maxRecDepth 100000 in
theorem bX9_promise_54 (E : mp_E) (a0 a1 a2 a3 a4 a5 a6 a7 a8 a9 a10 a11 a12 a13 a14 a15 a16 a17 a18 a19 a20 a21 a22 a23 a24 a25 a26 a27 a28 : Nat) (f0 : Nat → Int32) (f1 : Nat → Int32) (f2 : Nat → Int32) (f3 : Nat → Int32) (f4 : Nat → Int32) (f5 : Nat → Int32) (y0 : Int32) (y1 : Int32) (y2 : Int32) (y3 : Int32) (y4 : Int32) (y5 : Int32) (y6 : Int32) (x0 : Int32) (x1 : Int32) (p0 : mp_all f0 10 0 5) (p1 : mp_all f1 10 0 5) (p2 : mp_all f3 10 0 99) (p3 : mp_all f4 10 0 1) (p4 : mp_all f5 10 (-1) 9) (l_y0 : 0 ≤ y0.toInt) (u_y0 : y0.toInt ≤ 99) (l_y2 : 0 ≤ y2.toInt) (u_y2 : y2.toInt ≤ 6) (l_y3 : 0 ≤ y3.toInt) (u_y3 : y3.toInt ≤ 99) (l_y4 : 0 ≤ y4.toInt) (u_y4 : y4.toInt ≤ 6) (l_y5 : 0 ≤ y5.toInt) (u_y5 : y5.toInt ≤ 10) (l_y6 : 0 ≤ y6.toInt) (u_y6 : y6.toInt ≤ 60) : mp_Ct E yX9_promise cX9_promise 4 (some FieldType.int) 1 0 0 21 [.ref a0, .int x0, .int x1] [(mp_ob9 a0 a9 a1 a10 a11 a12 a13 a14 a15 a16), (mp_ob0 a1 a2 y0 a17 a18 a19 a20 a21 a22), (mp_ob7 a2 y1 y2 y3 y4 y5 y6 a23 a24 a25 a26 a27 a3 a4 a5 a6 a7 a8 a28), (mp_arI E a3 0 10 f0), (mp_arI E a4 0 10 f1), (mp_arI E a5 0 10 f2), (mp_arI E a6 0 10 f3), (mp_arI E a7 0 10 f4), (mp_arI E a8 0 10 f5)] (fun v w' => ∃ r1 : Int32, v = some (.int r1) ∧ (((x0.toInt < 0 ∨ y5.toInt ≤ x0.toInt ∨ x1.toInt < 0 ∨ 5 < x1.toInt) ∧ r1.toInt = -2) ∨ ((0 ≤ x0.toInt ∧ x0.toInt < y5.toInt) ∧ ((x1.toInt = 0 ∧ r1.toInt = (f0 x0.toInt.toNat).toInt) ∨ (x1.toInt = 1 ∧ r1.toInt = (f1 x0.toInt.toNat).toInt) ∨ (x1.toInt = 2 ∧ r1.toInt = (f2 x0.toInt.toNat).toInt) ∨ (x1.toInt = 3 ∧ r1.toInt = (f3 x0.toInt.toNat).toInt) ∨ (x1.toInt = 4 ∧ r1.toInt = (f4 x0.toInt.toNat).toInt) ∨ (x1.toInt = 5 ∧ r1.toInt = (f5 x0.toInt.toNat).toInt)))) ∧ w' = [(mp_ob9 a0 a9 a1 a10 a11 a12 a13 a14 a15 a16), (mp_ob0 a1 a2 y0 a17 a18 a19 a20 a21 a22), (mp_ob7 a2 y1 y2 y3 y4 y5 y6 a23 a24 a25 a26 a27 a3 a4 a5 a6 a7 a8 a28), (mp_arI E a3 0 10 f0), (mp_arI E a4 0 10 f1), (mp_arI E a5 0 10 f2), (mp_arI E a6 0 10 f3), (mp_arI E a7 0 10 f4), (mp_arI E a8 0 10 f5)]) := by
  refine mp_met false (by decide) (by decide) (Nat.le_of_ble_eq_true rfl) (fun X hF hQ => ?_)
  have hF : mp_F E X (RX9, cX9_promise, 4, (1, 0, 0, 21), (some FieldType.int), false) := hF
  let w1_ : va_W := [(mp_ob9 a0 a9 a1 a10 a11 a12 a13 a14 a15 a16), (mp_ob0 a1 a2 y0 a17 a18 a19 a20 a21 a22), (mp_ob7 a2 y1 y2 y3 y4 y5 y6 a23 a24 a25 a26 a27 a3 a4 a5 a6 a7 a8 a28), (mp_arI E a3 0 10 f0), (mp_arI E a4 0 10 f1), (mp_arI E a5 0 10 f2), (mp_arI E a6 0 10 f3), (mp_arI E a7 0 10 f4), (mp_arI E a8 0 10 f5)]
  show mp_W E X 4 0 [(0, .ref a0), (1, .int x0), (2, .int x1)] [] w1_ 0 0
  refine mp_run mp_k_cX9_promise_ok hF mp_tabX9_ok [mp_i (.aload_n 0), mp_h (.getfield 19) [37, 0], mp_h (.getfield 83) [20, 1], mp_i (.astore_n 3), mp_i (.aload_n 3), mp_i (.iload_n 1)] (by decide +kernel) ?_
  refine And.intro rfl (And.intro rfl ?_)
  refine And.intro rfl (And.intro rfl ?_)
  show mp_W E X 4 10 [(3, .ref a2), (0, .ref a0), (1, .int x0), (2, .int x1)] [.int x0, .ref a2] w1_ 0 0
  refine mp_callV hF (As := [.int x0]) (rest := []) (wr := [(mp_ob9 a0 a9 a1 a10 a11 a12 a13 a14 a15 a16), (mp_ob0 a1 a2 y0 a17 a18 a19 a20 a21 a22), (mp_arI E a3 0 10 f0), (mp_arI E a4 0 10 f1), (mp_arI E a5 0 10 f2), (mp_arI E a6 0 10 f3), (mp_arI E a7 0 10 f4), (mp_arI E a8 0 10 f5)]) (bX7_isPromise_53 E a2 a23 a24 a25 a26 a27 a3 a4 a5 a6 a7 a8 a28 y1 y2 y3 y4 y5 y6 x0 l_y2 u_y2 l_y3 u_y3 l_y4 u_y4 l_y5 u_y5 l_y6 u_y6) mp_lkX9_120 2 rfl [2] [0, 1, 3, 4, 5, 6, 7, 8] rfl rfl rfl rfl rfl ⟨(Nat.le_of_ble_eq_true rfl), (Nat.le_of_ble_eq_true rfl), (Nat.le_of_ble_eq_true rfl), (Nat.le_of_ble_eq_true rfl)⟩ (Nat.le_of_ble_eq_true rfl) (by first | exact mp_fd_ok mp_k_cX9_promise_ok (by decide +kernel) | decide +kernel) (fun v_1 w_2 h_3 => ?_)
  rcases h_3 with ⟨rfl, x_4, rfl⟩ | ⟨rfl, c_5, c_6, x_7, rfl⟩
  · skip
    let w2_ : va_W := [(mp_ob9 a0 a9 a1 a10 a11 a12 a13 a14 a15 a16), (mp_ob0 a1 a2 y0 a17 a18 a19 a20 a21 a22), (mp_arI E a3 0 10 f0), (mp_arI E a4 0 10 f1), (mp_arI E a5 0 10 f2), (mp_arI E a6 0 10 f3), (mp_arI E a7 0 10 f4), (mp_arI E a8 0 10 f5), (mp_ob7 a2 y1 y2 y3 y4 y5 y6 a23 a24 a25 a26 a27 a3 a4 a5 a6 a7 a8 a28)]
    show mp_W E X 4 13 [(3, .ref a2), (0, .ref a0), (1, .int x0), (2, .int x1)] [.int 0] w2_ 0 0
    refine mp_run mp_k_cX9_promise_ok hF mp_tabX9_ok [mp_h (.ifCond .ne 6) [19]] (by decide +kernel) ?_
    refine And.intro (fun c_8 => absurd c_8 (by decide)) (fun _ => ?_)
    show mp_W E X 4 16 [(3, .ref a2), (0, .ref a0), (1, .int x0), (2, .int x1)] [] w2_ 0 0
    refine mp_run mp_k_cX9_promise_ok hF mp_tabX9_ok [mp_c (.bipush (-2)) (-2)] (by decide +kernel) ?_
    show mp_W E X 4 18 [(3, .ref a2), (0, .ref a0), (1, .int x0), (2, .int x1)] [.int (-2)] w2_ 0 0
    exact mp_iret hF hQ rfl rfl (Nat.le_of_ble_eq_true rfl) (Nat.le_of_ble_eq_true rfl) [0, 1, 8, 2, 3, 4, 5, 6, 7] (w' := w1_) rfl rfl ⟨(-2), rfl, (by first | exact Or.inl ⟨x_4.elim (fun q => Or.inl q) (fun q => Or.inr (Or.inl q)), rfl⟩ | omega | decide | (have h8 : (0 : Int64).toInt = 0 := rfl; have h9 : (-1 : Int32).toInt = -1 := rfl; have h10 : (-2 : Int32).toInt = -2 := rfl; have h11 : (0 : Int32).toInt = 0 := rfl; have h12 : (1 : Int32).toInt = 1 := rfl; have h13 : (-5 : Int32).toInt = -5 := rfl; have h14 : (-3 : Int32).toInt = -3 := rfl; omega)), rfl⟩ (by first | exact mp_fd_ok mp_k_cX9_promise_ok (by decide +kernel) | decide +kernel)
  · skip
    have c_5 : 0 ≤ x0.toInt := c_5
    have c_6 : x0.toInt < y5.toInt := c_6
    let w3_ : va_W := [(mp_ob9 a0 a9 a1 a10 a11 a12 a13 a14 a15 a16), (mp_ob0 a1 a2 y0 a17 a18 a19 a20 a21 a22), (mp_arI E a3 0 10 f0), (mp_arI E a4 0 10 f1), (mp_arI E a5 0 10 f2), (mp_arI E a6 0 10 f3), (mp_arI E a7 0 10 f4), (mp_arI E a8 0 10 f5), (mp_ob7 a2 y1 y2 y3 y4 y5 y6 a23 a24 a25 a26 a27 a3 a4 a5 a6 a7 a8 a28)]
    show mp_W E X 4 13 [(3, .ref a2), (0, .ref a0), (1, .int x0), (2, .int x1)] [.int 1] w3_ 0 0
    refine mp_run mp_k_cX9_promise_ok hF mp_tabX9_ok [mp_h (.ifCond .ne 6) [19]] (by decide +kernel) ?_
    refine And.intro (fun _ => ?_) (fun c_9 => absurd c_9 (by decide))
    show mp_W E X 4 19 [(3, .ref a2), (0, .ref a0), (1, .int x0), (2, .int x1)] [] w3_ 0 0
    refine mp_run mp_k_cX9_promise_ok hF mp_tabX9_ok [mp_i (.iload_n 2)] (by decide +kernel) ?_
    show mp_W E X 4 20 [(3, .ref a2), (0, .ref a0), (1, .int x0), (2, .int x1)] [.int x1] w3_ 0 0
    rcases (mp_swc_0_5 x1.toInt) with c_10 | c_10 | c_10 | c_10 | c_10 | c_10 | c_10 | c_10
    · refine mp_tabOut hF (dflt := 82) (lo := 0) (hi := 5) (offs := #[40, 47, 54, 61, 68, 75]) (len := 40) (by first | exact mp_fd_ok mp_k_cX9_promise_ok (by decide +kernel) | decide +kernel) (Or.inl c_10) (tgt := 102) (by decide) ?_
      show mp_W E X 4 102 [(3, .ref a2), (0, .ref a0), (1, .int x0), (2, .int x1)] [] w3_ 0 0
      refine mp_run mp_k_cX9_promise_ok hF mp_tabX9_ok [mp_c (.bipush (-2)) (-2)] (by decide +kernel) ?_
      show mp_W E X 4 104 [(3, .ref a2), (0, .ref a0), (1, .int x0), (2, .int x1)] [.int (-2)] w3_ 0 0
      exact mp_iret hF hQ rfl rfl (Nat.le_of_ble_eq_true rfl) (Nat.le_of_ble_eq_true rfl) [0, 1, 8, 2, 3, 4, 5, 6, 7] (w' := w1_) rfl rfl ⟨(-2), rfl, (by first | exact Or.inl ⟨Or.inr (Or.inr (Or.inl c_10)), rfl⟩ | omega | decide | (have h8 : (0 : Int64).toInt = 0 := rfl; have h9 : (-1 : Int32).toInt = -1 := rfl; have h10 : (-2 : Int32).toInt = -2 := rfl; have h11 : (0 : Int32).toInt = 0 := rfl; have h12 : (1 : Int32).toInt = 1 := rfl; have h13 : (-5 : Int32).toInt = -5 := rfl; have h14 : (-3 : Int32).toInt = -3 := rfl; omega)), rfl⟩ (by first | exact mp_fd_ok mp_k_cX9_promise_ok (by decide +kernel) | decide +kernel)
    · refine mp_tabOut hF (dflt := 82) (lo := 0) (hi := 5) (offs := #[40, 47, 54, 61, 68, 75]) (len := 40) (by first | exact mp_fd_ok mp_k_cX9_promise_ok (by decide +kernel) | decide +kernel) (Or.inr c_10) (tgt := 102) (by decide) ?_
      show mp_W E X 4 102 [(3, .ref a2), (0, .ref a0), (1, .int x0), (2, .int x1)] [] w3_ 0 0
      refine mp_run mp_k_cX9_promise_ok hF mp_tabX9_ok [mp_c (.bipush (-2)) (-2)] (by decide +kernel) ?_
      show mp_W E X 4 104 [(3, .ref a2), (0, .ref a0), (1, .int x0), (2, .int x1)] [.int (-2)] w3_ 0 0
      exact mp_iret hF hQ rfl rfl (Nat.le_of_ble_eq_true rfl) (Nat.le_of_ble_eq_true rfl) [0, 1, 8, 2, 3, 4, 5, 6, 7] (w' := w1_) rfl rfl ⟨(-2), rfl, (by first | exact Or.inl ⟨Or.inr (Or.inr (Or.inr c_10)), rfl⟩ | omega | decide | (have h8 : (0 : Int64).toInt = 0 := rfl; have h9 : (-1 : Int32).toInt = -1 := rfl; have h10 : (-2 : Int32).toInt = -2 := rfl; have h11 : (0 : Int32).toInt = 0 := rfl; have h12 : (1 : Int32).toInt = 1 := rfl; have h13 : (-5 : Int32).toInt = -5 := rfl; have h14 : (-3 : Int32).toInt = -3 := rfl; omega)), rfl⟩ (by first | exact mp_fd_ok mp_k_cX9_promise_ok (by decide +kernel) | decide +kernel)
    · refine mp_tabIn hF (dflt := 82) (lo := 0) (hi := 5) (offs := #[40, 47, 54, 61, 68, 75]) (len := 40) (off := 40) (tgt := 60) (by first | exact mp_fd_ok mp_k_cX9_promise_ok (by decide +kernel) | decide +kernel) (by omega) (by omega) (by rw [c_10]; rfl) (by decide) ?_
      show mp_W E X 4 60 [(3, .ref a2), (0, .ref a0), (1, .int x0), (2, .int x1)] [] w3_ 0 0
      refine mp_run mp_k_cX9_promise_ok hF mp_tabX9_ok [mp_i (.aload_n 3), mp_h (.getfield 123) [9, 8], mp_i (.iload_n 1), mp_h .iaload [2]] (by decide +kernel) ?_
      refine And.intro rfl (And.intro rfl ?_)
      refine And.intro rfl (And.intro rfl (And.intro (vp_in_iff.mpr (by omega)) ?_))
      intro z_11 h_12
      have e_13 : 0 ≤ z_11.toInt ∧ z_11.toInt ≤ 5 := mp_all_ld h_12 p0 (by omega) (by omega)
      have e_14 : z_11.toInt = (f0 (x0.toInt).toNat).toInt := mp_at_i h_12 (by omega)
      show mp_W E X 4 66 [(3, .ref a2), (0, .ref a0), (1, .int x0), (2, .int x1)] [.int z_11] w3_ 0 0
      exact mp_iret hF hQ rfl rfl (Nat.le_of_ble_eq_true rfl) (Nat.le_of_ble_eq_true rfl) [0, 1, 8, 2, 3, 4, 5, 6, 7] (w' := w1_) rfl rfl ⟨z_11, rfl, (by first | exact Or.inr ⟨⟨c_5, c_6⟩, Or.inl ⟨c_10, e_14⟩⟩ | omega | decide | (have h8 : (0 : Int64).toInt = 0 := rfl; have h9 : (-1 : Int32).toInt = -1 := rfl; have h10 : (-2 : Int32).toInt = -2 := rfl; have h11 : (0 : Int32).toInt = 0 := rfl; have h12 : (1 : Int32).toInt = 1 := rfl; have h13 : (-5 : Int32).toInt = -5 := rfl; have h14 : (-3 : Int32).toInt = -3 := rfl; omega)), rfl⟩ (by first | exact mp_fd_ok mp_k_cX9_promise_ok (by decide +kernel) | decide +kernel)
    · refine mp_tabIn hF (dflt := 82) (lo := 0) (hi := 5) (offs := #[40, 47, 54, 61, 68, 75]) (len := 40) (off := 47) (tgt := 67) (by first | exact mp_fd_ok mp_k_cX9_promise_ok (by decide +kernel) | decide +kernel) (by omega) (by omega) (by rw [c_10]; rfl) (by decide) ?_
      show mp_W E X 4 67 [(3, .ref a2), (0, .ref a0), (1, .int x0), (2, .int x1)] [] w3_ 0 0
      refine mp_run mp_k_cX9_promise_ok hF mp_tabX9_ok [mp_i (.aload_n 3), mp_h (.getfield 126) [10, 8], mp_i (.iload_n 1), mp_h .iaload [3]] (by decide +kernel) ?_
      refine And.intro rfl (And.intro rfl ?_)
      refine And.intro rfl (And.intro rfl (And.intro (vp_in_iff.mpr (by omega)) ?_))
      intro z_15 h_16
      have e_17 : 0 ≤ z_15.toInt ∧ z_15.toInt ≤ 5 := mp_all_ld h_16 p1 (by omega) (by omega)
      have e_18 : z_15.toInt = (f1 (x0.toInt).toNat).toInt := mp_at_i h_16 (by omega)
      show mp_W E X 4 73 [(3, .ref a2), (0, .ref a0), (1, .int x0), (2, .int x1)] [.int z_15] w3_ 0 0
      exact mp_iret hF hQ rfl rfl (Nat.le_of_ble_eq_true rfl) (Nat.le_of_ble_eq_true rfl) [0, 1, 8, 2, 3, 4, 5, 6, 7] (w' := w1_) rfl rfl ⟨z_15, rfl, (by first | exact Or.inr ⟨⟨c_5, c_6⟩, Or.inr (Or.inl ⟨c_10, e_18⟩)⟩ | omega | decide | (have h8 : (0 : Int64).toInt = 0 := rfl; have h9 : (-1 : Int32).toInt = -1 := rfl; have h10 : (-2 : Int32).toInt = -2 := rfl; have h11 : (0 : Int32).toInt = 0 := rfl; have h12 : (1 : Int32).toInt = 1 := rfl; have h13 : (-5 : Int32).toInt = -5 := rfl; have h14 : (-3 : Int32).toInt = -3 := rfl; omega)), rfl⟩ (by first | exact mp_fd_ok mp_k_cX9_promise_ok (by decide +kernel) | decide +kernel)
    · refine mp_tabIn hF (dflt := 82) (lo := 0) (hi := 5) (offs := #[40, 47, 54, 61, 68, 75]) (len := 40) (off := 54) (tgt := 74) (by first | exact mp_fd_ok mp_k_cX9_promise_ok (by decide +kernel) | decide +kernel) (by omega) (by omega) (by rw [c_10]; rfl) (by decide) ?_
      show mp_W E X 4 74 [(3, .ref a2), (0, .ref a0), (1, .int x0), (2, .int x1)] [] w3_ 0 0
      refine mp_run mp_k_cX9_promise_ok hF mp_tabX9_ok [mp_i (.aload_n 3), mp_h (.getfield 129) [11, 8], mp_i (.iload_n 1), mp_h .iaload [4]] (by decide +kernel) ?_
      refine And.intro rfl (And.intro rfl ?_)
      refine And.intro rfl (And.intro rfl (And.intro (vp_in_iff.mpr (by omega)) ?_))
      intro z_19 h_20
      have e_21 : z_19.toInt = (f2 (x0.toInt).toNat).toInt := mp_at_i h_20 (by omega)
      show mp_W E X 4 80 [(3, .ref a2), (0, .ref a0), (1, .int x0), (2, .int x1)] [.int z_19] w3_ 0 0
      exact mp_iret hF hQ rfl rfl (Nat.le_of_ble_eq_true rfl) (Nat.le_of_ble_eq_true rfl) [0, 1, 8, 2, 3, 4, 5, 6, 7] (w' := w1_) rfl rfl ⟨z_19, rfl, (by first | exact Or.inr ⟨⟨c_5, c_6⟩, Or.inr (Or.inr (Or.inl ⟨c_10, e_21⟩))⟩ | omega | decide | (have h8 : (0 : Int64).toInt = 0 := rfl; have h9 : (-1 : Int32).toInt = -1 := rfl; have h10 : (-2 : Int32).toInt = -2 := rfl; have h11 : (0 : Int32).toInt = 0 := rfl; have h12 : (1 : Int32).toInt = 1 := rfl; have h13 : (-5 : Int32).toInt = -5 := rfl; have h14 : (-3 : Int32).toInt = -3 := rfl; omega)), rfl⟩ (by first | exact mp_fd_ok mp_k_cX9_promise_ok (by decide +kernel) | decide +kernel)
    · refine mp_tabIn hF (dflt := 82) (lo := 0) (hi := 5) (offs := #[40, 47, 54, 61, 68, 75]) (len := 40) (off := 61) (tgt := 81) (by first | exact mp_fd_ok mp_k_cX9_promise_ok (by decide +kernel) | decide +kernel) (by omega) (by omega) (by rw [c_10]; rfl) (by decide) ?_
      show mp_W E X 4 81 [(3, .ref a2), (0, .ref a0), (1, .int x0), (2, .int x1)] [] w3_ 0 0
      refine mp_run mp_k_cX9_promise_ok hF mp_tabX9_ok [mp_i (.aload_n 3), mp_h (.getfield 132) [12, 8], mp_i (.iload_n 1), mp_h .iaload [5]] (by decide +kernel) ?_
      refine And.intro rfl (And.intro rfl ?_)
      refine And.intro rfl (And.intro rfl (And.intro (vp_in_iff.mpr (by omega)) ?_))
      intro z_22 h_23
      have e_24 : 0 ≤ z_22.toInt ∧ z_22.toInt ≤ 99 := mp_all_ld h_23 p2 (by omega) (by omega)
      have e_25 : z_22.toInt = (f3 (x0.toInt).toNat).toInt := mp_at_i h_23 (by omega)
      show mp_W E X 4 87 [(3, .ref a2), (0, .ref a0), (1, .int x0), (2, .int x1)] [.int z_22] w3_ 0 0
      exact mp_iret hF hQ rfl rfl (Nat.le_of_ble_eq_true rfl) (Nat.le_of_ble_eq_true rfl) [0, 1, 8, 2, 3, 4, 5, 6, 7] (w' := w1_) rfl rfl ⟨z_22, rfl, (by first | exact Or.inr ⟨⟨c_5, c_6⟩, Or.inr (Or.inr (Or.inr (Or.inl ⟨c_10, e_25⟩)))⟩ | omega | decide | (have h8 : (0 : Int64).toInt = 0 := rfl; have h9 : (-1 : Int32).toInt = -1 := rfl; have h10 : (-2 : Int32).toInt = -2 := rfl; have h11 : (0 : Int32).toInt = 0 := rfl; have h12 : (1 : Int32).toInt = 1 := rfl; have h13 : (-5 : Int32).toInt = -5 := rfl; have h14 : (-3 : Int32).toInt = -3 := rfl; omega)), rfl⟩ (by first | exact mp_fd_ok mp_k_cX9_promise_ok (by decide +kernel) | decide +kernel)
    · refine mp_tabIn hF (dflt := 82) (lo := 0) (hi := 5) (offs := #[40, 47, 54, 61, 68, 75]) (len := 40) (off := 68) (tgt := 88) (by first | exact mp_fd_ok mp_k_cX9_promise_ok (by decide +kernel) | decide +kernel) (by omega) (by omega) (by rw [c_10]; rfl) (by decide) ?_
      show mp_W E X 4 88 [(3, .ref a2), (0, .ref a0), (1, .int x0), (2, .int x1)] [] w3_ 0 0
      refine mp_run mp_k_cX9_promise_ok hF mp_tabX9_ok [mp_i (.aload_n 3), mp_h (.getfield 135) [13, 8], mp_i (.iload_n 1), mp_h .iaload [6]] (by decide +kernel) ?_
      refine And.intro rfl (And.intro rfl ?_)
      refine And.intro rfl (And.intro rfl (And.intro (vp_in_iff.mpr (by omega)) ?_))
      intro z_26 h_27
      have e_28 : 0 ≤ z_26.toInt ∧ z_26.toInt ≤ 1 := mp_all_ld h_27 p3 (by omega) (by omega)
      have e_29 : z_26.toInt = (f4 (x0.toInt).toNat).toInt := mp_at_i h_27 (by omega)
      show mp_W E X 4 94 [(3, .ref a2), (0, .ref a0), (1, .int x0), (2, .int x1)] [.int z_26] w3_ 0 0
      exact mp_iret hF hQ rfl rfl (Nat.le_of_ble_eq_true rfl) (Nat.le_of_ble_eq_true rfl) [0, 1, 8, 2, 3, 4, 5, 6, 7] (w' := w1_) rfl rfl ⟨z_26, rfl, (by first | exact Or.inr ⟨⟨c_5, c_6⟩, Or.inr (Or.inr (Or.inr (Or.inr (Or.inl ⟨c_10, e_29⟩))))⟩ | omega | decide | (have h8 : (0 : Int64).toInt = 0 := rfl; have h9 : (-1 : Int32).toInt = -1 := rfl; have h10 : (-2 : Int32).toInt = -2 := rfl; have h11 : (0 : Int32).toInt = 0 := rfl; have h12 : (1 : Int32).toInt = 1 := rfl; have h13 : (-5 : Int32).toInt = -5 := rfl; have h14 : (-3 : Int32).toInt = -3 := rfl; omega)), rfl⟩ (by first | exact mp_fd_ok mp_k_cX9_promise_ok (by decide +kernel) | decide +kernel)
    · refine mp_tabIn hF (dflt := 82) (lo := 0) (hi := 5) (offs := #[40, 47, 54, 61, 68, 75]) (len := 40) (off := 75) (tgt := 95) (by first | exact mp_fd_ok mp_k_cX9_promise_ok (by decide +kernel) | decide +kernel) (by omega) (by omega) (by rw [c_10]; rfl) (by decide) ?_
      show mp_W E X 4 95 [(3, .ref a2), (0, .ref a0), (1, .int x0), (2, .int x1)] [] w3_ 0 0
      refine mp_run mp_k_cX9_promise_ok hF mp_tabX9_ok [mp_i (.aload_n 3), mp_h (.getfield 138) [14, 8], mp_i (.iload_n 1), mp_h .iaload [7]] (by decide +kernel) ?_
      refine And.intro rfl (And.intro rfl ?_)
      refine And.intro rfl (And.intro rfl (And.intro (vp_in_iff.mpr (by omega)) ?_))
      intro z_30 h_31
      have e_32 : (-1) ≤ z_30.toInt ∧ z_30.toInt ≤ 9 := mp_all_ld h_31 p4 (by omega) (by omega)
      have e_33 : z_30.toInt = (f5 (x0.toInt).toNat).toInt := mp_at_i h_31 (by omega)
      show mp_W E X 4 101 [(3, .ref a2), (0, .ref a0), (1, .int x0), (2, .int x1)] [.int z_30] w3_ 0 0
      exact mp_iret hF hQ rfl rfl (Nat.le_of_ble_eq_true rfl) (Nat.le_of_ble_eq_true rfl) [0, 1, 8, 2, 3, 4, 5, 6, 7] (w' := w1_) rfl rfl ⟨z_30, rfl, (by first | exact Or.inr ⟨⟨c_5, c_6⟩, Or.inr (Or.inr (Or.inr (Or.inr (Or.inr ⟨c_10, e_33⟩))))⟩ | omega | decide | (have h8 : (0 : Int64).toInt = 0 := rfl; have h9 : (-1 : Int32).toInt = -1 := rfl; have h10 : (-2 : Int32).toInt = -2 := rfl; have h11 : (0 : Int32).toInt = 0 := rfl; have h12 : (1 : Int32).toInt = 1 := rfl; have h13 : (-5 : Int32).toInt = -5 := rfl; have h14 : (-3 : Int32).toInt = -3 := rfl; omega)), rfl⟩ (by first | exact mp_fd_ok mp_k_cX9_promise_ok (by decide +kernel) | decide +kernel)
set_option maxHeartbeats 4000000 in
set_option maxRecDepth 100000 in
theorem bX7_isIsle_55 (E : mp_E) (a0 a1 a2 a3 a4 a5 a6 a7 a8 a9 a10 a11 a12 : Nat) (y0 : Int32) (y1 : Int32) (y2 : Int32) (y3 : Int32) (y4 : Int32) (y5 : Int32) (x0 : Int32) (l_y1 : 0 ≤ y1.toInt) (u_y1 : y1.toInt ≤ 6) (l_y2 : 0 ≤ y2.toInt) (u_y2 : y2.toInt ≤ 99) (l_y3 : 0 ≤ y3.toInt) (u_y3 : y3.toInt ≤ 6) (l_y4 : 0 ≤ y4.toInt) (u_y4 : y4.toInt ≤ 10) (l_y5 : 0 ≤ y5.toInt) (u_y5 : y5.toInt ≤ 60) : mp_Ct E yX7_isIsle cX7_isIsle 2 (some FieldType.boolean) 0 0 0 0 [.ref a0, .int x0] [(mp_ob7 a0 y0 y1 y2 y3 y4 y5 a1 a2 a3 a4 a5 a6 a7 a8 a9 a10 a11 a12)] (fun v w' => (v = some (.int 0) ∧ (x0.toInt < 0 ∨ y1.toInt ≤ x0.toInt) ∧ w' = [(mp_ob7 a0 y0 y1 y2 y3 y4 y5 a1 a2 a3 a4 a5 a6 a7 a8 a9 a10 a11 a12)]) ∨ (v = some (.int 1) ∧ 0 ≤ x0.toInt ∧ x0.toInt < y1.toInt ∧ (0 ≤ x0.toInt ∧ x0.toInt < y1.toInt) ∧ w' = [(mp_ob7 a0 y0 y1 y2 y3 y4 y5 a1 a2 a3 a4 a5 a6 a7 a8 a9 a10 a11 a12)])) := by
  refine mp_met false (by decide) (by decide) (Nat.le_of_ble_eq_true rfl) (fun X hF hQ => ?_)
  have hF : mp_F E X (RX7, cX7_isIsle, 2, (0, 0, 0, 0), (some FieldType.boolean), false) := hF
  let w1_ : va_W := [(mp_ob7 a0 y0 y1 y2 y3 y4 y5 a1 a2 a3 a4 a5 a6 a7 a8 a9 a10 a11 a12)]
  show mp_W E X 2 0 [(0, .ref a0), (1, .int x0)] [] w1_ 0 0
  refine mp_run mp_k_cX7_isIsle_ok hF mp_tabX7_ok [mp_i (.iload_n 1), mp_h (.ifCond .lt 15) [16]] (by decide +kernel) ?_
  refine And.intro (fun c_1 => ?_) (fun c_1 => ?_)
  · have c_1 : x0.toInt < 0 := c_1
    show mp_W E X 2 16 [(0, .ref a0), (1, .int x0)] [] w1_ 0 0
    refine mp_run mp_k_cX7_isIsle_ok hF mp_tabX7_ok [mp_c (.iconst 0) 0] (by decide +kernel) ?_
    show mp_W E X 2 17 [(0, .ref a0), (1, .int x0)] [.int 0] w1_ 0 0
    exact mp_iret hF hQ rfl (by decide) (Nat.le_of_ble_eq_true rfl) (Nat.le_of_ble_eq_true rfl) [0] (w' := w1_) rfl rfl (Or.inl ⟨rfl, (by first | (first | exact mp_o361 c_1 | omega) | decide | (have h8 : (0 : Int64).toInt = 0 := rfl; have h9 : (-1 : Int32).toInt = -1 := rfl; have h10 : (-2 : Int32).toInt = -2 := rfl; have h11 : (0 : Int32).toInt = 0 := rfl; have h12 : (1 : Int32).toInt = 1 := rfl; have h13 : (-5 : Int32).toInt = -5 := rfl; have h14 : (-3 : Int32).toInt = -3 := rfl; omega)), rfl⟩) (by first | exact mp_fd_ok mp_k_cX7_isIsle_ok (by decide +kernel) | decide +kernel)
  · have c_1 : 0 ≤ x0.toInt := c_1
    show mp_W E X 2 4 [(0, .ref a0), (1, .int x0)] [] w1_ 0 0
    refine mp_run mp_k_cX7_isIsle_ok hF mp_tabX7_ok [mp_i (.iload_n 1), mp_i (.aload_n 0), mp_h (.getfield 53) [1, 0], mp_h (.if_icmp .ge 7) [16]] (by decide +kernel) ?_
    refine And.intro rfl (And.intro rfl ?_)
    refine And.intro (fun c_2 => ?_) (fun c_2 => ?_)
    · have c_2 : y1.toInt ≤ x0.toInt := c_2
      show mp_W E X 2 16 [(0, .ref a0), (1, .int x0)] [] w1_ 0 0
      refine mp_run mp_k_cX7_isIsle_ok hF mp_tabX7_ok [mp_c (.iconst 0) 0] (by decide +kernel) ?_
      show mp_W E X 2 17 [(0, .ref a0), (1, .int x0)] [.int 0] w1_ 0 0
      exact mp_iret hF hQ rfl (by decide) (Nat.le_of_ble_eq_true rfl) (Nat.le_of_ble_eq_true rfl) [0] (w' := w1_) rfl rfl (Or.inl ⟨rfl, (by first | (first | exact mp_o362 c_2 | omega) | decide | (have h8 : (0 : Int64).toInt = 0 := rfl; have h9 : (-1 : Int32).toInt = -1 := rfl; have h10 : (-2 : Int32).toInt = -2 := rfl; have h11 : (0 : Int32).toInt = 0 := rfl; have h12 : (1 : Int32).toInt = 1 := rfl; have h13 : (-5 : Int32).toInt = -5 := rfl; have h14 : (-3 : Int32).toInt = -3 := rfl; omega)), rfl⟩) (by first | exact mp_fd_ok mp_k_cX7_isIsle_ok (by decide +kernel) | decide +kernel)
    · have c_2 : x0.toInt < y1.toInt := c_2
      show mp_W E X 2 12 [(0, .ref a0), (1, .int x0)] [] w1_ 0 0
      refine mp_run mp_k_cX7_isIsle_ok hF mp_tabX7_ok [mp_c (.iconst 1) 1, mp_h (.goto 4) [17]] (by decide +kernel) ?_
      show mp_W E X 2 17 [(0, .ref a0), (1, .int x0)] [.int 1] w1_ 0 0
      exact mp_iret hF hQ rfl (by decide) (Nat.le_of_ble_eq_true rfl) (Nat.le_of_ble_eq_true rfl) [0] (w' := w1_) rfl rfl (Or.inr ⟨rfl, (by first | (first | exact c_1 | omega) | decide), (by first | (first | exact c_2 | omega) | decide), (by first | (first | exact mp_o80 c_1 c_2 | omega) | decide | (have h8 : (0 : Int64).toInt = 0 := rfl; have h9 : (-1 : Int32).toInt = -1 := rfl; have h10 : (-2 : Int32).toInt = -2 := rfl; have h11 : (0 : Int32).toInt = 0 := rfl; have h12 : (1 : Int32).toInt = 1 := rfl; have h13 : (-5 : Int32).toInt = -5 := rfl; have h14 : (-3 : Int32).toInt = -3 := rfl; omega)), rfl⟩) (by first | exact mp_fd_ok mp_k_cX7_isIsle_ok (by decide +kernel) | decide +kernel)
set_option maxHeartbeats 4000000 in
set_option maxRecDepth 100000 in
theorem bX9_sea_56 (E : mp_E) (a0 a1 a2 a3 a4 a5 a6 a7 a8 a9 a10 a11 a12 a13 a14 a15 a16 a17 a18 a19 a20 a21 a22 a23 a24 a25 a26 a27 a28 : Nat) (f0 : Nat → Int32) (y0 : Int32) (y1 : Int32) (y2 : Int32) (y3 : Int32) (y4 : Int32) (y5 : Int32) (y6 : Int32) (x0 : Int32) (x1 : Int32) (p0 : mp_all f0 36 0 20) (l_y0 : 0 ≤ y0.toInt) (u_y0 : y0.toInt ≤ 99) (l_y2 : 0 ≤ y2.toInt) (u_y2 : y2.toInt ≤ 6) (l_y3 : 0 ≤ y3.toInt) (u_y3 : y3.toInt ≤ 99) (l_y4 : 0 ≤ y4.toInt) (u_y4 : y4.toInt ≤ 6) (l_y5 : 0 ≤ y5.toInt) (u_y5 : y5.toInt ≤ 10) (l_y6 : 0 ≤ y6.toInt) (u_y6 : y6.toInt ≤ 60) : mp_Ct E yX9_sea cX9_sea 4 (some FieldType.int) 1 0 0 22 [.ref a0, .int x0, .int x1] [(mp_ob9 a0 a4 a1 a5 a6 a7 a8 a9 a10 a11), (mp_ob0 a1 a2 y0 a12 a13 a14 a15 a16 a17), (mp_ob7 a2 y1 y2 y3 y4 y5 y6 a3 a18 a19 a20 a21 a22 a23 a24 a25 a26 a27 a28), (mp_arI E a3 0 36 f0)] (fun v w' => ∃ r1 : Int32, v = some (.int r1) ∧ (-2) ≤ r1.toInt ∧ r1.toInt ≤ 20 ∧ (((x0.toInt < 0 ∨ y2.toInt ≤ x0.toInt ∨ x1.toInt < 0 ∨ y2.toInt ≤ x1.toInt ∨ x0.toInt = x1.toInt) ∧ r1.toInt = -2) ∨ ((0 ≤ x0.toInt ∧ x0.toInt < y2.toInt ∧ 0 ≤ x1.toInt ∧ x1.toInt < y2.toInt ∧ x0.toInt ≠ x1.toInt) ∧ r1.toInt = (f0 (6 * x0.toInt + x1.toInt).toNat).toInt)) ∧ w' = [(mp_ob9 a0 a4 a1 a5 a6 a7 a8 a9 a10 a11), (mp_ob0 a1 a2 y0 a12 a13 a14 a15 a16 a17), (mp_ob7 a2 y1 y2 y3 y4 y5 y6 a3 a18 a19 a20 a21 a22 a23 a24 a25 a26 a27 a28), (mp_arI E a3 0 36 f0)]) := by
  refine mp_met false (by decide) (by decide) (Nat.le_of_ble_eq_true rfl) (fun X hF hQ => ?_)
  have hF : mp_F E X (RX9, cX9_sea, 4, (1, 0, 0, 22), (some FieldType.int), false) := hF
  let w1_ : va_W := [(mp_ob9 a0 a4 a1 a5 a6 a7 a8 a9 a10 a11), (mp_ob0 a1 a2 y0 a12 a13 a14 a15 a16 a17), (mp_ob7 a2 y1 y2 y3 y4 y5 y6 a3 a18 a19 a20 a21 a22 a23 a24 a25 a26 a27 a28), (mp_arI E a3 0 36 f0)]
  show mp_W E X 4 0 [(0, .ref a0), (1, .int x0), (2, .int x1)] [] w1_ 0 0
  refine mp_run mp_k_cX9_sea_ok hF mp_tabX9_ok [mp_i (.aload_n 0), mp_h (.getfield 19) [37, 0], mp_h (.getfield 83) [20, 1], mp_i (.astore_n 3), mp_i (.aload_n 3), mp_i (.iload_n 1)] (by decide +kernel) ?_
  refine And.intro rfl (And.intro rfl ?_)
  refine And.intro rfl (And.intro rfl ?_)
  show mp_W E X 4 10 [(3, .ref a2), (0, .ref a0), (1, .int x0), (2, .int x1)] [.int x0, .ref a2] w1_ 0 0
  refine mp_callV hF (As := [.int x0]) (rest := []) (wr := [(mp_ob9 a0 a4 a1 a5 a6 a7 a8 a9 a10 a11), (mp_ob0 a1 a2 y0 a12 a13 a14 a15 a16 a17), (mp_arI E a3 0 36 f0)]) (bX7_isIsle_55 E a2 a3 a18 a19 a20 a21 a22 a23 a24 a25 a26 a27 a28 y1 y2 y3 y4 y5 y6 x0 l_y2 u_y2 l_y3 u_y3 l_y4 u_y4 l_y5 u_y5 l_y6 u_y6) mp_lkX9_141 2 rfl [2] [0, 1, 3] rfl rfl rfl rfl rfl ⟨(Nat.le_of_ble_eq_true rfl), (Nat.le_of_ble_eq_true rfl), (Nat.le_of_ble_eq_true rfl), (Nat.le_of_ble_eq_true rfl)⟩ (Nat.le_of_ble_eq_true rfl) (by first | exact mp_fd_ok mp_k_cX9_sea_ok (by decide +kernel) | decide +kernel) (fun v_1 w_2 h_3 => ?_)
  rcases h_3 with ⟨rfl, x_4, rfl⟩ | ⟨rfl, c_5, c_6, x_7, rfl⟩
  · skip
    let w2_ : va_W := [(mp_ob9 a0 a4 a1 a5 a6 a7 a8 a9 a10 a11), (mp_ob0 a1 a2 y0 a12 a13 a14 a15 a16 a17), (mp_arI E a3 0 36 f0), (mp_ob7 a2 y1 y2 y3 y4 y5 y6 a3 a18 a19 a20 a21 a22 a23 a24 a25 a26 a27 a28)]
    show mp_W E X 4 13 [(3, .ref a2), (0, .ref a0), (1, .int x0), (2, .int x1)] [.int 0] w2_ 0 0
    refine mp_run mp_k_cX9_sea_ok hF mp_tabX9_ok [mp_h (.ifCond .eq 16) [29]] (by decide +kernel) ?_
    refine And.intro (fun _ => ?_) (fun c_8 => absurd c_8 (by decide))
    show mp_W E X 4 29 [(3, .ref a2), (0, .ref a0), (1, .int x0), (2, .int x1)] [] w2_ 0 0
    refine mp_run mp_k_cX9_sea_ok hF mp_tabX9_ok [mp_c (.bipush (-2)) (-2)] (by decide +kernel) ?_
    show mp_W E X 4 31 [(3, .ref a2), (0, .ref a0), (1, .int x0), (2, .int x1)] [.int (-2)] w2_ 0 0
    exact mp_iret hF hQ rfl rfl (Nat.le_of_ble_eq_true rfl) (Nat.le_of_ble_eq_true rfl) [0, 1, 3, 2] (w' := w1_) rfl rfl ⟨(-2), rfl, (by decide), (by decide), (by first | fail | decide | (have h8 : (0 : Int64).toInt = 0 := rfl; have h9 : (-1 : Int32).toInt = -1 := rfl; have h10 : (-2 : Int32).toInt = -2 := rfl; have h11 : (0 : Int32).toInt = 0 := rfl; have h12 : (1 : Int32).toInt = 1 := rfl; have h13 : (-5 : Int32).toInt = -5 := rfl; have h14 : (-3 : Int32).toInt = -3 := rfl; (first | exact mp_o396 x_4 h10 | omega))), rfl⟩ (by first | exact mp_fd_ok mp_k_cX9_sea_ok (by decide +kernel) | decide +kernel)
  · skip
    have c_5 : 0 ≤ x0.toInt := c_5
    have c_6 : x0.toInt < y2.toInt := c_6
    let w3_ : va_W := [(mp_ob9 a0 a4 a1 a5 a6 a7 a8 a9 a10 a11), (mp_ob0 a1 a2 y0 a12 a13 a14 a15 a16 a17), (mp_arI E a3 0 36 f0), (mp_ob7 a2 y1 y2 y3 y4 y5 y6 a3 a18 a19 a20 a21 a22 a23 a24 a25 a26 a27 a28)]
    show mp_W E X 4 13 [(3, .ref a2), (0, .ref a0), (1, .int x0), (2, .int x1)] [.int 1] w3_ 0 0
    refine mp_run mp_k_cX9_sea_ok hF mp_tabX9_ok [mp_h (.ifCond .eq 16) [29]] (by decide +kernel) ?_
    refine And.intro (fun c_9 => absurd c_9 (by decide)) (fun _ => ?_)
    show mp_W E X 4 16 [(3, .ref a2), (0, .ref a0), (1, .int x0), (2, .int x1)] [] w3_ 0 0
    refine mp_run mp_k_cX9_sea_ok hF mp_tabX9_ok [mp_i (.aload_n 3), mp_i (.iload_n 2)] (by decide +kernel) ?_
    show mp_W E X 4 18 [(3, .ref a2), (0, .ref a0), (1, .int x0), (2, .int x1)] [.int x1, .ref a2] w3_ 0 0
    refine mp_callV hF (As := [.int x1]) (rest := []) (wr := [(mp_ob9 a0 a4 a1 a5 a6 a7 a8 a9 a10 a11), (mp_ob0 a1 a2 y0 a12 a13 a14 a15 a16 a17), (mp_arI E a3 0 36 f0)]) (bX7_isIsle_55 E a2 a3 a18 a19 a20 a21 a22 a23 a24 a25 a26 a27 a28 y1 y2 y3 y4 y5 y6 x1 l_y2 u_y2 l_y3 u_y3 l_y4 u_y4 l_y5 u_y5 l_y6 u_y6) mp_lkX9_141 3 rfl [3] [0, 1, 2] rfl rfl rfl rfl rfl ⟨(Nat.le_of_ble_eq_true rfl), (Nat.le_of_ble_eq_true rfl), (Nat.le_of_ble_eq_true rfl), (Nat.le_of_ble_eq_true rfl)⟩ (Nat.le_of_ble_eq_true rfl) (by first | exact mp_fd_ok mp_k_cX9_sea_ok (by decide +kernel) | decide +kernel) (fun v_10 w_11 h_12 => ?_)
    rcases h_12 with ⟨rfl, x_13, rfl⟩ | ⟨rfl, c_14, c_15, x_16, rfl⟩
    · skip
      show mp_W E X 4 21 [(3, .ref a2), (0, .ref a0), (1, .int x0), (2, .int x1)] [.int 0] w3_ 0 0
      refine mp_run mp_k_cX9_sea_ok hF mp_tabX9_ok [mp_h (.ifCond .eq 8) [29]] (by decide +kernel) ?_
      refine And.intro (fun _ => ?_) (fun c_17 => absurd c_17 (by decide))
      show mp_W E X 4 29 [(3, .ref a2), (0, .ref a0), (1, .int x0), (2, .int x1)] [] w3_ 0 0
      refine mp_run mp_k_cX9_sea_ok hF mp_tabX9_ok [mp_c (.bipush (-2)) (-2)] (by decide +kernel) ?_
      show mp_W E X 4 31 [(3, .ref a2), (0, .ref a0), (1, .int x0), (2, .int x1)] [.int (-2)] w3_ 0 0
      exact mp_iret hF hQ rfl rfl (Nat.le_of_ble_eq_true rfl) (Nat.le_of_ble_eq_true rfl) [0, 1, 3, 2] (w' := w1_) rfl rfl ⟨(-2), rfl, (by decide), (by decide), (by first | fail | decide | (have h8 : (0 : Int64).toInt = 0 := rfl; have h9 : (-1 : Int32).toInt = -1 := rfl; have h10 : (-2 : Int32).toInt = -2 := rfl; have h11 : (0 : Int32).toInt = 0 := rfl; have h12 : (1 : Int32).toInt = 1 := rfl; have h13 : (-5 : Int32).toInt = -5 := rfl; have h14 : (-3 : Int32).toInt = -3 := rfl; (first | exact mp_o397 x_13 h10 | omega))), rfl⟩ (by first | exact mp_fd_ok mp_k_cX9_sea_ok (by decide +kernel) | decide +kernel)
    · skip
      have c_14 : 0 ≤ x1.toInt := c_14
      have c_15 : x1.toInt < y2.toInt := c_15
      show mp_W E X 4 21 [(3, .ref a2), (0, .ref a0), (1, .int x0), (2, .int x1)] [.int 1] w3_ 0 0
      refine mp_run mp_k_cX9_sea_ok hF mp_tabX9_ok [mp_h (.ifCond .eq 8) [29]] (by decide +kernel) ?_
      refine And.intro (fun c_18 => absurd c_18 (by decide)) (fun _ => ?_)
      show mp_W E X 4 24 [(3, .ref a2), (0, .ref a0), (1, .int x0), (2, .int x1)] [] w3_ 0 0
      refine mp_run mp_k_cX9_sea_ok hF mp_tabX9_ok [mp_i (.iload_n 1), mp_i (.iload_n 2), mp_h (.if_icmp .ne 6) [32]] (by decide +kernel) ?_
      refine And.intro (fun c_19 => ?_) (fun c_19 => ?_)
      · have c_19 : x0.toInt ≠ x1.toInt := c_19
        show mp_W E X 4 32 [(3, .ref a2), (0, .ref a0), (1, .int x0), (2, .int x1)] [] w3_ 0 0
        refine mp_run mp_k_cX9_sea_ok hF mp_tabX9_ok [mp_i (.aload_n 3), mp_i (.iload_n 1), mp_i (.iload_n 2)] (by decide +kernel) ?_
        show mp_W E X 4 35 [(3, .ref a2), (0, .ref a0), (1, .int x0), (2, .int x1)] [.int x1, .int x0, .ref a2] w3_ 0 0
        refine mp_callV hF (As := [.int x0, .int x1]) (rest := []) (wr := [(mp_ob9 a0 a4 a1 a5 a6 a7 a8 a9 a10 a11), (mp_ob0 a1 a2 y0 a12 a13 a14 a15 a16 a17)]) (bX7_oarsBetween_46 E a2 a3 a18 a19 a20 a21 a22 a23 a24 a25 a26 a27 a28 f0 y1 y2 y3 y4 y5 y6 x0 x1 p0 (by (first | exact c_5 | omega)) (by (first | exact mp_o398 u_y2 c_6 | omega)) (by (first | exact c_14 | omega)) (by (first | exact mp_o398 u_y2 c_15 | omega)) l_y2 u_y2 l_y3 u_y3 l_y4 u_y4 l_y5 u_y5 l_y6 u_y6) mp_lkX9_144 3 rfl [3, 2] [0, 1] rfl rfl rfl rfl rfl ⟨(Nat.le_of_ble_eq_true rfl), (Nat.le_of_ble_eq_true rfl), (Nat.le_of_ble_eq_true rfl), (Nat.le_of_ble_eq_true rfl)⟩ (Nat.le_of_ble_eq_true rfl) (by first | exact mp_fd_ok mp_k_cX9_sea_ok (by decide +kernel) | decide +kernel) (fun v_20 w_21 h_22 => ?_)
        refine h_22.elim fun r_23 q_27 => q_27.elim fun e_28 q_29 => q_29.elim fun l_24 q_30 => q_30.elim fun u_25 q_31 => q_31.elim fun x_26 e_32 => ?_
        clear h_22 q_27 q_29 q_30 q_31
        subst e_28
        subst e_32
        show mp_W E X 4 38 [(3, .ref a2), (0, .ref a0), (1, .int x0), (2, .int x1)] [.int r_23] w1_ 0 0
        exact mp_iret hF hQ rfl rfl (Nat.le_of_ble_eq_true rfl) (Nat.le_of_ble_eq_true rfl) [0, 1, 2, 3] (w' := w1_) rfl rfl ⟨r_23, rfl, (by (first | exact mp_o399 l_24 | omega)), u_25, (by first | (first | exact mp_o400 c_5 c_14 c_6 c_19 c_15 x_26 | omega) | decide | (have h8 : (0 : Int64).toInt = 0 := rfl; have h9 : (-1 : Int32).toInt = -1 := rfl; have h10 : (-2 : Int32).toInt = -2 := rfl; have h11 : (0 : Int32).toInt = 0 := rfl; have h12 : (1 : Int32).toInt = 1 := rfl; have h13 : (-5 : Int32).toInt = -5 := rfl; have h14 : (-3 : Int32).toInt = -3 := rfl; omega)), rfl⟩ (by first | exact mp_fd_ok mp_k_cX9_sea_ok (by decide +kernel) | decide +kernel)
      · have c_19 : x0.toInt = x1.toInt := (congrArg Int32.toInt c_19)
        show mp_W E X 4 29 [(3, .ref a2), (0, .ref a0), (1, .int x0), (2, .int x1)] [] w3_ 0 0
        refine mp_run mp_k_cX9_sea_ok hF mp_tabX9_ok [mp_c (.bipush (-2)) (-2)] (by decide +kernel) ?_
        show mp_W E X 4 31 [(3, .ref a2), (0, .ref a0), (1, .int x0), (2, .int x1)] [.int (-2)] w3_ 0 0
        exact mp_iret hF hQ rfl rfl (Nat.le_of_ble_eq_true rfl) (Nat.le_of_ble_eq_true rfl) [0, 1, 3, 2] (w' := w1_) rfl rfl ⟨(-2), rfl, (by decide), (by decide), (by first | fail | decide | (have h8 : (0 : Int64).toInt = 0 := rfl; have h9 : (-1 : Int32).toInt = -1 := rfl; have h10 : (-2 : Int32).toInt = -2 := rfl; have h11 : (0 : Int32).toInt = 0 := rfl; have h12 : (1 : Int32).toInt = 1 := rfl; have h13 : (-5 : Int32).toInt = -5 := rfl; have h14 : (-3 : Int32).toInt = -3 := rfl; (first | exact mp_o401 c_19 h10 | omega))), rfl⟩ (by first | exact mp_fd_ok mp_k_cX9_sea_ok (by decide +kernel) | decide +kernel)
set_option maxHeartbeats 4000000 in
set_option maxRecDepth 100000 in
theorem bX9_isMoon_57 (E : mp_E) (x0 : Int32) : mp_Ct E yX9_isMoon cX9_isMoon 1 (some FieldType.boolean) 0 0 0 0 [.int x0] [] (fun v w' => (v = some (.int 0) ∧ (x0.toInt < 0 ∨ 99 < x0.toInt) ∧ w' = []) ∨ (v = some (.int 1) ∧ 0 ≤ x0.toInt ∧ x0.toInt ≤ 99 ∧ (0 ≤ x0.toInt ∧ x0.toInt ≤ 99) ∧ w' = [])) := by
  refine mp_met false (by decide) (by decide) (Nat.le_of_ble_eq_true rfl) (fun X hF hQ => ?_)
  have hF : mp_F E X (RX9, cX9_isMoon, 1, (0, 0, 0, 0), (some FieldType.boolean), false) := hF
  show mp_W E X 1 0 [(0, .int x0)] [] [] 0 0
  refine mp_run mp_k_cX9_isMoon_ok hF mp_tabX9_ok [mp_i (.iload_n 0), mp_h (.ifCond .lt 13) [14]] (by decide +kernel) ?_
  refine And.intro (fun c_1 => ?_) (fun c_1 => ?_)
  · have c_1 : x0.toInt < 0 := c_1
    show mp_W E X 1 14 [(0, .int x0)] [] [] 0 0
    refine mp_run mp_k_cX9_isMoon_ok hF mp_tabX9_ok [mp_c (.iconst 0) 0] (by decide +kernel) ?_
    show mp_W E X 1 15 [(0, .int x0)] [.int 0] [] 0 0
    exact mp_iret hF hQ rfl (by decide) (Nat.le_of_ble_eq_true rfl) (Nat.le_of_ble_eq_true rfl) [] (w' := []) rfl rfl (Or.inl ⟨rfl, (by first | (first | exact mp_o402 c_1 | omega) | decide | (have h8 : (0 : Int64).toInt = 0 := rfl; have h9 : (-1 : Int32).toInt = -1 := rfl; have h10 : (-2 : Int32).toInt = -2 := rfl; have h11 : (0 : Int32).toInt = 0 := rfl; have h12 : (1 : Int32).toInt = 1 := rfl; have h13 : (-5 : Int32).toInt = -5 := rfl; have h14 : (-3 : Int32).toInt = -3 := rfl; omega)), rfl⟩) (by first | exact mp_fd_ok mp_k_cX9_isMoon_ok (by decide +kernel) | decide +kernel)
  · have c_1 : 0 ≤ x0.toInt := c_1
    show mp_W E X 1 4 [(0, .int x0)] [] [] 0 0
    refine mp_run mp_k_cX9_isMoon_ok hF mp_tabX9_ok [mp_i (.iload_n 0), mp_c (.bipush 99) 99, mp_h (.if_icmp .gt 7) [14]] (by decide +kernel) ?_
    refine And.intro (fun c_2 => ?_) (fun c_2 => ?_)
    · have c_2 : 99 < x0.toInt := c_2
      show mp_W E X 1 14 [(0, .int x0)] [] [] 0 0
      refine mp_run mp_k_cX9_isMoon_ok hF mp_tabX9_ok [mp_c (.iconst 0) 0] (by decide +kernel) ?_
      show mp_W E X 1 15 [(0, .int x0)] [.int 0] [] 0 0
      exact mp_iret hF hQ rfl (by decide) (Nat.le_of_ble_eq_true rfl) (Nat.le_of_ble_eq_true rfl) [] (w' := []) rfl rfl (Or.inl ⟨rfl, (by first | (first | exact mp_o403 c_2 | omega) | decide | (have h8 : (0 : Int64).toInt = 0 := rfl; have h9 : (-1 : Int32).toInt = -1 := rfl; have h10 : (-2 : Int32).toInt = -2 := rfl; have h11 : (0 : Int32).toInt = 0 := rfl; have h12 : (1 : Int32).toInt = 1 := rfl; have h13 : (-5 : Int32).toInt = -5 := rfl; have h14 : (-3 : Int32).toInt = -3 := rfl; omega)), rfl⟩) (by first | exact mp_fd_ok mp_k_cX9_isMoon_ok (by decide +kernel) | decide +kernel)
    · have c_2 : x0.toInt ≤ 99 := c_2
      show mp_W E X 1 10 [(0, .int x0)] [] [] 0 0
      refine mp_run mp_k_cX9_isMoon_ok hF mp_tabX9_ok [mp_c (.iconst 1) 1, mp_h (.goto 4) [15]] (by decide +kernel) ?_
      show mp_W E X 1 15 [(0, .int x0)] [.int 1] [] 0 0
      exact mp_iret hF hQ rfl (by decide) (Nat.le_of_ble_eq_true rfl) (Nat.le_of_ble_eq_true rfl) [] (w' := []) rfl rfl (Or.inr ⟨rfl, (by first | (first | exact c_1 | omega) | decide), (by first | (first | exact c_2 | omega) | decide), (by first | (first | exact mp_o404 c_1 c_2 | omega) | decide | (have h8 : (0 : Int64).toInt = 0 := rfl; have h9 : (-1 : Int32).toInt = -1 := rfl; have h10 : (-2 : Int32).toInt = -2 := rfl; have h11 : (0 : Int32).toInt = 0 := rfl; have h12 : (1 : Int32).toInt = 1 := rfl; have h13 : (-5 : Int32).toInt = -5 := rfl; have h14 : (-3 : Int32).toInt = -3 := rfl; omega)), rfl⟩) (by first | exact mp_fd_ok mp_k_cX9_isMoon_ok (by decide +kernel) | decide +kernel)
set_option maxHeartbeats 4000000 in
set_option maxRecDepth 100000 in
theorem bX7_isShut_58 (E : mp_E) (a0 a1 a2 a3 a4 a5 a6 a7 a8 a9 a10 a11 a12 : Nat) (f0 : Nat → Int64) (y0 : Int32) (y1 : Int32) (y2 : Int32) (y3 : Int32) (y4 : Int32) (y5 : Int32) (x0 : Int32) (x1 : Int32) (l_x0 : 0 ≤ x0.toInt) (u_x0 : x0.toInt ≤ 5) (l_x1 : 0 ≤ x1.toInt) (u_x1 : x1.toInt ≤ 99) (l_y1 : 0 ≤ y1.toInt) (u_y1 : y1.toInt ≤ 6) (l_y2 : 0 ≤ y2.toInt) (u_y2 : y2.toInt ≤ 99) (l_y3 : 0 ≤ y3.toInt) (u_y3 : y3.toInt ≤ 6) (l_y4 : 0 ≤ y4.toInt) (u_y4 : y4.toInt ≤ 10) (l_y5 : 0 ≤ y5.toInt) (u_y5 : y5.toInt ≤ 60) : mp_Ct E yX7_isShut cX7_isShut 3 (some FieldType.boolean) 0 0 0 0 [.ref a0, .int x0, .int x1] [(mp_ob7 a0 y0 y1 y2 y3 y4 y5 a2 a1 a3 a4 a5 a6 a7 a8 a9 a10 a11 a12), (mp_arL E a1 12 f0)] (fun v w' => (v = some (.int 0) ∧ (mp_shb f0 (100 * x0.toInt + x1.toInt).toNat = false) ∧ w' = [(mp_ob7 a0 y0 y1 y2 y3 y4 y5 a2 a1 a3 a4 a5 a6 a7 a8 a9 a10 a11 a12), (mp_arL E a1 12 f0)]) ∨ (v = some (.int 1) ∧ (mp_shb f0 (100 * x0.toInt + x1.toInt).toNat = true) ∧ w' = [(mp_ob7 a0 y0 y1 y2 y3 y4 y5 a2 a1 a3 a4 a5 a6 a7 a8 a9 a10 a11 a12), (mp_arL E a1 12 f0)])) := by
  refine mp_met false (by decide) (by decide) (Nat.le_of_ble_eq_true rfl) (fun X hF hQ => ?_)
  have hF : mp_F E X (RX7, cX7_isShut, 3, (0, 0, 0, 0), (some FieldType.boolean), false) := hF
  let w1_ : va_W := [(mp_ob7 a0 y0 y1 y2 y3 y4 y5 a2 a1 a3 a4 a5 a6 a7 a8 a9 a10 a11 a12), (mp_arL E a1 12 f0)]
  show mp_W E X 3 0 [(0, .ref a0), (1, .int x0), (2, .int x1)] [] w1_ 0 0
  refine mp_run mp_k_cX7_isShut_ok hF mp_tabX7_ok [mp_i (.aload_n 0), mp_h (.getfield 15) [7, 0], mp_c (.iconst 2) 2, mp_i (.iload_n 1), mp_i .imul, mp_i (.iload_n 2), mp_c (.bipush 50) 50, mp_i .idiv, mp_i .iadd, mp_h .laload [1], mp_i (.iload_n 2), mp_c (.bipush 50) 50, mp_i .irem, mp_i .lshr, mp_cl (.lconst 1) 1, mp_i .land, mp_cl (.lconst 0) 0, mp_i .lcmp, mp_h (.ifCond .eq 7) [29]] (by decide +kernel) ?_
  refine And.intro rfl (And.intro rfl ?_)
  intro z_1 h_2
  have e_3 : z_1.toInt = 2 * x0.toInt := mp_mul (a := 2) (b := x0.toInt) h_2 (by decide) rfl (by (first | exact mp_o147 l_x0 | omega)) (by (first | exact mp_o148 u_x0 | omega))
  refine And.intro (by decide) ?_
  intro z_4 h_5
  have e_6 : z_4.toInt = x1.toInt / 50 := mp_div (a := x1.toInt) (b := 50) h_5 rfl (by decide) (by (first | exact l_x1 | omega)) (by decide)
  intro z_7 h_8
  have e_9 : z_7.toInt = z_1.toInt + z_4.toInt := mp_add (a := z_1.toInt) (b := z_4.toInt) h_8 rfl rfl (by (first | exact mp_o149 l_x0 e_3 l_x1 e_6 | omega)) (by (first | exact mp_o150 u_x0 e_3 u_x1 e_6 | omega))
  refine And.intro rfl (And.intro rfl (And.intro (vp_in_iff.mpr (by (first | exact mp_o151 l_x0 u_x0 l_x1 u_x1 e_3 e_6 e_9 | omega))) ?_))
  intro z_10 h_11
  refine And.intro (by decide) ?_
  intro z_12 h_13
  have e_14 : z_12.toInt = x1.toInt % 50 := mp_rem (a := x1.toInt) (b := 50) h_13 rfl (by decide) (by (first | exact l_x1 | omega)) (by decide)
  intro z_15 h_16
  intro z_17 h_18
  intro z_19 h_20
  refine And.intro (fun c_21 => ?_) (fun c_21 => ?_)
  · have c_21 : z_17.toInt = 0 := mp_lc_eq h_20 c_21
    show mp_W E X 3 29 [(0, .ref a0), (1, .int x0), (2, .int x1)] [] w1_ 0 0
    refine mp_run mp_k_cX7_isShut_ok hF mp_tabX7_ok [mp_c (.iconst 0) 0] (by decide +kernel) ?_
    show mp_W E X 3 30 [(0, .ref a0), (1, .int x0), (2, .int x1)] [.int 0] w1_ 0 0
    exact mp_iret hF hQ rfl (by decide) (Nat.le_of_ble_eq_true rfl) (Nat.le_of_ble_eq_true rfl) [0, 1] (w' := w1_) rfl rfl (Or.inl ⟨rfl, ((mp_shb_rd (a := x0.toInt) (m := x1.toInt) h_11 h_16 h_18 (by (first | exact mp_o405 e_3 e_6 e_9 | omega)) (by (first | exact e_14 | omega)) (by (first | exact l_x0 | omega)) (by (first | exact mp_o154 l_x1 u_x1 | omega))).trans (decide_eq_false (fun q => q (mp_l_eq (by (first | exact c_21 | omega)))))), rfl⟩) (by first | exact mp_fd_ok mp_k_cX7_isShut_ok (by decide +kernel) | decide +kernel)
  · have c_21 : z_17.toInt ≠ 0 := mp_lc_ne h_20 c_21
    show mp_W E X 3 25 [(0, .ref a0), (1, .int x0), (2, .int x1)] [] w1_ 0 0
    refine mp_run mp_k_cX7_isShut_ok hF mp_tabX7_ok [mp_c (.iconst 1) 1, mp_h (.goto 4) [30]] (by decide +kernel) ?_
    show mp_W E X 3 30 [(0, .ref a0), (1, .int x0), (2, .int x1)] [.int 1] w1_ 0 0
    exact mp_iret hF hQ rfl (by decide) (Nat.le_of_ble_eq_true rfl) (Nat.le_of_ble_eq_true rfl) [0, 1] (w' := w1_) rfl rfl (Or.inr ⟨rfl, ((mp_shb_rd (a := x0.toInt) (m := x1.toInt) h_11 h_16 h_18 (by (first | exact mp_o405 e_3 e_6 e_9 | omega)) (by (first | exact e_14 | omega)) (by (first | exact l_x0 | omega)) (by (first | exact mp_o154 l_x1 u_x1 | omega))).trans (decide_eq_true (mp_l_ne (by (first | exact c_21 | omega))))), rfl⟩) (by first | exact mp_fd_ok mp_k_cX7_isShut_ok (by decide +kernel) | decide +kernel)
set_option maxHeartbeats 4000000 in
set_option maxRecDepth 100000 in
theorem bX9_open_59 (E : mp_E) (a0 a1 a2 a3 a4 a5 a6 a7 a8 a9 a10 a11 a12 a13 a14 a15 a16 a17 a18 a19 a20 a21 a22 a23 a24 a25 a26 a27 a28 : Nat) (f0 : Nat → Int64) (y0 : Int32) (y1 : Int32) (y2 : Int32) (y3 : Int32) (y4 : Int32) (y5 : Int32) (y6 : Int32) (x0 : Int32) (x1 : Int32) (l_y0 : 0 ≤ y0.toInt) (u_y0 : y0.toInt ≤ 99) (l_y2 : 0 ≤ y2.toInt) (u_y2 : y2.toInt ≤ 6) (l_y3 : 0 ≤ y3.toInt) (u_y3 : y3.toInt ≤ 99) (l_y4 : 0 ≤ y4.toInt) (u_y4 : y4.toInt ≤ 6) (l_y5 : 0 ≤ y5.toInt) (u_y5 : y5.toInt ≤ 10) (l_y6 : 0 ≤ y6.toInt) (u_y6 : y6.toInt ≤ 60) : mp_Ct E yX9_open cX9_open 3 (some FieldType.int) 1 0 0 22 [.ref a0, .int x0, .int x1] [(mp_ob9 a0 a4 a1 a5 a6 a7 a8 a9 a10 a11), (mp_ob0 a1 a2 y0 a12 a13 a14 a15 a16 a17), (mp_ob7 a2 y1 y2 y3 y4 y5 y6 a18 a3 a19 a20 a21 a22 a23 a24 a25 a26 a27 a28), (mp_arL E a3 12 f0)] (fun v w' => ∃ r1 : Int32, v = some (.int r1) ∧ (-2) ≤ r1.toInt ∧ r1.toInt ≤ 1 ∧ (((x0.toInt < 0 ∨ y2.toInt ≤ x0.toInt ∨ x1.toInt < 0 ∨ 99 < x1.toInt) ∧ r1.toInt = -2) ∨ ((0 ≤ x0.toInt ∧ x0.toInt < y2.toInt ∧ 0 ≤ x1.toInt ∧ x1.toInt ≤ 99) ∧ ((mp_shb f0 (100 * x0.toInt + x1.toInt).toNat = true ∧ r1.toInt = 0) ∨ (mp_shb f0 (100 * x0.toInt + x1.toInt).toNat = false ∧ r1.toInt = 1)))) ∧ w' = [(mp_ob9 a0 a4 a1 a5 a6 a7 a8 a9 a10 a11), (mp_ob0 a1 a2 y0 a12 a13 a14 a15 a16 a17), (mp_ob7 a2 y1 y2 y3 y4 y5 y6 a18 a3 a19 a20 a21 a22 a23 a24 a25 a26 a27 a28), (mp_arL E a3 12 f0)]) := by
  refine mp_met false (by decide) (by decide) (Nat.le_of_ble_eq_true rfl) (fun X hF hQ => ?_)
  have hF : mp_F E X (RX9, cX9_open, 3, (1, 0, 0, 22), (some FieldType.int), false) := hF
  let w1_ : va_W := [(mp_ob9 a0 a4 a1 a5 a6 a7 a8 a9 a10 a11), (mp_ob0 a1 a2 y0 a12 a13 a14 a15 a16 a17), (mp_ob7 a2 y1 y2 y3 y4 y5 y6 a18 a3 a19 a20 a21 a22 a23 a24 a25 a26 a27 a28), (mp_arL E a3 12 f0)]
  show mp_W E X 3 0 [(0, .ref a0), (1, .int x0), (2, .int x1)] [] w1_ 0 0
  refine mp_run mp_k_cX9_open_ok hF mp_tabX9_ok [mp_i (.aload_n 0), mp_h (.getfield 19) [37, 0], mp_h (.getfield 83) [20, 1], mp_i (.iload_n 1)] (by decide +kernel) ?_
  refine And.intro rfl (And.intro rfl ?_)
  refine And.intro rfl (And.intro rfl ?_)
  show mp_W E X 3 8 [(0, .ref a0), (1, .int x0), (2, .int x1)] [.int x0, .ref a2] w1_ 0 0
  refine mp_callV hF (As := [.int x0]) (rest := []) (wr := [(mp_ob9 a0 a4 a1 a5 a6 a7 a8 a9 a10 a11), (mp_ob0 a1 a2 y0 a12 a13 a14 a15 a16 a17), (mp_arL E a3 12 f0)]) (bX7_isIsle_55 E a2 a18 a3 a19 a20 a21 a22 a23 a24 a25 a26 a27 a28 y1 y2 y3 y4 y5 y6 x0 l_y2 u_y2 l_y3 u_y3 l_y4 u_y4 l_y5 u_y5 l_y6 u_y6) mp_lkX9_141 2 rfl [2] [0, 1, 3] rfl rfl rfl rfl rfl ⟨(Nat.le_of_ble_eq_true rfl), (Nat.le_of_ble_eq_true rfl), (Nat.le_of_ble_eq_true rfl), (Nat.le_of_ble_eq_true rfl)⟩ (Nat.le_of_ble_eq_true rfl) (by first | exact mp_fd_ok mp_k_cX9_open_ok (by decide +kernel) | decide +kernel) (fun v_1 w_2 h_3 => ?_)
  rcases h_3 with ⟨rfl, x_4, rfl⟩ | ⟨rfl, c_5, c_6, x_7, rfl⟩
  · skip
    let w2_ : va_W := [(mp_ob9 a0 a4 a1 a5 a6 a7 a8 a9 a10 a11), (mp_ob0 a1 a2 y0 a12 a13 a14 a15 a16 a17), (mp_arL E a3 12 f0), (mp_ob7 a2 y1 y2 y3 y4 y5 y6 a18 a3 a19 a20 a21 a22 a23 a24 a25 a26 a27 a28)]
    show mp_W E X 3 11 [(0, .ref a0), (1, .int x0), (2, .int x1)] [.int 0] w2_ 0 0
    refine mp_run mp_k_cX9_open_ok hF mp_tabX9_ok [mp_h (.ifCond .eq 10) [21]] (by decide +kernel) ?_
    refine And.intro (fun _ => ?_) (fun c_8 => absurd c_8 (by decide))
    show mp_W E X 3 21 [(0, .ref a0), (1, .int x0), (2, .int x1)] [] w2_ 0 0
    refine mp_run mp_k_cX9_open_ok hF mp_tabX9_ok [mp_c (.bipush (-2)) (-2)] (by decide +kernel) ?_
    show mp_W E X 3 23 [(0, .ref a0), (1, .int x0), (2, .int x1)] [.int (-2)] w2_ 0 0
    exact mp_iret hF hQ rfl rfl (Nat.le_of_ble_eq_true rfl) (Nat.le_of_ble_eq_true rfl) [0, 1, 3, 2] (w' := w1_) rfl rfl ⟨(-2), rfl, (by decide), (by decide), (Or.inl ⟨by (first | exact mp_o406 x_4 | omega), (by first | fail | decide | (have h8 : (0 : Int64).toInt = 0 := rfl; have h9 : (-1 : Int32).toInt = -1 := rfl; have h10 : (-2 : Int32).toInt = -2 := rfl; have h11 : (0 : Int32).toInt = 0 := rfl; have h12 : (1 : Int32).toInt = 1 := rfl; have h13 : (-5 : Int32).toInt = -5 := rfl; have h14 : (-3 : Int32).toInt = -3 := rfl; omega))⟩), rfl⟩ (by first | exact mp_fd_ok mp_k_cX9_open_ok (by decide +kernel) | decide +kernel)
  · skip
    have c_5 : 0 ≤ x0.toInt := c_5
    have c_6 : x0.toInt < y2.toInt := c_6
    let w3_ : va_W := [(mp_ob9 a0 a4 a1 a5 a6 a7 a8 a9 a10 a11), (mp_ob0 a1 a2 y0 a12 a13 a14 a15 a16 a17), (mp_arL E a3 12 f0), (mp_ob7 a2 y1 y2 y3 y4 y5 y6 a18 a3 a19 a20 a21 a22 a23 a24 a25 a26 a27 a28)]
    show mp_W E X 3 11 [(0, .ref a0), (1, .int x0), (2, .int x1)] [.int 1] w3_ 0 0
    refine mp_run mp_k_cX9_open_ok hF mp_tabX9_ok [mp_h (.ifCond .eq 10) [21]] (by decide +kernel) ?_
    refine And.intro (fun c_9 => absurd c_9 (by decide)) (fun _ => ?_)
    show mp_W E X 3 14 [(0, .ref a0), (1, .int x0), (2, .int x1)] [] w3_ 0 0
    refine mp_run mp_k_cX9_open_ok hF mp_tabX9_ok [mp_i (.iload_n 2)] (by decide +kernel) ?_
    show mp_W E X 3 15 [(0, .ref a0), (1, .int x0), (2, .int x1)] [.int x1] w3_ 0 0
    refine mp_callS hF (As := [.int x1]) (rest := []) (wr := w3_) (bX9_isMoon_57 E x1) mp_lkX9_148 [] [0, 1, 2, 3] rfl rfl rfl rfl rfl ⟨(Nat.le_of_ble_eq_true rfl), (Nat.le_of_ble_eq_true rfl), (Nat.le_of_ble_eq_true rfl), (Nat.le_of_ble_eq_true rfl)⟩ (Nat.le_of_ble_eq_true rfl) (by first | exact mp_fd_ok mp_k_cX9_open_ok (by decide +kernel) | decide +kernel) (fun v_10 w_11 h_12 => ?_)
    rcases h_12 with ⟨rfl, x_13, rfl⟩ | ⟨rfl, c_14, c_15, x_16, rfl⟩
    · skip
      show mp_W E X 3 18 [(0, .ref a0), (1, .int x0), (2, .int x1)] [.int 0] w3_ 0 0
      refine mp_run mp_k_cX9_open_ok hF mp_tabX9_ok [mp_h (.ifCond .ne 6) [24]] (by decide +kernel) ?_
      refine And.intro (fun c_17 => absurd c_17 (by decide)) (fun _ => ?_)
      show mp_W E X 3 21 [(0, .ref a0), (1, .int x0), (2, .int x1)] [] w3_ 0 0
      refine mp_run mp_k_cX9_open_ok hF mp_tabX9_ok [mp_c (.bipush (-2)) (-2)] (by decide +kernel) ?_
      show mp_W E X 3 23 [(0, .ref a0), (1, .int x0), (2, .int x1)] [.int (-2)] w3_ 0 0
      exact mp_iret hF hQ rfl rfl (Nat.le_of_ble_eq_true rfl) (Nat.le_of_ble_eq_true rfl) [0, 1, 3, 2] (w' := w1_) rfl rfl ⟨(-2), rfl, (by decide), (by decide), (Or.inl ⟨by (first | exact mp_o407 x_13 | omega), (by first | fail | decide | (have h8 : (0 : Int64).toInt = 0 := rfl; have h9 : (-1 : Int32).toInt = -1 := rfl; have h10 : (-2 : Int32).toInt = -2 := rfl; have h11 : (0 : Int32).toInt = 0 := rfl; have h12 : (1 : Int32).toInt = 1 := rfl; have h13 : (-5 : Int32).toInt = -5 := rfl; have h14 : (-3 : Int32).toInt = -3 := rfl; omega))⟩), rfl⟩ (by first | exact mp_fd_ok mp_k_cX9_open_ok (by decide +kernel) | decide +kernel)
    · skip
      have c_14 : 0 ≤ x1.toInt := c_14
      have c_15 : x1.toInt ≤ 99 := c_15
      show mp_W E X 3 18 [(0, .ref a0), (1, .int x0), (2, .int x1)] [.int 1] w3_ 0 0
      refine mp_run mp_k_cX9_open_ok hF mp_tabX9_ok [mp_h (.ifCond .ne 6) [24]] (by decide +kernel) ?_
      refine And.intro (fun _ => ?_) (fun c_18 => absurd c_18 (by decide))
      show mp_W E X 3 24 [(0, .ref a0), (1, .int x0), (2, .int x1)] [] w3_ 0 0
      refine mp_run mp_k_cX9_open_ok hF mp_tabX9_ok [mp_i (.aload_n 0), mp_h (.getfield 19) [37, 0], mp_h (.getfield 83) [20, 1], mp_i (.iload_n 1), mp_i (.iload_n 2)] (by decide +kernel) ?_
      refine And.intro rfl (And.intro rfl ?_)
      refine And.intro rfl (And.intro rfl ?_)
      show mp_W E X 3 33 [(0, .ref a0), (1, .int x0), (2, .int x1)] [.int x1, .int x0, .ref a2] w3_ 0 0
      refine mp_callV hF (As := [.int x0, .int x1]) (rest := []) (wr := [(mp_ob9 a0 a4 a1 a5 a6 a7 a8 a9 a10 a11), (mp_ob0 a1 a2 y0 a12 a13 a14 a15 a16 a17)]) (bX7_isShut_58 E a2 a3 a18 a19 a20 a21 a22 a23 a24 a25 a26 a27 a28 f0 y1 y2 y3 y4 y5 y6 x0 x1 (by (first | exact c_5 | omega)) (by (first | exact mp_o398 u_y2 c_6 | omega)) (by (first | exact c_14 | omega)) (by (first | exact c_15 | omega)) l_y2 u_y2 l_y3 u_y3 l_y4 u_y4 l_y5 u_y5 l_y6 u_y6) mp_lkX9_151 3 rfl [3, 2] [0, 1] rfl rfl rfl rfl rfl ⟨(Nat.le_of_ble_eq_true rfl), (Nat.le_of_ble_eq_true rfl), (Nat.le_of_ble_eq_true rfl), (Nat.le_of_ble_eq_true rfl)⟩ (Nat.le_of_ble_eq_true rfl) (by first | exact mp_fd_ok mp_k_cX9_open_ok (by decide +kernel) | decide +kernel) (fun v_19 w_20 h_21 => ?_)
      rcases h_21 with ⟨rfl, x_22, rfl⟩ | ⟨rfl, x_23, rfl⟩
      · skip
        show mp_W E X 3 36 [(0, .ref a0), (1, .int x0), (2, .int x1)] [.int 0] w1_ 0 0
        refine mp_run mp_k_cX9_open_ok hF mp_tabX9_ok [mp_h (.ifCond .eq 7) [43]] (by decide +kernel) ?_
        refine And.intro (fun _ => ?_) (fun c_24 => absurd c_24 (by decide))
        show mp_W E X 3 43 [(0, .ref a0), (1, .int x0), (2, .int x1)] [] w1_ 0 0
        refine mp_run mp_k_cX9_open_ok hF mp_tabX9_ok [mp_c (.iconst 1) 1] (by decide +kernel) ?_
        show mp_W E X 3 44 [(0, .ref a0), (1, .int x0), (2, .int x1)] [.int 1] w1_ 0 0
        exact mp_iret hF hQ rfl rfl (Nat.le_of_ble_eq_true rfl) (Nat.le_of_ble_eq_true rfl) [0, 1, 2, 3] (w' := w1_) rfl rfl ⟨1, rfl, (by decide), (by decide), (Or.inr ⟨by (first | exact mp_o408 c_5 c_14 c_6 c_15 | omega), Or.inr ⟨x_22, (by first | fail | decide | (have h8 : (0 : Int64).toInt = 0 := rfl; have h9 : (-1 : Int32).toInt = -1 := rfl; have h10 : (-2 : Int32).toInt = -2 := rfl; have h11 : (0 : Int32).toInt = 0 := rfl; have h12 : (1 : Int32).toInt = 1 := rfl; have h13 : (-5 : Int32).toInt = -5 := rfl; have h14 : (-3 : Int32).toInt = -3 := rfl; omega))⟩⟩), rfl⟩ (by first | exact mp_fd_ok mp_k_cX9_open_ok (by decide +kernel) | decide +kernel)
      · skip
        show mp_W E X 3 36 [(0, .ref a0), (1, .int x0), (2, .int x1)] [.int 1] w1_ 0 0
        refine mp_run mp_k_cX9_open_ok hF mp_tabX9_ok [mp_h (.ifCond .eq 7) [43]] (by decide +kernel) ?_
        refine And.intro (fun c_25 => absurd c_25 (by decide)) (fun _ => ?_)
        show mp_W E X 3 39 [(0, .ref a0), (1, .int x0), (2, .int x1)] [] w1_ 0 0
        refine mp_run mp_k_cX9_open_ok hF mp_tabX9_ok [mp_c (.iconst 0) 0, mp_h (.goto 4) [44]] (by decide +kernel) ?_
        show mp_W E X 3 44 [(0, .ref a0), (1, .int x0), (2, .int x1)] [.int 0] w1_ 0 0
        exact mp_iret hF hQ rfl rfl (Nat.le_of_ble_eq_true rfl) (Nat.le_of_ble_eq_true rfl) [0, 1, 2, 3] (w' := w1_) rfl rfl ⟨0, rfl, (by decide), (by decide), (Or.inr ⟨by (first | exact mp_o408 c_5 c_14 c_6 c_15 | omega), Or.inl ⟨x_23, (by first | fail | decide | (have h8 : (0 : Int64).toInt = 0 := rfl; have h9 : (-1 : Int32).toInt = -1 := rfl; have h10 : (-2 : Int32).toInt = -2 := rfl; have h11 : (0 : Int32).toInt = 0 := rfl; have h12 : (1 : Int32).toInt = 1 := rfl; have h13 : (-5 : Int32).toInt = -5 := rfl; have h14 : (-3 : Int32).toInt = -3 := rfl; omega))⟩⟩), rfl⟩ (by first | exact mp_fd_ok mp_k_cX9_open_ok (by decide +kernel) | decide +kernel)
set_option maxHeartbeats 4000000 in
set_option maxRecDepth 100000 in
theorem bX0_lastSaid_60 (E : mp_E) (a0 a1 a2 a3 a4 a5 a6 a7 a8 a9 a10 a11 a12 a13 a14 a15 a16 a17 a18 a19 : Nat) (f0 : Nat → Int32) (f1 : Nat → Int64) (y0 : Int32) (y1 : Int32) (y2 : Int32) (y3 : Int32) (y4 : Int32) (y5 : Int32) (y6 : Int32) (x0 : Int32) (x1 : Int32) (p0 : mp_all f0 10 0 99) (l_x0 : 0 ≤ x0.toInt) (u_x0 : x0.toInt ≤ 9) (l_y0 : 0 ≤ y0.toInt) (u_y0 : y0.toInt ≤ 99) (l_y2 : 0 ≤ y2.toInt) (u_y2 : y2.toInt ≤ 6) (l_y3 : 0 ≤ y3.toInt) (u_y3 : y3.toInt ≤ 99) (l_y4 : 0 ≤ y4.toInt) (u_y4 : y4.toInt ≤ 6) (l_y5 : 0 ≤ y5.toInt) (u_y5 : y5.toInt ≤ 10) (l_y6 : 0 ≤ y6.toInt) (u_y6 : y6.toInt ≤ 60) : mp_Ct E yX0_lastSaid cX0_lastSaid 5 (some FieldType.int) 1 0 0 16 [.ref a0, .int x0, .int x1] [(mp_ob0 a0 a1 y0 a4 a5 a6 a3 a7 a8), (mp_ob7 a1 y1 y2 y3 y4 y5 y6 a9 a10 a11 a12 a13 a14 a15 a16 a2 a17 a18 a19), (mp_arI E a2 0 10 f0), (mp_arL E a3 20 f1)] (fun v w' => ∃ r1 : Int32, v = some (.int r1) ∧ (-1) ≤ r1.toInt ∧ r1.toInt ≤ 99 ∧ w' = [(mp_ob0 a0 a1 y0 a4 a5 a6 a3 a7 a8), (mp_ob7 a1 y1 y2 y3 y4 y5 y6 a9 a10 a11 a12 a13 a14 a15 a16 a2 a17 a18 a19), (mp_arI E a2 0 10 f0), (mp_arL E a3 20 f1)]) := by
  refine mp_met false (by decide) (by decide) (Nat.le_of_ble_eq_true rfl) (fun X hF hQ => ?_)
  have hF : mp_F E X (RX0, cX0_lastSaid, 5, (1, 0, 0, 16), (some FieldType.int), false) := hF
  let w1_ : va_W := [(mp_ob0 a0 a1 y0 a4 a5 a6 a3 a7 a8), (mp_ob7 a1 y1 y2 y3 y4 y5 y6 a9 a10 a11 a12 a13 a14 a15 a16 a2 a17 a18 a19), (mp_arI E a2 0 10 f0), (mp_arL E a3 20 f1)]
  show mp_W E X 5 0 [(0, .ref a0), (1, .int x0), (2, .int x1)] [] w1_ 0 0
  refine mp_run mp_k_cX0_lastSaid_ok hF mp_tabX0_ok [mp_i (.aload_n 0), mp_h (.getfield 12) [11, 0], mp_h (.getfield 89) [8, 1], mp_i (.iload_n 1), mp_h .iaload [2], mp_i (.istore_n 3), mp_i (.iload_n 2), mp_i (.iload_n 3), mp_h (.if_icmp .ge 5) [17]] (by decide +kernel) ?_
  refine And.intro rfl (And.intro rfl ?_)
  refine And.intro rfl (And.intro rfl ?_)
  refine And.intro rfl (And.intro rfl (And.intro (vp_in_iff.mpr (by omega)) ?_))
  intro z_1 h_2
  have e_3 : 0 ≤ z_1.toInt ∧ z_1.toInt ≤ 99 := mp_all_ld h_2 p0 (by omega) (by omega)
  refine And.intro (fun c_4 => ?_) (fun c_4 => ?_)
  · have c_4 : z_1.toInt ≤ x1.toInt := c_4
    show mp_W E X 5 17 [(3, .int z_1), (0, .ref a0), (1, .int x0), (2, .int x1)] [] w1_ 0 0
    refine mp_run mp_k_cX0_lastSaid_ok hF mp_tabX0_ok [mp_i (.iload_n 2), mp_i (.aload_n 0), mp_h (.getfield 42) [12, 0]] (by decide +kernel) ?_
    refine And.intro rfl (And.intro rfl ?_)
    show mp_W E X 5 22 [(3, .int z_1), (0, .ref a0), (1, .int x0), (2, .int x1)] [.int y0, .int x1] w1_ 0 0
    refine mp_mmin hF (idx := 92) (mp_gm (j := 3181) (by decide +kernel)) (mp_gm (j := 2219) (by decide +kernel)) (mp_gm (j := 1013) (by decide +kernel)) (mp_gm (j := 2220) (by decide +kernel)) ⟨(Nat.le_of_ble_eq_true rfl), (Nat.le_of_ble_eq_true rfl), (Nat.le_of_ble_eq_true rfl), (Nat.le_of_ble_eq_true rfl)⟩ (by first | exact mp_fd_ok mp_k_cX0_lastSaid_ok (by decide +kernel) | decide +kernel) (fun z_5 m_6 m_7 m_8 => ?_)
    have m_7 : z_5.toInt ≤ x1.toInt := m_7
    have m_8 : z_5.toInt ≤ y0.toInt := m_8
    have m_6 : z_5.toInt = x1.toInt ∨ z_5.toInt = y0.toInt := m_6
    show mp_W E X 5 25 [(3, .int z_1), (0, .ref a0), (1, .int x0), (2, .int x1)] [.int z_5] w1_ 0 0
    refine mp_run mp_k_cX0_lastSaid_ok hF mp_tabX0_ok [mp_i (.istore 4)] (by decide +kernel) ?_
    show mp_W E X 5 27 [(4, .int z_5), (3, .int z_1), (0, .ref a0), (1, .int x0), (2, .int x1)] [] w1_ 0 0
    have lp_12 : ∀ (d_13 : Nat) (i_9 : Int32), 0 ≤ i_9.toInt → i_9.toInt ≤ 99 → i_9.toInt - z_1.toInt ≤ (d_13 : Int) → mp_W E X 5 27 [(4, .int i_9), (3, .int z_1), (0, .ref a0), (1, .int x0), (2, .int x1)] [] [(mp_ob0 a0 a1 y0 a4 a5 a6 a3 a7 a8), (mp_ob7 a1 y1 y2 y3 y4 y5 y6 a9 a10 a11 a12 a13 a14 a15 a16 a2 a17 a18 a19), (mp_arI E a2 0 10 f0), (mp_arL E a3 20 f1)] 0 0 := by
      intro d_13
      induction d_13 using Nat.strongRecOn with
      | ind d_13 ih_14 =>
        intro i_9 l_10 u_11 hm_15
        refine mp_run mp_k_cX0_lastSaid_ok hF mp_tabX0_ok [mp_i (.iload 4), mp_i (.iload_n 3), mp_h (.if_icmp .le 39) [69]] (by decide +kernel) ?_
        refine And.intro (fun c_16 => ?_) (fun c_16 => ?_)
        · have c_16 : i_9.toInt ≤ z_1.toInt := c_16
          show mp_W E X 5 69 [(4, .int i_9), (3, .int z_1), (0, .ref a0), (1, .int x0), (2, .int x1)] [] w1_ 0 0
          refine mp_run mp_k_cX0_lastSaid_ok hF mp_tabX0_ok [mp_i (.iload_n 3)] (by decide +kernel) ?_
          show mp_W E X 5 70 [(4, .int i_9), (3, .int z_1), (0, .ref a0), (1, .int x0), (2, .int x1)] [.int z_1] w1_ 0 0
          exact mp_iret hF hQ rfl rfl (Nat.le_of_ble_eq_true rfl) (Nat.le_of_ble_eq_true rfl) [0, 1, 2, 3] (w' := w1_) rfl rfl ⟨z_1, rfl, (by omega), e_3.2, rfl⟩ (by first | exact mp_fd_ok mp_k_cX0_lastSaid_ok (by decide +kernel) | decide +kernel)
        · have c_16 : z_1.toInt < i_9.toInt := c_16
          show mp_W E X 5 33 [(4, .int i_9), (3, .int z_1), (0, .ref a0), (1, .int x0), (2, .int x1)] [] w1_ 0 0
          refine mp_run mp_k_cX0_lastSaid_ok hF mp_tabX0_ok [mp_i (.aload_n 0), mp_h (.getfield 28) [16, 0], mp_c (.iconst 2) 2, mp_i (.iload_n 1), mp_i .imul, mp_i (.iload 4), mp_c (.bipush 50) 50, mp_i .idiv, mp_i .iadd, mp_h .laload [3], mp_i (.iload 4), mp_c (.bipush 50) 50, mp_i .irem, mp_i .lshr, mp_cl (.lconst 1) 1, mp_i .land, mp_cl (.lconst 0) 0, mp_i .lcmp, mp_h (.ifCond .eq 6) [63]] (by decide +kernel) ?_
          refine And.intro rfl (And.intro rfl ?_)
          intro z_17 h_18
          have e_19 : z_17.toInt = 2 * x0.toInt := mp_mul (a := 2) (b := x0.toInt) h_18 (by decide) rfl (by omega) (by omega)
          refine And.intro (by decide) ?_
          intro z_20 h_21
          have e_22 : z_20.toInt = i_9.toInt / 50 := mp_div (a := i_9.toInt) (b := 50) h_21 rfl (by decide) (by omega) (by decide)
          intro z_23 h_24
          have e_25 : z_23.toInt = z_17.toInt + z_20.toInt := mp_add (a := z_17.toInt) (b := z_20.toInt) h_24 rfl rfl (by omega) (by omega)
          refine And.intro rfl (And.intro rfl (And.intro (vp_in_iff.mpr (by omega)) ?_))
          intro z_26 h_27
          refine And.intro (by decide) ?_
          intro z_28 h_29
          have e_30 : z_28.toInt = i_9.toInt % 50 := mp_rem (a := i_9.toInt) (b := 50) h_29 rfl (by decide) (by omega) (by decide)
          intro z_31 h_32
          intro z_33 h_34
          intro z_35 h_36
          refine And.intro (fun c_37 => ?_) (fun c_37 => ?_)
          · have c_37 : z_33.toInt = 0 := mp_lc_eq h_36 c_37
            show mp_W E X 5 63 [(4, .int i_9), (3, .int z_1), (0, .ref a0), (1, .int x0), (2, .int x1)] [] w1_ 0 0
            refine mp_run mp_k_cX0_lastSaid_ok hF mp_tabX0_ok [mp_c (.iinc 4 (-1)) (-1), mp_h (.goto (-39)) [27]] (by decide +kernel) ?_
            intro z_38 h_39
            have e_40 : z_38.toInt = i_9.toInt + (-1) := mp_add (a := i_9.toInt) (b := (-1)) h_39 rfl (by decide) (by omega) (by omega)
            show mp_W E X 5 27 [(4, .int z_38), (3, .int z_1), (0, .ref a0), (1, .int x0), (2, .int x1)] [] w1_ 0 0
            exact mp_sub [0, 1, 2, 3, 4] rfl [0, 1, 2, 3] rfl rfl (ih_14 (d_13 - 1) (by omega) z_38 (by omega) (by omega) (by omega))
          · have c_37 : z_33.toInt ≠ 0 := mp_lc_ne h_36 c_37
            show mp_W E X 5 60 [(4, .int i_9), (3, .int z_1), (0, .ref a0), (1, .int x0), (2, .int x1)] [] w1_ 0 0
            refine mp_run mp_k_cX0_lastSaid_ok hF mp_tabX0_ok [mp_i (.iload 4)] (by decide +kernel) ?_
            show mp_W E X 5 62 [(4, .int i_9), (3, .int z_1), (0, .ref a0), (1, .int x0), (2, .int x1)] [.int i_9] w1_ 0 0
            exact mp_iret hF hQ rfl rfl (Nat.le_of_ble_eq_true rfl) (Nat.le_of_ble_eq_true rfl) [0, 1, 2, 3] (w' := w1_) rfl rfl ⟨i_9, rfl, (by omega), u_11, rfl⟩ (by first | exact mp_fd_ok mp_k_cX0_lastSaid_ok (by decide +kernel) | decide +kernel)
    exact mp_sub [0, 1, 2, 3, 4] rfl [0, 1, 2, 3] rfl rfl (lp_12 _ z_5 (by omega) (by omega) (Int.self_le_toNat _))
  · have c_4 : x1.toInt < z_1.toInt := c_4
    show mp_W E X 5 15 [(3, .int z_1), (0, .ref a0), (1, .int x0), (2, .int x1)] [] w1_ 0 0
    refine mp_run mp_k_cX0_lastSaid_ok hF mp_tabX0_ok [mp_c (.iconst (-1)) (-1)] (by decide +kernel) ?_
    show mp_W E X 5 16 [(3, .int z_1), (0, .ref a0), (1, .int x0), (2, .int x1)] [.int (-1)] w1_ 0 0
    exact mp_iret hF hQ rfl rfl (Nat.le_of_ble_eq_true rfl) (Nat.le_of_ble_eq_true rfl) [0, 1, 2, 3] (w' := w1_) rfl rfl ⟨(-1), rfl, (by decide), (by decide), rfl⟩ (by first | exact mp_fd_ok mp_k_cX0_lastSaid_ok (by decide +kernel) | decide +kernel)
