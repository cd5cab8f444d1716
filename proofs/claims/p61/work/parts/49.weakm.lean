set_option maxHeartbeats 4000000 in
set_option maxRecDepth 100000 in
theorem bX10_undo_100 (E : mp_E) (a0 a1 a2 a3 a4 a5 a6 a7 a8 a9 a10 a11 a12 a13 a14 a15 a16 a17 a18 a19 a20 a21 a22 a23 a24 a25 : Nat) (f0 : Nat → Int32) (f1 : Nat → Int32) (f2 : Nat → Int32) (f3 : Nat → Int32) (y0 : Int32) (y1 : Int32) (y2 : Int32) (y3 : Int32) (y4 : Int32) (y5 : Int32) (y6 : Int64) (y7 : Int32) (y8 : Int32) (y9 : Int32) (y10 : Int32) (y11 : Int32) (y12 : Int32) (y13 : Int32) (y14 : Int32) (y15 : Int32) (y16 : Int32) (y17 : Int32) (y18 : Int32) (y19 : Int32) (y20 : Int32) (y21 : Int32) (p0 : mp_res f1 25 5 0 0 6) (p1 : mp_res f1 25 5 1 0 99) (p2 : mp_res f1 25 5 2 0 6) (p3 : mp_res f1 25 5 3 0 10) (p4 : mp_res f1 25 5 4 0 60) (p5 : mp_res f2 300 6 0 0 5) (p6 : mp_res f2 300 6 1 0 5) (p7 : mp_res f2 300 6 3 0 99) (p8 : mp_res f2 300 6 4 0 1) (p9 : mp_actm f3) (l_y1 : 0 ≤ y1.toInt) (u_y1 : y1.toInt ≤ 1600) (l_y2 : 0 ≤ y2.toInt) (u_y2 : y2.toInt ≤ 1600) (l_y3 : 0 ≤ y3.toInt) (u_y3 : y3.toInt ≤ 4) (l_y4 : 0 ≤ y4.toInt) (u_y4 : y4.toInt ≤ 1600) (l_y11 : 0 ≤ y11.toInt) (u_y11 : y11.toInt ≤ 99) (l_y12 : 0 ≤ y12.toInt) (u_y12 : y12.toInt ≤ 5) (l_y13 : 0 ≤ y13.toInt) (u_y13 : y13.toInt ≤ 12) (q0 : mp_prm f2 (f1 3).toInt) (q1 : (f1 1).toInt + mp_k200 f3 (f1 4).toInt ≤ 99) : mp_Ct E yX10_undo cX10_undo 1 (some FieldType.int) 1 0 0 20 [.ref a0] [(mp_ob10 a0 y0 a5 a6 a7 a8 a9 y1 y2 y3 y4 y5 y6 y7 y8 y9 y10 a1 a2 a10 a11 a12 a3 a4 a13 y11 a14 a15 a16 a17 y12 y13 y14 a18 a19 y15 y16 a20 a21 a22 y17 y18 y19 y20 a23 a24 a25 y21), (mp_arI E a1 0 5 f0), (mp_arI E a2 0 25 f1), (mp_arI E a3 0 300 f2), (mp_arI E a4 0 300 f3)] (fun v w' => (v = some (.int (-2)) ∧ (mp_prm f2 (f1 3).toInt) ∧ ((f1 1).toInt + mp_k200 f3 (f1 4).toInt ≤ 99) ∧ ((f0 0).toInt ≤ 0) ∧ w' = [(mp_ob10 a0 0 a5 a6 a7 a8 a9 y1 y2 y3 y4 y5 y6 y7 y8 y9 y10 a1 a2 a10 a11 a12 a3 a4 a13 y11 a14 a15 a16 a17 y12 y13 y14 a18 a19 y15 y16 a20 a21 a22 y17 y18 y19 y20 a23 a24 a25 y21), (mp_arI E a1 0 5 f0), (mp_arI E a2 0 25 f1), (mp_arI E a3 0 300 f2), (mp_arI E a4 0 300 f3)]) ∨ (∃ h1 : Nat → Int32, ∃ r2 : Int32, v = some (.int r2) ∧ 0 ≤ r2.toInt ∧ r2.toInt ≤ 60 ∧ mp_res h1 25 5 0 0 6 ∧ mp_res h1 25 5 1 0 99 ∧ mp_res h1 25 5 2 0 6 ∧ mp_res h1 25 5 3 0 10 ∧ mp_res h1 25 5 4 0 60 ∧ mp_keept h1 f1 5 ∧ (mp_prm f2 (h1 3).toInt) ∧ ((h1 1).toInt + mp_k200 f3 (h1 4).toInt ≤ 99) ∧ ((h1 0).toInt = (f1 0).toInt) ∧ ((h1 1).toInt = (f1 1).toInt) ∧ ((h1 2).toInt = (f1 2).toInt) ∧ ((h1 3).toInt = (f1 3).toInt) ∧ (0 < (f0 0).toInt) ∧ (0 < (f1 4).toInt) ∧ ((h1 4).toInt = (f1 4).toInt - 1) ∧ (r2.toInt = (h1 4).toInt) ∧ w' = [(mp_ob10 a0 0 a5 a6 a7 a8 a9 y1 y2 y3 y4 y5 y6 y7 y8 y9 y10 a1 a2 a10 a11 a12 a3 a4 a13 y11 a14 a15 a16 a17 y12 y13 y14 a18 a19 y15 y16 a20 a21 a22 y17 y18 y19 y20 a23 a24 a25 y21), (mp_arI E a1 0 5 f0), (mp_arI E a2 0 25 h1), (mp_arI E a3 0 300 f2), (mp_arI E a4 0 300 f3)]) ∨ (v = some (.int (-5)) ∧ (mp_prm f2 (f1 3).toInt) ∧ ((f1 1).toInt + mp_k200 f3 (f1 4).toInt ≤ 99) ∧ (0 < (f0 0).toInt) ∧ ((f1 4).toInt ≤ 0) ∧ w' = [(mp_ob10 a0 0 a5 a6 a7 a8 a9 y1 y2 y3 y4 y5 y6 y7 y8 y9 y10 a1 a2 a10 a11 a12 a3 a4 a13 y11 a14 a15 a16 a17 y12 y13 y14 a18 a19 y15 y16 a20 a21 a22 y17 y18 y19 y20 a23 a24 a25 y21), (mp_arI E a1 0 5 f0), (mp_arI E a2 0 25 f1), (mp_arI E a3 0 300 f2), (mp_arI E a4 0 300 f3)])) := by
  refine mp_met false (by decide) (by decide) (Nat.le_of_ble_eq_true rfl) (fun X hF hQ => ?_)
  have hF : mp_F E X (RX10, cX10_undo, 1, (1, 0, 0, 20), (some FieldType.int), false) := hF
  let w1_ : va_W := [(mp_ob10 a0 y0 a5 a6 a7 a8 a9 y1 y2 y3 y4 y5 y6 y7 y8 y9 y10 a1 a2 a10 a11 a12 a3 a4 a13 y11 a14 a15 a16 a17 y12 y13 y14 a18 a19 y15 y16 a20 a21 a22 y17 y18 y19 y20 a23 a24 a25 y21), (mp_arI E a1 0 5 f0), (mp_arI E a2 0 25 f1), (mp_arI E a3 0 300 f2), (mp_arI E a4 0 300 f3)]
  show mp_W E X 1 0 [(0, .ref a0)] [] w1_ 0 0
  refine mp_run mp_k_cX10_undo_ok hF mp_tabX10_ok [mp_i (.aload_n 0), mp_c (.iconst 0) 0, mp_h (.putfield 92) [0, 0]] (by decide +kernel) ?_
  refine And.intro rfl (And.intro rfl (And.intro rfl (And.intro rfl (And.intro (Nat.le_of_ble_eq_true rfl) ?_))))
  let w2_ : va_W := [(mp_ob10 a0 0 a5 a6 a7 a8 a9 y1 y2 y3 y4 y5 y6 y7 y8 y9 y10 a1 a2 a10 a11 a12 a3 a4 a13 y11 a14 a15 a16 a17 y12 y13 y14 a18 a19 y15 y16 a20 a21 a22 y17 y18 y19 y20 a23 a24 a25 y21), (mp_arI E a1 0 5 f0), (mp_arI E a2 0 25 f1), (mp_arI E a3 0 300 f2), (mp_arI E a4 0 300 f3)]
  show mp_W E X 1 5 [(0, .ref a0)] [] w2_ 0 0
  refine mp_run mp_k_cX10_undo_ok hF mp_tabX10_ok [mp_i (.aload_n 0)] (by decide +kernel) ?_
  show mp_W E X 1 6 [(0, .ref a0)] [.ref a0] w2_ 0 0
  refine mp_callV hF (As := []) (rest := []) (wr := [(mp_arI E a2 0 25 f1), (mp_arI E a3 0 300 f2), (mp_arI E a4 0 300 f3)]) (bX10_areIsles_81 E a0 a1 a5 a6 a7 a8 a9 a2 a10 a11 a12 a3 a4 a13 a14 a15 a16 a17 a18 a19 a20 a21 a22 a23 a24 a25 f0 0 y1 y2 y3 y4 y5 y6 y7 y8 y9 y10 y11 y12 y13 y14 y15 y16 y17 y18 y19 y20 y21 l_y1 u_y1 l_y2 u_y2 l_y3 u_y3 l_y4 u_y4 l_y11 u_y11 l_y12 u_y12 l_y13 u_y13) mp_lkX10_306 0 rfl [0, 1] [2, 3, 4] rfl rfl rfl rfl rfl ⟨(Nat.le_of_ble_eq_true rfl), (Nat.le_of_ble_eq_true rfl), (Nat.le_of_ble_eq_true rfl), (Nat.le_of_ble_eq_true rfl)⟩ (Nat.le_of_ble_eq_true rfl) (by first | exact mp_fd_ok mp_k_cX10_undo_ok (by decide +kernel) | decide +kernel) (fun v_1 w_2 h_3 => ?_)
  rcases h_3 with ⟨rfl, x_4, rfl⟩ | ⟨rfl, x_5, rfl⟩
  · skip
    let w3_ : va_W := [(mp_arI E a2 0 25 f1), (mp_arI E a3 0 300 f2), (mp_arI E a4 0 300 f3), (mp_ob10 a0 0 a5 a6 a7 a8 a9 y1 y2 y3 y4 y5 y6 y7 y8 y9 y10 a1 a2 a10 a11 a12 a3 a4 a13 y11 a14 a15 a16 a17 y12 y13 y14 a18 a19 y15 y16 a20 a21 a22 y17 y18 y19 y20 a23 a24 a25 y21), (mp_arI E a1 0 5 f0)]
    show mp_W E X 1 9 [(0, .ref a0)] [.int 0] w3_ 0 0
    refine mp_run mp_k_cX10_undo_ok hF mp_tabX10_ok [mp_h (.ifCond .ne 6) [15]] (by decide +kernel) ?_
    refine And.intro (fun c_6 => absurd c_6 (by decide)) (fun _ => ?_)
    show mp_W E X 1 12 [(0, .ref a0)] [] w3_ 0 0
    refine mp_run mp_k_cX10_undo_ok hF mp_tabX10_ok [mp_c (.bipush (-2)) (-2)] (by decide +kernel) ?_
    show mp_W E X 1 14 [(0, .ref a0)] [.int (-2)] w3_ 0 0
    exact mp_iret hF hQ rfl rfl (Nat.le_of_ble_eq_true rfl) (Nat.le_of_ble_eq_true rfl) [3, 4, 0, 1, 2] (w' := w2_) rfl rfl (Or.inl ⟨rfl, (by first | assumption | (rw [rfl]; assumption) | exact mp_prm_n (by assumption) (by omega)), (by first | (first | exact q1 | omega) | exact mp_tinv_le2 (by assumption) (by omega) (by omega) | exact mp_tinv_0 (by omega) (by omega)), (by first | (first | exact x_4 | omega) | decide | (have h8 : (0 : Int64).toInt = 0 := rfl; have h9 : (-1 : Int32).toInt = -1 := rfl; have h10 : (-2 : Int32).toInt = -2 := rfl; have h11 : (0 : Int32).toInt = 0 := rfl; have h12 : (1 : Int32).toInt = 1 := rfl; have h13 : (-5 : Int32).toInt = -5 := rfl; have h14 : (-3 : Int32).toInt = -3 := rfl; omega)), rfl⟩) (by first | exact mp_fd_ok mp_k_cX10_undo_ok (by decide +kernel) | decide +kernel)
  · skip
    let w4_ : va_W := [(mp_arI E a2 0 25 f1), (mp_arI E a3 0 300 f2), (mp_arI E a4 0 300 f3), (mp_ob10 a0 0 a5 a6 a7 a8 a9 y1 y2 y3 y4 y5 y6 y7 y8 y9 y10 a1 a2 a10 a11 a12 a3 a4 a13 y11 a14 a15 a16 a17 y12 y13 y14 a18 a19 y15 y16 a20 a21 a22 y17 y18 y19 y20 a23 a24 a25 y21), (mp_arI E a1 0 5 f0)]
    show mp_W E X 1 9 [(0, .ref a0)] [.int 1] w4_ 0 0
    refine mp_run mp_k_cX10_undo_ok hF mp_tabX10_ok [mp_h (.ifCond .ne 6) [15]] (by decide +kernel) ?_
    refine And.intro (fun _ => ?_) (fun c_7 => absurd c_7 (by decide))
    show mp_W E X 1 15 [(0, .ref a0)] [] w4_ 0 0
    refine mp_run mp_k_cX10_undo_ok hF mp_tabX10_ok [mp_i (.aload_n 0), mp_h (.getfield 34) [17, 3], mp_c (.iconst 4) 4, mp_h .iaload [0], mp_h (.ifCond .ne 6) [27]] (by decide +kernel) ?_
    refine And.intro rfl (And.intro rfl ?_)
    refine And.intro rfl (And.intro rfl (And.intro (vp_in_iff.mpr (by decide)) ?_))
    intro z_8 h_9
    have e_10 : 0 ≤ z_8.toInt ∧ z_8.toInt ≤ 60 := mp_res_ld h_9 p4 (by decide) (by decide) (by decide)
    have e_11 : z_8.toInt = (f1 4).toInt := congrArg Int32.toInt (mp_at h_9 (by decide) rfl)
    refine And.intro (fun c_12 => ?_) (fun c_12 => ?_)
    · have c_12 : z_8.toInt ≠ 0 := c_12
      show mp_W E X 1 27 [(0, .ref a0)] [] w4_ 0 0
      refine mp_run mp_k_cX10_undo_ok hF mp_tabX10_ok [mp_i (.aload_n 0), mp_h (.getfield 34) [17, 3], mp_c (.iconst 4) 4, mp_i .dup2, mp_h .iaload [0], mp_c (.iconst 1) 1, mp_i .isub, mp_h .iastore [0]] (by decide +kernel) ?_
      refine And.intro rfl (And.intro rfl ?_)
      refine And.intro rfl (And.intro rfl (And.intro (vp_in_iff.mpr (by decide)) ?_))
      intro z_13 h_14
      have k_15 : z_8 = z_13 := h_9.trans h_14.symm
      subst k_15
      intro z_16 h_17
      have e_18 : z_16.toInt = z_8.toInt - 1 := mp_subi (a := z_8.toInt) (b := 1) h_17 rfl (by decide) (by (first | exact mp_o934 e_10 | omega)) (by (first | exact mp_o935 e_10 | omega))
      refine And.intro rfl (And.intro rfl (And.intro (vp_in_iff.mpr (by decide)) ?_))
      intro g_19 h_20
      have p_21 : mp_res g_19 25 5 0 0 6 := mp_res_st h_20 p0 (by decide) (fun q => absurd q (by decide))
      have p_22 : mp_res g_19 25 5 1 0 99 := mp_res_st h_20 p1 (by decide) (fun q => absurd q (by decide))
      have p_23 : mp_res g_19 25 5 2 0 6 := mp_res_st h_20 p2 (by decide) (fun q => absurd q (by decide))
      have p_24 : mp_res g_19 25 5 3 0 10 := mp_res_st h_20 p3 (by decide) (fun q => absurd q (by decide))
      have p_25 : mp_res g_19 25 5 4 0 60 := mp_res_st h_20 p4 (by decide) (fun _ => by (first | exact mp_o1593 c_12 e_10 e_18 | omega))
      have p_26 : mp_keept g_19 f1 5 := mp_keept_st h_20 mp_keept_rfl (by decide)
      have e_27 : (g_19 0).toInt = (f1 0).toInt := mp_has_ne h_20 (by decide)
      have e_28 : (g_19 1).toInt = (f1 1).toInt := mp_has_ne h_20 (by decide)
      have e_29 : (g_19 2).toInt = (f1 2).toInt := mp_has_ne h_20 (by decide)
      have e_30 : (g_19 3).toInt = (f1 3).toInt := mp_has_ne h_20 (by decide)
      have e_31 : (g_19 4).toInt = z_16.toInt := mp_has_eq h_20 (by decide)
      have e_32 : (g_19 20).toInt = (f1 20).toInt := mp_has_ne h_20 (by decide)
      have e_33 : (g_19 21).toInt = (f1 21).toInt := mp_has_ne h_20 (by decide)
      have e_34 : (g_19 22).toInt = (f1 22).toInt := mp_has_ne h_20 (by decide)
      have e_35 : (g_19 23).toInt = (f1 23).toInt := mp_has_ne h_20 (by decide)
      have e_36 : (g_19 24).toInt = (f1 24).toInt := mp_has_ne h_20 (by decide)
      let w5_ : va_W := [(mp_arI E a2 0 25 g_19), (mp_arI E a3 0 300 f2), (mp_arI E a4 0 300 f3), (mp_ob10 a0 0 a5 a6 a7 a8 a9 y1 y2 y3 y4 y5 y6 y7 y8 y9 y10 a1 a2 a10 a11 a12 a3 a4 a13 y11 a14 a15 a16 a17 y12 y13 y14 a18 a19 y15 y16 a20 a21 a22 y17 y18 y19 y20 a23 a24 a25 y21), (mp_arI E a1 0 5 f0)]
      show mp_W E X 1 37 [(0, .ref a0)] [] w5_ 0 0
      refine mp_run mp_k_cX10_undo_ok hF mp_tabX10_ok [mp_i (.aload_n 0), mp_h (.getfield 34) [17, 3], mp_c (.iconst 4) 4, mp_h .iaload [0]] (by decide +kernel) ?_
      refine And.intro rfl (And.intro rfl ?_)
      refine And.intro rfl (And.intro rfl (And.intro (vp_in_iff.mpr (by decide)) ?_))
      intro z_37 h_38
      have e_39 : 0 ≤ z_37.toInt ∧ z_37.toInt ≤ 60 := mp_res_ld h_38 p_25 (by decide) (by decide) (by decide)
      have e_40 : z_37.toInt = (g_19 4).toInt := congrArg Int32.toInt (mp_at h_38 (by decide) rfl)
      show mp_W E X 1 43 [(0, .ref a0)] [.int z_37] w5_ 0 0
      exact mp_iret hF hQ rfl rfl (Nat.le_of_ble_eq_true rfl) (Nat.le_of_ble_eq_true rfl) [3, 4, 0, 1, 2] (w' := [(mp_ob10 a0 0 a5 a6 a7 a8 a9 y1 y2 y3 y4 y5 y6 y7 y8 y9 y10 a1 a2 a10 a11 a12 a3 a4 a13 y11 a14 a15 a16 a17 y12 y13 y14 a18 a19 y15 y16 a20 a21 a22 y17 y18 y19 y20 a23 a24 a25 y21), (mp_arI E a1 0 5 f0), (mp_arI E a2 0 25 g_19), (mp_arI E a3 0 300 f2), (mp_arI E a4 0 300 f3)]) rfl rfl (Or.inr (Or.inl ⟨g_19, z_37, rfl, e_39.1, e_39.2, p_21, p_22, p_23, p_24, p_25, p_26, (by first | assumption | (rw [rfl]; assumption) | exact mp_prm_n (by assumption) (by (first | exact mp_o1594 e_30 | omega))), (by first | fail | exact mp_tinv_le2 (by assumption) (by (first | exact e_28 | omega)) (by (first | exact mp_o1595 e_11 e_18 e_31 | omega)) | exact mp_tinv_0 (by omega) (by omega)), (by (first | exact e_27 | omega)), (by (first | exact e_28 | omega)), (by (first | exact e_29 | omega)), (by (first | exact e_30 | omega)), (by first | (first | exact x_5 | omega) | decide | (have h8 : (0 : Int64).toInt = 0 := rfl; have h9 : (-1 : Int32).toInt = -1 := rfl; have h10 : (-2 : Int32).toInt = -2 := rfl; have h11 : (0 : Int32).toInt = 0 := rfl; have h12 : (1 : Int32).toInt = 1 := rfl; have h13 : (-5 : Int32).toInt = -5 := rfl; have h14 : (-3 : Int32).toInt = -3 := rfl; omega)), (by first | (first | exact mp_o1596 e_11 e_18 e_31 e_40 e_39 | omega) | decide | (have h8 : (0 : Int64).toInt = 0 := rfl; have h9 : (-1 : Int32).toInt = -1 := rfl; have h10 : (-2 : Int32).toInt = -2 := rfl; have h11 : (0 : Int32).toInt = 0 := rfl; have h12 : (1 : Int32).toInt = 1 := rfl; have h13 : (-5 : Int32).toInt = -5 := rfl; have h14 : (-3 : Int32).toInt = -3 := rfl; omega)), (by first | (first | exact mp_o1597 e_11 e_18 e_31 | omega) | decide | (have h8 : (0 : Int64).toInt = 0 := rfl; have h9 : (-1 : Int32).toInt = -1 := rfl; have h10 : (-2 : Int32).toInt = -2 := rfl; have h11 : (0 : Int32).toInt = 0 := rfl; have h12 : (1 : Int32).toInt = 1 := rfl; have h13 : (-5 : Int32).toInt = -5 := rfl; have h14 : (-3 : Int32).toInt = -3 := rfl; omega)), (by first | (first | exact e_40 | omega) | decide | (have h8 : (0 : Int64).toInt = 0 := rfl; have h9 : (-1 : Int32).toInt = -1 := rfl; have h10 : (-2 : Int32).toInt = -2 := rfl; have h11 : (0 : Int32).toInt = 0 := rfl; have h12 : (1 : Int32).toInt = 1 := rfl; have h13 : (-5 : Int32).toInt = -5 := rfl; have h14 : (-3 : Int32).toInt = -3 := rfl; omega)), rfl⟩)) (by first | exact mp_fd_ok mp_k_cX10_undo_ok (by decide +kernel) | decide +kernel)
    · have c_12 : z_8.toInt = 0 := (congrArg Int32.toInt c_12)
      show mp_W E X 1 24 [(0, .ref a0)] [] w4_ 0 0
      refine mp_run mp_k_cX10_undo_ok hF mp_tabX10_ok [mp_c (.bipush (-5)) (-5)] (by decide +kernel) ?_
      show mp_W E X 1 26 [(0, .ref a0)] [.int (-5)] w4_ 0 0
      exact mp_iret hF hQ rfl rfl (Nat.le_of_ble_eq_true rfl) (Nat.le_of_ble_eq_true rfl) [3, 4, 0, 1, 2] (w' := w2_) rfl rfl (Or.inr (Or.inr ⟨rfl, (by first | assumption | (rw [rfl]; assumption) | exact mp_prm_n (by assumption) (by omega)), (by first | (first | exact q1 | omega) | exact mp_tinv_le2 (by assumption) (by omega) (by omega) | exact mp_tinv_0 (by omega) (by omega)), (by first | (first | exact x_5 | omega) | decide | (have h8 : (0 : Int64).toInt = 0 := rfl; have h9 : (-1 : Int32).toInt = -1 := rfl; have h10 : (-2 : Int32).toInt = -2 := rfl; have h11 : (0 : Int32).toInt = 0 := rfl; have h12 : (1 : Int32).toInt = 1 := rfl; have h13 : (-5 : Int32).toInt = -5 := rfl; have h14 : (-3 : Int32).toInt = -3 := rfl; omega)), (by first | (first | exact mp_o1598 c_12 e_11 | omega) | decide | (have h8 : (0 : Int64).toInt = 0 := rfl; have h9 : (-1 : Int32).toInt = -1 := rfl; have h10 : (-2 : Int32).toInt = -2 := rfl; have h11 : (0 : Int32).toInt = 0 := rfl; have h12 : (1 : Int32).toInt = 1 := rfl; have h13 : (-5 : Int32).toInt = -5 := rfl; have h14 : (-3 : Int32).toInt = -3 := rfl; omega)), rfl⟩)) (by first | exact mp_fd_ok mp_k_cX10_undo_ok (by decide +kernel) | decide +kernel)
set_option maxHeartbeats 4000000 in
set_option maxRecDepth 100000 in
theorem bX10_anew_101 (E : mp_E) (a0 a1 a2 a3 a4 a5 a6 a7 a8 a9 a10 a11 a12 a13 a14 a15 a16 a17 a18 a19 a20 a21 a22 a23 a24 a25 : Nat) (f0 : Nat → Int32) (f1 : Nat → Int32) (f2 : Nat → Int32) (f3 : Nat → Int32) (y0 : Int32) (y1 : Int32) (y2 : Int32) (y3 : Int32) (y4 : Int32) (y5 : Int32) (y6 : Int64) (y7 : Int32) (y8 : Int32) (y9 : Int32) (y10 : Int32) (y11 : Int32) (y12 : Int32) (y13 : Int32) (y14 : Int32) (y15 : Int32) (y16 : Int32) (y17 : Int32) (y18 : Int32) (y19 : Int32) (y20 : Int32) (y21 : Int32) (p0 : mp_res f1 25 5 0 0 6) (p1 : mp_res f1 25 5 1 0 99) (p2 : mp_res f1 25 5 2 0 6) (p3 : mp_res f1 25 5 3 0 10) (p4 : mp_res f1 25 5 4 0 60) (p5 : mp_res f2 300 6 0 0 5) (p6 : mp_res f2 300 6 1 0 5) (p7 : mp_res f2 300 6 3 0 99) (p8 : mp_res f2 300 6 4 0 1) (p9 : mp_actm f3) (l_y1 : 0 ≤ y1.toInt) (u_y1 : y1.toInt ≤ 1600) (l_y2 : 0 ≤ y2.toInt) (u_y2 : y2.toInt ≤ 1600) (l_y3 : 0 ≤ y3.toInt) (u_y3 : y3.toInt ≤ 4) (l_y4 : 0 ≤ y4.toInt) (u_y4 : y4.toInt ≤ 1600) (l_y11 : 0 ≤ y11.toInt) (u_y11 : y11.toInt ≤ 99) (l_y12 : 0 ≤ y12.toInt) (u_y12 : y12.toInt ≤ 5) (l_y13 : 0 ≤ y13.toInt) (u_y13 : y13.toInt ≤ 12) (q0 : mp_prm f2 (f1 3).toInt) (q1 : (f1 1).toInt + mp_k200 f3 (f1 4).toInt ≤ 99) : mp_Ct E yX10_anew cX10_anew 2 (some FieldType.int) 1 0 0 20 [.ref a0] [(mp_ob10 a0 y0 a5 a6 a7 a8 a9 y1 y2 y3 y4 y5 y6 y7 y8 y9 y10 a1 a2 a10 a11 a12 a3 a4 a13 y11 a14 a15 a16 a17 y12 y13 y14 a18 a19 y15 y16 a20 a21 a22 y17 y18 y19 y20 a23 a24 a25 y21), (mp_arI E a1 0 5 f0), (mp_arI E a2 0 25 f1), (mp_arI E a3 0 300 f2), (mp_arI E a4 0 300 f3)] (fun v w' => (v = some (.int (-2)) ∧ (mp_prm f2 (f1 3).toInt) ∧ ((f1 1).toInt + mp_k200 f3 (f1 4).toInt ≤ 99) ∧ ((f0 0).toInt ≤ 0) ∧ w' = [(mp_ob10 a0 0 a5 a6 a7 a8 a9 y1 y2 y3 y4 y5 y6 y7 y8 y9 y10 a1 a2 a10 a11 a12 a3 a4 a13 y11 a14 a15 a16 a17 y12 y13 y14 a18 a19 y15 y16 a20 a21 a22 y17 y18 y19 y20 a23 a24 a25 y21), (mp_arI E a1 0 5 f0), (mp_arI E a2 0 25 f1), (mp_arI E a3 0 300 f2), (mp_arI E a4 0 300 f3)]) ∨ (∃ h1 : Nat → Int32, ∃ r2 : Int32, v = some (.int r2) ∧ 0 ≤ r2.toInt ∧ r2.toInt ≤ 60 ∧ mp_res h1 25 5 0 0 6 ∧ mp_res h1 25 5 1 0 99 ∧ mp_res h1 25 5 2 0 6 ∧ mp_res h1 25 5 3 0 10 ∧ mp_res h1 25 5 4 0 60 ∧ mp_keept h1 f1 5 ∧ (mp_prm f2 (h1 3).toInt) ∧ ((h1 1).toInt + mp_k200 f3 (h1 4).toInt ≤ 99) ∧ ((h1 0).toInt = (f1 0).toInt) ∧ ((h1 1).toInt = (f1 1).toInt) ∧ ((h1 2).toInt = (f1 2).toInt) ∧ ((h1 3).toInt = (f1 3).toInt) ∧ (0 < (f0 0).toInt) ∧ ((h1 4).toInt = 0) ∧ (r2.toInt = (f1 4).toInt) ∧ w' = [(mp_ob10 a0 0 a5 a6 a7 a8 a9 y1 y2 y3 y4 y5 y6 y7 y8 y9 y10 a1 a2 a10 a11 a12 a3 a4 a13 y11 a14 a15 a16 a17 y12 y13 y14 a18 a19 y15 y16 a20 a21 a22 y17 y18 y19 y20 a23 a24 a25 y21), (mp_arI E a1 0 5 f0), (mp_arI E a2 0 25 h1), (mp_arI E a3 0 300 f2), (mp_arI E a4 0 300 f3)])) := by
  refine mp_met false (by decide) (by decide) (Nat.le_of_ble_eq_true rfl) (fun X hF hQ => ?_)
  have hF : mp_F E X (RX10, cX10_anew, 2, (1, 0, 0, 20), (some FieldType.int), false) := hF
  let w1_ : va_W := [(mp_ob10 a0 y0 a5 a6 a7 a8 a9 y1 y2 y3 y4 y5 y6 y7 y8 y9 y10 a1 a2 a10 a11 a12 a3 a4 a13 y11 a14 a15 a16 a17 y12 y13 y14 a18 a19 y15 y16 a20 a21 a22 y17 y18 y19 y20 a23 a24 a25 y21), (mp_arI E a1 0 5 f0), (mp_arI E a2 0 25 f1), (mp_arI E a3 0 300 f2), (mp_arI E a4 0 300 f3)]
  show mp_W E X 2 0 [(0, .ref a0)] [] w1_ 0 0
  refine mp_run mp_k_cX10_anew_ok hF mp_tabX10_ok [mp_i (.aload_n 0), mp_c (.iconst 0) 0, mp_h (.putfield 92) [0, 0]] (by decide +kernel) ?_
  refine And.intro rfl (And.intro rfl (And.intro rfl (And.intro rfl (And.intro (Nat.le_of_ble_eq_true rfl) ?_))))
  let w2_ : va_W := [(mp_ob10 a0 0 a5 a6 a7 a8 a9 y1 y2 y3 y4 y5 y6 y7 y8 y9 y10 a1 a2 a10 a11 a12 a3 a4 a13 y11 a14 a15 a16 a17 y12 y13 y14 a18 a19 y15 y16 a20 a21 a22 y17 y18 y19 y20 a23 a24 a25 y21), (mp_arI E a1 0 5 f0), (mp_arI E a2 0 25 f1), (mp_arI E a3 0 300 f2), (mp_arI E a4 0 300 f3)]
  show mp_W E X 2 5 [(0, .ref a0)] [] w2_ 0 0
  refine mp_run mp_k_cX10_anew_ok hF mp_tabX10_ok [mp_i (.aload_n 0)] (by decide +kernel) ?_
  show mp_W E X 2 6 [(0, .ref a0)] [.ref a0] w2_ 0 0
  refine mp_callV hF (As := []) (rest := []) (wr := [(mp_arI E a2 0 25 f1), (mp_arI E a3 0 300 f2), (mp_arI E a4 0 300 f3)]) (bX10_areIsles_81 E a0 a1 a5 a6 a7 a8 a9 a2 a10 a11 a12 a3 a4 a13 a14 a15 a16 a17 a18 a19 a20 a21 a22 a23 a24 a25 f0 0 y1 y2 y3 y4 y5 y6 y7 y8 y9 y10 y11 y12 y13 y14 y15 y16 y17 y18 y19 y20 y21 l_y1 u_y1 l_y2 u_y2 l_y3 u_y3 l_y4 u_y4 l_y11 u_y11 l_y12 u_y12 l_y13 u_y13) mp_lkX10_306 0 rfl [0, 1] [2, 3, 4] rfl rfl rfl rfl rfl ⟨(Nat.le_of_ble_eq_true rfl), (Nat.le_of_ble_eq_true rfl), (Nat.le_of_ble_eq_true rfl), (Nat.le_of_ble_eq_true rfl)⟩ (Nat.le_of_ble_eq_true rfl) (by first | exact mp_fd_ok mp_k_cX10_anew_ok (by decide +kernel) | decide +kernel) (fun v_1 w_2 h_3 => ?_)
  rcases h_3 with ⟨rfl, x_4, rfl⟩ | ⟨rfl, x_5, rfl⟩
  · skip
    let w3_ : va_W := [(mp_arI E a2 0 25 f1), (mp_arI E a3 0 300 f2), (mp_arI E a4 0 300 f3), (mp_ob10 a0 0 a5 a6 a7 a8 a9 y1 y2 y3 y4 y5 y6 y7 y8 y9 y10 a1 a2 a10 a11 a12 a3 a4 a13 y11 a14 a15 a16 a17 y12 y13 y14 a18 a19 y15 y16 a20 a21 a22 y17 y18 y19 y20 a23 a24 a25 y21), (mp_arI E a1 0 5 f0)]
    show mp_W E X 2 9 [(0, .ref a0)] [.int 0] w3_ 0 0
    refine mp_run mp_k_cX10_anew_ok hF mp_tabX10_ok [mp_h (.ifCond .ne 6) [15]] (by decide +kernel) ?_
    refine And.intro (fun c_6 => absurd c_6 (by decide)) (fun _ => ?_)
    show mp_W E X 2 12 [(0, .ref a0)] [] w3_ 0 0
    refine mp_run mp_k_cX10_anew_ok hF mp_tabX10_ok [mp_c (.bipush (-2)) (-2)] (by decide +kernel) ?_
    show mp_W E X 2 14 [(0, .ref a0)] [.int (-2)] w3_ 0 0
    exact mp_iret hF hQ rfl rfl (Nat.le_of_ble_eq_true rfl) (Nat.le_of_ble_eq_true rfl) [3, 4, 0, 1, 2] (w' := w2_) rfl rfl (Or.inl ⟨rfl, (by first | assumption | (rw [rfl]; assumption) | exact mp_prm_n (by assumption) (by omega)), (by first | (first | exact q1 | omega) | exact mp_tinv_le2 (by assumption) (by omega) (by omega) | exact mp_tinv_0 (by omega) (by omega)), (by first | (first | exact x_4 | omega) | decide | (have h8 : (0 : Int64).toInt = 0 := rfl; have h9 : (-1 : Int32).toInt = -1 := rfl; have h10 : (-2 : Int32).toInt = -2 := rfl; have h11 : (0 : Int32).toInt = 0 := rfl; have h12 : (1 : Int32).toInt = 1 := rfl; have h13 : (-5 : Int32).toInt = -5 := rfl; have h14 : (-3 : Int32).toInt = -3 := rfl; omega)), rfl⟩) (by first | exact mp_fd_ok mp_k_cX10_anew_ok (by decide +kernel) | decide +kernel)
  · skip
    let w4_ : va_W := [(mp_arI E a2 0 25 f1), (mp_arI E a3 0 300 f2), (mp_arI E a4 0 300 f3), (mp_ob10 a0 0 a5 a6 a7 a8 a9 y1 y2 y3 y4 y5 y6 y7 y8 y9 y10 a1 a2 a10 a11 a12 a3 a4 a13 y11 a14 a15 a16 a17 y12 y13 y14 a18 a19 y15 y16 a20 a21 a22 y17 y18 y19 y20 a23 a24 a25 y21), (mp_arI E a1 0 5 f0)]
    show mp_W E X 2 9 [(0, .ref a0)] [.int 1] w4_ 0 0
    refine mp_run mp_k_cX10_anew_ok hF mp_tabX10_ok [mp_h (.ifCond .ne 6) [15]] (by decide +kernel) ?_
    refine And.intro (fun _ => ?_) (fun c_7 => absurd c_7 (by decide))
    show mp_W E X 2 15 [(0, .ref a0)] [] w4_ 0 0
    refine mp_run mp_k_cX10_anew_ok hF mp_tabX10_ok [mp_i (.aload_n 0), mp_h (.getfield 34) [17, 3], mp_c (.iconst 4) 4, mp_h .iaload [0], mp_i (.istore_n 1), mp_i (.aload_n 0), mp_h (.getfield 34) [17, 3], mp_c (.iconst 4) 4, mp_c (.iconst 0) 0, mp_h .iastore [0]] (by decide +kernel) ?_
    refine And.intro rfl (And.intro rfl ?_)
    refine And.intro rfl (And.intro rfl (And.intro (vp_in_iff.mpr (by decide)) ?_))
    intro z_8 h_9
    have e_10 : 0 ≤ z_8.toInt ∧ z_8.toInt ≤ 60 := mp_res_ld h_9 p4 (by decide) (by decide) (by decide)
    have e_11 : z_8.toInt = (f1 4).toInt := congrArg Int32.toInt (mp_at h_9 (by decide) rfl)
    refine And.intro rfl (And.intro rfl ?_)
    refine And.intro rfl (And.intro rfl (And.intro (vp_in_iff.mpr (by decide)) ?_))
    intro g_12 h_13
    have p_14 : mp_res g_12 25 5 0 0 6 := mp_res_st h_13 p0 (by decide) (fun _ => by decide)
    have p_15 : mp_res g_12 25 5 1 0 99 := mp_res_st h_13 p1 (by decide) (fun _ => by decide)
    have p_16 : mp_res g_12 25 5 2 0 6 := mp_res_st h_13 p2 (by decide) (fun _ => by decide)
    have p_17 : mp_res g_12 25 5 3 0 10 := mp_res_st h_13 p3 (by decide) (fun _ => by decide)
    have p_18 : mp_res g_12 25 5 4 0 60 := mp_res_st h_13 p4 (by decide) (fun _ => by decide)
    have p_19 : mp_keept g_12 f1 5 := mp_keept_st h_13 mp_keept_rfl (by decide)
    have e_20 : (g_12 0).toInt = (f1 0).toInt := mp_has_ne h_13 (by decide)
    have e_21 : (g_12 1).toInt = (f1 1).toInt := mp_has_ne h_13 (by decide)
    have e_22 : (g_12 2).toInt = (f1 2).toInt := mp_has_ne h_13 (by decide)
    have e_23 : (g_12 3).toInt = (f1 3).toInt := mp_has_ne h_13 (by decide)
    have e_24 : (g_12 4).toInt = 0 := mp_has_eq h_13 (by decide)
    have e_25 : (g_12 20).toInt = (f1 20).toInt := mp_has_ne h_13 (by decide)
    have e_26 : (g_12 21).toInt = (f1 21).toInt := mp_has_ne h_13 (by decide)
    have e_27 : (g_12 22).toInt = (f1 22).toInt := mp_has_ne h_13 (by decide)
    have e_28 : (g_12 23).toInt = (f1 23).toInt := mp_has_ne h_13 (by decide)
    have e_29 : (g_12 24).toInt = (f1 24).toInt := mp_has_ne h_13 (by decide)
    let w5_ : va_W := [(mp_arI E a2 0 25 g_12), (mp_arI E a3 0 300 f2), (mp_arI E a4 0 300 f3), (mp_ob10 a0 0 a5 a6 a7 a8 a9 y1 y2 y3 y4 y5 y6 y7 y8 y9 y10 a1 a2 a10 a11 a12 a3 a4 a13 y11 a14 a15 a16 a17 y12 y13 y14 a18 a19 y15 y16 a20 a21 a22 y17 y18 y19 y20 a23 a24 a25 y21), (mp_arI E a1 0 5 f0)]
    show mp_W E X 2 29 [(1, .int z_8), (0, .ref a0)] [] w5_ 0 0
    refine mp_run mp_k_cX10_anew_ok hF mp_tabX10_ok [mp_i (.iload_n 1)] (by decide +kernel) ?_
    show mp_W E X 2 30 [(1, .int z_8), (0, .ref a0)] [.int z_8] w5_ 0 0
    exact mp_iret hF hQ rfl rfl (Nat.le_of_ble_eq_true rfl) (Nat.le_of_ble_eq_true rfl) [3, 4, 0, 1, 2] (w' := [(mp_ob10 a0 0 a5 a6 a7 a8 a9 y1 y2 y3 y4 y5 y6 y7 y8 y9 y10 a1 a2 a10 a11 a12 a3 a4 a13 y11 a14 a15 a16 a17 y12 y13 y14 a18 a19 y15 y16 a20 a21 a22 y17 y18 y19 y20 a23 a24 a25 y21), (mp_arI E a1 0 5 f0), (mp_arI E a2 0 25 g_12), (mp_arI E a3 0 300 f2), (mp_arI E a4 0 300 f3)]) rfl rfl (Or.inr ⟨g_12, z_8, rfl, e_10.1, e_10.2, p_14, p_15, p_16, p_17, p_18, p_19, (by first | assumption | (rw [rfl]; assumption) | exact mp_prm_n (by assumption) (by (first | exact mp_o1594 e_23 | omega))), (by first | fail | exact mp_tinv_le2 (by assumption) (by (first | exact e_21 | omega)) (by (first | exact mp_o1599 e_24 e_11 e_10 | omega)) | exact mp_tinv_0 (by omega) (by omega)), (by (first | exact e_20 | omega)), (by (first | exact e_21 | omega)), (by (first | exact e_22 | omega)), (by (first | exact e_23 | omega)), (by first | (first | exact x_5 | omega) | decide | (have h8 : (0 : Int64).toInt = 0 := rfl; have h9 : (-1 : Int32).toInt = -1 := rfl; have h10 : (-2 : Int32).toInt = -2 := rfl; have h11 : (0 : Int32).toInt = 0 := rfl; have h12 : (1 : Int32).toInt = 1 := rfl; have h13 : (-5 : Int32).toInt = -5 := rfl; have h14 : (-3 : Int32).toInt = -3 := rfl; omega)), (by first | (first | exact e_24 | omega) | decide | (have h8 : (0 : Int64).toInt = 0 := rfl; have h9 : (-1 : Int32).toInt = -1 := rfl; have h10 : (-2 : Int32).toInt = -2 := rfl; have h11 : (0 : Int32).toInt = 0 := rfl; have h12 : (1 : Int32).toInt = 1 := rfl; have h13 : (-5 : Int32).toInt = -5 := rfl; have h14 : (-3 : Int32).toInt = -3 := rfl; omega)), (by first | (first | exact e_11 | omega) | decide | (have h8 : (0 : Int64).toInt = 0 := rfl; have h9 : (-1 : Int32).toInt = -1 := rfl; have h10 : (-2 : Int32).toInt = -2 := rfl; have h11 : (0 : Int32).toInt = 0 := rfl; have h12 : (1 : Int32).toInt = 1 := rfl; have h13 : (-5 : Int32).toInt = -5 := rfl; have h14 : (-3 : Int32).toInt = -3 := rfl; omega)), rfl⟩) (by first | exact mp_fd_ok mp_k_cX10_anew_ok (by decide +kernel) | decide +kernel)
set_option maxHeartbeats 4000000 in
set_option maxRecDepth 100000 in
theorem bX10_act_102 (E : mp_E) (a0 a1 a2 a3 a4 a5 a6 a7 a8 a9 a10 a11 a12 a13 a14 a15 a16 a17 a18 a19 a20 a21 a22 a23 a24 a25 : Nat) (f0 : Nat → Int32) (f1 : Nat → Int32) (f2 : Nat → Int32) (y0 : Int32) (y1 : Int32) (y2 : Int32) (y3 : Int32) (y4 : Int32) (y5 : Int32) (y6 : Int64) (y7 : Int32) (y8 : Int32) (y9 : Int32) (y10 : Int32) (y11 : Int32) (y12 : Int32) (y13 : Int32) (y14 : Int32) (y15 : Int32) (y16 : Int32) (y17 : Int32) (y18 : Int32) (y19 : Int32) (y20 : Int32) (y21 : Int32) (x0 : Int32) (p0 : mp_res f1 25 5 0 0 6) (p1 : mp_res f1 25 5 1 0 99) (p2 : mp_res f1 25 5 2 0 6) (p3 : mp_res f1 25 5 3 0 10) (p4 : mp_res f1 25 5 4 0 60) (p5 : mp_actm f2) (l_y1 : 0 ≤ y1.toInt) (u_y1 : y1.toInt ≤ 1600) (l_y2 : 0 ≤ y2.toInt) (u_y2 : y2.toInt ≤ 1600) (l_y3 : 0 ≤ y3.toInt) (u_y3 : y3.toInt ≤ 4) (l_y4 : 0 ≤ y4.toInt) (u_y4 : y4.toInt ≤ 1600) (l_y11 : 0 ≤ y11.toInt) (u_y11 : y11.toInt ≤ 99) (l_y12 : 0 ≤ y12.toInt) (u_y12 : y12.toInt ≤ 5) (l_y13 : 0 ≤ y13.toInt) (u_y13 : y13.toInt ≤ 12) : mp_Ct E yX10_act cX10_act 2 (some FieldType.int) 1 0 0 25 [.ref a0, .int x0] [(mp_ob10 a0 y0 a4 a5 a6 a7 a8 y1 y2 y3 y4 y5 y6 y7 y8 y9 y10 a1 a2 a9 a10 a11 a12 a3 a13 y11 a14 a15 a16 a17 y12 y13 y14 a18 a19 y15 y16 a20 a21 a22 y17 y18 y19 y20 a23 a24 a25 y21), (mp_arI E a1 0 5 f0), (mp_arI E a2 0 25 f1), (mp_arI E a3 0 300 f2)] (fun v w' => ∃ r1 : Int32, v = some (.int r1) ∧ (-2) ≤ r1.toInt ∧ r1.toInt ≤ 200 ∧ (((f0 0).toInt ≤ 0 ∧ r1.toInt = -2) ∨ (0 < (f0 0).toInt ∧ (x0.toInt < 0 ∨ (f1 4).toInt ≤ x0.toInt) ∧ r1.toInt = -1) ∨ (0 < (f0 0).toInt ∧ (0 ≤ x0.toInt ∧ x0.toInt < (f1 4).toInt) ∧ r1.toInt = (f2 x0.toInt.toNat).toInt)) ∧ w' = [(mp_ob10 a0 0 a4 a5 a6 a7 a8 y1 y2 y3 y4 y5 y6 y7 y8 y9 y10 a1 a2 a9 a10 a11 a12 a3 a13 y11 a14 a15 a16 a17 y12 y13 y14 a18 a19 y15 y16 a20 a21 a22 y17 y18 y19 y20 a23 a24 a25 y21), (mp_arI E a1 0 5 f0), (mp_arI E a2 0 25 f1), (mp_arI E a3 0 300 f2)]) := by
  refine mp_met false (by decide) (by decide) (Nat.le_of_ble_eq_true rfl) (fun X hF hQ => ?_)
  have hF : mp_F E X (RX10, cX10_act, 2, (1, 0, 0, 25), (some FieldType.int), false) := hF
  let w1_ : va_W := [(mp_ob10 a0 y0 a4 a5 a6 a7 a8 y1 y2 y3 y4 y5 y6 y7 y8 y9 y10 a1 a2 a9 a10 a11 a12 a3 a13 y11 a14 a15 a16 a17 y12 y13 y14 a18 a19 y15 y16 a20 a21 a22 y17 y18 y19 y20 a23 a24 a25 y21), (mp_arI E a1 0 5 f0), (mp_arI E a2 0 25 f1), (mp_arI E a3 0 300 f2)]
  show mp_W E X 2 0 [(0, .ref a0), (1, .int x0)] [] w1_ 0 0
  refine mp_run mp_k_cX10_act_ok hF mp_tabX10_ok [mp_i (.aload_n 0), mp_c (.iconst 0) 0, mp_h (.putfield 92) [0, 0]] (by decide +kernel) ?_
  refine And.intro rfl (And.intro rfl (And.intro rfl (And.intro rfl (And.intro (Nat.le_of_ble_eq_true rfl) ?_))))
  let w2_ : va_W := [(mp_ob10 a0 0 a4 a5 a6 a7 a8 y1 y2 y3 y4 y5 y6 y7 y8 y9 y10 a1 a2 a9 a10 a11 a12 a3 a13 y11 a14 a15 a16 a17 y12 y13 y14 a18 a19 y15 y16 a20 a21 a22 y17 y18 y19 y20 a23 a24 a25 y21), (mp_arI E a1 0 5 f0), (mp_arI E a2 0 25 f1), (mp_arI E a3 0 300 f2)]
  show mp_W E X 2 5 [(0, .ref a0), (1, .int x0)] [] w2_ 0 0
  refine mp_run mp_k_cX10_act_ok hF mp_tabX10_ok [mp_i (.aload_n 0)] (by decide +kernel) ?_
  show mp_W E X 2 6 [(0, .ref a0), (1, .int x0)] [.ref a0] w2_ 0 0
  refine mp_callV hF (As := []) (rest := []) (wr := [(mp_arI E a2 0 25 f1), (mp_arI E a3 0 300 f2)]) (bX10_areIsles_81 E a0 a1 a4 a5 a6 a7 a8 a2 a9 a10 a11 a12 a3 a13 a14 a15 a16 a17 a18 a19 a20 a21 a22 a23 a24 a25 f0 0 y1 y2 y3 y4 y5 y6 y7 y8 y9 y10 y11 y12 y13 y14 y15 y16 y17 y18 y19 y20 y21 l_y1 u_y1 l_y2 u_y2 l_y3 u_y3 l_y4 u_y4 l_y11 u_y11 l_y12 u_y12 l_y13 u_y13) mp_lkX10_306 0 rfl [0, 1] [2, 3] rfl rfl rfl rfl rfl ⟨(Nat.le_of_ble_eq_true rfl), (Nat.le_of_ble_eq_true rfl), (Nat.le_of_ble_eq_true rfl), (Nat.le_of_ble_eq_true rfl)⟩ (Nat.le_of_ble_eq_true rfl) (by first | exact mp_fd_ok mp_k_cX10_act_ok (by decide +kernel) | decide +kernel) (fun v_1 w_2 h_3 => ?_)
  rcases h_3 with ⟨rfl, x_4, rfl⟩ | ⟨rfl, x_5, rfl⟩
  · skip
    let w3_ : va_W := [(mp_arI E a2 0 25 f1), (mp_arI E a3 0 300 f2), (mp_ob10 a0 0 a4 a5 a6 a7 a8 y1 y2 y3 y4 y5 y6 y7 y8 y9 y10 a1 a2 a9 a10 a11 a12 a3 a13 y11 a14 a15 a16 a17 y12 y13 y14 a18 a19 y15 y16 a20 a21 a22 y17 y18 y19 y20 a23 a24 a25 y21), (mp_arI E a1 0 5 f0)]
    show mp_W E X 2 9 [(0, .ref a0), (1, .int x0)] [.int 0] w3_ 0 0
    refine mp_run mp_k_cX10_act_ok hF mp_tabX10_ok [mp_h (.ifCond .ne 8) [17]] (by decide +kernel) ?_
    refine And.intro (fun c_6 => absurd c_6 (by decide)) (fun _ => ?_)
    show mp_W E X 2 12 [(0, .ref a0), (1, .int x0)] [] w3_ 0 0
    refine mp_run mp_k_cX10_act_ok hF mp_tabX10_ok [mp_c (.bipush (-2)) (-2), mp_h (.goto 31) [45]] (by decide +kernel) ?_
    show mp_W E X 2 45 [(0, .ref a0), (1, .int x0)] [.int (-2)] w3_ 0 0
    exact mp_iret hF hQ rfl rfl (Nat.le_of_ble_eq_true rfl) (Nat.le_of_ble_eq_true rfl) [2, 3, 0, 1] (w' := w2_) rfl rfl ⟨(-2), rfl, (by decide), (by decide), (by first | fail | decide | (have h8 : (0 : Int64).toInt = 0 := rfl; have h9 : (-1 : Int32).toInt = -1 := rfl; have h10 : (-2 : Int32).toInt = -2 := rfl; have h11 : (0 : Int32).toInt = 0 := rfl; have h12 : (1 : Int32).toInt = 1 := rfl; have h13 : (-5 : Int32).toInt = -5 := rfl; have h14 : (-3 : Int32).toInt = -3 := rfl; (first | exact mp_o1600 x_4 h10 | omega))), rfl⟩ (by first | exact mp_fd_ok mp_k_cX10_act_ok (by decide +kernel) | decide +kernel)
  · skip
    let w4_ : va_W := [(mp_arI E a2 0 25 f1), (mp_arI E a3 0 300 f2), (mp_ob10 a0 0 a4 a5 a6 a7 a8 y1 y2 y3 y4 y5 y6 y7 y8 y9 y10 a1 a2 a9 a10 a11 a12 a3 a13 y11 a14 a15 a16 a17 y12 y13 y14 a18 a19 y15 y16 a20 a21 a22 y17 y18 y19 y20 a23 a24 a25 y21), (mp_arI E a1 0 5 f0)]
    show mp_W E X 2 9 [(0, .ref a0), (1, .int x0)] [.int 1] w4_ 0 0
    refine mp_run mp_k_cX10_act_ok hF mp_tabX10_ok [mp_h (.ifCond .ne 8) [17]] (by decide +kernel) ?_
    refine And.intro (fun _ => ?_) (fun c_7 => absurd c_7 (by decide))
    show mp_W E X 2 17 [(0, .ref a0), (1, .int x0)] [] w4_ 0 0
    refine mp_run mp_k_cX10_act_ok hF mp_tabX10_ok [mp_i (.iload_n 1), mp_i .i2l, mp_cl (.lconst 0) 0, mp_i (.aload_n 0), mp_h (.getfield 34) [17, 2], mp_c (.iconst 4) 4, mp_h .iaload [0], mp_c (.iconst 1) 1, mp_i .isub, mp_i .i2l] (by decide +kernel) ?_
    intro z_8 h_9
    have e_10 : z_8.toInt = x0.toInt := mp_i2l h_9
    refine And.intro rfl (And.intro rfl ?_)
    refine And.intro rfl (And.intro rfl (And.intro (vp_in_iff.mpr (by decide)) ?_))
    intro z_11 h_12
    have e_13 : 0 ≤ z_11.toInt ∧ z_11.toInt ≤ 60 := mp_res_ld h_12 p4 (by decide) (by decide) (by decide)
    have e_14 : z_11.toInt = (f1 4).toInt := congrArg Int32.toInt (mp_at h_12 (by decide) rfl)
    intro z_15 h_16
    have e_17 : z_15.toInt = z_11.toInt - 1 := mp_subi (a := z_11.toInt) (b := 1) h_16 rfl (by decide) (by (first | exact mp_o934 e_13 | omega)) (by (first | exact mp_o935 e_13 | omega))
    intro z_18 h_19
    have e_20 : z_18.toInt = z_15.toInt := mp_i2l h_19
    show mp_W E X 2 29 [(0, .ref a0), (1, .int x0)] [.long z_18, .long 0, .long z_8] w4_ 0 0
    refine mp_callS hF (As := [.long z_8, .long 0, .long z_18]) (rest := []) (wr := w4_) (bX10_in_0 E z_8 0 z_18) mp_lkX10_97 [] [0, 1, 2, 3] rfl rfl rfl rfl rfl ⟨(Nat.le_of_ble_eq_true rfl), (Nat.le_of_ble_eq_true rfl), (Nat.le_of_ble_eq_true rfl), (Nat.le_of_ble_eq_true rfl)⟩ (Nat.le_of_ble_eq_true rfl) (by first | exact mp_fd_ok mp_k_cX10_act_ok (by decide +kernel) | decide +kernel) (fun v_21 w_22 h_23 => ?_)
    rcases h_23 with ⟨rfl, x_24, rfl⟩ | ⟨rfl, c_25, c_26, rfl⟩
    · skip
      have i_27 : (0 : Int64).toInt = 0 := by decide
      show mp_W E X 2 32 [(0, .ref a0), (1, .int x0)] [.int 0] w4_ 0 0
      refine mp_run mp_k_cX10_act_ok hF mp_tabX10_ok [mp_h (.ifCond .eq 12) [44]] (by decide +kernel) ?_
      refine And.intro (fun _ => ?_) (fun c_28 => absurd c_28 (by decide))
      show mp_W E X 2 44 [(0, .ref a0), (1, .int x0)] [] w4_ 0 0
      refine mp_run mp_k_cX10_act_ok hF mp_tabX10_ok [mp_c (.iconst (-1)) (-1)] (by decide +kernel) ?_
      show mp_W E X 2 45 [(0, .ref a0), (1, .int x0)] [.int (-1)] w4_ 0 0
      exact mp_iret hF hQ rfl rfl (Nat.le_of_ble_eq_true rfl) (Nat.le_of_ble_eq_true rfl) [2, 3, 0, 1] (w' := w2_) rfl rfl ⟨(-1), rfl, (by decide), (by decide), (by first | fail | decide | (have h8 : (0 : Int64).toInt = 0 := rfl; have h9 : (-1 : Int32).toInt = -1 := rfl; have h10 : (-2 : Int32).toInt = -2 := rfl; have h11 : (0 : Int32).toInt = 0 := rfl; have h12 : (1 : Int32).toInt = 1 := rfl; have h13 : (-5 : Int32).toInt = -5 := rfl; have h14 : (-3 : Int32).toInt = -3 := rfl; (first | exact mp_o1601 x_5 h9 i_27 e_10 x_24 e_14 e_17 e_20 | omega))), rfl⟩ (by first | exact mp_fd_ok mp_k_cX10_act_ok (by decide +kernel) | decide +kernel)
    · skip
      have c_25 : 0 ≤ z_8.toInt := c_25
      have c_26 : z_8.toInt ≤ z_18.toInt := c_26
      have i_29 : (0 : Int64).toInt = 0 := by decide
      show mp_W E X 2 32 [(0, .ref a0), (1, .int x0)] [.int 1] w4_ 0 0
      refine mp_run mp_k_cX10_act_ok hF mp_tabX10_ok [mp_h (.ifCond .eq 12) [44]] (by decide +kernel) ?_
      refine And.intro (fun c_30 => absurd c_30 (by decide)) (fun _ => ?_)
      show mp_W E X 2 35 [(0, .ref a0), (1, .int x0)] [] w4_ 0 0
      refine mp_run mp_k_cX10_act_ok hF mp_tabX10_ok [mp_i (.aload_n 0), mp_h (.getfield 50) [22, 2], mp_i (.iload_n 1), mp_h .iaload [1], mp_h (.goto 4) [45]] (by decide +kernel) ?_
      refine And.intro rfl (And.intro rfl ?_)
      refine And.intro rfl (And.intro rfl (And.intro (vp_in_iff.mpr (by (first | exact mp_o1602 c_25 e_10 c_26 e_20 e_17 e_13 | omega))) ?_))
      intro z_31 h_32
      have e_33 := mp_actm_ld h_32 p5 (by (first | exact mp_o921 c_25 e_10 | omega)) (by (first | exact mp_o1603 e_10 c_26 e_20 e_17 e_13 | omega))
      have e_34 : z_31.toInt = (f2 x0.toInt.toNat).toInt := congrArg Int32.toInt h_32
      show mp_W E X 2 45 [(0, .ref a0), (1, .int x0)] [.int z_31] w4_ 0 0
      exact mp_iret hF hQ rfl rfl (Nat.le_of_ble_eq_true rfl) (Nat.le_of_ble_eq_true rfl) [2, 3, 0, 1] (w' := w2_) rfl rfl ⟨z_31, rfl, (by (first | exact mp_o517 e_33 | omega)), (by (first | exact mp_o341 e_33 | omega)), (by first | (first | exact mp_o1604 x_5 e_34 c_25 e_10 e_14 e_17 e_20 c_26 | omega) | decide | (have h8 : (0 : Int64).toInt = 0 := rfl; have h9 : (-1 : Int32).toInt = -1 := rfl; have h10 : (-2 : Int32).toInt = -2 := rfl; have h11 : (0 : Int32).toInt = 0 := rfl; have h12 : (1 : Int32).toInt = 1 := rfl; have h13 : (-5 : Int32).toInt = -5 := rfl; have h14 : (-3 : Int32).toInt = -3 := rfl; omega)), rfl⟩ (by first | exact mp_fd_ok mp_k_cX10_act_ok (by decide +kernel) | decide +kernel)
set_option maxHeartbeats 4000000 in
set_option maxRecDepth 100000 in
theorem bX10_can_103 (E : mp_E) (a0 a1 a2 a3 a4 a5 a6 a7 a8 a9 a10 a11 a12 a13 a14 a15 a16 a17 a18 a19 a20 a21 a22 a23 a24 a25 : Nat) (f0 : Nat → Int32) (f1 : Nat → Int32) (f2 : Nat → Int32) (f3 : Nat → Int32) (f4 : Nat → Int32) (f5 : Nat → Int32) (f6 : Nat → Int32) (f7 : Nat → Int32) (f8 : Nat → Int32) (f9 : Nat → Int32) (y0 : Int32) (y1 : Int32) (y2 : Int32) (y3 : Int32) (y4 : Int32) (y5 : Int32) (y6 : Int64) (y7 : Int32) (y8 : Int32) (y9 : Int32) (y10 : Int32) (y11 : Int32) (y12 : Int32) (y13 : Int32) (y14 : Int32) (y15 : Int32) (y16 : Int32) (y17 : Int32) (y18 : Int32) (y19 : Int32) (y20 : Int32) (y21 : Int32) (p0 : mp_res f1 25 5 0 0 6) (p1 : mp_res f1 25 5 1 0 99) (p2 : mp_res f1 25 5 2 0 6) (p3 : mp_res f1 25 5 3 0 10) (p4 : mp_res f1 25 5 4 0 60) (p5 : mp_all f2 180 0 20) (p6 : mp_res f3 90 3 0 0 5) (p7 : mp_res f3 90 3 1 (-1) 99) (p8 : mp_res f4 300 6 0 0 5) (p9 : mp_res f4 300 6 1 0 5) (p10 : mp_res f4 300 6 3 0 99) (p11 : mp_res f4 300 6 4 0 1) (p12 : mp_actm f5) (p13 : mp_all f6 6 0 5) (l_y1 : 0 ≤ y1.toInt) (u_y1 : y1.toInt ≤ 1600) (l_y2 : 0 ≤ y2.toInt) (u_y2 : y2.toInt ≤ 1600) (l_y3 : 0 ≤ y3.toInt) (u_y3 : y3.toInt ≤ 4) (l_y4 : 0 ≤ y4.toInt) (u_y4 : y4.toInt ≤ 1600) (l_y11 : 0 ≤ y11.toInt) (u_y11 : y11.toInt ≤ 99) (l_y12 : 0 ≤ y12.toInt) (u_y12 : y12.toInt ≤ 5) (l_y13 : 0 ≤ y13.toInt) (u_y13 : y13.toInt ≤ 12) (q0 : (f1 1).toInt + mp_k200 f5 (f1 4).toInt ≤ 99) (q1 : mp_wfM f4 ((f1 3).toInt) ((f1 2).toInt)) : mp_Ct E yX10_can cX10_can 3 (some FieldType.int) 2 0 0 43 [.ref a0] [(mp_ob10 a0 y0 a11 a12 a13 a14 a15 y1 y2 y3 y4 y5 y6 y7 y8 y9 y10 a1 a2 a3 a16 a4 a5 a6 a17 y11 a7 a8 a9 a10 y12 y13 y14 a18 a19 y15 y16 a20 a21 a22 y17 y18 y19 y20 a23 a24 a25 y21), (mp_arI E a1 0 5 f0), (mp_arI E a2 0 25 f1), (mp_arI E a3 0 180 f2), (mp_arI E a4 0 90 f3), (mp_arI E a5 0 300 f4), (mp_arI E a6 0 300 f5), (mp_arI E a7 0 6 f6), (mp_arI E a8 0 6 f7), (mp_arI E a9 0 6 f8), (mp_arI E a10 3 1500 f9)] (fun v w' => ∃ r1 : Int32, ∃ h2 : Nat → Int32, ∃ h3 : Nat → Int32, ∃ h4 : Nat → Int32, ∃ h5 : Nat → Int32, ∃ r6 : Int32, v = some (.int r6) ∧ 0 ≤ r1.toInt ∧ r1.toInt ≤ 99 ∧ (-2) ≤ r6.toInt ∧ r6.toInt ≤ 1023 ∧ mp_all h2 6 0 5 ∧ (((f0 0).toInt ≤ 0 ∧ r6.toInt = -2) ∨ (0 < (f0 0).toInt ∧ r6.toInt = (mp_bf (fun k : Nat => decide ((mp_cs f2 (fun p => f3 (3 * p)) f5 ((f1 1).toInt) (f4 (6 * k + 0)).toInt.toNat ((f1 4).toInt).toNat).1.toInt = (mp_cs f2 (fun p => f3 (3 * p)) f5 ((f1 1).toInt) (f4 (6 * k + 1)).toInt.toNat ((f1 4).toInt).toNat).1.toInt ∧ ¬ mp_deadx (f3 (3 * (f4 (6 * k + 0)).toInt.toNat + 1)).toInt ((f1 1).toInt + mp_k200 f5 (f1 4).toInt) ∧ ¬ mp_deadx (f3 (3 * (f4 (6 * k + 1)).toInt.toNat + 1)).toInt ((f1 1).toInt + mp_k200 f5 (f1 4).toInt))) ((f1 3).toInt).toNat).toInt)) ∧ w' = [(mp_ob10 a0 0 a11 a12 a13 a14 a15 y1 y2 y3 y4 y5 y6 y7 y8 y9 y10 a1 a2 a3 a16 a4 a5 a6 a17 r1 a7 a8 a9 a10 y12 y13 y14 a18 a19 y15 y16 a20 a21 a22 y17 y18 y19 y20 a23 a24 a25 y21), (mp_arI E a1 0 5 f0), (mp_arI E a2 0 25 f1), (mp_arI E a3 0 180 f2), (mp_arI E a4 0 90 f3), (mp_arI E a5 0 300 f4), (mp_arI E a6 0 300 f5), (mp_arI E a7 0 6 h2), (mp_arI E a8 0 6 h3), (mp_arI E a9 0 6 h4), (mp_arI E a10 3 1500 h5)]) := by
  refine mp_met false (by decide) (by decide) (Nat.le_of_ble_eq_true rfl) (fun X hF hQ => ?_)
  have hF : mp_F E X (RX10, cX10_can, 3, (2, 0, 0, 43), (some FieldType.int), false) := hF
  let w1_ : va_W := [(mp_ob10 a0 y0 a11 a12 a13 a14 a15 y1 y2 y3 y4 y5 y6 y7 y8 y9 y10 a1 a2 a3 a16 a4 a5 a6 a17 y11 a7 a8 a9 a10 y12 y13 y14 a18 a19 y15 y16 a20 a21 a22 y17 y18 y19 y20 a23 a24 a25 y21), (mp_arI E a1 0 5 f0), (mp_arI E a2 0 25 f1), (mp_arI E a3 0 180 f2), (mp_arI E a4 0 90 f3), (mp_arI E a5 0 300 f4), (mp_arI E a6 0 300 f5), (mp_arI E a7 0 6 f6), (mp_arI E a8 0 6 f7), (mp_arI E a9 0 6 f8), (mp_arI E a10 3 1500 f9)]
  show mp_W E X 3 0 [(0, .ref a0)] [] w1_ 0 0
  refine mp_run mp_k_cX10_can_ok hF mp_tabX10_ok [mp_i (.aload_n 0), mp_c (.iconst 0) 0, mp_h (.putfield 92) [0, 0]] (by decide +kernel) ?_
  refine And.intro rfl (And.intro rfl (And.intro rfl (And.intro rfl (And.intro (Nat.le_of_ble_eq_true rfl) ?_))))
  let w2_ : va_W := [(mp_ob10 a0 0 a11 a12 a13 a14 a15 y1 y2 y3 y4 y5 y6 y7 y8 y9 y10 a1 a2 a3 a16 a4 a5 a6 a17 y11 a7 a8 a9 a10 y12 y13 y14 a18 a19 y15 y16 a20 a21 a22 y17 y18 y19 y20 a23 a24 a25 y21), (mp_arI E a1 0 5 f0), (mp_arI E a2 0 25 f1), (mp_arI E a3 0 180 f2), (mp_arI E a4 0 90 f3), (mp_arI E a5 0 300 f4), (mp_arI E a6 0 300 f5), (mp_arI E a7 0 6 f6), (mp_arI E a8 0 6 f7), (mp_arI E a9 0 6 f8), (mp_arI E a10 3 1500 f9)]
  show mp_W E X 3 5 [(0, .ref a0)] [] w2_ 0 0
  refine mp_run mp_k_cX10_can_ok hF mp_tabX10_ok [mp_i (.aload_n 0)] (by decide +kernel) ?_
  show mp_W E X 3 6 [(0, .ref a0)] [.ref a0] w2_ 0 0
  refine mp_callV hF (As := []) (rest := []) (wr := [(mp_arI E a2 0 25 f1), (mp_arI E a3 0 180 f2), (mp_arI E a4 0 90 f3), (mp_arI E a5 0 300 f4), (mp_arI E a6 0 300 f5), (mp_arI E a7 0 6 f6), (mp_arI E a8 0 6 f7), (mp_arI E a9 0 6 f8), (mp_arI E a10 3 1500 f9)]) (bX10_areIsles_81 E a0 a1 a11 a12 a13 a14 a15 a2 a3 a16 a4 a5 a6 a17 a7 a8 a9 a10 a18 a19 a20 a21 a22 a23 a24 a25 f0 0 y1 y2 y3 y4 y5 y6 y7 y8 y9 y10 y11 y12 y13 y14 y15 y16 y17 y18 y19 y20 y21 l_y1 u_y1 l_y2 u_y2 l_y3 u_y3 l_y4 u_y4 l_y11 u_y11 l_y12 u_y12 l_y13 u_y13) mp_lkX10_306 0 rfl [0, 1] [2, 3, 4, 5, 6, 7, 8, 9, 10] rfl rfl rfl rfl rfl ⟨(Nat.le_of_ble_eq_true rfl), (Nat.le_of_ble_eq_true rfl), (Nat.le_of_ble_eq_true rfl), (Nat.le_of_ble_eq_true rfl)⟩ (Nat.le_of_ble_eq_true rfl) (by first | exact mp_fd_ok mp_k_cX10_can_ok (by decide +kernel) | decide +kernel) (fun v_1 w_2 h_3 => ?_)
  rcases h_3 with ⟨rfl, x_4, rfl⟩ | ⟨rfl, x_5, rfl⟩
  · skip
    let w3_ : va_W := [(mp_arI E a2 0 25 f1), (mp_arI E a3 0 180 f2), (mp_arI E a4 0 90 f3), (mp_arI E a5 0 300 f4), (mp_arI E a6 0 300 f5), (mp_arI E a7 0 6 f6), (mp_arI E a8 0 6 f7), (mp_arI E a9 0 6 f8), (mp_arI E a10 3 1500 f9), (mp_ob10 a0 0 a11 a12 a13 a14 a15 y1 y2 y3 y4 y5 y6 y7 y8 y9 y10 a1 a2 a3 a16 a4 a5 a6 a17 y11 a7 a8 a9 a10 y12 y13 y14 a18 a19 y15 y16 a20 a21 a22 y17 y18 y19 y20 a23 a24 a25 y21), (mp_arI E a1 0 5 f0)]
    show mp_W E X 3 9 [(0, .ref a0)] [.int 0] w3_ 0 0
    refine mp_run mp_k_cX10_can_ok hF mp_tabX10_ok [mp_h (.ifCond .ne 6) [15]] (by decide +kernel) ?_
    refine And.intro (fun c_6 => absurd c_6 (by decide)) (fun _ => ?_)
    show mp_W E X 3 12 [(0, .ref a0)] [] w3_ 0 0
    refine mp_run mp_k_cX10_can_ok hF mp_tabX10_ok [mp_c (.bipush (-2)) (-2)] (by decide +kernel) ?_
    show mp_W E X 3 14 [(0, .ref a0)] [.int (-2)] w3_ 0 0
    exact mp_iret hF hQ rfl rfl (Nat.le_of_ble_eq_true rfl) (Nat.le_of_ble_eq_true rfl) [9, 10, 0, 1, 2, 3, 4, 5, 6, 7, 8] (w' := w2_) rfl rfl ⟨y11, f6, f7, f8, f9, (-2), rfl, l_y11, u_y11, (by decide), (by decide), p13, (by first | fail | decide | (have h8 : (0 : Int64).toInt = 0 := rfl; have h9 : (-1 : Int32).toInt = -1 := rfl; have h10 : (-2 : Int32).toInt = -2 := rfl; have h11 : (0 : Int32).toInt = 0 := rfl; have h12 : (1 : Int32).toInt = 1 := rfl; have h13 : (-5 : Int32).toInt = -5 := rfl; have h14 : (-3 : Int32).toInt = -3 := rfl; (first | exact mp_o1605 x_4 h10 | omega))), rfl⟩ (by first | exact mp_fd_ok mp_k_cX10_can_ok (by decide +kernel) | decide +kernel)
  · skip
    let w4_ : va_W := [(mp_arI E a2 0 25 f1), (mp_arI E a3 0 180 f2), (mp_arI E a4 0 90 f3), (mp_arI E a5 0 300 f4), (mp_arI E a6 0 300 f5), (mp_arI E a7 0 6 f6), (mp_arI E a8 0 6 f7), (mp_arI E a9 0 6 f8), (mp_arI E a10 3 1500 f9), (mp_ob10 a0 0 a11 a12 a13 a14 a15 y1 y2 y3 y4 y5 y6 y7 y8 y9 y10 a1 a2 a3 a16 a4 a5 a6 a17 y11 a7 a8 a9 a10 y12 y13 y14 a18 a19 y15 y16 a20 a21 a22 y17 y18 y19 y20 a23 a24 a25 y21), (mp_arI E a1 0 5 f0)]
    show mp_W E X 3 9 [(0, .ref a0)] [.int 1] w4_ 0 0
    refine mp_run mp_k_cX10_can_ok hF mp_tabX10_ok [mp_h (.ifCond .ne 6) [15]] (by decide +kernel) ?_
    refine And.intro (fun _ => ?_) (fun c_7 => absurd c_7 (by decide))
    show mp_W E X 3 15 [(0, .ref a0)] [] w4_ 0 0
    refine mp_run mp_k_cX10_can_ok hF mp_tabX10_ok [mp_i (.aload_n 0)] (by decide +kernel) ?_
    show mp_W E X 3 16 [(0, .ref a0)] [.ref a0] w4_ 0 0
    refine mp_callV hF (As := []) (rest := []) (wr := [(mp_arI E a5 0 300 f4), (mp_arI E a1 0 5 f0)]) (bX10_lays_62 E a0 a2 a3 a4 a6 a7 a8 a9 a10 a11 a12 a13 a14 a15 a1 a16 a5 a17 a18 a19 a20 a21 a22 a23 a24 a25 f1 f2 f3 f5 f6 f7 f8 f9 0 y1 y2 y3 y4 y5 y6 y7 y8 y9 y10 y11 y12 y13 y14 y15 y16 y17 y18 y19 y20 y21 p0 p1 p2 p3 p4 p5 p6 p7 p12 p13 l_y1 u_y1 l_y2 u_y2 l_y3 u_y3 l_y4 u_y4 l_y11 u_y11 l_y12 u_y12 l_y13 u_y13 (by (first | exact q0 | omega))) mp_lkX10_288 9 rfl [9, 0, 1, 2, 4, 5, 6, 7, 8] [3, 10] rfl rfl rfl rfl rfl ⟨(Nat.le_of_ble_eq_true rfl), (Nat.le_of_ble_eq_true rfl), (Nat.le_of_ble_eq_true rfl), (Nat.le_of_ble_eq_true rfl)⟩ (Nat.le_of_ble_eq_true rfl) (by first | exact mp_fd_ok mp_k_cX10_can_ok (by decide +kernel) | decide +kernel) (fun v_8 w_9 h_10 => ?_)
    refine h_10.elim fun r_11 q_21 => q_21.elim fun g_12 q_22 => q_22.elim fun g_13 q_23 => q_23.elim fun g_14 q_24 => q_24.elim fun g_15 q_25 => q_25.elim fun e_26 q_27 => q_27.elim fun l_16 q_28 => q_28.elim fun u_17 q_29 => q_29.elim fun p_18 q_30 => q_30.elim fun x_19 q_31 => q_31.elim fun x_20 e_32 => ?_
    clear h_10 q_21 q_22 q_23 q_24 q_25 q_27 q_28 q_29 q_30 q_31
    subst e_26
    subst e_32
    let w5_ : va_W := [(mp_arI E a5 0 300 f4), (mp_arI E a1 0 5 f0), (mp_ob10 a0 0 a11 a12 a13 a14 a15 y1 y2 y3 y4 y5 y6 y7 y8 y9 y10 a1 a2 a3 a16 a4 a5 a6 a17 r_11 a7 a8 a9 a10 y12 y13 y14 a18 a19 y15 y16 a20 a21 a22 y17 y18 y19 y20 a23 a24 a25 y21), (mp_arI E a2 0 25 f1), (mp_arI E a3 0 180 f2), (mp_arI E a4 0 90 f3), (mp_arI E a6 0 300 f5), (mp_arI E a7 0 6 g_12), (mp_arI E a8 0 6 g_13), (mp_arI E a9 0 6 g_14), (mp_arI E a10 3 1500 g_15)]
    show mp_W E X 3 19 [(0, .ref a0)] [] w5_ 0 0
    refine mp_run mp_k_cX10_can_ok hF mp_tabX10_ok [mp_c (.iconst 0) 0, mp_i (.istore_n 1), mp_c (.iconst 0) 0, mp_i (.istore_n 2)] (by decide +kernel) ?_
    show mp_W E X 3 23 [(2, .int 0), (1, .int 0), (0, .ref a0)] [] w5_ 0 0
    have lp_42 : ∀ (d_43 : Nat) (i_33 : Int32) (i_34 : Int32), 0 ≤ i_33.toInt → i_33.toInt ≤ 10 → 0 ≤ i_34.toInt → i_34.toInt ≤ 1023 → (i_34 = mp_bf (fun k : Nat => decide ((mp_cs f2 (fun p => f3 (3 * p)) f5 ((f1 1).toInt) (f4 (6 * k + 0)).toInt.toNat ((f1 4).toInt).toNat).1.toInt = (mp_cs f2 (fun p => f3 (3 * p)) f5 ((f1 1).toInt) (f4 (6 * k + 1)).toInt.toNat ((f1 4).toInt).toNat).1.toInt ∧ ¬ mp_deadx (f3 (3 * (f4 (6 * k + 0)).toInt.toNat + 1)).toInt ((f1 1).toInt + mp_k200 f5 (f1 4).toInt) ∧ ¬ mp_deadx (f3 (3 * (f4 (6 * k + 1)).toInt.toNat + 1)).toInt ((f1 1).toInt + mp_k200 f5 (f1 4).toInt))) i_33.toInt.toNat) → (0 ≤ i_33.toInt) → (i_33.toInt = 0 ∨ i_33.toInt ≤ (f1 3).toInt) → (f1 3).toInt - i_33.toInt ≤ (d_43 : Int) → mp_W E X 3 23 [(2, .int i_33), (1, .int i_34), (0, .ref a0)] [] [(mp_arI E a5 0 300 f4), (mp_arI E a1 0 5 f0), (mp_ob10 a0 0 a11 a12 a13 a14 a15 y1 y2 y3 y4 y5 y6 y7 y8 y9 y10 a1 a2 a3 a16 a4 a5 a6 a17 r_11 a7 a8 a9 a10 y12 y13 y14 a18 a19 y15 y16 a20 a21 a22 y17 y18 y19 y20 a23 a24 a25 y21), (mp_arI E a2 0 25 f1), (mp_arI E a3 0 180 f2), (mp_arI E a4 0 90 f3), (mp_arI E a6 0 300 f5), (mp_arI E a7 0 6 g_12), (mp_arI E a8 0 6 g_13), (mp_arI E a9 0 6 g_14), (mp_arI E a10 3 1500 g_15)] 0 0 := by
      intro d_43
      induction d_43 using Nat.strongRecOn with
      | ind d_43 ih_44 =>
        intro i_33 i_34 l_35 u_36 l_37 u_38 x_39 x_40 x_41 hm_45
        refine mp_run mp_k_cX10_can_ok hF mp_tabX10_ok [mp_i (.iload_n 2), mp_i (.aload_n 0), mp_h (.getfield 34) [17, 2], mp_c (.iconst 3) 3, mp_h .iaload [3], mp_h (.if_icmp .ge 27) [57]] (by decide +kernel) ?_
        refine And.intro rfl (And.intro rfl ?_)
        refine And.intro rfl (And.intro rfl (And.intro (vp_in_iff.mpr (by decide)) ?_))
        intro z_46 h_47
        have e_48 : 0 ≤ z_46.toInt ∧ z_46.toInt ≤ 10 := mp_res_ld h_47 p3 (by decide) (by decide) (by decide)
        have e_49 : z_46.toInt = (f1 3).toInt := congrArg Int32.toInt (mp_at h_47 (by decide) rfl)
        refine And.intro (fun c_50 => ?_) (fun c_50 => ?_)
        · have c_50 : z_46.toInt ≤ i_33.toInt := c_50
          show mp_W E X 3 57 [(2, .int i_33), (1, .int i_34), (0, .ref a0)] [] w5_ 0 0
          refine mp_run mp_k_cX10_can_ok hF mp_tabX10_ok [mp_i (.iload_n 1)] (by decide +kernel) ?_
          show mp_W E X 3 58 [(2, .int i_33), (1, .int i_34), (0, .ref a0)] [.int i_34] w5_ 0 0
          exact mp_iret hF hQ rfl rfl (Nat.le_of_ble_eq_true rfl) (Nat.le_of_ble_eq_true rfl) [2, 1, 3, 4, 5, 0, 6, 7, 8, 9, 10] (w' := [(mp_ob10 a0 0 a11 a12 a13 a14 a15 y1 y2 y3 y4 y5 y6 y7 y8 y9 y10 a1 a2 a3 a16 a4 a5 a6 a17 r_11 a7 a8 a9 a10 y12 y13 y14 a18 a19 y15 y16 a20 a21 a22 y17 y18 y19 y20 a23 a24 a25 y21), (mp_arI E a1 0 5 f0), (mp_arI E a2 0 25 f1), (mp_arI E a3 0 180 f2), (mp_arI E a4 0 90 f3), (mp_arI E a5 0 300 f4), (mp_arI E a6 0 300 f5), (mp_arI E a7 0 6 g_12), (mp_arI E a8 0 6 g_13), (mp_arI E a9 0 6 g_14), (mp_arI E a10 3 1500 g_15)]) rfl rfl ⟨r_11, g_12, g_13, g_14, g_15, i_34, rfl, l_16, u_17, (by (first | exact mp_o399 l_37 | omega)), u_38, p_18, (Or.inr ⟨by (first | exact x_5 | omega), by rw [x_39, show i_33.toInt.toNat = ((f1 3).toInt).toNat from by (first | exact mp_o1606 x_41 e_49 c_50 | omega)]⟩), rfl⟩ (by first | exact mp_fd_ok mp_k_cX10_can_ok (by decide +kernel) | decide +kernel)
        · have c_50 : i_33.toInt < z_46.toInt := c_50
          show mp_W E X 3 33 [(2, .int i_33), (1, .int i_34), (0, .ref a0)] [] w5_ 0 0
          refine mp_run mp_k_cX10_can_ok hF mp_tabX10_ok [mp_i (.iload_n 1), mp_i (.aload_n 0), mp_i (.iload_n 2)] (by decide +kernel) ?_
          show mp_W E X 3 36 [(2, .int i_33), (1, .int i_34), (0, .ref a0)] [.int i_33, .ref a0, .int i_34] w5_ 0 0
          refine mp_callV hF (As := [.int i_33]) (rest := [.int i_34]) (wr := [(mp_arI E a1 0 5 f0), (mp_arI E a2 0 25 f1), (mp_arI E a3 0 180 f2), (mp_arI E a6 0 300 f5), (mp_arI E a8 0 6 g_13), (mp_arI E a9 0 6 g_14), (mp_arI E a10 3 1500 g_15)]) (bX10_maySay_97 E a0 a4 a5 a7 a11 a12 a13 a14 a15 a1 a2 a3 a16 a6 a17 a8 a9 a10 a18 a19 a20 a21 a22 a23 a24 a25 f3 f4 g_12 0 y1 y2 y3 y4 y5 y6 y7 y8 y9 y10 r_11 y12 y13 y14 y15 y16 y17 y18 y19 y20 y21 i_33 p6 p7 p8 p9 p10 p11 p_18 l_35 (by (first | exact mp_o1533 c_50 e_48 | omega)) l_y1 u_y1 l_y2 u_y2 l_y3 u_y3 l_y4 u_y4 l_16 u_17 l_y12 u_y12 l_y13 u_y13) mp_lkX10_331 2 rfl [2, 5, 0, 7] [1, 3, 4, 6, 8, 9, 10] rfl rfl rfl rfl rfl ⟨(Nat.le_of_ble_eq_true rfl), (Nat.le_of_ble_eq_true rfl), (Nat.le_of_ble_eq_true rfl), (Nat.le_of_ble_eq_true rfl)⟩ (Nat.le_of_ble_eq_true rfl) (by first | exact mp_fd_ok mp_k_cX10_can_ok (by decide +kernel) | decide +kernel) (fun v_51 w_52 h_53 => ?_)
          rcases h_53 with ⟨rfl, x_54, rfl⟩ | ⟨rfl, x_55, rfl⟩
          · skip
            let w6_ : va_W := [(mp_arI E a1 0 5 f0), (mp_arI E a2 0 25 f1), (mp_arI E a3 0 180 f2), (mp_arI E a6 0 300 f5), (mp_arI E a8 0 6 g_13), (mp_arI E a9 0 6 g_14), (mp_arI E a10 3 1500 g_15), (mp_ob10 a0 0 a11 a12 a13 a14 a15 y1 y2 y3 y4 y5 y6 y7 y8 y9 y10 a1 a2 a3 a16 a4 a5 a6 a17 r_11 a7 a8 a9 a10 y12 y13 y14 a18 a19 y15 y16 a20 a21 a22 y17 y18 y19 y20 a23 a24 a25 y21), (mp_arI E a4 0 90 f3), (mp_arI E a5 0 300 f4), (mp_arI E a7 0 6 g_12)]
            show mp_W E X 3 39 [(2, .int i_33), (1, .int i_34), (0, .ref a0)] [.int 0, .int i_34] w6_ 0 0
            refine mp_run mp_k_cX10_can_ok hF mp_tabX10_ok [mp_h (.ifCond .eq 9) [48]] (by decide +kernel) ?_
            refine And.intro (fun _ => ?_) (fun c_56 => absurd c_56 (by decide))
            show mp_W E X 3 48 [(2, .int i_33), (1, .int i_34), (0, .ref a0)] [.int i_34] w6_ 0 0
            refine mp_run mp_k_cX10_can_ok hF mp_tabX10_ok [mp_c (.iconst 0) 0, mp_i .ior, mp_i (.istore_n 1), mp_c (.iinc 2 1) 1, mp_h (.goto (-31)) [23]] (by decide +kernel) ?_
            intro z_57 h_58
            have e_60 : 0 ≤ z_57.toInt ∧ z_57.toInt ≤ 1023 := mp_or10 h_58 ⟨by (first | exact l_37 | omega), by (first | exact u_38 | omega)⟩ ⟨by decide, by decide⟩
            intro z_61 h_62
            have e_63 : z_61.toInt = i_33.toInt + 1 := mp_add (a := i_33.toInt) (b := 1) h_62 rfl (by decide) (by (first | exact mp_o2 l_35 | omega)) (by (first | exact mp_o420 u_36 | omega))
            show mp_W E X 3 23 [(2, .int z_61), (1, .int z_57), (0, .ref a0)] [] w6_ 0 0
            exact mp_sub [0, 1, 2] rfl [9, 0, 7, 1, 2, 8, 3, 10, 4, 5, 6] rfl rfl (ih_44 (d_43 - 1) (by (first | exact mp_o1454 hm_45 e_49 c_50 | omega)) z_61 z_57 (by (first | exact mp_o51 l_35 e_63 | omega)) (by (first | exact mp_o1534 e_63 c_50 e_48 | omega)) (by (first | exact mp_o465 e_60 | omega)) (by (first | exact mp_o466 e_60 | omega)) ((mp_or0 h_58).trans (mp_bf_f x_39 (decide_eq_false (by have k9 := x_54; have r9 := q1 i_33.toInt.toNat (by (first | exact mp_o1607 l_35 e_49 c_50 | omega)); have k8 := x_20 (f4 (6 * i_33.toInt.toNat + 0)).toInt.toNat (by (first | exact mp_o497 r9 | omega)); have k7 := x_20 (f4 (6 * i_33.toInt.toNat + 1)).toInt.toNat (by (first | exact mp_o498 r9 | omega)); rw [k8.1, k7.1, show r_11.toInt = ((f1 1).toInt + mp_k200 f5 (f1 4).toInt) from by (first | exact x_19 | omega)] at k9; exact k9)) (by (first | exact mp_o53 l_35 e_63 | omega)))) (by (first | exact mp_o51 l_35 e_63 | omega)) (by (first | exact mp_o1608 e_49 c_50 e_63 | omega)) (by (first | exact mp_o77 hm_45 e_63 | omega)))
          · skip
            let w7_ : va_W := [(mp_arI E a1 0 5 f0), (mp_arI E a2 0 25 f1), (mp_arI E a3 0 180 f2), (mp_arI E a6 0 300 f5), (mp_arI E a8 0 6 g_13), (mp_arI E a9 0 6 g_14), (mp_arI E a10 3 1500 g_15), (mp_ob10 a0 0 a11 a12 a13 a14 a15 y1 y2 y3 y4 y5 y6 y7 y8 y9 y10 a1 a2 a3 a16 a4 a5 a6 a17 r_11 a7 a8 a9 a10 y12 y13 y14 a18 a19 y15 y16 a20 a21 a22 y17 y18 y19 y20 a23 a24 a25 y21), (mp_arI E a4 0 90 f3), (mp_arI E a5 0 300 f4), (mp_arI E a7 0 6 g_12)]
            show mp_W E X 3 39 [(2, .int i_33), (1, .int i_34), (0, .ref a0)] [.int 1, .int i_34] w7_ 0 0
            refine mp_run mp_k_cX10_can_ok hF mp_tabX10_ok [mp_h (.ifCond .eq 9) [48]] (by decide +kernel) ?_
            refine And.intro (fun c_64 => absurd c_64 (by decide)) (fun _ => ?_)
            show mp_W E X 3 42 [(2, .int i_33), (1, .int i_34), (0, .ref a0)] [.int i_34] w7_ 0 0
            refine mp_run mp_k_cX10_can_ok hF mp_tabX10_ok [mp_c (.iconst 1) 1, mp_i (.iload_n 2), mp_i .ishl, mp_h (.goto 4) [49], mp_i .ior, mp_i (.istore_n 1), mp_c (.iinc 2 1) 1, mp_h (.goto (-31)) [23]] (by decide +kernel) ?_
            intro z_65 h_66
            have e_68 : 1 ≤ z_65.toInt ∧ z_65.toInt ≤ 512 := mp_shl10 h_66 (by (first | exact x_40 | omega)) (by (first | exact mp_o1533 c_50 e_48 | omega))
            intro z_69 h_70
            have e_72 : 0 ≤ z_69.toInt ∧ z_69.toInt ≤ 1023 := mp_or10 h_70 ⟨by (first | exact l_37 | omega), by (first | exact u_38 | omega)⟩ ⟨by (first | exact mp_o463 e_68 | omega), by (first | exact mp_o464 e_68 | omega)⟩
            intro z_73 h_74
            have e_75 : z_73.toInt = i_33.toInt + 1 := mp_add (a := i_33.toInt) (b := 1) h_74 rfl (by decide) (by (first | exact mp_o2 l_35 | omega)) (by (first | exact mp_o420 u_36 | omega))
            show mp_W E X 3 23 [(2, .int z_73), (1, .int z_69), (0, .ref a0)] [] w7_ 0 0
            exact mp_sub [0, 1, 2] rfl [9, 0, 7, 1, 2, 8, 3, 10, 4, 5, 6] rfl rfl (ih_44 (d_43 - 1) (by (first | exact mp_o1454 hm_45 e_49 c_50 | omega)) z_73 z_69 (by (first | exact mp_o51 l_35 e_75 | omega)) (by (first | exact mp_o1534 e_75 c_50 e_48 | omega)) (by (first | exact mp_o465 e_72 | omega)) (by (first | exact mp_o466 e_72 | omega)) (mp_bf_t x_39 h_70 h_66 (decide_eq_true (by have k9 := x_55; have r9 := q1 i_33.toInt.toNat (by (first | exact mp_o1607 l_35 e_49 c_50 | omega)); have k8 := x_20 (f4 (6 * i_33.toInt.toNat + 0)).toInt.toNat (by (first | exact mp_o497 r9 | omega)); have k7 := x_20 (f4 (6 * i_33.toInt.toNat + 1)).toInt.toNat (by (first | exact mp_o498 r9 | omega)); rw [k8.1, k7.1, show r_11.toInt = ((f1 1).toInt + mp_k200 f5 (f1 4).toInt) from by (first | exact x_19 | omega)] at k9; exact k9)) (by (first | exact mp_o53 l_35 e_75 | omega))) (by (first | exact mp_o51 l_35 e_75 | omega)) (by (first | exact mp_o1608 e_49 c_50 e_75 | omega)) (by (first | exact mp_o77 hm_45 e_75 | omega)))
    exact mp_sub [0, 1, 2] rfl [0, 1, 2, 3, 4, 5, 6, 7, 8, 9, 10] rfl rfl (lp_42 _ 0 0 (by decide) (by decide) (by decide) (by decide) rfl (by first | fail | decide) (Or.inl (by first | rfl | decide | omega)) (Int.self_le_toNat _))
set_option maxHeartbeats 4000000 in
set_option maxRecDepth 100000 in
theorem bX10_sails_104 (E : mp_E) (a0 a1 a2 a3 a4 a5 a6 a7 a8 a9 a10 a11 a12 a13 a14 a15 a16 a17 a18 a19 a20 a21 a22 a23 a24 a25 : Nat) (f0 : Nat → Int32) (f1 : Nat → Int32) (f2 : Nat → Int32) (f3 : Nat → Int32) (f4 : Nat → Int32) (f5 : Nat → Int32) (f6 : Nat → Int32) (f7 : Nat → Int32) (f8 : Nat → Int32) (y0 : Int32) (y1 : Int32) (y2 : Int32) (y3 : Int32) (y4 : Int32) (y5 : Int32) (y6 : Int64) (y7 : Int32) (y8 : Int32) (y9 : Int32) (y10 : Int32) (y11 : Int32) (y12 : Int32) (y13 : Int32) (y14 : Int32) (y15 : Int32) (y16 : Int32) (y17 : Int32) (y18 : Int32) (y19 : Int32) (y20 : Int32) (y21 : Int32) (x0 : Int32) (p0 : mp_res f0 25 5 0 0 6) (p1 : mp_res f0 25 5 1 0 99) (p2 : mp_res f0 25 5 2 0 6) (p3 : mp_res f0 25 5 3 0 10) (p4 : mp_res f0 25 5 4 0 60) (p5 : mp_all f1 180 0 20) (p6 : mp_all f2 3000 0 1) (p7 : mp_res f3 90 3 0 0 5) (p8 : mp_res f3 90 3 1 (-1) 99) (p9 : mp_actm f4) (p10 : mp_all f5 6 0 5) (l_y1 : 0 ≤ y1.toInt) (u_y1 : y1.toInt ≤ 1600) (l_y2 : 0 ≤ y2.toInt) (u_y2 : y2.toInt ≤ 1600) (l_y3 : 0 ≤ y3.toInt) (u_y3 : y3.toInt ≤ 4) (l_y4 : 0 ≤ y4.toInt) (u_y4 : y4.toInt ≤ 1600) (l_y11 : 0 ≤ y11.toInt) (u_y11 : y11.toInt ≤ 99) (l_y12 : 0 ≤ y12.toInt) (u_y12 : y12.toInt ≤ 5) (l_y13 : 0 ≤ y13.toInt) (u_y13 : y13.toInt ≤ 12) (q0 : (f0 1).toInt + mp_k200 f4 (f0 4).toInt ≤ 99) : mp_Ct E yX10_sails cX10_sails 4 (some FieldType.int) 3 0 0 68 [.ref a0, .int x0] [(mp_ob10 a0 y0 a10 a11 a12 a13 a14 y1 y2 y3 y4 y5 y6 y7 y8 y9 y10 a15 a1 a2 a3 a4 a16 a5 a17 y11 a6 a7 a8 a9 y12 y13 y14 a18 a19 y15 y16 a20 a21 a22 y17 y18 y19 y20 a23 a24 a25 y21), (mp_arI E a1 0 25 f0), (mp_arI E a2 0 180 f1), (mp_arI E a3 3 3000 f2), (mp_arI E a4 0 90 f3), (mp_arI E a5 0 300 f4), (mp_arI E a6 0 6 f5), (mp_arI E a7 0 6 f6), (mp_arI E a8 0 6 f7), (mp_arI E a9 3 1500 f8)] (fun v w' => ∃ r1 : Int32, ∃ h2 : Nat → Int32, ∃ h3 : Nat → Int32, ∃ h4 : Nat → Int32, ∃ h5 : Nat → Int32, ∃ r6 : Int32, v = some (.int r6) ∧ 0 ≤ r1.toInt ∧ r1.toInt ≤ 99 ∧ (-2) ≤ r6.toInt ∧ r6.toInt ≤ 1023 ∧ mp_all h2 6 0 5 ∧ (((x0.toInt < 0 ∨ (f0 2).toInt ≤ x0.toInt) ∧ r6.toInt = -2) ∨ ((0 ≤ x0.toInt ∧ x0.toInt < (f0 2).toInt) ∧ r6.toInt = (mp_bf (fun k : Nat => decide (mp_crx (mp_cs f1 (fun p => f3 (3 * p)) f4 ((f0 1).toInt) x0.toInt.toNat ((f0 4).toInt).toNat).2.2.toInt ((f0 1).toInt + mp_k200 f4 (f0 4).toInt) ((k : Nat) : Int) (mp_cs f1 (fun p => f3 (3 * p)) f4 ((f0 1).toInt) x0.toInt.toNat ((f0 4).toInt).toNat).1.toInt (f1 (6 * (mp_cs f1 (fun p => f3 (3 * p)) f4 ((f0 1).toInt) x0.toInt.toNat ((f0 4).toInt).toNat).1.toInt + ((k : Nat) : Int)).toNat).toInt (f3 (3 * x0.toInt.toNat + 1)).toInt (decide ((f2 (100 * (mp_cs f1 (fun p => f3 (3 * p)) f4 ((f0 1).toInt) x0.toInt.toNat ((f0 4).toInt).toNat).1.toInt + ((f0 1).toInt + mp_k200 f4 (f0 4).toInt)).toNat).toInt ≠ 0)) (decide ((f2 (100 * ((k : Nat) : Int) + ((f0 1).toInt + mp_k200 f4 (f0 4).toInt)).toNat).toInt ≠ 0)))) ((f0 0).toInt).toNat).toInt)) ∧ w' = [(mp_ob10 a0 0 a10 a11 a12 a13 a14 y1 y2 y3 y4 y5 y6 y7 y8 y9 y10 a15 a1 a2 a3 a4 a16 a5 a17 r1 a6 a7 a8 a9 y12 y13 y14 a18 a19 y15 y16 a20 a21 a22 y17 y18 y19 y20 a23 a24 a25 y21), (mp_arI E a1 0 25 f0), (mp_arI E a2 0 180 f1), (mp_arI E a3 3 3000 f2), (mp_arI E a4 0 90 f3), (mp_arI E a5 0 300 f4), (mp_arI E a6 0 6 h2), (mp_arI E a7 0 6 h3), (mp_arI E a8 0 6 h4), (mp_arI E a9 3 1500 h5)]) := by
  refine mp_met false (by decide) (by decide) (Nat.le_of_ble_eq_true rfl) (fun X hF hQ => ?_)
  have hF : mp_F E X (RX10, cX10_sails, 4, (3, 0, 0, 68), (some FieldType.int), false) := hF
  let w1_ : va_W := [(mp_ob10 a0 y0 a10 a11 a12 a13 a14 y1 y2 y3 y4 y5 y6 y7 y8 y9 y10 a15 a1 a2 a3 a4 a16 a5 a17 y11 a6 a7 a8 a9 y12 y13 y14 a18 a19 y15 y16 a20 a21 a22 y17 y18 y19 y20 a23 a24 a25 y21), (mp_arI E a1 0 25 f0), (mp_arI E a2 0 180 f1), (mp_arI E a3 3 3000 f2), (mp_arI E a4 0 90 f3), (mp_arI E a5 0 300 f4), (mp_arI E a6 0 6 f5), (mp_arI E a7 0 6 f6), (mp_arI E a8 0 6 f7), (mp_arI E a9 3 1500 f8)]
  show mp_W E X 4 0 [(0, .ref a0), (1, .int x0)] [] w1_ 0 0
  refine mp_run mp_k_cX10_sails_ok hF mp_tabX10_ok [mp_i (.aload_n 0), mp_c (.iconst 0) 0, mp_h (.putfield 92) [0, 0]] (by decide +kernel) ?_
  refine And.intro rfl (And.intro rfl (And.intro rfl (And.intro rfl (And.intro (Nat.le_of_ble_eq_true rfl) ?_))))
  let w2_ : va_W := [(mp_ob10 a0 0 a10 a11 a12 a13 a14 y1 y2 y3 y4 y5 y6 y7 y8 y9 y10 a15 a1 a2 a3 a4 a16 a5 a17 y11 a6 a7 a8 a9 y12 y13 y14 a18 a19 y15 y16 a20 a21 a22 y17 y18 y19 y20 a23 a24 a25 y21), (mp_arI E a1 0 25 f0), (mp_arI E a2 0 180 f1), (mp_arI E a3 3 3000 f2), (mp_arI E a4 0 90 f3), (mp_arI E a5 0 300 f4), (mp_arI E a6 0 6 f5), (mp_arI E a7 0 6 f6), (mp_arI E a8 0 6 f7), (mp_arI E a9 3 1500 f8)]
  show mp_W E X 4 5 [(0, .ref a0), (1, .int x0)] [] w2_ 0 0
  refine mp_run mp_k_cX10_sails_ok hF mp_tabX10_ok [mp_i (.aload_n 0), mp_i (.iload_n 1)] (by decide +kernel) ?_
  show mp_W E X 4 7 [(0, .ref a0), (1, .int x0)] [.int x0, .ref a0] w2_ 0 0
  refine mp_callV hF (As := [.int x0]) (rest := []) (wr := [(mp_arI E a2 0 180 f1), (mp_arI E a3 3 3000 f2), (mp_arI E a4 0 90 f3), (mp_arI E a5 0 300 f4), (mp_arI E a6 0 6 f5), (mp_arI E a7 0 6 f6), (mp_arI E a8 0 6 f7), (mp_arI E a9 3 1500 f8)]) (bX10_isPerson_53 E a0 a1 a10 a11 a12 a13 a14 a15 a2 a3 a4 a16 a5 a17 a6 a7 a8 a9 a18 a19 a20 a21 a22 a23 a24 a25 f0 0 y1 y2 y3 y4 y5 y6 y7 y8 y9 y10 y11 y12 y13 y14 y15 y16 y17 y18 y19 y20 y21 x0 p0 p1 p2 p3 p4 l_y1 u_y1 l_y2 u_y2 l_y3 u_y3 l_y4 u_y4 l_y11 u_y11 l_y12 u_y12 l_y13 u_y13) mp_lkX10_255 0 rfl [0, 1] [2, 3, 4, 5, 6, 7, 8, 9] rfl rfl rfl rfl rfl ⟨(Nat.le_of_ble_eq_true rfl), (Nat.le_of_ble_eq_true rfl), (Nat.le_of_ble_eq_true rfl), (Nat.le_of_ble_eq_true rfl)⟩ (Nat.le_of_ble_eq_true rfl) (by first | exact mp_fd_ok mp_k_cX10_sails_ok (by decide +kernel) | decide +kernel) (fun v_1 w_2 h_3 => ?_)
  refine h_3.elim (fun q_9 => ?_) (fun q_10 => ?_)
  · skip
    refine q_9.elim fun e_11 q_12 => q_12.elim fun x_4 e_13 => ?_
    clear h_3 q_9 q_12
    subst e_11
    subst e_13
    let w3_ : va_W := [(mp_arI E a2 0 180 f1), (mp_arI E a3 3 3000 f2), (mp_arI E a4 0 90 f3), (mp_arI E a5 0 300 f4), (mp_arI E a6 0 6 f5), (mp_arI E a7 0 6 f6), (mp_arI E a8 0 6 f7), (mp_arI E a9 3 1500 f8), (mp_ob10 a0 0 a10 a11 a12 a13 a14 y1 y2 y3 y4 y5 y6 y7 y8 y9 y10 a15 a1 a2 a3 a4 a16 a5 a17 y11 a6 a7 a8 a9 y12 y13 y14 a18 a19 y15 y16 a20 a21 a22 y17 y18 y19 y20 a23 a24 a25 y21), (mp_arI E a1 0 25 f0)]
    show mp_W E X 4 10 [(0, .ref a0), (1, .int x0)] [.int 0] w3_ 0 0
    refine mp_run mp_k_cX10_sails_ok hF mp_tabX10_ok [mp_h (.ifCond .ne 6) [16]] (by decide +kernel) ?_
    refine And.intro (fun c_14 => absurd c_14 (by decide)) (fun _ => ?_)
    show mp_W E X 4 13 [(0, .ref a0), (1, .int x0)] [] w3_ 0 0
    refine mp_run mp_k_cX10_sails_ok hF mp_tabX10_ok [mp_c (.bipush (-2)) (-2)] (by decide +kernel) ?_
    show mp_W E X 4 15 [(0, .ref a0), (1, .int x0)] [.int (-2)] w3_ 0 0
    exact mp_iret hF hQ rfl rfl (Nat.le_of_ble_eq_true rfl) (Nat.le_of_ble_eq_true rfl) [8, 9, 0, 1, 2, 3, 4, 5, 6, 7] (w' := w2_) rfl rfl ⟨y11, f5, f6, f7, f8, (-2), rfl, l_y11, u_y11, (by decide), (by decide), p10, (by first | fail | decide | (have h8 : (0 : Int64).toInt = 0 := rfl; have h9 : (-1 : Int32).toInt = -1 := rfl; have h10 : (-2 : Int32).toInt = -2 := rfl; have h11 : (0 : Int32).toInt = 0 := rfl; have h12 : (1 : Int32).toInt = 1 := rfl; have h13 : (-5 : Int32).toInt = -5 := rfl; have h14 : (-3 : Int32).toInt = -3 := rfl; (first | exact mp_o448 x_4 h10 | omega))), rfl⟩ (by first | exact mp_fd_ok mp_k_cX10_sails_ok (by decide +kernel) | decide +kernel)
  · skip
    refine q_10.elim fun e_15 q_16 => q_16.elim fun c_5 q_17 => q_17.elim fun x_6 q_18 => q_18.elim fun x_7 q_19 => q_19.elim fun x_8 e_20 => ?_
    clear h_3 q_10 q_16 q_17 q_18 q_19
    subst e_15
    subst e_20
    have c_5 : 0 ≤ x0.toInt := c_5
    let w4_ : va_W := [(mp_arI E a2 0 180 f1), (mp_arI E a3 3 3000 f2), (mp_arI E a4 0 90 f3), (mp_arI E a5 0 300 f4), (mp_arI E a6 0 6 f5), (mp_arI E a7 0 6 f6), (mp_arI E a8 0 6 f7), (mp_arI E a9 3 1500 f8), (mp_ob10 a0 0 a10 a11 a12 a13 a14 y1 y2 y3 y4 y5 y6 y7 y8 y9 y10 a15 a1 a2 a3 a4 a16 a5 a17 y11 a6 a7 a8 a9 y12 y13 y14 a18 a19 y15 y16 a20 a21 a22 y17 y18 y19 y20 a23 a24 a25 y21), (mp_arI E a1 0 25 f0)]
    show mp_W E X 4 10 [(0, .ref a0), (1, .int x0)] [.int 1] w4_ 0 0
    refine mp_run mp_k_cX10_sails_ok hF mp_tabX10_ok [mp_h (.ifCond .ne 6) [16]] (by decide +kernel) ?_
    refine And.intro (fun _ => ?_) (fun c_21 => absurd c_21 (by decide))
    show mp_W E X 4 16 [(0, .ref a0), (1, .int x0)] [] w4_ 0 0
    refine mp_run mp_k_cX10_sails_ok hF mp_tabX10_ok [mp_i (.aload_n 0)] (by decide +kernel) ?_
    show mp_W E X 4 17 [(0, .ref a0), (1, .int x0)] [.ref a0] w4_ 0 0
    refine mp_callV hF (As := []) (rest := []) (wr := [(mp_arI E a3 3 3000 f2)]) (bX10_lays_62 E a0 a1 a2 a4 a5 a6 a7 a8 a9 a10 a11 a12 a13 a14 a15 a3 a16 a17 a18 a19 a20 a21 a22 a23 a24 a25 f0 f1 f3 f4 f5 f6 f7 f8 0 y1 y2 y3 y4 y5 y6 y7 y8 y9 y10 y11 y12 y13 y14 y15 y16 y17 y18 y19 y20 y21 p0 p1 p2 p3 p4 p5 p7 p8 p9 p10 l_y1 u_y1 l_y2 u_y2 l_y3 u_y3 l_y4 u_y4 l_y11 u_y11 l_y12 u_y12 l_y13 u_y13 (by (first | exact q0 | omega))) mp_lkX10_288 8 rfl [8, 9, 0, 2, 3, 4, 5, 6, 7] [1] rfl rfl rfl rfl rfl ⟨(Nat.le_of_ble_eq_true rfl), (Nat.le_of_ble_eq_true rfl), (Nat.le_of_ble_eq_true rfl), (Nat.le_of_ble_eq_true rfl)⟩ (Nat.le_of_ble_eq_true rfl) (by first | exact mp_fd_ok mp_k_cX10_sails_ok (by decide +kernel) | decide +kernel) (fun v_22 w_23 h_24 => ?_)
    refine h_24.elim fun r_25 q_35 => q_35.elim fun g_26 q_36 => q_36.elim fun g_27 q_37 => q_37.elim fun g_28 q_38 => q_38.elim fun g_29 q_39 => q_39.elim fun e_40 q_41 => q_41.elim fun l_30 q_42 => q_42.elim fun u_31 q_43 => q_43.elim fun p_32 q_44 => q_44.elim fun x_33 q_45 => q_45.elim fun x_34 e_46 => ?_
    clear h_24 q_35 q_36 q_37 q_38 q_39 q_41 q_42 q_43 q_44 q_45
    subst e_40
    subst e_46
    let w5_ : va_W := [(mp_arI E a3 3 3000 f2), (mp_ob10 a0 0 a10 a11 a12 a13 a14 y1 y2 y3 y4 y5 y6 y7 y8 y9 y10 a15 a1 a2 a3 a4 a16 a5 a17 r_25 a6 a7 a8 a9 y12 y13 y14 a18 a19 y15 y16 a20 a21 a22 y17 y18 y19 y20 a23 a24 a25 y21), (mp_arI E a1 0 25 f0), (mp_arI E a2 0 180 f1), (mp_arI E a4 0 90 f3), (mp_arI E a5 0 300 f4), (mp_arI E a6 0 6 g_26), (mp_arI E a7 0 6 g_27), (mp_arI E a8 0 6 g_28), (mp_arI E a9 3 1500 g_29)]
    show mp_W E X 4 20 [(0, .ref a0), (1, .int x0)] [] w5_ 0 0
    refine mp_run mp_k_cX10_sails_ok hF mp_tabX10_ok [mp_c (.iconst 0) 0, mp_i (.istore_n 2), mp_c (.iconst 0) 0, mp_i (.istore_n 3)] (by decide +kernel) ?_
    show mp_W E X 4 24 [(3, .int 0), (2, .int 0), (0, .ref a0), (1, .int x0)] [] w5_ 0 0
    have lp_56 : ∀ (d_57 : Nat) (i_47 : Int32) (i_48 : Int32), 0 ≤ i_47.toInt → i_47.toInt ≤ 6 → 0 ≤ i_48.toInt → i_48.toInt ≤ 1023 → (i_48 = mp_bf (fun k : Nat => decide (mp_crx (mp_cs f1 (fun p => f3 (3 * p)) f4 ((f0 1).toInt) x0.toInt.toNat ((f0 4).toInt).toNat).2.2.toInt ((f0 1).toInt + mp_k200 f4 (f0 4).toInt) ((k : Nat) : Int) (mp_cs f1 (fun p => f3 (3 * p)) f4 ((f0 1).toInt) x0.toInt.toNat ((f0 4).toInt).toNat).1.toInt (f1 (6 * (mp_cs f1 (fun p => f3 (3 * p)) f4 ((f0 1).toInt) x0.toInt.toNat ((f0 4).toInt).toNat).1.toInt + ((k : Nat) : Int)).toNat).toInt (f3 (3 * x0.toInt.toNat + 1)).toInt (decide ((f2 (100 * (mp_cs f1 (fun p => f3 (3 * p)) f4 ((f0 1).toInt) x0.toInt.toNat ((f0 4).toInt).toNat).1.toInt + ((f0 1).toInt + mp_k200 f4 (f0 4).toInt)).toNat).toInt ≠ 0)) (decide ((f2 (100 * ((k : Nat) : Int) + ((f0 1).toInt + mp_k200 f4 (f0 4).toInt)).toNat).toInt ≠ 0)))) i_47.toInt.toNat) → (0 ≤ i_47.toInt) → (i_47.toInt = 0 ∨ i_47.toInt ≤ (f0 0).toInt) → (f0 0).toInt - i_47.toInt ≤ (d_57 : Int) → mp_W E X 4 24 [(3, .int i_47), (2, .int i_48), (0, .ref a0), (1, .int x0)] [] [(mp_arI E a3 3 3000 f2), (mp_ob10 a0 0 a10 a11 a12 a13 a14 y1 y2 y3 y4 y5 y6 y7 y8 y9 y10 a15 a1 a2 a3 a4 a16 a5 a17 r_25 a6 a7 a8 a9 y12 y13 y14 a18 a19 y15 y16 a20 a21 a22 y17 y18 y19 y20 a23 a24 a25 y21), (mp_arI E a1 0 25 f0), (mp_arI E a2 0 180 f1), (mp_arI E a4 0 90 f3), (mp_arI E a5 0 300 f4), (mp_arI E a6 0 6 g_26), (mp_arI E a7 0 6 g_27), (mp_arI E a8 0 6 g_28), (mp_arI E a9 3 1500 g_29)] 0 0 := by
      intro d_57
      induction d_57 using Nat.strongRecOn with
      | ind d_57 ih_58 =>
        intro i_47 i_48 l_49 u_50 l_51 u_52 x_53 x_54 x_55 hm_59
        refine mp_run mp_k_cX10_sails_ok hF mp_tabX10_ok [mp_i (.iload_n 3), mp_i (.aload_n 0), mp_h (.getfield 34) [17, 1], mp_c (.iconst 0) 0, mp_h .iaload [2], mp_h (.if_icmp .ge 28) [59]] (by decide +kernel) ?_
        refine And.intro rfl (And.intro rfl ?_)
        refine And.intro rfl (And.intro rfl (And.intro (vp_in_iff.mpr (by decide)) ?_))
        intro z_60 h_61
        have e_62 : 0 ≤ z_60.toInt ∧ z_60.toInt ≤ 6 := mp_res_ld h_61 p0 (by decide) (by decide) (by decide)
        have e_63 : z_60.toInt = (f0 0).toInt := congrArg Int32.toInt (mp_at h_61 (by decide) rfl)
        refine And.intro (fun c_64 => ?_) (fun c_64 => ?_)
        · have c_64 : z_60.toInt ≤ i_47.toInt := c_64
          show mp_W E X 4 59 [(3, .int i_47), (2, .int i_48), (0, .ref a0), (1, .int x0)] [] w5_ 0 0
          refine mp_run mp_k_cX10_sails_ok hF mp_tabX10_ok [mp_i (.iload_n 2)] (by decide +kernel) ?_
          show mp_W E X 4 60 [(3, .int i_47), (2, .int i_48), (0, .ref a0), (1, .int x0)] [.int i_48] w5_ 0 0
          exact mp_iret hF hQ rfl rfl (Nat.le_of_ble_eq_true rfl) (Nat.le_of_ble_eq_true rfl) [1, 2, 3, 0, 4, 5, 6, 7, 8, 9] (w' := [(mp_ob10 a0 0 a10 a11 a12 a13 a14 y1 y2 y3 y4 y5 y6 y7 y8 y9 y10 a15 a1 a2 a3 a4 a16 a5 a17 r_25 a6 a7 a8 a9 y12 y13 y14 a18 a19 y15 y16 a20 a21 a22 y17 y18 y19 y20 a23 a24 a25 y21), (mp_arI E a1 0 25 f0), (mp_arI E a2 0 180 f1), (mp_arI E a3 3 3000 f2), (mp_arI E a4 0 90 f3), (mp_arI E a5 0 300 f4), (mp_arI E a6 0 6 g_26), (mp_arI E a7 0 6 g_27), (mp_arI E a8 0 6 g_28), (mp_arI E a9 3 1500 g_29)]) rfl rfl ⟨r_25, g_26, g_27, g_28, g_29, i_48, rfl, l_30, u_31, (by (first | exact mp_o399 l_51 | omega)), u_52, p_32, (Or.inr ⟨by (first | exact x_8 | omega), by rw [x_53, show i_47.toInt.toNat = ((f0 0).toInt).toNat from by (first | exact mp_o1606 x_55 e_63 c_64 | omega)]⟩), rfl⟩ (by first | exact mp_fd_ok mp_k_cX10_sails_ok (by decide +kernel) | decide +kernel)
        · have c_64 : i_47.toInt < z_60.toInt := c_64
          show mp_W E X 4 34 [(3, .int i_47), (2, .int i_48), (0, .ref a0), (1, .int x0)] [] w5_ 0 0
          refine mp_run mp_k_cX10_sails_ok hF mp_tabX10_ok [mp_i (.iload_n 2), mp_i (.aload_n 0), mp_i (.iload_n 1), mp_i (.iload_n 3)] (by decide +kernel) ?_
          show mp_W E X 4 38 [(3, .int i_47), (2, .int i_48), (0, .ref a0), (1, .int x0)] [.int i_47, .int x0, .ref a0, .int i_48] w5_ 0 0
          refine mp_callV hF (As := [.int x0, .int i_47]) (rest := [.int i_48]) (wr := [(mp_arI E a1 0 25 f0), (mp_arI E a5 0 300 f4), (mp_arI E a7 0 6 g_27), (mp_arI E a9 3 1500 g_29)]) (bX10_maySail_93 E a0 a2 a3 a4 a6 a8 a10 a11 a12 a13 a14 a15 a1 a16 a5 a17 a7 a9 a18 a19 a20 a21 a22 a23 a24 a25 f1 f2 f3 g_26 g_28 0 y1 y2 y3 y4 y5 y6 y7 y8 y9 y10 r_25 y12 y13 y14 y15 y16 y17 y18 y19 y20 y21 x0 i_47 p5 p6 p7 p8 p_32 (by (first | exact c_5 | omega)) (by (first | exact x_7 | omega)) l_49 (by (first | exact mp_o1538 c_64 e_62 | omega)) l_y1 u_y1 l_y2 u_y2 l_y3 u_y3 l_y4 u_y4 l_30 u_31 l_y12 u_y12 l_y13 u_y13) mp_lkX10_322 1 rfl [1, 3, 0, 4, 6, 8] [2, 5, 7, 9] rfl rfl rfl rfl rfl ⟨(Nat.le_of_ble_eq_true rfl), (Nat.le_of_ble_eq_true rfl), (Nat.le_of_ble_eq_true rfl), (Nat.le_of_ble_eq_true rfl)⟩ (Nat.le_of_ble_eq_true rfl) (by first | exact mp_fd_ok mp_k_cX10_sails_ok (by decide +kernel) | decide +kernel) (fun v_65 w_66 h_67 => ?_)
          rcases h_67 with ⟨rfl, x_68, rfl⟩ | ⟨rfl, x_69, rfl⟩
          · skip
            let w6_ : va_W := [(mp_arI E a1 0 25 f0), (mp_arI E a5 0 300 f4), (mp_arI E a7 0 6 g_27), (mp_arI E a9 3 1500 g_29), (mp_ob10 a0 0 a10 a11 a12 a13 a14 y1 y2 y3 y4 y5 y6 y7 y8 y9 y10 a15 a1 a2 a3 a4 a16 a5 a17 r_25 a6 a7 a8 a9 y12 y13 y14 a18 a19 y15 y16 a20 a21 a22 y17 y18 y19 y20 a23 a24 a25 y21), (mp_arI E a2 0 180 f1), (mp_arI E a3 3 3000 f2), (mp_arI E a4 0 90 f3), (mp_arI E a6 0 6 g_26), (mp_arI E a8 0 6 g_28)]
            show mp_W E X 4 41 [(3, .int i_47), (2, .int i_48), (0, .ref a0), (1, .int x0)] [.int 0, .int i_48] w6_ 0 0
            refine mp_run mp_k_cX10_sails_ok hF mp_tabX10_ok [mp_h (.ifCond .eq 9) [50]] (by decide +kernel) ?_
            refine And.intro (fun _ => ?_) (fun c_70 => absurd c_70 (by decide))
            show mp_W E X 4 50 [(3, .int i_47), (2, .int i_48), (0, .ref a0), (1, .int x0)] [.int i_48] w6_ 0 0
            refine mp_run mp_k_cX10_sails_ok hF mp_tabX10_ok [mp_c (.iconst 0) 0, mp_i .ior, mp_i (.istore_n 2), mp_c (.iinc 3 1) 1, mp_h (.goto (-32)) [24]] (by decide +kernel) ?_
            intro z_71 h_72
            have e_74 : 0 ≤ z_71.toInt ∧ z_71.toInt ≤ 1023 := mp_or10 h_72 ⟨by (first | exact l_51 | omega), by (first | exact u_52 | omega)⟩ ⟨by decide, by decide⟩
            intro z_75 h_76
            have e_77 : z_75.toInt = i_47.toInt + 1 := mp_add (a := i_47.toInt) (b := 1) h_76 rfl (by decide) (by (first | exact mp_o2 l_49 | omega)) (by (first | exact mp_o351 u_50 | omega))
            show mp_W E X 4 24 [(3, .int z_75), (2, .int z_71), (0, .ref a0), (1, .int x0)] [] w6_ 0 0
            exact mp_sub [0, 1, 2, 3] rfl [6, 4, 0, 5, 7, 1, 8, 2, 9, 3] rfl rfl (ih_58 (d_57 - 1) (by (first | exact mp_o1454 hm_59 e_63 c_64 | omega)) z_75 z_71 (by (first | exact mp_o51 l_49 e_77 | omega)) (by (first | exact mp_o1485 e_77 c_64 e_62 | omega)) (by (first | exact mp_o465 e_74 | omega)) (by (first | exact mp_o466 e_74 | omega)) ((mp_or0 h_72).trans (mp_bf_f x_53 (decide_eq_false (by have k9 := x_68; have k8 := x_34 x0.toInt.toNat (by (first | exact mp_o473 c_5 x_6 | omega)); rw [k8.1, k8.2.2, show r_25.toInt = ((f0 1).toInt + mp_k200 f4 (f0 4).toInt) from by (first | exact x_33 | omega), show i_47.toInt = ((i_47.toInt.toNat : Nat) : Int) from by (first | exact mp_o369 l_49 | omega)] at k9; exact k9)) (by (first | exact mp_o53 l_49 e_77 | omega)))) (by (first | exact mp_o51 l_49 e_77 | omega)) (by (first | exact mp_o1608 e_63 c_64 e_77 | omega)) (by (first | exact mp_o77 hm_59 e_77 | omega)))
          · skip
            let w7_ : va_W := [(mp_arI E a1 0 25 f0), (mp_arI E a5 0 300 f4), (mp_arI E a7 0 6 g_27), (mp_arI E a9 3 1500 g_29), (mp_ob10 a0 0 a10 a11 a12 a13 a14 y1 y2 y3 y4 y5 y6 y7 y8 y9 y10 a15 a1 a2 a3 a4 a16 a5 a17 r_25 a6 a7 a8 a9 y12 y13 y14 a18 a19 y15 y16 a20 a21 a22 y17 y18 y19 y20 a23 a24 a25 y21), (mp_arI E a2 0 180 f1), (mp_arI E a3 3 3000 f2), (mp_arI E a4 0 90 f3), (mp_arI E a6 0 6 g_26), (mp_arI E a8 0 6 g_28)]
            show mp_W E X 4 41 [(3, .int i_47), (2, .int i_48), (0, .ref a0), (1, .int x0)] [.int 1, .int i_48] w7_ 0 0
            refine mp_run mp_k_cX10_sails_ok hF mp_tabX10_ok [mp_h (.ifCond .eq 9) [50]] (by decide +kernel) ?_
            refine And.intro (fun c_78 => absurd c_78 (by decide)) (fun _ => ?_)
            show mp_W E X 4 44 [(3, .int i_47), (2, .int i_48), (0, .ref a0), (1, .int x0)] [.int i_48] w7_ 0 0
            refine mp_run mp_k_cX10_sails_ok hF mp_tabX10_ok [mp_c (.iconst 1) 1, mp_i (.iload_n 3), mp_i .ishl, mp_h (.goto 4) [51], mp_i .ior, mp_i (.istore_n 2), mp_c (.iinc 3 1) 1, mp_h (.goto (-32)) [24]] (by decide +kernel) ?_
            intro z_79 h_80
            have e_82 : 1 ≤ z_79.toInt ∧ z_79.toInt ≤ 512 := mp_shl10 h_80 (by (first | exact x_54 | omega)) (by (first | exact mp_o523 u_50 | omega))
            intro z_83 h_84
            have e_86 : 0 ≤ z_83.toInt ∧ z_83.toInt ≤ 1023 := mp_or10 h_84 ⟨by (first | exact l_51 | omega), by (first | exact u_52 | omega)⟩ ⟨by (first | exact mp_o463 e_82 | omega), by (first | exact mp_o464 e_82 | omega)⟩
            intro z_87 h_88
            have e_89 : z_87.toInt = i_47.toInt + 1 := mp_add (a := i_47.toInt) (b := 1) h_88 rfl (by decide) (by (first | exact mp_o2 l_49 | omega)) (by (first | exact mp_o351 u_50 | omega))
            show mp_W E X 4 24 [(3, .int z_87), (2, .int z_83), (0, .ref a0), (1, .int x0)] [] w7_ 0 0
            exact mp_sub [0, 1, 2, 3] rfl [6, 4, 0, 5, 7, 1, 8, 2, 9, 3] rfl rfl (ih_58 (d_57 - 1) (by (first | exact mp_o1454 hm_59 e_63 c_64 | omega)) z_87 z_83 (by (first | exact mp_o51 l_49 e_89 | omega)) (by (first | exact mp_o1485 e_89 c_64 e_62 | omega)) (by (first | exact mp_o465 e_86 | omega)) (by (first | exact mp_o466 e_86 | omega)) (mp_bf_t x_53 h_84 h_80 (decide_eq_true (by have k9 := x_69; have k8 := x_34 x0.toInt.toNat (by (first | exact mp_o473 c_5 x_6 | omega)); rw [k8.1, k8.2.2, show r_25.toInt = ((f0 1).toInt + mp_k200 f4 (f0 4).toInt) from by (first | exact x_33 | omega), show i_47.toInt = ((i_47.toInt.toNat : Nat) : Int) from by (first | exact mp_o369 l_49 | omega)] at k9; exact k9)) (by (first | exact mp_o53 l_49 e_89 | omega))) (by (first | exact mp_o51 l_49 e_89 | omega)) (by (first | exact mp_o1608 e_63 c_64 e_89 | omega)) (by (first | exact mp_o77 hm_59 e_89 | omega)))
    exact mp_sub [0, 1, 2, 3] rfl [0, 1, 2, 3, 4, 5, 6, 7, 8, 9] rfl rfl (lp_56 _ 0 0 (by decide) (by decide) (by decide) (by decide) rfl (by first | fail | decide) (Or.inl (by first | rfl | decide | omega)) (Int.self_le_toNat _))
set_option maxHeartbeats 4000000 in
set_option maxRecDepth 100000 in
theorem bX10_isPlan_105 (E : mp_E) (a0 a1 a2 a3 a4 a5 a6 a7 a8 a9 a10 a11 a12 a13 a14 a15 a16 a17 a18 a19 a20 a21 a22 a23 a24 a25 : Nat) (f0 : Nat → Int32) (f1 : Nat → Int32) (f2 : Nat → Int32) (f3 : Nat → Int32) (f4 : Nat → Int32) (f5 : Nat → Int32) (f6 : Nat → Int32) (f7 : Nat → Int32) (y0 : Int32) (y1 : Int32) (y2 : Int32) (y3 : Int32) (y4 : Int32) (y5 : Int32) (y6 : Int64) (y7 : Int32) (y8 : Int32) (y9 : Int32) (y10 : Int32) (y11 : Int32) (y12 : Int32) (y13 : Int32) (y14 : Int32) (y15 : Int32) (y16 : Int32) (y17 : Int32) (y18 : Int32) (y19 : Int32) (y20 : Int32) (y21 : Int32) (x0 : Int32) (x1 : Int32) (p0 : mp_res f0 25 5 0 0 6) (p1 : mp_res f0 25 5 1 0 99) (p2 : mp_res f0 25 5 2 0 6) (p3 : mp_res f0 25 5 3 0 10) (p4 : mp_res f0 25 5 4 0 60) (p5 : mp_all f1 180 0 20) (p6 : mp_res f2 90 3 0 0 5) (p7 : mp_res f2 90 3 1 (-1) 99) (p8 : mp_actm f3) (p9 : mp_all f4 6 0 5) (l_y1 : 0 ≤ y1.toInt) (u_y1 : y1.toInt ≤ 1600) (l_y2 : 0 ≤ y2.toInt) (u_y2 : y2.toInt ≤ 1600) (l_y3 : 0 ≤ y3.toInt) (u_y3 : y3.toInt ≤ 4) (l_y4 : 0 ≤ y4.toInt) (u_y4 : y4.toInt ≤ 1600) (l_y11 : 0 ≤ y11.toInt) (u_y11 : y11.toInt ≤ 99) (l_y12 : 0 ≤ y12.toInt) (u_y12 : y12.toInt ≤ 5) (l_y13 : 0 ≤ y13.toInt) (u_y13 : y13.toInt ≤ 12) (q0 : (f0 1).toInt + mp_k200 f3 (f0 4).toInt ≤ 99) : mp_Ct E yX10_isPlan cX10_isPlan 3 (some FieldType.boolean) 2 0 0 46 [.ref a0, .int x0, .int x1] [(mp_ob10 a0 y0 a9 a10 a11 a12 a13 y1 y2 y3 y4 y5 y6 y7 y8 y9 y10 a14 a1 a2 a15 a3 a16 a4 a17 y11 a5 a6 a7 a8 y12 y13 y14 a18 a19 y15 y16 a20 a21 a22 y17 y18 y19 y20 a23 a24 a25 y21), (mp_arI E a1 0 25 f0), (mp_arI E a2 0 180 f1), (mp_arI E a3 0 90 f2), (mp_arI E a4 0 300 f3), (mp_arI E a5 0 6 f4), (mp_arI E a6 0 6 f5), (mp_arI E a7 0 6 f6), (mp_arI E a8 3 1500 f7)] (fun v w' => (∃ r1 : Int32, ∃ h2 : Nat → Int32, ∃ h3 : Nat → Int32, ∃ h4 : Nat → Int32, ∃ h5 : Nat → Int32, v = some (.int 0) ∧ 0 ≤ r1.toInt ∧ r1.toInt ≤ 99 ∧ mp_all h2 6 0 5 ∧ w' = [(mp_ob10 a0 y0 a9 a10 a11 a12 a13 y1 y2 y3 y4 y5 y6 y7 y8 y9 y10 a14 a1 a2 a15 a3 a16 a4 a17 r1 a5 a6 a7 a8 y12 y13 y14 a18 a19 y15 y16 a20 a21 a22 y17 y18 y19 y20 a23 a24 a25 y21), (mp_arI E a1 0 25 f0), (mp_arI E a2 0 180 f1), (mp_arI E a3 0 90 f2), (mp_arI E a4 0 300 f3), (mp_arI E a5 0 6 h2), (mp_arI E a6 0 6 h3), (mp_arI E a7 0 6 h4), (mp_arI E a8 3 1500 h5)]) ∨ (∃ r1 : Int32, ∃ h2 : Nat → Int32, ∃ h3 : Nat → Int32, ∃ h4 : Nat → Int32, ∃ h5 : Nat → Int32, v = some (.int 1) ∧ 0 ≤ x0.toInt ∧ 1 ≤ x1.toInt ∧ x1.toInt ≤ 12 ∧ 0 ≤ r1.toInt ∧ r1.toInt ≤ 98 ∧ mp_all h2 6 0 5 ∧ (0 ≤ x0.toInt) ∧ (x0.toInt ≤ 5) ∧ (1 ≤ x1.toInt) ∧ (x1.toInt ≤ 12) ∧ (r1.toInt + x1.toInt ≤ 99) ∧ w' = [(mp_ob10 a0 y0 a9 a10 a11 a12 a13 y1 y2 y3 y4 y5 y6 y7 y8 y9 y10 a14 a1 a2 a15 a3 a16 a4 a17 r1 a5 a6 a7 a8 y12 y13 y14 a18 a19 y15 y16 a20 a21 a22 y17 y18 y19 y20 a23 a24 a25 y21), (mp_arI E a1 0 25 f0), (mp_arI E a2 0 180 f1), (mp_arI E a3 0 90 f2), (mp_arI E a4 0 300 f3), (mp_arI E a5 0 6 h2), (mp_arI E a6 0 6 h3), (mp_arI E a7 0 6 h4), (mp_arI E a8 3 1500 h5)])) := by
  refine mp_met false (by decide) (by decide) (Nat.le_of_ble_eq_true rfl) (fun X hF hQ => ?_)
  have hF : mp_F E X (RX10, cX10_isPlan, 3, (2, 0, 0, 46), (some FieldType.boolean), false) := hF
  let w1_ : va_W := [(mp_ob10 a0 y0 a9 a10 a11 a12 a13 y1 y2 y3 y4 y5 y6 y7 y8 y9 y10 a14 a1 a2 a15 a3 a16 a4 a17 y11 a5 a6 a7 a8 y12 y13 y14 a18 a19 y15 y16 a20 a21 a22 y17 y18 y19 y20 a23 a24 a25 y21), (mp_arI E a1 0 25 f0), (mp_arI E a2 0 180 f1), (mp_arI E a3 0 90 f2), (mp_arI E a4 0 300 f3), (mp_arI E a5 0 6 f4), (mp_arI E a6 0 6 f5), (mp_arI E a7 0 6 f6), (mp_arI E a8 3 1500 f7)]
  show mp_W E X 3 0 [(0, .ref a0), (1, .int x0), (2, .int x1)] [] w1_ 0 0
  refine mp_run mp_k_cX10_isPlan_ok hF mp_tabX10_ok [mp_i (.aload_n 0), mp_i (.iload_n 1)] (by decide +kernel) ?_
  show mp_W E X 3 2 [(0, .ref a0), (1, .int x0), (2, .int x1)] [.int x0, .ref a0] w1_ 0 0
  refine mp_callV hF (As := [.int x0]) (rest := []) (wr := [(mp_arI E a2 0 180 f1), (mp_arI E a3 0 90 f2), (mp_arI E a4 0 300 f3), (mp_arI E a5 0 6 f4), (mp_arI E a6 0 6 f5), (mp_arI E a7 0 6 f6), (mp_arI E a8 3 1500 f7)]) (bX10_isPerson_53 E a0 a1 a9 a10 a11 a12 a13 a14 a2 a15 a3 a16 a4 a17 a5 a6 a7 a8 a18 a19 a20 a21 a22 a23 a24 a25 f0 y0 y1 y2 y3 y4 y5 y6 y7 y8 y9 y10 y11 y12 y13 y14 y15 y16 y17 y18 y19 y20 y21 x0 p0 p1 p2 p3 p4 l_y1 u_y1 l_y2 u_y2 l_y3 u_y3 l_y4 u_y4 l_y11 u_y11 l_y12 u_y12 l_y13 u_y13) mp_lkX10_255 0 rfl [0, 1] [2, 3, 4, 5, 6, 7, 8] rfl rfl rfl rfl rfl ⟨(Nat.le_of_ble_eq_true rfl), (Nat.le_of_ble_eq_true rfl), (Nat.le_of_ble_eq_true rfl), (Nat.le_of_ble_eq_true rfl)⟩ (Nat.le_of_ble_eq_true rfl) (by first | exact mp_fd_ok mp_k_cX10_isPlan_ok (by decide +kernel) | decide +kernel) (fun v_1 w_2 h_3 => ?_)
  refine h_3.elim (fun q_9 => ?_) (fun q_10 => ?_)
  · skip
    refine q_9.elim fun e_11 q_12 => q_12.elim fun x_4 e_13 => ?_
    clear h_3 q_9 q_12
    subst e_11
    subst e_13
    let w2_ : va_W := [(mp_arI E a2 0 180 f1), (mp_arI E a3 0 90 f2), (mp_arI E a4 0 300 f3), (mp_arI E a5 0 6 f4), (mp_arI E a6 0 6 f5), (mp_arI E a7 0 6 f6), (mp_arI E a8 3 1500 f7), (mp_ob10 a0 y0 a9 a10 a11 a12 a13 y1 y2 y3 y4 y5 y6 y7 y8 y9 y10 a14 a1 a2 a15 a3 a16 a4 a17 y11 a5 a6 a7 a8 y12 y13 y14 a18 a19 y15 y16 a20 a21 a22 y17 y18 y19 y20 a23 a24 a25 y21), (mp_arI E a1 0 25 f0)]
    show mp_W E X 3 5 [(0, .ref a0), (1, .int x0), (2, .int x1)] [.int 0] w2_ 0 0
    refine mp_run mp_k_cX10_isPlan_ok hF mp_tabX10_ok [mp_h (.ifCond .eq 15) [20]] (by decide +kernel) ?_
    refine And.intro (fun _ => ?_) (fun c_14 => absurd c_14 (by decide))
    show mp_W E X 3 20 [(0, .ref a0), (1, .int x0), (2, .int x1)] [] w2_ 0 0
    refine mp_run mp_k_cX10_isPlan_ok hF mp_tabX10_ok [mp_c (.iconst 0) 0] (by decide +kernel) ?_
    show mp_W E X 3 21 [(0, .ref a0), (1, .int x0), (2, .int x1)] [.int 0] w2_ 0 0
    exact mp_iret hF hQ rfl (by decide) (Nat.le_of_ble_eq_true rfl) (Nat.le_of_ble_eq_true rfl) [7, 8, 0, 1, 2, 3, 4, 5, 6] (w' := w1_) rfl rfl (Or.inl ⟨y11, f4, f5, f6, f7, rfl, l_y11, u_y11, p9, rfl⟩) (by first | exact mp_fd_ok mp_k_cX10_isPlan_ok (by decide +kernel) | decide +kernel)
  · skip
    refine q_10.elim fun e_15 q_16 => q_16.elim fun c_5 q_17 => q_17.elim fun x_6 q_18 => q_18.elim fun x_7 q_19 => q_19.elim fun x_8 e_20 => ?_
    clear h_3 q_10 q_16 q_17 q_18 q_19
    subst e_15
    subst e_20
    have c_5 : 0 ≤ x0.toInt := c_5
    let w3_ : va_W := [(mp_arI E a2 0 180 f1), (mp_arI E a3 0 90 f2), (mp_arI E a4 0 300 f3), (mp_arI E a5 0 6 f4), (mp_arI E a6 0 6 f5), (mp_arI E a7 0 6 f6), (mp_arI E a8 3 1500 f7), (mp_ob10 a0 y0 a9 a10 a11 a12 a13 y1 y2 y3 y4 y5 y6 y7 y8 y9 y10 a14 a1 a2 a15 a3 a16 a4 a17 y11 a5 a6 a7 a8 y12 y13 y14 a18 a19 y15 y16 a20 a21 a22 y17 y18 y19 y20 a23 a24 a25 y21), (mp_arI E a1 0 25 f0)]
    show mp_W E X 3 5 [(0, .ref a0), (1, .int x0), (2, .int x1)] [.int 1] w3_ 0 0
    refine mp_run mp_k_cX10_isPlan_ok hF mp_tabX10_ok [mp_h (.ifCond .eq 15) [20]] (by decide +kernel) ?_
    refine And.intro (fun c_21 => absurd c_21 (by decide)) (fun _ => ?_)
    show mp_W E X 3 8 [(0, .ref a0), (1, .int x0), (2, .int x1)] [] w3_ 0 0
    refine mp_run mp_k_cX10_isPlan_ok hF mp_tabX10_ok [mp_i (.iload_n 2), mp_i .i2l, mp_cl (.lconst 1) 1, mp_cl (.ldc2_w 359) 12] (by decide +kernel) ?_
    intro z_22 h_23
    have e_24 : z_22.toInt = x1.toInt := mp_i2l h_23
    show mp_W E X 3 14 [(0, .ref a0), (1, .int x0), (2, .int x1)] [.long 12, .long 1, .long z_22] w3_ 0 0
    refine mp_callS hF (As := [.long z_22, .long 1, .long 12]) (rest := []) (wr := w3_) (bX10_in_0 E z_22 1 12) mp_lkX10_97 [] [0, 1, 2, 3, 4, 5, 6, 7, 8] rfl rfl rfl rfl rfl ⟨(Nat.le_of_ble_eq_true rfl), (Nat.le_of_ble_eq_true rfl), (Nat.le_of_ble_eq_true rfl), (Nat.le_of_ble_eq_true rfl)⟩ (Nat.le_of_ble_eq_true rfl) (by first | exact mp_fd_ok mp_k_cX10_isPlan_ok (by decide +kernel) | decide +kernel) (fun v_25 w_26 h_27 => ?_)
    rcases h_27 with ⟨rfl, x_28, rfl⟩ | ⟨rfl, c_29, c_30, rfl⟩
    · skip
      have i_31 : (1 : Int64).toInt = 1 := by decide
      have i_32 : (12 : Int64).toInt = 12 := by decide
      show mp_W E X 3 17 [(0, .ref a0), (1, .int x0), (2, .int x1)] [.int 0] w3_ 0 0
      refine mp_run mp_k_cX10_isPlan_ok hF mp_tabX10_ok [mp_h (.ifCond .ne 5) [22]] (by decide +kernel) ?_
      refine And.intro (fun c_33 => absurd c_33 (by decide)) (fun _ => ?_)
      show mp_W E X 3 20 [(0, .ref a0), (1, .int x0), (2, .int x1)] [] w3_ 0 0
      refine mp_run mp_k_cX10_isPlan_ok hF mp_tabX10_ok [mp_c (.iconst 0) 0] (by decide +kernel) ?_
      show mp_W E X 3 21 [(0, .ref a0), (1, .int x0), (2, .int x1)] [.int 0] w3_ 0 0
      exact mp_iret hF hQ rfl (by decide) (Nat.le_of_ble_eq_true rfl) (Nat.le_of_ble_eq_true rfl) [7, 8, 0, 1, 2, 3, 4, 5, 6] (w' := w1_) rfl rfl (Or.inl ⟨y11, f4, f5, f6, f7, rfl, l_y11, u_y11, p9, rfl⟩) (by first | exact mp_fd_ok mp_k_cX10_isPlan_ok (by decide +kernel) | decide +kernel)
    · skip
      have c_29 : 1 ≤ z_22.toInt := c_29
      have c_30 : z_22.toInt ≤ 12 := c_30
      have i_34 : (1 : Int64).toInt = 1 := by decide
      have i_35 : (12 : Int64).toInt = 12 := by decide
      show mp_W E X 3 17 [(0, .ref a0), (1, .int x0), (2, .int x1)] [.int 1] w3_ 0 0
      refine mp_run mp_k_cX10_isPlan_ok hF mp_tabX10_ok [mp_h (.ifCond .ne 5) [22]] (by decide +kernel) ?_
      refine And.intro (fun _ => ?_) (fun c_36 => absurd c_36 (by decide))
      show mp_W E X 3 22 [(0, .ref a0), (1, .int x0), (2, .int x1)] [] w3_ 0 0
      refine mp_run mp_k_cX10_isPlan_ok hF mp_tabX10_ok [mp_i (.aload_n 0)] (by decide +kernel) ?_
      show mp_W E X 3 23 [(0, .ref a0), (1, .int x0), (2, .int x1)] [.ref a0] w3_ 0 0
      refine mp_callV hF (As := []) (rest := []) (wr := []) (bX10_lays_62 E a0 a1 a2 a3 a4 a5 a6 a7 a8 a9 a10 a11 a12 a13 a14 a15 a16 a17 a18 a19 a20 a21 a22 a23 a24 a25 f0 f1 f2 f3 f4 f5 f6 f7 y0 y1 y2 y3 y4 y5 y6 y7 y8 y9 y10 y11 y12 y13 y14 y15 y16 y17 y18 y19 y20 y21 p0 p1 p2 p3 p4 p5 p6 p7 p8 p9 l_y1 u_y1 l_y2 u_y2 l_y3 u_y3 l_y4 u_y4 l_y11 u_y11 l_y12 u_y12 l_y13 u_y13 (by (first | exact q0 | omega))) mp_lkX10_288 7 rfl [7, 8, 0, 1, 2, 3, 4, 5, 6] [] rfl rfl rfl rfl rfl ⟨(Nat.le_of_ble_eq_true rfl), (Nat.le_of_ble_eq_true rfl), (Nat.le_of_ble_eq_true rfl), (Nat.le_of_ble_eq_true rfl)⟩ (Nat.le_of_ble_eq_true rfl) (by first | exact mp_fd_ok mp_k_cX10_isPlan_ok (by decide +kernel) | decide +kernel) (fun v_37 w_38 h_39 => ?_)
      refine h_39.elim fun r_40 q_50 => q_50.elim fun g_41 q_51 => q_51.elim fun g_42 q_52 => q_52.elim fun g_43 q_53 => q_53.elim fun g_44 q_54 => q_54.elim fun e_55 q_56 => q_56.elim fun l_45 q_57 => q_57.elim fun u_46 q_58 => q_58.elim fun p_47 q_59 => q_59.elim fun x_48 q_60 => q_60.elim fun x_49 e_61 => ?_
      clear h_39 q_50 q_51 q_52 q_53 q_54 q_56 q_57 q_58 q_59 q_60
      subst e_55
      subst e_61
      let w4_ : va_W := [(mp_ob10 a0 y0 a9 a10 a11 a12 a13 y1 y2 y3 y4 y5 y6 y7 y8 y9 y10 a14 a1 a2 a15 a3 a16 a4 a17 r_40 a5 a6 a7 a8 y12 y13 y14 a18 a19 y15 y16 a20 a21 a22 y17 y18 y19 y20 a23 a24 a25 y21), (mp_arI E a1 0 25 f0), (mp_arI E a2 0 180 f1), (mp_arI E a3 0 90 f2), (mp_arI E a4 0 300 f3), (mp_arI E a5 0 6 g_41), (mp_arI E a6 0 6 g_42), (mp_arI E a7 0 6 g_43), (mp_arI E a8 3 1500 g_44)]
      show mp_W E X 3 26 [(0, .ref a0), (1, .int x0), (2, .int x1)] [] w4_ 0 0
      refine mp_run mp_k_cX10_isPlan_ok hF mp_tabX10_ok [mp_i (.aload_n 0), mp_h (.getfield 276) [24, 0], mp_i (.iload_n 2), mp_i .iadd, mp_c (.bipush 100) 100, mp_h (.if_icmp .ge 7) [41]] (by decide +kernel) ?_
      refine And.intro rfl (And.intro rfl ?_)
      intro z_62 h_63
      have e_64 : z_62.toInt = r_40.toInt + x1.toInt := mp_add (a := r_40.toInt) (b := x1.toInt) h_63 rfl rfl (by (first | exact mp_o1609 l_45 c_29 e_24 | omega)) (by (first | exact mp_o1610 u_46 e_24 c_30 | omega))
      refine And.intro (fun c_65 => ?_) (fun c_65 => ?_)
      · have c_65 : 100 ≤ z_62.toInt := c_65
        show mp_W E X 3 41 [(0, .ref a0), (1, .int x0), (2, .int x1)] [] w4_ 0 0
        refine mp_run mp_k_cX10_isPlan_ok hF mp_tabX10_ok [mp_c (.iconst 0) 0] (by decide +kernel) ?_
        show mp_W E X 3 42 [(0, .ref a0), (1, .int x0), (2, .int x1)] [.int 0] w4_ 0 0
        exact mp_iret hF hQ rfl (by decide) (Nat.le_of_ble_eq_true rfl) (Nat.le_of_ble_eq_true rfl) [0, 1, 2, 3, 4, 5, 6, 7, 8] (w' := w4_) rfl rfl (Or.inl ⟨r_40, g_41, g_42, g_43, g_44, rfl, l_45, u_46, p_47, rfl⟩) (by first | exact mp_fd_ok mp_k_cX10_isPlan_ok (by decide +kernel) | decide +kernel)
      · have c_65 : z_62.toInt < 100 := c_65
        show mp_W E X 3 37 [(0, .ref a0), (1, .int x0), (2, .int x1)] [] w4_ 0 0
        refine mp_run mp_k_cX10_isPlan_ok hF mp_tabX10_ok [mp_c (.iconst 1) 1, mp_h (.goto 4) [42]] (by decide +kernel) ?_
        show mp_W E X 3 42 [(0, .ref a0), (1, .int x0), (2, .int x1)] [.int 1] w4_ 0 0
        exact mp_iret hF hQ rfl (by decide) (Nat.le_of_ble_eq_true rfl) (Nat.le_of_ble_eq_true rfl) [0, 1, 2, 3, 4, 5, 6, 7, 8] (w' := w4_) rfl rfl (Or.inr ⟨r_40, g_41, g_42, g_43, g_44, rfl, (by first | (first | exact c_5 | omega) | decide), (by first | (first | exact mp_o1611 i_34 e_24 c_29 | omega) | decide), (by first | (first | exact mp_o1612 i_35 e_24 c_30 | omega) | decide), l_45, (by (first | exact mp_o1613 c_65 i_34 e_64 e_24 c_29 | omega)), p_47, (by first | (first | exact c_5 | omega) | decide | (have h8 : (0 : Int32).toInt = 0 := rfl; have h9 : (1 : Int32).toInt = 1 := rfl; have h10 : (-1 : Int32).toInt = -1 := rfl; omega)), (by first | (first | exact x_7 | omega) | decide | (have h8 : (0 : Int32).toInt = 0 := rfl; have h9 : (1 : Int32).toInt = 1 := rfl; have h10 : (-1 : Int32).toInt = -1 := rfl; omega)), (by first | (first | exact mp_o1611 i_34 e_24 c_29 | omega) | decide | (have h8 : (0 : Int32).toInt = 0 := rfl; have h9 : (1 : Int32).toInt = 1 := rfl; have h10 : (-1 : Int32).toInt = -1 := rfl; omega)), (by first | (first | exact mp_o1612 i_35 e_24 c_30 | omega) | decide | (have h8 : (0 : Int32).toInt = 0 := rfl; have h9 : (1 : Int32).toInt = 1 := rfl; have h10 : (-1 : Int32).toInt = -1 := rfl; omega)), (by first | (first | exact mp_o1614 c_65 e_64 | omega) | decide | (have h8 : (0 : Int32).toInt = 0 := rfl; have h9 : (1 : Int32).toInt = 1 := rfl; have h10 : (-1 : Int32).toInt = -1 := rfl; omega)), rfl⟩) (by first | exact mp_fd_ok mp_k_cX10_isPlan_ok (by decide +kernel) | decide +kernel)
set_option maxHeartbeats 4000000 in
set_option maxRecDepth 100000 in
theorem bX10_keptNow_106 (E : mp_E) (a0 a1 a2 a3 a4 a5 a6 a7 a8 a9 a10 a11 a12 a13 a14 a15 a16 a17 a18 a19 a20 a21 a22 a23 a24 a25 : Nat) (f0 : Nat → Int32) (f1 : Nat → Int32) (f2 : Nat → Int32) (f3 : Nat → Int32) (y0 : Int32) (y1 : Int32) (y2 : Int32) (y3 : Int32) (y4 : Int32) (y5 : Int32) (y6 : Int64) (y7 : Int32) (y8 : Int32) (y9 : Int32) (y10 : Int32) (y11 : Int32) (y12 : Int32) (y13 : Int32) (y14 : Int32) (y15 : Int32) (y16 : Int32) (y17 : Int32) (y18 : Int32) (y19 : Int32) (y20 : Int32) (y21 : Int32) (x0 : Int32) (p0 : mp_res f0 25 5 0 0 6) (p1 : mp_res f0 25 5 1 0 99) (p2 : mp_res f0 25 5 2 0 6) (p3 : mp_res f0 25 5 3 0 10) (p4 : mp_res f0 25 5 4 0 60) (p5 : mp_res f1 90 3 0 0 5) (p6 : mp_res f1 90 3 1 (-1) 99) (p7 : mp_res f2 300 6 0 0 5) (p8 : mp_res f2 300 6 1 0 5) (p9 : mp_res f2 300 6 3 0 99) (p10 : mp_res f2 300 6 4 0 1) (l_y1 : 0 ≤ y1.toInt) (u_y1 : y1.toInt ≤ 1600) (l_y2 : 0 ≤ y2.toInt) (u_y2 : y2.toInt ≤ 1600) (l_y3 : 0 ≤ y3.toInt) (u_y3 : y3.toInt ≤ 4) (l_y4 : 0 ≤ y4.toInt) (u_y4 : y4.toInt ≤ 1600) (l_y11 : 0 ≤ y11.toInt) (u_y11 : y11.toInt ≤ 99) (l_y12 : 0 ≤ y12.toInt) (u_y12 : y12.toInt ≤ 5) (l_y13 : 0 ≤ y13.toInt) (u_y13 : y13.toInt ≤ 12) : mp_Ct E yX10_keptNow cX10_keptNow 4 (some FieldType.int) 2 0 0 47 [.ref a0, .int x0] [(mp_ob10 a0 y0 a5 a6 a7 a8 a9 y1 y2 y3 y4 y5 y6 y7 y8 y9 y10 a10 a1 a11 a12 a2 a3 a13 a14 y11 a15 a16 a17 a4 y12 y13 y14 a18 a19 y15 y16 a20 a21 a22 y17 y18 y19 y20 a23 a24 a25 y21), (mp_arI E a1 0 25 f0), (mp_arI E a2 0 90 f1), (mp_arI E a3 0 300 f2), (mp_arI E a4 3 1500 f3)] (fun v w' => ∃ r1 : Int32, v = some (.int r1) ∧ 0 ≤ r1.toInt ∧ r1.toInt ≤ 1023 ∧ w' = [(mp_ob10 a0 y0 a5 a6 a7 a8 a9 y1 y2 y3 y4 y5 y6 y7 y8 y9 y10 a10 a1 a11 a12 a2 a3 a13 a14 y11 a15 a16 a17 a4 y12 y13 y14 a18 a19 y15 y16 a20 a21 a22 y17 y18 y19 y20 a23 a24 a25 y21), (mp_arI E a1 0 25 f0), (mp_arI E a2 0 90 f1), (mp_arI E a3 0 300 f2), (mp_arI E a4 3 1500 f3)]) := by
  refine mp_met false (by decide) (by decide) (Nat.le_of_ble_eq_true rfl) (fun X hF hQ => ?_)
  have hF : mp_F E X (RX10, cX10_keptNow, 4, (2, 0, 0, 47), (some FieldType.int), false) := hF
  let w1_ : va_W := [(mp_ob10 a0 y0 a5 a6 a7 a8 a9 y1 y2 y3 y4 y5 y6 y7 y8 y9 y10 a10 a1 a11 a12 a2 a3 a13 a14 y11 a15 a16 a17 a4 y12 y13 y14 a18 a19 y15 y16 a20 a21 a22 y17 y18 y19 y20 a23 a24 a25 y21), (mp_arI E a1 0 25 f0), (mp_arI E a2 0 90 f1), (mp_arI E a3 0 300 f2), (mp_arI E a4 3 1500 f3)]
  show mp_W E X 4 0 [(0, .ref a0), (1, .int x0)] [] w1_ 0 0
  refine mp_run mp_k_cX10_keptNow_ok hF mp_tabX10_ok [mp_c (.iconst 0) 0, mp_i (.istore_n 2), mp_c (.iconst 0) 0, mp_i (.istore_n 3)] (by decide +kernel) ?_
  show mp_W E X 4 4 [(3, .int 0), (2, .int 0), (0, .ref a0), (1, .int x0)] [] w1_ 0 0
  have lp_7 : ∀ (d_8 : Nat) (i_1 : Int32) (i_2 : Int32), 0 ≤ i_1.toInt → i_1.toInt ≤ 10 → 0 ≤ i_2.toInt → i_2.toInt ≤ 1023 → (f0 3).toInt - i_1.toInt ≤ (d_8 : Int) → mp_W E X 4 4 [(3, .int i_1), (2, .int i_2), (0, .ref a0), (1, .int x0)] [] [(mp_ob10 a0 y0 a5 a6 a7 a8 a9 y1 y2 y3 y4 y5 y6 y7 y8 y9 y10 a10 a1 a11 a12 a2 a3 a13 a14 y11 a15 a16 a17 a4 y12 y13 y14 a18 a19 y15 y16 a20 a21 a22 y17 y18 y19 y20 a23 a24 a25 y21), (mp_arI E a1 0 25 f0), (mp_arI E a2 0 90 f1), (mp_arI E a3 0 300 f2), (mp_arI E a4 3 1500 f3)] 0 0 := by
    intro d_8
    induction d_8 using Nat.strongRecOn with
    | ind d_8 ih_9 =>
      intro i_1 i_2 l_3 u_4 l_5 u_6 hm_10
      refine mp_run mp_k_cX10_keptNow_ok hF mp_tabX10_ok [mp_i (.iload_n 3), mp_i (.aload_n 0), mp_h (.getfield 34) [17, 0], mp_c (.iconst 3) 3, mp_h .iaload [1], mp_h (.if_icmp .ge 42) [53]] (by decide +kernel) ?_
      refine And.intro rfl (And.intro rfl ?_)
      refine And.intro rfl (And.intro rfl (And.intro (vp_in_iff.mpr (by decide)) ?_))
      intro z_11 h_12
      have e_13 : 0 ≤ z_11.toInt ∧ z_11.toInt ≤ 10 := mp_res_ld h_12 p3 (by decide) (by decide) (by decide)
      have e_14 : z_11.toInt = (f0 3).toInt := congrArg Int32.toInt (mp_at h_12 (by decide) rfl)
      refine And.intro (fun c_15 => ?_) (fun c_15 => ?_)
      · have c_15 : z_11.toInt ≤ i_1.toInt := c_15
        show mp_W E X 4 53 [(3, .int i_1), (2, .int i_2), (0, .ref a0), (1, .int x0)] [] w1_ 0 0
        refine mp_run mp_k_cX10_keptNow_ok hF mp_tabX10_ok [mp_i (.iload_n 2)] (by decide +kernel) ?_
        show mp_W E X 4 54 [(3, .int i_1), (2, .int i_2), (0, .ref a0), (1, .int x0)] [.int i_2] w1_ 0 0
        exact mp_iret hF hQ rfl rfl (Nat.le_of_ble_eq_true rfl) (Nat.le_of_ble_eq_true rfl) [0, 1, 2, 3, 4] (w' := w1_) rfl rfl ⟨i_2, rfl, l_5, u_6, rfl⟩ (by first | exact mp_fd_ok mp_k_cX10_keptNow_ok (by decide +kernel) | decide +kernel)
      · have c_15 : i_1.toInt < z_11.toInt := c_15
        show mp_W E X 4 14 [(3, .int i_1), (2, .int i_2), (0, .ref a0), (1, .int x0)] [] w1_ 0 0
        refine mp_run mp_k_cX10_keptNow_ok hF mp_tabX10_ok [mp_i (.iload_n 2), mp_i (.aload_n 0), mp_i (.iload_n 3), mp_c (.iconst 0) 0] (by decide +kernel) ?_
        show mp_W E X 4 18 [(3, .int i_1), (2, .int i_2), (0, .ref a0), (1, .int x0)] [.int 0, .int i_1, .ref a0, .int i_2] w1_ 0 0
        refine mp_callV hF (As := [.int i_1, .int 0]) (rest := [.int i_2]) (wr := [(mp_arI E a1 0 25 f0), (mp_arI E a2 0 90 f1), (mp_arI E a4 3 1500 f3)]) (bX10_of_64 E a0 a3 a5 a6 a7 a8 a9 a10 a1 a11 a12 a2 a13 a14 a15 a16 a17 a4 a18 a19 a20 a21 a22 a23 a24 a25 f2 y0 y1 y2 y3 y4 y5 y6 y7 y8 y9 y10 y11 y12 y13 y14 y15 y16 y17 y18 y19 y20 y21 i_1 p7 p8 p9 p10 l_3 (by (first | exact mp_o1533 c_15 e_13 | omega)) l_y1 u_y1 l_y2 u_y2 l_y3 u_y3 l_y4 u_y4 l_y11 u_y11 l_y12 u_y12 l_y13 u_y13) mp_lkX10_267 0 rfl [0, 3] [1, 2, 4] rfl rfl rfl rfl rfl ⟨(Nat.le_of_ble_eq_true rfl), (Nat.le_of_ble_eq_true rfl), (Nat.le_of_ble_eq_true rfl), (Nat.le_of_ble_eq_true rfl)⟩ (Nat.le_of_ble_eq_true rfl) (by first | exact mp_fd_ok mp_k_cX10_keptNow_ok (by decide +kernel) | decide +kernel) (fun v_16 w_17 h_18 => ?_)
        refine h_18.elim fun r_19 q_23 => q_23.elim fun e_24 q_25 => q_25.elim fun l_20 q_26 => q_26.elim fun u_21 q_27 => q_27.elim fun x_22 e_28 => ?_
        clear h_18 q_23 q_25 q_26 q_27
        subst e_24
        subst e_28
        let w2_ : va_W := [(mp_arI E a1 0 25 f0), (mp_arI E a2 0 90 f1), (mp_arI E a4 3 1500 f3), (mp_ob10 a0 y0 a5 a6 a7 a8 a9 y1 y2 y3 y4 y5 y6 y7 y8 y9 y10 a10 a1 a11 a12 a2 a3 a13 a14 y11 a15 a16 a17 a4 y12 y13 y14 a18 a19 y15 y16 a20 a21 a22 y17 y18 y19 y20 a23 a24 a25 y21), (mp_arI E a3 0 300 f2)]
        show mp_W E X 4 21 [(3, .int i_1), (2, .int i_2), (0, .ref a0), (1, .int x0)] [.int r_19, .int i_2] w2_ 0 0
        refine mp_run mp_k_cX10_keptNow_ok hF mp_tabX10_ok [mp_i (.iload_n 1), mp_h (.if_icmp .ne 22) [44]] (by decide +kernel) ?_
        refine And.intro (fun c_29 => ?_) (fun c_29 => ?_)
        · have c_29 : r_19.toInt ≠ x0.toInt := c_29
          show mp_W E X 4 44 [(3, .int i_1), (2, .int i_2), (0, .ref a0), (1, .int x0)] [.int i_2] w2_ 0 0
          refine mp_run mp_k_cX10_keptNow_ok hF mp_tabX10_ok [mp_c (.iconst 0) 0, mp_i .ior, mp_i (.istore_n 2), mp_c (.iinc 3 1) 1, mp_h (.goto (-46)) [4]] (by decide +kernel) ?_
          intro z_30 h_31
          have e_33 : 0 ≤ z_30.toInt ∧ z_30.toInt ≤ 1023 := mp_or10 h_31 ⟨by (first | exact l_5 | omega), by (first | exact u_6 | omega)⟩ ⟨by decide, by decide⟩
          intro z_34 h_35
          have e_36 : z_34.toInt = i_1.toInt + 1 := mp_add (a := i_1.toInt) (b := 1) h_35 rfl (by decide) (by (first | exact mp_o2 l_3 | omega)) (by (first | exact mp_o420 u_4 | omega))
          show mp_W E X 4 4 [(3, .int z_34), (2, .int z_30), (0, .ref a0), (1, .int x0)] [] w2_ 0 0
          exact mp_sub [0, 1, 2, 3] rfl [3, 0, 1, 4, 2] rfl rfl (ih_9 (d_8 - 1) (by (first | exact mp_o1454 hm_10 e_14 c_15 | omega)) z_34 z_30 (by (first | exact mp_o51 l_3 e_36 | omega)) (by (first | exact mp_o1534 e_36 c_15 e_13 | omega)) (by (first | exact mp_o465 e_33 | omega)) (by (first | exact mp_o466 e_33 | omega)) (by (first | exact mp_o77 hm_10 e_36 | omega)))
        · have c_29 : r_19.toInt = x0.toInt := (congrArg Int32.toInt c_29)
          show mp_W E X 4 25 [(3, .int i_1), (2, .int i_2), (0, .ref a0), (1, .int x0)] [.int i_2] w2_ 0 0
          refine mp_run mp_k_cX10_keptNow_ok hF mp_tabX10_ok [mp_i (.aload_n 0), mp_i (.iload_n 3), mp_i (.aload_n 0), mp_h (.getfield 276) [24, 3]] (by decide +kernel) ?_
          refine And.intro rfl (And.intro rfl ?_)
          show mp_W E X 4 31 [(3, .int i_1), (2, .int i_2), (0, .ref a0), (1, .int x0)] [.int y11, .int i_1, .ref a0, .int i_2] w2_ 0 0
          refine mp_callV hF (As := [.int i_1, .int y11]) (rest := [.int i_2]) (wr := [(mp_arI E a1 0 25 f0)]) (bX10_ownOf_66 E a0 a2 a3 a4 a5 a6 a7 a8 a9 a10 a1 a11 a12 a13 a14 a15 a16 a17 a18 a19 a20 a21 a22 a23 a24 a25 f1 f2 f3 y0 y1 y2 y3 y4 y5 y6 y7 y8 y9 y10 y11 y12 y13 y14 y15 y16 y17 y18 y19 y20 y21 i_1 y11 p5 p6 p7 p8 p9 p10 l_3 (by (first | exact mp_o1533 c_15 e_13 | omega)) l_y11 (by (first | exact mp_o1513 u_y11 | omega)) l_y1 u_y1 l_y2 u_y2 l_y3 u_y3 l_y4 u_y4 l_y11 u_y11 l_y12 u_y12 l_y13 u_y13) mp_lkX10_279 3 rfl [3, 1, 4, 2] [0] rfl rfl rfl rfl rfl ⟨(Nat.le_of_ble_eq_true rfl), (Nat.le_of_ble_eq_true rfl), (Nat.le_of_ble_eq_true rfl), (Nat.le_of_ble_eq_true rfl)⟩ (Nat.le_of_ble_eq_true rfl) (by first | exact mp_fd_ok mp_k_cX10_keptNow_ok (by decide +kernel) | decide +kernel) (fun v_37 w_38 h_39 => ?_)
          refine h_39.elim fun r_40 q_44 => q_44.elim fun e_45 q_46 => q_46.elim fun l_41 q_47 => q_47.elim fun u_42 q_48 => q_48.elim fun x_43 e_49 => ?_
          clear h_39 q_44 q_46 q_47 q_48
          subst e_45
          subst e_49
          let w3_ : va_W := [(mp_arI E a1 0 25 f0), (mp_ob10 a0 y0 a5 a6 a7 a8 a9 y1 y2 y3 y4 y5 y6 y7 y8 y9 y10 a10 a1 a11 a12 a2 a3 a13 a14 y11 a15 a16 a17 a4 y12 y13 y14 a18 a19 y15 y16 a20 a21 a22 y17 y18 y19 y20 a23 a24 a25 y21), (mp_arI E a2 0 90 f1), (mp_arI E a3 0 300 f2), (mp_arI E a4 3 1500 f3)]
          show mp_W E X 4 34 [(3, .int i_1), (2, .int i_2), (0, .ref a0), (1, .int x0)] [.int r_40, .int i_2] w3_ 0 0
          refine mp_run mp_k_cX10_keptNow_ok hF mp_tabX10_ok [mp_c (.iconst 1) 1, mp_h (.if_icmp .gt 9) [44]] (by decide +kernel) ?_
          refine And.intro (fun c_50 => ?_) (fun c_50 => ?_)
          · have c_50 : 1 < r_40.toInt := c_50
            show mp_W E X 4 44 [(3, .int i_1), (2, .int i_2), (0, .ref a0), (1, .int x0)] [.int i_2] w3_ 0 0
            refine mp_run mp_k_cX10_keptNow_ok hF mp_tabX10_ok [mp_c (.iconst 0) 0, mp_i .ior, mp_i (.istore_n 2), mp_c (.iinc 3 1) 1, mp_h (.goto (-46)) [4]] (by decide +kernel) ?_
            intro z_51 h_52
            have e_54 : 0 ≤ z_51.toInt ∧ z_51.toInt ≤ 1023 := mp_or10 h_52 ⟨by (first | exact l_5 | omega), by (first | exact u_6 | omega)⟩ ⟨by decide, by decide⟩
            intro z_55 h_56
            have e_57 : z_55.toInt = i_1.toInt + 1 := mp_add (a := i_1.toInt) (b := 1) h_56 rfl (by decide) (by (first | exact mp_o2 l_3 | omega)) (by (first | exact mp_o420 u_4 | omega))
            show mp_W E X 4 4 [(3, .int z_55), (2, .int z_51), (0, .ref a0), (1, .int x0)] [] w3_ 0 0
            exact mp_sub [0, 1, 2, 3] rfl [1, 0, 2, 3, 4] rfl rfl (ih_9 (d_8 - 1) (by (first | exact mp_o1454 hm_10 e_14 c_15 | omega)) z_55 z_51 (by (first | exact mp_o51 l_3 e_57 | omega)) (by (first | exact mp_o1534 e_57 c_15 e_13 | omega)) (by (first | exact mp_o465 e_54 | omega)) (by (first | exact mp_o466 e_54 | omega)) (by (first | exact mp_o77 hm_10 e_57 | omega)))
          · have c_50 : r_40.toInt ≤ 1 := c_50
            show mp_W E X 4 38 [(3, .int i_1), (2, .int i_2), (0, .ref a0), (1, .int x0)] [.int i_2] w3_ 0 0
            refine mp_run mp_k_cX10_keptNow_ok hF mp_tabX10_ok [mp_c (.iconst 1) 1, mp_i (.iload_n 3), mp_i .ishl, mp_h (.goto 4) [45], mp_i .ior, mp_i (.istore_n 2), mp_c (.iinc 3 1) 1, mp_h (.goto (-46)) [4]] (by decide +kernel) ?_
            intro z_58 h_59
            have e_61 : 1 ≤ z_58.toInt ∧ z_58.toInt ≤ 512 := mp_shl10 h_59 (by (first | exact l_3 | omega)) (by (first | exact mp_o1533 c_15 e_13 | omega))
            intro z_62 h_63
            have e_65 : 0 ≤ z_62.toInt ∧ z_62.toInt ≤ 1023 := mp_or10 h_63 ⟨by (first | exact l_5 | omega), by (first | exact u_6 | omega)⟩ ⟨by (first | exact mp_o463 e_61 | omega), by (first | exact mp_o464 e_61 | omega)⟩
            intro z_66 h_67
            have e_68 : z_66.toInt = i_1.toInt + 1 := mp_add (a := i_1.toInt) (b := 1) h_67 rfl (by decide) (by (first | exact mp_o2 l_3 | omega)) (by (first | exact mp_o420 u_4 | omega))
            show mp_W E X 4 4 [(3, .int z_66), (2, .int z_62), (0, .ref a0), (1, .int x0)] [] w3_ 0 0
            exact mp_sub [0, 1, 2, 3] rfl [1, 0, 2, 3, 4] rfl rfl (ih_9 (d_8 - 1) (by (first | exact mp_o1454 hm_10 e_14 c_15 | omega)) z_66 z_62 (by (first | exact mp_o51 l_3 e_68 | omega)) (by (first | exact mp_o1534 e_68 c_15 e_13 | omega)) (by (first | exact mp_o465 e_65 | omega)) (by (first | exact mp_o466 e_65 | omega)) (by (first | exact mp_o77 hm_10 e_68 | omega)))
  exact mp_sub [0, 1, 2, 3] rfl [0, 1, 2, 3, 4] rfl rfl (lp_7 _ 0 0 (by decide) (by decide) (by decide) (by decide) (Int.self_le_toNat _))
set_option maxHeartbeats 4000000 in
set_option maxRecDepth 100000 in
theorem bX10_onceNow_107 (E : mp_E) (a0 a1 a2 a3 a4 a5 a6 a7 a8 a9 a10 a11 a12 a13 a14 a15 a16 a17 a18 a19 a20 a21 a22 a23 a24 a25 : Nat) (f0 : Nat → Int32) (f1 : Nat → Int32) (f2 : Nat → Int32) (f3 : Nat → Int32) (y0 : Int32) (y1 : Int32) (y2 : Int32) (y3 : Int32) (y4 : Int32) (y5 : Int32) (y6 : Int64) (y7 : Int32) (y8 : Int32) (y9 : Int32) (y10 : Int32) (y11 : Int32) (y12 : Int32) (y13 : Int32) (y14 : Int32) (y15 : Int32) (y16 : Int32) (y17 : Int32) (y18 : Int32) (y19 : Int32) (y20 : Int32) (y21 : Int32) (p0 : mp_res f0 25 5 0 0 6) (p1 : mp_res f0 25 5 1 0 99) (p2 : mp_res f0 25 5 2 0 6) (p3 : mp_res f0 25 5 3 0 10) (p4 : mp_res f0 25 5 4 0 60) (p5 : mp_res f1 90 3 0 0 5) (p6 : mp_res f1 90 3 1 (-1) 99) (p7 : mp_res f2 300 6 0 0 5) (p8 : mp_res f2 300 6 1 0 5) (p9 : mp_res f2 300 6 3 0 99) (p10 : mp_res f2 300 6 4 0 1) (l_y1 : 0 ≤ y1.toInt) (u_y1 : y1.toInt ≤ 1600) (l_y2 : 0 ≤ y2.toInt) (u_y2 : y2.toInt ≤ 1600) (l_y3 : 0 ≤ y3.toInt) (u_y3 : y3.toInt ≤ 4) (l_y4 : 0 ≤ y4.toInt) (u_y4 : y4.toInt ≤ 1600) (l_y11 : 0 ≤ y11.toInt) (u_y11 : y11.toInt ≤ 99) (l_y12 : 0 ≤ y12.toInt) (u_y12 : y12.toInt ≤ 5) (l_y13 : 0 ≤ y13.toInt) (u_y13 : y13.toInt ≤ 12) : mp_Ct E yX10_onceNow cX10_onceNow 3 (some FieldType.int) 2 0 0 47 [.ref a0] [(mp_ob10 a0 y0 a5 a6 a7 a8 a9 y1 y2 y3 y4 y5 y6 y7 y8 y9 y10 a10 a1 a11 a12 a2 a3 a13 a14 y11 a15 a16 a17 a4 y12 y13 y14 a18 a19 y15 y16 a20 a21 a22 y17 y18 y19 y20 a23 a24 a25 y21), (mp_arI E a1 0 25 f0), (mp_arI E a2 0 90 f1), (mp_arI E a3 0 300 f2), (mp_arI E a4 3 1500 f3)] (fun v w' => ∃ r1 : Int32, v = some (.int r1) ∧ 0 ≤ r1.toInt ∧ r1.toInt ≤ 1023 ∧ (r1 = mp_onw y14 f3 f2 f1 y11.toInt (f0 3).toInt.toNat) ∧ w' = [(mp_ob10 a0 y0 a5 a6 a7 a8 a9 y1 y2 y3 y4 y5 y6 y7 y8 y9 y10 a10 a1 a11 a12 a2 a3 a13 a14 y11 a15 a16 a17 a4 y12 y13 y14 a18 a19 y15 y16 a20 a21 a22 y17 y18 y19 y20 a23 a24 a25 y21), (mp_arI E a1 0 25 f0), (mp_arI E a2 0 90 f1), (mp_arI E a3 0 300 f2), (mp_arI E a4 3 1500 f3)]) := by
  refine mp_met false (by decide) (by decide) (Nat.le_of_ble_eq_true rfl) (fun X hF hQ => ?_)
  have hF : mp_F E X (RX10, cX10_onceNow, 3, (2, 0, 0, 47), (some FieldType.int), false) := hF
  let w1_ : va_W := [(mp_ob10 a0 y0 a5 a6 a7 a8 a9 y1 y2 y3 y4 y5 y6 y7 y8 y9 y10 a10 a1 a11 a12 a2 a3 a13 a14 y11 a15 a16 a17 a4 y12 y13 y14 a18 a19 y15 y16 a20 a21 a22 y17 y18 y19 y20 a23 a24 a25 y21), (mp_arI E a1 0 25 f0), (mp_arI E a2 0 90 f1), (mp_arI E a3 0 300 f2), (mp_arI E a4 3 1500 f3)]
  show mp_W E X 3 0 [(0, .ref a0)] [] w1_ 0 0
  refine mp_run mp_k_cX10_onceNow_ok hF mp_tabX10_ok [mp_c (.iconst 0) 0, mp_i (.istore_n 1), mp_c (.iconst 0) 0, mp_i (.istore_n 2)] (by decide +kernel) ?_
  show mp_W E X 3 4 [(2, .int 0), (1, .int 0), (0, .ref a0)] [] w1_ 0 0
  have lp_9 : ∀ (d_10 : Nat) (i_1 : Int32) (i_2 : Int32), 0 ≤ i_1.toInt → i_1.toInt ≤ 10 → 0 ≤ i_2.toInt → i_2.toInt ≤ 1023 → (i_2 = mp_onw y14 f3 f2 f1 y11.toInt i_1.toInt.toNat) → (i_1.toInt ≤ (f0 3).toInt) → (f0 3).toInt - i_1.toInt ≤ (d_10 : Int) → mp_W E X 3 4 [(2, .int i_1), (1, .int i_2), (0, .ref a0)] [] [(mp_ob10 a0 y0 a5 a6 a7 a8 a9 y1 y2 y3 y4 y5 y6 y7 y8 y9 y10 a10 a1 a11 a12 a2 a3 a13 a14 y11 a15 a16 a17 a4 y12 y13 y14 a18 a19 y15 y16 a20 a21 a22 y17 y18 y19 y20 a23 a24 a25 y21), (mp_arI E a1 0 25 f0), (mp_arI E a2 0 90 f1), (mp_arI E a3 0 300 f2), (mp_arI E a4 3 1500 f3)] 0 0 := by
    intro d_10
    induction d_10 using Nat.strongRecOn with
    | ind d_10 ih_11 =>
      intro i_1 i_2 l_3 u_4 l_5 u_6 x_7 x_8 hm_12
      refine mp_run mp_k_cX10_onceNow_ok hF mp_tabX10_ok [mp_i (.iload_n 2), mp_i (.aload_n 0), mp_h (.getfield 34) [17, 0], mp_c (.iconst 3) 3, mp_h .iaload [1], mp_h (.if_icmp .ge 43) [54]] (by decide +kernel) ?_
      refine And.intro rfl (And.intro rfl ?_)
      refine And.intro rfl (And.intro rfl (And.intro (vp_in_iff.mpr (by decide)) ?_))
      intro z_13 h_14
      have e_15 : 0 ≤ z_13.toInt ∧ z_13.toInt ≤ 10 := mp_res_ld h_14 p3 (by decide) (by decide) (by decide)
      have e_16 : z_13.toInt = (f0 3).toInt := congrArg Int32.toInt (mp_at h_14 (by decide) rfl)
      refine And.intro (fun c_17 => ?_) (fun c_17 => ?_)
      · have c_17 : z_13.toInt ≤ i_1.toInt := c_17
        show mp_W E X 3 54 [(2, .int i_1), (1, .int i_2), (0, .ref a0)] [] w1_ 0 0
        refine mp_run mp_k_cX10_onceNow_ok hF mp_tabX10_ok [mp_i (.iload_n 1)] (by decide +kernel) ?_
        show mp_W E X 3 55 [(2, .int i_1), (1, .int i_2), (0, .ref a0)] [.int i_2] w1_ 0 0
        exact mp_iret hF hQ rfl rfl (Nat.le_of_ble_eq_true rfl) (Nat.le_of_ble_eq_true rfl) [0, 1, 2, 3, 4] (w' := w1_) rfl rfl ⟨i_2, rfl, l_5, u_6, (by rw [show i_1.toInt.toNat = (f0 3).toInt.toNat by (first | exact mp_o1437 x_8 e_16 c_17 | omega)] at x_7; exact x_7), rfl⟩ (by first | exact mp_fd_ok mp_k_cX10_onceNow_ok (by decide +kernel) | decide +kernel)
      · have c_17 : i_1.toInt < z_13.toInt := c_17
        show mp_W E X 3 14 [(2, .int i_1), (1, .int i_2), (0, .ref a0)] [] w1_ 0 0
        refine mp_run mp_k_cX10_onceNow_ok hF mp_tabX10_ok [mp_i (.iload_n 1), mp_i (.aload_n 0), mp_h (.getfield 334) [31, 0], mp_i (.iload_n 2)] (by decide +kernel) ?_
        refine And.intro rfl (And.intro rfl ?_)
        show mp_W E X 3 20 [(2, .int i_1), (1, .int i_2), (0, .ref a0)] [.int i_1, .int y14, .int i_2] w1_ 0 0
        refine mp_callS hF (As := [.int y14, .int i_1]) (rest := [.int i_2]) (wr := w1_) (bX10_isBit_86 E y14 i_1) mp_lkX10_312 [] [0, 1, 2, 3, 4] rfl rfl rfl rfl rfl ⟨(Nat.le_of_ble_eq_true rfl), (Nat.le_of_ble_eq_true rfl), (Nat.le_of_ble_eq_true rfl), (Nat.le_of_ble_eq_true rfl)⟩ (Nat.le_of_ble_eq_true rfl) (by first | exact mp_fd_ok mp_k_cX10_onceNow_ok (by decide +kernel) | decide +kernel) (fun v_18 w_19 h_20 => ?_)
        rcases h_20 with ⟨rfl, x_21, rfl⟩ | ⟨rfl, x_22, rfl⟩
        · skip
          show mp_W E X 3 23 [(2, .int i_1), (1, .int i_2), (0, .ref a0)] [.int 0, .int i_2] w1_ 0 0
          refine mp_run mp_k_cX10_onceNow_ok hF mp_tabX10_ok [mp_h (.ifCond .eq 22) [45]] (by decide +kernel) ?_
          refine And.intro (fun _ => ?_) (fun c_23 => absurd c_23 (by decide))
          show mp_W E X 3 45 [(2, .int i_1), (1, .int i_2), (0, .ref a0)] [.int i_2] w1_ 0 0
          refine mp_run mp_k_cX10_onceNow_ok hF mp_tabX10_ok [mp_c (.iconst 0) 0, mp_i .ior, mp_i (.istore_n 1), mp_c (.iinc 2 1) 1, mp_h (.goto (-47)) [4]] (by decide +kernel) ?_
          intro z_24 h_25
          have e_27 : 0 ≤ z_24.toInt ∧ z_24.toInt ≤ 1023 := mp_or10 h_25 ⟨by (first | exact l_5 | omega), by (first | exact u_6 | omega)⟩ ⟨by decide, by decide⟩
          intro z_28 h_29
          have e_30 : z_28.toInt = i_1.toInt + 1 := mp_add (a := i_1.toInt) (b := 1) h_29 rfl (by decide) (by (first | exact mp_o2 l_3 | omega)) (by (first | exact mp_o420 u_4 | omega))
          show mp_W E X 3 4 [(2, .int z_28), (1, .int z_24), (0, .ref a0)] [] w1_ 0 0
          exact mp_sub [0, 1, 2] rfl [0, 1, 2, 3, 4] rfl rfl (ih_11 (d_10 - 1) (by (first | exact mp_o1454 hm_12 e_16 c_17 | omega)) z_28 z_24 (by (first | exact mp_o51 l_3 e_30 | omega)) (by (first | exact mp_o1534 e_30 c_17 e_15 | omega)) (by (first | exact mp_o465 e_27 | omega)) (by (first | exact mp_o466 e_27 | omega)) (mp_onw_s (k := i_1) x_7 h_25 (by (first | exact mp_o369 l_3 | omega)) (by first | exact Or.inl ⟨⟨by assumption, mp_one_t x (by omega)⟩, rfl⟩ | exact Or.inr ⟨fun q => absurd q.1 (by assumption), rfl⟩ | exact Or.inr ⟨fun q => mp_one_f x (by omega) q.2, rfl⟩) (by (first | exact mp_o772 l_3 e_30 | omega))) (by (first | exact mp_o1457 e_16 c_17 e_30 | omega)) (by (first | exact mp_o77 hm_12 e_30 | omega)))
        · skip
          show mp_W E X 3 23 [(2, .int i_1), (1, .int i_2), (0, .ref a0)] [.int 1, .int i_2] w1_ 0 0
          refine mp_run mp_k_cX10_onceNow_ok hF mp_tabX10_ok [mp_h (.ifCond .eq 22) [45]] (by decide +kernel) ?_
          refine And.intro (fun c_31 => absurd c_31 (by decide)) (fun _ => ?_)
          show mp_W E X 3 26 [(2, .int i_1), (1, .int i_2), (0, .ref a0)] [.int i_2] w1_ 0 0
          refine mp_run mp_k_cX10_onceNow_ok hF mp_tabX10_ok [mp_i (.aload_n 0), mp_i (.iload_n 2), mp_i (.aload_n 0), mp_h (.getfield 276) [24, 0]] (by decide +kernel) ?_
          refine And.intro rfl (And.intro rfl ?_)
          show mp_W E X 3 32 [(2, .int i_1), (1, .int i_2), (0, .ref a0)] [.int y11, .int i_1, .ref a0, .int i_2] w1_ 0 0
          refine mp_callV hF (As := [.int i_1, .int y11]) (rest := [.int i_2]) (wr := [(mp_arI E a1 0 25 f0)]) (bX10_ownOf_66 E a0 a2 a3 a4 a5 a6 a7 a8 a9 a10 a1 a11 a12 a13 a14 a15 a16 a17 a18 a19 a20 a21 a22 a23 a24 a25 f1 f2 f3 y0 y1 y2 y3 y4 y5 y6 y7 y8 y9 y10 y11 y12 y13 y14 y15 y16 y17 y18 y19 y20 y21 i_1 y11 p5 p6 p7 p8 p9 p10 l_3 (by omega) l_y11 (by (first | exact mp_o1513 u_y11 | omega)) l_y1 u_y1 l_y2 u_y2 l_y3 u_y3 l_y4 u_y4 l_y11 u_y11 l_y12 u_y12 l_y13 u_y13) mp_lkX10_279 0 rfl [0, 2, 3, 4] [1] rfl rfl rfl rfl rfl ⟨(Nat.le_of_ble_eq_true rfl), (Nat.le_of_ble_eq_true rfl), (Nat.le_of_ble_eq_true rfl), (Nat.le_of_ble_eq_true rfl)⟩ (Nat.le_of_ble_eq_true rfl) (by first | exact mp_fd_ok mp_k_cX10_onceNow_ok (by decide +kernel) | decide +kernel) (fun v_32 w_33 h_34 => ?_)
          refine h_34.elim fun r_35 q_39 => q_39.elim fun e_40 q_41 => q_41.elim fun l_36 q_42 => q_42.elim fun u_37 q_43 => q_43.elim fun x_38 e_44 => ?_
          clear h_34 q_39 q_41 q_42 q_43
          subst e_40
          subst e_44
          let w2_ : va_W := [(mp_arI E a1 0 25 f0), (mp_ob10 a0 y0 a5 a6 a7 a8 a9 y1 y2 y3 y4 y5 y6 y7 y8 y9 y10 a10 a1 a11 a12 a2 a3 a13 a14 y11 a15 a16 a17 a4 y12 y13 y14 a18 a19 y15 y16 a20 a21 a22 y17 y18 y19 y20 a23 a24 a25 y21), (mp_arI E a2 0 90 f1), (mp_arI E a3 0 300 f2), (mp_arI E a4 3 1500 f3)]
          show mp_W E X 3 35 [(2, .int i_1), (1, .int i_2), (0, .ref a0)] [.int r_35, .int i_2] w2_ 0 0
          refine mp_run mp_k_cX10_onceNow_ok hF mp_tabX10_ok [mp_c (.iconst 1) 1, mp_h (.if_icmp .ne 9) [45]] (by decide +kernel) ?_
          refine And.intro (fun c_45 => ?_) (fun c_45 => ?_)
          · have c_45 : r_35.toInt ≠ 1 := c_45
            show mp_W E X 3 45 [(2, .int i_1), (1, .int i_2), (0, .ref a0)] [.int i_2] w2_ 0 0
            refine mp_run mp_k_cX10_onceNow_ok hF mp_tabX10_ok [mp_c (.iconst 0) 0, mp_i .ior, mp_i (.istore_n 1), mp_c (.iinc 2 1) 1, mp_h (.goto (-47)) [4]] (by decide +kernel) ?_
            intro z_46 h_47
            have e_49 : 0 ≤ z_46.toInt ∧ z_46.toInt ≤ 1023 := mp_or10 h_47 ⟨by (first | exact l_5 | omega), by (first | exact u_6 | omega)⟩ ⟨by decide, by decide⟩
            intro z_50 h_51
            have e_52 : z_50.toInt = i_1.toInt + 1 := mp_add (a := i_1.toInt) (b := 1) h_51 rfl (by decide) (by (first | exact mp_o2 l_3 | omega)) (by (first | exact mp_o420 u_4 | omega))
            show mp_W E X 3 4 [(2, .int z_50), (1, .int z_46), (0, .ref a0)] [] w2_ 0 0
            exact mp_sub [0, 1, 2] rfl [1, 0, 2, 3, 4] rfl rfl (ih_11 (d_10 - 1) (by (first | exact mp_o1454 hm_12 e_16 c_17 | omega)) z_50 z_46 (by (first | exact mp_o51 l_3 e_52 | omega)) (by (first | exact mp_o1534 e_52 c_17 e_15 | omega)) (by (first | exact mp_o465 e_49 | omega)) (by (first | exact mp_o466 e_49 | omega)) (mp_onw_s (k := i_1) x_7 h_47 (by (first | exact mp_o369 l_3 | omega)) (by first | exact Or.inl ⟨⟨by assumption, mp_one_t x_38 (by omega)⟩, rfl⟩ | exact Or.inr ⟨fun q => absurd q.1 (by assumption), rfl⟩ | exact Or.inr ⟨fun q => mp_one_f x_38 (by (first | exact c_45 | omega)) q.2, rfl⟩) (by (first | exact mp_o772 l_3 e_52 | omega))) (by (first | exact mp_o1457 e_16 c_17 e_52 | omega)) (by (first | exact mp_o77 hm_12 e_52 | omega)))
          · have c_45 : r_35.toInt = 1 := (congrArg Int32.toInt c_45)
            show mp_W E X 3 39 [(2, .int i_1), (1, .int i_2), (0, .ref a0)] [.int i_2] w2_ 0 0
            refine mp_run mp_k_cX10_onceNow_ok hF mp_tabX10_ok [mp_c (.iconst 1) 1, mp_i (.iload_n 2), mp_i .ishl, mp_h (.goto 4) [46], mp_i .ior, mp_i (.istore_n 1), mp_c (.iinc 2 1) 1, mp_h (.goto (-47)) [4]] (by decide +kernel) ?_
            intro z_53 h_54
            have e_56 : 1 ≤ z_53.toInt ∧ z_53.toInt ≤ 512 := mp_shl10 h_54 (by (first | exact l_3 | omega)) (by (first | exact mp_o1533 c_17 e_15 | omega))
            intro z_57 h_58
            have e_60 : 0 ≤ z_57.toInt ∧ z_57.toInt ≤ 1023 := mp_or10 h_58 ⟨by (first | exact l_5 | omega), by (first | exact u_6 | omega)⟩ ⟨by (first | exact mp_o463 e_56 | omega), by (first | exact mp_o464 e_56 | omega)⟩
            intro z_61 h_62
            have e_63 : z_61.toInt = i_1.toInt + 1 := mp_add (a := i_1.toInt) (b := 1) h_62 rfl (by decide) (by (first | exact mp_o2 l_3 | omega)) (by (first | exact mp_o420 u_4 | omega))
            show mp_W E X 3 4 [(2, .int z_61), (1, .int z_57), (0, .ref a0)] [] w2_ 0 0
            exact mp_sub [0, 1, 2] rfl [1, 0, 2, 3, 4] rfl rfl (ih_11 (d_10 - 1) (by (first | exact mp_o1454 hm_12 e_16 c_17 | omega)) z_61 z_57 (by (first | exact mp_o51 l_3 e_63 | omega)) (by (first | exact mp_o1534 e_63 c_17 e_15 | omega)) (by (first | exact mp_o465 e_60 | omega)) (by (first | exact mp_o466 e_60 | omega)) (mp_onw_s (k := i_1) x_7 h_58 (by (first | exact mp_o369 l_3 | omega)) (by first | exact Or.inl ⟨⟨by assumption, mp_one_t x_38 (by (first | exact c_45 | omega))⟩, h_54⟩ | exact Or.inr ⟨fun q => absurd q.1 (by assumption), rfl⟩ | exact Or.inr ⟨fun q => mp_one_f x_38 (by omega) q.2, rfl⟩) (by (first | exact mp_o772 l_3 e_63 | omega))) (by (first | exact mp_o1457 e_16 c_17 e_63 | omega)) (by (first | exact mp_o77 hm_12 e_63 | omega)))
  exact mp_sub [0, 1, 2] rfl [0, 1, 2, 3, 4] rfl rfl (lp_9 _ 0 0 (by decide) (by decide) (by decide) (by decide) rfl (by first | fail | (have := mp_res_at p3 3 (by decide) (by decide); first | fail | (show (0 : Int) ≤ _; (first | exact mp_o1615 this | omega)))) (Int.self_le_toNat _))
set_option maxHeartbeats 4000000 in
set_option maxRecDepth 100000 in
theorem bX10_oarsBy_108 (E : mp_E) (a0 a1 a2 a3 a4 a5 a6 a7 a8 a9 a10 a11 a12 a13 a14 a15 a16 a17 a18 a19 a20 a21 a22 a23 a24 a25 : Nat) (f0 : Nat → Int32) (f1 : Nat → Int32) (f2 : Nat → Int32) (y0 : Int32) (y1 : Int32) (y2 : Int32) (y3 : Int32) (y4 : Int32) (y5 : Int32) (y6 : Int64) (y7 : Int32) (y8 : Int32) (y9 : Int32) (y10 : Int32) (y11 : Int32) (y12 : Int32) (y13 : Int32) (y14 : Int32) (y15 : Int32) (y16 : Int32) (y17 : Int32) (y18 : Int32) (y19 : Int32) (y20 : Int32) (y21 : Int32) (x0 : Int32) (x1 : Int32) (x2 : Int32) (p0 : mp_all f0 180 0 20) (p1 : mp_all f1 3000 0 1) (p2 : mp_res f2 90 3 0 0 5) (p3 : mp_res f2 90 3 1 (-1) 99) (l_x0 : 0 ≤ x0.toInt) (u_x0 : x0.toInt ≤ 5) (l_x1 : 0 ≤ x1.toInt) (u_x1 : x1.toInt ≤ 5) (l_x2 : 0 ≤ x2.toInt) (u_x2 : x2.toInt ≤ 99) (l_y1 : 0 ≤ y1.toInt) (u_y1 : y1.toInt ≤ 1600) (l_y2 : 0 ≤ y2.toInt) (u_y2 : y2.toInt ≤ 1600) (l_y3 : 0 ≤ y3.toInt) (u_y3 : y3.toInt ≤ 4) (l_y4 : 0 ≤ y4.toInt) (u_y4 : y4.toInt ≤ 1600) (l_y11 : 0 ≤ y11.toInt) (u_y11 : y11.toInt ≤ 99) (l_y12 : 0 ≤ y12.toInt) (u_y12 : y12.toInt ≤ 5) (l_y13 : 0 ≤ y13.toInt) (u_y13 : y13.toInt ≤ 12) : mp_Ct E yX10_oarsBy cX10_oarsBy 4 (some FieldType.int) 2 0 0 46 [.ref a0, .int x0, .int x1, .int x2] [(mp_ob10 a0 y0 a4 a5 a6 a7 a8 y1 y2 y3 y4 y5 y6 y7 y8 y9 y10 a9 a10 a1 a2 a3 a11 a12 a13 y11 a14 a15 a16 a17 y12 y13 y14 a18 a19 y15 y16 a20 a21 a22 y17 y18 y19 y20 a23 a24 a25 y21), (mp_arI E a1 0 180 f0), (mp_arI E a2 3 3000 f1), (mp_arI E a3 0 90 f2)] (fun v w' => ∃ r1 : Int32, v = some (.int r1) ∧ 0 ≤ r1.toInt ∧ r1.toInt ≤ 1000000 ∧ ((x0.toInt = x1.toInt ∧ r1.toInt = 0) ∨ (x0.toInt ≠ x1.toInt ∧ mp_seax x0.toInt x1.toInt (f0 (6 * x0.toInt.toNat + x1.toInt.toNat)).toInt (f2 (3 * y12.toInt.toNat + 1)).toInt x2.toInt (f1 (100 * x0.toInt.toNat + x2.toInt.toNat)).toInt (f1 (100 * x1.toInt.toNat + x2.toInt.toNat)).toInt ∧ r1.toInt = (f0 (6 * x0.toInt.toNat + x1.toInt.toNat)).toInt) ∨ (x0.toInt ≠ x1.toInt ∧ ¬ mp_seax x0.toInt x1.toInt (f0 (6 * x0.toInt.toNat + x1.toInt.toNat)).toInt (f2 (3 * y12.toInt.toNat + 1)).toInt x2.toInt (f1 (100 * x0.toInt.toNat + x2.toInt.toNat)).toInt (f1 (100 * x1.toInt.toNat + x2.toInt.toNat)).toInt ∧ r1.toInt = 1000000)) ∧ w' = [(mp_ob10 a0 y0 a4 a5 a6 a7 a8 y1 y2 y3 y4 y5 y6 y7 y8 y9 y10 a9 a10 a1 a2 a3 a11 a12 a13 y11 a14 a15 a16 a17 y12 y13 y14 a18 a19 y15 y16 a20 a21 a22 y17 y18 y19 y20 a23 a24 a25 y21), (mp_arI E a1 0 180 f0), (mp_arI E a2 3 3000 f1), (mp_arI E a3 0 90 f2)]) := by
  refine mp_met false (by decide) (by decide) (Nat.le_of_ble_eq_true rfl) (fun X hF hQ => ?_)
  have hF : mp_F E X (RX10, cX10_oarsBy, 4, (2, 0, 0, 46), (some FieldType.int), false) := hF
  let w1_ : va_W := [(mp_ob10 a0 y0 a4 a5 a6 a7 a8 y1 y2 y3 y4 y5 y6 y7 y8 y9 y10 a9 a10 a1 a2 a3 a11 a12 a13 y11 a14 a15 a16 a17 y12 y13 y14 a18 a19 y15 y16 a20 a21 a22 y17 y18 y19 y20 a23 a24 a25 y21), (mp_arI E a1 0 180 f0), (mp_arI E a2 3 3000 f1), (mp_arI E a3 0 90 f2)]
  show mp_W E X 4 0 [(0, .ref a0), (1, .int x0), (2, .int x1), (3, .int x2)] [] w1_ 0 0
  refine mp_run mp_k_cX10_oarsBy_ok hF mp_tabX10_ok [mp_i (.iload_n 1), mp_i (.iload_n 2), mp_h (.if_icmp .ne 7) [9]] (by decide +kernel) ?_
  refine And.intro (fun c_1 => ?_) (fun c_1 => ?_)
  · have c_1 : x0.toInt ≠ x1.toInt := c_1
    show mp_W E X 4 9 [(0, .ref a0), (1, .int x0), (2, .int x1), (3, .int x2)] [] w1_ 0 0
    refine mp_run mp_k_cX10_oarsBy_ok hF mp_tabX10_ok [mp_i (.aload_n 0), mp_i (.aload_n 0), mp_h (.getfield 337) [29, 0], mp_i (.iload_n 1), mp_i (.iload_n 2), mp_i (.iload_n 3)] (by decide +kernel) ?_
    refine And.intro rfl (And.intro rfl ?_)
    show mp_W E X 4 17 [(0, .ref a0), (1, .int x0), (2, .int x1), (3, .int x2)] [.int x2, .int x1, .int x0, .int y12, .ref a0] w1_ 0 0
    refine mp_callV hF (As := [.int y12, .int x0, .int x1, .int x2]) (rest := []) (wr := []) (bX10_isSea_92 E a0 a1 a2 a3 a4 a5 a6 a7 a8 a9 a10 a11 a12 a13 a14 a15 a16 a17 a18 a19 a20 a21 a22 a23 a24 a25 f0 f1 f2 y0 y1 y2 y3 y4 y5 y6 y7 y8 y9 y10 y11 y12 y13 y14 y15 y16 y17 y18 y19 y20 y21 y12 x0 x1 x2 p0 p1 p2 p3 l_y12 u_y12 l_x0 u_x0 l_x1 u_x1 l_x2 u_x2 l_y1 u_y1 l_y2 u_y2 l_y3 u_y3 l_y4 u_y4 l_y11 u_y11 l_y12 u_y12 l_y13 u_y13) mp_lkX10_318 0 rfl [0, 1, 2, 3] [] rfl rfl rfl rfl rfl ⟨(Nat.le_of_ble_eq_true rfl), (Nat.le_of_ble_eq_true rfl), (Nat.le_of_ble_eq_true rfl), (Nat.le_of_ble_eq_true rfl)⟩ (Nat.le_of_ble_eq_true rfl) (by first | exact mp_fd_ok mp_k_cX10_oarsBy_ok (by decide +kernel) | decide +kernel) (fun v_2 w_3 h_4 => ?_)
    rcases h_4 with ⟨rfl, x_5, rfl⟩ | ⟨rfl, c_6, x_7, rfl⟩
    · skip
      show mp_W E X 4 20 [(0, .ref a0), (1, .int x0), (2, .int x1), (3, .int x2)] [.int 0] w1_ 0 0
      refine mp_run mp_k_cX10_oarsBy_ok hF mp_tabX10_ok [mp_h (.ifCond .eq 17) [37]] (by decide +kernel) ?_
      refine And.intro (fun _ => ?_) (fun c_8 => absurd c_8 (by decide))
      show mp_W E X 4 37 [(0, .ref a0), (1, .int x0), (2, .int x1), (3, .int x2)] [] w1_ 0 0
      refine mp_run mp_k_cX10_oarsBy_ok hF mp_tabX10_ok [mp_c (.ldc 142) 1000000] (by decide +kernel) ?_
      show mp_W E X 4 39 [(0, .ref a0), (1, .int x0), (2, .int x1), (3, .int x2)] [.int 1000000] w1_ 0 0
      exact mp_iret hF hQ rfl rfl (Nat.le_of_ble_eq_true rfl) (Nat.le_of_ble_eq_true rfl) [0, 1, 2, 3] (w' := w1_) rfl rfl ⟨1000000, rfl, (by decide), (by decide), (by first | fail | decide | (have h8 : (0 : Int32).toInt = 0 := rfl; have h9 : (1000000 : Int32).toInt = 1000000 := rfl; first | omega | exact Or.inl ⟨by omega, by omega⟩ | exact Or.inr (Or.inl ⟨by omega, by assumption, by omega⟩) | exact Or.inr (Or.inr ⟨by omega, by assumption, by omega⟩))), rfl⟩ (by first | exact mp_fd_ok mp_k_cX10_oarsBy_ok (by decide +kernel) | decide +kernel)
    · skip
      have c_6 : x0.toInt ≠ x1.toInt := c_6
      show mp_W E X 4 20 [(0, .ref a0), (1, .int x0), (2, .int x1), (3, .int x2)] [.int 1] w1_ 0 0
      refine mp_run mp_k_cX10_oarsBy_ok hF mp_tabX10_ok [mp_h (.ifCond .eq 17) [37]] (by decide +kernel) ?_
      refine And.intro (fun c_9 => absurd c_9 (by decide)) (fun _ => ?_)
      show mp_W E X 4 23 [(0, .ref a0), (1, .int x0), (2, .int x1), (3, .int x2)] [] w1_ 0 0
      refine mp_run mp_k_cX10_oarsBy_ok hF mp_tabX10_ok [mp_i (.aload_n 0), mp_h (.getfield 37) [18, 0], mp_c (.bipush 6) 6, mp_i (.iload_n 1), mp_i .imul, mp_i (.iload_n 2), mp_i .iadd, mp_h .iaload [1], mp_h (.goto 5) [39]] (by decide +kernel) ?_
      refine And.intro rfl (And.intro rfl ?_)
      intro z_10 h_11
      have e_12 : z_10.toInt = 6 * x0.toInt := mp_mul (a := 6) (b := x0.toInt) h_11 (by decide) rfl (by (first | exact mp_o1152 l_x0 | omega)) (by (first | exact mp_o1153 u_x0 | omega))
      intro z_13 h_14
      have e_15 : z_13.toInt = z_10.toInt + x1.toInt := mp_add (a := z_10.toInt) (b := x1.toInt) h_14 rfl rfl (by (first | exact mp_o1412 l_x1 l_x0 e_12 | omega)) (by (first | exact mp_o1422 u_x1 u_x0 e_12 | omega))
      refine And.intro rfl (And.intro rfl (And.intro (vp_in_iff.mpr (by (first | exact mp_o1423 l_x0 u_x0 l_x1 u_x1 e_12 e_15 | omega))) ?_))
      intro z_16 h_17
      have e_18 : 0 ≤ z_16.toInt ∧ z_16.toInt ≤ 20 := mp_all_ld h_17 p0 (by (first | exact mp_o1415 l_x0 l_x1 e_12 e_15 | omega)) (by (first | exact mp_o1424 u_x0 e_12 u_x1 e_15 | omega))
      have e_19 : z_16.toInt = (f0 (6 * x0.toInt.toNat + x1.toInt.toNat)).toInt := mp_at_i h_17 (by (first | exact mp_o1555 l_x0 l_x1 e_12 e_15 | omega))
      show mp_W E X 4 39 [(0, .ref a0), (1, .int x0), (2, .int x1), (3, .int x2)] [.int z_16] w1_ 0 0
      exact mp_iret hF hQ rfl rfl (Nat.le_of_ble_eq_true rfl) (Nat.le_of_ble_eq_true rfl) [0, 1, 2, 3] (w' := w1_) rfl rfl ⟨z_16, rfl, e_18.1, (by omega), (by first | omega | decide | (have h8 : (0 : Int32).toInt = 0 := rfl; have h9 : (1000000 : Int32).toInt = 1000000 := rfl; first | fail | exact Or.inl ⟨by omega, by omega⟩ | exact Or.inr (Or.inl ⟨by omega, by assumption, by omega⟩) | exact Or.inr (Or.inr ⟨by omega, by assumption, by omega⟩))), rfl⟩ (by first | exact mp_fd_ok mp_k_cX10_oarsBy_ok (by decide +kernel) | decide +kernel)
  · have c_1 : x0.toInt = x1.toInt := (congrArg Int32.toInt c_1)
    show mp_W E X 4 5 [(0, .ref a0), (1, .int x0), (2, .int x1), (3, .int x2)] [] w1_ 0 0
    refine mp_run mp_k_cX10_oarsBy_ok hF mp_tabX10_ok [mp_c (.iconst 0) 0, mp_h (.goto 33) [39]] (by decide +kernel) ?_
    show mp_W E X 4 39 [(0, .ref a0), (1, .int x0), (2, .int x1), (3, .int x2)] [.int 0] w1_ 0 0
    exact mp_iret hF hQ rfl rfl (Nat.le_of_ble_eq_true rfl) (Nat.le_of_ble_eq_true rfl) [0, 1, 2, 3] (w' := w1_) rfl rfl ⟨0, rfl, (by decide), (by decide), (by first | fail | decide | (have h8 : (0 : Int32).toInt = 0 := rfl; have h9 : (1000000 : Int32).toInt = 1000000 := rfl; first | omega | exact Or.inl ⟨by omega, by omega⟩ | exact Or.inr (Or.inl ⟨by omega, by assumption, by omega⟩) | exact Or.inr (Or.inr ⟨by omega, by assumption, by omega⟩))), rfl⟩ (by first | exact mp_fd_ok mp_k_cX10_oarsBy_ok (by decide +kernel) | decide +kernel)
set_option maxHeartbeats 4000000 in
set_option maxRecDepth 100000 in
theorem bX10_saidOn_109 (E : mp_E) (a0 a1 a2 a3 a4 a5 a6 a7 a8 a9 a10 a11 a12 a13 a14 a15 a16 a17 a18 a19 a20 a21 a22 a23 a24 a25 : Nat) (f0 : Nat → Int32) (f1 : Nat → Int32) (f2 : Nat → Int32) (f3 : Nat → Int32) (f4 : Nat → Int32) (f5 : Nat → Int32) (y0 : Int32) (y1 : Int32) (y2 : Int32) (y3 : Int32) (y4 : Int32) (y5 : Int32) (y6 : Int64) (y7 : Int32) (y8 : Int32) (y9 : Int32) (y10 : Int32) (y11 : Int32) (y12 : Int32) (y13 : Int32) (y14 : Int32) (y15 : Int32) (y16 : Int32) (y17 : Int32) (y18 : Int32) (y19 : Int32) (y20 : Int32) (y21 : Int32) (x0 : Int32) (x1 : Int32) (p0 : mp_res f0 25 5 0 0 6) (p1 : mp_res f0 25 5 1 0 99) (p2 : mp_res f0 25 5 2 0 6) (p3 : mp_res f0 25 5 3 0 10) (p4 : mp_res f0 25 5 4 0 60) (p5 : mp_all f1 180 0 20) (p6 : mp_all f2 3000 0 1) (p7 : mp_res f3 90 3 0 0 5) (p8 : mp_res f3 90 3 1 (-1) 99) (p9 : mp_res f4 300 6 0 0 5) (p10 : mp_res f4 300 6 1 0 5) (p11 : mp_res f4 300 6 3 0 99) (p12 : mp_res f4 300 6 4 0 1) (p13 : mp_all f5 6 0 5) (l_y1 : 0 ≤ y1.toInt) (u_y1 : y1.toInt ≤ 1600) (l_y2 : 0 ≤ y2.toInt) (u_y2 : y2.toInt ≤ 1600) (l_y3 : 0 ≤ y3.toInt) (u_y3 : y3.toInt ≤ 4) (l_y4 : 0 ≤ y4.toInt) (u_y4 : y4.toInt ≤ 1600) (l_y11 : 0 ≤ y11.toInt) (u_y11 : y11.toInt ≤ 99) (l_y12 : 0 ≤ y12.toInt) (u_y12 : y12.toInt ≤ 5) (l_y13 : 0 ≤ y13.toInt) (u_y13 : y13.toInt ≤ 12) : mp_Ct E yX10_saidOn cX10_saidOn 5 (some FieldType.int) 1 0 0 22 [.ref a0, .int x0, .int x1] [(mp_ob10 a0 y0 a7 a8 a9 a10 a11 y1 y2 y3 y4 y5 y6 y7 y8 y9 y10 a12 a1 a2 a3 a4 a5 a13 a14 y11 a6 a15 a16 a17 y12 y13 y14 a18 a19 y15 y16 a20 a21 a22 y17 y18 y19 y20 a23 a24 a25 y21), (mp_arI E a1 0 25 f0), (mp_arI E a2 0 180 f1), (mp_arI E a3 3 3000 f2), (mp_arI E a4 0 90 f3), (mp_arI E a5 0 300 f4), (mp_arI E a6 0 6 f5)] (fun v w' => ∃ r1 : Int32, v = some (.int r1) ∧ 0 ≤ r1.toInt ∧ r1.toInt ≤ 1023 ∧ (r1 = mp_sdx y14 f4 f5 f3 y12.toInt x0.toInt x1.toInt (f0 3).toInt.toNat) ∧ w' = [(mp_ob10 a0 y0 a7 a8 a9 a10 a11 y1 y2 y3 y4 y5 y6 y7 y8 y9 y10 a12 a1 a2 a3 a4 a5 a13 a14 y11 a6 a15 a16 a17 y12 y13 y14 a18 a19 y15 y16 a20 a21 a22 y17 y18 y19 y20 a23 a24 a25 y21), (mp_arI E a1 0 25 f0), (mp_arI E a2 0 180 f1), (mp_arI E a3 3 3000 f2), (mp_arI E a4 0 90 f3), (mp_arI E a5 0 300 f4), (mp_arI E a6 0 6 f5)]) := by
  refine mp_met false (by decide) (by decide) (Nat.le_of_ble_eq_true rfl) (fun X hF hQ => ?_)
  have hF : mp_F E X (RX10, cX10_saidOn, 5, (1, 0, 0, 22), (some FieldType.int), false) := hF
  let w1_ : va_W := [(mp_ob10 a0 y0 a7 a8 a9 a10 a11 y1 y2 y3 y4 y5 y6 y7 y8 y9 y10 a12 a1 a2 a3 a4 a5 a13 a14 y11 a6 a15 a16 a17 y12 y13 y14 a18 a19 y15 y16 a20 a21 a22 y17 y18 y19 y20 a23 a24 a25 y21), (mp_arI E a1 0 25 f0), (mp_arI E a2 0 180 f1), (mp_arI E a3 3 3000 f2), (mp_arI E a4 0 90 f3), (mp_arI E a5 0 300 f4), (mp_arI E a6 0 6 f5)]
  show mp_W E X 5 0 [(0, .ref a0), (1, .int x0), (2, .int x1)] [] w1_ 0 0
  refine mp_run mp_k_cX10_saidOn_ok hF mp_tabX10_ok [mp_c (.iconst 0) 0, mp_i (.istore_n 3), mp_c (.iconst 0) 0, mp_i (.istore 4)] (by decide +kernel) ?_
  show mp_W E X 5 5 [(4, .int 0), (3, .int 0), (0, .ref a0), (1, .int x0), (2, .int x1)] [] w1_ 0 0
  have lp_9 : ∀ (d_10 : Nat) (i_1 : Int32) (i_2 : Int32), 0 ≤ i_1.toInt → i_1.toInt ≤ 10 → 0 ≤ i_2.toInt → i_2.toInt ≤ 1023 → (i_2 = mp_sdx y14 f4 f5 f3 y12.toInt x0.toInt x1.toInt i_1.toInt.toNat) → (i_1.toInt ≤ (f0 3).toInt) → (f0 3).toInt - i_1.toInt ≤ (d_10 : Int) → mp_W E X 5 5 [(4, .int i_1), (3, .int i_2), (0, .ref a0), (1, .int x0), (2, .int x1)] [] [(mp_ob10 a0 y0 a7 a8 a9 a10 a11 y1 y2 y3 y4 y5 y6 y7 y8 y9 y10 a12 a1 a2 a3 a4 a5 a13 a14 y11 a6 a15 a16 a17 y12 y13 y14 a18 a19 y15 y16 a20 a21 a22 y17 y18 y19 y20 a23 a24 a25 y21), (mp_arI E a1 0 25 f0), (mp_arI E a2 0 180 f1), (mp_arI E a3 3 3000 f2), (mp_arI E a4 0 90 f3), (mp_arI E a5 0 300 f4), (mp_arI E a6 0 6 f5)] 0 0 := by
    intro d_10
    induction d_10 using Nat.strongRecOn with
    | ind d_10 ih_11 =>
      intro i_1 i_2 l_3 u_4 l_5 u_6 x_7 x_8 hm_12
      refine mp_run mp_k_cX10_saidOn_ok hF mp_tabX10_ok [mp_i (.iload 4), mp_i (.aload_n 0), mp_h (.getfield 34) [17, 0], mp_c (.iconst 3) 3, mp_h .iaload [1], mp_h (.if_icmp .ge 75) [88]] (by decide +kernel) ?_
      refine And.intro rfl (And.intro rfl ?_)
      refine And.intro rfl (And.intro rfl (And.intro (vp_in_iff.mpr (by decide)) ?_))
      intro z_13 h_14
      have e_15 : 0 ≤ z_13.toInt ∧ z_13.toInt ≤ 10 := mp_res_ld h_14 p3 (by decide) (by decide) (by decide)
      have e_16 : z_13.toInt = (f0 3).toInt := congrArg Int32.toInt (mp_at h_14 (by decide) rfl)
      refine And.intro (fun c_17 => ?_) (fun c_17 => ?_)
      · have c_17 : z_13.toInt ≤ i_1.toInt := c_17
        show mp_W E X 5 88 [(4, .int i_1), (3, .int i_2), (0, .ref a0), (1, .int x0), (2, .int x1)] [] w1_ 0 0
        refine mp_run mp_k_cX10_saidOn_ok hF mp_tabX10_ok [mp_i (.iload_n 3)] (by decide +kernel) ?_
        show mp_W E X 5 89 [(4, .int i_1), (3, .int i_2), (0, .ref a0), (1, .int x0), (2, .int x1)] [.int i_2] w1_ 0 0
        exact mp_iret hF hQ rfl rfl (Nat.le_of_ble_eq_true rfl) (Nat.le_of_ble_eq_true rfl) [0, 1, 2, 3, 4, 5, 6] (w' := w1_) rfl rfl ⟨i_2, rfl, l_5, u_6, (by rw [show i_1.toInt.toNat = (f0 3).toInt.toNat by omega] at x_7; exact x_7), rfl⟩ (by first | exact mp_fd_ok mp_k_cX10_saidOn_ok (by decide +kernel) | decide +kernel)
      · have c_17 : i_1.toInt < z_13.toInt := c_17
        show mp_W E X 5 16 [(4, .int i_1), (3, .int i_2), (0, .ref a0), (1, .int x0), (2, .int x1)] [] w1_ 0 0
        refine mp_run mp_k_cX10_saidOn_ok hF mp_tabX10_ok [mp_i (.iload_n 3), mp_i (.aload_n 0), mp_h (.getfield 334) [31, 0], mp_i (.iload 4)] (by decide +kernel) ?_
        refine And.intro rfl (And.intro rfl ?_)
        show mp_W E X 5 23 [(4, .int i_1), (3, .int i_2), (0, .ref a0), (1, .int x0), (2, .int x1)] [.int i_1, .int y14, .int i_2] w1_ 0 0
        refine mp_callS hF (As := [.int y14, .int i_1]) (rest := [.int i_2]) (wr := w1_) (bX10_isBit_86 E y14 i_1) mp_lkX10_312 [] [0, 1, 2, 3, 4, 5, 6] rfl rfl rfl rfl rfl ⟨(Nat.le_of_ble_eq_true rfl), (Nat.le_of_ble_eq_true rfl), (Nat.le_of_ble_eq_true rfl), (Nat.le_of_ble_eq_true rfl)⟩ (Nat.le_of_ble_eq_true rfl) (by first | exact mp_fd_ok mp_k_cX10_saidOn_ok (by decide +kernel) | decide +kernel) (fun v_18 w_19 h_20 => ?_)
        rcases h_20 with ⟨rfl, x_21, rfl⟩ | ⟨rfl, x_22, rfl⟩
        · skip
          show mp_W E X 5 26 [(4, .int i_1), (3, .int i_2), (0, .ref a0), (1, .int x0), (2, .int x1)] [.int 0, .int i_2] w1_ 0 0
          refine mp_run mp_k_cX10_saidOn_ok hF mp_tabX10_ok [mp_h (.ifCond .eq 53) [79]] (by decide +kernel) ?_
          refine And.intro (fun _ => ?_) (fun c_23 => absurd c_23 (by decide))
          show mp_W E X 5 79 [(4, .int i_1), (3, .int i_2), (0, .ref a0), (1, .int x0), (2, .int x1)] [.int i_2] w1_ 0 0
          refine mp_run mp_k_cX10_saidOn_ok hF mp_tabX10_ok [mp_c (.iconst 0) 0, mp_i .ior, mp_i (.istore_n 3), mp_c (.iinc 4 1) 1, mp_h (.goto (-80)) [5]] (by decide +kernel) ?_
          intro z_24 h_25
          have e_27 : 0 ≤ z_24.toInt ∧ z_24.toInt ≤ 1023 := mp_or10 h_25 ⟨by omega, by omega⟩ ⟨by decide, by decide⟩
          intro z_28 h_29
          have e_30 : z_28.toInt = i_1.toInt + 1 := mp_add (a := i_1.toInt) (b := 1) h_29 rfl (by decide) (by omega) (by omega)
          show mp_W E X 5 5 [(4, .int z_28), (3, .int z_24), (0, .ref a0), (1, .int x0), (2, .int x1)] [] w1_ 0 0
          exact mp_sub [0, 1, 2, 3, 4] rfl [0, 1, 2, 3, 4, 5, 6] rfl rfl (ih_11 (d_10 - 1) (by omega) z_28 z_24 (by omega) (by omega) (by omega) (by omega) (mp_sdx_s (k := i_1) x_7 h_25 (by omega) (by first | exact Or.inl ⟨⟨by assumption, by omega, by omega, by omega⟩, rfl⟩ | exact Or.inr ⟨by rintro ⟨q1, q2, q3, q4⟩; first | (exact absurd q1 (by assumption)) | omega, rfl⟩) (by omega)) (by omega) (by omega))
        · skip
          show mp_W E X 5 26 [(4, .int i_1), (3, .int i_2), (0, .ref a0), (1, .int x0), (2, .int x1)] [.int 1, .int i_2] w1_ 0 0
          refine mp_run mp_k_cX10_saidOn_ok hF mp_tabX10_ok [mp_h (.ifCond .eq 53) [79]] (by decide +kernel) ?_
          refine And.intro (fun c_31 => absurd c_31 (by decide)) (fun _ => ?_)
          show mp_W E X 5 29 [(4, .int i_1), (3, .int i_2), (0, .ref a0), (1, .int x0), (2, .int x1)] [.int i_2] w1_ 0 0
          refine mp_run mp_k_cX10_saidOn_ok hF mp_tabX10_ok [mp_i (.aload_n 0), mp_h (.getfield 56) [25, 0], mp_i (.aload_n 0), mp_i (.iload 4), mp_c (.iconst 1) 1] (by decide +kernel) ?_
          refine And.intro rfl (And.intro rfl ?_)
          show mp_W E X 5 37 [(4, .int i_1), (3, .int i_2), (0, .ref a0), (1, .int x0), (2, .int x1)] [.int 1, .int i_1, .ref a0, .ref a6, .int i_2] w1_ 0 0
          refine mp_callV hF (As := [.int i_1, .int 1]) (rest := [.ref a6, .int i_2]) (wr := [(mp_arI E a1 0 25 f0), (mp_arI E a2 0 180 f1), (mp_arI E a3 3 3000 f2), (mp_arI E a4 0 90 f3), (mp_arI E a6 0 6 f5)]) (bX10_of_76 E a0 a5 a7 a8 a9 a10 a11 a12 a1 a2 a3 a4 a13 a14 a6 a15 a16 a17 a18 a19 a20 a21 a22 a23 a24 a25 f4 y0 y1 y2 y3 y4 y5 y6 y7 y8 y9 y10 y11 y12 y13 y14 y15 y16 y17 y18 y19 y20 y21 i_1 p9 p10 p11 p12 l_3 (by omega) l_y1 u_y1 l_y2 u_y2 l_y3 u_y3 l_y4 u_y4 l_y11 u_y11 l_y12 u_y12 l_y13 u_y13) mp_lkX10_267 0 rfl [0, 5] [1, 2, 3, 4, 6] rfl rfl rfl rfl rfl ⟨(Nat.le_of_ble_eq_true rfl), (Nat.le_of_ble_eq_true rfl), (Nat.le_of_ble_eq_true rfl), (Nat.le_of_ble_eq_true rfl)⟩ (Nat.le_of_ble_eq_true rfl) (by first | exact mp_fd_ok mp_k_cX10_saidOn_ok (by decide +kernel) | decide +kernel) (fun v_32 w_33 h_34 => ?_)
          refine h_34.elim fun r_35 q_39 => q_39.elim fun e_40 q_41 => q_41.elim fun l_36 q_42 => q_42.elim fun u_37 q_43 => q_43.elim fun x_38 e_44 => ?_
          clear h_34 q_39 q_41 q_42 q_43
          subst e_40
          subst e_44
          let w2_ : va_W := [(mp_arI E a1 0 25 f0), (mp_arI E a2 0 180 f1), (mp_arI E a3 3 3000 f2), (mp_arI E a4 0 90 f3), (mp_arI E a6 0 6 f5), (mp_ob10 a0 y0 a7 a8 a9 a10 a11 y1 y2 y3 y4 y5 y6 y7 y8 y9 y10 a12 a1 a2 a3 a4 a5 a13 a14 y11 a6 a15 a16 a17 y12 y13 y14 a18 a19 y15 y16 a20 a21 a22 y17 y18 y19 y20 a23 a24 a25 y21), (mp_arI E a5 0 300 f4)]
          show mp_W E X 5 40 [(4, .int i_1), (3, .int i_2), (0, .ref a0), (1, .int x0), (2, .int x1)] [.int r_35, .ref a6, .int i_2] w2_ 0 0
          refine mp_run mp_k_cX10_saidOn_ok hF mp_tabX10_ok [mp_h .iaload [4], mp_i (.iload_n 1), mp_h (.if_icmp .ne 37) [79]] (by decide +kernel) ?_
          refine And.intro rfl (And.intro rfl (And.intro (vp_in_iff.mpr (by omega)) ?_))
          intro z_45 h_46
          have e_47 : 0 ≤ z_45.toInt ∧ z_45.toInt ≤ 5 := mp_all_ld h_46 p13 (by omega) (by omega)
          have e_48 : z_45.toInt = (f5 ((f4 (6 * i_1.toInt.toNat + 1)).toInt.toNat)).toInt := mp_at_i h_46 (by omega)
          refine And.intro (fun c_49 => ?_) (fun c_49 => ?_)
          · have c_49 : z_45.toInt ≠ x0.toInt := c_49
            show mp_W E X 5 79 [(4, .int i_1), (3, .int i_2), (0, .ref a0), (1, .int x0), (2, .int x1)] [.int i_2] w2_ 0 0
            refine mp_run mp_k_cX10_saidOn_ok hF mp_tabX10_ok [mp_c (.iconst 0) 0, mp_i .ior, mp_i (.istore_n 3), mp_c (.iinc 4 1) 1, mp_h (.goto (-80)) [5]] (by decide +kernel) ?_
            intro z_50 h_51
            have e_53 : 0 ≤ z_50.toInt ∧ z_50.toInt ≤ 1023 := mp_or10 h_51 ⟨by omega, by omega⟩ ⟨by decide, by decide⟩
            intro z_54 h_55
            have e_56 : z_54.toInt = i_1.toInt + 1 := mp_add (a := i_1.toInt) (b := 1) h_55 rfl (by decide) (by omega) (by omega)
            show mp_W E X 5 5 [(4, .int z_54), (3, .int z_50), (0, .ref a0), (1, .int x0), (2, .int x1)] [] w2_ 0 0
            exact mp_sub [0, 1, 2, 3, 4] rfl [5, 0, 1, 2, 3, 6, 4] rfl rfl (ih_11 (d_10 - 1) (by omega) z_54 z_50 (by omega) (by omega) (by omega) (by omega) (mp_sdx_s (k := i_1) x_7 h_51 (by omega) (by first | exact Or.inl ⟨⟨by assumption, by omega, by omega, by omega⟩, rfl⟩ | exact Or.inr ⟨by rintro ⟨q1, q2, q3, q4⟩; first | (exact absurd q1 (by assumption)) | omega, rfl⟩) (by omega)) (by omega) (by omega))
          · have c_49 : z_45.toInt = x0.toInt := (congrArg Int32.toInt c_49)
            show mp_W E X 5 45 [(4, .int i_1), (3, .int i_2), (0, .ref a0), (1, .int x0), (2, .int x1)] [.int i_2] w2_ 0 0
            refine mp_run mp_k_cX10_saidOn_ok hF mp_tabX10_ok [mp_i (.aload_n 0), mp_i (.aload_n 0), mp_h (.getfield 337) [29, 5], mp_i (.iload_n 2)] (by decide +kernel) ?_
            refine And.intro rfl (And.intro rfl ?_)
            show mp_W E X 5 51 [(4, .int i_1), (3, .int i_2), (0, .ref a0), (1, .int x0), (2, .int x1)] [.int x1, .int y12, .ref a0, .int i_2] w2_ 0 0
            refine mp_callV hF (As := [.int y12, .int x1]) (rest := [.int i_2]) (wr := [(mp_arI E a1 0 25 f0), (mp_arI E a2 0 180 f1), (mp_arI E a3 3 3000 f2), (mp_arI E a6 0 6 f5), (mp_arI E a5 0 300 f4)]) (bX10_isDead_91 E a0 a4 a7 a8 a9 a10 a11 a12 a1 a2 a3 a5 a13 a14 a6 a15 a16 a17 a18 a19 a20 a21 a22 a23 a24 a25 f3 y0 y1 y2 y3 y4 y5 y6 y7 y8 y9 y10 y11 y12 y13 y14 y15 y16 y17 y18 y19 y20 y21 y12 x1 p7 p8 l_y12 u_y12 l_y1 u_y1 l_y2 u_y2 l_y3 u_y3 l_y4 u_y4 l_y11 u_y11 l_y12 u_y12 l_y13 u_y13) mp_lkX10_315 5 rfl [5, 3] [0, 1, 2, 4, 6] rfl rfl rfl rfl rfl ⟨(Nat.le_of_ble_eq_true rfl), (Nat.le_of_ble_eq_true rfl), (Nat.le_of_ble_eq_true rfl), (Nat.le_of_ble_eq_true rfl)⟩ (Nat.le_of_ble_eq_true rfl) (by first | exact mp_fd_ok mp_k_cX10_saidOn_ok (by decide +kernel) | decide +kernel) (fun v_57 w_58 h_59 => ?_)
            rcases h_59 with ⟨rfl, x_60, rfl⟩ | ⟨rfl, x_61, rfl⟩
            · skip
              let w3_ : va_W := [(mp_arI E a1 0 25 f0), (mp_arI E a2 0 180 f1), (mp_arI E a3 3 3000 f2), (mp_arI E a6 0 6 f5), (mp_arI E a5 0 300 f4), (mp_ob10 a0 y0 a7 a8 a9 a10 a11 y1 y2 y3 y4 y5 y6 y7 y8 y9 y10 a12 a1 a2 a3 a4 a5 a13 a14 y11 a6 a15 a16 a17 y12 y13 y14 a18 a19 y15 y16 a20 a21 a22 y17 y18 y19 y20 a23 a24 a25 y21), (mp_arI E a4 0 90 f3)]
              show mp_W E X 5 54 [(4, .int i_1), (3, .int i_2), (0, .ref a0), (1, .int x0), (2, .int x1)] [.int 0, .int i_2] w3_ 0 0
              refine mp_run mp_k_cX10_saidOn_ok hF mp_tabX10_ok [mp_h (.ifCond .ne 25) [79]] (by decide +kernel) ?_
              refine And.intro (fun c_62 => absurd c_62 (by decide)) (fun _ => ?_)
              show mp_W E X 5 57 [(4, .int i_1), (3, .int i_2), (0, .ref a0), (1, .int x0), (2, .int x1)] [.int i_2] w3_ 0 0
              refine mp_run mp_k_cX10_saidOn_ok hF mp_tabX10_ok [mp_i (.aload_n 0), mp_i (.aload_n 0), mp_i (.iload 4), mp_c (.iconst 1) 1] (by decide +kernel) ?_
              show mp_W E X 5 62 [(4, .int i_1), (3, .int i_2), (0, .ref a0), (1, .int x0), (2, .int x1)] [.int 1, .int i_1, .ref a0, .ref a0, .int i_2] w3_ 0 0
              refine mp_callV hF (As := [.int i_1, .int 1]) (rest := [.ref a0, .int i_2]) (wr := [(mp_arI E a1 0 25 f0), (mp_arI E a2 0 180 f1), (mp_arI E a3 3 3000 f2), (mp_arI E a6 0 6 f5), (mp_arI E a4 0 90 f3)]) (bX10_of_76 E a0 a5 a7 a8 a9 a10 a11 a12 a1 a2 a3 a4 a13 a14 a6 a15 a16 a17 a18 a19 a20 a21 a22 a23 a24 a25 f4 y0 y1 y2 y3 y4 y5 y6 y7 y8 y9 y10 y11 y12 y13 y14 y15 y16 y17 y18 y19 y20 y21 i_1 p9 p10 p11 p12 l_3 (by omega) l_y1 u_y1 l_y2 u_y2 l_y3 u_y3 l_y4 u_y4 l_y11 u_y11 l_y12 u_y12 l_y13 u_y13) mp_lkX10_267 5 rfl [5, 4] [0, 1, 2, 3, 6] rfl rfl rfl rfl rfl ⟨(Nat.le_of_ble_eq_true rfl), (Nat.le_of_ble_eq_true rfl), (Nat.le_of_ble_eq_true rfl), (Nat.le_of_ble_eq_true rfl)⟩ (Nat.le_of_ble_eq_true rfl) (by first | exact mp_fd_ok mp_k_cX10_saidOn_ok (by decide +kernel) | decide +kernel) (fun v_63 w_64 h_65 => ?_)
              refine h_65.elim fun r_66 q_70 => q_70.elim fun e_71 q_72 => q_72.elim fun l_67 q_73 => q_73.elim fun u_68 q_74 => q_74.elim fun x_69 e_75 => ?_
              clear h_65 q_70 q_72 q_73 q_74
              subst e_71
              subst e_75
              let w4_ : va_W := [(mp_arI E a1 0 25 f0), (mp_arI E a2 0 180 f1), (mp_arI E a3 3 3000 f2), (mp_arI E a6 0 6 f5), (mp_arI E a4 0 90 f3), (mp_ob10 a0 y0 a7 a8 a9 a10 a11 y1 y2 y3 y4 y5 y6 y7 y8 y9 y10 a12 a1 a2 a3 a4 a5 a13 a14 y11 a6 a15 a16 a17 y12 y13 y14 a18 a19 y15 y16 a20 a21 a22 y17 y18 y19 y20 a23 a24 a25 y21), (mp_arI E a5 0 300 f4)]
              show mp_W E X 5 65 [(4, .int i_1), (3, .int i_2), (0, .ref a0), (1, .int x0), (2, .int x1)] [.int r_66, .ref a0, .int i_2] w4_ 0 0
              refine mp_run mp_k_cX10_saidOn_ok hF mp_tabX10_ok [mp_i (.iload_n 2)] (by decide +kernel) ?_
              show mp_W E X 5 66 [(4, .int i_1), (3, .int i_2), (0, .ref a0), (1, .int x0), (2, .int x1)] [.int x1, .int r_66, .ref a0, .int i_2] w4_ 0 0
              refine mp_callV hF (As := [.int r_66, .int x1]) (rest := [.int i_2]) (wr := [(mp_arI E a1 0 25 f0), (mp_arI E a2 0 180 f1), (mp_arI E a3 3 3000 f2), (mp_arI E a6 0 6 f5), (mp_arI E a5 0 300 f4)]) (bX10_isDead_91 E a0 a4 a7 a8 a9 a10 a11 a12 a1 a2 a3 a5 a13 a14 a6 a15 a16 a17 a18 a19 a20 a21 a22 a23 a24 a25 f3 y0 y1 y2 y3 y4 y5 y6 y7 y8 y9 y10 y11 y12 y13 y14 y15 y16 y17 y18 y19 y20 y21 r_66 x1 p7 p8 l_67 u_68 l_y1 u_y1 l_y2 u_y2 l_y3 u_y3 l_y4 u_y4 l_y11 u_y11 l_y12 u_y12 l_y13 u_y13) mp_lkX10_315 5 rfl [5, 4] [0, 1, 2, 3, 6] rfl rfl rfl rfl rfl ⟨(Nat.le_of_ble_eq_true rfl), (Nat.le_of_ble_eq_true rfl), (Nat.le_of_ble_eq_true rfl), (Nat.le_of_ble_eq_true rfl)⟩ (Nat.le_of_ble_eq_true rfl) (by first | exact mp_fd_ok mp_k_cX10_saidOn_ok (by decide +kernel) | decide +kernel) (fun v_76 w_77 h_78 => ?_)
              rcases h_78 with ⟨rfl, x_79, rfl⟩ | ⟨rfl, x_80, rfl⟩
              · skip
                rw [x_69] at x_79
                show mp_W E X 5 69 [(4, .int i_1), (3, .int i_2), (0, .ref a0), (1, .int x0), (2, .int x1)] [.int 0, .int i_2] w3_ 0 0
                refine mp_run mp_k_cX10_saidOn_ok hF mp_tabX10_ok [mp_h (.ifCond .ne 10) [79]] (by decide +kernel) ?_
                refine And.intro (fun c_81 => absurd c_81 (by decide)) (fun _ => ?_)
                show mp_W E X 5 72 [(4, .int i_1), (3, .int i_2), (0, .ref a0), (1, .int x0), (2, .int x1)] [.int i_2] w3_ 0 0
                refine mp_run mp_k_cX10_saidOn_ok hF mp_tabX10_ok [mp_c (.iconst 1) 1, mp_i (.iload 4), mp_i .ishl, mp_h (.goto 4) [80], mp_i .ior, mp_i (.istore_n 3), mp_c (.iinc 4 1) 1, mp_h (.goto (-80)) [5]] (by decide +kernel) ?_
                intro z_82 h_83
                have e_85 : 1 ≤ z_82.toInt ∧ z_82.toInt ≤ 512 := mp_shl10 h_83 (by omega) (by omega)
                intro z_86 h_87
                have e_89 : 0 ≤ z_86.toInt ∧ z_86.toInt ≤ 1023 := mp_or10 h_87 ⟨by omega, by omega⟩ ⟨by omega, by omega⟩
                intro z_90 h_91
                have e_92 : z_90.toInt = i_1.toInt + 1 := mp_add (a := i_1.toInt) (b := 1) h_91 rfl (by decide) (by omega) (by omega)
                show mp_W E X 5 5 [(4, .int z_90), (3, .int z_86), (0, .ref a0), (1, .int x0), (2, .int x1)] [] w3_ 0 0
                exact mp_sub [0, 1, 2, 3, 4] rfl [5, 0, 1, 2, 6, 4, 3] rfl rfl (ih_11 (d_10 - 1) (by omega) z_90 z_86 (by omega) (by omega) (by omega) (by omega) (mp_sdx_s (k := i_1) x_7 h_87 (by omega) (by first | exact Or.inl ⟨⟨by assumption, by omega, by omega, by omega⟩, h_83⟩ | exact Or.inr ⟨by rintro ⟨q1, q2, q3, q4⟩; first | (exact absurd q1 (by assumption)) | omega, rfl⟩) (by omega)) (by omega) (by omega))
              · skip
                rw [x_69] at x_80
                show mp_W E X 5 69 [(4, .int i_1), (3, .int i_2), (0, .ref a0), (1, .int x0), (2, .int x1)] [.int 1, .int i_2] w3_ 0 0
                refine mp_run mp_k_cX10_saidOn_ok hF mp_tabX10_ok [mp_h (.ifCond .ne 10) [79]] (by decide +kernel) ?_
                refine And.intro (fun _ => ?_) (fun c_93 => absurd c_93 (by decide))
                show mp_W E X 5 79 [(4, .int i_1), (3, .int i_2), (0, .ref a0), (1, .int x0), (2, .int x1)] [.int i_2] w3_ 0 0
                refine mp_run mp_k_cX10_saidOn_ok hF mp_tabX10_ok [mp_c (.iconst 0) 0, mp_i .ior, mp_i (.istore_n 3), mp_c (.iinc 4 1) 1, mp_h (.goto (-80)) [5]] (by decide +kernel) ?_
                intro z_94 h_95
                have e_97 : 0 ≤ z_94.toInt ∧ z_94.toInt ≤ 1023 := mp_or10 h_95 ⟨by omega, by omega⟩ ⟨by decide, by decide⟩
                intro z_98 h_99
                have e_100 : z_98.toInt = i_1.toInt + 1 := mp_add (a := i_1.toInt) (b := 1) h_99 rfl (by decide) (by omega) (by omega)
                show mp_W E X 5 5 [(4, .int z_98), (3, .int z_94), (0, .ref a0), (1, .int x0), (2, .int x1)] [] w3_ 0 0
                exact mp_sub [0, 1, 2, 3, 4] rfl [5, 0, 1, 2, 6, 4, 3] rfl rfl (ih_11 (d_10 - 1) (by omega) z_98 z_94 (by omega) (by omega) (by omega) (by omega) (mp_sdx_s (k := i_1) x_7 h_95 (by omega) (by first | exact Or.inl ⟨⟨by assumption, by omega, by omega, by omega⟩, rfl⟩ | exact Or.inr ⟨by rintro ⟨q1, q2, q3, q4⟩; first | (exact absurd q1 (by assumption)) | omega, rfl⟩) (by omega)) (by omega) (by omega))
            · skip
              let w5_ : va_W := [(mp_arI E a1 0 25 f0), (mp_arI E a2 0 180 f1), (mp_arI E a3 3 3000 f2), (mp_arI E a6 0 6 f5), (mp_arI E a5 0 300 f4), (mp_ob10 a0 y0 a7 a8 a9 a10 a11 y1 y2 y3 y4 y5 y6 y7 y8 y9 y10 a12 a1 a2 a3 a4 a5 a13 a14 y11 a6 a15 a16 a17 y12 y13 y14 a18 a19 y15 y16 a20 a21 a22 y17 y18 y19 y20 a23 a24 a25 y21), (mp_arI E a4 0 90 f3)]
              show mp_W E X 5 54 [(4, .int i_1), (3, .int i_2), (0, .ref a0), (1, .int x0), (2, .int x1)] [.int 1, .int i_2] w5_ 0 0
              refine mp_run mp_k_cX10_saidOn_ok hF mp_tabX10_ok [mp_h (.ifCond .ne 25) [79]] (by decide +kernel) ?_
              refine And.intro (fun _ => ?_) (fun c_101 => absurd c_101 (by decide))
              show mp_W E X 5 79 [(4, .int i_1), (3, .int i_2), (0, .ref a0), (1, .int x0), (2, .int x1)] [.int i_2] w5_ 0 0
              refine mp_run mp_k_cX10_saidOn_ok hF mp_tabX10_ok [mp_c (.iconst 0) 0, mp_i .ior, mp_i (.istore_n 3), mp_c (.iinc 4 1) 1, mp_h (.goto (-80)) [5]] (by decide +kernel) ?_
              intro z_102 h_103
              have e_105 : 0 ≤ z_102.toInt ∧ z_102.toInt ≤ 1023 := mp_or10 h_103 ⟨by omega, by omega⟩ ⟨by decide, by decide⟩
              intro z_106 h_107
              have e_108 : z_106.toInt = i_1.toInt + 1 := mp_add (a := i_1.toInt) (b := 1) h_107 rfl (by decide) (by omega) (by omega)
              show mp_W E X 5 5 [(4, .int z_106), (3, .int z_102), (0, .ref a0), (1, .int x0), (2, .int x1)] [] w5_ 0 0
              exact mp_sub [0, 1, 2, 3, 4] rfl [5, 0, 1, 2, 6, 4, 3] rfl rfl (ih_11 (d_10 - 1) (by omega) z_106 z_102 (by omega) (by omega) (by omega) (by omega) (mp_sdx_s (k := i_1) x_7 h_103 (by omega) (by first | exact Or.inl ⟨⟨by assumption, by omega, by omega, by omega⟩, rfl⟩ | exact Or.inr ⟨by rintro ⟨q1, q2, q3, q4⟩; first | (exact absurd q1 (by assumption)) | omega, rfl⟩) (by omega)) (by omega) (by omega))
  exact mp_sub [0, 1, 2, 3, 4] rfl [0, 1, 2, 3, 4, 5, 6] rfl rfl (lp_9 _ 0 0 (by decide) (by decide) (by decide) (by decide) rfl (by first | omega | (have := mp_res_at p3 3 (by decide) (by decide); first | omega | (show (0 : Int) ≤ _; omega))) (Int.self_le_toNat _))
