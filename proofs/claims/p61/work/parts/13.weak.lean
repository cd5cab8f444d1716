set_option maxHeartbeats 4000000 in
set_option maxRecDepth 100000 in
theorem bX0_lastsAt_61 (E : mp_E) (a0 a1 a2 a3 a4 a5 a6 a7 a8 a9 a10 a11 a12 a13 a14 a15 a16 a17 a18 a19 : Nat) (f0 : Nat → Int32) (f1 : Nat → Int64) (f2 : Nat → Int32) (y0 : Int32) (y1 : Int32) (y2 : Int32) (y3 : Int32) (y4 : Int32) (y5 : Int32) (y6 : Int32) (x0 : Int32) (p0 : mp_all f0 10 0 99) (l_y0 : 0 ≤ y0.toInt) (u_y0 : y0.toInt ≤ 99) (l_y2 : 0 ≤ y2.toInt) (u_y2 : y2.toInt ≤ 6) (l_y3 : 0 ≤ y3.toInt) (u_y3 : y3.toInt ≤ 99) (l_y4 : 0 ≤ y4.toInt) (u_y4 : y4.toInt ≤ 6) (l_y5 : 0 ≤ y5.toInt) (u_y5 : y5.toInt ≤ 10) (l_y6 : 0 ≤ y6.toInt) (u_y6 : y6.toInt ≤ 60) : mp_Ct E yX0_lastsAt cX0_lastsAt 3 (some (FieldType.array FieldType.int)) 2 0 0 40 [.ref a0, .int x0] [(mp_ob0 a0 a1 y0 a5 a6 a7 a3 a4 a8), (mp_ob7 a1 y1 y2 y3 y4 y5 y6 a9 a10 a11 a12 a13 a14 a15 a16 a2 a17 a18 a19), (mp_arI E a2 0 10 f0), (mp_arL E a3 20 f1), (mp_arI E a4 0 10 f2)] (fun v w' => ∃ h1 : Nat → Int32, v = some (.ref a4) ∧ w' = [(mp_ob0 a0 a1 y0 a5 a6 a7 a3 a4 a8), (mp_ob7 a1 y1 y2 y3 y4 y5 y6 a9 a10 a11 a12 a13 a14 a15 a16 a2 a17 a18 a19), (mp_arI E a2 0 10 f0), (mp_arL E a3 20 f1), (mp_arI E a4 0 10 h1)]) := by
  refine mp_met false (by decide) (by decide) (Nat.le_of_ble_eq_true rfl) (fun X hF hQ => ?_)
  have hF : mp_F E X (RX0, cX0_lastsAt, 3, (2, 0, 0, 40), (some (FieldType.array FieldType.int)), false) := hF
  let w1_ : va_W := [(mp_ob0 a0 a1 y0 a5 a6 a7 a3 a4 a8), (mp_ob7 a1 y1 y2 y3 y4 y5 y6 a9 a10 a11 a12 a13 a14 a15 a16 a2 a17 a18 a19), (mp_arI E a2 0 10 f0), (mp_arL E a3 20 f1), (mp_arI E a4 0 10 f2)]
  show mp_W E X 3 0 [(0, .ref a0), (1, .int x0)] [] w1_ 0 0
  refine mp_run mp_k_cX0_lastsAt_ok hF mp_tabX0_ok [mp_c (.iconst 0) 0, mp_i (.istore_n 2)] (by decide +kernel) ?_
  show mp_W E X 3 2 [(2, .int 0), (0, .ref a0), (1, .int x0)] [] w1_ 0 0
  have lp_5 : ∀ (d_6 : Nat) (i_1 : Int32) (g_2 : Nat → Int32), 0 ≤ i_1.toInt → i_1.toInt ≤ 10 → y5.toInt - i_1.toInt ≤ (d_6 : Int) → mp_W E X 3 2 [(2, .int i_1), (0, .ref a0), (1, .int x0)] [] [(mp_ob0 a0 a1 y0 a5 a6 a7 a3 a4 a8), (mp_ob7 a1 y1 y2 y3 y4 y5 y6 a9 a10 a11 a12 a13 a14 a15 a16 a2 a17 a18 a19), (mp_arI E a2 0 10 f0), (mp_arL E a3 20 f1), (mp_arI E a4 0 10 g_2)] 0 0 := by
    intro d_6
    induction d_6 using Nat.strongRecOn with
    | ind d_6 ih_7 =>
      intro i_1 g_2 l_3 u_4 hm_8
      refine mp_run mp_k_cX0_lastsAt_ok hF mp_tabX0_ok [mp_i (.iload_n 2), mp_i (.aload_n 0), mp_h (.getfield 12) [11, 0], mp_h (.getfield 83) [2, 1], mp_h (.if_icmp .ge 21) [31]] (by decide +kernel) ?_
      refine And.intro rfl (And.intro rfl ?_)
      refine And.intro rfl (And.intro rfl ?_)
      refine And.intro (fun c_9 => ?_) (fun c_9 => ?_)
      · have c_9 : y5.toInt ≤ i_1.toInt := c_9
        let w2_ : va_W := [(mp_ob0 a0 a1 y0 a5 a6 a7 a3 a4 a8), (mp_ob7 a1 y1 y2 y3 y4 y5 y6 a9 a10 a11 a12 a13 a14 a15 a16 a2 a17 a18 a19), (mp_arI E a2 0 10 f0), (mp_arL E a3 20 f1), (mp_arI E a4 0 10 g_2)]
        show mp_W E X 3 31 [(2, .int i_1), (0, .ref a0), (1, .int x0)] [] w2_ 0 0
        refine mp_run mp_k_cX0_lastsAt_ok hF mp_tabX0_ok [mp_i (.aload_n 0), mp_h (.getfield 32) [17, 0]] (by decide +kernel) ?_
        refine And.intro rfl (And.intro rfl ?_)
        show mp_W E X 3 35 [(2, .int i_1), (0, .ref a0), (1, .int x0)] [.ref a4] w2_ 0 0
        exact mp_aret hF hQ rfl (Or.inr ⟨_, rfl⟩) (Nat.le_of_ble_eq_true rfl) (Nat.le_of_ble_eq_true rfl) [0, 1, 2, 3, 4] (w' := w2_) rfl rfl ⟨g_2, rfl, rfl⟩ (by first | exact mp_fd_ok mp_k_cX0_lastsAt_ok (by decide +kernel) | decide +kernel)
      · have c_9 : i_1.toInt < y5.toInt := c_9
        let w3_ : va_W := [(mp_ob0 a0 a1 y0 a5 a6 a7 a3 a4 a8), (mp_ob7 a1 y1 y2 y3 y4 y5 y6 a9 a10 a11 a12 a13 a14 a15 a16 a2 a17 a18 a19), (mp_arI E a2 0 10 f0), (mp_arL E a3 20 f1), (mp_arI E a4 0 10 g_2)]
        show mp_W E X 3 13 [(2, .int i_1), (0, .ref a0), (1, .int x0)] [] w3_ 0 0
        refine mp_run mp_k_cX0_lastsAt_ok hF mp_tabX0_ok [mp_i (.aload_n 0), mp_h (.getfield 32) [17, 0], mp_i (.iload_n 2), mp_i (.aload_n 0), mp_i (.iload_n 2), mp_i (.iload_n 1)] (by decide +kernel) ?_
        refine And.intro rfl (And.intro rfl ?_)
        show mp_W E X 3 21 [(2, .int i_1), (0, .ref a0), (1, .int x0)] [.int x0, .int i_1, .ref a0, .int i_1, .ref a4] w3_ 0 0
        refine mp_callV hF (As := [.int i_1, .int x0]) (rest := [.int i_1, .ref a4]) (wr := [(mp_arI E a4 0 10 g_2)]) (bX0_lastSaid_60 E a0 a1 a2 a3 a5 a6 a7 a4 a8 a9 a10 a11 a12 a13 a14 a15 a16 a17 a18 a19 f0 f1 y0 y1 y2 y3 y4 y5 y6 i_1 x0 p0 l_3 (by (first | exact mp_o419 u_y5 c_9 | omega)) l_y0 u_y0 l_y2 u_y2 l_y3 u_y3 l_y4 u_y4 l_y5 u_y5 l_y6 u_y6) mp_lkX0_86 0 rfl [0, 1, 2, 3] [4] rfl rfl rfl rfl rfl ⟨(Nat.le_of_ble_eq_true rfl), (Nat.le_of_ble_eq_true rfl), (Nat.le_of_ble_eq_true rfl), (Nat.le_of_ble_eq_true rfl)⟩ (Nat.le_of_ble_eq_true rfl) (by first | exact mp_fd_ok mp_k_cX0_lastsAt_ok (by decide +kernel) | decide +kernel) (fun v_10 w_11 h_12 => ?_)
        obtain ⟨r_13, rfl, l_14, u_15, rfl⟩ := h_12
        let w4_ : va_W := [(mp_arI E a4 0 10 g_2), (mp_ob0 a0 a1 y0 a5 a6 a7 a3 a4 a8), (mp_ob7 a1 y1 y2 y3 y4 y5 y6 a9 a10 a11 a12 a13 a14 a15 a16 a2 a17 a18 a19), (mp_arI E a2 0 10 f0), (mp_arL E a3 20 f1)]
        show mp_W E X 3 24 [(2, .int i_1), (0, .ref a0), (1, .int x0)] [.int r_13, .int i_1, .ref a4] w4_ 0 0
        refine mp_run mp_k_cX0_lastsAt_ok hF mp_tabX0_ok [mp_h .iastore [0]] (by decide +kernel) ?_
        refine And.intro rfl (And.intro rfl (And.intro (vp_in_iff.mpr (by (first | exact mp_o381 l_3 u_y5 c_9 | omega))) ?_))
        intro g_16 h_17
        let w5_ : va_W := [(mp_arI E a4 0 10 g_16), (mp_ob0 a0 a1 y0 a5 a6 a7 a3 a4 a8), (mp_ob7 a1 y1 y2 y3 y4 y5 y6 a9 a10 a11 a12 a13 a14 a15 a16 a2 a17 a18 a19), (mp_arI E a2 0 10 f0), (mp_arL E a3 20 f1)]
        show mp_W E X 3 25 [(2, .int i_1), (0, .ref a0), (1, .int x0)] [] w5_ 0 0
        refine mp_run mp_k_cX0_lastsAt_ok hF mp_tabX0_ok [mp_c (.iinc 2 1) 1, mp_h (.goto (-26)) [2]] (by decide +kernel) ?_
        intro z_18 h_19
        have e_20 : z_18.toInt = i_1.toInt + 1 := mp_add (a := i_1.toInt) (b := 1) h_19 rfl (by decide) (by (first | exact mp_o2 l_3 | omega)) (by (first | exact mp_o420 u_4 | omega))
        show mp_W E X 3 2 [(2, .int z_18), (0, .ref a0), (1, .int x0)] [] w5_ 0 0
        exact mp_sub [0, 1, 2] rfl [1, 2, 3, 4, 0] rfl rfl (ih_7 (d_6 - 1) (by (first | exact mp_o72 hm_8 c_9 | omega)) z_18 g_16 (by (first | exact mp_o51 l_3 e_20 | omega)) (by (first | exact mp_o421 u_y5 c_9 e_20 | omega)) (by (first | exact mp_o77 hm_8 e_20 | omega)))
  exact mp_sub [0, 1, 2] rfl [0, 1, 2, 3, 4] rfl rfl (lp_5 _ 0 f2 (by decide) (by decide) (Int.self_le_toNat _))
set_option maxHeartbeats 4000000 in
set_option maxRecDepth 100000 in
theorem bX7_ownHalvings_62 (E : mp_E) (a0 a1 a2 a3 a4 a5 a6 a7 a8 a9 a10 a11 a12 : Nat) (f0 : Nat → Int32) (f1 : Nat → Int32) (f2 : Nat → Int32) (f3 : Nat → Int32) (y0 : Int32) (y1 : Int32) (y2 : Int32) (y3 : Int32) (y4 : Int32) (y5 : Int32) (x0 : Int32) (x1 : Int32) (x2 : Int32) (p0 : mp_all f1 10 0 5) (p1 : mp_all f2 10 0 99) (p2 : mp_all f3 10 0 1) (l_x0 : 0 ≤ x0.toInt) (u_x0 : x0.toInt ≤ 9) (l_y1 : 0 ≤ y1.toInt) (u_y1 : y1.toInt ≤ 6) (l_y2 : 0 ≤ y2.toInt) (u_y2 : y2.toInt ≤ 99) (l_y3 : 0 ≤ y3.toInt) (u_y3 : y3.toInt ≤ 6) (l_y4 : 0 ≤ y4.toInt) (u_y4 : y4.toInt ≤ 10) (l_y5 : 0 ≤ y5.toInt) (u_y5 : y5.toInt ≤ 60) : mp_Ct E yX7_ownHalvings cX7_ownHalvings 6 (some FieldType.int) 0 0 0 0 [.ref a0, .int x0, .int x1, .int x2] [(mp_ob7 a0 y0 y1 y2 y3 y4 y5 a5 a6 a7 a1 a8 a2 a9 a10 a3 a4 a11 a12), (mp_arI E a1 0 6 f0), (mp_arI E a2 0 10 f1), (mp_arI E a3 0 10 f2), (mp_arI E a4 0 10 f3)] (fun v w' => ∃ r1 : Int32, v = some (.int r1) ∧ w' = [(mp_ob7 a0 y0 y1 y2 y3 y4 y5 a5 a6 a7 a1 a8 a2 a9 a10 a3 a4 a11 a12), (mp_arI E a1 0 6 f0), (mp_arI E a2 0 10 f1), (mp_arI E a3 0 10 f2), (mp_arI E a4 0 10 f3)]) := by
  refine mp_met false (by decide) (by decide) (Nat.le_of_ble_eq_true rfl) (fun X hF hQ => ?_)
  have hF : mp_F E X (RX7, cX7_ownHalvings, 6, (0, 0, 0, 0), (some FieldType.int), false) := hF
  let w1_ : va_W := [(mp_ob7 a0 y0 y1 y2 y3 y4 y5 a5 a6 a7 a1 a8 a2 a9 a10 a3 a4 a11 a12), (mp_arI E a1 0 6 f0), (mp_arI E a2 0 10 f1), (mp_arI E a3 0 10 f2), (mp_arI E a4 0 10 f3)]
  show mp_W E X 6 0 [(0, .ref a0), (1, .int x0), (2, .int x1), (3, .int x2)] [] w1_ 0 0
  refine mp_run mp_k_cX7_ownHalvings_ok hF mp_tabX7_ok [mp_i (.iload_n 3), mp_i (.iload_n 2), mp_i .isub, mp_i (.istore 4), mp_i (.iload_n 2), mp_i (.aload_n 0), mp_h (.getfield 37) [14, 0], mp_i (.iload_n 1), mp_h .iaload [3], mp_h (.if_icmp .ne 14) [26]] (by decide +kernel) ?_
  intro z_1 h_2
  refine And.intro rfl (And.intro rfl ?_)
  refine And.intro rfl (And.intro rfl (And.intro (vp_in_iff.mpr (by (first | exact mp_o181 l_x0 u_x0 | omega))) ?_))
  intro z_4 h_5
  have e_6 : 0 ≤ z_4.toInt ∧ z_4.toInt ≤ 99 := mp_all_ld h_5 p1 (by (first | exact l_x0 | omega)) (by (first | exact mp_o208 u_x0 | omega))
  refine And.intro (fun c_7 => ?_) (fun c_7 => ?_)
  · have c_7 : x1.toInt ≠ z_4.toInt := c_7
    show mp_W E X 6 26 [(4, .int z_1), (0, .ref a0), (1, .int x0), (2, .int x1), (3, .int x2)] [] w1_ 0 0
    refine mp_run mp_k_cX7_ownHalvings_ok hF mp_tabX7_ok [mp_i (.aload_n 0), mp_h (.getfield 22) [9, 0], mp_i (.aload_n 0), mp_h (.getfield 28) [11, 0], mp_i (.iload_n 1), mp_h .iaload [2], mp_h .iaload [1], mp_i (.istore 5), mp_i (.iload 5), mp_c (.iconst (-1)) (-1), mp_h (.if_icmp .eq 9) [51]] (by decide +kernel) ?_
    refine And.intro rfl (And.intro rfl ?_)
    refine And.intro rfl (And.intro rfl ?_)
    refine And.intro rfl (And.intro rfl (And.intro (vp_in_iff.mpr (by (first | exact mp_o181 l_x0 u_x0 | omega))) ?_))
    intro z_8 h_9
    have e_10 : 0 ≤ z_8.toInt ∧ z_8.toInt ≤ 5 := mp_all_ld h_9 p0 (by (first | exact l_x0 | omega)) (by (first | exact mp_o208 u_x0 | omega))
    refine And.intro rfl (And.intro rfl (And.intro (vp_in_iff.mpr (by (first | exact mp_o422 e_10 | omega))) ?_))
    intro z_11 h_12
    refine And.intro (fun c_13 => ?_) (fun c_13 => ?_)
    · have c_13 : z_11.toInt = (-1) := (congrArg Int32.toInt c_13)
      show mp_W E X 6 51 [(5, .int z_11), (4, .int z_1), (0, .ref a0), (1, .int x0), (2, .int x1), (3, .int x2)] [] w1_ 0 0
      refine mp_run mp_k_cX7_ownHalvings_ok hF mp_tabX7_ok [mp_i (.iload 4), mp_h (.goto 10) [63]] (by decide +kernel) ?_
      show mp_W E X 6 63 [(5, .int z_11), (4, .int z_1), (0, .ref a0), (1, .int x0), (2, .int x1), (3, .int x2)] [.int z_1] w1_ 0 0
      exact mp_iret hF hQ rfl rfl (Nat.le_of_ble_eq_true rfl) (Nat.le_of_ble_eq_true rfl) [0, 1, 2, 3, 4] (w' := w1_) rfl rfl ⟨z_1, rfl, rfl⟩ (by first | exact mp_fd_ok mp_k_cX7_ownHalvings_ok (by decide +kernel) | decide +kernel)
    · have c_13 : z_11.toInt ≠ (-1) := c_13
      show mp_W E X 6 45 [(5, .int z_11), (4, .int z_1), (0, .ref a0), (1, .int x0), (2, .int x1), (3, .int x2)] [] w1_ 0 0
      refine mp_run mp_k_cX7_ownHalvings_ok hF mp_tabX7_ok [mp_i (.iload_n 3), mp_i (.iload 5), mp_h (.if_icmp .ge 8) [56]] (by decide +kernel) ?_
      refine And.intro (fun c_14 => ?_) (fun c_14 => ?_)
      · have c_14 : z_11.toInt ≤ x2.toInt := c_14
        show mp_W E X 6 56 [(5, .int z_11), (4, .int z_1), (0, .ref a0), (1, .int x0), (2, .int x1), (3, .int x2)] [] w1_ 0 0
        refine mp_run mp_k_cX7_ownHalvings_ok hF mp_tabX7_ok [mp_i (.iload 4), mp_i (.iload_n 3), mp_i .iadd, mp_i (.iload 5), mp_i .isub] (by decide +kernel) ?_
        intro z_15 h_16
        have e_17 := mp_bnd z_11
        have e_18 := mp_bnd x2
        intro z_20 h_21
        have e_22 := mp_bnd z_11
        have e_23 := mp_bnd z_11
        have e_24 := mp_bnd x2
        show mp_W E X 6 63 [(5, .int z_11), (4, .int z_1), (0, .ref a0), (1, .int x0), (2, .int x1), (3, .int x2)] [.int z_20] w1_ 0 0
        exact mp_iret hF hQ rfl rfl (Nat.le_of_ble_eq_true rfl) (Nat.le_of_ble_eq_true rfl) [0, 1, 2, 3, 4] (w' := w1_) rfl rfl ⟨z_20, rfl, rfl⟩ (by first | exact mp_fd_ok mp_k_cX7_ownHalvings_ok (by decide +kernel) | decide +kernel)
      · have c_14 : x2.toInt < z_11.toInt := c_14
        show mp_W E X 6 51 [(5, .int z_11), (4, .int z_1), (0, .ref a0), (1, .int x0), (2, .int x1), (3, .int x2)] [] w1_ 0 0
        refine mp_run mp_k_cX7_ownHalvings_ok hF mp_tabX7_ok [mp_i (.iload 4), mp_h (.goto 10) [63]] (by decide +kernel) ?_
        show mp_W E X 6 63 [(5, .int z_11), (4, .int z_1), (0, .ref a0), (1, .int x0), (2, .int x1), (3, .int x2)] [.int z_1] w1_ 0 0
        exact mp_iret hF hQ rfl rfl (Nat.le_of_ble_eq_true rfl) (Nat.le_of_ble_eq_true rfl) [0, 1, 2, 3, 4] (w' := w1_) rfl rfl ⟨z_1, rfl, rfl⟩ (by first | exact mp_fd_ok mp_k_cX7_ownHalvings_ok (by decide +kernel) | decide +kernel)
  · have c_7 : x1.toInt = z_4.toInt := (congrArg Int32.toInt c_7)
    show mp_W E X 6 15 [(4, .int z_1), (0, .ref a0), (1, .int x0), (2, .int x1), (3, .int x2)] [] w1_ 0 0
    refine mp_run mp_k_cX7_ownHalvings_ok hF mp_tabX7_ok [mp_i (.iload 4), mp_i (.aload_n 0), mp_h (.getfield 40) [15, 0], mp_i (.iload_n 1), mp_h .iaload [4], mp_i .iadd, mp_i (.istore 4), mp_i (.aload_n 0), mp_h (.getfield 22) [9, 0], mp_i (.aload_n 0), mp_h (.getfield 28) [11, 0], mp_i (.iload_n 1), mp_h .iaload [2], mp_h .iaload [1], mp_i (.istore 5), mp_i (.iload 5), mp_c (.iconst (-1)) (-1), mp_h (.if_icmp .eq 9) [51]] (by decide +kernel) ?_
    refine And.intro rfl (And.intro rfl ?_)
    refine And.intro rfl (And.intro rfl (And.intro (vp_in_iff.mpr (by (first | exact mp_o181 l_x0 u_x0 | omega))) ?_))
    intro z_26 h_27
    have e_28 : 0 ≤ z_26.toInt ∧ z_26.toInt ≤ 1 := mp_all_ld h_27 p2 (by (first | exact l_x0 | omega)) (by (first | exact mp_o208 u_x0 | omega))
    intro z_29 h_30
    refine And.intro rfl (And.intro rfl ?_)
    refine And.intro rfl (And.intro rfl ?_)
    refine And.intro rfl (And.intro rfl (And.intro (vp_in_iff.mpr (by (first | exact mp_o181 l_x0 u_x0 | omega))) ?_))
    intro z_32 h_33
    have e_34 : 0 ≤ z_32.toInt ∧ z_32.toInt ≤ 5 := mp_all_ld h_33 p0 (by (first | exact l_x0 | omega)) (by (first | exact mp_o208 u_x0 | omega))
    refine And.intro rfl (And.intro rfl (And.intro (vp_in_iff.mpr (by (first | exact mp_o422 e_34 | omega))) ?_))
    intro z_35 h_36
    refine And.intro (fun c_37 => ?_) (fun c_37 => ?_)
    · have c_37 : z_35.toInt = (-1) := (congrArg Int32.toInt c_37)
      show mp_W E X 6 51 [(5, .int z_35), (4, .int z_29), (0, .ref a0), (1, .int x0), (2, .int x1), (3, .int x2)] [] w1_ 0 0
      refine mp_run mp_k_cX7_ownHalvings_ok hF mp_tabX7_ok [mp_i (.iload 4), mp_h (.goto 10) [63]] (by decide +kernel) ?_
      show mp_W E X 6 63 [(5, .int z_35), (4, .int z_29), (0, .ref a0), (1, .int x0), (2, .int x1), (3, .int x2)] [.int z_29] w1_ 0 0
      exact mp_iret hF hQ rfl rfl (Nat.le_of_ble_eq_true rfl) (Nat.le_of_ble_eq_true rfl) [0, 1, 2, 3, 4] (w' := w1_) rfl rfl ⟨z_29, rfl, rfl⟩ (by first | exact mp_fd_ok mp_k_cX7_ownHalvings_ok (by decide +kernel) | decide +kernel)
    · have c_37 : z_35.toInt ≠ (-1) := c_37
      show mp_W E X 6 45 [(5, .int z_35), (4, .int z_29), (0, .ref a0), (1, .int x0), (2, .int x1), (3, .int x2)] [] w1_ 0 0
      refine mp_run mp_k_cX7_ownHalvings_ok hF mp_tabX7_ok [mp_i (.iload_n 3), mp_i (.iload 5), mp_h (.if_icmp .ge 8) [56]] (by decide +kernel) ?_
      refine And.intro (fun c_38 => ?_) (fun c_38 => ?_)
      · have c_38 : z_35.toInt ≤ x2.toInt := c_38
        show mp_W E X 6 56 [(5, .int z_35), (4, .int z_29), (0, .ref a0), (1, .int x0), (2, .int x1), (3, .int x2)] [] w1_ 0 0
        refine mp_run mp_k_cX7_ownHalvings_ok hF mp_tabX7_ok [mp_i (.iload 4), mp_i (.iload_n 3), mp_i .iadd, mp_i (.iload 5), mp_i .isub] (by decide +kernel) ?_
        intro z_39 h_40
        have e_41 := mp_bnd z_35
        have e_42 := mp_bnd x2
        intro z_44 h_45
        have e_46 := mp_bnd z_35
        have e_47 := mp_bnd z_35
        have e_48 := mp_bnd x2
        show mp_W E X 6 63 [(5, .int z_35), (4, .int z_29), (0, .ref a0), (1, .int x0), (2, .int x1), (3, .int x2)] [.int z_44] w1_ 0 0
        exact mp_iret hF hQ rfl rfl (Nat.le_of_ble_eq_true rfl) (Nat.le_of_ble_eq_true rfl) [0, 1, 2, 3, 4] (w' := w1_) rfl rfl ⟨z_44, rfl, rfl⟩ (by first | exact mp_fd_ok mp_k_cX7_ownHalvings_ok (by decide +kernel) | decide +kernel)
      · have c_38 : x2.toInt < z_35.toInt := c_38
        show mp_W E X 6 51 [(5, .int z_35), (4, .int z_29), (0, .ref a0), (1, .int x0), (2, .int x1), (3, .int x2)] [] w1_ 0 0
        refine mp_run mp_k_cX7_ownHalvings_ok hF mp_tabX7_ok [mp_i (.iload 4), mp_h (.goto 10) [63]] (by decide +kernel) ?_
        show mp_W E X 6 63 [(5, .int z_35), (4, .int z_29), (0, .ref a0), (1, .int x0), (2, .int x1), (3, .int x2)] [.int z_29] w1_ 0 0
        exact mp_iret hF hQ rfl rfl (Nat.le_of_ble_eq_true rfl) (Nat.le_of_ble_eq_true rfl) [0, 1, 2, 3, 4] (w' := w1_) rfl rfl ⟨z_29, rfl, rfl⟩ (by first | exact mp_fd_ok mp_k_cX7_ownHalvings_ok (by decide +kernel) | decide +kernel)
set_option maxHeartbeats 4000000 in
set_option maxRecDepth 100000 in
theorem bX7_halvingsBy_63 (E : mp_E) (a0 a1 a2 a3 a4 a5 a6 a7 a8 a9 a10 a11 a12 a13 : Nat) (f0 : Nat → Int32) (f1 : Nat → Int32) (f2 : Nat → Int32) (f3 : Nat → Int32) (f4 : Nat → Int32) (f5 : Nat → Int32) (y0 : Int32) (y1 : Int32) (y2 : Int32) (y3 : Int32) (y4 : Int32) (y5 : Int32) (x0 : Int32) (x1 : Int32) (p0 : mp_all f1 10 0 5) (p1 : mp_all f2 10 0 99) (p2 : mp_all f3 10 0 1) (p3 : mp_all f4 10 (-1) 9) (l_x0 : 0 ≤ x0.toInt) (u_x0 : x0.toInt ≤ 9) (l_y1 : 0 ≤ y1.toInt) (u_y1 : y1.toInt ≤ 6) (l_y2 : 0 ≤ y2.toInt) (u_y2 : y2.toInt ≤ 99) (l_y3 : 0 ≤ y3.toInt) (u_y3 : y3.toInt ≤ 6) (l_y4 : 0 ≤ y4.toInt) (u_y4 : y4.toInt ≤ 10) (l_y5 : 0 ≤ y5.toInt) (u_y5 : y5.toInt ≤ 60) : mp_Ct E yX7_halvingsBy cX7_halvingsBy 7 (some FieldType.int) 1 0 0 25 [.ref a0, .ref a1, .int x0, .int x1] [(mp_ob7 a0 y0 y1 y2 y3 y4 y5 a7 a8 a9 a2 a10 a3 a11 a12 a4 a5 a6 a13), (mp_arI E a2 0 6 f0), (mp_arI E a3 0 10 f1), (mp_arI E a4 0 10 f2), (mp_arI E a5 0 10 f3), (mp_arI E a6 0 10 f4), (mp_arI E a1 0 10 f5)] (fun v w' => ∃ r1 : Int32, v = some (.int r1) ∧ w' = [(mp_ob7 a0 y0 y1 y2 y3 y4 y5 a7 a8 a9 a2 a10 a3 a11 a12 a4 a5 a6 a13), (mp_arI E a2 0 6 f0), (mp_arI E a3 0 10 f1), (mp_arI E a4 0 10 f2), (mp_arI E a5 0 10 f3), (mp_arI E a6 0 10 f4), (mp_arI E a1 0 10 f5)]) := by
  refine mp_met false (by decide) (by decide) (Nat.le_of_ble_eq_true rfl) (fun X hF hQ => ?_)
  have hF : mp_F E X (RX7, cX7_halvingsBy, 7, (1, 0, 0, 25), (some FieldType.int), false) := hF
  let w1_ : va_W := [(mp_ob7 a0 y0 y1 y2 y3 y4 y5 a7 a8 a9 a2 a10 a3 a11 a12 a4 a5 a6 a13), (mp_arI E a2 0 6 f0), (mp_arI E a3 0 10 f1), (mp_arI E a4 0 10 f2), (mp_arI E a5 0 10 f3), (mp_arI E a6 0 10 f4), (mp_arI E a1 0 10 f5)]
  show mp_W E X 7 0 [(0, .ref a0), (1, .ref a1), (2, .int x0), (3, .int x1)] [] w1_ 0 0
  refine mp_run mp_k_cX7_halvingsBy_ok hF mp_tabX7_ok [mp_c (.iconst 0) 0, mp_i (.istore 4), mp_i (.iload_n 2), mp_i (.istore 5), mp_c (.iconst 0) 0, mp_i (.istore 6)] (by decide +kernel) ?_
  show mp_W E X 7 9 [(6, .int 0), (5, .int x0), (4, .int 0), (0, .ref a0), (1, .ref a1), (2, .int x0), (3, .int x1)] [] w1_ 0 0
  have lp_8 : ∀ (d_9 : Nat) (i_1 : Int32) (i_2 : Int32) (i_3 : Int32), 0 ≤ i_1.toInt → i_1.toInt ≤ 10 → (-1) ≤ i_2.toInt → i_2.toInt ≤ 9 → -(i_1.toInt) + 10 ≤ (d_9 : Int) → mp_W E X 7 9 [(6, .int i_1), (5, .int i_2), (4, .int i_3), (0, .ref a0), (1, .ref a1), (2, .int x0), (3, .int x1)] [] [(mp_ob7 a0 y0 y1 y2 y3 y4 y5 a7 a8 a9 a2 a10 a3 a11 a12 a4 a5 a6 a13), (mp_arI E a2 0 6 f0), (mp_arI E a3 0 10 f1), (mp_arI E a4 0 10 f2), (mp_arI E a5 0 10 f3), (mp_arI E a6 0 10 f4), (mp_arI E a1 0 10 f5)] 0 0 := by
    intro d_9
    induction d_9 using Nat.strongRecOn with
    | ind d_9 ih_10 =>
      intro i_1 i_2 i_3 l_4 u_5 l_6 u_7 hm_11
      refine mp_run mp_k_cX7_halvingsBy_ok hF mp_tabX7_ok [mp_i (.iload 6), mp_c (.bipush 10) 10, mp_h (.if_icmp .ge 50) [63]] (by decide +kernel) ?_
      refine And.intro (fun c_12 => ?_) (fun c_12 => ?_)
      · have c_12 : 10 ≤ i_1.toInt := c_12
        show mp_W E X 7 63 [(6, .int i_1), (5, .int i_2), (4, .int i_3), (0, .ref a0), (1, .ref a1), (2, .int x0), (3, .int x1)] [] w1_ 0 0
        refine mp_run mp_k_cX7_halvingsBy_ok hF mp_tabX7_ok [mp_i (.iload 4)] (by decide +kernel) ?_
        show mp_W E X 7 65 [(6, .int i_1), (5, .int i_2), (4, .int i_3), (0, .ref a0), (1, .ref a1), (2, .int x0), (3, .int x1)] [.int i_3] w1_ 0 0
        exact mp_iret hF hQ rfl rfl (Nat.le_of_ble_eq_true rfl) (Nat.le_of_ble_eq_true rfl) [0, 1, 2, 3, 4, 5, 6] (w' := w1_) rfl rfl ⟨i_3, rfl, rfl⟩ (by first | exact mp_fd_ok mp_k_cX7_halvingsBy_ok (by decide +kernel) | decide +kernel)
      · have c_12 : i_1.toInt < 10 := c_12
        show mp_W E X 7 16 [(6, .int i_1), (5, .int i_2), (4, .int i_3), (0, .ref a0), (1, .ref a1), (2, .int x0), (3, .int x1)] [] w1_ 0 0
        refine mp_run mp_k_cX7_halvingsBy_ok hF mp_tabX7_ok [mp_i (.iload 5), mp_c (.iconst (-1)) (-1), mp_h (.if_icmp .eq 44) [63]] (by decide +kernel) ?_
        refine And.intro (fun c_13 => ?_) (fun c_13 => ?_)
        · have c_13 : i_2.toInt = (-1) := (congrArg Int32.toInt c_13)
          show mp_W E X 7 63 [(6, .int i_1), (5, .int i_2), (4, .int i_3), (0, .ref a0), (1, .ref a1), (2, .int x0), (3, .int x1)] [] w1_ 0 0
          refine mp_run mp_k_cX7_halvingsBy_ok hF mp_tabX7_ok [mp_i (.iload 4)] (by decide +kernel) ?_
          show mp_W E X 7 65 [(6, .int i_1), (5, .int i_2), (4, .int i_3), (0, .ref a0), (1, .ref a1), (2, .int x0), (3, .int x1)] [.int i_3] w1_ 0 0
          exact mp_iret hF hQ rfl rfl (Nat.le_of_ble_eq_true rfl) (Nat.le_of_ble_eq_true rfl) [0, 1, 2, 3, 4, 5, 6] (w' := w1_) rfl rfl ⟨i_3, rfl, rfl⟩ (by first | exact mp_fd_ok mp_k_cX7_halvingsBy_ok (by decide +kernel) | decide +kernel)
        · have c_13 : i_2.toInt ≠ (-1) := c_13
          show mp_W E X 7 22 [(6, .int i_1), (5, .int i_2), (4, .int i_3), (0, .ref a0), (1, .ref a1), (2, .int x0), (3, .int x1)] [] w1_ 0 0
          refine mp_run mp_k_cX7_halvingsBy_ok hF mp_tabX7_ok [mp_i (.aload_n 1), mp_i (.iload 5), mp_h .iaload [6], mp_c (.iconst (-1)) (-1), mp_h (.if_icmp .ne 5) [32]] (by decide +kernel) ?_
          refine And.intro rfl (And.intro rfl (And.intro (vp_in_iff.mpr (by (first | exact mp_o423 l_6 c_13 u_7 | omega))) ?_))
          intro z_14 h_15
          refine And.intro (fun c_16 => ?_) (fun c_16 => ?_)
          · have c_16 : z_14.toInt ≠ (-1) := c_16
            show mp_W E X 7 32 [(6, .int i_1), (5, .int i_2), (4, .int i_3), (0, .ref a0), (1, .ref a1), (2, .int x0), (3, .int x1)] [] w1_ 0 0
            refine mp_run mp_k_cX7_halvingsBy_ok hF mp_tabX7_ok [mp_i (.iload 4), mp_i (.aload_n 0), mp_i (.iload 5), mp_i (.aload_n 1), mp_i (.iload 5), mp_h .iaload [6], mp_i (.iload_n 3)] (by decide +kernel) ?_
            refine And.intro rfl (And.intro rfl (And.intro (vp_in_iff.mpr (by (first | exact mp_o423 l_6 c_13 u_7 | omega))) ?_))
            intro z_17 h_18
            have k_19 : z_14 = z_17 := h_15.trans h_18.symm
            subst k_19
            show mp_W E X 7 42 [(6, .int i_1), (5, .int i_2), (4, .int i_3), (0, .ref a0), (1, .ref a1), (2, .int x0), (3, .int x1)] [.int x1, .int z_14, .int i_2, .ref a0, .int i_3] w1_ 0 0
            refine mp_callV hF (As := [.int i_2, .int z_14, .int x1]) (rest := [.int i_3]) (wr := [(mp_arI E a6 0 10 f4), (mp_arI E a1 0 10 f5)]) (bX7_ownHalvings_62 E a0 a2 a3 a4 a5 a7 a8 a9 a10 a11 a12 a6 a13 f0 f1 f2 f3 y0 y1 y2 y3 y4 y5 i_2 z_14 x1 p0 p1 p2 (by (first | exact mp_o424 l_6 c_13 | omega)) u_7 l_y1 u_y1 l_y2 u_y2 l_y3 u_y3 l_y4 u_y4 l_y5 u_y5) mp_lkX7_102 0 rfl [0, 1, 2, 3, 4] [5, 6] rfl rfl rfl rfl rfl ⟨(Nat.le_of_ble_eq_true rfl), (Nat.le_of_ble_eq_true rfl), (Nat.le_of_ble_eq_true rfl), (Nat.le_of_ble_eq_true rfl)⟩ (Nat.le_of_ble_eq_true rfl) (by first | exact mp_fd_ok mp_k_cX7_halvingsBy_ok (by decide +kernel) | decide +kernel) (fun v_20 w_21 h_22 => ?_)
            obtain ⟨r_23, rfl, rfl⟩ := h_22
            let w2_ : va_W := [(mp_arI E a6 0 10 f4), (mp_arI E a1 0 10 f5), (mp_ob7 a0 y0 y1 y2 y3 y4 y5 a7 a8 a9 a2 a10 a3 a11 a12 a4 a5 a6 a13), (mp_arI E a2 0 6 f0), (mp_arI E a3 0 10 f1), (mp_arI E a4 0 10 f2), (mp_arI E a5 0 10 f3)]
            show mp_W E X 7 45 [(6, .int i_1), (5, .int i_2), (4, .int i_3), (0, .ref a0), (1, .ref a1), (2, .int x0), (3, .int x1)] [.int r_23, .int i_3] w2_ 0 0
            refine mp_run mp_k_cX7_halvingsBy_ok hF mp_tabX7_ok [mp_i .iadd, mp_i (.istore 4), mp_i (.aload_n 0), mp_h (.getfield 43) [16, 2], mp_i (.iload 5), mp_h .iaload [0], mp_i (.istore 5), mp_c (.iinc 6 1) 1, mp_h (.goto (-51)) [9]] (by decide +kernel) ?_
            intro z_24 h_25
            refine And.intro rfl (And.intro rfl ?_)
            refine And.intro rfl (And.intro rfl (And.intro (vp_in_iff.mpr (by (first | exact mp_o423 l_6 c_13 u_7 | omega))) ?_))
            intro z_27 h_28
            have e_29 : (-1) ≤ z_27.toInt ∧ z_27.toInt ≤ 9 := mp_all_ld h_28 p3 (by (first | exact mp_o424 l_6 c_13 | omega)) (by (first | exact mp_o208 u_7 | omega))
            intro z_30 h_31
            have e_32 : z_30.toInt = i_1.toInt + 1 := mp_add (a := i_1.toInt) (b := 1) h_31 rfl (by decide) (by (first | exact mp_o2 l_4 | omega)) (by (first | exact mp_o425 c_12 | omega))
            show mp_W E X 7 9 [(6, .int z_30), (5, .int z_27), (4, .int z_24), (0, .ref a0), (1, .ref a1), (2, .int x0), (3, .int x1)] [] w2_ 0 0
            exact mp_sub [0, 1, 2, 3, 4, 5, 6] rfl [2, 3, 4, 5, 6, 0, 1] rfl rfl (ih_10 (d_9 - 1) (by (first | exact mp_o426 hm_11 c_12 | omega)) z_30 z_27 z_24 (by (first | exact mp_o51 l_4 e_32 | omega)) (by (first | exact mp_o427 c_12 e_32 | omega)) e_29.1 e_29.2 (by (first | exact mp_o428 hm_11 e_32 | omega)))
          · have c_16 : z_14.toInt = (-1) := (congrArg Int32.toInt c_16)
            show mp_W E X 7 30 [(6, .int i_1), (5, .int i_2), (4, .int i_3), (0, .ref a0), (1, .ref a1), (2, .int x0), (3, .int x1)] [] w1_ 0 0
            refine mp_run mp_k_cX7_halvingsBy_ok hF mp_tabX7_ok [mp_c (.iconst (-1)) (-1)] (by decide +kernel) ?_
            show mp_W E X 7 31 [(6, .int i_1), (5, .int i_2), (4, .int i_3), (0, .ref a0), (1, .ref a1), (2, .int x0), (3, .int x1)] [.int (-1)] w1_ 0 0
            exact mp_iret hF hQ rfl rfl (Nat.le_of_ble_eq_true rfl) (Nat.le_of_ble_eq_true rfl) [0, 1, 2, 3, 4, 5, 6] (w' := w1_) rfl rfl ⟨(-1), rfl, rfl⟩ (by first | exact mp_fd_ok mp_k_cX7_halvingsBy_ok (by decide +kernel) | decide +kernel)
  exact mp_sub [0, 1, 2, 3, 4, 5, 6] rfl [0, 1, 2, 3, 4, 5, 6] rfl rfl (lp_8 _ 0 x0 0 (by decide) (by decide) (by (first | exact mp_o44 l_x0 | omega)) u_x0 (Int.self_le_toNat _))
set_option maxHeartbeats 4000000 in
set_option maxRecDepth 100000 in
theorem bX9_halvings_64 (E : mp_E) (a0 a1 a2 a3 a4 a5 a6 a7 a8 a9 a10 a11 a12 a13 a14 a15 a16 a17 a18 a19 a20 a21 a22 a23 a24 a25 a26 a27 a28 : Nat) (f0 : Nat → Int32) (f1 : Nat → Int32) (f2 : Nat → Int32) (f3 : Nat → Int32) (f4 : Nat → Int32) (f5 : Nat → Int64) (f6 : Nat → Int32) (y0 : Int32) (y1 : Int32) (y2 : Int32) (y3 : Int32) (y4 : Int32) (y5 : Int32) (y6 : Int32) (x0 : Int32) (x1 : Int32) (p0 : mp_all f1 10 0 5) (p1 : mp_all f2 10 0 99) (p2 : mp_all f3 10 0 1) (p3 : mp_all f4 10 (-1) 9) (l_y0 : 0 ≤ y0.toInt) (u_y0 : y0.toInt ≤ 99) (l_y2 : 0 ≤ y2.toInt) (u_y2 : y2.toInt ≤ 6) (l_y3 : 0 ≤ y3.toInt) (u_y3 : y3.toInt ≤ 99) (l_y4 : 0 ≤ y4.toInt) (u_y4 : y4.toInt ≤ 6) (l_y5 : 0 ≤ y5.toInt) (u_y5 : y5.toInt ≤ 10) (l_y6 : 0 ≤ y6.toInt) (u_y6 : y6.toInt ≤ 60) : mp_Ct E yX9_halvings cX9_halvings 3 (some FieldType.int) 3 0 0 62 [.ref a0, .int x0, .int x1] [(mp_ob9 a0 a10 a1 a11 a12 a13 a14 a15 a16 a17), (mp_ob0 a1 a2 y0 a18 a19 a20 a8 a9 a21), (mp_ob7 a2 y1 y2 y3 y4 y5 y6 a22 a23 a24 a3 a25 a4 a26 a27 a5 a6 a7 a28), (mp_arI E a3 0 6 f0), (mp_arI E a4 0 10 f1), (mp_arI E a5 0 10 f2), (mp_arI E a6 0 10 f3), (mp_arI E a7 0 10 f4), (mp_arL E a8 20 f5), (mp_arI E a9 0 10 f6)] (fun v w' => ∃ h1 : Nat → Int32, ∃ r2 : Int32, v = some (.int r2) ∧ w' = [(mp_ob9 a0 a10 a1 a11 a12 a13 a14 a15 a16 a17), (mp_ob0 a1 a2 y0 a18 a19 a20 a8 a9 a21), (mp_ob7 a2 y1 y2 y3 y4 y5 y6 a22 a23 a24 a3 a25 a4 a26 a27 a5 a6 a7 a28), (mp_arI E a3 0 6 f0), (mp_arI E a4 0 10 f1), (mp_arI E a5 0 10 f2), (mp_arI E a6 0 10 f3), (mp_arI E a7 0 10 f4), (mp_arL E a8 20 f5), (mp_arI E a9 0 10 h1)]) := by
  refine mp_met false (by decide) (by decide) (Nat.le_of_ble_eq_true rfl) (fun X hF hQ => ?_)
  have hF : mp_F E X (RX9, cX9_halvings, 3, (3, 0, 0, 62), (some FieldType.int), false) := hF
  let w1_ : va_W := [(mp_ob9 a0 a10 a1 a11 a12 a13 a14 a15 a16 a17), (mp_ob0 a1 a2 y0 a18 a19 a20 a8 a9 a21), (mp_ob7 a2 y1 y2 y3 y4 y5 y6 a22 a23 a24 a3 a25 a4 a26 a27 a5 a6 a7 a28), (mp_arI E a3 0 6 f0), (mp_arI E a4 0 10 f1), (mp_arI E a5 0 10 f2), (mp_arI E a6 0 10 f3), (mp_arI E a7 0 10 f4), (mp_arL E a8 20 f5), (mp_arI E a9 0 10 f6)]
  show mp_W E X 3 0 [(0, .ref a0), (1, .int x0), (2, .int x1)] [] w1_ 0 0
  refine mp_run mp_k_cX9_halvings_ok hF mp_tabX9_ok [mp_i (.aload_n 0), mp_h (.getfield 19) [37, 0], mp_h (.getfield 83) [20, 1], mp_i (.iload_n 1)] (by decide +kernel) ?_
  refine And.intro rfl (And.intro rfl ?_)
  refine And.intro rfl (And.intro rfl ?_)
  show mp_W E X 3 8 [(0, .ref a0), (1, .int x0), (2, .int x1)] [.int x0, .ref a2] w1_ 0 0
  refine mp_callV hF (As := [.int x0]) (rest := []) (wr := [(mp_ob9 a0 a10 a1 a11 a12 a13 a14 a15 a16 a17), (mp_ob0 a1 a2 y0 a18 a19 a20 a8 a9 a21), (mp_arI E a3 0 6 f0), (mp_arI E a4 0 10 f1), (mp_arI E a5 0 10 f2), (mp_arI E a6 0 10 f3), (mp_arI E a7 0 10 f4), (mp_arL E a8 20 f5), (mp_arI E a9 0 10 f6)]) (bX7_isPromise_53 E a2 a22 a23 a24 a3 a25 a4 a26 a27 a5 a6 a7 a28 y1 y2 y3 y4 y5 y6 x0 l_y2 u_y2 l_y3 u_y3 l_y4 u_y4 l_y5 u_y5 l_y6 u_y6) mp_lkX9_120 2 rfl [2] [0, 1, 3, 4, 5, 6, 7, 8, 9] rfl rfl rfl rfl rfl ⟨(Nat.le_of_ble_eq_true rfl), (Nat.le_of_ble_eq_true rfl), (Nat.le_of_ble_eq_true rfl), (Nat.le_of_ble_eq_true rfl)⟩ (Nat.le_of_ble_eq_true rfl) (by first | exact mp_fd_ok mp_k_cX9_halvings_ok (by decide +kernel) | decide +kernel) (fun v_1 w_2 h_3 => ?_)
  rcases h_3 with ⟨rfl, x_4, rfl⟩ | ⟨rfl, c_5, c_6, x_7, rfl⟩
  · skip
    let w2_ : va_W := [(mp_ob9 a0 a10 a1 a11 a12 a13 a14 a15 a16 a17), (mp_ob0 a1 a2 y0 a18 a19 a20 a8 a9 a21), (mp_arI E a3 0 6 f0), (mp_arI E a4 0 10 f1), (mp_arI E a5 0 10 f2), (mp_arI E a6 0 10 f3), (mp_arI E a7 0 10 f4), (mp_arL E a8 20 f5), (mp_arI E a9 0 10 f6), (mp_ob7 a2 y1 y2 y3 y4 y5 y6 a22 a23 a24 a3 a25 a4 a26 a27 a5 a6 a7 a28)]
    show mp_W E X 3 11 [(0, .ref a0), (1, .int x0), (2, .int x1)] [.int 0] w2_ 0 0
    refine mp_run mp_k_cX9_halvings_ok hF mp_tabX9_ok [mp_h (.ifCond .eq 10) [21]] (by decide +kernel) ?_
    refine And.intro (fun _ => ?_) (fun c_8 => absurd c_8 (by decide))
    show mp_W E X 3 21 [(0, .ref a0), (1, .int x0), (2, .int x1)] [] w2_ 0 0
    refine mp_run mp_k_cX9_halvings_ok hF mp_tabX9_ok [mp_c (.bipush (-2)) (-2)] (by decide +kernel) ?_
    show mp_W E X 3 23 [(0, .ref a0), (1, .int x0), (2, .int x1)] [.int (-2)] w2_ 0 0
    exact mp_iret hF hQ rfl rfl (Nat.le_of_ble_eq_true rfl) (Nat.le_of_ble_eq_true rfl) [0, 1, 9, 2, 3, 4, 5, 6, 7, 8] (w' := w1_) rfl rfl ⟨f6, (-2), rfl, rfl⟩ (by first | exact mp_fd_ok mp_k_cX9_halvings_ok (by decide +kernel) | decide +kernel)
  · skip
    have c_5 : 0 ≤ x0.toInt := c_5
    have c_6 : x0.toInt < y5.toInt := c_6
    let w3_ : va_W := [(mp_ob9 a0 a10 a1 a11 a12 a13 a14 a15 a16 a17), (mp_ob0 a1 a2 y0 a18 a19 a20 a8 a9 a21), (mp_arI E a3 0 6 f0), (mp_arI E a4 0 10 f1), (mp_arI E a5 0 10 f2), (mp_arI E a6 0 10 f3), (mp_arI E a7 0 10 f4), (mp_arL E a8 20 f5), (mp_arI E a9 0 10 f6), (mp_ob7 a2 y1 y2 y3 y4 y5 y6 a22 a23 a24 a3 a25 a4 a26 a27 a5 a6 a7 a28)]
    show mp_W E X 3 11 [(0, .ref a0), (1, .int x0), (2, .int x1)] [.int 1] w3_ 0 0
    refine mp_run mp_k_cX9_halvings_ok hF mp_tabX9_ok [mp_h (.ifCond .eq 10) [21]] (by decide +kernel) ?_
    refine And.intro (fun c_9 => absurd c_9 (by decide)) (fun _ => ?_)
    show mp_W E X 3 14 [(0, .ref a0), (1, .int x0), (2, .int x1)] [] w3_ 0 0
    refine mp_run mp_k_cX9_halvings_ok hF mp_tabX9_ok [mp_i (.iload_n 2)] (by decide +kernel) ?_
    show mp_W E X 3 15 [(0, .ref a0), (1, .int x0), (2, .int x1)] [.int x1] w3_ 0 0
    refine mp_callS hF (As := [.int x1]) (rest := []) (wr := w3_) (bX9_isMoon_57 E x1) mp_lkX9_148 [] [0, 1, 2, 3, 4, 5, 6, 7, 8, 9] rfl rfl rfl rfl rfl ⟨(Nat.le_of_ble_eq_true rfl), (Nat.le_of_ble_eq_true rfl), (Nat.le_of_ble_eq_true rfl), (Nat.le_of_ble_eq_true rfl)⟩ (Nat.le_of_ble_eq_true rfl) (by first | exact mp_fd_ok mp_k_cX9_halvings_ok (by decide +kernel) | decide +kernel) (fun v_10 w_11 h_12 => ?_)
    rcases h_12 with ⟨rfl, x_13, rfl⟩ | ⟨rfl, c_14, c_15, x_16, rfl⟩
    · skip
      show mp_W E X 3 18 [(0, .ref a0), (1, .int x0), (2, .int x1)] [.int 0] w3_ 0 0
      refine mp_run mp_k_cX9_halvings_ok hF mp_tabX9_ok [mp_h (.ifCond .ne 6) [24]] (by decide +kernel) ?_
      refine And.intro (fun c_17 => absurd c_17 (by decide)) (fun _ => ?_)
      show mp_W E X 3 21 [(0, .ref a0), (1, .int x0), (2, .int x1)] [] w3_ 0 0
      refine mp_run mp_k_cX9_halvings_ok hF mp_tabX9_ok [mp_c (.bipush (-2)) (-2)] (by decide +kernel) ?_
      show mp_W E X 3 23 [(0, .ref a0), (1, .int x0), (2, .int x1)] [.int (-2)] w3_ 0 0
      exact mp_iret hF hQ rfl rfl (Nat.le_of_ble_eq_true rfl) (Nat.le_of_ble_eq_true rfl) [0, 1, 9, 2, 3, 4, 5, 6, 7, 8] (w' := w1_) rfl rfl ⟨f6, (-2), rfl, rfl⟩ (by first | exact mp_fd_ok mp_k_cX9_halvings_ok (by decide +kernel) | decide +kernel)
    · skip
      have c_14 : 0 ≤ x1.toInt := c_14
      have c_15 : x1.toInt ≤ 99 := c_15
      show mp_W E X 3 18 [(0, .ref a0), (1, .int x0), (2, .int x1)] [.int 1] w3_ 0 0
      refine mp_run mp_k_cX9_halvings_ok hF mp_tabX9_ok [mp_h (.ifCond .ne 6) [24]] (by decide +kernel) ?_
      refine And.intro (fun _ => ?_) (fun c_18 => absurd c_18 (by decide))
      show mp_W E X 3 24 [(0, .ref a0), (1, .int x0), (2, .int x1)] [] w3_ 0 0
      refine mp_run mp_k_cX9_halvings_ok hF mp_tabX9_ok [mp_i (.aload_n 0), mp_h (.getfield 19) [37, 0], mp_h (.getfield 83) [20, 1], mp_i (.aload_n 0), mp_h (.getfield 19) [37, 0], mp_i (.iload_n 2)] (by decide +kernel) ?_
      refine And.intro rfl (And.intro rfl ?_)
      refine And.intro rfl (And.intro rfl ?_)
      refine And.intro rfl (And.intro rfl ?_)
      show mp_W E X 3 36 [(0, .ref a0), (1, .int x0), (2, .int x1)] [.int x1, .ref a1, .ref a2] w3_ 0 0
      refine mp_callV hF (As := [.int x1]) (rest := [.ref a2]) (wr := [(mp_ob9 a0 a10 a1 a11 a12 a13 a14 a15 a16 a17), (mp_arI E a3 0 6 f0), (mp_arI E a4 0 10 f1), (mp_arI E a6 0 10 f3), (mp_arI E a7 0 10 f4)]) (bX0_lastsAt_61 E a1 a2 a5 a8 a9 a18 a19 a20 a21 a22 a23 a24 a3 a25 a4 a26 a27 a6 a7 a28 f2 f5 f6 y0 y1 y2 y3 y4 y5 y6 x1 p1 l_y0 u_y0 l_y2 u_y2 l_y3 u_y3 l_y4 u_y4 l_y5 u_y5 l_y6 u_y6) mp_lkX9_155 1 rfl [1, 9, 4, 7, 8] [0, 2, 3, 5, 6] rfl rfl rfl rfl rfl ⟨(Nat.le_of_ble_eq_true rfl), (Nat.le_of_ble_eq_true rfl), (Nat.le_of_ble_eq_true rfl), (Nat.le_of_ble_eq_true rfl)⟩ (Nat.le_of_ble_eq_true rfl) (by first | exact mp_fd_ok mp_k_cX9_halvings_ok (by decide +kernel) | decide +kernel) (fun v_19 w_20 h_21 => ?_)
      obtain ⟨g_22, rfl, rfl⟩ := h_21
      let w4_ : va_W := [(mp_ob9 a0 a10 a1 a11 a12 a13 a14 a15 a16 a17), (mp_arI E a3 0 6 f0), (mp_arI E a4 0 10 f1), (mp_arI E a6 0 10 f3), (mp_arI E a7 0 10 f4), (mp_ob0 a1 a2 y0 a18 a19 a20 a8 a9 a21), (mp_ob7 a2 y1 y2 y3 y4 y5 y6 a22 a23 a24 a3 a25 a4 a26 a27 a5 a6 a7 a28), (mp_arI E a5 0 10 f2), (mp_arL E a8 20 f5), (mp_arI E a9 0 10 g_22)]
      show mp_W E X 3 39 [(0, .ref a0), (1, .int x0), (2, .int x1)] [.ref a9, .ref a2] w4_ 0 0
      refine mp_run mp_k_cX9_halvings_ok hF mp_tabX9_ok [mp_i (.iload_n 1), mp_i (.iload_n 2)] (by decide +kernel) ?_
      show mp_W E X 3 41 [(0, .ref a0), (1, .int x0), (2, .int x1)] [.int x1, .int x0, .ref a9, .ref a2] w4_ 0 0
      refine mp_callV hF (As := [.ref a9, .int x0, .int x1]) (rest := []) (wr := [(mp_ob9 a0 a10 a1 a11 a12 a13 a14 a15 a16 a17), (mp_ob0 a1 a2 y0 a18 a19 a20 a8 a9 a21), (mp_arL E a8 20 f5)]) (bX7_halvingsBy_63 E a2 a9 a3 a4 a5 a6 a7 a22 a23 a24 a25 a26 a27 a28 f0 f1 f2 f3 f4 g_22 y1 y2 y3 y4 y5 y6 x0 x1 p0 p1 p2 p3 (by (first | exact c_5 | omega)) (by (first | exact mp_o419 u_y5 c_6 | omega)) l_y2 u_y2 l_y3 u_y3 l_y4 u_y4 l_y5 u_y5 l_y6 u_y6) mp_lkX9_159 6 rfl [6, 1, 2, 7, 3, 4, 9] [0, 5, 8] rfl rfl rfl rfl rfl ⟨(Nat.le_of_ble_eq_true rfl), (Nat.le_of_ble_eq_true rfl), (Nat.le_of_ble_eq_true rfl), (Nat.le_of_ble_eq_true rfl)⟩ (Nat.le_of_ble_eq_true rfl) (by first | exact mp_fd_ok mp_k_cX9_halvings_ok (by decide +kernel) | decide +kernel) (fun v_23 w_24 h_25 => ?_)
      obtain ⟨r_26, rfl, rfl⟩ := h_25
      let w5_ : va_W := [(mp_ob9 a0 a10 a1 a11 a12 a13 a14 a15 a16 a17), (mp_ob0 a1 a2 y0 a18 a19 a20 a8 a9 a21), (mp_arL E a8 20 f5), (mp_ob7 a2 y1 y2 y3 y4 y5 y6 a22 a23 a24 a3 a25 a4 a26 a27 a5 a6 a7 a28), (mp_arI E a3 0 6 f0), (mp_arI E a4 0 10 f1), (mp_arI E a5 0 10 f2), (mp_arI E a6 0 10 f3), (mp_arI E a7 0 10 f4), (mp_arI E a9 0 10 g_22)]
      show mp_W E X 3 44 [(0, .ref a0), (1, .int x0), (2, .int x1)] [.int r_26] w5_ 0 0
      exact mp_iret hF hQ rfl rfl (Nat.le_of_ble_eq_true rfl) (Nat.le_of_ble_eq_true rfl) [0, 1, 3, 4, 5, 6, 7, 8, 2, 9] (w' := [(mp_ob9 a0 a10 a1 a11 a12 a13 a14 a15 a16 a17), (mp_ob0 a1 a2 y0 a18 a19 a20 a8 a9 a21), (mp_ob7 a2 y1 y2 y3 y4 y5 y6 a22 a23 a24 a3 a25 a4 a26 a27 a5 a6 a7 a28), (mp_arI E a3 0 6 f0), (mp_arI E a4 0 10 f1), (mp_arI E a5 0 10 f2), (mp_arI E a6 0 10 f3), (mp_arI E a7 0 10 f4), (mp_arL E a8 20 f5), (mp_arI E a9 0 10 g_22)]) rfl rfl ⟨g_22, r_26, rfl, rfl⟩ (by first | exact mp_fd_ok mp_k_cX9_halvings_ok (by decide +kernel) | decide +kernel)
set_option maxHeartbeats 4000000 in
set_option maxRecDepth 100000 in
theorem bX9_halved_65 (E : mp_E) (x0 : Int32) (x1 : Int32) : mp_Ct E yX9_halved cX9_halved 2 (some FieldType.int) 0 0 0 0 [.int x0, .int x1] [] (fun v w' => ∃ r1 : Int32, v = some (.int r1) ∧ w' = []) := by
  refine mp_met false (by decide) (by decide) (Nat.le_of_ble_eq_true rfl) (fun X hF hQ => ?_)
  have hF : mp_F E X (RX9, cX9_halved, 2, (0, 0, 0, 0), (some FieldType.int), false) := hF
  show mp_W E X 2 0 [(0, .int x0), (1, .int x1)] [] [] 0 0
  refine mp_run mp_k_cX9_halved_ok hF mp_tabX9_ok [mp_i (.iload_n 1), mp_c (.bipush 24) 24, mp_h (.if_icmp .lt 5) [8]] (by decide +kernel) ?_
  refine And.intro (fun c_1 => ?_) (fun c_1 => ?_)
  · have c_1 : x1.toInt < 24 := c_1
    show mp_W E X 2 8 [(0, .int x0), (1, .int x1)] [] [] 0 0
    refine mp_run mp_k_cX9_halved_ok hF mp_tabX9_ok [mp_i (.iload_n 0), mp_c (.iconst 1) 1, mp_i (.iload_n 1), mp_i .ishl, mp_i .iadd, mp_c (.iconst 1) 1, mp_i .isub, mp_i (.iload_n 1), mp_i .ishr] (by decide +kernel) ?_
    intro z_2 h_3
    have e_4 := mp_bnd x1
    intro z_6 h_7
    intro z_9 h_10
    have e_11 := mp_bnd z_6
    intro z_13 h_14
    have e_15 := mp_bnd x1
    show mp_W E X 2 17 [(0, .int x0), (1, .int x1)] [.int z_13] [] 0 0
    exact mp_iret hF hQ rfl rfl (Nat.le_of_ble_eq_true rfl) (Nat.le_of_ble_eq_true rfl) [] (w' := []) rfl rfl ⟨z_13, rfl, rfl⟩ (by first | exact mp_fd_ok mp_k_cX9_halved_ok (by decide +kernel) | decide +kernel)
  · have c_1 : 24 ≤ x1.toInt := c_1
    show mp_W E X 2 6 [(0, .int x0), (1, .int x1)] [] [] 0 0
    refine mp_run mp_k_cX9_halved_ok hF mp_tabX9_ok [mp_c (.iconst 1) 1] (by decide +kernel) ?_
    show mp_W E X 2 7 [(0, .int x0), (1, .int x1)] [.int 1] [] 0 0
    exact mp_iret hF hQ rfl rfl (Nat.le_of_ble_eq_true rfl) (Nat.le_of_ble_eq_true rfl) [] (w' := []) rfl rfl ⟨1, rfl, rfl⟩ (by first | exact mp_fd_ok mp_k_cX9_halved_ok (by decide +kernel) | decide +kernel)
set_option maxHeartbeats 4000000 in
set_option maxRecDepth 100000 in
theorem bX7_worthBy_66 (E : mp_E) (a0 a1 a2 a3 a4 a5 a6 a7 a8 a9 a10 a11 a12 a13 : Nat) (f0 : Nat → Int32) (f1 : Nat → Int32) (f2 : Nat → Int32) (f3 : Nat → Int32) (f4 : Nat → Int32) (f5 : Nat → Int32) (f6 : Nat → Int32) (y0 : Int32) (y1 : Int32) (y2 : Int32) (y3 : Int32) (y4 : Int32) (y5 : Int32) (x0 : Int32) (x1 : Int32) (p0 : mp_all f1 10 0 5) (p1 : mp_all f3 10 0 99) (p2 : mp_all f4 10 0 1) (p3 : mp_all f5 10 (-1) 9) (l_x0 : 0 ≤ x0.toInt) (u_x0 : x0.toInt ≤ 9) (l_y1 : 0 ≤ y1.toInt) (u_y1 : y1.toInt ≤ 6) (l_y2 : 0 ≤ y2.toInt) (u_y2 : y2.toInt ≤ 99) (l_y3 : 0 ≤ y3.toInt) (u_y3 : y3.toInt ≤ 6) (l_y4 : 0 ≤ y4.toInt) (u_y4 : y4.toInt ≤ 10) (l_y5 : 0 ≤ y5.toInt) (u_y5 : y5.toInt ≤ 60) : mp_Ct E yX7_worthBy cX7_worthBy 5 (some FieldType.int) 2 0 0 51 [.ref a0, .ref a1, .int x0, .int x1] [(mp_ob7 a0 y0 y1 y2 y3 y4 y5 a8 a9 a10 a2 a11 a3 a12 a4 a5 a6 a7 a13), (mp_arI E a2 0 6 f0), (mp_arI E a3 0 10 f1), (mp_arI E a4 0 10 f2), (mp_arI E a5 0 10 f3), (mp_arI E a6 0 10 f4), (mp_arI E a7 0 10 f5), (mp_arI E a1 0 10 f6)] (fun v w' => ∃ r1 : Int32, v = some (.int r1) ∧ w' = [(mp_ob7 a0 y0 y1 y2 y3 y4 y5 a8 a9 a10 a2 a11 a3 a12 a4 a5 a6 a7 a13), (mp_arI E a2 0 6 f0), (mp_arI E a3 0 10 f1), (mp_arI E a4 0 10 f2), (mp_arI E a5 0 10 f3), (mp_arI E a6 0 10 f4), (mp_arI E a7 0 10 f5), (mp_arI E a1 0 10 f6)]) := by
  refine mp_met false (by decide) (by decide) (Nat.le_of_ble_eq_true rfl) (fun X hF hQ => ?_)
  have hF : mp_F E X (RX7, cX7_worthBy, 5, (2, 0, 0, 51), (some FieldType.int), false) := hF
  let w1_ : va_W := [(mp_ob7 a0 y0 y1 y2 y3 y4 y5 a8 a9 a10 a2 a11 a3 a12 a4 a5 a6 a7 a13), (mp_arI E a2 0 6 f0), (mp_arI E a3 0 10 f1), (mp_arI E a4 0 10 f2), (mp_arI E a5 0 10 f3), (mp_arI E a6 0 10 f4), (mp_arI E a7 0 10 f5), (mp_arI E a1 0 10 f6)]
  show mp_W E X 5 0 [(0, .ref a0), (1, .ref a1), (2, .int x0), (3, .int x1)] [] w1_ 0 0
  refine mp_run mp_k_cX7_worthBy_ok hF mp_tabX7_ok [mp_i (.aload_n 0), mp_i (.aload_n 1), mp_i (.iload_n 2), mp_i (.iload_n 3)] (by decide +kernel) ?_
  show mp_W E X 5 4 [(0, .ref a0), (1, .ref a1), (2, .int x0), (3, .int x1)] [.int x1, .int x0, .ref a1, .ref a0] w1_ 0 0
  refine mp_callV hF (As := [.ref a1, .int x0, .int x1]) (rest := []) (wr := [(mp_arI E a4 0 10 f2)]) (bX7_halvingsBy_63 E a0 a1 a2 a3 a5 a6 a7 a8 a9 a10 a11 a12 a4 a13 f0 f1 f3 f4 f5 f6 y0 y1 y2 y3 y4 y5 x0 x1 p0 p1 p2 p3 l_x0 u_x0 l_y1 u_y1 l_y2 u_y2 l_y3 u_y3 l_y4 u_y4 l_y5 u_y5) mp_lkX7_106 0 rfl [0, 1, 2, 4, 5, 6, 7] [3] rfl rfl rfl rfl rfl ⟨(Nat.le_of_ble_eq_true rfl), (Nat.le_of_ble_eq_true rfl), (Nat.le_of_ble_eq_true rfl), (Nat.le_of_ble_eq_true rfl)⟩ (Nat.le_of_ble_eq_true rfl) (by first | exact mp_fd_ok mp_k_cX7_worthBy_ok (by decide +kernel) | decide +kernel) (fun v_1 w_2 h_3 => ?_)
  obtain ⟨r_4, rfl, rfl⟩ := h_3
  let w2_ : va_W := [(mp_arI E a4 0 10 f2), (mp_ob7 a0 y0 y1 y2 y3 y4 y5 a8 a9 a10 a2 a11 a3 a12 a4 a5 a6 a7 a13), (mp_arI E a2 0 6 f0), (mp_arI E a3 0 10 f1), (mp_arI E a5 0 10 f3), (mp_arI E a6 0 10 f4), (mp_arI E a7 0 10 f5), (mp_arI E a1 0 10 f6)]
  show mp_W E X 5 7 [(0, .ref a0), (1, .ref a1), (2, .int x0), (3, .int x1)] [.int r_4] w2_ 0 0
  refine mp_run mp_k_cX7_worthBy_ok hF mp_tabX7_ok [mp_i (.istore 4), mp_i (.iload 4), mp_c (.iconst (-1)) (-1), mp_h (.if_icmp .ne 7) [19]] (by decide +kernel) ?_
  refine And.intro (fun c_5 => ?_) (fun c_5 => ?_)
  · have c_5 : r_4.toInt ≠ (-1) := c_5
    show mp_W E X 5 19 [(4, .int r_4), (0, .ref a0), (1, .ref a1), (2, .int x0), (3, .int x1)] [] w2_ 0 0
    refine mp_run mp_k_cX7_worthBy_ok hF mp_tabX7_ok [mp_i (.aload_n 0), mp_h (.getfield 34) [13, 1], mp_i (.iload_n 2), mp_h .iaload [0], mp_i (.iload 4)] (by decide +kernel) ?_
    refine And.intro rfl (And.intro rfl ?_)
    refine And.intro rfl (And.intro rfl (And.intro (vp_in_iff.mpr (by omega)) ?_))
    intro z_6 h_7
    show mp_W E X 5 27 [(4, .int r_4), (0, .ref a0), (1, .ref a1), (2, .int x0), (3, .int x1)] [.int r_4, .int z_6] w2_ 0 0
    refine mp_callSN hF (As := [.int z_6, .int r_4]) (rest := []) (wr := w2_) (bX9_halved_65 E z_6 r_4) (mp_gm (j := 3200) (by decide +kernel)) mp_lkX7_110 [] [0, 1, 2, 3, 4, 5, 6, 7] rfl rfl rfl rfl rfl ⟨(Nat.le_of_ble_eq_true rfl), (Nat.le_of_ble_eq_true rfl), (Nat.le_of_ble_eq_true rfl), (Nat.le_of_ble_eq_true rfl)⟩ (Nat.le_of_ble_eq_true rfl) (by first | exact mp_fd_ok mp_k_cX7_worthBy_ok (by decide +kernel) | decide +kernel) (fun v_8 w_9 h_10 => ?_)
    obtain ⟨r_11, rfl, rfl⟩ := h_10
    show mp_W E X 5 30 [(4, .int r_4), (0, .ref a0), (1, .ref a1), (2, .int x0), (3, .int x1)] [.int r_11] w2_ 0 0
    exact mp_iret hF hQ rfl rfl (Nat.le_of_ble_eq_true rfl) (Nat.le_of_ble_eq_true rfl) [1, 2, 3, 0, 4, 5, 6, 7] (w' := w1_) rfl rfl ⟨r_11, rfl, rfl⟩ (by first | exact mp_fd_ok mp_k_cX7_worthBy_ok (by decide +kernel) | decide +kernel)
  · have c_5 : r_4.toInt = (-1) := (congrArg Int32.toInt c_5)
    show mp_W E X 5 15 [(4, .int r_4), (0, .ref a0), (1, .ref a1), (2, .int x0), (3, .int x1)] [] w2_ 0 0
    refine mp_run mp_k_cX7_worthBy_ok hF mp_tabX7_ok [mp_c (.iconst 0) 0, mp_h (.goto 14) [30]] (by decide +kernel) ?_
    show mp_W E X 5 30 [(4, .int r_4), (0, .ref a0), (1, .ref a1), (2, .int x0), (3, .int x1)] [.int 0] w2_ 0 0
    exact mp_iret hF hQ rfl rfl (Nat.le_of_ble_eq_true rfl) (Nat.le_of_ble_eq_true rfl) [1, 2, 3, 0, 4, 5, 6, 7] (w' := w1_) rfl rfl ⟨0, rfl, rfl⟩ (by first | exact mp_fd_ok mp_k_cX7_worthBy_ok (by decide +kernel) | decide +kernel)
set_option maxHeartbeats 4000000 in
set_option maxRecDepth 100000 in
theorem bX9_worth_67 (E : mp_E) (a0 a1 a2 a3 a4 a5 a6 a7 a8 a9 a10 a11 a12 a13 a14 a15 a16 a17 a18 a19 a20 a21 a22 a23 a24 a25 a26 a27 a28 : Nat) (f0 : Nat → Int32) (f1 : Nat → Int32) (f2 : Nat → Int32) (f3 : Nat → Int32) (f4 : Nat → Int32) (f5 : Nat → Int32) (f6 : Nat → Int64) (f7 : Nat → Int32) (y0 : Int32) (y1 : Int32) (y2 : Int32) (y3 : Int32) (y4 : Int32) (y5 : Int32) (y6 : Int32) (x0 : Int32) (x1 : Int32) (p0 : mp_all f1 10 0 5) (p1 : mp_all f3 10 0 99) (p2 : mp_all f4 10 0 1) (p3 : mp_all f5 10 (-1) 9) (l_y0 : 0 ≤ y0.toInt) (u_y0 : y0.toInt ≤ 99) (l_y2 : 0 ≤ y2.toInt) (u_y2 : y2.toInt ≤ 6) (l_y3 : 0 ≤ y3.toInt) (u_y3 : y3.toInt ≤ 99) (l_y4 : 0 ≤ y4.toInt) (u_y4 : y4.toInt ≤ 6) (l_y5 : 0 ≤ y5.toInt) (u_y5 : y5.toInt ≤ 10) (l_y6 : 0 ≤ y6.toInt) (u_y6 : y6.toInt ≤ 60) : mp_Ct E yX9_worth cX9_worth 3 (some FieldType.int) 3 0 0 75 [.ref a0, .int x0, .int x1] [(mp_ob9 a0 a11 a1 a12 a13 a14 a15 a16 a17 a18), (mp_ob0 a1 a2 y0 a19 a20 a21 a9 a10 a22), (mp_ob7 a2 y1 y2 y3 y4 y5 y6 a23 a24 a25 a3 a26 a4 a27 a5 a6 a7 a8 a28), (mp_arI E a3 0 6 f0), (mp_arI E a4 0 10 f1), (mp_arI E a5 0 10 f2), (mp_arI E a6 0 10 f3), (mp_arI E a7 0 10 f4), (mp_arI E a8 0 10 f5), (mp_arL E a9 20 f6), (mp_arI E a10 0 10 f7)] (fun v w' => ∃ h1 : Nat → Int32, ∃ r2 : Int32, v = some (.int r2) ∧ w' = [(mp_ob9 a0 a11 a1 a12 a13 a14 a15 a16 a17 a18), (mp_ob0 a1 a2 y0 a19 a20 a21 a9 a10 a22), (mp_ob7 a2 y1 y2 y3 y4 y5 y6 a23 a24 a25 a3 a26 a4 a27 a5 a6 a7 a8 a28), (mp_arI E a3 0 6 f0), (mp_arI E a4 0 10 f1), (mp_arI E a5 0 10 f2), (mp_arI E a6 0 10 f3), (mp_arI E a7 0 10 f4), (mp_arI E a8 0 10 f5), (mp_arL E a9 20 f6), (mp_arI E a10 0 10 h1)]) := by
  refine mp_met false (by decide) (by decide) (Nat.le_of_ble_eq_true rfl) (fun X hF hQ => ?_)
  have hF : mp_F E X (RX9, cX9_worth, 3, (3, 0, 0, 75), (some FieldType.int), false) := hF
  let w1_ : va_W := [(mp_ob9 a0 a11 a1 a12 a13 a14 a15 a16 a17 a18), (mp_ob0 a1 a2 y0 a19 a20 a21 a9 a10 a22), (mp_ob7 a2 y1 y2 y3 y4 y5 y6 a23 a24 a25 a3 a26 a4 a27 a5 a6 a7 a8 a28), (mp_arI E a3 0 6 f0), (mp_arI E a4 0 10 f1), (mp_arI E a5 0 10 f2), (mp_arI E a6 0 10 f3), (mp_arI E a7 0 10 f4), (mp_arI E a8 0 10 f5), (mp_arL E a9 20 f6), (mp_arI E a10 0 10 f7)]
  show mp_W E X 3 0 [(0, .ref a0), (1, .int x0), (2, .int x1)] [] w1_ 0 0
  refine mp_run mp_k_cX9_worth_ok hF mp_tabX9_ok [mp_i (.aload_n 0), mp_h (.getfield 19) [37, 0], mp_h (.getfield 83) [20, 1], mp_i (.iload_n 1)] (by decide +kernel) ?_
  refine And.intro rfl (And.intro rfl ?_)
  refine And.intro rfl (And.intro rfl ?_)
  show mp_W E X 3 8 [(0, .ref a0), (1, .int x0), (2, .int x1)] [.int x0, .ref a2] w1_ 0 0
  refine mp_callV hF (As := [.int x0]) (rest := []) (wr := [(mp_ob9 a0 a11 a1 a12 a13 a14 a15 a16 a17 a18), (mp_ob0 a1 a2 y0 a19 a20 a21 a9 a10 a22), (mp_arI E a3 0 6 f0), (mp_arI E a4 0 10 f1), (mp_arI E a5 0 10 f2), (mp_arI E a6 0 10 f3), (mp_arI E a7 0 10 f4), (mp_arI E a8 0 10 f5), (mp_arL E a9 20 f6), (mp_arI E a10 0 10 f7)]) (bX7_isPromise_53 E a2 a23 a24 a25 a3 a26 a4 a27 a5 a6 a7 a8 a28 y1 y2 y3 y4 y5 y6 x0 l_y2 u_y2 l_y3 u_y3 l_y4 u_y4 l_y5 u_y5 l_y6 u_y6) mp_lkX9_120 2 rfl [2] [0, 1, 3, 4, 5, 6, 7, 8, 9, 10] rfl rfl rfl rfl rfl ⟨(Nat.le_of_ble_eq_true rfl), (Nat.le_of_ble_eq_true rfl), (Nat.le_of_ble_eq_true rfl), (Nat.le_of_ble_eq_true rfl)⟩ (Nat.le_of_ble_eq_true rfl) (by first | exact mp_fd_ok mp_k_cX9_worth_ok (by decide +kernel) | decide +kernel) (fun v_1 w_2 h_3 => ?_)
  rcases h_3 with ⟨rfl, x_4, rfl⟩ | ⟨rfl, c_5, c_6, x_7, rfl⟩
  · skip
    let w2_ : va_W := [(mp_ob9 a0 a11 a1 a12 a13 a14 a15 a16 a17 a18), (mp_ob0 a1 a2 y0 a19 a20 a21 a9 a10 a22), (mp_arI E a3 0 6 f0), (mp_arI E a4 0 10 f1), (mp_arI E a5 0 10 f2), (mp_arI E a6 0 10 f3), (mp_arI E a7 0 10 f4), (mp_arI E a8 0 10 f5), (mp_arL E a9 20 f6), (mp_arI E a10 0 10 f7), (mp_ob7 a2 y1 y2 y3 y4 y5 y6 a23 a24 a25 a3 a26 a4 a27 a5 a6 a7 a8 a28)]
    show mp_W E X 3 11 [(0, .ref a0), (1, .int x0), (2, .int x1)] [.int 0] w2_ 0 0
    refine mp_run mp_k_cX9_worth_ok hF mp_tabX9_ok [mp_h (.ifCond .eq 10) [21]] (by decide +kernel) ?_
    refine And.intro (fun _ => ?_) (fun c_8 => absurd c_8 (by decide))
    show mp_W E X 3 21 [(0, .ref a0), (1, .int x0), (2, .int x1)] [] w2_ 0 0
    refine mp_run mp_k_cX9_worth_ok hF mp_tabX9_ok [mp_c (.bipush (-2)) (-2)] (by decide +kernel) ?_
    show mp_W E X 3 23 [(0, .ref a0), (1, .int x0), (2, .int x1)] [.int (-2)] w2_ 0 0
    exact mp_iret hF hQ rfl rfl (Nat.le_of_ble_eq_true rfl) (Nat.le_of_ble_eq_true rfl) [0, 1, 10, 2, 3, 4, 5, 6, 7, 8, 9] (w' := w1_) rfl rfl ⟨f7, (-2), rfl, rfl⟩ (by first | exact mp_fd_ok mp_k_cX9_worth_ok (by decide +kernel) | decide +kernel)
  · skip
    have c_5 : 0 ≤ x0.toInt := c_5
    have c_6 : x0.toInt < y5.toInt := c_6
    let w3_ : va_W := [(mp_ob9 a0 a11 a1 a12 a13 a14 a15 a16 a17 a18), (mp_ob0 a1 a2 y0 a19 a20 a21 a9 a10 a22), (mp_arI E a3 0 6 f0), (mp_arI E a4 0 10 f1), (mp_arI E a5 0 10 f2), (mp_arI E a6 0 10 f3), (mp_arI E a7 0 10 f4), (mp_arI E a8 0 10 f5), (mp_arL E a9 20 f6), (mp_arI E a10 0 10 f7), (mp_ob7 a2 y1 y2 y3 y4 y5 y6 a23 a24 a25 a3 a26 a4 a27 a5 a6 a7 a8 a28)]
    show mp_W E X 3 11 [(0, .ref a0), (1, .int x0), (2, .int x1)] [.int 1] w3_ 0 0
    refine mp_run mp_k_cX9_worth_ok hF mp_tabX9_ok [mp_h (.ifCond .eq 10) [21]] (by decide +kernel) ?_
    refine And.intro (fun c_9 => absurd c_9 (by decide)) (fun _ => ?_)
    show mp_W E X 3 14 [(0, .ref a0), (1, .int x0), (2, .int x1)] [] w3_ 0 0
    refine mp_run mp_k_cX9_worth_ok hF mp_tabX9_ok [mp_i (.iload_n 2)] (by decide +kernel) ?_
    show mp_W E X 3 15 [(0, .ref a0), (1, .int x0), (2, .int x1)] [.int x1] w3_ 0 0
    refine mp_callS hF (As := [.int x1]) (rest := []) (wr := w3_) (bX9_isMoon_57 E x1) mp_lkX9_148 [] [0, 1, 2, 3, 4, 5, 6, 7, 8, 9, 10] rfl rfl rfl rfl rfl ⟨(Nat.le_of_ble_eq_true rfl), (Nat.le_of_ble_eq_true rfl), (Nat.le_of_ble_eq_true rfl), (Nat.le_of_ble_eq_true rfl)⟩ (Nat.le_of_ble_eq_true rfl) (by first | exact mp_fd_ok mp_k_cX9_worth_ok (by decide +kernel) | decide +kernel) (fun v_10 w_11 h_12 => ?_)
    rcases h_12 with ⟨rfl, x_13, rfl⟩ | ⟨rfl, c_14, c_15, x_16, rfl⟩
    · skip
      show mp_W E X 3 18 [(0, .ref a0), (1, .int x0), (2, .int x1)] [.int 0] w3_ 0 0
      refine mp_run mp_k_cX9_worth_ok hF mp_tabX9_ok [mp_h (.ifCond .ne 6) [24]] (by decide +kernel) ?_
      refine And.intro (fun c_17 => absurd c_17 (by decide)) (fun _ => ?_)
      show mp_W E X 3 21 [(0, .ref a0), (1, .int x0), (2, .int x1)] [] w3_ 0 0
      refine mp_run mp_k_cX9_worth_ok hF mp_tabX9_ok [mp_c (.bipush (-2)) (-2)] (by decide +kernel) ?_
      show mp_W E X 3 23 [(0, .ref a0), (1, .int x0), (2, .int x1)] [.int (-2)] w3_ 0 0
      exact mp_iret hF hQ rfl rfl (Nat.le_of_ble_eq_true rfl) (Nat.le_of_ble_eq_true rfl) [0, 1, 10, 2, 3, 4, 5, 6, 7, 8, 9] (w' := w1_) rfl rfl ⟨f7, (-2), rfl, rfl⟩ (by first | exact mp_fd_ok mp_k_cX9_worth_ok (by decide +kernel) | decide +kernel)
    · skip
      have c_14 : 0 ≤ x1.toInt := c_14
      have c_15 : x1.toInt ≤ 99 := c_15
      show mp_W E X 3 18 [(0, .ref a0), (1, .int x0), (2, .int x1)] [.int 1] w3_ 0 0
      refine mp_run mp_k_cX9_worth_ok hF mp_tabX9_ok [mp_h (.ifCond .ne 6) [24]] (by decide +kernel) ?_
      refine And.intro (fun _ => ?_) (fun c_18 => absurd c_18 (by decide))
      show mp_W E X 3 24 [(0, .ref a0), (1, .int x0), (2, .int x1)] [] w3_ 0 0
      refine mp_run mp_k_cX9_worth_ok hF mp_tabX9_ok [mp_i (.aload_n 0), mp_h (.getfield 19) [37, 0], mp_h (.getfield 83) [20, 1], mp_i (.aload_n 0), mp_h (.getfield 19) [37, 0], mp_i (.iload_n 2)] (by decide +kernel) ?_
      refine And.intro rfl (And.intro rfl ?_)
      refine And.intro rfl (And.intro rfl ?_)
      refine And.intro rfl (And.intro rfl ?_)
      show mp_W E X 3 36 [(0, .ref a0), (1, .int x0), (2, .int x1)] [.int x1, .ref a1, .ref a2] w3_ 0 0
      refine mp_callV hF (As := [.int x1]) (rest := [.ref a2]) (wr := [(mp_ob9 a0 a11 a1 a12 a13 a14 a15 a16 a17 a18), (mp_arI E a3 0 6 f0), (mp_arI E a4 0 10 f1), (mp_arI E a5 0 10 f2), (mp_arI E a7 0 10 f4), (mp_arI E a8 0 10 f5)]) (bX0_lastsAt_61 E a1 a2 a6 a9 a10 a19 a20 a21 a22 a23 a24 a25 a3 a26 a4 a27 a5 a7 a8 a28 f3 f6 f7 y0 y1 y2 y3 y4 y5 y6 x1 p1 l_y0 u_y0 l_y2 u_y2 l_y3 u_y3 l_y4 u_y4 l_y5 u_y5 l_y6 u_y6) mp_lkX9_155 1 rfl [1, 10, 5, 8, 9] [0, 2, 3, 4, 6, 7] rfl rfl rfl rfl rfl ⟨(Nat.le_of_ble_eq_true rfl), (Nat.le_of_ble_eq_true rfl), (Nat.le_of_ble_eq_true rfl), (Nat.le_of_ble_eq_true rfl)⟩ (Nat.le_of_ble_eq_true rfl) (by first | exact mp_fd_ok mp_k_cX9_worth_ok (by decide +kernel) | decide +kernel) (fun v_19 w_20 h_21 => ?_)
      obtain ⟨g_22, rfl, rfl⟩ := h_21
      let w4_ : va_W := [(mp_ob9 a0 a11 a1 a12 a13 a14 a15 a16 a17 a18), (mp_arI E a3 0 6 f0), (mp_arI E a4 0 10 f1), (mp_arI E a5 0 10 f2), (mp_arI E a7 0 10 f4), (mp_arI E a8 0 10 f5), (mp_ob0 a1 a2 y0 a19 a20 a21 a9 a10 a22), (mp_ob7 a2 y1 y2 y3 y4 y5 y6 a23 a24 a25 a3 a26 a4 a27 a5 a6 a7 a8 a28), (mp_arI E a6 0 10 f3), (mp_arL E a9 20 f6), (mp_arI E a10 0 10 g_22)]
      show mp_W E X 3 39 [(0, .ref a0), (1, .int x0), (2, .int x1)] [.ref a10, .ref a2] w4_ 0 0
      refine mp_run mp_k_cX9_worth_ok hF mp_tabX9_ok [mp_i (.iload_n 1), mp_i (.iload_n 2)] (by decide +kernel) ?_
      show mp_W E X 3 41 [(0, .ref a0), (1, .int x0), (2, .int x1)] [.int x1, .int x0, .ref a10, .ref a2] w4_ 0 0
      refine mp_callV hF (As := [.ref a10, .int x0, .int x1]) (rest := []) (wr := [(mp_ob9 a0 a11 a1 a12 a13 a14 a15 a16 a17 a18), (mp_ob0 a1 a2 y0 a19 a20 a21 a9 a10 a22), (mp_arL E a9 20 f6)]) (bX7_worthBy_66 E a2 a10 a3 a4 a5 a6 a7 a8 a23 a24 a25 a26 a27 a28 f0 f1 f2 f3 f4 f5 g_22 y1 y2 y3 y4 y5 y6 x0 x1 p0 p1 p2 p3 (by (first | exact c_5 | omega)) (by (first | exact mp_o419 u_y5 c_6 | omega)) l_y2 u_y2 l_y3 u_y3 l_y4 u_y4 l_y5 u_y5 l_y6 u_y6) mp_lkX9_163 7 rfl [7, 1, 2, 3, 8, 4, 5, 10] [0, 6, 9] rfl rfl rfl rfl rfl ⟨(Nat.le_of_ble_eq_true rfl), (Nat.le_of_ble_eq_true rfl), (Nat.le_of_ble_eq_true rfl), (Nat.le_of_ble_eq_true rfl)⟩ (Nat.le_of_ble_eq_true rfl) (by first | exact mp_fd_ok mp_k_cX9_worth_ok (by decide +kernel) | decide +kernel) (fun v_23 w_24 h_25 => ?_)
      obtain ⟨r_26, rfl, rfl⟩ := h_25
      let w5_ : va_W := [(mp_ob9 a0 a11 a1 a12 a13 a14 a15 a16 a17 a18), (mp_ob0 a1 a2 y0 a19 a20 a21 a9 a10 a22), (mp_arL E a9 20 f6), (mp_ob7 a2 y1 y2 y3 y4 y5 y6 a23 a24 a25 a3 a26 a4 a27 a5 a6 a7 a8 a28), (mp_arI E a3 0 6 f0), (mp_arI E a4 0 10 f1), (mp_arI E a5 0 10 f2), (mp_arI E a6 0 10 f3), (mp_arI E a7 0 10 f4), (mp_arI E a8 0 10 f5), (mp_arI E a10 0 10 g_22)]
      show mp_W E X 3 44 [(0, .ref a0), (1, .int x0), (2, .int x1)] [.int r_26] w5_ 0 0
      exact mp_iret hF hQ rfl rfl (Nat.le_of_ble_eq_true rfl) (Nat.le_of_ble_eq_true rfl) [0, 1, 3, 4, 5, 6, 7, 8, 9, 2, 10] (w' := [(mp_ob9 a0 a11 a1 a12 a13 a14 a15 a16 a17 a18), (mp_ob0 a1 a2 y0 a19 a20 a21 a9 a10 a22), (mp_ob7 a2 y1 y2 y3 y4 y5 y6 a23 a24 a25 a3 a26 a4 a27 a5 a6 a7 a8 a28), (mp_arI E a3 0 6 f0), (mp_arI E a4 0 10 f1), (mp_arI E a5 0 10 f2), (mp_arI E a6 0 10 f3), (mp_arI E a7 0 10 f4), (mp_arI E a8 0 10 f5), (mp_arL E a9 20 f6), (mp_arI E a10 0 10 g_22)]) rfl rfl ⟨g_22, r_26, rfl, rfl⟩ (by first | exact mp_fd_ok mp_k_cX9_worth_ok (by decide +kernel) | decide +kernel)
set_option maxHeartbeats 4000000 in
set_option maxRecDepth 100000 in
theorem bX9_falls_68 (E : mp_E) (a0 a1 a2 a3 a4 a5 a6 a7 a8 a9 a10 a11 a12 a13 a14 a15 a16 a17 a18 a19 a20 a21 a22 a23 a24 a25 a26 a27 a28 : Nat) (f0 : Nat → Int32) (f1 : Nat → Int32) (f2 : Nat → Int32) (f3 : Nat → Int32) (f4 : Nat → Int32) (f5 : Nat → Int32) (f6 : Nat → Int64) (f7 : Nat → Int32) (y0 : Int32) (y1 : Int32) (y2 : Int32) (y3 : Int32) (y4 : Int32) (y5 : Int32) (y6 : Int32) (x0 : Int32) (x1 : Int32) (p0 : mp_all f1 10 0 5) (p1 : mp_all f3 10 0 99) (p2 : mp_all f4 10 0 1) (p3 : mp_all f5 10 (-1) 9) (l_y0 : 0 ≤ y0.toInt) (u_y0 : y0.toInt ≤ 99) (l_y2 : 0 ≤ y2.toInt) (u_y2 : y2.toInt ≤ 6) (l_y3 : 0 ≤ y3.toInt) (u_y3 : y3.toInt ≤ 99) (l_y4 : 0 ≤ y4.toInt) (u_y4 : y4.toInt ≤ 6) (l_y5 : 0 ≤ y5.toInt) (u_y5 : y5.toInt ≤ 10) (l_y6 : 0 ≤ y6.toInt) (u_y6 : y6.toInt ≤ 60) : mp_Ct E yX9_falls cX9_falls 5 (some FieldType.int) 3 0 0 75 [.ref a0, .int x0, .int x1] [(mp_ob9 a0 a11 a1 a12 a13 a14 a15 a16 a17 a18), (mp_ob0 a1 a2 y0 a19 a20 a21 a9 a10 a22), (mp_ob7 a2 y1 y2 y3 y4 y5 y6 a23 a24 a25 a3 a26 a4 a27 a5 a6 a7 a8 a28), (mp_arI E a3 0 6 f0), (mp_arI E a4 0 10 f1), (mp_arI E a5 0 10 f2), (mp_arI E a6 0 10 f3), (mp_arI E a7 0 10 f4), (mp_arI E a8 0 10 f5), (mp_arL E a9 20 f6), (mp_arI E a10 0 10 f7)] (fun v w' => ∃ h1 : Nat → Int32, ∃ r2 : Int32, v = some (.int r2) ∧ (-2) ≤ r2.toInt ∧ r2.toInt ≤ 99 ∧ w' = [(mp_ob9 a0 a11 a1 a12 a13 a14 a15 a16 a17 a18), (mp_ob0 a1 a2 y0 a19 a20 a21 a9 a10 a22), (mp_ob7 a2 y1 y2 y3 y4 y5 y6 a23 a24 a25 a3 a26 a4 a27 a5 a6 a7 a8 a28), (mp_arI E a3 0 6 f0), (mp_arI E a4 0 10 f1), (mp_arI E a5 0 10 f2), (mp_arI E a6 0 10 f3), (mp_arI E a7 0 10 f4), (mp_arI E a8 0 10 f5), (mp_arL E a9 20 f6), (mp_arI E a10 0 10 h1)]) := by
  refine mp_met false (by decide) (by decide) (Nat.le_of_ble_eq_true rfl) (fun X hF hQ => ?_)
  have hF : mp_F E X (RX9, cX9_falls, 5, (3, 0, 0, 75), (some FieldType.int), false) := hF
  let w1_ : va_W := [(mp_ob9 a0 a11 a1 a12 a13 a14 a15 a16 a17 a18), (mp_ob0 a1 a2 y0 a19 a20 a21 a9 a10 a22), (mp_ob7 a2 y1 y2 y3 y4 y5 y6 a23 a24 a25 a3 a26 a4 a27 a5 a6 a7 a8 a28), (mp_arI E a3 0 6 f0), (mp_arI E a4 0 10 f1), (mp_arI E a5 0 10 f2), (mp_arI E a6 0 10 f3), (mp_arI E a7 0 10 f4), (mp_arI E a8 0 10 f5), (mp_arL E a9 20 f6), (mp_arI E a10 0 10 f7)]
  show mp_W E X 5 0 [(0, .ref a0), (1, .int x0), (2, .int x1)] [] w1_ 0 0
  refine mp_run mp_k_cX9_falls_ok hF mp_tabX9_ok [mp_i (.aload_n 0), mp_h (.getfield 19) [37, 0], mp_h (.getfield 83) [20, 1], mp_i (.iload_n 1)] (by decide +kernel) ?_
  refine And.intro rfl (And.intro rfl ?_)
  refine And.intro rfl (And.intro rfl ?_)
  show mp_W E X 5 8 [(0, .ref a0), (1, .int x0), (2, .int x1)] [.int x0, .ref a2] w1_ 0 0
  refine mp_callV hF (As := [.int x0]) (rest := []) (wr := [(mp_ob9 a0 a11 a1 a12 a13 a14 a15 a16 a17 a18), (mp_ob0 a1 a2 y0 a19 a20 a21 a9 a10 a22), (mp_arI E a3 0 6 f0), (mp_arI E a4 0 10 f1), (mp_arI E a5 0 10 f2), (mp_arI E a6 0 10 f3), (mp_arI E a7 0 10 f4), (mp_arI E a8 0 10 f5), (mp_arL E a9 20 f6), (mp_arI E a10 0 10 f7)]) (bX7_isPromise_53 E a2 a23 a24 a25 a3 a26 a4 a27 a5 a6 a7 a8 a28 y1 y2 y3 y4 y5 y6 x0 l_y2 u_y2 l_y3 u_y3 l_y4 u_y4 l_y5 u_y5 l_y6 u_y6) mp_lkX9_120 2 rfl [2] [0, 1, 3, 4, 5, 6, 7, 8, 9, 10] rfl rfl rfl rfl rfl ⟨(Nat.le_of_ble_eq_true rfl), (Nat.le_of_ble_eq_true rfl), (Nat.le_of_ble_eq_true rfl), (Nat.le_of_ble_eq_true rfl)⟩ (Nat.le_of_ble_eq_true rfl) (by first | exact mp_fd_ok mp_k_cX9_falls_ok (by decide +kernel) | decide +kernel) (fun v_1 w_2 h_3 => ?_)
  rcases h_3 with ⟨rfl, x_4, rfl⟩ | ⟨rfl, c_5, c_6, x_7, rfl⟩
  · skip
    let w2_ : va_W := [(mp_ob9 a0 a11 a1 a12 a13 a14 a15 a16 a17 a18), (mp_ob0 a1 a2 y0 a19 a20 a21 a9 a10 a22), (mp_arI E a3 0 6 f0), (mp_arI E a4 0 10 f1), (mp_arI E a5 0 10 f2), (mp_arI E a6 0 10 f3), (mp_arI E a7 0 10 f4), (mp_arI E a8 0 10 f5), (mp_arL E a9 20 f6), (mp_arI E a10 0 10 f7), (mp_ob7 a2 y1 y2 y3 y4 y5 y6 a23 a24 a25 a3 a26 a4 a27 a5 a6 a7 a8 a28)]
    show mp_W E X 5 11 [(0, .ref a0), (1, .int x0), (2, .int x1)] [.int 0] w2_ 0 0
    refine mp_run mp_k_cX9_falls_ok hF mp_tabX9_ok [mp_h (.ifCond .ne 6) [17]] (by decide +kernel) ?_
    refine And.intro (fun c_8 => absurd c_8 (by decide)) (fun _ => ?_)
    show mp_W E X 5 14 [(0, .ref a0), (1, .int x0), (2, .int x1)] [] w2_ 0 0
    refine mp_run mp_k_cX9_falls_ok hF mp_tabX9_ok [mp_c (.bipush (-2)) (-2)] (by decide +kernel) ?_
    show mp_W E X 5 16 [(0, .ref a0), (1, .int x0), (2, .int x1)] [.int (-2)] w2_ 0 0
    exact mp_iret hF hQ rfl rfl (Nat.le_of_ble_eq_true rfl) (Nat.le_of_ble_eq_true rfl) [0, 1, 10, 2, 3, 4, 5, 6, 7, 8, 9] (w' := w1_) rfl rfl ⟨f7, (-2), rfl, (by decide), (by decide), rfl⟩ (by first | exact mp_fd_ok mp_k_cX9_falls_ok (by decide +kernel) | decide +kernel)
  · skip
    have c_5 : 0 ≤ x0.toInt := c_5
    have c_6 : x0.toInt < y5.toInt := c_6
    let w3_ : va_W := [(mp_ob9 a0 a11 a1 a12 a13 a14 a15 a16 a17 a18), (mp_ob0 a1 a2 y0 a19 a20 a21 a9 a10 a22), (mp_arI E a3 0 6 f0), (mp_arI E a4 0 10 f1), (mp_arI E a5 0 10 f2), (mp_arI E a6 0 10 f3), (mp_arI E a7 0 10 f4), (mp_arI E a8 0 10 f5), (mp_arL E a9 20 f6), (mp_arI E a10 0 10 f7), (mp_ob7 a2 y1 y2 y3 y4 y5 y6 a23 a24 a25 a3 a26 a4 a27 a5 a6 a7 a8 a28)]
    show mp_W E X 5 11 [(0, .ref a0), (1, .int x0), (2, .int x1)] [.int 1] w3_ 0 0
    refine mp_run mp_k_cX9_falls_ok hF mp_tabX9_ok [mp_h (.ifCond .ne 6) [17]] (by decide +kernel) ?_
    refine And.intro (fun _ => ?_) (fun c_9 => absurd c_9 (by decide))
    show mp_W E X 5 17 [(0, .ref a0), (1, .int x0), (2, .int x1)] [] w3_ 0 0
    refine mp_run mp_k_cX9_falls_ok hF mp_tabX9_ok [mp_i (.aload_n 0), mp_h (.getfield 19) [37, 0], mp_i (.aload_n 0), mp_h (.getfield 19) [37, 0], mp_h (.getfield 166) [21, 1]] (by decide +kernel) ?_
    refine And.intro rfl (And.intro rfl ?_)
    refine And.intro rfl (And.intro rfl ?_)
    refine And.intro rfl (And.intro rfl ?_)
    show mp_W E X 5 28 [(0, .ref a0), (1, .int x0), (2, .int x1)] [.int y0, .ref a1] w3_ 0 0
    refine mp_callV hF (As := [.int y0]) (rest := []) (wr := [(mp_ob9 a0 a11 a1 a12 a13 a14 a15 a16 a17 a18), (mp_arI E a3 0 6 f0), (mp_arI E a4 0 10 f1), (mp_arI E a5 0 10 f2), (mp_arI E a7 0 10 f4), (mp_arI E a8 0 10 f5)]) (bX0_lastsAt_61 E a1 a2 a6 a9 a10 a19 a20 a21 a22 a23 a24 a25 a3 a26 a4 a27 a5 a7 a8 a28 f3 f6 f7 y0 y1 y2 y3 y4 y5 y6 y0 p1 l_y0 u_y0 l_y2 u_y2 l_y3 u_y3 l_y4 u_y4 l_y5 u_y5 l_y6 u_y6) mp_lkX9_155 1 rfl [1, 10, 5, 8, 9] [0, 2, 3, 4, 6, 7] rfl rfl rfl rfl rfl ⟨(Nat.le_of_ble_eq_true rfl), (Nat.le_of_ble_eq_true rfl), (Nat.le_of_ble_eq_true rfl), (Nat.le_of_ble_eq_true rfl)⟩ (Nat.le_of_ble_eq_true rfl) (by first | exact mp_fd_ok mp_k_cX9_falls_ok (by decide +kernel) | decide +kernel) (fun v_10 w_11 h_12 => ?_)
    obtain ⟨g_13, rfl, rfl⟩ := h_12
    let w4_ : va_W := [(mp_ob9 a0 a11 a1 a12 a13 a14 a15 a16 a17 a18), (mp_arI E a3 0 6 f0), (mp_arI E a4 0 10 f1), (mp_arI E a5 0 10 f2), (mp_arI E a7 0 10 f4), (mp_arI E a8 0 10 f5), (mp_ob0 a1 a2 y0 a19 a20 a21 a9 a10 a22), (mp_ob7 a2 y1 y2 y3 y4 y5 y6 a23 a24 a25 a3 a26 a4 a27 a5 a6 a7 a8 a28), (mp_arI E a6 0 10 f3), (mp_arL E a9 20 f6), (mp_arI E a10 0 10 g_13)]
    show mp_W E X 5 31 [(0, .ref a0), (1, .int x0), (2, .int x1)] [.ref a10] w4_ 0 0
    refine mp_run mp_k_cX9_falls_ok hF mp_tabX9_ok [mp_i (.astore_n 3), mp_i (.aload_n 0), mp_h (.getfield 19) [37, 0], mp_h (.getfield 166) [21, 6], mp_i (.istore 4)] (by decide +kernel) ?_
    refine And.intro rfl (And.intro rfl ?_)
    refine And.intro rfl (And.intro rfl ?_)
    show mp_W E X 5 41 [(4, .int y0), (3, .ref a10), (0, .ref a0), (1, .int x0), (2, .int x1)] [] w4_ 0 0
    have lp_17 : ∀ (d_18 : Nat) (i_14 : Int32), 0 ≤ i_14.toInt → i_14.toInt ≤ 100 → -(i_14.toInt) + 100 ≤ (d_18 : Int) → mp_W E X 5 41 [(4, .int i_14), (3, .ref a10), (0, .ref a0), (1, .int x0), (2, .int x1)] [] [(mp_ob9 a0 a11 a1 a12 a13 a14 a15 a16 a17 a18), (mp_arI E a3 0 6 f0), (mp_arI E a4 0 10 f1), (mp_arI E a5 0 10 f2), (mp_arI E a7 0 10 f4), (mp_arI E a8 0 10 f5), (mp_ob0 a1 a2 y0 a19 a20 a21 a9 a10 a22), (mp_ob7 a2 y1 y2 y3 y4 y5 y6 a23 a24 a25 a3 a26 a4 a27 a5 a6 a7 a8 a28), (mp_arI E a6 0 10 f3), (mp_arL E a9 20 f6), (mp_arI E a10 0 10 g_13)] 0 0 := by
      intro d_18
      induction d_18 using Nat.strongRecOn with
      | ind d_18 ih_19 =>
        intro i_14 l_15 u_16 hm_20
        refine mp_run mp_k_cX9_falls_ok hF mp_tabX9_ok [mp_i (.iload 4), mp_c (.bipush 99) 99, mp_h (.if_icmp .gt 30) [75]] (by decide +kernel) ?_
        refine And.intro (fun c_21 => ?_) (fun c_21 => ?_)
        · have c_21 : 99 < i_14.toInt := c_21
          show mp_W E X 5 75 [(4, .int i_14), (3, .ref a10), (0, .ref a0), (1, .int x0), (2, .int x1)] [] w4_ 0 0
          refine mp_run mp_k_cX9_falls_ok hF mp_tabX9_ok [mp_c (.iconst (-1)) (-1)] (by decide +kernel) ?_
          show mp_W E X 5 76 [(4, .int i_14), (3, .ref a10), (0, .ref a0), (1, .int x0), (2, .int x1)] [.int (-1)] w4_ 0 0
          exact mp_iret hF hQ rfl rfl (Nat.le_of_ble_eq_true rfl) (Nat.le_of_ble_eq_true rfl) [0, 6, 7, 1, 2, 3, 8, 4, 5, 9, 10] (w' := [(mp_ob9 a0 a11 a1 a12 a13 a14 a15 a16 a17 a18), (mp_ob0 a1 a2 y0 a19 a20 a21 a9 a10 a22), (mp_ob7 a2 y1 y2 y3 y4 y5 y6 a23 a24 a25 a3 a26 a4 a27 a5 a6 a7 a8 a28), (mp_arI E a3 0 6 f0), (mp_arI E a4 0 10 f1), (mp_arI E a5 0 10 f2), (mp_arI E a6 0 10 f3), (mp_arI E a7 0 10 f4), (mp_arI E a8 0 10 f5), (mp_arL E a9 20 f6), (mp_arI E a10 0 10 g_13)]) rfl rfl ⟨g_13, (-1), rfl, (by decide), (by decide), rfl⟩ (by first | exact mp_fd_ok mp_k_cX9_falls_ok (by decide +kernel) | decide +kernel)
        · have c_21 : i_14.toInt ≤ 99 := c_21
          show mp_W E X 5 48 [(4, .int i_14), (3, .ref a10), (0, .ref a0), (1, .int x0), (2, .int x1)] [] w4_ 0 0
          refine mp_run mp_k_cX9_falls_ok hF mp_tabX9_ok [mp_i (.aload_n 0), mp_h (.getfield 19) [37, 0], mp_h (.getfield 83) [20, 6], mp_i (.aload_n 3), mp_i (.iload_n 1), mp_i (.iload 4)] (by decide +kernel) ?_
          refine And.intro rfl (And.intro rfl ?_)
          refine And.intro rfl (And.intro rfl ?_)
          show mp_W E X 5 59 [(4, .int i_14), (3, .ref a10), (0, .ref a0), (1, .int x0), (2, .int x1)] [.int i_14, .int x0, .ref a10, .ref a2] w4_ 0 0
          refine mp_callV hF (As := [.ref a10, .int x0, .int i_14]) (rest := []) (wr := [(mp_ob9 a0 a11 a1 a12 a13 a14 a15 a16 a17 a18), (mp_ob0 a1 a2 y0 a19 a20 a21 a9 a10 a22), (mp_arL E a9 20 f6)]) (bX7_worthBy_66 E a2 a10 a3 a4 a5 a6 a7 a8 a23 a24 a25 a26 a27 a28 f0 f1 f2 f3 f4 f5 g_13 y1 y2 y3 y4 y5 y6 x0 i_14 p0 p1 p2 p3 (by (first | exact c_5 | omega)) (by (first | exact mp_o419 u_y5 c_6 | omega)) l_y2 u_y2 l_y3 u_y3 l_y4 u_y4 l_y5 u_y5 l_y6 u_y6) mp_lkX9_163 7 rfl [7, 1, 2, 3, 8, 4, 5, 10] [0, 6, 9] rfl rfl rfl rfl rfl ⟨(Nat.le_of_ble_eq_true rfl), (Nat.le_of_ble_eq_true rfl), (Nat.le_of_ble_eq_true rfl), (Nat.le_of_ble_eq_true rfl)⟩ (Nat.le_of_ble_eq_true rfl) (by first | exact mp_fd_ok mp_k_cX9_falls_ok (by decide +kernel) | decide +kernel) (fun v_22 w_23 h_24 => ?_)
          obtain ⟨r_25, rfl, rfl⟩ := h_24
          let w5_ : va_W := [(mp_ob9 a0 a11 a1 a12 a13 a14 a15 a16 a17 a18), (mp_ob0 a1 a2 y0 a19 a20 a21 a9 a10 a22), (mp_arL E a9 20 f6), (mp_ob7 a2 y1 y2 y3 y4 y5 y6 a23 a24 a25 a3 a26 a4 a27 a5 a6 a7 a8 a28), (mp_arI E a3 0 6 f0), (mp_arI E a4 0 10 f1), (mp_arI E a5 0 10 f2), (mp_arI E a6 0 10 f3), (mp_arI E a7 0 10 f4), (mp_arI E a8 0 10 f5), (mp_arI E a10 0 10 g_13)]
          show mp_W E X 5 62 [(4, .int i_14), (3, .ref a10), (0, .ref a0), (1, .int x0), (2, .int x1)] [.int r_25] w5_ 0 0
          refine mp_run mp_k_cX9_falls_ok hF mp_tabX9_ok [mp_i (.iload_n 2), mp_h (.if_icmp .gt 6) [69]] (by decide +kernel) ?_
          refine And.intro (fun c_26 => ?_) (fun c_26 => ?_)
          · have c_26 : x1.toInt < r_25.toInt := c_26
            show mp_W E X 5 69 [(4, .int i_14), (3, .ref a10), (0, .ref a0), (1, .int x0), (2, .int x1)] [] w5_ 0 0
            refine mp_run mp_k_cX9_falls_ok hF mp_tabX9_ok [mp_c (.iinc 4 1) 1, mp_h (.goto (-31)) [41]] (by decide +kernel) ?_
            intro z_27 h_28
            have e_29 : z_27.toInt = i_14.toInt + 1 := mp_add (a := i_14.toInt) (b := 1) h_28 rfl (by decide) (by (first | exact mp_o2 l_15 | omega)) (by (first | exact mp_o330 c_21 | omega))
            show mp_W E X 5 41 [(4, .int z_27), (3, .ref a10), (0, .ref a0), (1, .int x0), (2, .int x1)] [] w5_ 0 0
            exact mp_sub [0, 1, 2, 3, 4] rfl [0, 4, 5, 6, 8, 9, 1, 3, 7, 2, 10] rfl rfl (ih_19 (d_18 - 1) (by (first | exact mp_o433 hm_20 c_21 | omega)) z_27 (by (first | exact mp_o51 l_15 e_29 | omega)) (by (first | exact mp_o434 c_21 e_29 | omega)) (by (first | exact mp_o435 hm_20 e_29 | omega)))
          · have c_26 : r_25.toInt ≤ x1.toInt := c_26
            show mp_W E X 5 66 [(4, .int i_14), (3, .ref a10), (0, .ref a0), (1, .int x0), (2, .int x1)] [] w5_ 0 0
            refine mp_run mp_k_cX9_falls_ok hF mp_tabX9_ok [mp_i (.iload 4)] (by decide +kernel) ?_
            show mp_W E X 5 68 [(4, .int i_14), (3, .ref a10), (0, .ref a0), (1, .int x0), (2, .int x1)] [.int i_14] w5_ 0 0
            exact mp_iret hF hQ rfl rfl (Nat.le_of_ble_eq_true rfl) (Nat.le_of_ble_eq_true rfl) [0, 1, 3, 4, 5, 6, 7, 8, 9, 2, 10] (w' := [(mp_ob9 a0 a11 a1 a12 a13 a14 a15 a16 a17 a18), (mp_ob0 a1 a2 y0 a19 a20 a21 a9 a10 a22), (mp_ob7 a2 y1 y2 y3 y4 y5 y6 a23 a24 a25 a3 a26 a4 a27 a5 a6 a7 a8 a28), (mp_arI E a3 0 6 f0), (mp_arI E a4 0 10 f1), (mp_arI E a5 0 10 f2), (mp_arI E a6 0 10 f3), (mp_arI E a7 0 10 f4), (mp_arI E a8 0 10 f5), (mp_arL E a9 20 f6), (mp_arI E a10 0 10 g_13)]) rfl rfl ⟨g_13, i_14, rfl, (by (first | exact mp_o399 l_15 | omega)), (by (first | exact c_21 | omega)), rfl⟩ (by first | exact mp_fd_ok mp_k_cX9_falls_ok (by decide +kernel) | decide +kernel)
    exact mp_sub [0, 1, 2, 3, 4] rfl [0, 1, 2, 3, 4, 5, 6, 7, 8, 9, 10] rfl rfl (lp_17 _ y0 l_y0 (by (first | exact mp_o436 u_y0 | omega)) (Int.self_le_toNat _))
set_option maxHeartbeats 4000000 in
set_option maxRecDepth 100000 in
theorem bX9_arePair_69 (E : mp_E) (a0 a1 a2 a3 a4 a5 a6 a7 a8 a9 a10 a11 a12 a13 a14 a15 a16 a17 a18 a19 a20 a21 a22 a23 a24 a25 a26 a27 a28 : Nat) (y0 : Int32) (y1 : Int32) (y2 : Int32) (y3 : Int32) (y4 : Int32) (y5 : Int32) (y6 : Int32) (x0 : Int32) (x1 : Int32) (l_y0 : 0 ≤ y0.toInt) (u_y0 : y0.toInt ≤ 99) (l_y2 : 0 ≤ y2.toInt) (u_y2 : y2.toInt ≤ 6) (l_y3 : 0 ≤ y3.toInt) (u_y3 : y3.toInt ≤ 99) (l_y4 : 0 ≤ y4.toInt) (u_y4 : y4.toInt ≤ 6) (l_y5 : 0 ≤ y5.toInt) (u_y5 : y5.toInt ≤ 10) (l_y6 : 0 ≤ y6.toInt) (u_y6 : y6.toInt ≤ 60) : mp_Ct E yX9_arePair cX9_arePair 3 (some FieldType.boolean) 1 0 0 21 [.ref a0, .int x0, .int x1] [(mp_ob9 a0 a3 a1 a4 a5 a6 a7 a8 a9 a10), (mp_ob0 a1 a2 y0 a11 a12 a13 a14 a15 a16), (mp_ob7 a2 y1 y2 y3 y4 y5 y6 a17 a18 a19 a20 a21 a22 a23 a24 a25 a26 a27 a28)] (fun v w' => (v = some (.int 0) ∧ (x0.toInt < 0 ∨ y4.toInt ≤ x0.toInt ∨ x1.toInt < 0 ∨ y4.toInt ≤ x1.toInt ∨ x0.toInt = x1.toInt) ∧ w' = [(mp_ob9 a0 a3 a1 a4 a5 a6 a7 a8 a9 a10), (mp_ob0 a1 a2 y0 a11 a12 a13 a14 a15 a16), (mp_ob7 a2 y1 y2 y3 y4 y5 y6 a17 a18 a19 a20 a21 a22 a23 a24 a25 a26 a27 a28)]) ∨ (v = some (.int 1) ∧ 0 ≤ x0.toInt ∧ x0.toInt < y4.toInt ∧ 0 ≤ x1.toInt ∧ x1.toInt < y4.toInt ∧ x0.toInt ≠ x1.toInt ∧ (0 ≤ x0.toInt ∧ x0.toInt < y4.toInt ∧ 0 ≤ x1.toInt ∧ x1.toInt < y4.toInt ∧ x0.toInt ≠ x1.toInt) ∧ w' = [(mp_ob9 a0 a3 a1 a4 a5 a6 a7 a8 a9 a10), (mp_ob0 a1 a2 y0 a11 a12 a13 a14 a15 a16), (mp_ob7 a2 y1 y2 y3 y4 y5 y6 a17 a18 a19 a20 a21 a22 a23 a24 a25 a26 a27 a28)])) := by
  refine mp_met false (by decide) (by decide) (Nat.le_of_ble_eq_true rfl) (fun X hF hQ => ?_)
  have hF : mp_F E X (RX9, cX9_arePair, 3, (1, 0, 0, 21), (some FieldType.boolean), false) := hF
  let w1_ : va_W := [(mp_ob9 a0 a3 a1 a4 a5 a6 a7 a8 a9 a10), (mp_ob0 a1 a2 y0 a11 a12 a13 a14 a15 a16), (mp_ob7 a2 y1 y2 y3 y4 y5 y6 a17 a18 a19 a20 a21 a22 a23 a24 a25 a26 a27 a28)]
  show mp_W E X 3 0 [(0, .ref a0), (1, .int x0), (2, .int x1)] [] w1_ 0 0
  refine mp_run mp_k_cX9_arePair_ok hF mp_tabX9_ok [mp_i (.aload_n 0), mp_h (.getfield 19) [37, 0], mp_h (.getfield 83) [20, 1], mp_i (.iload_n 1)] (by decide +kernel) ?_
  refine And.intro rfl (And.intro rfl ?_)
  refine And.intro rfl (And.intro rfl ?_)
  show mp_W E X 3 8 [(0, .ref a0), (1, .int x0), (2, .int x1)] [.int x0, .ref a2] w1_ 0 0
  refine mp_callV hF (As := [.int x0]) (rest := []) (wr := [(mp_ob9 a0 a3 a1 a4 a5 a6 a7 a8 a9 a10), (mp_ob0 a1 a2 y0 a11 a12 a13 a14 a15 a16)]) (bX7_isPerson_51 E a2 a17 a18 a19 a20 a21 a22 a23 a24 a25 a26 a27 a28 y1 y2 y3 y4 y5 y6 x0 l_y2 u_y2 l_y3 u_y3 l_y4 u_y4 l_y5 u_y5 l_y6 u_y6) mp_lkX9_106 2 rfl [2] [0, 1] rfl rfl rfl rfl rfl ⟨(Nat.le_of_ble_eq_true rfl), (Nat.le_of_ble_eq_true rfl), (Nat.le_of_ble_eq_true rfl), (Nat.le_of_ble_eq_true rfl)⟩ (Nat.le_of_ble_eq_true rfl) (by first | exact mp_fd_ok mp_k_cX9_arePair_ok (by decide +kernel) | decide +kernel) (fun v_1 w_2 h_3 => ?_)
  rcases h_3 with ⟨rfl, x_4, rfl⟩ | ⟨rfl, c_5, c_6, x_7, rfl⟩
  · skip
    show mp_W E X 3 11 [(0, .ref a0), (1, .int x0), (2, .int x1)] [.int 0] w1_ 0 0
    refine mp_run mp_k_cX9_arePair_ok hF mp_tabX9_ok [mp_h (.ifCond .eq 26) [37]] (by decide +kernel) ?_
    refine And.intro (fun _ => ?_) (fun c_8 => absurd c_8 (by decide))
    show mp_W E X 3 37 [(0, .ref a0), (1, .int x0), (2, .int x1)] [] w1_ 0 0
    refine mp_run mp_k_cX9_arePair_ok hF mp_tabX9_ok [mp_c (.iconst 0) 0] (by decide +kernel) ?_
    show mp_W E X 3 38 [(0, .ref a0), (1, .int x0), (2, .int x1)] [.int 0] w1_ 0 0
    exact mp_iret hF hQ rfl (by decide) (Nat.le_of_ble_eq_true rfl) (Nat.le_of_ble_eq_true rfl) [0, 1, 2] (w' := w1_) rfl rfl (Or.inl ⟨rfl, (by first | (first | exact mp_o437 x_4 | omega) | decide | (have h8 : (0 : Int64).toInt = 0 := rfl; have h9 : (-1 : Int32).toInt = -1 := rfl; have h10 : (-2 : Int32).toInt = -2 := rfl; have h11 : (0 : Int32).toInt = 0 := rfl; have h12 : (1 : Int32).toInt = 1 := rfl; have h13 : (-5 : Int32).toInt = -5 := rfl; have h14 : (-3 : Int32).toInt = -3 := rfl; omega)), rfl⟩) (by first | exact mp_fd_ok mp_k_cX9_arePair_ok (by decide +kernel) | decide +kernel)
  · skip
    have c_5 : 0 ≤ x0.toInt := c_5
    have c_6 : x0.toInt < y4.toInt := c_6
    show mp_W E X 3 11 [(0, .ref a0), (1, .int x0), (2, .int x1)] [.int 1] w1_ 0 0
    refine mp_run mp_k_cX9_arePair_ok hF mp_tabX9_ok [mp_h (.ifCond .eq 26) [37]] (by decide +kernel) ?_
    refine And.intro (fun c_9 => absurd c_9 (by decide)) (fun _ => ?_)
    show mp_W E X 3 14 [(0, .ref a0), (1, .int x0), (2, .int x1)] [] w1_ 0 0
    refine mp_run mp_k_cX9_arePair_ok hF mp_tabX9_ok [mp_i (.aload_n 0), mp_h (.getfield 19) [37, 0], mp_h (.getfield 83) [20, 1], mp_i (.iload_n 2)] (by decide +kernel) ?_
    refine And.intro rfl (And.intro rfl ?_)
    refine And.intro rfl (And.intro rfl ?_)
    show mp_W E X 3 22 [(0, .ref a0), (1, .int x0), (2, .int x1)] [.int x1, .ref a2] w1_ 0 0
    refine mp_callV hF (As := [.int x1]) (rest := []) (wr := [(mp_ob9 a0 a3 a1 a4 a5 a6 a7 a8 a9 a10), (mp_ob0 a1 a2 y0 a11 a12 a13 a14 a15 a16)]) (bX7_isPerson_51 E a2 a17 a18 a19 a20 a21 a22 a23 a24 a25 a26 a27 a28 y1 y2 y3 y4 y5 y6 x1 l_y2 u_y2 l_y3 u_y3 l_y4 u_y4 l_y5 u_y5 l_y6 u_y6) mp_lkX9_106 2 rfl [2] [0, 1] rfl rfl rfl rfl rfl ⟨(Nat.le_of_ble_eq_true rfl), (Nat.le_of_ble_eq_true rfl), (Nat.le_of_ble_eq_true rfl), (Nat.le_of_ble_eq_true rfl)⟩ (Nat.le_of_ble_eq_true rfl) (by first | exact mp_fd_ok mp_k_cX9_arePair_ok (by decide +kernel) | decide +kernel) (fun v_10 w_11 h_12 => ?_)
    rcases h_12 with ⟨rfl, x_13, rfl⟩ | ⟨rfl, c_14, c_15, x_16, rfl⟩
    · skip
      show mp_W E X 3 25 [(0, .ref a0), (1, .int x0), (2, .int x1)] [.int 0] w1_ 0 0
      refine mp_run mp_k_cX9_arePair_ok hF mp_tabX9_ok [mp_h (.ifCond .eq 12) [37]] (by decide +kernel) ?_
      refine And.intro (fun _ => ?_) (fun c_17 => absurd c_17 (by decide))
      show mp_W E X 3 37 [(0, .ref a0), (1, .int x0), (2, .int x1)] [] w1_ 0 0
      refine mp_run mp_k_cX9_arePair_ok hF mp_tabX9_ok [mp_c (.iconst 0) 0] (by decide +kernel) ?_
      show mp_W E X 3 38 [(0, .ref a0), (1, .int x0), (2, .int x1)] [.int 0] w1_ 0 0
      exact mp_iret hF hQ rfl (by decide) (Nat.le_of_ble_eq_true rfl) (Nat.le_of_ble_eq_true rfl) [0, 1, 2] (w' := w1_) rfl rfl (Or.inl ⟨rfl, (by first | (first | exact mp_o438 x_13 | omega) | decide | (have h8 : (0 : Int64).toInt = 0 := rfl; have h9 : (-1 : Int32).toInt = -1 := rfl; have h10 : (-2 : Int32).toInt = -2 := rfl; have h11 : (0 : Int32).toInt = 0 := rfl; have h12 : (1 : Int32).toInt = 1 := rfl; have h13 : (-5 : Int32).toInt = -5 := rfl; have h14 : (-3 : Int32).toInt = -3 := rfl; omega)), rfl⟩) (by first | exact mp_fd_ok mp_k_cX9_arePair_ok (by decide +kernel) | decide +kernel)
    · skip
      have c_14 : 0 ≤ x1.toInt := c_14
      have c_15 : x1.toInt < y4.toInt := c_15
      show mp_W E X 3 25 [(0, .ref a0), (1, .int x0), (2, .int x1)] [.int 1] w1_ 0 0
      refine mp_run mp_k_cX9_arePair_ok hF mp_tabX9_ok [mp_h (.ifCond .eq 12) [37]] (by decide +kernel) ?_
      refine And.intro (fun c_18 => absurd c_18 (by decide)) (fun _ => ?_)
      show mp_W E X 3 28 [(0, .ref a0), (1, .int x0), (2, .int x1)] [] w1_ 0 0
      refine mp_run mp_k_cX9_arePair_ok hF mp_tabX9_ok [mp_i (.iload_n 1), mp_i (.iload_n 2), mp_h (.if_icmp .eq 7) [37]] (by decide +kernel) ?_
      refine And.intro (fun c_19 => ?_) (fun c_19 => ?_)
      · have c_19 : x0.toInt = x1.toInt := (congrArg Int32.toInt c_19)
        show mp_W E X 3 37 [(0, .ref a0), (1, .int x0), (2, .int x1)] [] w1_ 0 0
        refine mp_run mp_k_cX9_arePair_ok hF mp_tabX9_ok [mp_c (.iconst 0) 0] (by decide +kernel) ?_
        show mp_W E X 3 38 [(0, .ref a0), (1, .int x0), (2, .int x1)] [.int 0] w1_ 0 0
        exact mp_iret hF hQ rfl (by decide) (Nat.le_of_ble_eq_true rfl) (Nat.le_of_ble_eq_true rfl) [0, 1, 2] (w' := w1_) rfl rfl (Or.inl ⟨rfl, (by first | (first | exact mp_o439 c_19 | omega) | decide | (have h8 : (0 : Int64).toInt = 0 := rfl; have h9 : (-1 : Int32).toInt = -1 := rfl; have h10 : (-2 : Int32).toInt = -2 := rfl; have h11 : (0 : Int32).toInt = 0 := rfl; have h12 : (1 : Int32).toInt = 1 := rfl; have h13 : (-5 : Int32).toInt = -5 := rfl; have h14 : (-3 : Int32).toInt = -3 := rfl; omega)), rfl⟩) (by first | exact mp_fd_ok mp_k_cX9_arePair_ok (by decide +kernel) | decide +kernel)
      · have c_19 : x0.toInt ≠ x1.toInt := c_19
        show mp_W E X 3 33 [(0, .ref a0), (1, .int x0), (2, .int x1)] [] w1_ 0 0
        refine mp_run mp_k_cX9_arePair_ok hF mp_tabX9_ok [mp_c (.iconst 1) 1, mp_h (.goto 4) [38]] (by decide +kernel) ?_
        show mp_W E X 3 38 [(0, .ref a0), (1, .int x0), (2, .int x1)] [.int 1] w1_ 0 0
        exact mp_iret hF hQ rfl (by decide) (Nat.le_of_ble_eq_true rfl) (Nat.le_of_ble_eq_true rfl) [0, 1, 2] (w' := w1_) rfl rfl (Or.inr ⟨rfl, (by first | (first | exact c_5 | omega) | decide), (by first | (first | exact c_6 | omega) | decide), (by first | (first | exact c_14 | omega) | decide), (by first | (first | exact c_15 | omega) | decide), (by first | (first | exact c_19 | omega) | decide), (by first | (first | exact mp_o440 c_5 c_14 c_6 c_19 c_15 | omega) | decide | (have h8 : (0 : Int64).toInt = 0 := rfl; have h9 : (-1 : Int32).toInt = -1 := rfl; have h10 : (-2 : Int32).toInt = -2 := rfl; have h11 : (0 : Int32).toInt = 0 := rfl; have h12 : (1 : Int32).toInt = 1 := rfl; have h13 : (-5 : Int32).toInt = -5 := rfl; have h14 : (-3 : Int32).toInt = -3 := rfl; omega)), rfl⟩) (by first | exact mp_fd_ok mp_k_cX9_arePair_ok (by decide +kernel) | decide +kernel)
set_option maxHeartbeats 4000000 in
set_option maxRecDepth 100000 in
theorem bX0_worthsAt_70 (E : mp_E) (a0 a1 a2 a3 a4 a5 a6 a7 a8 a9 a10 a11 a12 a13 a14 a15 a16 a17 a18 a19 : Nat) (f0 : Nat → Int32) (f1 : Nat → Int32) (f2 : Nat → Int32) (f3 : Nat → Int32) (f4 : Nat → Int32) (f5 : Nat → Int32) (f6 : Nat → Int64) (f7 : Nat → Int32) (f8 : Nat → Int32) (y0 : Int32) (y1 : Int32) (y2 : Int32) (y3 : Int32) (y4 : Int32) (y5 : Int32) (y6 : Int32) (x0 : Int32) (p0 : mp_all f1 10 0 5) (p1 : mp_all f3 10 0 99) (p2 : mp_all f4 10 0 1) (p3 : mp_all f5 10 (-1) 9) (l_y0 : 0 ≤ y0.toInt) (u_y0 : y0.toInt ≤ 99) (l_y2 : 0 ≤ y2.toInt) (u_y2 : y2.toInt ≤ 6) (l_y3 : 0 ≤ y3.toInt) (u_y3 : y3.toInt ≤ 99) (l_y4 : 0 ≤ y4.toInt) (u_y4 : y4.toInt ≤ 6) (l_y5 : 0 ≤ y5.toInt) (u_y5 : y5.toInt ≤ 10) (l_y6 : 0 ≤ y6.toInt) (u_y6 : y6.toInt ≤ 60) : mp_Ct E yX0_worthsAt cX0_worthsAt 3 (some (FieldType.array FieldType.int)) 3 0 0 75 [.ref a0, .int x0] [(mp_ob0 a0 a1 y0 a11 a12 a13 a8 a9 a10), (mp_ob7 a1 y1 y2 y3 y4 y5 y6 a14 a15 a16 a2 a17 a3 a18 a4 a5 a6 a7 a19), (mp_arI E a2 0 6 f0), (mp_arI E a3 0 10 f1), (mp_arI E a4 0 10 f2), (mp_arI E a5 0 10 f3), (mp_arI E a6 0 10 f4), (mp_arI E a7 0 10 f5), (mp_arL E a8 20 f6), (mp_arI E a9 0 10 f7), (mp_arI E a10 0 10 f8)] (fun v w' => ∃ h1 : Nat → Int32, ∃ h2 : Nat → Int32, v = some (.ref a10) ∧ w' = [(mp_ob0 a0 a1 y0 a11 a12 a13 a8 a9 a10), (mp_ob7 a1 y1 y2 y3 y4 y5 y6 a14 a15 a16 a2 a17 a3 a18 a4 a5 a6 a7 a19), (mp_arI E a2 0 6 f0), (mp_arI E a3 0 10 f1), (mp_arI E a4 0 10 f2), (mp_arI E a5 0 10 f3), (mp_arI E a6 0 10 f4), (mp_arI E a7 0 10 f5), (mp_arL E a8 20 f6), (mp_arI E a9 0 10 h1), (mp_arI E a10 0 10 h2)]) := by
  refine mp_met false (by decide) (by decide) (Nat.le_of_ble_eq_true rfl) (fun X hF hQ => ?_)
  have hF : mp_F E X (RX0, cX0_worthsAt, 3, (3, 0, 0, 75), (some (FieldType.array FieldType.int)), false) := hF
  let w1_ : va_W := [(mp_ob0 a0 a1 y0 a11 a12 a13 a8 a9 a10), (mp_ob7 a1 y1 y2 y3 y4 y5 y6 a14 a15 a16 a2 a17 a3 a18 a4 a5 a6 a7 a19), (mp_arI E a2 0 6 f0), (mp_arI E a3 0 10 f1), (mp_arI E a4 0 10 f2), (mp_arI E a5 0 10 f3), (mp_arI E a6 0 10 f4), (mp_arI E a7 0 10 f5), (mp_arL E a8 20 f6), (mp_arI E a9 0 10 f7), (mp_arI E a10 0 10 f8)]
  show mp_W E X 3 0 [(0, .ref a0), (1, .int x0)] [] w1_ 0 0
  refine mp_run mp_k_cX0_worthsAt_ok hF mp_tabX0_ok [mp_i (.aload_n 0), mp_i (.iload_n 1)] (by decide +kernel) ?_
  show mp_W E X 3 2 [(0, .ref a0), (1, .int x0)] [.int x0, .ref a0] w1_ 0 0
  refine mp_callV hF (As := [.int x0]) (rest := []) (wr := [(mp_arI E a2 0 6 f0), (mp_arI E a3 0 10 f1), (mp_arI E a4 0 10 f2), (mp_arI E a6 0 10 f4), (mp_arI E a7 0 10 f5), (mp_arI E a10 0 10 f8)]) (bX0_lastsAt_61 E a0 a1 a5 a8 a9 a11 a12 a13 a10 a14 a15 a16 a2 a17 a3 a18 a4 a6 a7 a19 f3 f6 f7 y0 y1 y2 y3 y4 y5 y6 x0 p1 l_y0 u_y0 l_y2 u_y2 l_y3 u_y3 l_y4 u_y4 l_y5 u_y5 l_y6 u_y6) mp_lkX0_97 0 rfl [0, 1, 5, 8, 9] [2, 3, 4, 6, 7, 10] rfl rfl rfl rfl rfl ⟨(Nat.le_of_ble_eq_true rfl), (Nat.le_of_ble_eq_true rfl), (Nat.le_of_ble_eq_true rfl), (Nat.le_of_ble_eq_true rfl)⟩ (Nat.le_of_ble_eq_true rfl) (by first | exact mp_fd_ok mp_k_cX0_worthsAt_ok (by decide +kernel) | decide +kernel) (fun v_1 w_2 h_3 => ?_)
  obtain ⟨g_4, rfl, rfl⟩ := h_3
  let w2_ : va_W := [(mp_arI E a2 0 6 f0), (mp_arI E a3 0 10 f1), (mp_arI E a4 0 10 f2), (mp_arI E a6 0 10 f4), (mp_arI E a7 0 10 f5), (mp_arI E a10 0 10 f8), (mp_ob0 a0 a1 y0 a11 a12 a13 a8 a9 a10), (mp_ob7 a1 y1 y2 y3 y4 y5 y6 a14 a15 a16 a2 a17 a3 a18 a4 a5 a6 a7 a19), (mp_arI E a5 0 10 f3), (mp_arL E a8 20 f6), (mp_arI E a9 0 10 g_4)]
  show mp_W E X 3 5 [(0, .ref a0), (1, .int x0)] [.ref a9] w2_ 0 0
  refine mp_run mp_k_cX0_worthsAt_ok hF mp_tabX0_ok [mp_i .pop, mp_c (.iconst 0) 0, mp_i (.istore_n 2)] (by decide +kernel) ?_
  refine And.intro rfl ?_
  show mp_W E X 3 8 [(2, .int 0), (0, .ref a0), (1, .int x0)] [] w2_ 0 0
  have lp_9 : ∀ (d_10 : Nat) (i_5 : Int32) (g_6 : Nat → Int32), 0 ≤ i_5.toInt → i_5.toInt ≤ 10 → y5.toInt - i_5.toInt ≤ (d_10 : Int) → mp_W E X 3 8 [(2, .int i_5), (0, .ref a0), (1, .int x0)] [] [(mp_arI E a2 0 6 f0), (mp_arI E a3 0 10 f1), (mp_arI E a4 0 10 f2), (mp_arI E a6 0 10 f4), (mp_arI E a7 0 10 f5), (mp_arI E a10 0 10 g_6), (mp_ob0 a0 a1 y0 a11 a12 a13 a8 a9 a10), (mp_ob7 a1 y1 y2 y3 y4 y5 y6 a14 a15 a16 a2 a17 a3 a18 a4 a5 a6 a7 a19), (mp_arI E a5 0 10 f3), (mp_arL E a8 20 f6), (mp_arI E a9 0 10 g_4)] 0 0 := by
    intro d_10
    induction d_10 using Nat.strongRecOn with
    | ind d_10 ih_11 =>
      intro i_5 g_6 l_7 u_8 hm_12
      refine mp_run mp_k_cX0_worthsAt_ok hF mp_tabX0_ok [mp_i (.iload_n 2), mp_i (.aload_n 0), mp_h (.getfield 12) [11, 6], mp_h (.getfield 83) [2, 7], mp_h (.if_icmp .ge 28) [44]] (by decide +kernel) ?_
      refine And.intro rfl (And.intro rfl ?_)
      refine And.intro rfl (And.intro rfl ?_)
      refine And.intro (fun c_13 => ?_) (fun c_13 => ?_)
      · have c_13 : y5.toInt ≤ i_5.toInt := c_13
        let w3_ : va_W := [(mp_arI E a2 0 6 f0), (mp_arI E a3 0 10 f1), (mp_arI E a4 0 10 f2), (mp_arI E a6 0 10 f4), (mp_arI E a7 0 10 f5), (mp_arI E a10 0 10 g_6), (mp_ob0 a0 a1 y0 a11 a12 a13 a8 a9 a10), (mp_ob7 a1 y1 y2 y3 y4 y5 y6 a14 a15 a16 a2 a17 a3 a18 a4 a5 a6 a7 a19), (mp_arI E a5 0 10 f3), (mp_arL E a8 20 f6), (mp_arI E a9 0 10 g_4)]
        show mp_W E X 3 44 [(2, .int i_5), (0, .ref a0), (1, .int x0)] [] w3_ 0 0
        refine mp_run mp_k_cX0_worthsAt_ok hF mp_tabX0_ok [mp_i (.aload_n 0), mp_h (.getfield 35) [18, 6]] (by decide +kernel) ?_
        refine And.intro rfl (And.intro rfl ?_)
        show mp_W E X 3 48 [(2, .int i_5), (0, .ref a0), (1, .int x0)] [.ref a10] w3_ 0 0
        exact mp_aret hF hQ rfl (Or.inr ⟨_, rfl⟩) (Nat.le_of_ble_eq_true rfl) (Nat.le_of_ble_eq_true rfl) [6, 7, 0, 1, 2, 8, 3, 4, 9, 10, 5] (w' := [(mp_ob0 a0 a1 y0 a11 a12 a13 a8 a9 a10), (mp_ob7 a1 y1 y2 y3 y4 y5 y6 a14 a15 a16 a2 a17 a3 a18 a4 a5 a6 a7 a19), (mp_arI E a2 0 6 f0), (mp_arI E a3 0 10 f1), (mp_arI E a4 0 10 f2), (mp_arI E a5 0 10 f3), (mp_arI E a6 0 10 f4), (mp_arI E a7 0 10 f5), (mp_arL E a8 20 f6), (mp_arI E a9 0 10 g_4), (mp_arI E a10 0 10 g_6)]) rfl rfl ⟨g_4, g_6, rfl, rfl⟩ (by first | exact mp_fd_ok mp_k_cX0_worthsAt_ok (by decide +kernel) | decide +kernel)
      · have c_13 : i_5.toInt < y5.toInt := c_13
        let w4_ : va_W := [(mp_arI E a2 0 6 f0), (mp_arI E a3 0 10 f1), (mp_arI E a4 0 10 f2), (mp_arI E a6 0 10 f4), (mp_arI E a7 0 10 f5), (mp_arI E a10 0 10 g_6), (mp_ob0 a0 a1 y0 a11 a12 a13 a8 a9 a10), (mp_ob7 a1 y1 y2 y3 y4 y5 y6 a14 a15 a16 a2 a17 a3 a18 a4 a5 a6 a7 a19), (mp_arI E a5 0 10 f3), (mp_arL E a8 20 f6), (mp_arI E a9 0 10 g_4)]
        show mp_W E X 3 19 [(2, .int i_5), (0, .ref a0), (1, .int x0)] [] w4_ 0 0
        refine mp_run mp_k_cX0_worthsAt_ok hF mp_tabX0_ok [mp_i (.aload_n 0), mp_h (.getfield 35) [18, 6], mp_i (.iload_n 2), mp_i (.aload_n 0), mp_h (.getfield 12) [11, 6], mp_i (.aload_n 0), mp_h (.getfield 32) [17, 6], mp_i (.iload_n 2), mp_i (.iload_n 1)] (by decide +kernel) ?_
        refine And.intro rfl (And.intro rfl ?_)
        refine And.intro rfl (And.intro rfl ?_)
        refine And.intro rfl (And.intro rfl ?_)
        show mp_W E X 3 34 [(2, .int i_5), (0, .ref a0), (1, .int x0)] [.int x0, .int i_5, .ref a9, .ref a1, .int i_5, .ref a10] w4_ 0 0
        refine mp_callV hF (As := [.ref a9, .int i_5, .int x0]) (rest := [.int i_5, .ref a10]) (wr := [(mp_arI E a10 0 10 g_6), (mp_ob0 a0 a1 y0 a11 a12 a13 a8 a9 a10), (mp_arL E a8 20 f6)]) (bX7_worthBy_66 E a1 a9 a2 a3 a4 a5 a6 a7 a14 a15 a16 a17 a18 a19 f0 f1 f2 f3 f4 f5 g_4 y1 y2 y3 y4 y5 y6 i_5 x0 p0 p1 p2 p3 l_7 (by omega) l_y2 u_y2 l_y3 u_y3 l_y4 u_y4 l_y5 u_y5 l_y6 u_y6) mp_lkX0_101 7 rfl [7, 0, 1, 2, 8, 3, 4, 10] [5, 6, 9] rfl rfl rfl rfl rfl ⟨(Nat.le_of_ble_eq_true rfl), (Nat.le_of_ble_eq_true rfl), (Nat.le_of_ble_eq_true rfl), (Nat.le_of_ble_eq_true rfl)⟩ (Nat.le_of_ble_eq_true rfl) (by first | exact mp_fd_ok mp_k_cX0_worthsAt_ok (by decide +kernel) | decide +kernel) (fun v_14 w_15 h_16 => ?_)
        obtain ⟨r_17, rfl, rfl⟩ := h_16
        let w5_ : va_W := [(mp_arI E a10 0 10 g_6), (mp_ob0 a0 a1 y0 a11 a12 a13 a8 a9 a10), (mp_arL E a8 20 f6), (mp_ob7 a1 y1 y2 y3 y4 y5 y6 a14 a15 a16 a2 a17 a3 a18 a4 a5 a6 a7 a19), (mp_arI E a2 0 6 f0), (mp_arI E a3 0 10 f1), (mp_arI E a4 0 10 f2), (mp_arI E a5 0 10 f3), (mp_arI E a6 0 10 f4), (mp_arI E a7 0 10 f5), (mp_arI E a9 0 10 g_4)]
        show mp_W E X 3 37 [(2, .int i_5), (0, .ref a0), (1, .int x0)] [.int r_17, .int i_5, .ref a10] w5_ 0 0
        refine mp_run mp_k_cX0_worthsAt_ok hF mp_tabX0_ok [mp_h .iastore [0]] (by decide +kernel) ?_
        refine And.intro rfl (And.intro rfl (And.intro (vp_in_iff.mpr (by (first | exact mp_o381 l_7 u_y5 c_13 | omega))) ?_))
        intro g_18 h_19
        let w6_ : va_W := [(mp_arI E a10 0 10 g_18), (mp_ob0 a0 a1 y0 a11 a12 a13 a8 a9 a10), (mp_arL E a8 20 f6), (mp_ob7 a1 y1 y2 y3 y4 y5 y6 a14 a15 a16 a2 a17 a3 a18 a4 a5 a6 a7 a19), (mp_arI E a2 0 6 f0), (mp_arI E a3 0 10 f1), (mp_arI E a4 0 10 f2), (mp_arI E a5 0 10 f3), (mp_arI E a6 0 10 f4), (mp_arI E a7 0 10 f5), (mp_arI E a9 0 10 g_4)]
        show mp_W E X 3 38 [(2, .int i_5), (0, .ref a0), (1, .int x0)] [] w6_ 0 0
        refine mp_run mp_k_cX0_worthsAt_ok hF mp_tabX0_ok [mp_c (.iinc 2 1) 1, mp_h (.goto (-33)) [8]] (by decide +kernel) ?_
        intro z_20 h_21
        have e_22 : z_20.toInt = i_5.toInt + 1 := mp_add (a := i_5.toInt) (b := 1) h_21 rfl (by decide) (by (first | exact mp_o2 l_7 | omega)) (by (first | exact mp_o420 u_8 | omega))
        show mp_W E X 3 8 [(2, .int z_20), (0, .ref a0), (1, .int x0)] [] w6_ 0 0
        exact mp_sub [0, 1, 2] rfl [4, 5, 6, 8, 9, 0, 1, 3, 7, 2, 10] rfl rfl (ih_11 (d_10 - 1) (by (first | exact mp_o72 hm_12 c_13 | omega)) z_20 g_18 (by (first | exact mp_o51 l_7 e_22 | omega)) (by (first | exact mp_o421 u_y5 c_13 e_22 | omega)) (by (first | exact mp_o77 hm_12 e_22 | omega)))
  exact mp_sub [0, 1, 2] rfl [0, 1, 2, 3, 4, 5, 6, 7, 8, 9, 10] rfl rfl (lp_9 _ 0 f8 (by decide) (by decide) (Int.self_le_toNat _))
set_option maxHeartbeats 4000000 in
set_option maxRecDepth 100000 in
theorem bJ7_fill_53178_71 (E : mp_E) (a0 : Nat) (f0 : Nat → Int32) : mp_Ct E yJ7_fill_53178 cJ7_fill_53178 4 none 0 0 0 0 [.ref a0, .int 0] [(mp_arI E a0 0 36 f0)] (fun v w' => ∃ h1 : Nat → Int32, v = none ∧ (∀ j : Nat, (j : Int) < 36 → h1 j = 0) ∧ w' = [(mp_arI E a0 0 36 h1)]) := by
  refine mp_met false (by decide) (by decide) (Nat.le_of_ble_eq_true rfl) (fun X hF hQ => ?_)
  have hF : mp_F E X (RJ7, cJ7_fill_53178, 4, (0, 0, 0, 0), none, false) := hF
  show mp_W E X 4 0 [(0, .ref a0), (1, .int 0)] [] [(mp_arI E a0 0 36 f0)] 0 0
  refine mp_run mp_k_cJ7_fill_53178_ok hF mp_tab0_ok [mp_c (.iconst 0) 0, mp_i (.istore_n 2), mp_i (.aload_n 0), mp_h .arraylength [0, 0], mp_i (.istore_n 3)] (by decide +kernel) ?_
  refine And.intro rfl (And.intro rfl (And.intro (by decide) ?_))
  intro z_1 h_2
  obtain rfl : z_1 = 36 := h_2.trans (show Int32.ofNat 36 = (36 : Int32) by decide)
  show mp_W E X 4 5 [(3, .int 36), (2, .int 0), (0, .ref a0), (1, .int 0)] [] [(mp_arI E a0 0 36 f0)] 0 0
  have lp_9 : ∀ (d_10 : Nat) (i_3 : Int32) (g_4 : Nat → Int32), 0 ≤ i_3.toInt → i_3.toInt ≤ 36 → (∀ j : Nat, (j : Int) < i_3.toInt → g_4 j = 0) → (0 ≤ i_3.toInt) → -(i_3.toInt) + 36 ≤ (d_10 : Int) → mp_W E X 4 5 [(3, .int 36), (2, .int i_3), (0, .ref a0), (1, .int 0)] [] [(mp_arI E a0 0 36 g_4)] 0 0 := by
    intro d_10
    induction d_10 using Nat.strongRecOn with
    | ind d_10 ih_11 =>
      intro i_3 g_4 l_5 u_6 x_7 x_8 hm_12
      refine mp_run mp_k_cJ7_fill_53178_ok hF mp_tab0_ok [mp_i (.iload_n 2), mp_i (.iload_n 3), mp_h (.if_icmp .ge 13) [20]] (by decide +kernel) ?_
      refine And.intro (fun c_13 => ?_) (fun c_13 => ?_)
      · have c_13 : 36 ≤ i_3.toInt := c_13
        show mp_W E X 4 20 [(3, .int 36), (2, .int i_3), (0, .ref a0), (1, .int 0)] [] [(mp_arI E a0 0 36 g_4)] 0 0
        exact mp_vret hF hQ rfl (Nat.le_of_ble_eq_true rfl) (Nat.le_of_ble_eq_true rfl) [0] (w' := [(mp_arI E a0 0 36 g_4)]) rfl rfl ⟨g_4, rfl, (fun j hj => x_7 j (by (first | exact mp_o47 hj c_13 | omega))), rfl⟩ (by first | exact mp_fd_ok mp_k_cJ7_fill_53178_ok (by decide +kernel) | decide +kernel)
      · have c_13 : i_3.toInt < 36 := c_13
        show mp_W E X 4 10 [(3, .int 36), (2, .int i_3), (0, .ref a0), (1, .int 0)] [] [(mp_arI E a0 0 36 g_4)] 0 0
        refine mp_run mp_k_cJ7_fill_53178_ok hF mp_tab0_ok [mp_i (.aload_n 0), mp_i (.iload_n 2), mp_i (.iload_n 1), mp_h .iastore [0]] (by decide +kernel) ?_
        refine And.intro rfl (And.intro rfl (And.intro (vp_in_iff.mpr (by (first | exact mp_o48 l_5 c_13 | omega))) ?_))
        intro g_14 h_15
        show mp_W E X 4 14 [(3, .int 36), (2, .int i_3), (0, .ref a0), (1, .int 0)] [] [(mp_arI E a0 0 36 g_14)] 0 0
        refine mp_run mp_k_cJ7_fill_53178_ok hF mp_tab0_ok [mp_c (.iinc 2 1) 1, mp_h (.goto (-12)) [5]] (by decide +kernel) ?_
        intro z_16 h_17
        have e_18 : z_16.toInt = i_3.toInt + 1 := mp_add (a := i_3.toInt) (b := 1) h_17 rfl (by decide) (by (first | exact mp_o2 l_5 | omega)) (by (first | exact mp_o49 c_13 | omega))
        show mp_W E X 4 5 [(2, .int z_16), (3, .int 36), (0, .ref a0), (1, .int 0)] [] [(mp_arI E a0 0 36 g_14)] 0 0
        exact mp_sub [1, 0, 2, 3] rfl [0] rfl rfl (ih_11 (d_10 - 1) (by (first | exact mp_o50 hm_12 c_13 | omega)) z_16 g_14 (by (first | exact mp_o51 l_5 e_18 | omega)) (by (first | exact mp_o52 c_13 e_18 | omega)) (mp_fill_s x_7 (by rw [h_15]; exact if_pos rfl) (fun j hj => by rw [h_15]; exact if_neg hj) (by (first | exact mp_o53 l_5 e_18 | omega))) (by (first | exact mp_o51 l_5 e_18 | omega)) (by (first | exact mp_o54 hm_12 e_18 | omega)))
  exact mp_sub [0, 1, 2, 3] rfl [0] rfl rfl (lp_9 _ 0 f0 (by decide) (by decide) (fun j hj => absurd hj (by have h8 : (0 : Int32).toInt = 0 := rfl; omega)) (by decide) (Int.self_le_toNat _))
set_option maxHeartbeats 4000000 in
set_option maxRecDepth 100000 in
theorem bX1_fill_72 (E : mp_E) (a0 a1 a2 a3 a4 a5 a6 a7 a8 a9 a10 a11 a12 a13 a14 a15 a16 a17 a18 a19 a20 a21 a22 : Nat) (f0 : Nat → Int32) (f1 : Nat → Int32) (f2 : Nat → Int32) (f3 : Nat → Int32) (f4 : Nat → Int32) (f5 : Nat → Int32) (f6 : Nat → Int32) (f7 : Nat → Int32) (f8 : Nat → Int64) (f9 : Nat → Int32) (f10 : Nat → Int32) (y0 : Int32) (y1 : Int32) (y2 : Int32) (y3 : Int32) (y4 : Int32) (y5 : Int32) (y6 : Int32) (y7 : Int32) (y8 : Int32) (x0 : Int32) (p0 : mp_all f2 10 0 5) (p1 : mp_all f3 10 0 5) (p2 : mp_all f5 10 0 99) (p3 : mp_all f6 10 0 1) (p4 : mp_all f7 10 (-1) 9) (l_y0 : 0 ≤ y0.toInt) (u_y0 : y0.toInt ≤ 6) (l_y2 : 0 ≤ y2.toInt) (u_y2 : y2.toInt ≤ 99) (l_y4 : 0 ≤ y4.toInt) (u_y4 : y4.toInt ≤ 6) (l_y5 : 0 ≤ y5.toInt) (u_y5 : y5.toInt ≤ 99) (l_y6 : 0 ≤ y6.toInt) (u_y6 : y6.toInt ≤ 6) (l_y7 : 0 ≤ y7.toInt) (u_y7 : y7.toInt ≤ 10) (l_y8 : 0 ≤ y8.toInt) (u_y8 : y8.toInt ≤ 60) : mp_Ct E yX1_fill cX1_fill 6 none 4 0 0 97 [.ref a0, .ref a1, .int x0] [(mp_ob1 a0 a2 y0 y1 a14), (mp_arI E a2 0 36 f0), (mp_ob0 a1 a3 y2 a15 a16 a17 a11 a12 a13), (mp_ob7 a3 y3 y4 y5 y6 y7 y8 a18 a19 a20 a4 a21 a5 a6 a7 a8 a9 a10 a22), (mp_arI E a4 0 6 f1), (mp_arI E a5 0 10 f2), (mp_arI E a6 0 10 f3), (mp_arI E a7 0 10 f4), (mp_arI E a8 0 10 f5), (mp_arI E a9 0 10 f6), (mp_arI E a10 0 10 f7), (mp_arL E a11 20 f8), (mp_arI E a12 0 10 f9), (mp_arI E a13 0 10 f10)] (fun v w' => ∃ h1 : Nat → Int32, ∃ h2 : Nat → Int32, ∃ h3 : Nat → Int32, v = none ∧ w' = [(mp_ob1 a0 a2 y6 y1 a14), (mp_arI E a2 0 36 h1), (mp_ob0 a1 a3 y2 a15 a16 a17 a11 a12 a13), (mp_ob7 a3 y3 y4 y5 y6 y7 y8 a18 a19 a20 a4 a21 a5 a6 a7 a8 a9 a10 a22), (mp_arI E a4 0 6 f1), (mp_arI E a5 0 10 f2), (mp_arI E a6 0 10 f3), (mp_arI E a7 0 10 f4), (mp_arI E a8 0 10 f5), (mp_arI E a9 0 10 f6), (mp_arI E a10 0 10 f7), (mp_arL E a11 20 f8), (mp_arI E a12 0 10 h2), (mp_arI E a13 0 10 h3)]) := by
  refine mp_met false (by decide) (by decide) (Nat.le_of_ble_eq_true rfl) (fun X hF hQ => ?_)
  have hF : mp_F E X (RX1, cX1_fill, 6, (4, 0, 0, 97), none, false) := hF
  let w1_ : va_W := [(mp_ob1 a0 a2 y0 y1 a14), (mp_arI E a2 0 36 f0), (mp_ob0 a1 a3 y2 a15 a16 a17 a11 a12 a13), (mp_ob7 a3 y3 y4 y5 y6 y7 y8 a18 a19 a20 a4 a21 a5 a6 a7 a8 a9 a10 a22), (mp_arI E a4 0 6 f1), (mp_arI E a5 0 10 f2), (mp_arI E a6 0 10 f3), (mp_arI E a7 0 10 f4), (mp_arI E a8 0 10 f5), (mp_arI E a9 0 10 f6), (mp_arI E a10 0 10 f7), (mp_arL E a11 20 f8), (mp_arI E a12 0 10 f9), (mp_arI E a13 0 10 f10)]
  show mp_W E X 6 0 [(0, .ref a0), (1, .ref a1), (2, .int x0)] [] w1_ 0 0
  refine mp_run mp_k_cX1_fill_ok hF mp_tabX1_ok [mp_i (.aload_n 1), mp_h (.getfield 18) [4, 2], mp_i (.astore_n 3), mp_i (.aload_n 1), mp_i (.iload_n 2)] (by decide +kernel) ?_
  refine And.intro rfl (And.intro rfl ?_)
  show mp_W E X 6 7 [(3, .ref a3), (0, .ref a0), (1, .ref a1), (2, .int x0)] [.int x0, .ref a1] w1_ 0 0
  refine mp_callV hF (As := [.int x0]) (rest := []) (wr := [(mp_ob1 a0 a2 y0 y1 a14), (mp_arI E a2 0 36 f0), (mp_arI E a6 0 10 f3)]) (bX0_worthsAt_70 E a1 a3 a4 a5 a7 a8 a9 a10 a11 a12 a13 a15 a16 a17 a18 a19 a20 a21 a6 a22 f1 f2 f4 f5 f6 f7 f8 f9 f10 y2 y3 y4 y5 y6 y7 y8 x0 p0 p2 p3 p4 l_y2 u_y2 l_y4 u_y4 l_y5 u_y5 l_y6 u_y6 l_y7 u_y7 l_y8 u_y8) mp_lkX1_24 2 rfl [2, 3, 4, 5, 7, 8, 9, 10, 11, 12, 13] [0, 1, 6] rfl rfl rfl rfl rfl ⟨(Nat.le_of_ble_eq_true rfl), (Nat.le_of_ble_eq_true rfl), (Nat.le_of_ble_eq_true rfl), (Nat.le_of_ble_eq_true rfl)⟩ (Nat.le_of_ble_eq_true rfl) (by first | exact mp_fd_ok mp_k_cX1_fill_ok (by decide +kernel) | decide +kernel) (fun v_1 w_2 h_3 => ?_)
  obtain ⟨g_4, g_5, rfl, rfl⟩ := h_3
  let w2_ : va_W := [(mp_ob1 a0 a2 y0 y1 a14), (mp_arI E a2 0 36 f0), (mp_arI E a6 0 10 f3), (mp_ob0 a1 a3 y2 a15 a16 a17 a11 a12 a13), (mp_ob7 a3 y3 y4 y5 y6 y7 y8 a18 a19 a20 a4 a21 a5 a6 a7 a8 a9 a10 a22), (mp_arI E a4 0 6 f1), (mp_arI E a5 0 10 f2), (mp_arI E a7 0 10 f4), (mp_arI E a8 0 10 f5), (mp_arI E a9 0 10 f6), (mp_arI E a10 0 10 f7), (mp_arL E a11 20 f8), (mp_arI E a12 0 10 g_4), (mp_arI E a13 0 10 g_5)]
  show mp_W E X 6 10 [(3, .ref a3), (0, .ref a0), (1, .ref a1), (2, .int x0)] [.ref a13] w2_ 0 0
  refine mp_run mp_k_cX1_fill_ok hF mp_tabX1_ok [mp_i (.astore 4), mp_i (.aload_n 0), mp_i (.aload_n 3), mp_h (.getfield 28) [0, 4], mp_h (.putfield 34) [6, 0]] (by decide +kernel) ?_
  refine And.intro rfl (And.intro rfl ?_)
  refine And.intro rfl (And.intro rfl (And.intro rfl (And.intro rfl (And.intro (Nat.le_of_ble_eq_true rfl) ?_))))
  let w3_ : va_W := [(mp_ob1 a0 a2 y6 y1 a14), (mp_arI E a2 0 36 f0), (mp_arI E a6 0 10 f3), (mp_ob0 a1 a3 y2 a15 a16 a17 a11 a12 a13), (mp_ob7 a3 y3 y4 y5 y6 y7 y8 a18 a19 a20 a4 a21 a5 a6 a7 a8 a9 a10 a22), (mp_arI E a4 0 6 f1), (mp_arI E a5 0 10 f2), (mp_arI E a7 0 10 f4), (mp_arI E a8 0 10 f5), (mp_arI E a9 0 10 f6), (mp_arI E a10 0 10 f7), (mp_arL E a11 20 f8), (mp_arI E a12 0 10 g_4), (mp_arI E a13 0 10 g_5)]
  show mp_W E X 6 20 [(4, .ref a13), (3, .ref a3), (0, .ref a0), (1, .ref a1), (2, .int x0)] [] w3_ 0 0
  refine mp_run mp_k_cX1_fill_ok hF mp_tabX1_ok [mp_i (.aload_n 0), mp_h (.getfield 9) [5, 0], mp_c (.iconst 0) 0] (by decide +kernel) ?_
  refine And.intro rfl (And.intro rfl ?_)
  show mp_W E X 6 25 [(4, .ref a13), (3, .ref a3), (0, .ref a0), (1, .ref a1), (2, .int x0)] [.int 0, .ref a2] w3_ 0 0
  refine mp_callS hF (As := [.ref a2, .int 0]) (rest := []) (wr := [(mp_ob1 a0 a2 y6 y1 a14), (mp_arI E a6 0 10 f3), (mp_ob0 a1 a3 y2 a15 a16 a17 a11 a12 a13), (mp_ob7 a3 y3 y4 y5 y6 y7 y8 a18 a19 a20 a4 a21 a5 a6 a7 a8 a9 a10 a22), (mp_arI E a4 0 6 f1), (mp_arI E a5 0 10 f2), (mp_arI E a7 0 10 f4), (mp_arI E a8 0 10 f5), (mp_arI E a9 0 10 f6), (mp_arI E a10 0 10 f7), (mp_arL E a11 20 f8), (mp_arI E a12 0 10 g_4), (mp_arI E a13 0 10 g_5)]) (bJ7_fill_53178_71 E a2 f0) mp_lkX1_35 [1] [0, 2, 3, 4, 5, 6, 7, 8, 9, 10, 11, 12, 13] rfl rfl rfl rfl rfl ⟨(Nat.le_of_ble_eq_true rfl), (Nat.le_of_ble_eq_true rfl), (Nat.le_of_ble_eq_true rfl), (Nat.le_of_ble_eq_true rfl)⟩ (Nat.le_of_ble_eq_true rfl) (by first | exact mp_fd_ok mp_k_cX1_fill_ok (by decide +kernel) | decide +kernel) (fun v_6 w_7 h_8 => ?_)
  obtain ⟨g_9, rfl, x_10, rfl⟩ := h_8
  let w4_ : va_W := [(mp_ob1 a0 a2 y6 y1 a14), (mp_arI E a6 0 10 f3), (mp_ob0 a1 a3 y2 a15 a16 a17 a11 a12 a13), (mp_ob7 a3 y3 y4 y5 y6 y7 y8 a18 a19 a20 a4 a21 a5 a6 a7 a8 a9 a10 a22), (mp_arI E a4 0 6 f1), (mp_arI E a5 0 10 f2), (mp_arI E a7 0 10 f4), (mp_arI E a8 0 10 f5), (mp_arI E a9 0 10 f6), (mp_arI E a10 0 10 f7), (mp_arL E a11 20 f8), (mp_arI E a12 0 10 g_4), (mp_arI E a13 0 10 g_5), (mp_arI E a2 0 36 g_9)]
  show mp_W E X 6 28 [(4, .ref a13), (3, .ref a3), (0, .ref a0), (1, .ref a1), (2, .int x0)] [] w4_ 0 0
  refine mp_run mp_k_cX1_fill_ok hF mp_tabX1_ok [mp_c (.iconst 0) 0, mp_i (.istore 5)] (by decide +kernel) ?_
  show mp_W E X 6 31 [(5, .int 0), (4, .ref a13), (3, .ref a3), (0, .ref a0), (1, .ref a1), (2, .int x0)] [] w4_ 0 0
  have lp_15 : ∀ (d_16 : Nat) (i_11 : Int32) (g_12 : Nat → Int32), 0 ≤ i_11.toInt → i_11.toInt ≤ 10 → y7.toInt - i_11.toInt ≤ (d_16 : Int) → mp_W E X 6 31 [(5, .int i_11), (4, .ref a13), (3, .ref a3), (0, .ref a0), (1, .ref a1), (2, .int x0)] [] [(mp_ob1 a0 a2 y6 y1 a14), (mp_arI E a6 0 10 f3), (mp_ob0 a1 a3 y2 a15 a16 a17 a11 a12 a13), (mp_ob7 a3 y3 y4 y5 y6 y7 y8 a18 a19 a20 a4 a21 a5 a6 a7 a8 a9 a10 a22), (mp_arI E a4 0 6 f1), (mp_arI E a5 0 10 f2), (mp_arI E a7 0 10 f4), (mp_arI E a8 0 10 f5), (mp_arI E a9 0 10 f6), (mp_arI E a10 0 10 f7), (mp_arL E a11 20 f8), (mp_arI E a12 0 10 g_4), (mp_arI E a13 0 10 g_5), (mp_arI E a2 0 36 g_12)] 0 0 := by
    intro d_16
    induction d_16 using Nat.strongRecOn with
    | ind d_16 ih_17 =>
      intro i_11 g_12 l_13 u_14 hm_18
      refine mp_run mp_k_cX1_fill_ok hF mp_tabX1_ok [mp_i (.iload 5), mp_i (.aload_n 3), mp_h (.getfield 41) [1, 3], mp_h (.if_icmp .ge 40) [77]] (by decide +kernel) ?_
      refine And.intro rfl (And.intro rfl ?_)
      refine And.intro (fun c_19 => ?_) (fun c_19 => ?_)
      · have c_19 : y7.toInt ≤ i_11.toInt := c_19
        let w5_ : va_W := [(mp_ob1 a0 a2 y6 y1 a14), (mp_arI E a6 0 10 f3), (mp_ob0 a1 a3 y2 a15 a16 a17 a11 a12 a13), (mp_ob7 a3 y3 y4 y5 y6 y7 y8 a18 a19 a20 a4 a21 a5 a6 a7 a8 a9 a10 a22), (mp_arI E a4 0 6 f1), (mp_arI E a5 0 10 f2), (mp_arI E a7 0 10 f4), (mp_arI E a8 0 10 f5), (mp_arI E a9 0 10 f6), (mp_arI E a10 0 10 f7), (mp_arL E a11 20 f8), (mp_arI E a12 0 10 g_4), (mp_arI E a13 0 10 g_5), (mp_arI E a2 0 36 g_12)]
        show mp_W E X 6 77 [(5, .int i_11), (4, .ref a13), (3, .ref a3), (0, .ref a0), (1, .ref a1), (2, .int x0)] [] w5_ 0 0
        exact mp_vret hF hQ rfl (Nat.le_of_ble_eq_true rfl) (Nat.le_of_ble_eq_true rfl) [0, 13, 2, 3, 4, 5, 1, 6, 7, 8, 9, 10, 11, 12] (w' := [(mp_ob1 a0 a2 y6 y1 a14), (mp_arI E a2 0 36 g_12), (mp_ob0 a1 a3 y2 a15 a16 a17 a11 a12 a13), (mp_ob7 a3 y3 y4 y5 y6 y7 y8 a18 a19 a20 a4 a21 a5 a6 a7 a8 a9 a10 a22), (mp_arI E a4 0 6 f1), (mp_arI E a5 0 10 f2), (mp_arI E a6 0 10 f3), (mp_arI E a7 0 10 f4), (mp_arI E a8 0 10 f5), (mp_arI E a9 0 10 f6), (mp_arI E a10 0 10 f7), (mp_arL E a11 20 f8), (mp_arI E a12 0 10 g_4), (mp_arI E a13 0 10 g_5)]) rfl rfl ⟨g_12, g_4, g_5, rfl, rfl⟩ (by first | exact mp_fd_ok mp_k_cX1_fill_ok (by decide +kernel) | decide +kernel)
      · have c_19 : i_11.toInt < y7.toInt := c_19
        let w6_ : va_W := [(mp_ob1 a0 a2 y6 y1 a14), (mp_arI E a6 0 10 f3), (mp_ob0 a1 a3 y2 a15 a16 a17 a11 a12 a13), (mp_ob7 a3 y3 y4 y5 y6 y7 y8 a18 a19 a20 a4 a21 a5 a6 a7 a8 a9 a10 a22), (mp_arI E a4 0 6 f1), (mp_arI E a5 0 10 f2), (mp_arI E a7 0 10 f4), (mp_arI E a8 0 10 f5), (mp_arI E a9 0 10 f6), (mp_arI E a10 0 10 f7), (mp_arL E a11 20 f8), (mp_arI E a12 0 10 g_4), (mp_arI E a13 0 10 g_5), (mp_arI E a2 0 36 g_12)]
        show mp_W E X 6 40 [(5, .int i_11), (4, .ref a13), (3, .ref a3), (0, .ref a0), (1, .ref a1), (2, .int x0)] [] w6_ 0 0
        refine mp_run mp_k_cX1_fill_ok hF mp_tabX1_ok [mp_i (.aload_n 0), mp_h (.getfield 9) [5, 0], mp_i (.aload_n 3), mp_h (.getfield 44) [2, 3], mp_i (.iload 5), mp_h .iaload [5], mp_c (.bipush 6) 6, mp_i .imul, mp_i (.aload_n 3), mp_h (.getfield 47) [3, 3], mp_i (.iload 5), mp_h .iaload [1], mp_i .iadd, mp_i .dup2, mp_h .iaload [13], mp_i (.aload 4), mp_i (.iload 5), mp_h .iaload [12], mp_i .iadd, mp_h .iastore [13]] (by decide +kernel) ?_
        refine And.intro rfl (And.intro rfl ?_)
        refine And.intro rfl (And.intro rfl ?_)
        refine And.intro rfl (And.intro rfl (And.intro (vp_in_iff.mpr (by (first | exact mp_o381 l_13 u_y7 c_19 | omega))) ?_))
        intro z_20 h_21
        have e_22 : 0 ≤ z_20.toInt ∧ z_20.toInt ≤ 5 := mp_all_ld h_21 p0 (by (first | exact l_13 | omega)) (by (first | exact mp_o382 u_y7 c_19 | omega))
        intro z_23 h_24
        have e_25 : z_23.toInt = z_20.toInt * 6 := mp_mul (a := z_20.toInt) (b := 6) h_24 rfl (by decide) (by (first | exact mp_o441 e_22 | omega)) (by (first | exact mp_o442 e_22 | omega))
        refine And.intro rfl (And.intro rfl ?_)
        refine And.intro rfl (And.intro rfl (And.intro (vp_in_iff.mpr (by (first | exact mp_o381 l_13 u_y7 c_19 | omega))) ?_))
        intro z_26 h_27
        have e_28 : 0 ≤ z_26.toInt ∧ z_26.toInt ≤ 5 := mp_all_ld h_27 p1 (by (first | exact l_13 | omega)) (by (first | exact mp_o382 u_y7 c_19 | omega))
        intro z_29 h_30
        have e_31 : z_29.toInt = z_23.toInt + z_26.toInt := mp_add (a := z_23.toInt) (b := z_26.toInt) h_30 rfl rfl (by (first | exact mp_o443 e_28 e_25 e_22 | omega)) (by (first | exact mp_o444 e_28 e_25 e_22 | omega))
        refine And.intro rfl (And.intro rfl (And.intro (vp_in_iff.mpr (by (first | exact mp_o445 e_22 e_25 e_31 e_28 | omega))) ?_))
        intro z_32 h_33
        refine And.intro rfl (And.intro rfl (And.intro (vp_in_iff.mpr (by (first | exact mp_o381 l_13 u_y7 c_19 | omega))) ?_))
        intro z_34 h_35
        intro z_36 h_37
        refine And.intro rfl (And.intro rfl (And.intro (vp_in_iff.mpr (by (first | exact mp_o445 e_22 e_25 e_31 e_28 | omega))) ?_))
        intro g_39 h_40
        let w7_ : va_W := [(mp_ob1 a0 a2 y6 y1 a14), (mp_arI E a6 0 10 f3), (mp_ob0 a1 a3 y2 a15 a16 a17 a11 a12 a13), (mp_ob7 a3 y3 y4 y5 y6 y7 y8 a18 a19 a20 a4 a21 a5 a6 a7 a8 a9 a10 a22), (mp_arI E a4 0 6 f1), (mp_arI E a5 0 10 f2), (mp_arI E a7 0 10 f4), (mp_arI E a8 0 10 f5), (mp_arI E a9 0 10 f6), (mp_arI E a10 0 10 f7), (mp_arL E a11 20 f8), (mp_arI E a12 0 10 g_4), (mp_arI E a13 0 10 g_5), (mp_arI E a2 0 36 g_39)]
        show mp_W E X 6 71 [(5, .int i_11), (4, .ref a13), (3, .ref a3), (0, .ref a0), (1, .ref a1), (2, .int x0)] [] w7_ 0 0
        refine mp_run mp_k_cX1_fill_ok hF mp_tabX1_ok [mp_c (.iinc 5 1) 1, mp_h (.goto (-43)) [31]] (by decide +kernel) ?_
        intro z_41 h_42
        have e_43 : z_41.toInt = i_11.toInt + 1 := mp_add (a := i_11.toInt) (b := 1) h_42 rfl (by decide) (by (first | exact mp_o2 l_13 | omega)) (by (first | exact mp_o420 u_14 | omega))
        show mp_W E X 6 31 [(5, .int z_41), (4, .ref a13), (3, .ref a3), (0, .ref a0), (1, .ref a1), (2, .int x0)] [] w7_ 0 0
        exact mp_sub [0, 1, 2, 3, 4, 5] rfl [0, 1, 2, 3, 4, 5, 6, 7, 8, 9, 10, 11, 12, 13] rfl rfl (ih_17 (d_16 - 1) (by (first | exact mp_o72 hm_18 c_19 | omega)) z_41 g_39 (by (first | exact mp_o51 l_13 e_43 | omega)) (by (first | exact mp_o421 u_y7 c_19 e_43 | omega)) (by (first | exact mp_o77 hm_18 e_43 | omega)))
  exact mp_sub [0, 1, 2, 3, 4, 5] rfl [0, 1, 2, 3, 4, 5, 6, 7, 8, 9, 10, 11, 12, 13] rfl rfl (lp_15 _ 0 g_9 (by decide) (by decide) (Int.self_le_toNat _))
set_option maxHeartbeats 4000000 in
set_option maxRecDepth 100000 in
theorem bX1_debt_73 (E : mp_E) (a0 a1 a2 : Nat) (f0 : Nat → Int32) (y0 : Int32) (y1 : Int32) (x0 : Int32) (x1 : Int32) (l_x0 : 0 ≤ x0.toInt) (u_x0 : x0.toInt ≤ 5) (l_x1 : 0 ≤ x1.toInt) (u_x1 : x1.toInt ≤ 5) (l_y0 : 0 ≤ y0.toInt) (u_y0 : y0.toInt ≤ 6) : mp_Ct E yX1_debt cX1_debt 3 (some FieldType.int) 0 0 0 0 [.ref a0, .int x0, .int x1] [(mp_ob1 a0 a1 y0 y1 a2), (mp_arI E a1 0 36 f0)] (fun v w' => ∃ r1 : Int32, v = some (.int r1) ∧ w' = [(mp_ob1 a0 a1 y0 y1 a2), (mp_arI E a1 0 36 f0)]) := by
  refine mp_met false (by decide) (by decide) (Nat.le_of_ble_eq_true rfl) (fun X hF hQ => ?_)
  have hF : mp_F E X (RX1, cX1_debt, 3, (0, 0, 0, 0), (some FieldType.int), false) := hF
  show mp_W E X 3 0 [(0, .ref a0), (1, .int x0), (2, .int x1)] [] [(mp_ob1 a0 a1 y0 y1 a2), (mp_arI E a1 0 36 f0)] 0 0
  refine mp_run mp_k_cX1_debt_ok hF mp_tabX1_ok [mp_i (.aload_n 0), mp_h (.getfield 9) [5, 0], mp_i (.iload_n 1), mp_c (.bipush 6) 6, mp_i .imul, mp_i (.iload_n 2), mp_i .iadd, mp_h .iaload [1]] (by decide +kernel) ?_
  refine And.intro rfl (And.intro rfl ?_)
  intro z_1 h_2
  have e_3 : z_1.toInt = x0.toInt * 6 := mp_mul (a := x0.toInt) (b := 6) h_2 rfl (by decide) (by (first | exact mp_o249 l_x0 | omega)) (by (first | exact mp_o250 u_x0 | omega))
  intro z_4 h_5
  have e_6 : z_4.toInt = z_1.toInt + x1.toInt := mp_add (a := z_1.toInt) (b := x1.toInt) h_5 rfl rfl (by (first | exact mp_o251 l_x1 l_x0 e_3 | omega)) (by (first | exact mp_o252 u_x1 u_x0 e_3 | omega))
  refine And.intro rfl (And.intro rfl (And.intro (vp_in_iff.mpr (by (first | exact mp_o253 l_x0 u_x0 l_x1 u_x1 e_3 e_6 | omega))) ?_))
  intro z_7 h_8
  show mp_W E X 3 11 [(0, .ref a0), (1, .int x0), (2, .int x1)] [.int z_7] [(mp_ob1 a0 a1 y0 y1 a2), (mp_arI E a1 0 36 f0)] 0 0
  exact mp_iret hF hQ rfl rfl (Nat.le_of_ble_eq_true rfl) (Nat.le_of_ble_eq_true rfl) [0, 1] (w' := [(mp_ob1 a0 a1 y0 y1 a2), (mp_arI E a1 0 36 f0)]) rfl rfl ⟨z_7, rfl, rfl⟩ (by first | exact mp_fd_ok mp_k_cX1_debt_ok (by decide +kernel) | decide +kernel)
set_option maxHeartbeats 4000000 in
set_option maxRecDepth 100000 in
theorem bX9_owed_74 (E : mp_E) (a0 a1 a2 a3 a4 a5 a6 a7 a8 a9 a10 a11 a12 a13 a14 a15 a16 a17 a18 a19 a20 a21 a22 a23 a24 a25 a26 a27 a28 a29 a30 : Nat) (f0 : Nat → Int32) (f1 : Nat → Int32) (f2 : Nat → Int32) (f3 : Nat → Int32) (f4 : Nat → Int32) (f5 : Nat → Int32) (f6 : Nat → Int32) (f7 : Nat → Int64) (f8 : Nat → Int32) (f9 : Nat → Int32) (f10 : Nat → Int32) (y0 : Int32) (y1 : Int32) (y2 : Int32) (y3 : Int32) (y4 : Int32) (y5 : Int32) (y6 : Int32) (y7 : Int32) (y8 : Int32) (x0 : Int32) (x1 : Int32) (x2 : Int32) (p0 : mp_all f1 10 0 5) (p1 : mp_all f2 10 0 5) (p2 : mp_all f4 10 0 99) (p3 : mp_all f5 10 0 1) (p4 : mp_all f6 10 (-1) 9) (l_y0 : 0 ≤ y0.toInt) (u_y0 : y0.toInt ≤ 99) (l_y2 : 0 ≤ y2.toInt) (u_y2 : y2.toInt ≤ 6) (l_y3 : 0 ≤ y3.toInt) (u_y3 : y3.toInt ≤ 99) (l_y4 : 0 ≤ y4.toInt) (u_y4 : y4.toInt ≤ 6) (l_y5 : 0 ≤ y5.toInt) (u_y5 : y5.toInt ≤ 10) (l_y6 : 0 ≤ y6.toInt) (u_y6 : y6.toInt ≤ 60) (l_y7 : 0 ≤ y7.toInt) (u_y7 : y7.toInt ≤ 6) : mp_Ct E yX9_owed cX9_owed 4 (some FieldType.int) 5 0 0 122 [.ref a0, .int x0, .int x1, .int x2] [(mp_ob9 a0 a15 a1 a16 a13 a17 a18 a19 a20 a21), (mp_ob0 a1 a2 y0 a22 a23 a24 a10 a11 a12), (mp_ob7 a2 y1 y2 y3 y4 y5 y6 a25 a26 a27 a3 a28 a4 a5 a6 a7 a8 a9 a29), (mp_arI E a3 0 6 f0), (mp_arI E a4 0 10 f1), (mp_arI E a5 0 10 f2), (mp_arI E a6 0 10 f3), (mp_arI E a7 0 10 f4), (mp_arI E a8 0 10 f5), (mp_arI E a9 0 10 f6), (mp_arL E a10 20 f7), (mp_arI E a11 0 10 f8), (mp_arI E a12 0 10 f9), (mp_ob1 a13 a14 y7 y8 a30), (mp_arI E a14 0 36 f10)] (fun v w' => ∃ h1 : Nat → Int32, ∃ h2 : Nat → Int32, ∃ r3 : Int32, ∃ h4 : Nat → Int32, ∃ r5 : Int32, v = some (.int r5) ∧ 0 ≤ r3.toInt ∧ r3.toInt ≤ 6 ∧ w' = [(mp_ob9 a0 a15 a1 a16 a13 a17 a18 a19 a20 a21), (mp_ob0 a1 a2 y0 a22 a23 a24 a10 a11 a12), (mp_ob7 a2 y1 y2 y3 y4 y5 y6 a25 a26 a27 a3 a28 a4 a5 a6 a7 a8 a9 a29), (mp_arI E a3 0 6 f0), (mp_arI E a4 0 10 f1), (mp_arI E a5 0 10 f2), (mp_arI E a6 0 10 f3), (mp_arI E a7 0 10 f4), (mp_arI E a8 0 10 f5), (mp_arI E a9 0 10 f6), (mp_arL E a10 20 f7), (mp_arI E a11 0 10 h1), (mp_arI E a12 0 10 h2), (mp_ob1 a13 a14 r3 y8 a30), (mp_arI E a14 0 36 h4)]) := by
  refine mp_met false (by decide) (by decide) (Nat.le_of_ble_eq_true rfl) (fun X hF hQ => ?_)
  have hF : mp_F E X (RX9, cX9_owed, 4, (5, 0, 0, 122), (some FieldType.int), false) := hF
  let w1_ : va_W := [(mp_ob9 a0 a15 a1 a16 a13 a17 a18 a19 a20 a21), (mp_ob0 a1 a2 y0 a22 a23 a24 a10 a11 a12), (mp_ob7 a2 y1 y2 y3 y4 y5 y6 a25 a26 a27 a3 a28 a4 a5 a6 a7 a8 a9 a29), (mp_arI E a3 0 6 f0), (mp_arI E a4 0 10 f1), (mp_arI E a5 0 10 f2), (mp_arI E a6 0 10 f3), (mp_arI E a7 0 10 f4), (mp_arI E a8 0 10 f5), (mp_arI E a9 0 10 f6), (mp_arL E a10 20 f7), (mp_arI E a11 0 10 f8), (mp_arI E a12 0 10 f9), (mp_ob1 a13 a14 y7 y8 a30), (mp_arI E a14 0 36 f10)]
  show mp_W E X 4 0 [(0, .ref a0), (1, .int x0), (2, .int x1), (3, .int x2)] [] w1_ 0 0
  refine mp_run mp_k_cX9_owed_ok hF mp_tabX9_ok [mp_i (.aload_n 0), mp_i (.iload_n 1), mp_i (.iload_n 2)] (by decide +kernel) ?_
  show mp_W E X 4 3 [(0, .ref a0), (1, .int x0), (2, .int x1), (3, .int x2)] [.int x1, .int x0, .ref a0] w1_ 0 0
  refine mp_callV hF (As := [.int x0, .int x1]) (rest := []) (wr := [(mp_arI E a3 0 6 f0), (mp_arI E a4 0 10 f1), (mp_arI E a5 0 10 f2), (mp_arI E a6 0 10 f3), (mp_arI E a7 0 10 f4), (mp_arI E a8 0 10 f5), (mp_arI E a9 0 10 f6), (mp_arL E a10 20 f7), (mp_arI E a11 0 10 f8), (mp_arI E a12 0 10 f9), (mp_ob1 a13 a14 y7 y8 a30), (mp_arI E a14 0 36 f10)]) (bX9_arePair_69 E a0 a1 a2 a15 a16 a13 a17 a18 a19 a20 a21 a22 a23 a24 a10 a11 a12 a25 a26 a27 a3 a28 a4 a5 a6 a7 a8 a9 a29 y0 y1 y2 y3 y4 y5 y6 x0 x1 l_y0 u_y0 l_y2 u_y2 l_y3 u_y3 l_y4 u_y4 l_y5 u_y5 l_y6 u_y6) mp_lkX9_169 0 rfl [0, 1, 2] [3, 4, 5, 6, 7, 8, 9, 10, 11, 12, 13, 14] rfl rfl rfl rfl rfl ⟨(Nat.le_of_ble_eq_true rfl), (Nat.le_of_ble_eq_true rfl), (Nat.le_of_ble_eq_true rfl), (Nat.le_of_ble_eq_true rfl)⟩ (Nat.le_of_ble_eq_true rfl) (by first | exact mp_fd_ok mp_k_cX9_owed_ok (by decide +kernel) | decide +kernel) (fun v_1 w_2 h_3 => ?_)
  refine h_3.elim (fun q_11 => ?_) (fun q_12 => ?_)
  · skip
    refine q_11.elim fun e_13 q_14 => q_14.elim fun x_4 e_15 => ?_
    clear h_3 q_11 q_14
    subst e_13
    subst e_15
    let w2_ : va_W := [(mp_arI E a3 0 6 f0), (mp_arI E a4 0 10 f1), (mp_arI E a5 0 10 f2), (mp_arI E a6 0 10 f3), (mp_arI E a7 0 10 f4), (mp_arI E a8 0 10 f5), (mp_arI E a9 0 10 f6), (mp_arL E a10 20 f7), (mp_arI E a11 0 10 f8), (mp_arI E a12 0 10 f9), (mp_ob1 a13 a14 y7 y8 a30), (mp_arI E a14 0 36 f10), (mp_ob9 a0 a15 a1 a16 a13 a17 a18 a19 a20 a21), (mp_ob0 a1 a2 y0 a22 a23 a24 a10 a11 a12), (mp_ob7 a2 y1 y2 y3 y4 y5 y6 a25 a26 a27 a3 a28 a4 a5 a6 a7 a8 a9 a29)]
    show mp_W E X 4 6 [(0, .ref a0), (1, .int x0), (2, .int x1), (3, .int x2)] [.int 0] w2_ 0 0
    refine mp_run mp_k_cX9_owed_ok hF mp_tabX9_ok [mp_h (.ifCond .eq 10) [16]] (by decide +kernel) ?_
    refine And.intro (fun _ => ?_) (fun c_16 => absurd c_16 (by decide))
    show mp_W E X 4 16 [(0, .ref a0), (1, .int x0), (2, .int x1), (3, .int x2)] [] w2_ 0 0
    refine mp_run mp_k_cX9_owed_ok hF mp_tabX9_ok [mp_c (.bipush (-2)) (-2)] (by decide +kernel) ?_
    show mp_W E X 4 18 [(0, .ref a0), (1, .int x0), (2, .int x1), (3, .int x2)] [.int (-2)] w2_ 0 0
    exact mp_iret hF hQ rfl rfl (Nat.le_of_ble_eq_true rfl) (Nat.le_of_ble_eq_true rfl) [12, 13, 14, 0, 1, 2, 3, 4, 5, 6, 7, 8, 9, 10, 11] (w' := w1_) rfl rfl ⟨f8, f9, y7, f10, (-2), rfl, l_y7, u_y7, rfl⟩ (by first | exact mp_fd_ok mp_k_cX9_owed_ok (by decide +kernel) | decide +kernel)
  · skip
    refine q_12.elim fun e_17 q_18 => q_18.elim fun c_5 q_19 => q_19.elim fun c_6 q_20 => q_20.elim fun c_7 q_21 => q_21.elim fun c_8 q_22 => q_22.elim fun c_9 q_23 => q_23.elim fun x_10 e_24 => ?_
    clear h_3 q_12 q_18 q_19 q_20 q_21 q_22 q_23
    subst e_17
    subst e_24
    have c_5 : 0 ≤ x0.toInt := c_5
    have c_6 : x0.toInt < y4.toInt := c_6
    have c_7 : 0 ≤ x1.toInt := c_7
    have c_8 : x1.toInt < y4.toInt := c_8
    have c_9 : x0.toInt ≠ x1.toInt := c_9
    let w3_ : va_W := [(mp_arI E a3 0 6 f0), (mp_arI E a4 0 10 f1), (mp_arI E a5 0 10 f2), (mp_arI E a6 0 10 f3), (mp_arI E a7 0 10 f4), (mp_arI E a8 0 10 f5), (mp_arI E a9 0 10 f6), (mp_arL E a10 20 f7), (mp_arI E a11 0 10 f8), (mp_arI E a12 0 10 f9), (mp_ob1 a13 a14 y7 y8 a30), (mp_arI E a14 0 36 f10), (mp_ob9 a0 a15 a1 a16 a13 a17 a18 a19 a20 a21), (mp_ob0 a1 a2 y0 a22 a23 a24 a10 a11 a12), (mp_ob7 a2 y1 y2 y3 y4 y5 y6 a25 a26 a27 a3 a28 a4 a5 a6 a7 a8 a9 a29)]
    show mp_W E X 4 6 [(0, .ref a0), (1, .int x0), (2, .int x1), (3, .int x2)] [.int 1] w3_ 0 0
    refine mp_run mp_k_cX9_owed_ok hF mp_tabX9_ok [mp_h (.ifCond .eq 10) [16]] (by decide +kernel) ?_
    refine And.intro (fun c_25 => absurd c_25 (by decide)) (fun _ => ?_)
    show mp_W E X 4 9 [(0, .ref a0), (1, .int x0), (2, .int x1), (3, .int x2)] [] w3_ 0 0
    refine mp_run mp_k_cX9_owed_ok hF mp_tabX9_ok [mp_i (.iload_n 3)] (by decide +kernel) ?_
    show mp_W E X 4 10 [(0, .ref a0), (1, .int x0), (2, .int x1), (3, .int x2)] [.int x2] w3_ 0 0
    refine mp_callS hF (As := [.int x2]) (rest := []) (wr := w3_) (bX9_isMoon_57 E x2) mp_lkX9_148 [] [0, 1, 2, 3, 4, 5, 6, 7, 8, 9, 10, 11, 12, 13, 14] rfl rfl rfl rfl rfl ⟨(Nat.le_of_ble_eq_true rfl), (Nat.le_of_ble_eq_true rfl), (Nat.le_of_ble_eq_true rfl), (Nat.le_of_ble_eq_true rfl)⟩ (Nat.le_of_ble_eq_true rfl) (by first | exact mp_fd_ok mp_k_cX9_owed_ok (by decide +kernel) | decide +kernel) (fun v_26 w_27 h_28 => ?_)
    rcases h_28 with ⟨rfl, x_29, rfl⟩ | ⟨rfl, c_30, c_31, x_32, rfl⟩
    · skip
      show mp_W E X 4 13 [(0, .ref a0), (1, .int x0), (2, .int x1), (3, .int x2)] [.int 0] w3_ 0 0
      refine mp_run mp_k_cX9_owed_ok hF mp_tabX9_ok [mp_h (.ifCond .ne 6) [19]] (by decide +kernel) ?_
      refine And.intro (fun c_33 => absurd c_33 (by decide)) (fun _ => ?_)
      show mp_W E X 4 16 [(0, .ref a0), (1, .int x0), (2, .int x1), (3, .int x2)] [] w3_ 0 0
      refine mp_run mp_k_cX9_owed_ok hF mp_tabX9_ok [mp_c (.bipush (-2)) (-2)] (by decide +kernel) ?_
      show mp_W E X 4 18 [(0, .ref a0), (1, .int x0), (2, .int x1), (3, .int x2)] [.int (-2)] w3_ 0 0
      exact mp_iret hF hQ rfl rfl (Nat.le_of_ble_eq_true rfl) (Nat.le_of_ble_eq_true rfl) [12, 13, 14, 0, 1, 2, 3, 4, 5, 6, 7, 8, 9, 10, 11] (w' := w1_) rfl rfl ⟨f8, f9, y7, f10, (-2), rfl, l_y7, u_y7, rfl⟩ (by first | exact mp_fd_ok mp_k_cX9_owed_ok (by decide +kernel) | decide +kernel)
    · skip
      have c_30 : 0 ≤ x2.toInt := c_30
      have c_31 : x2.toInt ≤ 99 := c_31
      show mp_W E X 4 13 [(0, .ref a0), (1, .int x0), (2, .int x1), (3, .int x2)] [.int 1] w3_ 0 0
      refine mp_run mp_k_cX9_owed_ok hF mp_tabX9_ok [mp_h (.ifCond .ne 6) [19]] (by decide +kernel) ?_
      refine And.intro (fun _ => ?_) (fun c_34 => absurd c_34 (by decide))
      show mp_W E X 4 19 [(0, .ref a0), (1, .int x0), (2, .int x1), (3, .int x2)] [] w3_ 0 0
      refine mp_run mp_k_cX9_owed_ok hF mp_tabX9_ok [mp_i (.aload_n 0), mp_h (.getfield 32) [39, 12], mp_i (.aload_n 0), mp_h (.getfield 19) [37, 12], mp_i (.iload_n 3)] (by decide +kernel) ?_
      refine And.intro rfl (And.intro rfl ?_)
      refine And.intro rfl (And.intro rfl ?_)
      show mp_W E X 4 28 [(0, .ref a0), (1, .int x0), (2, .int x1), (3, .int x2)] [.int x2, .ref a1, .ref a13] w3_ 0 0
      refine mp_callV hF (As := [.ref a1, .int x2]) (rest := []) (wr := [(mp_ob9 a0 a15 a1 a16 a13 a17 a18 a19 a20 a21)]) (bX1_fill_72 E a13 a1 a14 a2 a3 a4 a5 a6 a7 a8 a9 a10 a11 a12 a30 a22 a23 a24 a25 a26 a27 a28 a29 f10 f0 f1 f2 f3 f4 f5 f6 f7 f8 f9 y7 y8 y0 y1 y2 y3 y4 y5 y6 x2 p0 p1 p2 p3 p4 l_y7 u_y7 l_y0 u_y0 l_y2 u_y2 l_y3 u_y3 l_y4 u_y4 l_y5 u_y5 l_y6 u_y6) mp_lkX9_172 10 rfl [10, 11, 13, 14, 0, 1, 2, 3, 4, 5, 6, 7, 8, 9] [12] rfl rfl rfl rfl rfl ⟨(Nat.le_of_ble_eq_true rfl), (Nat.le_of_ble_eq_true rfl), (Nat.le_of_ble_eq_true rfl), (Nat.le_of_ble_eq_true rfl)⟩ (Nat.le_of_ble_eq_true rfl) (by first | exact mp_fd_ok mp_k_cX9_owed_ok (by decide +kernel) | decide +kernel) (fun v_35 w_36 h_37 => ?_)
      obtain ⟨g_38, g_39, g_40, rfl, rfl⟩ := h_37
      let w4_ : va_W := [(mp_ob9 a0 a15 a1 a16 a13 a17 a18 a19 a20 a21), (mp_ob1 a13 a14 y4 y8 a30), (mp_arI E a14 0 36 g_38), (mp_ob0 a1 a2 y0 a22 a23 a24 a10 a11 a12), (mp_ob7 a2 y1 y2 y3 y4 y5 y6 a25 a26 a27 a3 a28 a4 a5 a6 a7 a8 a9 a29), (mp_arI E a3 0 6 f0), (mp_arI E a4 0 10 f1), (mp_arI E a5 0 10 f2), (mp_arI E a6 0 10 f3), (mp_arI E a7 0 10 f4), (mp_arI E a8 0 10 f5), (mp_arI E a9 0 10 f6), (mp_arL E a10 20 f7), (mp_arI E a11 0 10 g_39), (mp_arI E a12 0 10 g_40)]
      show mp_W E X 4 31 [(0, .ref a0), (1, .int x0), (2, .int x1), (3, .int x2)] [] w4_ 0 0
      refine mp_run mp_k_cX9_owed_ok hF mp_tabX9_ok [mp_i (.aload_n 0), mp_h (.getfield 32) [39, 0], mp_i (.iload_n 1), mp_i (.iload_n 2)] (by decide +kernel) ?_
      refine And.intro rfl (And.intro rfl ?_)
      show mp_W E X 4 37 [(0, .ref a0), (1, .int x0), (2, .int x1), (3, .int x2)] [.int x1, .int x0, .ref a13] w4_ 0 0
      refine mp_callV hF (As := [.int x0, .int x1]) (rest := []) (wr := [(mp_ob9 a0 a15 a1 a16 a13 a17 a18 a19 a20 a21), (mp_ob0 a1 a2 y0 a22 a23 a24 a10 a11 a12), (mp_ob7 a2 y1 y2 y3 y4 y5 y6 a25 a26 a27 a3 a28 a4 a5 a6 a7 a8 a9 a29), (mp_arI E a3 0 6 f0), (mp_arI E a4 0 10 f1), (mp_arI E a5 0 10 f2), (mp_arI E a6 0 10 f3), (mp_arI E a7 0 10 f4), (mp_arI E a8 0 10 f5), (mp_arI E a9 0 10 f6), (mp_arL E a10 20 f7), (mp_arI E a11 0 10 g_39), (mp_arI E a12 0 10 g_40)]) (bX1_debt_73 E a13 a14 a30 g_38 y4 y8 x0 x1 (by (first | exact c_5 | omega)) (by (first | exact mp_o398 u_y4 c_6 | omega)) (by (first | exact c_7 | omega)) (by (first | exact mp_o398 u_y4 c_8 | omega)) l_y4 u_y4) mp_lkX9_176 1 rfl [1, 2] [0, 3, 4, 5, 6, 7, 8, 9, 10, 11, 12, 13, 14] rfl rfl rfl rfl rfl ⟨(Nat.le_of_ble_eq_true rfl), (Nat.le_of_ble_eq_true rfl), (Nat.le_of_ble_eq_true rfl), (Nat.le_of_ble_eq_true rfl)⟩ (Nat.le_of_ble_eq_true rfl) (by first | exact mp_fd_ok mp_k_cX9_owed_ok (by decide +kernel) | decide +kernel) (fun v_41 w_42 h_43 => ?_)
      obtain ⟨r_44, rfl, rfl⟩ := h_43
      let w5_ : va_W := [(mp_ob9 a0 a15 a1 a16 a13 a17 a18 a19 a20 a21), (mp_ob0 a1 a2 y0 a22 a23 a24 a10 a11 a12), (mp_ob7 a2 y1 y2 y3 y4 y5 y6 a25 a26 a27 a3 a28 a4 a5 a6 a7 a8 a9 a29), (mp_arI E a3 0 6 f0), (mp_arI E a4 0 10 f1), (mp_arI E a5 0 10 f2), (mp_arI E a6 0 10 f3), (mp_arI E a7 0 10 f4), (mp_arI E a8 0 10 f5), (mp_arI E a9 0 10 f6), (mp_arL E a10 20 f7), (mp_arI E a11 0 10 g_39), (mp_arI E a12 0 10 g_40), (mp_ob1 a13 a14 y4 y8 a30), (mp_arI E a14 0 36 g_38)]
      show mp_W E X 4 40 [(0, .ref a0), (1, .int x0), (2, .int x1), (3, .int x2)] [.int r_44] w5_ 0 0
      exact mp_iret hF hQ rfl rfl (Nat.le_of_ble_eq_true rfl) (Nat.le_of_ble_eq_true rfl) [0, 1, 2, 3, 4, 5, 6, 7, 8, 9, 10, 11, 12, 13, 14] (w' := w5_) rfl rfl ⟨g_39, g_40, y4, g_38, r_44, rfl, l_y4, u_y4, rfl⟩ (by first | exact mp_fd_ok mp_k_cX9_owed_ok (by decide +kernel) | decide +kernel)
set_option maxHeartbeats 4000000 in
set_option maxRecDepth 100000 in
theorem bX1_due_75 (E : mp_E) (a0 a1 a2 : Nat) (f0 : Nat → Int32) (y0 : Int32) (y1 : Int32) (x0 : Int32) (l_x0 : 0 ≤ x0.toInt) (u_x0 : x0.toInt ≤ 5) (l_y0 : 0 ≤ y0.toInt) (u_y0 : y0.toInt ≤ 6) : mp_Ct E yX1_due cX1_due 4 (some FieldType.int) 1 0 0 22 [.ref a0, .int x0] [(mp_ob1 a0 a1 y0 y1 a2), (mp_arI E a1 0 36 f0)] (fun v w' => ∃ r1 : Int32, v = some (.int r1) ∧ w' = [(mp_ob1 a0 a1 y0 y1 a2), (mp_arI E a1 0 36 f0)]) := by
  refine mp_met false (by decide) (by decide) (Nat.le_of_ble_eq_true rfl) (fun X hF hQ => ?_)
  have hF : mp_F E X (RX1, cX1_due, 4, (1, 0, 0, 22), (some FieldType.int), false) := hF
  show mp_W E X 4 0 [(0, .ref a0), (1, .int x0)] [] [(mp_ob1 a0 a1 y0 y1 a2), (mp_arI E a1 0 36 f0)] 0 0
  refine mp_run mp_k_cX1_due_ok hF mp_tabX1_ok [mp_c (.iconst 0) 0, mp_i (.istore_n 2), mp_c (.iconst 0) 0, mp_i (.istore_n 3)] (by decide +kernel) ?_
  show mp_W E X 4 4 [(3, .int 0), (2, .int 0), (0, .ref a0), (1, .int x0)] [] [(mp_ob1 a0 a1 y0 y1 a2), (mp_arI E a1 0 36 f0)] 0 0
  have lp_5 : ∀ (d_6 : Nat) (i_1 : Int32) (i_2 : Int32), 0 ≤ i_1.toInt → i_1.toInt ≤ 6 → y0.toInt - i_1.toInt ≤ (d_6 : Int) → mp_W E X 4 4 [(3, .int i_1), (2, .int i_2), (0, .ref a0), (1, .int x0)] [] [(mp_ob1 a0 a1 y0 y1 a2), (mp_arI E a1 0 36 f0)] 0 0 := by
    intro d_6
    induction d_6 using Nat.strongRecOn with
    | ind d_6 ih_7 =>
      intro i_1 i_2 l_3 u_4 hm_8
      refine mp_run mp_k_cX1_due_ok hF mp_tabX1_ok [mp_i (.iload_n 3), mp_i (.aload_n 0), mp_h (.getfield 34) [6, 0], mp_h (.if_icmp .ge 18) [27]] (by decide +kernel) ?_
      refine And.intro rfl (And.intro rfl ?_)
      refine And.intro (fun c_9 => ?_) (fun c_9 => ?_)
      · have c_9 : y0.toInt ≤ i_1.toInt := c_9
        show mp_W E X 4 27 [(3, .int i_1), (2, .int i_2), (0, .ref a0), (1, .int x0)] [] [(mp_ob1 a0 a1 y0 y1 a2), (mp_arI E a1 0 36 f0)] 0 0
        refine mp_run mp_k_cX1_due_ok hF mp_tabX1_ok [mp_i (.iload_n 2)] (by decide +kernel) ?_
        show mp_W E X 4 28 [(3, .int i_1), (2, .int i_2), (0, .ref a0), (1, .int x0)] [.int i_2] [(mp_ob1 a0 a1 y0 y1 a2), (mp_arI E a1 0 36 f0)] 0 0
        exact mp_iret hF hQ rfl rfl (Nat.le_of_ble_eq_true rfl) (Nat.le_of_ble_eq_true rfl) [0, 1] (w' := [(mp_ob1 a0 a1 y0 y1 a2), (mp_arI E a1 0 36 f0)]) rfl rfl ⟨i_2, rfl, rfl⟩ (by first | exact mp_fd_ok mp_k_cX1_due_ok (by decide +kernel) | decide +kernel)
      · have c_9 : i_1.toInt < y0.toInt := c_9
        show mp_W E X 4 12 [(3, .int i_1), (2, .int i_2), (0, .ref a0), (1, .int x0)] [] [(mp_ob1 a0 a1 y0 y1 a2), (mp_arI E a1 0 36 f0)] 0 0
        refine mp_run mp_k_cX1_due_ok hF mp_tabX1_ok [mp_i (.iload_n 2), mp_i (.aload_n 0), mp_i (.iload_n 3), mp_i (.iload_n 1)] (by decide +kernel) ?_
        show mp_W E X 4 16 [(3, .int i_1), (2, .int i_2), (0, .ref a0), (1, .int x0)] [.int x0, .int i_1, .ref a0, .int i_2] [(mp_ob1 a0 a1 y0 y1 a2), (mp_arI E a1 0 36 f0)] 0 0
        refine mp_callV hF (As := [.int i_1, .int x0]) (rest := [.int i_2]) (wr := []) (bX1_debt_73 E a0 a1 a2 f0 y0 y1 i_1 x0 l_3 (by (first | exact mp_o398 u_y0 c_9 | omega)) l_x0 u_x0 l_y0 u_y0) mp_lkX1_50 0 rfl [0, 1] [] rfl rfl rfl rfl rfl ⟨(Nat.le_of_ble_eq_true rfl), (Nat.le_of_ble_eq_true rfl), (Nat.le_of_ble_eq_true rfl), (Nat.le_of_ble_eq_true rfl)⟩ (Nat.le_of_ble_eq_true rfl) (by first | exact mp_fd_ok mp_k_cX1_due_ok (by decide +kernel) | decide +kernel) (fun v_10 w_11 h_12 => ?_)
        obtain ⟨r_13, rfl, rfl⟩ := h_12
        show mp_W E X 4 19 [(3, .int i_1), (2, .int i_2), (0, .ref a0), (1, .int x0)] [.int r_13, .int i_2] [(mp_ob1 a0 a1 y0 y1 a2), (mp_arI E a1 0 36 f0)] 0 0
        refine mp_run mp_k_cX1_due_ok hF mp_tabX1_ok [mp_i .iadd, mp_i (.istore_n 2), mp_c (.iinc 3 1) 1, mp_h (.goto (-20)) [4]] (by decide +kernel) ?_
        intro z_14 h_15
        intro z_17 h_18
        have e_19 : z_17.toInt = i_1.toInt + 1 := mp_add (a := i_1.toInt) (b := 1) h_18 rfl (by decide) (by (first | exact mp_o2 l_3 | omega)) (by (first | exact mp_o351 u_4 | omega))
        show mp_W E X 4 4 [(3, .int z_17), (2, .int z_14), (0, .ref a0), (1, .int x0)] [] [(mp_ob1 a0 a1 y0 y1 a2), (mp_arI E a1 0 36 f0)] 0 0
        exact mp_sub [0, 1, 2, 3] rfl [0, 1] rfl rfl (ih_7 (d_6 - 1) (by (first | exact mp_o72 hm_8 c_9 | omega)) z_17 z_14 (by (first | exact mp_o51 l_3 e_19 | omega)) (by (first | exact mp_o352 u_y0 c_9 e_19 | omega)) (by (first | exact mp_o77 hm_8 e_19 | omega)))
  exact mp_sub [0, 1, 2, 3] rfl [0, 1] rfl rfl (lp_5 _ 0 0 (by decide) (by decide) (Int.self_le_toNat _))
set_option maxHeartbeats 4000000 in
set_option maxRecDepth 100000 in
theorem bX1_owing_76 (E : mp_E) (a0 a1 a2 : Nat) (f0 : Nat → Int32) (y0 : Int32) (y1 : Int32) (x0 : Int32) (l_x0 : 0 ≤ x0.toInt) (u_x0 : x0.toInt ≤ 5) (l_y0 : 0 ≤ y0.toInt) (u_y0 : y0.toInt ≤ 6) : mp_Ct E yX1_owing cX1_owing 4 (some FieldType.int) 1 0 0 22 [.ref a0, .int x0] [(mp_ob1 a0 a1 y0 y1 a2), (mp_arI E a1 0 36 f0)] (fun v w' => ∃ r1 : Int32, v = some (.int r1) ∧ w' = [(mp_ob1 a0 a1 y0 y1 a2), (mp_arI E a1 0 36 f0)]) := by
  refine mp_met false (by decide) (by decide) (Nat.le_of_ble_eq_true rfl) (fun X hF hQ => ?_)
  have hF : mp_F E X (RX1, cX1_owing, 4, (1, 0, 0, 22), (some FieldType.int), false) := hF
  show mp_W E X 4 0 [(0, .ref a0), (1, .int x0)] [] [(mp_ob1 a0 a1 y0 y1 a2), (mp_arI E a1 0 36 f0)] 0 0
  refine mp_run mp_k_cX1_owing_ok hF mp_tabX1_ok [mp_c (.iconst 0) 0, mp_i (.istore_n 2), mp_c (.iconst 0) 0, mp_i (.istore_n 3)] (by decide +kernel) ?_
  show mp_W E X 4 4 [(3, .int 0), (2, .int 0), (0, .ref a0), (1, .int x0)] [] [(mp_ob1 a0 a1 y0 y1 a2), (mp_arI E a1 0 36 f0)] 0 0
  have lp_5 : ∀ (d_6 : Nat) (i_1 : Int32) (i_2 : Int32), 0 ≤ i_1.toInt → i_1.toInt ≤ 6 → y0.toInt - i_1.toInt ≤ (d_6 : Int) → mp_W E X 4 4 [(3, .int i_1), (2, .int i_2), (0, .ref a0), (1, .int x0)] [] [(mp_ob1 a0 a1 y0 y1 a2), (mp_arI E a1 0 36 f0)] 0 0 := by
    intro d_6
    induction d_6 using Nat.strongRecOn with
    | ind d_6 ih_7 =>
      intro i_1 i_2 l_3 u_4 hm_8
      refine mp_run mp_k_cX1_owing_ok hF mp_tabX1_ok [mp_i (.iload_n 3), mp_i (.aload_n 0), mp_h (.getfield 34) [6, 0], mp_h (.if_icmp .ge 18) [27]] (by decide +kernel) ?_
      refine And.intro rfl (And.intro rfl ?_)
      refine And.intro (fun c_9 => ?_) (fun c_9 => ?_)
      · have c_9 : y0.toInt ≤ i_1.toInt := c_9
        show mp_W E X 4 27 [(3, .int i_1), (2, .int i_2), (0, .ref a0), (1, .int x0)] [] [(mp_ob1 a0 a1 y0 y1 a2), (mp_arI E a1 0 36 f0)] 0 0
        refine mp_run mp_k_cX1_owing_ok hF mp_tabX1_ok [mp_i (.iload_n 2)] (by decide +kernel) ?_
        show mp_W E X 4 28 [(3, .int i_1), (2, .int i_2), (0, .ref a0), (1, .int x0)] [.int i_2] [(mp_ob1 a0 a1 y0 y1 a2), (mp_arI E a1 0 36 f0)] 0 0
        exact mp_iret hF hQ rfl rfl (Nat.le_of_ble_eq_true rfl) (Nat.le_of_ble_eq_true rfl) [0, 1] (w' := [(mp_ob1 a0 a1 y0 y1 a2), (mp_arI E a1 0 36 f0)]) rfl rfl ⟨i_2, rfl, rfl⟩ (by first | exact mp_fd_ok mp_k_cX1_owing_ok (by decide +kernel) | decide +kernel)
      · have c_9 : i_1.toInt < y0.toInt := c_9
        show mp_W E X 4 12 [(3, .int i_1), (2, .int i_2), (0, .ref a0), (1, .int x0)] [] [(mp_ob1 a0 a1 y0 y1 a2), (mp_arI E a1 0 36 f0)] 0 0
        refine mp_run mp_k_cX1_owing_ok hF mp_tabX1_ok [mp_i (.iload_n 2), mp_i (.aload_n 0), mp_i (.iload_n 1), mp_i (.iload_n 3)] (by decide +kernel) ?_
        show mp_W E X 4 16 [(3, .int i_1), (2, .int i_2), (0, .ref a0), (1, .int x0)] [.int i_1, .int x0, .ref a0, .int i_2] [(mp_ob1 a0 a1 y0 y1 a2), (mp_arI E a1 0 36 f0)] 0 0
        refine mp_callV hF (As := [.int x0, .int i_1]) (rest := [.int i_2]) (wr := []) (bX1_debt_73 E a0 a1 a2 f0 y0 y1 x0 i_1 l_x0 u_x0 l_3 (by (first | exact mp_o398 u_y0 c_9 | omega)) l_y0 u_y0) mp_lkX1_50 0 rfl [0, 1] [] rfl rfl rfl rfl rfl ⟨(Nat.le_of_ble_eq_true rfl), (Nat.le_of_ble_eq_true rfl), (Nat.le_of_ble_eq_true rfl), (Nat.le_of_ble_eq_true rfl)⟩ (Nat.le_of_ble_eq_true rfl) (by first | exact mp_fd_ok mp_k_cX1_owing_ok (by decide +kernel) | decide +kernel) (fun v_10 w_11 h_12 => ?_)
        obtain ⟨r_13, rfl, rfl⟩ := h_12
        show mp_W E X 4 19 [(3, .int i_1), (2, .int i_2), (0, .ref a0), (1, .int x0)] [.int r_13, .int i_2] [(mp_ob1 a0 a1 y0 y1 a2), (mp_arI E a1 0 36 f0)] 0 0
        refine mp_run mp_k_cX1_owing_ok hF mp_tabX1_ok [mp_i .iadd, mp_i (.istore_n 2), mp_c (.iinc 3 1) 1, mp_h (.goto (-20)) [4]] (by decide +kernel) ?_
        intro z_14 h_15
        intro z_17 h_18
        have e_19 : z_17.toInt = i_1.toInt + 1 := mp_add (a := i_1.toInt) (b := 1) h_18 rfl (by decide) (by (first | exact mp_o2 l_3 | omega)) (by (first | exact mp_o351 u_4 | omega))
        show mp_W E X 4 4 [(3, .int z_17), (2, .int z_14), (0, .ref a0), (1, .int x0)] [] [(mp_ob1 a0 a1 y0 y1 a2), (mp_arI E a1 0 36 f0)] 0 0
        exact mp_sub [0, 1, 2, 3] rfl [0, 1] rfl rfl (ih_7 (d_6 - 1) (by (first | exact mp_o72 hm_8 c_9 | omega)) z_17 z_14 (by (first | exact mp_o51 l_3 e_19 | omega)) (by (first | exact mp_o352 u_y0 c_9 e_19 | omega)) (by (first | exact mp_o77 hm_8 e_19 | omega)))
  exact mp_sub [0, 1, 2, 3] rfl [0, 1] rfl rfl (lp_5 _ 0 0 (by decide) (by decide) (Int.self_le_toNat _))
set_option maxHeartbeats 4000000 in
set_option maxRecDepth 100000 in
theorem bX9_sum_77 (E : mp_E) (a0 a1 a2 a3 a4 a5 a6 a7 a8 a9 a10 a11 a12 a13 a14 a15 a16 a17 a18 a19 a20 a21 a22 a23 a24 a25 a26 a27 a28 a29 a30 : Nat) (f0 : Nat → Int32) (f1 : Nat → Int32) (f2 : Nat → Int32) (f3 : Nat → Int32) (f4 : Nat → Int32) (f5 : Nat → Int32) (f6 : Nat → Int32) (f7 : Nat → Int64) (f8 : Nat → Int32) (f9 : Nat → Int32) (f10 : Nat → Int32) (y0 : Int32) (y1 : Int32) (y2 : Int32) (y3 : Int32) (y4 : Int32) (y5 : Int32) (y6 : Int32) (y7 : Int32) (y8 : Int32) (x0 : Int32) (x1 : Int32) (x2 : Int32) (p0 : mp_all f1 10 0 5) (p1 : mp_all f2 10 0 5) (p2 : mp_all f4 10 0 99) (p3 : mp_all f5 10 0 1) (p4 : mp_all f6 10 (-1) 9) (l_y0 : 0 ≤ y0.toInt) (u_y0 : y0.toInt ≤ 99) (l_y2 : 0 ≤ y2.toInt) (u_y2 : y2.toInt ≤ 6) (l_y3 : 0 ≤ y3.toInt) (u_y3 : y3.toInt ≤ 99) (l_y4 : 0 ≤ y4.toInt) (u_y4 : y4.toInt ≤ 6) (l_y5 : 0 ≤ y5.toInt) (u_y5 : y5.toInt ≤ 10) (l_y6 : 0 ≤ y6.toInt) (u_y6 : y6.toInt ≤ 60) (l_y7 : 0 ≤ y7.toInt) (u_y7 : y7.toInt ≤ 6) : mp_Ct E yX9_sum cX9_sum 4 (some FieldType.int) 5 0 0 122 [.ref a0, .int x0, .int x1, .int x2] [(mp_ob9 a0 a15 a1 a16 a13 a17 a18 a19 a20 a21), (mp_ob0 a1 a2 y0 a22 a23 a24 a10 a11 a12), (mp_ob7 a2 y1 y2 y3 y4 y5 y6 a25 a26 a27 a3 a28 a4 a5 a6 a7 a8 a9 a29), (mp_arI E a3 0 6 f0), (mp_arI E a4 0 10 f1), (mp_arI E a5 0 10 f2), (mp_arI E a6 0 10 f3), (mp_arI E a7 0 10 f4), (mp_arI E a8 0 10 f5), (mp_arI E a9 0 10 f6), (mp_arL E a10 20 f7), (mp_arI E a11 0 10 f8), (mp_arI E a12 0 10 f9), (mp_ob1 a13 a14 y7 y8 a30), (mp_arI E a14 0 36 f10)] (fun v w' => ∃ h1 : Nat → Int32, ∃ h2 : Nat → Int32, ∃ r3 : Int32, ∃ h4 : Nat → Int32, ∃ r5 : Int32, v = some (.int r5) ∧ 0 ≤ r3.toInt ∧ r3.toInt ≤ 6 ∧ w' = [(mp_ob9 a0 a15 a1 a16 a13 a17 a18 a19 a20 a21), (mp_ob0 a1 a2 y0 a22 a23 a24 a10 a11 a12), (mp_ob7 a2 y1 y2 y3 y4 y5 y6 a25 a26 a27 a3 a28 a4 a5 a6 a7 a8 a9 a29), (mp_arI E a3 0 6 f0), (mp_arI E a4 0 10 f1), (mp_arI E a5 0 10 f2), (mp_arI E a6 0 10 f3), (mp_arI E a7 0 10 f4), (mp_arI E a8 0 10 f5), (mp_arI E a9 0 10 f6), (mp_arL E a10 20 f7), (mp_arI E a11 0 10 h1), (mp_arI E a12 0 10 h2), (mp_ob1 a13 a14 r3 y8 a30), (mp_arI E a14 0 36 h4)]) := by
  refine mp_met false (by decide) (by decide) (Nat.le_of_ble_eq_true rfl) (fun X hF hQ => ?_)
  have hF : mp_F E X (RX9, cX9_sum, 4, (5, 0, 0, 122), (some FieldType.int), false) := hF
  let w1_ : va_W := [(mp_ob9 a0 a15 a1 a16 a13 a17 a18 a19 a20 a21), (mp_ob0 a1 a2 y0 a22 a23 a24 a10 a11 a12), (mp_ob7 a2 y1 y2 y3 y4 y5 y6 a25 a26 a27 a3 a28 a4 a5 a6 a7 a8 a9 a29), (mp_arI E a3 0 6 f0), (mp_arI E a4 0 10 f1), (mp_arI E a5 0 10 f2), (mp_arI E a6 0 10 f3), (mp_arI E a7 0 10 f4), (mp_arI E a8 0 10 f5), (mp_arI E a9 0 10 f6), (mp_arL E a10 20 f7), (mp_arI E a11 0 10 f8), (mp_arI E a12 0 10 f9), (mp_ob1 a13 a14 y7 y8 a30), (mp_arI E a14 0 36 f10)]
  show mp_W E X 4 0 [(0, .ref a0), (1, .int x0), (2, .int x1), (3, .int x2)] [] w1_ 0 0
  refine mp_run mp_k_cX9_sum_ok hF mp_tabX9_ok [mp_i (.aload_n 0), mp_h (.getfield 19) [37, 0], mp_h (.getfield 83) [20, 1], mp_i (.iload_n 1)] (by decide +kernel) ?_
  refine And.intro rfl (And.intro rfl ?_)
  refine And.intro rfl (And.intro rfl ?_)
  show mp_W E X 4 8 [(0, .ref a0), (1, .int x0), (2, .int x1), (3, .int x2)] [.int x0, .ref a2] w1_ 0 0
  refine mp_callV hF (As := [.int x0]) (rest := []) (wr := [(mp_ob9 a0 a15 a1 a16 a13 a17 a18 a19 a20 a21), (mp_ob0 a1 a2 y0 a22 a23 a24 a10 a11 a12), (mp_arI E a3 0 6 f0), (mp_arI E a4 0 10 f1), (mp_arI E a5 0 10 f2), (mp_arI E a6 0 10 f3), (mp_arI E a7 0 10 f4), (mp_arI E a8 0 10 f5), (mp_arI E a9 0 10 f6), (mp_arL E a10 20 f7), (mp_arI E a11 0 10 f8), (mp_arI E a12 0 10 f9), (mp_ob1 a13 a14 y7 y8 a30), (mp_arI E a14 0 36 f10)]) (bX7_isPerson_51 E a2 a25 a26 a27 a3 a28 a4 a5 a6 a7 a8 a9 a29 y1 y2 y3 y4 y5 y6 x0 l_y2 u_y2 l_y3 u_y3 l_y4 u_y4 l_y5 u_y5 l_y6 u_y6) mp_lkX9_106 2 rfl [2] [0, 1, 3, 4, 5, 6, 7, 8, 9, 10, 11, 12, 13, 14] rfl rfl rfl rfl rfl ⟨(Nat.le_of_ble_eq_true rfl), (Nat.le_of_ble_eq_true rfl), (Nat.le_of_ble_eq_true rfl), (Nat.le_of_ble_eq_true rfl)⟩ (Nat.le_of_ble_eq_true rfl) (by first | exact mp_fd_ok mp_k_cX9_sum_ok (by decide +kernel) | decide +kernel) (fun v_1 w_2 h_3 => ?_)
  rcases h_3 with ⟨rfl, x_4, rfl⟩ | ⟨rfl, c_5, c_6, x_7, rfl⟩
  · skip
    let w2_ : va_W := [(mp_ob9 a0 a15 a1 a16 a13 a17 a18 a19 a20 a21), (mp_ob0 a1 a2 y0 a22 a23 a24 a10 a11 a12), (mp_arI E a3 0 6 f0), (mp_arI E a4 0 10 f1), (mp_arI E a5 0 10 f2), (mp_arI E a6 0 10 f3), (mp_arI E a7 0 10 f4), (mp_arI E a8 0 10 f5), (mp_arI E a9 0 10 f6), (mp_arL E a10 20 f7), (mp_arI E a11 0 10 f8), (mp_arI E a12 0 10 f9), (mp_ob1 a13 a14 y7 y8 a30), (mp_arI E a14 0 36 f10), (mp_ob7 a2 y1 y2 y3 y4 y5 y6 a25 a26 a27 a3 a28 a4 a5 a6 a7 a8 a9 a29)]
    show mp_W E X 4 11 [(0, .ref a0), (1, .int x0), (2, .int x1), (3, .int x2)] [.int 0] w2_ 0 0
    refine mp_run mp_k_cX9_sum_ok hF mp_tabX9_ok [mp_h (.ifCond .eq 19) [30]] (by decide +kernel) ?_
    refine And.intro (fun _ => ?_) (fun c_8 => absurd c_8 (by decide))
    show mp_W E X 4 30 [(0, .ref a0), (1, .int x0), (2, .int x1), (3, .int x2)] [] w2_ 0 0
    refine mp_run mp_k_cX9_sum_ok hF mp_tabX9_ok [mp_c (.ldc 179) (-2000000000)] (by decide +kernel) ?_
    show mp_W E X 4 32 [(0, .ref a0), (1, .int x0), (2, .int x1), (3, .int x2)] [.int (-2000000000)] w2_ 0 0
    exact mp_iret hF hQ rfl rfl (Nat.le_of_ble_eq_true rfl) (Nat.le_of_ble_eq_true rfl) [0, 1, 14, 2, 3, 4, 5, 6, 7, 8, 9, 10, 11, 12, 13] (w' := w1_) rfl rfl ⟨f8, f9, y7, f10, (-2000000000), rfl, l_y7, u_y7, rfl⟩ (by first | exact mp_fd_ok mp_k_cX9_sum_ok (by decide +kernel) | decide +kernel)
  · skip
    have c_5 : 0 ≤ x0.toInt := c_5
    have c_6 : x0.toInt < y4.toInt := c_6
    let w3_ : va_W := [(mp_ob9 a0 a15 a1 a16 a13 a17 a18 a19 a20 a21), (mp_ob0 a1 a2 y0 a22 a23 a24 a10 a11 a12), (mp_arI E a3 0 6 f0), (mp_arI E a4 0 10 f1), (mp_arI E a5 0 10 f2), (mp_arI E a6 0 10 f3), (mp_arI E a7 0 10 f4), (mp_arI E a8 0 10 f5), (mp_arI E a9 0 10 f6), (mp_arL E a10 20 f7), (mp_arI E a11 0 10 f8), (mp_arI E a12 0 10 f9), (mp_ob1 a13 a14 y7 y8 a30), (mp_arI E a14 0 36 f10), (mp_ob7 a2 y1 y2 y3 y4 y5 y6 a25 a26 a27 a3 a28 a4 a5 a6 a7 a8 a9 a29)]
    show mp_W E X 4 11 [(0, .ref a0), (1, .int x0), (2, .int x1), (3, .int x2)] [.int 1] w3_ 0 0
    refine mp_run mp_k_cX9_sum_ok hF mp_tabX9_ok [mp_h (.ifCond .eq 19) [30]] (by decide +kernel) ?_
    refine And.intro (fun c_9 => absurd c_9 (by decide)) (fun _ => ?_)
    show mp_W E X 4 14 [(0, .ref a0), (1, .int x0), (2, .int x1), (3, .int x2)] [] w3_ 0 0
    refine mp_run mp_k_cX9_sum_ok hF mp_tabX9_ok [mp_i (.iload_n 2)] (by decide +kernel) ?_
    show mp_W E X 4 15 [(0, .ref a0), (1, .int x0), (2, .int x1), (3, .int x2)] [.int x1] w3_ 0 0
    refine mp_callS hF (As := [.int x1]) (rest := []) (wr := w3_) (bX9_isMoon_57 E x1) mp_lkX9_148 [] [0, 1, 2, 3, 4, 5, 6, 7, 8, 9, 10, 11, 12, 13, 14] rfl rfl rfl rfl rfl ⟨(Nat.le_of_ble_eq_true rfl), (Nat.le_of_ble_eq_true rfl), (Nat.le_of_ble_eq_true rfl), (Nat.le_of_ble_eq_true rfl)⟩ (Nat.le_of_ble_eq_true rfl) (by first | exact mp_fd_ok mp_k_cX9_sum_ok (by decide +kernel) | decide +kernel) (fun v_10 w_11 h_12 => ?_)
    rcases h_12 with ⟨rfl, x_13, rfl⟩ | ⟨rfl, c_14, c_15, x_16, rfl⟩
    · skip
      show mp_W E X 4 18 [(0, .ref a0), (1, .int x0), (2, .int x1), (3, .int x2)] [.int 0] w3_ 0 0
      refine mp_run mp_k_cX9_sum_ok hF mp_tabX9_ok [mp_h (.ifCond .eq 12) [30]] (by decide +kernel) ?_
      refine And.intro (fun _ => ?_) (fun c_17 => absurd c_17 (by decide))
      show mp_W E X 4 30 [(0, .ref a0), (1, .int x0), (2, .int x1), (3, .int x2)] [] w3_ 0 0
      refine mp_run mp_k_cX9_sum_ok hF mp_tabX9_ok [mp_c (.ldc 179) (-2000000000)] (by decide +kernel) ?_
      show mp_W E X 4 32 [(0, .ref a0), (1, .int x0), (2, .int x1), (3, .int x2)] [.int (-2000000000)] w3_ 0 0
      exact mp_iret hF hQ rfl rfl (Nat.le_of_ble_eq_true rfl) (Nat.le_of_ble_eq_true rfl) [0, 1, 14, 2, 3, 4, 5, 6, 7, 8, 9, 10, 11, 12, 13] (w' := w1_) rfl rfl ⟨f8, f9, y7, f10, (-2000000000), rfl, l_y7, u_y7, rfl⟩ (by first | exact mp_fd_ok mp_k_cX9_sum_ok (by decide +kernel) | decide +kernel)
    · skip
      have c_14 : 0 ≤ x1.toInt := c_14
      have c_15 : x1.toInt ≤ 99 := c_15
      show mp_W E X 4 18 [(0, .ref a0), (1, .int x0), (2, .int x1), (3, .int x2)] [.int 1] w3_ 0 0
      refine mp_run mp_k_cX9_sum_ok hF mp_tabX9_ok [mp_h (.ifCond .eq 12) [30]] (by decide +kernel) ?_
      refine And.intro (fun c_18 => absurd c_18 (by decide)) (fun _ => ?_)
      show mp_W E X 4 21 [(0, .ref a0), (1, .int x0), (2, .int x1), (3, .int x2)] [] w3_ 0 0
      refine mp_run mp_k_cX9_sum_ok hF mp_tabX9_ok [mp_i (.iload_n 3), mp_h (.ifCond .lt 8) [30]] (by decide +kernel) ?_
      refine And.intro (fun c_19 => ?_) (fun c_19 => ?_)
      · have c_19 : x2.toInt < 0 := c_19
        show mp_W E X 4 30 [(0, .ref a0), (1, .int x0), (2, .int x1), (3, .int x2)] [] w3_ 0 0
        refine mp_run mp_k_cX9_sum_ok hF mp_tabX9_ok [mp_c (.ldc 179) (-2000000000)] (by decide +kernel) ?_
        show mp_W E X 4 32 [(0, .ref a0), (1, .int x0), (2, .int x1), (3, .int x2)] [.int (-2000000000)] w3_ 0 0
        exact mp_iret hF hQ rfl rfl (Nat.le_of_ble_eq_true rfl) (Nat.le_of_ble_eq_true rfl) [0, 1, 14, 2, 3, 4, 5, 6, 7, 8, 9, 10, 11, 12, 13] (w' := w1_) rfl rfl ⟨f8, f9, y7, f10, (-2000000000), rfl, l_y7, u_y7, rfl⟩ (by first | exact mp_fd_ok mp_k_cX9_sum_ok (by decide +kernel) | decide +kernel)
      · have c_19 : 0 ≤ x2.toInt := c_19
        show mp_W E X 4 25 [(0, .ref a0), (1, .int x0), (2, .int x1), (3, .int x2)] [] w3_ 0 0
        refine mp_run mp_k_cX9_sum_ok hF mp_tabX9_ok [mp_i (.iload_n 3), mp_c (.iconst 2) 2, mp_h (.if_icmp .le 6) [33]] (by decide +kernel) ?_
        refine And.intro (fun c_20 => ?_) (fun c_20 => ?_)
        · have c_20 : x2.toInt ≤ 2 := c_20
          show mp_W E X 4 33 [(0, .ref a0), (1, .int x0), (2, .int x1), (3, .int x2)] [] w3_ 0 0
          refine mp_run mp_k_cX9_sum_ok hF mp_tabX9_ok [mp_i (.aload_n 0), mp_h (.getfield 32) [39, 0], mp_i (.aload_n 0), mp_h (.getfield 19) [37, 0], mp_i (.iload_n 2)] (by decide +kernel) ?_
          refine And.intro rfl (And.intro rfl ?_)
          refine And.intro rfl (And.intro rfl ?_)
          show mp_W E X 4 42 [(0, .ref a0), (1, .int x0), (2, .int x1), (3, .int x2)] [.int x1, .ref a1, .ref a13] w3_ 0 0
          refine mp_callV hF (As := [.ref a1, .int x1]) (rest := []) (wr := [(mp_ob9 a0 a15 a1 a16 a13 a17 a18 a19 a20 a21)]) (bX1_fill_72 E a13 a1 a14 a2 a3 a4 a5 a6 a7 a8 a9 a10 a11 a12 a30 a22 a23 a24 a25 a26 a27 a28 a29 f10 f0 f1 f2 f3 f4 f5 f6 f7 f8 f9 y7 y8 y0 y1 y2 y3 y4 y5 y6 x1 p0 p1 p2 p3 p4 l_y7 u_y7 l_y0 u_y0 l_y2 u_y2 l_y3 u_y3 l_y4 u_y4 l_y5 u_y5 l_y6 u_y6) mp_lkX9_172 12 rfl [12, 13, 1, 14, 2, 3, 4, 5, 6, 7, 8, 9, 10, 11] [0] rfl rfl rfl rfl rfl ⟨(Nat.le_of_ble_eq_true rfl), (Nat.le_of_ble_eq_true rfl), (Nat.le_of_ble_eq_true rfl), (Nat.le_of_ble_eq_true rfl)⟩ (Nat.le_of_ble_eq_true rfl) (by first | exact mp_fd_ok mp_k_cX9_sum_ok (by decide +kernel) | decide +kernel) (fun v_21 w_22 h_23 => ?_)
          obtain ⟨g_24, g_25, g_26, rfl, rfl⟩ := h_23
          let w4_ : va_W := [(mp_ob9 a0 a15 a1 a16 a13 a17 a18 a19 a20 a21), (mp_ob1 a13 a14 y4 y8 a30), (mp_arI E a14 0 36 g_24), (mp_ob0 a1 a2 y0 a22 a23 a24 a10 a11 a12), (mp_ob7 a2 y1 y2 y3 y4 y5 y6 a25 a26 a27 a3 a28 a4 a5 a6 a7 a8 a9 a29), (mp_arI E a3 0 6 f0), (mp_arI E a4 0 10 f1), (mp_arI E a5 0 10 f2), (mp_arI E a6 0 10 f3), (mp_arI E a7 0 10 f4), (mp_arI E a8 0 10 f5), (mp_arI E a9 0 10 f6), (mp_arL E a10 20 f7), (mp_arI E a11 0 10 g_25), (mp_arI E a12 0 10 g_26)]
          show mp_W E X 4 45 [(0, .ref a0), (1, .int x0), (2, .int x1), (3, .int x2)] [] w4_ 0 0
          refine mp_run mp_k_cX9_sum_ok hF mp_tabX9_ok [mp_i (.iload_n 3), mp_h (.ifCond .ne 12) [58]] (by decide +kernel) ?_
          refine And.intro (fun c_27 => ?_) (fun c_27 => ?_)
          · have c_27 : x2.toInt ≠ 0 := c_27
            show mp_W E X 4 58 [(0, .ref a0), (1, .int x0), (2, .int x1), (3, .int x2)] [] w4_ 0 0
            refine mp_run mp_k_cX9_sum_ok hF mp_tabX9_ok [mp_i (.iload_n 3), mp_c (.iconst 1) 1, mp_h (.if_icmp .ne 14) [74]] (by decide +kernel) ?_
            refine And.intro (fun c_28 => ?_) (fun c_28 => ?_)
            · have c_28 : x2.toInt ≠ 1 := c_28
              show mp_W E X 4 74 [(0, .ref a0), (1, .int x0), (2, .int x1), (3, .int x2)] [] w4_ 0 0
              refine mp_run mp_k_cX9_sum_ok hF mp_tabX9_ok [mp_i (.aload_n 0), mp_h (.getfield 32) [39, 0], mp_i (.iload_n 1)] (by decide +kernel) ?_
              refine And.intro rfl (And.intro rfl ?_)
              show mp_W E X 4 79 [(0, .ref a0), (1, .int x0), (2, .int x1), (3, .int x2)] [.int x0, .ref a13] w4_ 0 0
              refine mp_callV hF (As := [.int x0]) (rest := []) (wr := [(mp_ob9 a0 a15 a1 a16 a13 a17 a18 a19 a20 a21), (mp_ob0 a1 a2 y0 a22 a23 a24 a10 a11 a12), (mp_ob7 a2 y1 y2 y3 y4 y5 y6 a25 a26 a27 a3 a28 a4 a5 a6 a7 a8 a9 a29), (mp_arI E a3 0 6 f0), (mp_arI E a4 0 10 f1), (mp_arI E a5 0 10 f2), (mp_arI E a6 0 10 f3), (mp_arI E a7 0 10 f4), (mp_arI E a8 0 10 f5), (mp_arI E a9 0 10 f6), (mp_arL E a10 20 f7), (mp_arI E a11 0 10 g_25), (mp_arI E a12 0 10 g_26)]) (bX1_due_75 E a13 a14 a30 g_24 y4 y8 x0 (by (first | exact c_5 | omega)) (by (first | exact mp_o398 u_y4 c_6 | omega)) l_y4 u_y4) mp_lkX9_184 1 rfl [1, 2] [0, 3, 4, 5, 6, 7, 8, 9, 10, 11, 12, 13, 14] rfl rfl rfl rfl rfl ⟨(Nat.le_of_ble_eq_true rfl), (Nat.le_of_ble_eq_true rfl), (Nat.le_of_ble_eq_true rfl), (Nat.le_of_ble_eq_true rfl)⟩ (Nat.le_of_ble_eq_true rfl) (by first | exact mp_fd_ok mp_k_cX9_sum_ok (by decide +kernel) | decide +kernel) (fun v_29 w_30 h_31 => ?_)
              obtain ⟨r_32, rfl, rfl⟩ := h_31
              let w5_ : va_W := [(mp_ob9 a0 a15 a1 a16 a13 a17 a18 a19 a20 a21), (mp_ob0 a1 a2 y0 a22 a23 a24 a10 a11 a12), (mp_ob7 a2 y1 y2 y3 y4 y5 y6 a25 a26 a27 a3 a28 a4 a5 a6 a7 a8 a9 a29), (mp_arI E a3 0 6 f0), (mp_arI E a4 0 10 f1), (mp_arI E a5 0 10 f2), (mp_arI E a6 0 10 f3), (mp_arI E a7 0 10 f4), (mp_arI E a8 0 10 f5), (mp_arI E a9 0 10 f6), (mp_arL E a10 20 f7), (mp_arI E a11 0 10 g_25), (mp_arI E a12 0 10 g_26), (mp_ob1 a13 a14 y4 y8 a30), (mp_arI E a14 0 36 g_24)]
              show mp_W E X 4 82 [(0, .ref a0), (1, .int x0), (2, .int x1), (3, .int x2)] [.int r_32] w5_ 0 0
              refine mp_run mp_k_cX9_sum_ok hF mp_tabX9_ok [mp_i (.aload_n 0), mp_h (.getfield 32) [39, 0], mp_i (.iload_n 1)] (by decide +kernel) ?_
              refine And.intro rfl (And.intro rfl ?_)
              show mp_W E X 4 87 [(0, .ref a0), (1, .int x0), (2, .int x1), (3, .int x2)] [.int x0, .ref a13, .int r_32] w5_ 0 0
              refine mp_callV hF (As := [.int x0]) (rest := [.int r_32]) (wr := [(mp_ob9 a0 a15 a1 a16 a13 a17 a18 a19 a20 a21), (mp_ob0 a1 a2 y0 a22 a23 a24 a10 a11 a12), (mp_ob7 a2 y1 y2 y3 y4 y5 y6 a25 a26 a27 a3 a28 a4 a5 a6 a7 a8 a9 a29), (mp_arI E a3 0 6 f0), (mp_arI E a4 0 10 f1), (mp_arI E a5 0 10 f2), (mp_arI E a6 0 10 f3), (mp_arI E a7 0 10 f4), (mp_arI E a8 0 10 f5), (mp_arI E a9 0 10 f6), (mp_arL E a10 20 f7), (mp_arI E a11 0 10 g_25), (mp_arI E a12 0 10 g_26)]) (bX1_owing_76 E a13 a14 a30 g_24 y4 y8 x0 (by (first | exact c_5 | omega)) (by (first | exact mp_o398 u_y4 c_6 | omega)) l_y4 u_y4) mp_lkX9_180 13 rfl [13, 14] [0, 1, 2, 3, 4, 5, 6, 7, 8, 9, 10, 11, 12] rfl rfl rfl rfl rfl ⟨(Nat.le_of_ble_eq_true rfl), (Nat.le_of_ble_eq_true rfl), (Nat.le_of_ble_eq_true rfl), (Nat.le_of_ble_eq_true rfl)⟩ (Nat.le_of_ble_eq_true rfl) (by first | exact mp_fd_ok mp_k_cX9_sum_ok (by decide +kernel) | decide +kernel) (fun v_33 w_34 h_35 => ?_)
              obtain ⟨r_36, rfl, rfl⟩ := h_35
              show mp_W E X 4 90 [(0, .ref a0), (1, .int x0), (2, .int x1), (3, .int x2)] [.int r_36, .int r_32] w5_ 0 0
              refine mp_run mp_k_cX9_sum_ok hF mp_tabX9_ok [mp_i .isub] (by decide +kernel) ?_
              intro z_37 h_38
              show mp_W E X 4 91 [(0, .ref a0), (1, .int x0), (2, .int x1), (3, .int x2)] [.int z_37] w5_ 0 0
              exact mp_iret hF hQ rfl rfl (Nat.le_of_ble_eq_true rfl) (Nat.le_of_ble_eq_true rfl) [0, 1, 2, 3, 4, 5, 6, 7, 8, 9, 10, 11, 12, 13, 14] (w' := w5_) rfl rfl ⟨g_25, g_26, y4, g_24, z_37, rfl, l_y4, u_y4, rfl⟩ (by first | exact mp_fd_ok mp_k_cX9_sum_ok (by decide +kernel) | decide +kernel)
            · have c_28 : x2.toInt = 1 := (congrArg Int32.toInt c_28)
              show mp_W E X 4 63 [(0, .ref a0), (1, .int x0), (2, .int x1), (3, .int x2)] [] w4_ 0 0
              refine mp_run mp_k_cX9_sum_ok hF mp_tabX9_ok [mp_i (.aload_n 0), mp_h (.getfield 32) [39, 0], mp_i (.iload_n 1)] (by decide +kernel) ?_
              refine And.intro rfl (And.intro rfl ?_)
              show mp_W E X 4 68 [(0, .ref a0), (1, .int x0), (2, .int x1), (3, .int x2)] [.int x0, .ref a13] w4_ 0 0
              refine mp_callV hF (As := [.int x0]) (rest := []) (wr := [(mp_ob9 a0 a15 a1 a16 a13 a17 a18 a19 a20 a21), (mp_ob0 a1 a2 y0 a22 a23 a24 a10 a11 a12), (mp_ob7 a2 y1 y2 y3 y4 y5 y6 a25 a26 a27 a3 a28 a4 a5 a6 a7 a8 a9 a29), (mp_arI E a3 0 6 f0), (mp_arI E a4 0 10 f1), (mp_arI E a5 0 10 f2), (mp_arI E a6 0 10 f3), (mp_arI E a7 0 10 f4), (mp_arI E a8 0 10 f5), (mp_arI E a9 0 10 f6), (mp_arL E a10 20 f7), (mp_arI E a11 0 10 g_25), (mp_arI E a12 0 10 g_26)]) (bX1_due_75 E a13 a14 a30 g_24 y4 y8 x0 (by (first | exact c_5 | omega)) (by (first | exact mp_o398 u_y4 c_6 | omega)) l_y4 u_y4) mp_lkX9_184 1 rfl [1, 2] [0, 3, 4, 5, 6, 7, 8, 9, 10, 11, 12, 13, 14] rfl rfl rfl rfl rfl ⟨(Nat.le_of_ble_eq_true rfl), (Nat.le_of_ble_eq_true rfl), (Nat.le_of_ble_eq_true rfl), (Nat.le_of_ble_eq_true rfl)⟩ (Nat.le_of_ble_eq_true rfl) (by first | exact mp_fd_ok mp_k_cX9_sum_ok (by decide +kernel) | decide +kernel) (fun v_40 w_41 h_42 => ?_)
              obtain ⟨r_43, rfl, rfl⟩ := h_42
              let w6_ : va_W := [(mp_ob9 a0 a15 a1 a16 a13 a17 a18 a19 a20 a21), (mp_ob0 a1 a2 y0 a22 a23 a24 a10 a11 a12), (mp_ob7 a2 y1 y2 y3 y4 y5 y6 a25 a26 a27 a3 a28 a4 a5 a6 a7 a8 a9 a29), (mp_arI E a3 0 6 f0), (mp_arI E a4 0 10 f1), (mp_arI E a5 0 10 f2), (mp_arI E a6 0 10 f3), (mp_arI E a7 0 10 f4), (mp_arI E a8 0 10 f5), (mp_arI E a9 0 10 f6), (mp_arL E a10 20 f7), (mp_arI E a11 0 10 g_25), (mp_arI E a12 0 10 g_26), (mp_ob1 a13 a14 y4 y8 a30), (mp_arI E a14 0 36 g_24)]
              show mp_W E X 4 71 [(0, .ref a0), (1, .int x0), (2, .int x1), (3, .int x2)] [.int r_43] w6_ 0 0
              refine mp_run mp_k_cX9_sum_ok hF mp_tabX9_ok [mp_h (.goto 20) [91]] (by decide +kernel) ?_
              show mp_W E X 4 91 [(0, .ref a0), (1, .int x0), (2, .int x1), (3, .int x2)] [.int r_43] w6_ 0 0
              exact mp_iret hF hQ rfl rfl (Nat.le_of_ble_eq_true rfl) (Nat.le_of_ble_eq_true rfl) [0, 1, 2, 3, 4, 5, 6, 7, 8, 9, 10, 11, 12, 13, 14] (w' := w6_) rfl rfl ⟨g_25, g_26, y4, g_24, r_43, rfl, l_y4, u_y4, rfl⟩ (by first | exact mp_fd_ok mp_k_cX9_sum_ok (by decide +kernel) | decide +kernel)
          · have c_27 : x2.toInt = 0 := (congrArg Int32.toInt c_27)
            show mp_W E X 4 49 [(0, .ref a0), (1, .int x0), (2, .int x1), (3, .int x2)] [] w4_ 0 0
            refine mp_run mp_k_cX9_sum_ok hF mp_tabX9_ok [mp_i (.aload_n 0), mp_h (.getfield 32) [39, 0], mp_i (.iload_n 1)] (by decide +kernel) ?_
            refine And.intro rfl (And.intro rfl ?_)
            show mp_W E X 4 54 [(0, .ref a0), (1, .int x0), (2, .int x1), (3, .int x2)] [.int x0, .ref a13] w4_ 0 0
            refine mp_callV hF (As := [.int x0]) (rest := []) (wr := [(mp_ob9 a0 a15 a1 a16 a13 a17 a18 a19 a20 a21), (mp_ob0 a1 a2 y0 a22 a23 a24 a10 a11 a12), (mp_ob7 a2 y1 y2 y3 y4 y5 y6 a25 a26 a27 a3 a28 a4 a5 a6 a7 a8 a9 a29), (mp_arI E a3 0 6 f0), (mp_arI E a4 0 10 f1), (mp_arI E a5 0 10 f2), (mp_arI E a6 0 10 f3), (mp_arI E a7 0 10 f4), (mp_arI E a8 0 10 f5), (mp_arI E a9 0 10 f6), (mp_arL E a10 20 f7), (mp_arI E a11 0 10 g_25), (mp_arI E a12 0 10 g_26)]) (bX1_owing_76 E a13 a14 a30 g_24 y4 y8 x0 (by (first | exact c_5 | omega)) (by (first | exact mp_o398 u_y4 c_6 | omega)) l_y4 u_y4) mp_lkX9_180 1 rfl [1, 2] [0, 3, 4, 5, 6, 7, 8, 9, 10, 11, 12, 13, 14] rfl rfl rfl rfl rfl ⟨(Nat.le_of_ble_eq_true rfl), (Nat.le_of_ble_eq_true rfl), (Nat.le_of_ble_eq_true rfl), (Nat.le_of_ble_eq_true rfl)⟩ (Nat.le_of_ble_eq_true rfl) (by first | exact mp_fd_ok mp_k_cX9_sum_ok (by decide +kernel) | decide +kernel) (fun v_44 w_45 h_46 => ?_)
            obtain ⟨r_47, rfl, rfl⟩ := h_46
            let w7_ : va_W := [(mp_ob9 a0 a15 a1 a16 a13 a17 a18 a19 a20 a21), (mp_ob0 a1 a2 y0 a22 a23 a24 a10 a11 a12), (mp_ob7 a2 y1 y2 y3 y4 y5 y6 a25 a26 a27 a3 a28 a4 a5 a6 a7 a8 a9 a29), (mp_arI E a3 0 6 f0), (mp_arI E a4 0 10 f1), (mp_arI E a5 0 10 f2), (mp_arI E a6 0 10 f3), (mp_arI E a7 0 10 f4), (mp_arI E a8 0 10 f5), (mp_arI E a9 0 10 f6), (mp_arL E a10 20 f7), (mp_arI E a11 0 10 g_25), (mp_arI E a12 0 10 g_26), (mp_ob1 a13 a14 y4 y8 a30), (mp_arI E a14 0 36 g_24)]
            show mp_W E X 4 57 [(0, .ref a0), (1, .int x0), (2, .int x1), (3, .int x2)] [.int r_47] w7_ 0 0
            exact mp_iret hF hQ rfl rfl (Nat.le_of_ble_eq_true rfl) (Nat.le_of_ble_eq_true rfl) [0, 1, 2, 3, 4, 5, 6, 7, 8, 9, 10, 11, 12, 13, 14] (w' := w7_) rfl rfl ⟨g_25, g_26, y4, g_24, r_47, rfl, l_y4, u_y4, rfl⟩ (by first | exact mp_fd_ok mp_k_cX9_sum_ok (by decide +kernel) | decide +kernel)
        · have c_20 : 2 < x2.toInt := c_20
          show mp_W E X 4 30 [(0, .ref a0), (1, .int x0), (2, .int x1), (3, .int x2)] [] w3_ 0 0
          refine mp_run mp_k_cX9_sum_ok hF mp_tabX9_ok [mp_c (.ldc 179) (-2000000000)] (by decide +kernel) ?_
          show mp_W E X 4 32 [(0, .ref a0), (1, .int x0), (2, .int x1), (3, .int x2)] [.int (-2000000000)] w3_ 0 0
          exact mp_iret hF hQ rfl rfl (Nat.le_of_ble_eq_true rfl) (Nat.le_of_ble_eq_true rfl) [0, 1, 14, 2, 3, 4, 5, 6, 7, 8, 9, 10, 11, 12, 13] (w' := w1_) rfl rfl ⟨f8, f9, y7, f10, (-2000000000), rfl, l_y7, u_y7, rfl⟩ (by first | exact mp_fd_ok mp_k_cX9_sum_ok (by decide +kernel) | decide +kernel)
