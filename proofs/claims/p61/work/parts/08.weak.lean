set_option maxHeartbeats 4000000 in
set_option maxRecDepth 100000 in
theorem bX3_addFour_0 (E : mp_E) (a0 a1 a2 : Nat) (f0 : Nat → Int32) (y0 : Int32) (y1 : Int32) (y2 : Int32) (y3 : Int32) (y4 : Int32) (y5 : Int32) (y6 : Int32) (y7 : Int32) (x0 : Int32) (l_y0 : 0 ≤ y0.toInt) (u_y0 : y0.toInt ≤ 1596) (l_y4 : 0 ≤ y4.toInt) (u_y4 : y4.toInt ≤ 1600) (l_y5 : 0 ≤ y5.toInt) (u_y5 : y5.toInt ≤ 1600) : mp_Ct E yX3_addFour cX3_addFour 3 none 0 0 0 0 [.ref a0, .int x0] [(mp_ob3 a0 a1 y0 a2 y1 y2 y3 y4 y5 y6 y7), (mp_arI E a1 1 1600 f0)] (fun v w' => ∃ r1 : Int32, ∃ h2 : Nat → Int32, v = none ∧ 4 ≤ r1.toInt ∧ r1.toInt ≤ 1600 ∧ (r1.toInt = y0.toInt + 4) ∧ (h2 = mp_b4 f0 (y0.toInt).toNat x0) ∧ w' = [(mp_ob3 a0 a1 r1 a2 y1 y2 y3 y4 y5 y6 y7), (mp_arI E a1 1 1600 h2)]) := by
  refine mp_met false (by decide) (by decide) (Nat.le_of_ble_eq_true rfl) (fun X hF hQ => ?_)
  have hF : mp_F E X (RX3, cX3_addFour, 3, (0, 0, 0, 0), none, false) := hF
  show mp_W E X 3 0 [(0, .ref a0), (1, .int x0)] [] [(mp_ob3 a0 a1 y0 a2 y1 y2 y3 y4 y5 y6 y7), (mp_arI E a1 1 1600 f0)] 0 0
  refine mp_run mp_k_cX3_addFour_ok hF mp_tabX3_ok [mp_c (.bipush 24) 24, mp_i (.istore_n 2), mp_i (.iload_n 2), mp_h (.ifCond .lt 42) [46]] (by decide +kernel) ?_
  refine And.intro (fun c_1 => absurd c_1 (by decide)) (fun _ => ?_)
  show mp_W E X 3 7 [(2, .int 24), (0, .ref a0), (1, .int x0)] [] [(mp_ob3 a0 a1 y0 a2 y1 y2 y3 y4 y5 y6 y7), (mp_arI E a1 1 1600 f0)] 0 0
  refine mp_run mp_k_cX3_addFour_ok hF mp_tabX3_ok [mp_i (.aload_n 0), mp_h (.getfield 26) [10, 0], mp_c (.sipush 1600) 1600, mp_h (.if_icmp .ge 32) [46]] (by decide +kernel) ?_
  refine And.intro rfl (And.intro rfl ?_)
  refine And.intro (fun c_2 => ?_) (fun c_2 => ?_)
  · have c_2 : 1600 ≤ y0.toInt := c_2
    exfalso; (first | exact mp_o0 c_2 u_y0 | omega)
  · have c_2 : y0.toInt < 1600 := c_2
    show mp_W E X 3 17 [(2, .int 24), (0, .ref a0), (1, .int x0)] [] [(mp_ob3 a0 a1 y0 a2 y1 y2 y3 y4 y5 y6 y7), (mp_arI E a1 1 1600 f0)] 0 0
    refine mp_run mp_k_cX3_addFour_ok hF mp_tabX3_ok [mp_i (.aload_n 0), mp_h (.getfield 9) [9, 0], mp_i (.aload_n 0), mp_h (.getfield 26) [10, 0], mp_i (.iload_n 1), mp_i (.iload_n 2), mp_i .ishr, mp_i .i2b, mp_h .bastore [1]] (by decide +kernel) ?_
    refine And.intro rfl (And.intro rfl ?_)
    refine And.intro rfl (And.intro rfl ?_)
    intro z_3 h_4
    intro z_6 h_7
    refine And.intro rfl (And.intro rfl (And.intro (vp_in_iff.mpr (by (first | exact mp_o1 l_y0 u_y0 | omega))) ?_))
    intro g_8 h_9
    have bb_10 := mp_by_of h_9 h_7 h_4
    show mp_W E X 3 30 [(2, .int 24), (0, .ref a0), (1, .int x0)] [] [(mp_ob3 a0 a1 y0 a2 y1 y2 y3 y4 y5 y6 y7), (mp_arI E a1 1 1600 g_8)] 0 0
    refine mp_run mp_k_cX3_addFour_ok hF mp_tabX3_ok [mp_i (.aload_n 0), mp_i .dup, mp_h (.getfield 26) [10, 0], mp_c (.iconst 1) 1, mp_i .iadd, mp_h (.putfield 26) [10, 0]] (by decide +kernel) ?_
    refine And.intro rfl ?_
    refine And.intro rfl (And.intro rfl ?_)
    intro z_11 h_12
    have e_13 : z_11.toInt = y0.toInt + 1 := mp_add (a := y0.toInt) (b := 1) h_12 rfl (by decide) (by (first | exact mp_o2 l_y0 | omega)) (by (first | exact mp_o3 u_y0 | omega))
    refine And.intro rfl (And.intro rfl (And.intro rfl (And.intro rfl (And.intro (Nat.le_of_ble_eq_true rfl) ?_))))
    show mp_W E X 3 40 [(2, .int 24), (0, .ref a0), (1, .int x0)] [] [(mp_ob3 a0 a1 z_11 a2 y1 y2 y3 y4 y5 y6 y7), (mp_arI E a1 1 1600 g_8)] 0 0
    refine mp_run mp_k_cX3_addFour_ok hF mp_tabX3_ok [mp_c (.iinc 2 (-8)) (-8), mp_h (.goto (-40)) [3], mp_i (.iload_n 2), mp_h (.ifCond .lt 42) [46]] (by decide +kernel) ?_
    intro z_14 h_15
    obtain rfl : z_14 = 16 := h_15.trans (by decide)
    refine And.intro (fun c_16 => absurd c_16 (by decide)) (fun _ => ?_)
    show mp_W E X 3 7 [(2, .int 16), (0, .ref a0), (1, .int x0)] [] [(mp_ob3 a0 a1 z_11 a2 y1 y2 y3 y4 y5 y6 y7), (mp_arI E a1 1 1600 g_8)] 0 0
    refine mp_run mp_k_cX3_addFour_ok hF mp_tabX3_ok [mp_i (.aload_n 0), mp_h (.getfield 26) [10, 0], mp_c (.sipush 1600) 1600, mp_h (.if_icmp .ge 32) [46]] (by decide +kernel) ?_
    refine And.intro rfl (And.intro rfl ?_)
    refine And.intro (fun c_17 => ?_) (fun c_17 => ?_)
    · have c_17 : 1600 ≤ z_11.toInt := c_17
      exfalso; (first | exact mp_o4 c_17 u_y0 e_13 | omega)
    · have c_17 : z_11.toInt < 1600 := c_17
      show mp_W E X 3 17 [(2, .int 16), (0, .ref a0), (1, .int x0)] [] [(mp_ob3 a0 a1 z_11 a2 y1 y2 y3 y4 y5 y6 y7), (mp_arI E a1 1 1600 g_8)] 0 0
      refine mp_run mp_k_cX3_addFour_ok hF mp_tabX3_ok [mp_i (.aload_n 0), mp_h (.getfield 9) [9, 0], mp_i (.aload_n 0), mp_h (.getfield 26) [10, 0], mp_i (.iload_n 1), mp_i (.iload_n 2), mp_i .ishr, mp_i .i2b, mp_h .bastore [1]] (by decide +kernel) ?_
      refine And.intro rfl (And.intro rfl ?_)
      refine And.intro rfl (And.intro rfl ?_)
      intro z_18 h_19
      intro z_21 h_22
      refine And.intro rfl (And.intro rfl (And.intro (vp_in_iff.mpr (by (first | exact mp_o5 l_y0 e_13 u_y0 | omega))) ?_))
      intro g_23 h_24
      have bb_25 := mp_by_of h_24 h_22 h_19
      show mp_W E X 3 30 [(2, .int 16), (0, .ref a0), (1, .int x0)] [] [(mp_ob3 a0 a1 z_11 a2 y1 y2 y3 y4 y5 y6 y7), (mp_arI E a1 1 1600 g_23)] 0 0
      refine mp_run mp_k_cX3_addFour_ok hF mp_tabX3_ok [mp_i (.aload_n 0), mp_i .dup, mp_h (.getfield 26) [10, 0], mp_c (.iconst 1) 1, mp_i .iadd, mp_h (.putfield 26) [10, 0]] (by decide +kernel) ?_
      refine And.intro rfl ?_
      refine And.intro rfl (And.intro rfl ?_)
      intro z_26 h_27
      have e_28 : z_26.toInt = z_11.toInt + 1 := mp_add (a := z_11.toInt) (b := 1) h_27 rfl (by decide) (by (first | exact mp_o6 l_y0 e_13 | omega)) (by (first | exact mp_o7 u_y0 e_13 | omega))
      refine And.intro rfl (And.intro rfl (And.intro rfl (And.intro rfl (And.intro (Nat.le_of_ble_eq_true rfl) ?_))))
      show mp_W E X 3 40 [(2, .int 16), (0, .ref a0), (1, .int x0)] [] [(mp_ob3 a0 a1 z_26 a2 y1 y2 y3 y4 y5 y6 y7), (mp_arI E a1 1 1600 g_23)] 0 0
      refine mp_run mp_k_cX3_addFour_ok hF mp_tabX3_ok [mp_c (.iinc 2 (-8)) (-8), mp_h (.goto (-40)) [3], mp_i (.iload_n 2), mp_h (.ifCond .lt 42) [46]] (by decide +kernel) ?_
      intro z_29 h_30
      obtain rfl : z_29 = 8 := h_30.trans (by decide)
      refine And.intro (fun c_31 => absurd c_31 (by decide)) (fun _ => ?_)
      show mp_W E X 3 7 [(2, .int 8), (0, .ref a0), (1, .int x0)] [] [(mp_ob3 a0 a1 z_26 a2 y1 y2 y3 y4 y5 y6 y7), (mp_arI E a1 1 1600 g_23)] 0 0
      refine mp_run mp_k_cX3_addFour_ok hF mp_tabX3_ok [mp_i (.aload_n 0), mp_h (.getfield 26) [10, 0], mp_c (.sipush 1600) 1600, mp_h (.if_icmp .ge 32) [46]] (by decide +kernel) ?_
      refine And.intro rfl (And.intro rfl ?_)
      refine And.intro (fun c_32 => ?_) (fun c_32 => ?_)
      · have c_32 : 1600 ≤ z_26.toInt := c_32
        exfalso; (first | exact mp_o8 c_32 u_y0 e_13 e_28 | omega)
      · have c_32 : z_26.toInt < 1600 := c_32
        show mp_W E X 3 17 [(2, .int 8), (0, .ref a0), (1, .int x0)] [] [(mp_ob3 a0 a1 z_26 a2 y1 y2 y3 y4 y5 y6 y7), (mp_arI E a1 1 1600 g_23)] 0 0
        refine mp_run mp_k_cX3_addFour_ok hF mp_tabX3_ok [mp_i (.aload_n 0), mp_h (.getfield 9) [9, 0], mp_i (.aload_n 0), mp_h (.getfield 26) [10, 0], mp_i (.iload_n 1), mp_i (.iload_n 2), mp_i .ishr, mp_i .i2b, mp_h .bastore [1]] (by decide +kernel) ?_
        refine And.intro rfl (And.intro rfl ?_)
        refine And.intro rfl (And.intro rfl ?_)
        intro z_33 h_34
        intro z_36 h_37
        refine And.intro rfl (And.intro rfl (And.intro (vp_in_iff.mpr (by (first | exact mp_o9 l_y0 u_y0 e_13 e_28 | omega))) ?_))
        intro g_38 h_39
        have bb_40 := mp_by_of h_39 h_37 h_34
        show mp_W E X 3 30 [(2, .int 8), (0, .ref a0), (1, .int x0)] [] [(mp_ob3 a0 a1 z_26 a2 y1 y2 y3 y4 y5 y6 y7), (mp_arI E a1 1 1600 g_38)] 0 0
        refine mp_run mp_k_cX3_addFour_ok hF mp_tabX3_ok [mp_i (.aload_n 0), mp_i .dup, mp_h (.getfield 26) [10, 0], mp_c (.iconst 1) 1, mp_i .iadd, mp_h (.putfield 26) [10, 0]] (by decide +kernel) ?_
        refine And.intro rfl ?_
        refine And.intro rfl (And.intro rfl ?_)
        intro z_41 h_42
        have e_43 : z_41.toInt = z_26.toInt + 1 := mp_add (a := z_26.toInt) (b := 1) h_42 rfl (by decide) (by (first | exact mp_o10 l_y0 e_13 e_28 | omega)) (by (first | exact mp_o11 u_y0 e_13 e_28 | omega))
        refine And.intro rfl (And.intro rfl (And.intro rfl (And.intro rfl (And.intro (Nat.le_of_ble_eq_true rfl) ?_))))
        show mp_W E X 3 40 [(2, .int 8), (0, .ref a0), (1, .int x0)] [] [(mp_ob3 a0 a1 z_41 a2 y1 y2 y3 y4 y5 y6 y7), (mp_arI E a1 1 1600 g_38)] 0 0
        refine mp_run mp_k_cX3_addFour_ok hF mp_tabX3_ok [mp_c (.iinc 2 (-8)) (-8), mp_h (.goto (-40)) [3], mp_i (.iload_n 2), mp_h (.ifCond .lt 42) [46]] (by decide +kernel) ?_
        intro z_44 h_45
        obtain rfl : z_44 = 0 := h_45.trans (by decide)
        refine And.intro (fun c_46 => absurd c_46 (by decide)) (fun _ => ?_)
        show mp_W E X 3 7 [(2, .int 0), (0, .ref a0), (1, .int x0)] [] [(mp_ob3 a0 a1 z_41 a2 y1 y2 y3 y4 y5 y6 y7), (mp_arI E a1 1 1600 g_38)] 0 0
        refine mp_run mp_k_cX3_addFour_ok hF mp_tabX3_ok [mp_i (.aload_n 0), mp_h (.getfield 26) [10, 0], mp_c (.sipush 1600) 1600, mp_h (.if_icmp .ge 32) [46]] (by decide +kernel) ?_
        refine And.intro rfl (And.intro rfl ?_)
        refine And.intro (fun c_47 => ?_) (fun c_47 => ?_)
        · have c_47 : 1600 ≤ z_41.toInt := c_47
          exfalso; (first | exact mp_o12 c_47 u_y0 e_13 e_28 e_43 | omega)
        · have c_47 : z_41.toInt < 1600 := c_47
          show mp_W E X 3 17 [(2, .int 0), (0, .ref a0), (1, .int x0)] [] [(mp_ob3 a0 a1 z_41 a2 y1 y2 y3 y4 y5 y6 y7), (mp_arI E a1 1 1600 g_38)] 0 0
          refine mp_run mp_k_cX3_addFour_ok hF mp_tabX3_ok [mp_i (.aload_n 0), mp_h (.getfield 9) [9, 0], mp_i (.aload_n 0), mp_h (.getfield 26) [10, 0], mp_i (.iload_n 1), mp_i (.iload_n 2), mp_i .ishr, mp_i .i2b, mp_h .bastore [1]] (by decide +kernel) ?_
          refine And.intro rfl (And.intro rfl ?_)
          refine And.intro rfl (And.intro rfl ?_)
          intro z_48 h_49
          have k_51 : z_48 = x0 := mp_shr0 h_49
          have e_52 : z_48.toInt = x0.toInt := by rw [k_51]
          intro z_53 h_54
          refine And.intro rfl (And.intro rfl (And.intro (vp_in_iff.mpr (by (first | exact mp_o13 l_y0 u_y0 e_13 e_28 e_43 | omega))) ?_))
          intro g_55 h_56
          have bb_57 := mp_by_of h_56 h_54 h_49
          show mp_W E X 3 30 [(2, .int 0), (0, .ref a0), (1, .int x0)] [] [(mp_ob3 a0 a1 z_41 a2 y1 y2 y3 y4 y5 y6 y7), (mp_arI E a1 1 1600 g_55)] 0 0
          refine mp_run mp_k_cX3_addFour_ok hF mp_tabX3_ok [mp_i (.aload_n 0), mp_i .dup, mp_h (.getfield 26) [10, 0], mp_c (.iconst 1) 1, mp_i .iadd, mp_h (.putfield 26) [10, 0]] (by decide +kernel) ?_
          refine And.intro rfl ?_
          refine And.intro rfl (And.intro rfl ?_)
          intro z_58 h_59
          have e_60 : z_58.toInt = z_41.toInt + 1 := mp_add (a := z_41.toInt) (b := 1) h_59 rfl (by decide) (by (first | exact mp_o14 l_y0 e_13 e_28 e_43 | omega)) (by (first | exact mp_o15 u_y0 e_13 e_28 e_43 | omega))
          refine And.intro rfl (And.intro rfl (And.intro rfl (And.intro rfl (And.intro (Nat.le_of_ble_eq_true rfl) ?_))))
          show mp_W E X 3 40 [(2, .int 0), (0, .ref a0), (1, .int x0)] [] [(mp_ob3 a0 a1 z_58 a2 y1 y2 y3 y4 y5 y6 y7), (mp_arI E a1 1 1600 g_55)] 0 0
          refine mp_run mp_k_cX3_addFour_ok hF mp_tabX3_ok [mp_c (.iinc 2 (-8)) (-8), mp_h (.goto (-40)) [3], mp_i (.iload_n 2), mp_h (.ifCond .lt 42) [46]] (by decide +kernel) ?_
          intro z_61 h_62
          obtain rfl : z_61 = (-8) := h_62.trans (by decide)
          refine And.intro (fun _ => ?_) (fun c_63 => absurd c_63 (by decide))
          show mp_W E X 3 46 [(2, .int (-8)), (0, .ref a0), (1, .int x0)] [] [(mp_ob3 a0 a1 z_58 a2 y1 y2 y3 y4 y5 y6 y7), (mp_arI E a1 1 1600 g_55)] 0 0
          exact mp_vret hF hQ rfl (Nat.le_of_ble_eq_true rfl) (Nat.le_of_ble_eq_true rfl) [0, 1] (w' := [(mp_ob3 a0 a1 z_58 a2 y1 y2 y3 y4 y5 y6 y7), (mp_arI E a1 1 1600 g_55)]) rfl rfl ⟨z_58, g_55, rfl, (by (first | exact mp_o16 l_y0 e_13 e_28 e_43 e_60 | omega)), (by (first | exact mp_o17 u_y0 e_13 e_28 e_43 e_60 | omega)), (by (first | exact mp_o18 e_13 e_28 e_43 e_60 | omega)), (mp_b4_of bb_10 bb_25 bb_40 bb_57 (by (first | exact mp_o19 | omega)) (by (first | exact e_13 | omega)) (by (first | exact mp_o20 e_13 e_28 | omega)) (by (first | exact mp_o21 l_y0 e_13 e_28 e_43 | omega))), rfl⟩ (by first | exact mp_fd_ok mp_k_cX3_addFour_ok (by decide +kernel) | decide +kernel)
set_option maxHeartbeats 4000000 in
set_option maxRecDepth 100000 in
theorem bX9_feed_1 (E : mp_E) (a0 a1 a2 a3 a4 a5 a6 a7 a8 a9 a10 a11 : Nat) (f0 : Nat → Int32) (y0 : Int32) (y1 : Int32) (y2 : Int32) (y3 : Int32) (y4 : Int32) (y5 : Int32) (y6 : Int32) (y7 : Int32) (x0 : Int32) (x1 : Int32) (x2 : Int32) (x3 : Int32) (x4 : Int32) (l_y0 : 0 ≤ y0.toInt) (u_y0 : y0.toInt ≤ 1600) (l_y4 : 0 ≤ y4.toInt) (u_y4 : y4.toInt ≤ 1600) (l_y5 : 0 ≤ y5.toInt) (u_y5 : y5.toInt ≤ 1600) : mp_Ct E yX9_feed cX9_feed 6 (some FieldType.int) 1 0 0 22 [.ref a0, .int x0, .int x1, .int x2, .int x3, .int x4] [(mp_ob9 a0 a1 a3 a4 a5 a6 a7 a8 a9 a10), (mp_ob3 a1 a2 y0 a11 y1 y2 y3 y4 y5 y6 y7), (mp_arI E a2 1 1600 f0)] (fun v w' => ∃ r1 : Int32, ∃ h2 : Nat → Int32, ∃ r3 : Int32, v = some (.int r3) ∧ 4 ≤ r1.toInt ∧ r1.toInt ≤ 1600 ∧ (-1) ≤ r3.toInt ∧ r3.toInt ≤ 1600 ∧ ((1600 < y0.toInt + 20 ∧ r1.toInt = y0.toInt ∧ r3.toInt = -1) ∨ (y0.toInt + 20 ≤ 1600 ∧ r1.toInt = y0.toInt + 20 ∧ r3.toInt = r1.toInt)) ∧ ((1600 < y0.toInt + 20 ∧ h2 = f0) ∨ (y0.toInt + 20 ≤ 1600 ∧ h2 = mp_b20 f0 (y0.toInt).toNat x0 x1 x2 x3 x4)) ∧ w' = [(mp_ob9 a0 a1 a3 a4 a5 a6 a7 a8 a9 a10), (mp_ob3 a1 a2 r1 a11 y1 y2 y3 y4 y5 y6 y7), (mp_arI E a2 1 1600 h2)]) := by
  refine mp_met false (by decide) (by decide) (Nat.le_of_ble_eq_true rfl) (fun X hF hQ => ?_)
  have hF : mp_F E X (RX9, cX9_feed, 6, (1, 0, 0, 22), (some FieldType.int), false) := hF
  let w1_ : va_W := [(mp_ob9 a0 a1 a3 a4 a5 a6 a7 a8 a9 a10), (mp_ob3 a1 a2 y0 a11 y1 y2 y3 y4 y5 y6 y7), (mp_arI E a2 1 1600 f0)]
  show mp_W E X 6 0 [(0, .ref a0), (1, .int x0), (2, .int x1), (3, .int x2), (4, .int x3), (5, .int x4)] [] w1_ 0 0
  refine mp_run mp_k_cX9_feed_ok hF mp_tabX9_ok [mp_i (.aload_n 0), mp_h (.getfield 10) [36, 0], mp_h (.getfield 71) [16, 1], mp_c (.bipush 20) 20, mp_i .iadd, mp_c (.sipush 1600) 1600, mp_h (.if_icmp .le 5) [18]] (by decide +kernel) ?_
  refine And.intro rfl (And.intro rfl ?_)
  refine And.intro rfl (And.intro rfl ?_)
  intro z_1 h_2
  have e_3 : z_1.toInt = y0.toInt + 20 := mp_add (a := y0.toInt) (b := 20) h_2 rfl (by decide) (by (first | exact mp_o22 l_y0 | omega)) (by (first | exact mp_o23 u_y0 | omega))
  refine And.intro (fun c_4 => ?_) (fun c_4 => ?_)
  · have c_4 : z_1.toInt ≤ 1600 := c_4
    show mp_W E X 6 18 [(0, .ref a0), (1, .int x0), (2, .int x1), (3, .int x2), (4, .int x3), (5, .int x4)] [] w1_ 0 0
    refine mp_run mp_k_cX9_feed_ok hF mp_tabX9_ok [mp_i (.aload_n 0), mp_h (.getfield 10) [36, 0], mp_i (.iload_n 1)] (by decide +kernel) ?_
    refine And.intro rfl (And.intro rfl ?_)
    show mp_W E X 6 23 [(0, .ref a0), (1, .int x0), (2, .int x1), (3, .int x2), (4, .int x3), (5, .int x4)] [.int x0, .ref a1] w1_ 0 0
    refine mp_callV hF (As := [.int x0]) (rest := []) (wr := [(mp_ob9 a0 a1 a3 a4 a5 a6 a7 a8 a9 a10)]) (bX3_addFour_0 E a1 a2 a11 f0 y0 y1 y2 y3 y4 y5 y6 y7 x0 l_y0 (by (first | exact mp_o24 e_3 c_4 | omega)) l_y4 u_y4 l_y5 u_y5) mp_lkX9_75 1 rfl [1, 2] [0] rfl rfl rfl rfl rfl ⟨(Nat.le_of_ble_eq_true rfl), (Nat.le_of_ble_eq_true rfl), (Nat.le_of_ble_eq_true rfl), (Nat.le_of_ble_eq_true rfl)⟩ (Nat.le_of_ble_eq_true rfl) (by first | exact mp_fd_ok mp_k_cX9_feed_ok (by decide +kernel) | decide +kernel) (fun v_5 w_6 h_7 => ?_)
    refine h_7.elim fun r_8 q_14 => q_14.elim fun g_9 q_15 => q_15.elim fun e_16 q_17 => q_17.elim fun l_10 q_18 => q_18.elim fun u_11 q_19 => q_19.elim fun x_12 q_20 => q_20.elim fun x_13 e_21 => ?_
    clear h_7 q_14 q_15 q_17 q_18 q_19 q_20
    subst e_16
    subst e_21
    let w2_ : va_W := [(mp_ob9 a0 a1 a3 a4 a5 a6 a7 a8 a9 a10), (mp_ob3 a1 a2 r_8 a11 y1 y2 y3 y4 y5 y6 y7), (mp_arI E a2 1 1600 g_9)]
    show mp_W E X 6 26 [(0, .ref a0), (1, .int x0), (2, .int x1), (3, .int x2), (4, .int x3), (5, .int x4)] [] w2_ 0 0
    refine mp_run mp_k_cX9_feed_ok hF mp_tabX9_ok [mp_i (.aload_n 0), mp_h (.getfield 10) [36, 0], mp_i (.iload_n 2)] (by decide +kernel) ?_
    refine And.intro rfl (And.intro rfl ?_)
    show mp_W E X 6 31 [(0, .ref a0), (1, .int x0), (2, .int x1), (3, .int x2), (4, .int x3), (5, .int x4)] [.int x1, .ref a1] w2_ 0 0
    refine mp_callV hF (As := [.int x1]) (rest := []) (wr := [(mp_ob9 a0 a1 a3 a4 a5 a6 a7 a8 a9 a10)]) (bX3_addFour_0 E a1 a2 a11 g_9 r_8 y1 y2 y3 y4 y5 y6 y7 x1 (by (first | exact mp_o25 l_y0 x_12 | omega)) (by (first | exact mp_o26 c_4 x_12 e_3 | omega)) l_y4 u_y4 l_y5 u_y5) mp_lkX9_75 1 rfl [1, 2] [0] rfl rfl rfl rfl rfl ⟨(Nat.le_of_ble_eq_true rfl), (Nat.le_of_ble_eq_true rfl), (Nat.le_of_ble_eq_true rfl), (Nat.le_of_ble_eq_true rfl)⟩ (Nat.le_of_ble_eq_true rfl) (by first | exact mp_fd_ok mp_k_cX9_feed_ok (by decide +kernel) | decide +kernel) (fun v_22 w_23 h_24 => ?_)
    refine h_24.elim fun r_25 q_31 => q_31.elim fun g_26 q_32 => q_32.elim fun e_33 q_34 => q_34.elim fun l_27 q_35 => q_35.elim fun u_28 q_36 => q_36.elim fun x_29 q_37 => q_37.elim fun x_30 e_38 => ?_
    clear h_24 q_31 q_32 q_34 q_35 q_36 q_37
    subst e_33
    subst e_38
    let w3_ : va_W := [(mp_ob9 a0 a1 a3 a4 a5 a6 a7 a8 a9 a10), (mp_ob3 a1 a2 r_25 a11 y1 y2 y3 y4 y5 y6 y7), (mp_arI E a2 1 1600 g_26)]
    show mp_W E X 6 34 [(0, .ref a0), (1, .int x0), (2, .int x1), (3, .int x2), (4, .int x3), (5, .int x4)] [] w3_ 0 0
    refine mp_run mp_k_cX9_feed_ok hF mp_tabX9_ok [mp_i (.aload_n 0), mp_h (.getfield 10) [36, 0], mp_i (.iload_n 3)] (by decide +kernel) ?_
    refine And.intro rfl (And.intro rfl ?_)
    show mp_W E X 6 39 [(0, .ref a0), (1, .int x0), (2, .int x1), (3, .int x2), (4, .int x3), (5, .int x4)] [.int x2, .ref a1] w3_ 0 0
    refine mp_callV hF (As := [.int x2]) (rest := []) (wr := [(mp_ob9 a0 a1 a3 a4 a5 a6 a7 a8 a9 a10)]) (bX3_addFour_0 E a1 a2 a11 g_26 r_25 y1 y2 y3 y4 y5 y6 y7 x2 (by (first | exact mp_o27 l_y0 x_12 x_29 | omega)) (by (first | exact mp_o28 c_4 x_29 e_3 x_12 | omega)) l_y4 u_y4 l_y5 u_y5) mp_lkX9_75 1 rfl [1, 2] [0] rfl rfl rfl rfl rfl ⟨(Nat.le_of_ble_eq_true rfl), (Nat.le_of_ble_eq_true rfl), (Nat.le_of_ble_eq_true rfl), (Nat.le_of_ble_eq_true rfl)⟩ (Nat.le_of_ble_eq_true rfl) (by first | exact mp_fd_ok mp_k_cX9_feed_ok (by decide +kernel) | decide +kernel) (fun v_39 w_40 h_41 => ?_)
    refine h_41.elim fun r_42 q_48 => q_48.elim fun g_43 q_49 => q_49.elim fun e_50 q_51 => q_51.elim fun l_44 q_52 => q_52.elim fun u_45 q_53 => q_53.elim fun x_46 q_54 => q_54.elim fun x_47 e_55 => ?_
    clear h_41 q_48 q_49 q_51 q_52 q_53 q_54
    subst e_50
    subst e_55
    let w4_ : va_W := [(mp_ob9 a0 a1 a3 a4 a5 a6 a7 a8 a9 a10), (mp_ob3 a1 a2 r_42 a11 y1 y2 y3 y4 y5 y6 y7), (mp_arI E a2 1 1600 g_43)]
    show mp_W E X 6 42 [(0, .ref a0), (1, .int x0), (2, .int x1), (3, .int x2), (4, .int x3), (5, .int x4)] [] w4_ 0 0
    refine mp_run mp_k_cX9_feed_ok hF mp_tabX9_ok [mp_i (.aload_n 0), mp_h (.getfield 10) [36, 0], mp_i (.iload 4)] (by decide +kernel) ?_
    refine And.intro rfl (And.intro rfl ?_)
    show mp_W E X 6 48 [(0, .ref a0), (1, .int x0), (2, .int x1), (3, .int x2), (4, .int x3), (5, .int x4)] [.int x3, .ref a1] w4_ 0 0
    refine mp_callV hF (As := [.int x3]) (rest := []) (wr := [(mp_ob9 a0 a1 a3 a4 a5 a6 a7 a8 a9 a10)]) (bX3_addFour_0 E a1 a2 a11 g_43 r_42 y1 y2 y3 y4 y5 y6 y7 x3 (by (first | exact mp_o29 l_y0 x_12 x_29 x_46 | omega)) (by (first | exact mp_o30 c_4 x_46 e_3 x_12 x_29 | omega)) l_y4 u_y4 l_y5 u_y5) mp_lkX9_75 1 rfl [1, 2] [0] rfl rfl rfl rfl rfl ⟨(Nat.le_of_ble_eq_true rfl), (Nat.le_of_ble_eq_true rfl), (Nat.le_of_ble_eq_true rfl), (Nat.le_of_ble_eq_true rfl)⟩ (Nat.le_of_ble_eq_true rfl) (by first | exact mp_fd_ok mp_k_cX9_feed_ok (by decide +kernel) | decide +kernel) (fun v_56 w_57 h_58 => ?_)
    refine h_58.elim fun r_59 q_65 => q_65.elim fun g_60 q_66 => q_66.elim fun e_67 q_68 => q_68.elim fun l_61 q_69 => q_69.elim fun u_62 q_70 => q_70.elim fun x_63 q_71 => q_71.elim fun x_64 e_72 => ?_
    clear h_58 q_65 q_66 q_68 q_69 q_70 q_71
    subst e_67
    subst e_72
    let w5_ : va_W := [(mp_ob9 a0 a1 a3 a4 a5 a6 a7 a8 a9 a10), (mp_ob3 a1 a2 r_59 a11 y1 y2 y3 y4 y5 y6 y7), (mp_arI E a2 1 1600 g_60)]
    show mp_W E X 6 51 [(0, .ref a0), (1, .int x0), (2, .int x1), (3, .int x2), (4, .int x3), (5, .int x4)] [] w5_ 0 0
    refine mp_run mp_k_cX9_feed_ok hF mp_tabX9_ok [mp_i (.aload_n 0), mp_h (.getfield 10) [36, 0], mp_i (.iload 5)] (by decide +kernel) ?_
    refine And.intro rfl (And.intro rfl ?_)
    show mp_W E X 6 57 [(0, .ref a0), (1, .int x0), (2, .int x1), (3, .int x2), (4, .int x3), (5, .int x4)] [.int x4, .ref a1] w5_ 0 0
    refine mp_callV hF (As := [.int x4]) (rest := []) (wr := [(mp_ob9 a0 a1 a3 a4 a5 a6 a7 a8 a9 a10)]) (bX3_addFour_0 E a1 a2 a11 g_60 r_59 y1 y2 y3 y4 y5 y6 y7 x4 (by (first | exact mp_o31 l_y0 x_12 x_29 x_46 x_63 | omega)) (by (first | exact mp_o32 c_4 x_63 e_3 x_12 x_29 x_46 | omega)) l_y4 u_y4 l_y5 u_y5) mp_lkX9_75 1 rfl [1, 2] [0] rfl rfl rfl rfl rfl ⟨(Nat.le_of_ble_eq_true rfl), (Nat.le_of_ble_eq_true rfl), (Nat.le_of_ble_eq_true rfl), (Nat.le_of_ble_eq_true rfl)⟩ (Nat.le_of_ble_eq_true rfl) (by first | exact mp_fd_ok mp_k_cX9_feed_ok (by decide +kernel) | decide +kernel) (fun v_73 w_74 h_75 => ?_)
    refine h_75.elim fun r_76 q_82 => q_82.elim fun g_77 q_83 => q_83.elim fun e_84 q_85 => q_85.elim fun l_78 q_86 => q_86.elim fun u_79 q_87 => q_87.elim fun x_80 q_88 => q_88.elim fun x_81 e_89 => ?_
    clear h_75 q_82 q_83 q_85 q_86 q_87 q_88
    subst e_84
    subst e_89
    let w6_ : va_W := [(mp_ob9 a0 a1 a3 a4 a5 a6 a7 a8 a9 a10), (mp_ob3 a1 a2 r_76 a11 y1 y2 y3 y4 y5 y6 y7), (mp_arI E a2 1 1600 g_77)]
    show mp_W E X 6 60 [(0, .ref a0), (1, .int x0), (2, .int x1), (3, .int x2), (4, .int x3), (5, .int x4)] [] w6_ 0 0
    refine mp_run mp_k_cX9_feed_ok hF mp_tabX9_ok [mp_i (.aload_n 0), mp_h (.getfield 10) [36, 0], mp_h (.getfield 71) [16, 1]] (by decide +kernel) ?_
    refine And.intro rfl (And.intro rfl ?_)
    refine And.intro rfl (And.intro rfl ?_)
    show mp_W E X 6 67 [(0, .ref a0), (1, .int x0), (2, .int x1), (3, .int x2), (4, .int x3), (5, .int x4)] [.int r_76] w6_ 0 0
    exact mp_iret hF hQ rfl rfl (Nat.le_of_ble_eq_true rfl) (Nat.le_of_ble_eq_true rfl) [0, 1, 2] (w' := w6_) rfl rfl ⟨r_76, g_77, r_76, rfl, l_78, u_79, (by (first | exact mp_o33 l_y0 x_12 x_29 x_46 x_63 x_80 | omega)), u_79, (by first | (first | exact mp_o34 e_3 c_4 x_12 x_29 x_46 x_63 x_80 | omega) | (have h8 : (-1 : Int32).toInt = -1 := rfl; omega)), (Or.inr ⟨by (first | exact mp_o35 e_3 c_4 | omega), mp_b20_of x_13 x_30 x_47 x_64 x_81 (by (first | exact x_12 | omega)) (by (first | exact mp_o36 x_12 x_29 | omega)) (by (first | exact mp_o37 x_12 x_29 x_46 | omega)) (by (first | exact mp_o38 l_y0 x_12 x_29 x_46 x_63 | omega))⟩), rfl⟩ (by first | exact mp_fd_ok mp_k_cX9_feed_ok (by decide +kernel) | decide +kernel)
  · have c_4 : 1600 < z_1.toInt := c_4
    show mp_W E X 6 16 [(0, .ref a0), (1, .int x0), (2, .int x1), (3, .int x2), (4, .int x3), (5, .int x4)] [] w1_ 0 0
    refine mp_run mp_k_cX9_feed_ok hF mp_tabX9_ok [mp_c (.iconst (-1)) (-1)] (by decide +kernel) ?_
    show mp_W E X 6 17 [(0, .ref a0), (1, .int x0), (2, .int x1), (3, .int x2), (4, .int x3), (5, .int x4)] [.int (-1)] w1_ 0 0
    exact mp_iret hF hQ rfl rfl (Nat.le_of_ble_eq_true rfl) (Nat.le_of_ble_eq_true rfl) [0, 1, 2] (w' := w1_) rfl rfl ⟨y0, f0, (-1), rfl, (by (first | exact mp_o39 c_4 e_3 | omega)), u_y0, (by decide), (by decide), (by first | fail | (have h8 : (-1 : Int32).toInt = -1 := rfl; (first | exact mp_o40 h8 c_4 e_3 | omega))), (Or.inl ⟨by (first | exact mp_o41 c_4 e_3 | omega), rfl⟩), rfl⟩ (by first | exact mp_fd_ok mp_k_cX9_feed_ok (by decide +kernel) | decide +kernel)
set_option maxHeartbeats 4000000 in
set_option maxRecDepth 100000 in
theorem bX9_end_2 (E : mp_E) (a0 a1 a2 a3 a4 a5 a6 a7 a8 a9 a10 a11 : Nat) (y0 : Int32) (y1 : Int32) (y2 : Int32) (y3 : Int32) (y4 : Int32) (y5 : Int32) (y6 : Int32) (y7 : Int32) (x0 : Int32) (l_y0 : 0 ≤ y0.toInt) (u_y0 : y0.toInt ≤ 1600) (l_y4 : 0 ≤ y4.toInt) (u_y4 : y4.toInt ≤ 1600) (l_y5 : 0 ≤ y5.toInt) (u_y5 : y5.toInt ≤ 1600) : mp_Ct E yX9_end cX9_end 2 (some FieldType.int) 0 0 0 0 [.ref a0, .int x0] [(mp_ob9 a0 a1 a2 a3 a4 a5 a6 a7 a8 a9), (mp_ob3 a1 a10 y0 a11 y1 y2 y3 y4 y5 y6 y7)] (fun v w' => ∃ r1 : Int32, ∃ r2 : Int32, v = some (.int r2) ∧ 0 ≤ r1.toInt ∧ r1.toInt ≤ 1600 ∧ (-1) ≤ r2.toInt ∧ r2.toInt ≤ 1600 ∧ ((0 ≤ x0.toInt ∧ x0.toInt ≤ y0.toInt ∧ r2.toInt = x0.toInt ∧ r1.toInt = x0.toInt) ∨ ((x0.toInt < 0 ∨ y0.toInt < x0.toInt) ∧ r2.toInt = -1 ∧ r1.toInt = y0.toInt)) ∧ w' = [(mp_ob9 a0 a1 a2 a3 a4 a5 a6 a7 a8 a9), (mp_ob3 a1 a10 r1 a11 y1 y2 y3 y4 y5 y6 y7)]) := by
  refine mp_met false (by decide) (by decide) (Nat.le_of_ble_eq_true rfl) (fun X hF hQ => ?_)
  have hF : mp_F E X (RX9, cX9_end, 2, (0, 0, 0, 0), (some FieldType.int), false) := hF
  let w1_ : va_W := [(mp_ob9 a0 a1 a2 a3 a4 a5 a6 a7 a8 a9), (mp_ob3 a1 a10 y0 a11 y1 y2 y3 y4 y5 y6 y7)]
  show mp_W E X 2 0 [(0, .ref a0), (1, .int x0)] [] w1_ 0 0
  refine mp_run mp_k_cX9_end_ok hF mp_tabX9_ok [mp_i (.iload_n 1), mp_h (.ifCond .lt 14) [15]] (by decide +kernel) ?_
  refine And.intro (fun c_1 => ?_) (fun c_1 => ?_)
  · have c_1 : x0.toInt < 0 := c_1
    show mp_W E X 2 15 [(0, .ref a0), (1, .int x0)] [] w1_ 0 0
    refine mp_run mp_k_cX9_end_ok hF mp_tabX9_ok [mp_c (.iconst (-1)) (-1)] (by decide +kernel) ?_
    show mp_W E X 2 16 [(0, .ref a0), (1, .int x0)] [.int (-1)] w1_ 0 0
    exact mp_iret hF hQ rfl rfl (Nat.le_of_ble_eq_true rfl) (Nat.le_of_ble_eq_true rfl) [0, 1] (w' := w1_) rfl rfl ⟨y0, (-1), rfl, l_y0, u_y0, (by decide), (by decide), (by first | fail | decide | (have h8 : (0 : Int32).toInt = 0 := rfl; have h9 : (1 : Int32).toInt = 1 := rfl; have h10 : (-1 : Int32).toInt = -1 := rfl; (first | exact mp_o42 c_1 h10 | omega))), rfl⟩ (by first | exact mp_fd_ok mp_k_cX9_end_ok (by decide +kernel) | decide +kernel)
  · have c_1 : 0 ≤ x0.toInt := c_1
    show mp_W E X 2 4 [(0, .ref a0), (1, .int x0)] [] w1_ 0 0
    refine mp_run mp_k_cX9_end_ok hF mp_tabX9_ok [mp_i (.iload_n 1), mp_i (.aload_n 0), mp_h (.getfield 10) [36, 0], mp_h (.getfield 71) [16, 1], mp_h (.if_icmp .le 5) [17]] (by decide +kernel) ?_
    refine And.intro rfl (And.intro rfl ?_)
    refine And.intro rfl (And.intro rfl ?_)
    refine And.intro (fun c_2 => ?_) (fun c_2 => ?_)
    · have c_2 : x0.toInt ≤ y0.toInt := c_2
      show mp_W E X 2 17 [(0, .ref a0), (1, .int x0)] [] w1_ 0 0
      refine mp_run mp_k_cX9_end_ok hF mp_tabX9_ok [mp_i (.aload_n 0), mp_h (.getfield 10) [36, 0], mp_i (.iload_n 1), mp_h (.putfield 71) [16, 1]] (by decide +kernel) ?_
      refine And.intro rfl (And.intro rfl ?_)
      refine And.intro rfl (And.intro rfl (And.intro rfl (And.intro rfl (And.intro (Nat.le_of_ble_eq_true rfl) ?_))))
      let w2_ : va_W := [(mp_ob9 a0 a1 a2 a3 a4 a5 a6 a7 a8 a9), (mp_ob3 a1 a10 x0 a11 y1 y2 y3 y4 y5 y6 y7)]
      show mp_W E X 2 25 [(0, .ref a0), (1, .int x0)] [] w2_ 0 0
      refine mp_run mp_k_cX9_end_ok hF mp_tabX9_ok [mp_i (.iload_n 1)] (by decide +kernel) ?_
      show mp_W E X 2 26 [(0, .ref a0), (1, .int x0)] [.int x0] w2_ 0 0
      exact mp_iret hF hQ rfl rfl (Nat.le_of_ble_eq_true rfl) (Nat.le_of_ble_eq_true rfl) [0, 1] (w' := w2_) rfl rfl ⟨x0, x0, rfl, (by (first | exact c_1 | omega)), (by (first | exact mp_o43 u_y0 c_2 | omega)), (by (first | exact mp_o44 c_1 | omega)), (by (first | exact mp_o43 u_y0 c_2 | omega)), (by first | (first | exact mp_o45 c_1 c_2 | omega) | decide | (have h8 : (0 : Int32).toInt = 0 := rfl; have h9 : (1 : Int32).toInt = 1 := rfl; have h10 : (-1 : Int32).toInt = -1 := rfl; omega)), rfl⟩ (by first | exact mp_fd_ok mp_k_cX9_end_ok (by decide +kernel) | decide +kernel)
    · have c_2 : y0.toInt < x0.toInt := c_2
      show mp_W E X 2 15 [(0, .ref a0), (1, .int x0)] [] w1_ 0 0
      refine mp_run mp_k_cX9_end_ok hF mp_tabX9_ok [mp_c (.iconst (-1)) (-1)] (by decide +kernel) ?_
      show mp_W E X 2 16 [(0, .ref a0), (1, .int x0)] [.int (-1)] w1_ 0 0
      exact mp_iret hF hQ rfl rfl (Nat.le_of_ble_eq_true rfl) (Nat.le_of_ble_eq_true rfl) [0, 1] (w' := w1_) rfl rfl ⟨y0, (-1), rfl, l_y0, u_y0, (by decide), (by decide), (by first | fail | decide | (have h8 : (0 : Int32).toInt = 0 := rfl; have h9 : (1 : Int32).toInt = 1 := rfl; have h10 : (-1 : Int32).toInt = -1 := rfl; (first | exact mp_o46 c_2 h10 | omega))), rfl⟩ (by first | exact mp_fd_ok mp_k_cX9_end_ok (by decide +kernel) | decide +kernel)
set_option maxHeartbeats 4000000 in
set_option maxRecDepth 100000 in
theorem bJ7_fill_53178_3 (E : mp_E) (a0 : Nat) (f0 : Nat → Int32) (p0 : mp_all f0 36 0 20) : mp_Ct E yJ7_fill_53178 cJ7_fill_53178 4 none 0 0 0 0 [.ref a0, .int 0] [(mp_arI E a0 0 36 f0)] (fun v w' => ∃ h1 : Nat → Int32, v = none ∧ mp_all h1 36 0 20 ∧ (∀ j : Nat, (j : Int) < 36 → h1 j = 0) ∧ w' = [(mp_arI E a0 0 36 h1)]) := by
  refine mp_met false (by decide) (by decide) (Nat.le_of_ble_eq_true rfl) (fun X hF hQ => ?_)
  have hF : mp_F E X (RJ7, cJ7_fill_53178, 4, (0, 0, 0, 0), none, false) := hF
  show mp_W E X 4 0 [(0, .ref a0), (1, .int 0)] [] [(mp_arI E a0 0 36 f0)] 0 0
  refine mp_run mp_k_cJ7_fill_53178_ok hF mp_tab0_ok [mp_c (.iconst 0) 0, mp_i (.istore_n 2), mp_i (.aload_n 0), mp_h .arraylength [0, 0], mp_i (.istore_n 3)] (by decide +kernel) ?_
  refine And.intro rfl (And.intro rfl (And.intro (by decide) ?_))
  intro z_1 h_2
  obtain rfl : z_1 = 36 := h_2.trans (show Int32.ofNat 36 = (36 : Int32) by decide)
  show mp_W E X 4 5 [(3, .int 36), (2, .int 0), (0, .ref a0), (1, .int 0)] [] [(mp_arI E a0 0 36 f0)] 0 0
  have lp_10 : ∀ (d_11 : Nat) (i_3 : Int32) (g_4 : Nat → Int32), 0 ≤ i_3.toInt → i_3.toInt ≤ 36 → mp_all g_4 36 0 20 → (∀ j : Nat, (j : Int) < i_3.toInt → g_4 j = 0) → (0 ≤ i_3.toInt) → -(i_3.toInt) + 36 ≤ (d_11 : Int) → mp_W E X 4 5 [(3, .int 36), (2, .int i_3), (0, .ref a0), (1, .int 0)] [] [(mp_arI E a0 0 36 g_4)] 0 0 := by
    intro d_11
    induction d_11 using Nat.strongRecOn with
    | ind d_11 ih_12 =>
      intro i_3 g_4 l_5 u_6 p_7 x_8 x_9 hm_13
      refine mp_run mp_k_cJ7_fill_53178_ok hF mp_tab0_ok [mp_i (.iload_n 2), mp_i (.iload_n 3), mp_h (.if_icmp .ge 13) [20]] (by decide +kernel) ?_
      refine And.intro (fun c_14 => ?_) (fun c_14 => ?_)
      · have c_14 : 36 ≤ i_3.toInt := c_14
        show mp_W E X 4 20 [(3, .int 36), (2, .int i_3), (0, .ref a0), (1, .int 0)] [] [(mp_arI E a0 0 36 g_4)] 0 0
        exact mp_vret hF hQ rfl (Nat.le_of_ble_eq_true rfl) (Nat.le_of_ble_eq_true rfl) [0] (w' := [(mp_arI E a0 0 36 g_4)]) rfl rfl ⟨g_4, rfl, p_7, (fun j hj => x_8 j (by (first | exact mp_o47 hj c_14 | omega))), rfl⟩ (by first | exact mp_fd_ok mp_k_cJ7_fill_53178_ok (by decide +kernel) | decide +kernel)
      · have c_14 : i_3.toInt < 36 := c_14
        show mp_W E X 4 10 [(3, .int 36), (2, .int i_3), (0, .ref a0), (1, .int 0)] [] [(mp_arI E a0 0 36 g_4)] 0 0
        refine mp_run mp_k_cJ7_fill_53178_ok hF mp_tab0_ok [mp_i (.aload_n 0), mp_i (.iload_n 2), mp_i (.iload_n 1), mp_h .iastore [0]] (by decide +kernel) ?_
        refine And.intro rfl (And.intro rfl (And.intro (vp_in_iff.mpr (by (first | exact mp_o48 l_5 c_14 | omega))) ?_))
        intro g_15 h_16
        have p_17 : mp_all g_15 36 0 20 := mp_all_st h_16 p_7 (by decide) (by decide)
        show mp_W E X 4 14 [(3, .int 36), (2, .int i_3), (0, .ref a0), (1, .int 0)] [] [(mp_arI E a0 0 36 g_15)] 0 0
        refine mp_run mp_k_cJ7_fill_53178_ok hF mp_tab0_ok [mp_c (.iinc 2 1) 1, mp_h (.goto (-12)) [5]] (by decide +kernel) ?_
        intro z_18 h_19
        have e_20 : z_18.toInt = i_3.toInt + 1 := mp_add (a := i_3.toInt) (b := 1) h_19 rfl (by decide) (by (first | exact mp_o2 l_5 | omega)) (by (first | exact mp_o49 c_14 | omega))
        show mp_W E X 4 5 [(2, .int z_18), (3, .int 36), (0, .ref a0), (1, .int 0)] [] [(mp_arI E a0 0 36 g_15)] 0 0
        exact mp_sub [1, 0, 2, 3] rfl [0] rfl rfl (ih_12 (d_11 - 1) (by (first | exact mp_o50 hm_13 c_14 | omega)) z_18 g_15 (by (first | exact mp_o51 l_5 e_20 | omega)) (by (first | exact mp_o52 c_14 e_20 | omega)) p_17 (mp_fill_s x_8 (by rw [h_16]; exact if_pos rfl) (fun j hj => by rw [h_16]; exact if_neg hj) (by (first | exact mp_o53 l_5 e_20 | omega))) (by (first | exact mp_o51 l_5 e_20 | omega)) (by (first | exact mp_o54 hm_13 e_20 | omega)))
  exact mp_sub [0, 1, 2, 3] rfl [0] rfl rfl (lp_10 _ 0 f0 (by decide) (by decide) p0 (fun j hj => absurd hj (by have h8 : (0 : Int32).toInt = 0 := rfl; omega)) (by decide) (Int.self_le_toNat _))
set_option maxHeartbeats 4000000 in
set_option maxRecDepth 100000 in
theorem bJ7_fill_d0a16_4 (E : mp_E) (a0 : Nat) (f0 : Nat → Int64) (x0 : Int64) : mp_Ct E yJ7_fill_d0a16 cJ7_fill_d0a16 5 none 0 0 0 0 [.ref a0, .long x0] [(mp_arL E a0 12 f0)] (fun v w' => ∃ h1 : Nat → Int64, v = none ∧ (∀ j : Nat, (j : Int) < 12 → h1 j = x0) ∧ w' = [(mp_arL E a0 12 h1)]) := by
  refine mp_met false (by decide) (by decide) (Nat.le_of_ble_eq_true rfl) (fun X hF hQ => ?_)
  have hF : mp_F E X (RJ7, cJ7_fill_d0a16, 5, (0, 0, 0, 0), none, false) := hF
  show mp_W E X 5 0 [(0, .ref a0), (1, .long x0)] [] [(mp_arL E a0 12 f0)] 0 0
  refine mp_run mp_k_cJ7_fill_d0a16_ok hF mp_tab0_ok [mp_c (.iconst 0) 0, mp_i (.istore_n 3), mp_i (.aload_n 0), mp_h .arraylength [0, 2], mp_i (.istore 4)] (by decide +kernel) ?_
  refine And.intro rfl (And.intro rfl (And.intro (by decide) ?_))
  intro z_1 h_2
  obtain rfl : z_1 = 12 := h_2.trans (show Int32.ofNat 12 = (12 : Int32) by decide)
  show mp_W E X 5 6 [(4, .int 12), (3, .int 0), (0, .ref a0), (1, .long x0)] [] [(mp_arL E a0 12 f0)] 0 0
  have lp_9 : ∀ (d_10 : Nat) (i_3 : Int32) (g_4 : Nat → Int64), 0 ≤ i_3.toInt → i_3.toInt ≤ 12 → (∀ j : Nat, (j : Int) < i_3.toInt → g_4 j = x0) → (0 ≤ i_3.toInt) → -(i_3.toInt) + 12 ≤ (d_10 : Int) → mp_W E X 5 6 [(4, .int 12), (3, .int i_3), (0, .ref a0), (1, .long x0)] [] [(mp_arL E a0 12 g_4)] 0 0 := by
    intro d_10
    induction d_10 using Nat.strongRecOn with
    | ind d_10 ih_11 =>
      intro i_3 g_4 l_5 u_6 x_7 x_8 hm_12
      refine mp_run mp_k_cJ7_fill_d0a16_ok hF mp_tab0_ok [mp_i (.iload_n 3), mp_i (.iload 4), mp_h (.if_icmp .ge 13) [22]] (by decide +kernel) ?_
      refine And.intro (fun c_13 => ?_) (fun c_13 => ?_)
      · have c_13 : 12 ≤ i_3.toInt := c_13
        show mp_W E X 5 22 [(4, .int 12), (3, .int i_3), (0, .ref a0), (1, .long x0)] [] [(mp_arL E a0 12 g_4)] 0 0
        exact mp_vret hF hQ rfl (Nat.le_of_ble_eq_true rfl) (Nat.le_of_ble_eq_true rfl) [0] (w' := [(mp_arL E a0 12 g_4)]) rfl rfl ⟨g_4, rfl, (fun j hj => x_7 j (by (first | exact mp_o55 hj c_13 | omega))), rfl⟩ (by first | exact mp_fd_ok mp_k_cJ7_fill_d0a16_ok (by decide +kernel) | decide +kernel)
      · have c_13 : i_3.toInt < 12 := c_13
        show mp_W E X 5 12 [(4, .int 12), (3, .int i_3), (0, .ref a0), (1, .long x0)] [] [(mp_arL E a0 12 g_4)] 0 0
        refine mp_run mp_k_cJ7_fill_d0a16_ok hF mp_tab0_ok [mp_i (.aload_n 0), mp_i (.iload_n 3), mp_i (.lload_n 1), mp_h .lastore [0]] (by decide +kernel) ?_
        refine And.intro rfl (And.intro rfl (And.intro (vp_in_iff.mpr (by (first | exact mp_o56 l_5 c_13 | omega))) ?_))
        intro g_14 h_15
        show mp_W E X 5 16 [(4, .int 12), (3, .int i_3), (0, .ref a0), (1, .long x0)] [] [(mp_arL E a0 12 g_14)] 0 0
        refine mp_run mp_k_cJ7_fill_d0a16_ok hF mp_tab0_ok [mp_c (.iinc 3 1) 1, mp_h (.goto (-13)) [6]] (by decide +kernel) ?_
        intro z_16 h_17
        have e_18 : z_16.toInt = i_3.toInt + 1 := mp_add (a := i_3.toInt) (b := 1) h_17 rfl (by decide) (by (first | exact mp_o2 l_5 | omega)) (by (first | exact mp_o57 c_13 | omega))
        show mp_W E X 5 6 [(3, .int z_16), (4, .int 12), (0, .ref a0), (1, .long x0)] [] [(mp_arL E a0 12 g_14)] 0 0
        exact mp_sub [1, 0, 2, 3] rfl [0] rfl rfl (ih_11 (d_10 - 1) (by (first | exact mp_o58 hm_12 c_13 | omega)) z_16 g_14 (by (first | exact mp_o51 l_5 e_18 | omega)) (by (first | exact mp_o59 c_13 e_18 | omega)) (mp_fill_s x_7 (by rw [h_15]; exact if_pos rfl) (fun j hj => by rw [h_15]; exact if_neg hj) (by (first | exact mp_o53 l_5 e_18 | omega))) (by (first | exact mp_o51 l_5 e_18 | omega)) (by (first | exact mp_o60 hm_12 e_18 | omega)))
  exact mp_sub [0, 1, 2, 3] rfl [0] rfl rfl (lp_9 _ 0 f0 (by decide) (by decide) (fun j hj => absurd hj (by have h8 : (0 : Int32).toInt = 0 := rfl; omega)) (by decide) (Int.self_le_toNat _))
set_option maxHeartbeats 4000000 in
set_option maxRecDepth 100000 in
theorem bX7_clear_5 (E : mp_E) (a0 a1 a2 a3 a4 a5 a6 a7 a8 a9 a10 a11 a12 : Nat) (f0 : Nat → Int32) (f1 : Nat → Int64) (y0 : Int32) (y1 : Int32) (y2 : Int32) (y3 : Int32) (y4 : Int32) (y5 : Int32) (p0 : mp_all f0 36 0 20) (l_y1 : 0 ≤ y1.toInt) (u_y1 : y1.toInt ≤ 6) (l_y2 : 0 ≤ y2.toInt) (u_y2 : y2.toInt ≤ 99) (l_y3 : 0 ≤ y3.toInt) (u_y3 : y3.toInt ≤ 6) (l_y4 : 0 ≤ y4.toInt) (u_y4 : y4.toInt ≤ 10) (l_y5 : 0 ≤ y5.toInt) (u_y5 : y5.toInt ≤ 60) : mp_Ct E yX7_clear cX7_clear 1 none 1 0 0 24 [.ref a0] [(mp_ob7 a0 y0 y1 y2 y3 y4 y5 a1 a2 a3 a4 a5 a6 a7 a8 a9 a10 a11 a12), (mp_arI E a1 0 36 f0), (mp_arL E a2 12 f1)] (fun v w' => ∃ h1 : Nat → Int32, ∃ h2 : Nat → Int64, v = none ∧ mp_all h1 36 0 20 ∧ (∀ j : Nat, (j : Int) < 36 → h1 j = 0) ∧ (∀ j : Nat, (j : Int) < 12 → h2 j = 0) ∧ w' = [(mp_ob7 a0 0 0 0 0 0 0 a1 a2 a3 a4 a5 a6 a7 a8 a9 a10 a11 a12), (mp_arI E a1 0 36 h1), (mp_arL E a2 12 h2)]) := by
  refine mp_met false (by decide) (by decide) (Nat.le_of_ble_eq_true rfl) (fun X hF hQ => ?_)
  have hF : mp_F E X (RX7, cX7_clear, 1, (1, 0, 0, 24), none, false) := hF
  let w1_ : va_W := [(mp_ob7 a0 y0 y1 y2 y3 y4 y5 a1 a2 a3 a4 a5 a6 a7 a8 a9 a10 a11 a12), (mp_arI E a1 0 36 f0), (mp_arL E a2 12 f1)]
  show mp_W E X 1 0 [(0, .ref a0)] [] w1_ 0 0
  refine mp_run mp_k_cX7_clear_ok hF mp_tabX7_ok [mp_i (.aload_n 0), mp_c (.iconst 0) 0, mp_h (.putfield 49) [0, 0]] (by decide +kernel) ?_
  refine And.intro rfl (And.intro rfl (And.intro rfl (And.intro rfl (And.intro (Nat.le_of_ble_eq_true rfl) ?_))))
  let w2_ : va_W := [(mp_ob7 a0 0 y1 y2 y3 y4 y5 a1 a2 a3 a4 a5 a6 a7 a8 a9 a10 a11 a12), (mp_arI E a1 0 36 f0), (mp_arL E a2 12 f1)]
  show mp_W E X 1 5 [(0, .ref a0)] [] w2_ 0 0
  refine mp_run mp_k_cX7_clear_ok hF mp_tabX7_ok [mp_i (.aload_n 0), mp_c (.iconst 0) 0, mp_h (.putfield 53) [1, 0]] (by decide +kernel) ?_
  refine And.intro rfl (And.intro rfl (And.intro rfl (And.intro rfl (And.intro (Nat.le_of_ble_eq_true rfl) ?_))))
  let w3_ : va_W := [(mp_ob7 a0 0 0 y2 y3 y4 y5 a1 a2 a3 a4 a5 a6 a7 a8 a9 a10 a11 a12), (mp_arI E a1 0 36 f0), (mp_arL E a2 12 f1)]
  show mp_W E X 1 10 [(0, .ref a0)] [] w3_ 0 0
  refine mp_run mp_k_cX7_clear_ok hF mp_tabX7_ok [mp_i (.aload_n 0), mp_c (.iconst 0) 0, mp_h (.putfield 56) [2, 0]] (by decide +kernel) ?_
  refine And.intro rfl (And.intro rfl (And.intro rfl (And.intro rfl (And.intro (Nat.le_of_ble_eq_true rfl) ?_))))
  let w4_ : va_W := [(mp_ob7 a0 0 0 0 y3 y4 y5 a1 a2 a3 a4 a5 a6 a7 a8 a9 a10 a11 a12), (mp_arI E a1 0 36 f0), (mp_arL E a2 12 f1)]
  show mp_W E X 1 15 [(0, .ref a0)] [] w4_ 0 0
  refine mp_run mp_k_cX7_clear_ok hF mp_tabX7_ok [mp_i (.aload_n 0), mp_c (.iconst 0) 0, mp_h (.putfield 59) [3, 0]] (by decide +kernel) ?_
  refine And.intro rfl (And.intro rfl (And.intro rfl (And.intro rfl (And.intro (Nat.le_of_ble_eq_true rfl) ?_))))
  let w5_ : va_W := [(mp_ob7 a0 0 0 0 0 y4 y5 a1 a2 a3 a4 a5 a6 a7 a8 a9 a10 a11 a12), (mp_arI E a1 0 36 f0), (mp_arL E a2 12 f1)]
  show mp_W E X 1 20 [(0, .ref a0)] [] w5_ 0 0
  refine mp_run mp_k_cX7_clear_ok hF mp_tabX7_ok [mp_i (.aload_n 0), mp_c (.iconst 0) 0, mp_h (.putfield 62) [4, 0]] (by decide +kernel) ?_
  refine And.intro rfl (And.intro rfl (And.intro rfl (And.intro rfl (And.intro (Nat.le_of_ble_eq_true rfl) ?_))))
  let w6_ : va_W := [(mp_ob7 a0 0 0 0 0 0 y5 a1 a2 a3 a4 a5 a6 a7 a8 a9 a10 a11 a12), (mp_arI E a1 0 36 f0), (mp_arL E a2 12 f1)]
  show mp_W E X 1 25 [(0, .ref a0)] [] w6_ 0 0
  refine mp_run mp_k_cX7_clear_ok hF mp_tabX7_ok [mp_i (.aload_n 0), mp_c (.iconst 0) 0, mp_h (.putfield 65) [5, 0]] (by decide +kernel) ?_
  refine And.intro rfl (And.intro rfl (And.intro rfl (And.intro rfl (And.intro (Nat.le_of_ble_eq_true rfl) ?_))))
  let w7_ : va_W := [(mp_ob7 a0 0 0 0 0 0 0 a1 a2 a3 a4 a5 a6 a7 a8 a9 a10 a11 a12), (mp_arI E a1 0 36 f0), (mp_arL E a2 12 f1)]
  show mp_W E X 1 30 [(0, .ref a0)] [] w7_ 0 0
  refine mp_run mp_k_cX7_clear_ok hF mp_tabX7_ok [mp_i (.aload_n 0), mp_h (.getfield 9) [6, 0], mp_c (.iconst 0) 0] (by decide +kernel) ?_
  refine And.intro rfl (And.intro rfl ?_)
  show mp_W E X 1 35 [(0, .ref a0)] [.int 0, .ref a1] w7_ 0 0
  refine mp_callS hF (As := [.ref a1, .int 0]) (rest := []) (wr := [(mp_ob7 a0 0 0 0 0 0 0 a1 a2 a3 a4 a5 a6 a7 a8 a9 a10 a11 a12), (mp_arL E a2 12 f1)]) (bJ7_fill_53178_3 E a1 f0 p0) mp_lkX7_68 [1] [0, 2] rfl rfl rfl rfl rfl ⟨(Nat.le_of_ble_eq_true rfl), (Nat.le_of_ble_eq_true rfl), (Nat.le_of_ble_eq_true rfl), (Nat.le_of_ble_eq_true rfl)⟩ (Nat.le_of_ble_eq_true rfl) (by first | exact mp_fd_ok mp_k_cX7_clear_ok (by decide +kernel) | decide +kernel) (fun v_1 w_2 h_3 => ?_)
  obtain ⟨g_4, rfl, p_5, x_6, rfl⟩ := h_3
  let w8_ : va_W := [(mp_ob7 a0 0 0 0 0 0 0 a1 a2 a3 a4 a5 a6 a7 a8 a9 a10 a11 a12), (mp_arL E a2 12 f1), (mp_arI E a1 0 36 g_4)]
  show mp_W E X 1 38 [(0, .ref a0)] [] w8_ 0 0
  refine mp_run mp_k_cX7_clear_ok hF mp_tabX7_ok [mp_i (.aload_n 0), mp_h (.getfield 15) [7, 0], mp_cl (.lconst 0) 0] (by decide +kernel) ?_
  refine And.intro rfl (And.intro rfl ?_)
  show mp_W E X 1 43 [(0, .ref a0)] [.long 0, .ref a2] w8_ 0 0
  refine mp_callS hF (As := [.ref a2, .long 0]) (rest := []) (wr := [(mp_ob7 a0 0 0 0 0 0 0 a1 a2 a3 a4 a5 a6 a7 a8 a9 a10 a11 a12), (mp_arI E a1 0 36 g_4)]) (bJ7_fill_d0a16_4 E a2 f1 0) mp_lkX7_74 [1] [0, 2] rfl rfl rfl rfl rfl ⟨(Nat.le_of_ble_eq_true rfl), (Nat.le_of_ble_eq_true rfl), (Nat.le_of_ble_eq_true rfl), (Nat.le_of_ble_eq_true rfl)⟩ (Nat.le_of_ble_eq_true rfl) (by first | exact mp_fd_ok mp_k_cX7_clear_ok (by decide +kernel) | decide +kernel) (fun v_7 w_8 h_9 => ?_)
  obtain ⟨g_10, rfl, x_11, rfl⟩ := h_9
  let w9_ : va_W := [(mp_ob7 a0 0 0 0 0 0 0 a1 a2 a3 a4 a5 a6 a7 a8 a9 a10 a11 a12), (mp_arI E a1 0 36 g_4), (mp_arL E a2 12 g_10)]
  show mp_W E X 1 46 [(0, .ref a0)] [] w9_ 0 0
  exact mp_vret hF hQ rfl (Nat.le_of_ble_eq_true rfl) (Nat.le_of_ble_eq_true rfl) [0, 1, 2] (w' := w9_) rfl rfl ⟨g_4, g_10, rfl, p_5, x_6, x_11, rfl⟩ (by first | exact mp_fd_ok mp_k_cX7_clear_ok (by decide +kernel) | decide +kernel)
set_option maxHeartbeats 4000000 in
set_option maxRecDepth 100000 in
theorem bX3_isLetter_6 (E : mp_E) (a0 a1 a2 : Nat) (f0 : Nat → Int32) (y0 : Int32) (y1 : Int32) (y2 : Int32) (y3 : Int32) (y4 : Int32) (y5 : Int32) (y6 : Int32) (y7 : Int32) (x0 : Int32) (l_x0 : 0 ≤ x0.toInt) (u_x0 : x0.toInt ≤ 1599) (l_y0 : 0 ≤ y0.toInt) (u_y0 : y0.toInt ≤ 1600) (l_y4 : 0 ≤ y4.toInt) (u_y4 : y4.toInt ≤ 1600) (l_y5 : 0 ≤ y5.toInt) (u_y5 : y5.toInt ≤ 1600) : mp_Ct E yX3_isLetter cX3_isLetter 2 (some FieldType.boolean) 0 0 0 0 [.ref a0, .int x0] [(mp_ob3 a0 a1 y0 a2 y1 y2 y3 y4 y5 y6 y7), (mp_arI E a1 1 1600 f0)] (fun v w' => (v = some (.int 0) ∧ ((f0 x0.toInt.toNat).toInt < 97 ∨ 122 < (f0 x0.toInt.toNat).toInt) ∧ w' = [(mp_ob3 a0 a1 y0 a2 y1 y2 y3 y4 y5 y6 y7), (mp_arI E a1 1 1600 f0)]) ∨ (v = some (.int 1) ∧ (97 ≤ (f0 x0.toInt.toNat).toInt ∧ (f0 x0.toInt.toNat).toInt ≤ 122) ∧ w' = [(mp_ob3 a0 a1 y0 a2 y1 y2 y3 y4 y5 y6 y7), (mp_arI E a1 1 1600 f0)])) := by
  refine mp_met false (by decide) (by decide) (Nat.le_of_ble_eq_true rfl) (fun X hF hQ => ?_)
  have hF : mp_F E X (RX3, cX3_isLetter, 2, (0, 0, 0, 0), (some FieldType.boolean), false) := hF
  show mp_W E X 2 0 [(0, .ref a0), (1, .int x0)] [] [(mp_ob3 a0 a1 y0 a2 y1 y2 y3 y4 y5 y6 y7), (mp_arI E a1 1 1600 f0)] 0 0
  refine mp_run mp_k_cX3_isLetter_ok hF mp_tabX3_ok [mp_i (.aload_n 0), mp_h (.getfield 9) [9, 0], mp_i (.iload_n 1), mp_h .baload [1], mp_c (.bipush 97) 97, mp_h (.if_icmp .lt 18) [26]] (by decide +kernel) ?_
  refine And.intro rfl (And.intro rfl ?_)
  refine And.intro rfl (And.intro rfl (And.intro (vp_in_iff.mpr (by (first | exact mp_o61 l_x0 u_x0 | omega))) ?_))
  intro z_1 h_2
  have e_3 : z_1.toInt = (f0 x0.toInt.toNat).toInt := congrArg Int32.toInt h_2
  refine And.intro (fun c_4 => ?_) (fun c_4 => ?_)
  · have c_4 : z_1.toInt < 97 := c_4
    show mp_W E X 2 26 [(0, .ref a0), (1, .int x0)] [] [(mp_ob3 a0 a1 y0 a2 y1 y2 y3 y4 y5 y6 y7), (mp_arI E a1 1 1600 f0)] 0 0
    refine mp_run mp_k_cX3_isLetter_ok hF mp_tabX3_ok [mp_c (.iconst 0) 0] (by decide +kernel) ?_
    show mp_W E X 2 27 [(0, .ref a0), (1, .int x0)] [.int 0] [(mp_ob3 a0 a1 y0 a2 y1 y2 y3 y4 y5 y6 y7), (mp_arI E a1 1 1600 f0)] 0 0
    exact mp_iret hF hQ rfl (by decide) (Nat.le_of_ble_eq_true rfl) (Nat.le_of_ble_eq_true rfl) [0, 1] (w' := [(mp_ob3 a0 a1 y0 a2 y1 y2 y3 y4 y5 y6 y7), (mp_arI E a1 1 1600 f0)]) rfl rfl (Or.inl ⟨rfl, (by first | (first | exact mp_o62 c_4 e_3 | omega) | decide | (have h8 : (0 : Int32).toInt = 0 := rfl; have h9 : (1 : Int32).toInt = 1 := rfl; have h10 : (-1 : Int32).toInt = -1 := rfl; omega)), rfl⟩) (by first | exact mp_fd_ok mp_k_cX3_isLetter_ok (by decide +kernel) | decide +kernel)
  · have c_4 : 97 ≤ z_1.toInt := c_4
    show mp_W E X 2 11 [(0, .ref a0), (1, .int x0)] [] [(mp_ob3 a0 a1 y0 a2 y1 y2 y3 y4 y5 y6 y7), (mp_arI E a1 1 1600 f0)] 0 0
    refine mp_run mp_k_cX3_isLetter_ok hF mp_tabX3_ok [mp_i (.aload_n 0), mp_h (.getfield 9) [9, 0], mp_i (.iload_n 1), mp_h .baload [1], mp_c (.bipush 122) 122, mp_h (.if_icmp .gt 7) [26]] (by decide +kernel) ?_
    refine And.intro rfl (And.intro rfl ?_)
    refine And.intro rfl (And.intro rfl (And.intro (vp_in_iff.mpr (by (first | exact mp_o61 l_x0 u_x0 | omega))) ?_))
    intro z_5 h_6
    have k_7 : z_1 = z_5 := h_2.trans h_6.symm
    subst k_7
    refine And.intro (fun c_8 => ?_) (fun c_8 => ?_)
    · have c_8 : 122 < z_1.toInt := c_8
      show mp_W E X 2 26 [(0, .ref a0), (1, .int x0)] [] [(mp_ob3 a0 a1 y0 a2 y1 y2 y3 y4 y5 y6 y7), (mp_arI E a1 1 1600 f0)] 0 0
      refine mp_run mp_k_cX3_isLetter_ok hF mp_tabX3_ok [mp_c (.iconst 0) 0] (by decide +kernel) ?_
      show mp_W E X 2 27 [(0, .ref a0), (1, .int x0)] [.int 0] [(mp_ob3 a0 a1 y0 a2 y1 y2 y3 y4 y5 y6 y7), (mp_arI E a1 1 1600 f0)] 0 0
      exact mp_iret hF hQ rfl (by decide) (Nat.le_of_ble_eq_true rfl) (Nat.le_of_ble_eq_true rfl) [0, 1] (w' := [(mp_ob3 a0 a1 y0 a2 y1 y2 y3 y4 y5 y6 y7), (mp_arI E a1 1 1600 f0)]) rfl rfl (Or.inl ⟨rfl, (by first | (first | exact mp_o63 c_8 e_3 | omega) | decide | (have h8 : (0 : Int32).toInt = 0 := rfl; have h9 : (1 : Int32).toInt = 1 := rfl; have h10 : (-1 : Int32).toInt = -1 := rfl; omega)), rfl⟩) (by first | exact mp_fd_ok mp_k_cX3_isLetter_ok (by decide +kernel) | decide +kernel)
    · have c_8 : z_1.toInt ≤ 122 := c_8
      show mp_W E X 2 22 [(0, .ref a0), (1, .int x0)] [] [(mp_ob3 a0 a1 y0 a2 y1 y2 y3 y4 y5 y6 y7), (mp_arI E a1 1 1600 f0)] 0 0
      refine mp_run mp_k_cX3_isLetter_ok hF mp_tabX3_ok [mp_c (.iconst 1) 1, mp_h (.goto 4) [27]] (by decide +kernel) ?_
      show mp_W E X 2 27 [(0, .ref a0), (1, .int x0)] [.int 1] [(mp_ob3 a0 a1 y0 a2 y1 y2 y3 y4 y5 y6 y7), (mp_arI E a1 1 1600 f0)] 0 0
      exact mp_iret hF hQ rfl (by decide) (Nat.le_of_ble_eq_true rfl) (Nat.le_of_ble_eq_true rfl) [0, 1] (w' := [(mp_ob3 a0 a1 y0 a2 y1 y2 y3 y4 y5 y6 y7), (mp_arI E a1 1 1600 f0)]) rfl rfl (Or.inr ⟨rfl, (by first | (first | exact mp_o64 c_4 e_3 c_8 | omega) | decide | (have h8 : (0 : Int32).toInt = 0 := rfl; have h9 : (1 : Int32).toInt = 1 := rfl; have h10 : (-1 : Int32).toInt = -1 := rfl; omega)), rfl⟩) (by first | exact mp_fd_ok mp_k_cX3_isLetter_ok (by decide +kernel) | decide +kernel)
set_option maxHeartbeats 4000000 in
set_option maxRecDepth 100000 in
theorem bX3_isDigit_7 (E : mp_E) (a0 a1 a2 : Nat) (f0 : Nat → Int32) (y0 : Int32) (y1 : Int32) (y2 : Int32) (y3 : Int32) (y4 : Int32) (y5 : Int32) (y6 : Int32) (y7 : Int32) (x0 : Int32) (l_x0 : 0 ≤ x0.toInt) (u_x0 : x0.toInt ≤ 1599) (l_y0 : 0 ≤ y0.toInt) (u_y0 : y0.toInt ≤ 1600) (l_y4 : 0 ≤ y4.toInt) (u_y4 : y4.toInt ≤ 1600) (l_y5 : 0 ≤ y5.toInt) (u_y5 : y5.toInt ≤ 1600) : mp_Ct E yX3_isDigit cX3_isDigit 2 (some FieldType.boolean) 0 0 0 0 [.ref a0, .int x0] [(mp_ob3 a0 a1 y0 a2 y1 y2 y3 y4 y5 y6 y7), (mp_arI E a1 1 1600 f0)] (fun v w' => (v = some (.int 0) ∧ ((f0 x0.toInt.toNat).toInt < 48 ∨ 57 < (f0 x0.toInt.toNat).toInt) ∧ w' = [(mp_ob3 a0 a1 y0 a2 y1 y2 y3 y4 y5 y6 y7), (mp_arI E a1 1 1600 f0)]) ∨ (v = some (.int 1) ∧ (48 ≤ (f0 x0.toInt.toNat).toInt ∧ (f0 x0.toInt.toNat).toInt ≤ 57) ∧ w' = [(mp_ob3 a0 a1 y0 a2 y1 y2 y3 y4 y5 y6 y7), (mp_arI E a1 1 1600 f0)])) := by
  refine mp_met false (by decide) (by decide) (Nat.le_of_ble_eq_true rfl) (fun X hF hQ => ?_)
  have hF : mp_F E X (RX3, cX3_isDigit, 2, (0, 0, 0, 0), (some FieldType.boolean), false) := hF
  show mp_W E X 2 0 [(0, .ref a0), (1, .int x0)] [] [(mp_ob3 a0 a1 y0 a2 y1 y2 y3 y4 y5 y6 y7), (mp_arI E a1 1 1600 f0)] 0 0
  refine mp_run mp_k_cX3_isDigit_ok hF mp_tabX3_ok [mp_i (.aload_n 0), mp_h (.getfield 9) [9, 0], mp_i (.iload_n 1), mp_h .baload [1], mp_c (.bipush 48) 48, mp_h (.if_icmp .lt 18) [26]] (by decide +kernel) ?_
  refine And.intro rfl (And.intro rfl ?_)
  refine And.intro rfl (And.intro rfl (And.intro (vp_in_iff.mpr (by (first | exact mp_o61 l_x0 u_x0 | omega))) ?_))
  intro z_1 h_2
  have e_3 : z_1.toInt = (f0 x0.toInt.toNat).toInt := congrArg Int32.toInt h_2
  refine And.intro (fun c_4 => ?_) (fun c_4 => ?_)
  · have c_4 : z_1.toInt < 48 := c_4
    show mp_W E X 2 26 [(0, .ref a0), (1, .int x0)] [] [(mp_ob3 a0 a1 y0 a2 y1 y2 y3 y4 y5 y6 y7), (mp_arI E a1 1 1600 f0)] 0 0
    refine mp_run mp_k_cX3_isDigit_ok hF mp_tabX3_ok [mp_c (.iconst 0) 0] (by decide +kernel) ?_
    show mp_W E X 2 27 [(0, .ref a0), (1, .int x0)] [.int 0] [(mp_ob3 a0 a1 y0 a2 y1 y2 y3 y4 y5 y6 y7), (mp_arI E a1 1 1600 f0)] 0 0
    exact mp_iret hF hQ rfl (by decide) (Nat.le_of_ble_eq_true rfl) (Nat.le_of_ble_eq_true rfl) [0, 1] (w' := [(mp_ob3 a0 a1 y0 a2 y1 y2 y3 y4 y5 y6 y7), (mp_arI E a1 1 1600 f0)]) rfl rfl (Or.inl ⟨rfl, (by first | (first | exact mp_o65 c_4 e_3 | omega) | decide | (have h8 : (0 : Int32).toInt = 0 := rfl; have h9 : (1 : Int32).toInt = 1 := rfl; have h10 : (-1 : Int32).toInt = -1 := rfl; omega)), rfl⟩) (by first | exact mp_fd_ok mp_k_cX3_isDigit_ok (by decide +kernel) | decide +kernel)
  · have c_4 : 48 ≤ z_1.toInt := c_4
    show mp_W E X 2 11 [(0, .ref a0), (1, .int x0)] [] [(mp_ob3 a0 a1 y0 a2 y1 y2 y3 y4 y5 y6 y7), (mp_arI E a1 1 1600 f0)] 0 0
    refine mp_run mp_k_cX3_isDigit_ok hF mp_tabX3_ok [mp_i (.aload_n 0), mp_h (.getfield 9) [9, 0], mp_i (.iload_n 1), mp_h .baload [1], mp_c (.bipush 57) 57, mp_h (.if_icmp .gt 7) [26]] (by decide +kernel) ?_
    refine And.intro rfl (And.intro rfl ?_)
    refine And.intro rfl (And.intro rfl (And.intro (vp_in_iff.mpr (by (first | exact mp_o61 l_x0 u_x0 | omega))) ?_))
    intro z_5 h_6
    have k_7 : z_1 = z_5 := h_2.trans h_6.symm
    subst k_7
    refine And.intro (fun c_8 => ?_) (fun c_8 => ?_)
    · have c_8 : 57 < z_1.toInt := c_8
      show mp_W E X 2 26 [(0, .ref a0), (1, .int x0)] [] [(mp_ob3 a0 a1 y0 a2 y1 y2 y3 y4 y5 y6 y7), (mp_arI E a1 1 1600 f0)] 0 0
      refine mp_run mp_k_cX3_isDigit_ok hF mp_tabX3_ok [mp_c (.iconst 0) 0] (by decide +kernel) ?_
      show mp_W E X 2 27 [(0, .ref a0), (1, .int x0)] [.int 0] [(mp_ob3 a0 a1 y0 a2 y1 y2 y3 y4 y5 y6 y7), (mp_arI E a1 1 1600 f0)] 0 0
      exact mp_iret hF hQ rfl (by decide) (Nat.le_of_ble_eq_true rfl) (Nat.le_of_ble_eq_true rfl) [0, 1] (w' := [(mp_ob3 a0 a1 y0 a2 y1 y2 y3 y4 y5 y6 y7), (mp_arI E a1 1 1600 f0)]) rfl rfl (Or.inl ⟨rfl, (by first | (first | exact mp_o66 c_8 e_3 | omega) | decide | (have h8 : (0 : Int32).toInt = 0 := rfl; have h9 : (1 : Int32).toInt = 1 := rfl; have h10 : (-1 : Int32).toInt = -1 := rfl; omega)), rfl⟩) (by first | exact mp_fd_ok mp_k_cX3_isDigit_ok (by decide +kernel) | decide +kernel)
    · have c_8 : z_1.toInt ≤ 57 := c_8
      show mp_W E X 2 22 [(0, .ref a0), (1, .int x0)] [] [(mp_ob3 a0 a1 y0 a2 y1 y2 y3 y4 y5 y6 y7), (mp_arI E a1 1 1600 f0)] 0 0
      refine mp_run mp_k_cX3_isDigit_ok hF mp_tabX3_ok [mp_c (.iconst 1) 1, mp_h (.goto 4) [27]] (by decide +kernel) ?_
      show mp_W E X 2 27 [(0, .ref a0), (1, .int x0)] [.int 1] [(mp_ob3 a0 a1 y0 a2 y1 y2 y3 y4 y5 y6 y7), (mp_arI E a1 1 1600 f0)] 0 0
      exact mp_iret hF hQ rfl (by decide) (Nat.le_of_ble_eq_true rfl) (Nat.le_of_ble_eq_true rfl) [0, 1] (w' := [(mp_ob3 a0 a1 y0 a2 y1 y2 y3 y4 y5 y6 y7), (mp_arI E a1 1 1600 f0)]) rfl rfl (Or.inr ⟨rfl, (by first | (first | exact mp_o67 c_4 e_3 c_8 | omega) | decide | (have h8 : (0 : Int32).toInt = 0 := rfl; have h9 : (1 : Int32).toInt = 1 := rfl; have h10 : (-1 : Int32).toInt = -1 := rfl; omega)), rfl⟩) (by first | exact mp_fd_ok mp_k_cX3_isDigit_ok (by decide +kernel) | decide +kernel)
set_option maxHeartbeats 4000000 in
set_option maxRecDepth 100000 in
theorem bX3_step_8 (E : mp_E) (a0 a1 a2 : Nat) (f0 : Nat → Int32) (y0 : Int32) (y1 : Int32) (y2 : Int32) (y3 : Int32) (y4 : Int32) (y5 : Int32) (y6 : Int32) (y7 : Int32) (l_y0 : 0 ≤ y0.toInt) (u_y0 : y0.toInt ≤ 1600) (l_y4 : 0 ≤ y4.toInt) (u_y4 : y4.toInt ≤ 1600) (l_y5 : 0 ≤ y5.toInt) (u_y5 : y5.toInt ≤ 1600) : mp_Ct E yX3_step cX3_step 1 none 1 0 0 21 [.ref a0] [(mp_ob3 a0 a1 y0 a2 y1 y2 y3 y4 y5 y6 y7), (mp_arI E a1 1 1600 f0)] (fun v w' => ∃ r1 : Int32, ∃ r2 : Int32, ∃ r3 : Int32, ∃ r4 : Int32, v = none ∧ 0 ≤ r1.toInt ∧ r1.toInt ≤ 4 ∧ 0 ≤ r2.toInt ∧ r2.toInt ≤ 1600 ∧ 0 ≤ r3.toInt ∧ r3.toInt ≤ 1600 ∧ 0 ≤ r4.toInt ∧ r4.toInt ≤ 100000000 ∧ (r2.toInt = ((mp_TS f0 (y0.toInt).toNat (y5.toInt).toNat : Nat) : Int)) ∧ (y5.toInt ≤ r2.toInt) ∧ (mp_CT f0 y0.toInt r1.toInt r2.toInt r3.toInt r4.toInt) ∧ w' = [(mp_ob3 a0 a1 y0 a2 y1 y2 r1 r2 r3 r4 y7), (mp_arI E a1 1 1600 f0)]) := by
  refine mp_met false (by decide) (by decide) (Nat.le_of_ble_eq_true rfl) (fun X hF hQ => ?_)
  have hF : mp_F E X (RX3, cX3_step, 1, (1, 0, 0, 21), none, false) := hF
  show mp_W E X 1 0 [(0, .ref a0)] [] [(mp_ob3 a0 a1 y0 a2 y1 y2 y3 y4 y5 y6 y7), (mp_arI E a1 1 1600 f0)] 0 0
  refine mp_run mp_k_cX3_step_ok hF mp_tabX3_ok [mp_i (.aload_n 0), mp_i (.aload_n 0), mp_h (.getfield 35) [16, 0], mp_h (.putfield 161) [15, 0]] (by decide +kernel) ?_
  refine And.intro rfl (And.intro rfl ?_)
  refine And.intro rfl (And.intro rfl (And.intro rfl (And.intro rfl (And.intro (Nat.le_of_ble_eq_true rfl) ?_))))
  show mp_W E X 1 8 [(0, .ref a0)] [] [(mp_ob3 a0 a1 y0 a2 y1 y2 y3 y5 y5 y6 y7), (mp_arI E a1 1 1600 f0)] 0 0
  have lp_7 : ∀ (d_8 : Nat) (i_1 : Int32), 0 ≤ i_1.toInt → i_1.toInt ≤ 1600 → (∀ j : Nat, (y5.toInt).toNat ≤ j → (j : Int) < i_1.toInt → mp_isSp (f0 j).toInt = true) → (y5.toInt ≤ i_1.toInt) → (i_1.toInt ≤ y0.toInt ∨ i_1.toInt = y5.toInt) → y0.toInt - i_1.toInt ≤ (d_8 : Int) → mp_W E X 1 8 [(0, .ref a0)] [] [(mp_ob3 a0 a1 y0 a2 y1 y2 y3 i_1 y5 y6 y7), (mp_arI E a1 1 1600 f0)] 0 0 := by
    intro d_8
    induction d_8 using Nat.strongRecOn with
    | ind d_8 ih_9 =>
      intro i_1 l_2 u_3 x_4 x_5 x_6 hm_10
      refine mp_run mp_k_cX3_step_ok hF mp_tabX3_ok [mp_i (.aload_n 0), mp_h (.getfield 161) [15, 0], mp_i (.aload_n 0), mp_h (.getfield 26) [10, 0], mp_h (.if_icmp .ge 44) [60]] (by decide +kernel) ?_
      refine And.intro rfl (And.intro rfl ?_)
      refine And.intro rfl (And.intro rfl ?_)
      refine And.intro (fun c_11 => ?_) (fun c_11 => ?_)
      · have c_11 : y0.toInt ≤ i_1.toInt := c_11
        show mp_W E X 1 60 [(0, .ref a0)] [] [(mp_ob3 a0 a1 y0 a2 y1 y2 y3 i_1 y5 y6 y7), (mp_arI E a1 1 1600 f0)] 0 0
        have ts_12 : mp_TS f0 (y0.toInt).toNat (y5.toInt).toNat = (i_1.toInt).toNat := mp_end_i (by (first | exact x_5 | omega)) (by (first | exact l_y5 | omega)) (by (first | exact x_6 | omega)) x_4 (by first | exact Or.inl (by (first | exact c_11 | omega)) | exact Or.inr (mp_spf (by omega)))
        have ts_13 : mp_TS f0 (y0.toInt).toNat (i_1.toInt).toNat = (i_1.toInt).toNat := mp_TS_self (by (first | exact l_2 | omega)) (by first | exact Or.inl (by (first | exact c_11 | omega)) | exact Or.inr (mp_spf (by omega)))
        refine mp_run mp_k_cX3_step_ok hF mp_tabX3_ok [mp_i (.aload_n 0), mp_i (.aload_n 0), mp_h (.getfield 161) [15, 0], mp_h (.putfield 35) [16, 0]] (by decide +kernel) ?_
        refine And.intro rfl (And.intro rfl ?_)
        refine And.intro rfl (And.intro rfl (And.intro rfl (And.intro rfl (And.intro (Nat.le_of_ble_eq_true rfl) ?_))))
        show mp_W E X 1 68 [(0, .ref a0)] [] [(mp_ob3 a0 a1 y0 a2 y1 y2 y3 i_1 i_1 y6 y7), (mp_arI E a1 1 1600 f0)] 0 0
        refine mp_run mp_k_cX3_step_ok hF mp_tabX3_ok [mp_i (.aload_n 0), mp_c (.iconst 0) 0, mp_h (.putfield 158) [17, 0]] (by decide +kernel) ?_
        refine And.intro rfl (And.intro rfl (And.intro rfl (And.intro rfl (And.intro (Nat.le_of_ble_eq_true rfl) ?_))))
        show mp_W E X 1 73 [(0, .ref a0)] [] [(mp_ob3 a0 a1 y0 a2 y1 y2 y3 i_1 i_1 0 y7), (mp_arI E a1 1 1600 f0)] 0 0
        refine mp_run mp_k_cX3_step_ok hF mp_tabX3_ok [mp_i (.aload_n 0), mp_h (.getfield 161) [15, 0], mp_i (.aload_n 0), mp_h (.getfield 26) [10, 0], mp_h (.if_icmp .lt 11) [92]] (by decide +kernel) ?_
        refine And.intro rfl (And.intro rfl ?_)
        refine And.intro rfl (And.intro rfl ?_)
        refine And.intro (fun c_14 => ?_) (fun c_14 => ?_)
        · have c_14 : i_1.toInt < y0.toInt := c_14
          show mp_W E X 1 92 [(0, .ref a0)] [] [(mp_ob3 a0 a1 y0 a2 y1 y2 y3 i_1 i_1 0 y7), (mp_arI E a1 1 1600 f0)] 0 0
          refine mp_run mp_k_cX3_step_ok hF mp_tabX3_ok [mp_i (.aload_n 0), mp_i (.aload_n 0), mp_h (.getfield 161) [15, 0]] (by decide +kernel) ?_
          refine And.intro rfl (And.intro rfl ?_)
          show mp_W E X 1 97 [(0, .ref a0)] [.int i_1, .ref a0] [(mp_ob3 a0 a1 y0 a2 y1 y2 y3 i_1 i_1 0 y7), (mp_arI E a1 1 1600 f0)] 0 0
          refine mp_callV hF (As := [.int i_1]) (rest := []) (wr := []) (bX3_isLetter_6 E a0 a1 a2 f0 y0 y1 y2 y3 i_1 i_1 0 y7 i_1 l_2 (by omega) l_y0 u_y0 l_2 u_3 l_2 u_3) mp_lkX3_173 0 rfl [0, 1] [] rfl rfl rfl rfl rfl ⟨(Nat.le_of_ble_eq_true rfl), (Nat.le_of_ble_eq_true rfl), (Nat.le_of_ble_eq_true rfl), (Nat.le_of_ble_eq_true rfl)⟩ (Nat.le_of_ble_eq_true rfl) (by first | exact mp_fd_ok mp_k_cX3_step_ok (by decide +kernel) | decide +kernel) (fun v_15 w_16 h_17 => ?_)
          rcases h_17 with ⟨rfl, x_18, rfl⟩ | ⟨rfl, x_19, rfl⟩
          · skip
            show mp_W E X 1 100 [(0, .ref a0)] [.int 0] [(mp_ob3 a0 a1 y0 a2 y1 y2 y3 i_1 i_1 0 y7), (mp_arI E a1 1 1600 f0)] 0 0
            refine mp_run mp_k_cX3_step_ok hF mp_tabX3_ok [mp_h (.ifCond .eq 43) [143]] (by decide +kernel) ?_
            refine And.intro (fun _ => ?_) (fun c_20 => absurd c_20 (by decide))
            show mp_W E X 1 143 [(0, .ref a0)] [] [(mp_ob3 a0 a1 y0 a2 y1 y2 y3 i_1 i_1 0 y7), (mp_arI E a1 1 1600 f0)] 0 0
            refine mp_run mp_k_cX3_step_ok hF mp_tabX3_ok [mp_i (.aload_n 0), mp_i (.aload_n 0), mp_h (.getfield 161) [15, 0]] (by decide +kernel) ?_
            refine And.intro rfl (And.intro rfl ?_)
            show mp_W E X 1 148 [(0, .ref a0)] [.int i_1, .ref a0] [(mp_ob3 a0 a1 y0 a2 y1 y2 y3 i_1 i_1 0 y7), (mp_arI E a1 1 1600 f0)] 0 0
            refine mp_callV hF (As := [.int i_1]) (rest := []) (wr := []) (bX3_isDigit_7 E a0 a1 a2 f0 y0 y1 y2 y3 i_1 i_1 0 y7 i_1 l_2 (by omega) l_y0 u_y0 l_2 u_3 l_2 u_3) mp_lkX3_176 0 rfl [0, 1] [] rfl rfl rfl rfl rfl ⟨(Nat.le_of_ble_eq_true rfl), (Nat.le_of_ble_eq_true rfl), (Nat.le_of_ble_eq_true rfl), (Nat.le_of_ble_eq_true rfl)⟩ (Nat.le_of_ble_eq_true rfl) (by first | exact mp_fd_ok mp_k_cX3_step_ok (by decide +kernel) | decide +kernel) (fun v_21 w_22 h_23 => ?_)
            rcases h_23 with ⟨rfl, x_24, rfl⟩ | ⟨rfl, x_25, rfl⟩
            · skip
              show mp_W E X 1 151 [(0, .ref a0)] [.int 0] [(mp_ob3 a0 a1 y0 a2 y1 y2 y3 i_1 i_1 0 y7), (mp_arI E a1 1 1600 f0)] 0 0
              refine mp_run mp_k_cX3_step_ok hF mp_tabX3_ok [mp_h (.ifCond .eq 72) [223]] (by decide +kernel) ?_
              refine And.intro (fun _ => ?_) (fun c_26 => absurd c_26 (by decide))
              show mp_W E X 1 223 [(0, .ref a0)] [] [(mp_ob3 a0 a1 y0 a2 y1 y2 y3 i_1 i_1 0 y7), (mp_arI E a1 1 1600 f0)] 0 0
              refine mp_run mp_k_cX3_step_ok hF mp_tabX3_ok [mp_i (.aload_n 0), mp_i (.aload_n 0), mp_h (.getfield 9) [9, 0], mp_i (.aload_n 0), mp_h (.getfield 161) [15, 0], mp_h .baload [1], mp_c (.bipush 59) 59, mp_h (.if_icmp .ne 7) [242]] (by decide +kernel) ?_
              refine And.intro rfl (And.intro rfl ?_)
              refine And.intro rfl (And.intro rfl ?_)
              refine And.intro rfl (And.intro rfl (And.intro (vp_in_iff.mpr (by omega)) ?_))
              intro z_27 h_28
              have e_29 : z_27.toInt = (f0 i_1.toInt.toNat).toInt := congrArg Int32.toInt h_28
              refine And.intro (fun c_30 => ?_) (fun c_30 => ?_)
              · have c_30 : z_27.toInt ≠ 59 := c_30
                show mp_W E X 1 242 [(0, .ref a0)] [.ref a0] [(mp_ob3 a0 a1 y0 a2 y1 y2 y3 i_1 i_1 0 y7), (mp_arI E a1 1 1600 f0)] 0 0
                refine mp_run mp_k_cX3_step_ok hF mp_tabX3_ok [mp_c (.iconst 4) 4, mp_h (.putfield 41) [14, 0]] (by decide +kernel) ?_
                refine And.intro rfl (And.intro rfl (And.intro rfl (And.intro rfl (And.intro (Nat.le_of_ble_eq_true rfl) ?_))))
                show mp_W E X 1 246 [(0, .ref a0)] [] [(mp_ob3 a0 a1 y0 a2 y1 y2 4 i_1 i_1 0 y7), (mp_arI E a1 1 1600 f0)] 0 0
                refine mp_run mp_k_cX3_step_ok hF mp_tabX3_ok [mp_i (.aload_n 0), mp_i .dup, mp_h (.getfield 35) [16, 0], mp_c (.iconst 1) 1, mp_i .iadd, mp_h (.putfield 35) [16, 0]] (by decide +kernel) ?_
                refine And.intro rfl ?_
                refine And.intro rfl (And.intro rfl ?_)
                intro z_31 h_32
                have e_33 : z_31.toInt = i_1.toInt + 1 := mp_add (a := i_1.toInt) (b := 1) h_32 rfl (by decide) (by omega) (by omega)
                refine And.intro rfl (And.intro rfl (And.intro rfl (And.intro rfl (And.intro (Nat.le_of_ble_eq_true rfl) ?_))))
                show mp_W E X 1 256 [(0, .ref a0)] [] [(mp_ob3 a0 a1 y0 a2 y1 y2 4 i_1 z_31 0 y7), (mp_arI E a1 1 1600 f0)] 0 0
                exact mp_vret hF hQ rfl (Nat.le_of_ble_eq_true rfl) (Nat.le_of_ble_eq_true rfl) [0, 1] (w' := [(mp_ob3 a0 a1 y0 a2 y1 y2 4 i_1 z_31 0 y7), (mp_arI E a1 1 1600 f0)]) rfl rfl ⟨4, i_1, z_31, 0, rfl, (by decide), (by decide), l_2, u_3, (by omega), (by omega), (by decide), (by decide), (by have t9 := ts_12; omega), (by (first | exact x_5 | omega)), ⟨ts_13, (by have t9 := (mp_tok3 (k := 4) ts_13 (by omega) (mp_lef x_18) (mp_dif x_24) (by omega)); rw [t9.1]; first | rfl | decide), (by have t9 := (mp_tok3 (k := 4) ts_13 (by omega) (mp_lef x_18) (mp_dif x_24) (by omega)); omega), (Or.inl (by decide))⟩, rfl⟩ (by first | exact mp_fd_ok mp_k_cX3_step_ok (by decide +kernel) | decide +kernel)
              · have c_30 : z_27.toInt = 59 := (congrArg Int32.toInt c_30)
                show mp_W E X 1 238 [(0, .ref a0)] [.ref a0] [(mp_ob3 a0 a1 y0 a2 y1 y2 y3 i_1 i_1 0 y7), (mp_arI E a1 1 1600 f0)] 0 0
                refine mp_run mp_k_cX3_step_ok hF mp_tabX3_ok [mp_c (.iconst 3) 3, mp_h (.goto 4) [243], mp_h (.putfield 41) [14, 0]] (by decide +kernel) ?_
                refine And.intro rfl (And.intro rfl (And.intro rfl (And.intro rfl (And.intro (Nat.le_of_ble_eq_true rfl) ?_))))
                show mp_W E X 1 246 [(0, .ref a0)] [] [(mp_ob3 a0 a1 y0 a2 y1 y2 3 i_1 i_1 0 y7), (mp_arI E a1 1 1600 f0)] 0 0
                refine mp_run mp_k_cX3_step_ok hF mp_tabX3_ok [mp_i (.aload_n 0), mp_i .dup, mp_h (.getfield 35) [16, 0], mp_c (.iconst 1) 1, mp_i .iadd, mp_h (.putfield 35) [16, 0]] (by decide +kernel) ?_
                refine And.intro rfl ?_
                refine And.intro rfl (And.intro rfl ?_)
                intro z_34 h_35
                have e_36 : z_34.toInt = i_1.toInt + 1 := mp_add (a := i_1.toInt) (b := 1) h_35 rfl (by decide) (by omega) (by omega)
                refine And.intro rfl (And.intro rfl (And.intro rfl (And.intro rfl (And.intro (Nat.le_of_ble_eq_true rfl) ?_))))
                show mp_W E X 1 256 [(0, .ref a0)] [] [(mp_ob3 a0 a1 y0 a2 y1 y2 3 i_1 z_34 0 y7), (mp_arI E a1 1 1600 f0)] 0 0
                exact mp_vret hF hQ rfl (Nat.le_of_ble_eq_true rfl) (Nat.le_of_ble_eq_true rfl) [0, 1] (w' := [(mp_ob3 a0 a1 y0 a2 y1 y2 3 i_1 z_34 0 y7), (mp_arI E a1 1 1600 f0)]) rfl rfl ⟨3, i_1, z_34, 0, rfl, (by decide), (by decide), l_2, u_3, (by omega), (by omega), (by decide), (by decide), (by have t9 := ts_12; omega), (by (first | exact x_5 | omega)), ⟨ts_13, (by have t9 := (mp_tok3 (k := 3) ts_13 (by omega) (mp_lef x_18) (mp_dif x_24) (by omega)); rw [t9.1]; first | rfl | decide), (by have t9 := (mp_tok3 (k := 3) ts_13 (by omega) (mp_lef x_18) (mp_dif x_24) (by omega)); omega), (Or.inl (by decide))⟩, rfl⟩ (by first | exact mp_fd_ok mp_k_cX3_step_ok (by decide +kernel) | decide +kernel)
            · skip
              show mp_W E X 1 151 [(0, .ref a0)] [.int 1] [(mp_ob3 a0 a1 y0 a2 y1 y2 y3 i_1 i_1 0 y7), (mp_arI E a1 1 1600 f0)] 0 0
              refine mp_run mp_k_cX3_step_ok hF mp_tabX3_ok [mp_h (.ifCond .eq 72) [223]] (by decide +kernel) ?_
              refine And.intro (fun c_37 => absurd c_37 (by decide)) (fun _ => ?_)
              show mp_W E X 1 154 [(0, .ref a0)] [] [(mp_ob3 a0 a1 y0 a2 y1 y2 y3 i_1 i_1 0 y7), (mp_arI E a1 1 1600 f0)] 0 0
              refine mp_run mp_k_cX3_step_ok hF mp_tabX3_ok [mp_i (.aload_n 0), mp_c (.iconst 2) 2, mp_h (.putfield 41) [14, 0]] (by decide +kernel) ?_
              refine And.intro rfl (And.intro rfl (And.intro rfl (And.intro rfl (And.intro (Nat.le_of_ble_eq_true rfl) ?_))))
              show mp_W E X 1 159 [(0, .ref a0)] [] [(mp_ob3 a0 a1 y0 a2 y1 y2 2 i_1 i_1 0 y7), (mp_arI E a1 1 1600 f0)] 0 0
              have lp_47 : ∀ (d_48 : Nat) (i_38 : Int32) (i_39 : Int32), 0 ≤ i_38.toInt → i_38.toInt ≤ 1600 → (∀ j : Nat, (i_1.toInt).toNat ≤ j → (j : Int) < i_38.toInt → mp_isDi (f0 j).toInt = true) → (i_1.toInt ≤ i_38.toInt) → (i_38.toInt ≤ y0.toInt) → (i_39.toInt = mp_cap 100000000 (mp_VV f0 (i_1.toInt).toNat (i_38.toInt - i_1.toInt).toNat)) → (0 ≤ i_39.toInt ∧ i_39.toInt ≤ 100000000) → y0.toInt - i_38.toInt ≤ (d_48 : Int) → mp_W E X 1 159 [(0, .ref a0)] [] [(mp_ob3 a0 a1 y0 a2 y1 y2 2 i_1 i_38 i_39 y7), (mp_arI E a1 1 1600 f0)] 0 0 := by
                intro d_48
                induction d_48 using Nat.strongRecOn with
                | ind d_48 ih_49 =>
                  intro i_38 i_39 l_40 u_41 x_42 x_43 x_44 x_45 x_46 hm_50
                  refine mp_run mp_k_cX3_step_ok hF mp_tabX3_ok [mp_i (.aload_n 0), mp_h (.getfield 35) [16, 0], mp_i (.aload_n 0), mp_h (.getfield 26) [10, 0], mp_h (.if_icmp .ge 89) [256]] (by decide +kernel) ?_
                  refine And.intro rfl (And.intro rfl ?_)
                  refine And.intro rfl (And.intro rfl ?_)
                  refine And.intro (fun c_51 => ?_) (fun c_51 => ?_)
                  · have c_51 : y0.toInt ≤ i_38.toInt := c_51
                    show mp_W E X 1 256 [(0, .ref a0)] [] [(mp_ob3 a0 a1 y0 a2 y1 y2 2 i_1 i_38 i_39 y7), (mp_arI E a1 1 1600 f0)] 0 0
                    exact mp_vret hF hQ rfl (Nat.le_of_ble_eq_true rfl) (Nat.le_of_ble_eq_true rfl) [0, 1] (w' := [(mp_ob3 a0 a1 y0 a2 y1 y2 2 i_1 i_38 i_39 y7), (mp_arI E a1 1 1600 f0)]) rfl rfl ⟨2, i_1, i_38, i_39, rfl, (by decide), (by decide), l_2, u_3, l_40, u_41, (by omega), (by omega), (by have t9 := ts_12; omega), (by (first | exact x_5 | omega)), ⟨ts_13, (by have t9 := (mp_tok2 ts_13 (by omega) (mp_lef x_18) (mp_dit x_25) (mp_end_i (by (first | exact x_43 | omega)) (by (first | exact l_2 | omega)) (by omega) x_42 (by first | exact Or.inl (by (first | exact c_51 | omega)) | exact Or.inr (mp_dif (by omega))))); rw [t9.1]; first | rfl | decide), (by have t9 := (mp_tok2 ts_13 (by omega) (mp_lef x_18) (mp_dit x_25) (mp_end_i (by (first | exact x_43 | omega)) (by (first | exact l_2 | omega)) (by omega) x_42 (by first | exact Or.inl (by (first | exact c_51 | omega)) | exact Or.inr (mp_dif (by omega))))); omega), (Or.inr (by have t9 := (mp_tok2 ts_13 (by omega) (mp_lef x_18) (mp_dit x_25) (mp_end_i (by (first | exact x_43 | omega)) (by (first | exact l_2 | omega)) (by omega) x_42 (by first | exact Or.inl (by (first | exact c_51 | omega)) | exact Or.inr (mp_dif (by omega))))); rw [mp_TV_eq ts_13 t9.2 (by omega)]; exact x_45))⟩, rfl⟩ (by first | exact mp_fd_ok mp_k_cX3_step_ok (by decide +kernel) | decide +kernel)
                  · have c_51 : i_38.toInt < y0.toInt := c_51
                    show mp_W E X 1 170 [(0, .ref a0)] [] [(mp_ob3 a0 a1 y0 a2 y1 y2 2 i_1 i_38 i_39 y7), (mp_arI E a1 1 1600 f0)] 0 0
                    refine mp_run mp_k_cX3_step_ok hF mp_tabX3_ok [mp_i (.aload_n 0), mp_i (.aload_n 0), mp_h (.getfield 35) [16, 0]] (by decide +kernel) ?_
                    refine And.intro rfl (And.intro rfl ?_)
                    show mp_W E X 1 175 [(0, .ref a0)] [.int i_38, .ref a0] [(mp_ob3 a0 a1 y0 a2 y1 y2 2 i_1 i_38 i_39 y7), (mp_arI E a1 1 1600 f0)] 0 0
                    refine mp_callV hF (As := [.int i_38]) (rest := []) (wr := []) (bX3_isDigit_7 E a0 a1 a2 f0 y0 y1 y2 2 i_1 i_38 i_39 y7 i_38 l_40 (by omega) l_y0 u_y0 l_2 u_3 l_40 u_41) mp_lkX3_176 0 rfl [0, 1] [] rfl rfl rfl rfl rfl ⟨(Nat.le_of_ble_eq_true rfl), (Nat.le_of_ble_eq_true rfl), (Nat.le_of_ble_eq_true rfl), (Nat.le_of_ble_eq_true rfl)⟩ (Nat.le_of_ble_eq_true rfl) (by first | exact mp_fd_ok mp_k_cX3_step_ok (by decide +kernel) | decide +kernel) (fun v_52 w_53 h_54 => ?_)
                    rcases h_54 with ⟨rfl, x_55, rfl⟩ | ⟨rfl, x_56, rfl⟩
                    · skip
                      show mp_W E X 1 178 [(0, .ref a0)] [.int 0] [(mp_ob3 a0 a1 y0 a2 y1 y2 2 i_1 i_38 i_39 y7), (mp_arI E a1 1 1600 f0)] 0 0
                      refine mp_run mp_k_cX3_step_ok hF mp_tabX3_ok [mp_h (.ifCond .eq 78) [256]] (by decide +kernel) ?_
                      refine And.intro (fun _ => ?_) (fun c_57 => absurd c_57 (by decide))
                      show mp_W E X 1 256 [(0, .ref a0)] [] [(mp_ob3 a0 a1 y0 a2 y1 y2 2 i_1 i_38 i_39 y7), (mp_arI E a1 1 1600 f0)] 0 0
                      exact mp_vret hF hQ rfl (Nat.le_of_ble_eq_true rfl) (Nat.le_of_ble_eq_true rfl) [0, 1] (w' := [(mp_ob3 a0 a1 y0 a2 y1 y2 2 i_1 i_38 i_39 y7), (mp_arI E a1 1 1600 f0)]) rfl rfl ⟨2, i_1, i_38, i_39, rfl, (by decide), (by decide), l_2, u_3, l_40, u_41, (by omega), (by omega), (by have t9 := ts_12; omega), (by (first | exact x_5 | omega)), ⟨ts_13, (by have t9 := (mp_tok2 ts_13 (by omega) (mp_lef x_18) (mp_dit x_25) (mp_end_i (by (first | exact x_43 | omega)) (by (first | exact l_2 | omega)) (by omega) x_42 (by first | exact Or.inl (by omega) | exact Or.inr (mp_dif (by omega))))); rw [t9.1]; first | rfl | decide), (by have t9 := (mp_tok2 ts_13 (by omega) (mp_lef x_18) (mp_dit x_25) (mp_end_i (by (first | exact x_43 | omega)) (by (first | exact l_2 | omega)) (by omega) x_42 (by first | exact Or.inl (by omega) | exact Or.inr (mp_dif (by omega))))); omega), (Or.inr (by have t9 := (mp_tok2 ts_13 (by omega) (mp_lef x_18) (mp_dit x_25) (mp_end_i (by (first | exact x_43 | omega)) (by (first | exact l_2 | omega)) (by omega) x_42 (by first | exact Or.inl (by omega) | exact Or.inr (mp_dif (by omega))))); rw [mp_TV_eq ts_13 t9.2 (by omega)]; exact x_45))⟩, rfl⟩ (by first | exact mp_fd_ok mp_k_cX3_step_ok (by decide +kernel) | decide +kernel)
                    · skip
                      show mp_W E X 1 178 [(0, .ref a0)] [.int 1] [(mp_ob3 a0 a1 y0 a2 y1 y2 2 i_1 i_38 i_39 y7), (mp_arI E a1 1 1600 f0)] 0 0
                      refine mp_run mp_k_cX3_step_ok hF mp_tabX3_ok [mp_h (.ifCond .eq 78) [256]] (by decide +kernel) ?_
                      refine And.intro (fun c_58 => absurd c_58 (by decide)) (fun _ => ?_)
                      show mp_W E X 1 181 [(0, .ref a0)] [] [(mp_ob3 a0 a1 y0 a2 y1 y2 2 i_1 i_38 i_39 y7), (mp_arI E a1 1 1600 f0)] 0 0
                      refine mp_run mp_k_cX3_step_ok hF mp_tabX3_ok [mp_i (.aload_n 0), mp_c (.ldc 179) 100000000, mp_c (.bipush 10) 10, mp_i (.aload_n 0), mp_h (.getfield 158) [17, 0], mp_i .imul, mp_i (.aload_n 0), mp_h (.getfield 9) [9, 0], mp_i (.aload_n 0), mp_h (.getfield 35) [16, 0], mp_h .baload [1], mp_i .iadd, mp_c (.bipush 48) 48, mp_i .isub] (by decide +kernel) ?_
                      refine And.intro rfl (And.intro rfl ?_)
                      intro z_59 h_60
                      have e_61 : z_59.toInt = 10 * i_39.toInt := mp_mul (a := 10) (b := i_39.toInt) h_60 (by decide) rfl (by omega) (by omega)
                      refine And.intro rfl (And.intro rfl ?_)
                      refine And.intro rfl (And.intro rfl ?_)
                      refine And.intro rfl (And.intro rfl (And.intro (vp_in_iff.mpr (by omega)) ?_))
                      intro z_62 h_63
                      have e_64 : z_62.toInt = (f0 i_38.toInt.toNat).toInt := congrArg Int32.toInt h_63
                      intro z_65 h_66
                      have e_67 : z_65.toInt = z_59.toInt + z_62.toInt := mp_add (a := z_59.toInt) (b := z_62.toInt) h_66 rfl rfl (by omega) (by omega)
                      intro z_68 h_69
                      have e_70 : z_68.toInt = z_65.toInt - 48 := mp_subi (a := z_65.toInt) (b := 48) h_69 rfl (by decide) (by omega) (by omega)
                      show mp_W E X 1 204 [(0, .ref a0)] [.int z_68, .int 100000000, .ref a0] [(mp_ob3 a0 a1 y0 a2 y1 y2 2 i_1 i_38 i_39 y7), (mp_arI E a1 1 1600 f0)] 0 0
                      refine mp_mmin hF (idx := 180) (mp_gm (j := 2218) (by decide +kernel)) (mp_gm (j := 2219) (by decide +kernel)) (mp_gm (j := 1013) (by decide +kernel)) (mp_gm (j := 2220) (by decide +kernel)) ⟨(Nat.le_of_ble_eq_true rfl), (Nat.le_of_ble_eq_true rfl), (Nat.le_of_ble_eq_true rfl), (Nat.le_of_ble_eq_true rfl)⟩ (by first | exact mp_fd_ok mp_k_cX3_step_ok (by decide +kernel) | decide +kernel) (fun z_71 m_72 m_73 m_74 => ?_)
                      have m_73 : z_71.toInt ≤ 100000000 := m_73
                      have m_74 : z_71.toInt ≤ z_68.toInt := m_74
                      have m_72 : z_71.toInt = 100000000 ∨ z_71.toInt = z_68.toInt := m_72
                      show mp_W E X 1 207 [(0, .ref a0)] [.int z_71, .ref a0] [(mp_ob3 a0 a1 y0 a2 y1 y2 2 i_1 i_38 i_39 y7), (mp_arI E a1 1 1600 f0)] 0 0
                      refine mp_run mp_k_cX3_step_ok hF mp_tabX3_ok [mp_h (.putfield 158) [17, 0]] (by decide +kernel) ?_
                      refine And.intro rfl (And.intro rfl (And.intro rfl (And.intro rfl (And.intro (Nat.le_of_ble_eq_true rfl) ?_))))
                      show mp_W E X 1 210 [(0, .ref a0)] [] [(mp_ob3 a0 a1 y0 a2 y1 y2 2 i_1 i_38 z_71 y7), (mp_arI E a1 1 1600 f0)] 0 0
                      refine mp_run mp_k_cX3_step_ok hF mp_tabX3_ok [mp_i (.aload_n 0), mp_i .dup, mp_h (.getfield 35) [16, 0], mp_c (.iconst 1) 1, mp_i .iadd, mp_h (.putfield 35) [16, 0]] (by decide +kernel) ?_
                      refine And.intro rfl ?_
                      refine And.intro rfl (And.intro rfl ?_)
                      intro z_75 h_76
                      have e_77 : z_75.toInt = i_38.toInt + 1 := mp_add (a := i_38.toInt) (b := 1) h_76 rfl (by decide) (by omega) (by omega)
                      refine And.intro rfl (And.intro rfl (And.intro rfl (And.intro rfl (And.intro (Nat.le_of_ble_eq_true rfl) ?_))))
                      show mp_W E X 1 220 [(0, .ref a0)] [] [(mp_ob3 a0 a1 y0 a2 y1 y2 2 i_1 z_75 z_71 y7), (mp_arI E a1 1 1600 f0)] 0 0
                      refine mp_run mp_k_cX3_step_ok hF mp_tabX3_ok [mp_h (.goto (-61)) [159]] (by decide +kernel) ?_
                      show mp_W E X 1 159 [(0, .ref a0)] [] [(mp_ob3 a0 a1 y0 a2 y1 y2 2 i_1 z_75 z_71 y7), (mp_arI E a1 1 1600 f0)] 0 0
                      exact mp_sub [0] rfl [0, 1] rfl rfl (ih_49 (d_48 - 1) (by omega) z_75 z_71 (by omega) (by omega) (mp_all_s x_42 (mp_dit (by (first | exact x_56 | omega))) (by omega)) (by omega) (by omega) (by rw [mp_VV_s (c := i_38.toInt) (by omega)]; exact mp_cap_s x_45 (by decide) (by omega) (mp_VV_i (by omega) x_42) (by omega)) (by omega) (by omega))
              exact mp_sub [0] rfl [0, 1] rfl rfl (lp_47 _ i_1 0 l_2 u_3 (mp_all_0 (by omega)) (by omega) (by omega) (by rw [show (i_1.toInt - i_1.toInt).toNat = 0 by omega]; rfl) (by first | decide | omega) (Int.self_le_toNat _))
          · skip
            show mp_W E X 1 100 [(0, .ref a0)] [.int 1] [(mp_ob3 a0 a1 y0 a2 y1 y2 y3 i_1 i_1 0 y7), (mp_arI E a1 1 1600 f0)] 0 0
            refine mp_run mp_k_cX3_step_ok hF mp_tabX3_ok [mp_h (.ifCond .eq 43) [143]] (by decide +kernel) ?_
            refine And.intro (fun c_78 => absurd c_78 (by decide)) (fun _ => ?_)
            show mp_W E X 1 103 [(0, .ref a0)] [] [(mp_ob3 a0 a1 y0 a2 y1 y2 y3 i_1 i_1 0 y7), (mp_arI E a1 1 1600 f0)] 0 0
            refine mp_run mp_k_cX3_step_ok hF mp_tabX3_ok [mp_i (.aload_n 0), mp_c (.iconst 1) 1, mp_h (.putfield 41) [14, 0]] (by decide +kernel) ?_
            refine And.intro rfl (And.intro rfl (And.intro rfl (And.intro rfl (And.intro (Nat.le_of_ble_eq_true rfl) ?_))))
            show mp_W E X 1 108 [(0, .ref a0)] [] [(mp_ob3 a0 a1 y0 a2 y1 y2 1 i_1 i_1 0 y7), (mp_arI E a1 1 1600 f0)] 0 0
            have lp_85 : ∀ (d_86 : Nat) (i_79 : Int32), 0 ≤ i_79.toInt → i_79.toInt ≤ 1600 → (∀ j : Nat, (i_1.toInt).toNat ≤ j → (j : Int) < i_79.toInt → mp_isLe (f0 j).toInt = true) → (i_1.toInt ≤ i_79.toInt) → (i_79.toInt ≤ y0.toInt) → y0.toInt - i_79.toInt ≤ (d_86 : Int) → mp_W E X 1 108 [(0, .ref a0)] [] [(mp_ob3 a0 a1 y0 a2 y1 y2 1 i_1 i_79 0 y7), (mp_arI E a1 1 1600 f0)] 0 0 := by
              intro d_86
              induction d_86 using Nat.strongRecOn with
              | ind d_86 ih_87 =>
                intro i_79 l_80 u_81 x_82 x_83 x_84 hm_88
                refine mp_run mp_k_cX3_step_ok hF mp_tabX3_ok [mp_i (.aload_n 0), mp_h (.getfield 35) [16, 0], mp_i (.aload_n 0), mp_h (.getfield 26) [10, 0], mp_h (.if_icmp .ge 140) [256]] (by decide +kernel) ?_
                refine And.intro rfl (And.intro rfl ?_)
                refine And.intro rfl (And.intro rfl ?_)
                refine And.intro (fun c_89 => ?_) (fun c_89 => ?_)
                · have c_89 : y0.toInt ≤ i_79.toInt := c_89
                  show mp_W E X 1 256 [(0, .ref a0)] [] [(mp_ob3 a0 a1 y0 a2 y1 y2 1 i_1 i_79 0 y7), (mp_arI E a1 1 1600 f0)] 0 0
                  exact mp_vret hF hQ rfl (Nat.le_of_ble_eq_true rfl) (Nat.le_of_ble_eq_true rfl) [0, 1] (w' := [(mp_ob3 a0 a1 y0 a2 y1 y2 1 i_1 i_79 0 y7), (mp_arI E a1 1 1600 f0)]) rfl rfl ⟨1, i_1, i_79, 0, rfl, (by decide), (by decide), l_2, u_3, l_80, u_81, (by decide), (by decide), (by have t9 := ts_12; omega), (by (first | exact x_5 | omega)), ⟨ts_13, (by have t9 := (mp_tok1 ts_13 (by omega) (mp_let x_19) (mp_end_i (by (first | exact x_83 | omega)) (by (first | exact l_2 | omega)) (by omega) x_82 (by first | exact Or.inl (by (first | exact c_89 | omega)) | exact Or.inr (mp_lef (by omega))))); rw [t9.1]; first | rfl | decide), (by have t9 := (mp_tok1 ts_13 (by omega) (mp_let x_19) (mp_end_i (by (first | exact x_83 | omega)) (by (first | exact l_2 | omega)) (by omega) x_82 (by first | exact Or.inl (by (first | exact c_89 | omega)) | exact Or.inr (mp_lef (by omega))))); omega), (Or.inl (by decide))⟩, rfl⟩ (by first | exact mp_fd_ok mp_k_cX3_step_ok (by decide +kernel) | decide +kernel)
                · have c_89 : i_79.toInt < y0.toInt := c_89
                  show mp_W E X 1 119 [(0, .ref a0)] [] [(mp_ob3 a0 a1 y0 a2 y1 y2 1 i_1 i_79 0 y7), (mp_arI E a1 1 1600 f0)] 0 0
                  refine mp_run mp_k_cX3_step_ok hF mp_tabX3_ok [mp_i (.aload_n 0), mp_i (.aload_n 0), mp_h (.getfield 35) [16, 0]] (by decide +kernel) ?_
                  refine And.intro rfl (And.intro rfl ?_)
                  show mp_W E X 1 124 [(0, .ref a0)] [.int i_79, .ref a0] [(mp_ob3 a0 a1 y0 a2 y1 y2 1 i_1 i_79 0 y7), (mp_arI E a1 1 1600 f0)] 0 0
                  refine mp_callV hF (As := [.int i_79]) (rest := []) (wr := []) (bX3_isLetter_6 E a0 a1 a2 f0 y0 y1 y2 1 i_1 i_79 0 y7 i_79 l_80 (by omega) l_y0 u_y0 l_2 u_3 l_80 u_81) mp_lkX3_173 0 rfl [0, 1] [] rfl rfl rfl rfl rfl ⟨(Nat.le_of_ble_eq_true rfl), (Nat.le_of_ble_eq_true rfl), (Nat.le_of_ble_eq_true rfl), (Nat.le_of_ble_eq_true rfl)⟩ (Nat.le_of_ble_eq_true rfl) (by first | exact mp_fd_ok mp_k_cX3_step_ok (by decide +kernel) | decide +kernel) (fun v_90 w_91 h_92 => ?_)
                  rcases h_92 with ⟨rfl, x_93, rfl⟩ | ⟨rfl, x_94, rfl⟩
                  · skip
                    show mp_W E X 1 127 [(0, .ref a0)] [.int 0] [(mp_ob3 a0 a1 y0 a2 y1 y2 1 i_1 i_79 0 y7), (mp_arI E a1 1 1600 f0)] 0 0
                    refine mp_run mp_k_cX3_step_ok hF mp_tabX3_ok [mp_h (.ifCond .eq 129) [256]] (by decide +kernel) ?_
                    refine And.intro (fun _ => ?_) (fun c_95 => absurd c_95 (by decide))
                    show mp_W E X 1 256 [(0, .ref a0)] [] [(mp_ob3 a0 a1 y0 a2 y1 y2 1 i_1 i_79 0 y7), (mp_arI E a1 1 1600 f0)] 0 0
                    exact mp_vret hF hQ rfl (Nat.le_of_ble_eq_true rfl) (Nat.le_of_ble_eq_true rfl) [0, 1] (w' := [(mp_ob3 a0 a1 y0 a2 y1 y2 1 i_1 i_79 0 y7), (mp_arI E a1 1 1600 f0)]) rfl rfl ⟨1, i_1, i_79, 0, rfl, (by decide), (by decide), l_2, u_3, l_80, u_81, (by decide), (by decide), (by have t9 := ts_12; omega), (by (first | exact x_5 | omega)), ⟨ts_13, (by have t9 := (mp_tok1 ts_13 (by omega) (mp_let x_19) (mp_end_i (by (first | exact x_83 | omega)) (by (first | exact l_2 | omega)) (by omega) x_82 (by first | exact Or.inl (by omega) | exact Or.inr (mp_lef (by omega))))); rw [t9.1]; first | rfl | decide), (by have t9 := (mp_tok1 ts_13 (by omega) (mp_let x_19) (mp_end_i (by (first | exact x_83 | omega)) (by (first | exact l_2 | omega)) (by omega) x_82 (by first | exact Or.inl (by omega) | exact Or.inr (mp_lef (by omega))))); omega), (Or.inl (by decide))⟩, rfl⟩ (by first | exact mp_fd_ok mp_k_cX3_step_ok (by decide +kernel) | decide +kernel)
                  · skip
                    show mp_W E X 1 127 [(0, .ref a0)] [.int 1] [(mp_ob3 a0 a1 y0 a2 y1 y2 1 i_1 i_79 0 y7), (mp_arI E a1 1 1600 f0)] 0 0
                    refine mp_run mp_k_cX3_step_ok hF mp_tabX3_ok [mp_h (.ifCond .eq 129) [256]] (by decide +kernel) ?_
                    refine And.intro (fun c_96 => absurd c_96 (by decide)) (fun _ => ?_)
                    show mp_W E X 1 130 [(0, .ref a0)] [] [(mp_ob3 a0 a1 y0 a2 y1 y2 1 i_1 i_79 0 y7), (mp_arI E a1 1 1600 f0)] 0 0
                    refine mp_run mp_k_cX3_step_ok hF mp_tabX3_ok [mp_i (.aload_n 0), mp_i .dup, mp_h (.getfield 35) [16, 0], mp_c (.iconst 1) 1, mp_i .iadd, mp_h (.putfield 35) [16, 0]] (by decide +kernel) ?_
                    refine And.intro rfl ?_
                    refine And.intro rfl (And.intro rfl ?_)
                    intro z_97 h_98
                    have e_99 : z_97.toInt = i_79.toInt + 1 := mp_add (a := i_79.toInt) (b := 1) h_98 rfl (by decide) (by omega) (by omega)
                    refine And.intro rfl (And.intro rfl (And.intro rfl (And.intro rfl (And.intro (Nat.le_of_ble_eq_true rfl) ?_))))
                    show mp_W E X 1 140 [(0, .ref a0)] [] [(mp_ob3 a0 a1 y0 a2 y1 y2 1 i_1 z_97 0 y7), (mp_arI E a1 1 1600 f0)] 0 0
                    refine mp_run mp_k_cX3_step_ok hF mp_tabX3_ok [mp_h (.goto (-32)) [108]] (by decide +kernel) ?_
                    show mp_W E X 1 108 [(0, .ref a0)] [] [(mp_ob3 a0 a1 y0 a2 y1 y2 1 i_1 z_97 0 y7), (mp_arI E a1 1 1600 f0)] 0 0
                    exact mp_sub [0] rfl [0, 1] rfl rfl (ih_87 (d_86 - 1) (by omega) z_97 (by omega) (by omega) (mp_all_s x_82 (mp_let (by (first | exact x_94 | omega))) (by omega)) (by omega) (by omega) (by omega))
            exact mp_sub [0] rfl [0, 1] rfl rfl (lp_85 _ i_1 l_2 u_3 (mp_all_0 (by omega)) (by omega) (by omega) (Int.self_le_toNat _))
        · have c_14 : y0.toInt ≤ i_1.toInt := c_14
          show mp_W E X 1 84 [(0, .ref a0)] [] [(mp_ob3 a0 a1 y0 a2 y1 y2 y3 i_1 i_1 0 y7), (mp_arI E a1 1 1600 f0)] 0 0
          refine mp_run mp_k_cX3_step_ok hF mp_tabX3_ok [mp_i (.aload_n 0), mp_c (.iconst 0) 0, mp_h (.putfield 41) [14, 0]] (by decide +kernel) ?_
          refine And.intro rfl (And.intro rfl (And.intro rfl (And.intro rfl (And.intro (Nat.le_of_ble_eq_true rfl) ?_))))
          show mp_W E X 1 89 [(0, .ref a0)] [] [(mp_ob3 a0 a1 y0 a2 y1 y2 0 i_1 i_1 0 y7), (mp_arI E a1 1 1600 f0)] 0 0
          refine mp_run mp_k_cX3_step_ok hF mp_tabX3_ok [mp_h (.goto 167) [256]] (by decide +kernel) ?_
          show mp_W E X 1 256 [(0, .ref a0)] [] [(mp_ob3 a0 a1 y0 a2 y1 y2 0 i_1 i_1 0 y7), (mp_arI E a1 1 1600 f0)] 0 0
          exact mp_vret hF hQ rfl (Nat.le_of_ble_eq_true rfl) (Nat.le_of_ble_eq_true rfl) [0, 1] (w' := [(mp_ob3 a0 a1 y0 a2 y1 y2 0 i_1 i_1 0 y7), (mp_arI E a1 1 1600 f0)]) rfl rfl ⟨0, i_1, i_1, 0, rfl, (by decide), (by decide), l_2, u_3, l_2, u_3, (by decide), (by decide), (by have t9 := ts_12; (first | exact mp_o68 l_2 ts_12 | omega)), (by (first | exact x_5 | omega)), ⟨ts_13, (by have t9 := (mp_tok0 ts_13 (by (first | exact c_14 | omega))); rw [t9.1]; first | rfl | decide), (by have t9 := (mp_tok0 ts_13 (by (first | exact c_14 | omega))); (first | exact mp_o69 l_2 t9 | omega)), (Or.inl (by decide))⟩, rfl⟩ (by first | exact mp_fd_ok mp_k_cX3_step_ok (by decide +kernel) | decide +kernel)
      · have c_11 : i_1.toInt < y0.toInt := c_11
        show mp_W E X 1 19 [(0, .ref a0)] [] [(mp_ob3 a0 a1 y0 a2 y1 y2 y3 i_1 y5 y6 y7), (mp_arI E a1 1 1600 f0)] 0 0
        refine mp_run mp_k_cX3_step_ok hF mp_tabX3_ok [mp_i (.aload_n 0), mp_h (.getfield 9) [9, 0], mp_i (.aload_n 0), mp_h (.getfield 161) [15, 0], mp_h .baload [1], mp_c (.bipush 32) 32, mp_h (.if_icmp .eq 17) [47]] (by decide +kernel) ?_
        refine And.intro rfl (And.intro rfl ?_)
        refine And.intro rfl (And.intro rfl ?_)
        refine And.intro rfl (And.intro rfl (And.intro (vp_in_iff.mpr (by (first | exact mp_o70 l_2 u_y0 c_11 | omega))) ?_))
        intro z_100 h_101
        have e_102 : z_100.toInt = (f0 i_1.toInt.toNat).toInt := congrArg Int32.toInt h_101
        refine And.intro (fun c_103 => ?_) (fun c_103 => ?_)
        · have c_103 : z_100.toInt = 32 := (congrArg Int32.toInt c_103)
          show mp_W E X 1 47 [(0, .ref a0)] [] [(mp_ob3 a0 a1 y0 a2 y1 y2 y3 i_1 y5 y6 y7), (mp_arI E a1 1 1600 f0)] 0 0
          refine mp_run mp_k_cX3_step_ok hF mp_tabX3_ok [mp_i (.aload_n 0), mp_i .dup, mp_h (.getfield 161) [15, 0], mp_c (.iconst 1) 1, mp_i .iadd, mp_h (.putfield 161) [15, 0]] (by decide +kernel) ?_
          refine And.intro rfl ?_
          refine And.intro rfl (And.intro rfl ?_)
          intro z_104 h_105
          have e_106 : z_104.toInt = i_1.toInt + 1 := mp_add (a := i_1.toInt) (b := 1) h_105 rfl (by decide) (by (first | exact mp_o2 l_2 | omega)) (by (first | exact mp_o71 u_3 | omega))
          refine And.intro rfl (And.intro rfl (And.intro rfl (And.intro rfl (And.intro (Nat.le_of_ble_eq_true rfl) ?_))))
          show mp_W E X 1 57 [(0, .ref a0)] [] [(mp_ob3 a0 a1 y0 a2 y1 y2 y3 z_104 y5 y6 y7), (mp_arI E a1 1 1600 f0)] 0 0
          refine mp_run mp_k_cX3_step_ok hF mp_tabX3_ok [mp_h (.goto (-49)) [8]] (by decide +kernel) ?_
          show mp_W E X 1 8 [(0, .ref a0)] [] [(mp_ob3 a0 a1 y0 a2 y1 y2 y3 z_104 y5 y6 y7), (mp_arI E a1 1 1600 f0)] 0 0
          exact mp_sub [0] rfl [0, 1] rfl rfl (ih_9 (d_8 - 1) (by (first | exact mp_o72 hm_10 c_11 | omega)) z_104 (by (first | exact mp_o51 l_2 e_106 | omega)) (by (first | exact mp_o73 u_y0 c_11 e_106 | omega)) (mp_all_s x_4 (mp_spt (by (first | exact mp_o74 c_103 e_102 | omega))) (by (first | exact mp_o53 l_2 e_106 | omega))) (by (first | exact mp_o75 x_5 e_106 | omega)) (by (first | exact mp_o76 c_11 e_106 | omega)) (by (first | exact mp_o77 hm_10 e_106 | omega)))
        · have c_103 : z_100.toInt ≠ 32 := c_103
          show mp_W E X 1 33 [(0, .ref a0)] [] [(mp_ob3 a0 a1 y0 a2 y1 y2 y3 i_1 y5 y6 y7), (mp_arI E a1 1 1600 f0)] 0 0
          refine mp_run mp_k_cX3_step_ok hF mp_tabX3_ok [mp_i (.aload_n 0), mp_h (.getfield 9) [9, 0], mp_i (.aload_n 0), mp_h (.getfield 161) [15, 0], mp_h .baload [1], mp_c (.bipush 10) 10, mp_h (.if_icmp .ne 16) [60]] (by decide +kernel) ?_
          refine And.intro rfl (And.intro rfl ?_)
          refine And.intro rfl (And.intro rfl ?_)
          refine And.intro rfl (And.intro rfl (And.intro (vp_in_iff.mpr (by (first | exact mp_o70 l_2 u_y0 c_11 | omega))) ?_))
          intro z_107 h_108
          have k_109 : z_100 = z_107 := h_101.trans h_108.symm
          subst k_109
          refine And.intro (fun c_110 => ?_) (fun c_110 => ?_)
          · have c_110 : z_100.toInt ≠ 10 := c_110
            show mp_W E X 1 60 [(0, .ref a0)] [] [(mp_ob3 a0 a1 y0 a2 y1 y2 y3 i_1 y5 y6 y7), (mp_arI E a1 1 1600 f0)] 0 0
            have ts_111 : mp_TS f0 (y0.toInt).toNat (y5.toInt).toNat = (i_1.toInt).toNat := mp_end_i (by (first | exact x_5 | omega)) (by (first | exact l_y5 | omega)) (by (first | exact x_6 | omega)) x_4 (by first | exact Or.inl (by omega) | exact Or.inr (mp_spf (by (first | exact mp_o78 e_102 c_110 c_103 | omega))))
            have ts_112 : mp_TS f0 (y0.toInt).toNat (i_1.toInt).toNat = (i_1.toInt).toNat := mp_TS_self (by (first | exact l_2 | omega)) (by first | exact Or.inl (by omega) | exact Or.inr (mp_spf (by (first | exact mp_o78 e_102 c_110 c_103 | omega))))
            refine mp_run mp_k_cX3_step_ok hF mp_tabX3_ok [mp_i (.aload_n 0), mp_i (.aload_n 0), mp_h (.getfield 161) [15, 0], mp_h (.putfield 35) [16, 0]] (by decide +kernel) ?_
            refine And.intro rfl (And.intro rfl ?_)
            refine And.intro rfl (And.intro rfl (And.intro rfl (And.intro rfl (And.intro (Nat.le_of_ble_eq_true rfl) ?_))))
            show mp_W E X 1 68 [(0, .ref a0)] [] [(mp_ob3 a0 a1 y0 a2 y1 y2 y3 i_1 i_1 y6 y7), (mp_arI E a1 1 1600 f0)] 0 0
            refine mp_run mp_k_cX3_step_ok hF mp_tabX3_ok [mp_i (.aload_n 0), mp_c (.iconst 0) 0, mp_h (.putfield 158) [17, 0]] (by decide +kernel) ?_
            refine And.intro rfl (And.intro rfl (And.intro rfl (And.intro rfl (And.intro (Nat.le_of_ble_eq_true rfl) ?_))))
            show mp_W E X 1 73 [(0, .ref a0)] [] [(mp_ob3 a0 a1 y0 a2 y1 y2 y3 i_1 i_1 0 y7), (mp_arI E a1 1 1600 f0)] 0 0
            refine mp_run mp_k_cX3_step_ok hF mp_tabX3_ok [mp_i (.aload_n 0), mp_h (.getfield 161) [15, 0], mp_i (.aload_n 0), mp_h (.getfield 26) [10, 0], mp_h (.if_icmp .lt 11) [92]] (by decide +kernel) ?_
            refine And.intro rfl (And.intro rfl ?_)
            refine And.intro rfl (And.intro rfl ?_)
            refine And.intro (fun c_113 => ?_) (fun c_113 => ?_)
            · have c_113 : i_1.toInt < y0.toInt := c_113
              show mp_W E X 1 92 [(0, .ref a0)] [] [(mp_ob3 a0 a1 y0 a2 y1 y2 y3 i_1 i_1 0 y7), (mp_arI E a1 1 1600 f0)] 0 0
              refine mp_run mp_k_cX3_step_ok hF mp_tabX3_ok [mp_i (.aload_n 0), mp_i (.aload_n 0), mp_h (.getfield 161) [15, 0]] (by decide +kernel) ?_
              refine And.intro rfl (And.intro rfl ?_)
              show mp_W E X 1 97 [(0, .ref a0)] [.int i_1, .ref a0] [(mp_ob3 a0 a1 y0 a2 y1 y2 y3 i_1 i_1 0 y7), (mp_arI E a1 1 1600 f0)] 0 0
              refine mp_callV hF (As := [.int i_1]) (rest := []) (wr := []) (bX3_isLetter_6 E a0 a1 a2 f0 y0 y1 y2 y3 i_1 i_1 0 y7 i_1 l_2 (by (first | exact mp_o79 u_y0 c_11 | omega)) l_y0 u_y0 l_2 u_3 l_2 u_3) mp_lkX3_173 0 rfl [0, 1] [] rfl rfl rfl rfl rfl ⟨(Nat.le_of_ble_eq_true rfl), (Nat.le_of_ble_eq_true rfl), (Nat.le_of_ble_eq_true rfl), (Nat.le_of_ble_eq_true rfl)⟩ (Nat.le_of_ble_eq_true rfl) (by first | exact mp_fd_ok mp_k_cX3_step_ok (by decide +kernel) | decide +kernel) (fun v_114 w_115 h_116 => ?_)
              rcases h_116 with ⟨rfl, x_117, rfl⟩ | ⟨rfl, x_118, rfl⟩
              · skip
                show mp_W E X 1 100 [(0, .ref a0)] [.int 0] [(mp_ob3 a0 a1 y0 a2 y1 y2 y3 i_1 i_1 0 y7), (mp_arI E a1 1 1600 f0)] 0 0
                refine mp_run mp_k_cX3_step_ok hF mp_tabX3_ok [mp_h (.ifCond .eq 43) [143]] (by decide +kernel) ?_
                refine And.intro (fun _ => ?_) (fun c_119 => absurd c_119 (by decide))
                show mp_W E X 1 143 [(0, .ref a0)] [] [(mp_ob3 a0 a1 y0 a2 y1 y2 y3 i_1 i_1 0 y7), (mp_arI E a1 1 1600 f0)] 0 0
                refine mp_run mp_k_cX3_step_ok hF mp_tabX3_ok [mp_i (.aload_n 0), mp_i (.aload_n 0), mp_h (.getfield 161) [15, 0]] (by decide +kernel) ?_
                refine And.intro rfl (And.intro rfl ?_)
                show mp_W E X 1 148 [(0, .ref a0)] [.int i_1, .ref a0] [(mp_ob3 a0 a1 y0 a2 y1 y2 y3 i_1 i_1 0 y7), (mp_arI E a1 1 1600 f0)] 0 0
                refine mp_callV hF (As := [.int i_1]) (rest := []) (wr := []) (bX3_isDigit_7 E a0 a1 a2 f0 y0 y1 y2 y3 i_1 i_1 0 y7 i_1 l_2 (by (first | exact mp_o79 u_y0 c_11 | omega)) l_y0 u_y0 l_2 u_3 l_2 u_3) mp_lkX3_176 0 rfl [0, 1] [] rfl rfl rfl rfl rfl ⟨(Nat.le_of_ble_eq_true rfl), (Nat.le_of_ble_eq_true rfl), (Nat.le_of_ble_eq_true rfl), (Nat.le_of_ble_eq_true rfl)⟩ (Nat.le_of_ble_eq_true rfl) (by first | exact mp_fd_ok mp_k_cX3_step_ok (by decide +kernel) | decide +kernel) (fun v_120 w_121 h_122 => ?_)
                rcases h_122 with ⟨rfl, x_123, rfl⟩ | ⟨rfl, x_124, rfl⟩
                · skip
                  show mp_W E X 1 151 [(0, .ref a0)] [.int 0] [(mp_ob3 a0 a1 y0 a2 y1 y2 y3 i_1 i_1 0 y7), (mp_arI E a1 1 1600 f0)] 0 0
                  refine mp_run mp_k_cX3_step_ok hF mp_tabX3_ok [mp_h (.ifCond .eq 72) [223]] (by decide +kernel) ?_
                  refine And.intro (fun _ => ?_) (fun c_125 => absurd c_125 (by decide))
                  show mp_W E X 1 223 [(0, .ref a0)] [] [(mp_ob3 a0 a1 y0 a2 y1 y2 y3 i_1 i_1 0 y7), (mp_arI E a1 1 1600 f0)] 0 0
                  refine mp_run mp_k_cX3_step_ok hF mp_tabX3_ok [mp_i (.aload_n 0), mp_i (.aload_n 0), mp_h (.getfield 9) [9, 0], mp_i (.aload_n 0), mp_h (.getfield 161) [15, 0], mp_h .baload [1], mp_c (.bipush 59) 59, mp_h (.if_icmp .ne 7) [242]] (by decide +kernel) ?_
                  refine And.intro rfl (And.intro rfl ?_)
                  refine And.intro rfl (And.intro rfl ?_)
                  refine And.intro rfl (And.intro rfl (And.intro (vp_in_iff.mpr (by (first | exact mp_o70 l_2 u_y0 c_11 | omega))) ?_))
                  intro z_126 h_127
                  have k_128 : z_100 = z_126 := h_101.trans h_127.symm
                  subst k_128
                  refine And.intro (fun c_129 => ?_) (fun c_129 => ?_)
                  · have c_129 : z_100.toInt ≠ 59 := c_129
                    show mp_W E X 1 242 [(0, .ref a0)] [.ref a0] [(mp_ob3 a0 a1 y0 a2 y1 y2 y3 i_1 i_1 0 y7), (mp_arI E a1 1 1600 f0)] 0 0
                    refine mp_run mp_k_cX3_step_ok hF mp_tabX3_ok [mp_c (.iconst 4) 4, mp_h (.putfield 41) [14, 0]] (by decide +kernel) ?_
                    refine And.intro rfl (And.intro rfl (And.intro rfl (And.intro rfl (And.intro (Nat.le_of_ble_eq_true rfl) ?_))))
                    show mp_W E X 1 246 [(0, .ref a0)] [] [(mp_ob3 a0 a1 y0 a2 y1 y2 4 i_1 i_1 0 y7), (mp_arI E a1 1 1600 f0)] 0 0
                    refine mp_run mp_k_cX3_step_ok hF mp_tabX3_ok [mp_i (.aload_n 0), mp_i .dup, mp_h (.getfield 35) [16, 0], mp_c (.iconst 1) 1, mp_i .iadd, mp_h (.putfield 35) [16, 0]] (by decide +kernel) ?_
                    refine And.intro rfl ?_
                    refine And.intro rfl (And.intro rfl ?_)
                    intro z_130 h_131
                    have e_132 : z_130.toInt = i_1.toInt + 1 := mp_add (a := i_1.toInt) (b := 1) h_131 rfl (by decide) (by (first | exact mp_o2 l_2 | omega)) (by (first | exact mp_o71 u_3 | omega))
                    refine And.intro rfl (And.intro rfl (And.intro rfl (And.intro rfl (And.intro (Nat.le_of_ble_eq_true rfl) ?_))))
                    show mp_W E X 1 256 [(0, .ref a0)] [] [(mp_ob3 a0 a1 y0 a2 y1 y2 4 i_1 z_130 0 y7), (mp_arI E a1 1 1600 f0)] 0 0
                    exact mp_vret hF hQ rfl (Nat.le_of_ble_eq_true rfl) (Nat.le_of_ble_eq_true rfl) [0, 1] (w' := [(mp_ob3 a0 a1 y0 a2 y1 y2 4 i_1 z_130 0 y7), (mp_arI E a1 1 1600 f0)]) rfl rfl ⟨4, i_1, z_130, 0, rfl, (by decide), (by decide), l_2, u_3, (by (first | exact mp_o69 l_2 e_132 | omega)), (by omega), (by decide), (by decide), (by have t9 := ts_111; (first | exact mp_o68 l_2 ts_111 | omega)), (by (first | exact x_5 | omega)), ⟨ts_112, (by have t9 := (mp_tok3 (k := 4) ts_112 (by (first | exact mp_o80 l_2 c_11 | omega)) (mp_lef x_117) (mp_dif x_123) (by (first | exact mp_o81 e_102 c_129 | omega))); rw [t9.1]; first | rfl | decide), (by have t9 := (mp_tok3 (k := 4) ts_112 (by (first | exact mp_o80 l_2 c_11 | omega)) (mp_lef x_117) (mp_dif x_123) (by (first | exact mp_o81 e_102 c_129 | omega))); (first | exact mp_o82 l_2 e_132 t9 | omega)), (Or.inl (by decide))⟩, rfl⟩ (by first | exact mp_fd_ok mp_k_cX3_step_ok (by decide +kernel) | decide +kernel)
                  · have c_129 : z_100.toInt = 59 := (congrArg Int32.toInt c_129)
                    show mp_W E X 1 238 [(0, .ref a0)] [.ref a0] [(mp_ob3 a0 a1 y0 a2 y1 y2 y3 i_1 i_1 0 y7), (mp_arI E a1 1 1600 f0)] 0 0
                    refine mp_run mp_k_cX3_step_ok hF mp_tabX3_ok [mp_c (.iconst 3) 3, mp_h (.goto 4) [243], mp_h (.putfield 41) [14, 0]] (by decide +kernel) ?_
                    refine And.intro rfl (And.intro rfl (And.intro rfl (And.intro rfl (And.intro (Nat.le_of_ble_eq_true rfl) ?_))))
                    show mp_W E X 1 246 [(0, .ref a0)] [] [(mp_ob3 a0 a1 y0 a2 y1 y2 3 i_1 i_1 0 y7), (mp_arI E a1 1 1600 f0)] 0 0
                    refine mp_run mp_k_cX3_step_ok hF mp_tabX3_ok [mp_i (.aload_n 0), mp_i .dup, mp_h (.getfield 35) [16, 0], mp_c (.iconst 1) 1, mp_i .iadd, mp_h (.putfield 35) [16, 0]] (by decide +kernel) ?_
                    refine And.intro rfl ?_
                    refine And.intro rfl (And.intro rfl ?_)
                    intro z_133 h_134
                    have e_135 : z_133.toInt = i_1.toInt + 1 := mp_add (a := i_1.toInt) (b := 1) h_134 rfl (by decide) (by (first | exact mp_o2 l_2 | omega)) (by (first | exact mp_o71 u_3 | omega))
                    refine And.intro rfl (And.intro rfl (And.intro rfl (And.intro rfl (And.intro (Nat.le_of_ble_eq_true rfl) ?_))))
                    show mp_W E X 1 256 [(0, .ref a0)] [] [(mp_ob3 a0 a1 y0 a2 y1 y2 3 i_1 z_133 0 y7), (mp_arI E a1 1 1600 f0)] 0 0
                    exact mp_vret hF hQ rfl (Nat.le_of_ble_eq_true rfl) (Nat.le_of_ble_eq_true rfl) [0, 1] (w' := [(mp_ob3 a0 a1 y0 a2 y1 y2 3 i_1 z_133 0 y7), (mp_arI E a1 1 1600 f0)]) rfl rfl ⟨3, i_1, z_133, 0, rfl, (by decide), (by decide), l_2, u_3, (by (first | exact mp_o69 l_2 e_135 | omega)), (by omega), (by decide), (by decide), (by have t9 := ts_111; (first | exact mp_o68 l_2 ts_111 | omega)), (by (first | exact x_5 | omega)), ⟨ts_112, (by have t9 := (mp_tok3 (k := 3) ts_112 (by omega) (mp_lef x_117) (mp_dif x_123) (by (first | exact mp_o83 c_129 e_102 | omega))); rw [t9.1]; first | rfl | decide), (by have t9 := (mp_tok3 (k := 3) ts_112 (by omega) (mp_lef x_117) (mp_dif x_123) (by (first | exact mp_o83 c_129 e_102 | omega))); (first | exact mp_o84 l_2 e_135 t9 | omega)), (Or.inl (by decide))⟩, rfl⟩ (by first | exact mp_fd_ok mp_k_cX3_step_ok (by decide +kernel) | decide +kernel)
                · skip
                  show mp_W E X 1 151 [(0, .ref a0)] [.int 1] [(mp_ob3 a0 a1 y0 a2 y1 y2 y3 i_1 i_1 0 y7), (mp_arI E a1 1 1600 f0)] 0 0
                  refine mp_run mp_k_cX3_step_ok hF mp_tabX3_ok [mp_h (.ifCond .eq 72) [223]] (by decide +kernel) ?_
                  refine And.intro (fun c_136 => absurd c_136 (by decide)) (fun _ => ?_)
                  show mp_W E X 1 154 [(0, .ref a0)] [] [(mp_ob3 a0 a1 y0 a2 y1 y2 y3 i_1 i_1 0 y7), (mp_arI E a1 1 1600 f0)] 0 0
                  refine mp_run mp_k_cX3_step_ok hF mp_tabX3_ok [mp_i (.aload_n 0), mp_c (.iconst 2) 2, mp_h (.putfield 41) [14, 0]] (by decide +kernel) ?_
                  refine And.intro rfl (And.intro rfl (And.intro rfl (And.intro rfl (And.intro (Nat.le_of_ble_eq_true rfl) ?_))))
                  show mp_W E X 1 159 [(0, .ref a0)] [] [(mp_ob3 a0 a1 y0 a2 y1 y2 2 i_1 i_1 0 y7), (mp_arI E a1 1 1600 f0)] 0 0
                  have lp_147 : ∀ (d_148 : Nat) (i_137 : Int32) (i_138 : Int32), 0 ≤ i_137.toInt → i_137.toInt ≤ 1600 → i_138.toInt ≤ 100000000 → (∀ j : Nat, (i_1.toInt).toNat ≤ j → (j : Int) < i_137.toInt → mp_isDi (f0 j).toInt = true) → (i_1.toInt ≤ i_137.toInt) → (i_137.toInt ≤ y0.toInt) → (i_138.toInt = mp_cap 100000000 (mp_VV f0 (i_1.toInt).toNat (i_137.toInt - i_1.toInt).toNat)) → (0 ≤ i_138.toInt ∧ i_138.toInt ≤ 100000000) → y0.toInt - i_137.toInt ≤ (d_148 : Int) → mp_W E X 1 159 [(0, .ref a0)] [] [(mp_ob3 a0 a1 y0 a2 y1 y2 2 i_1 i_137 i_138 y7), (mp_arI E a1 1 1600 f0)] 0 0 := by
                    intro d_148
                    induction d_148 using Nat.strongRecOn with
                    | ind d_148 ih_149 =>
                      intro i_137 i_138 l_139 u_140 u_141 x_142 x_143 x_144 x_145 x_146 hm_150
                      refine mp_run mp_k_cX3_step_ok hF mp_tabX3_ok [mp_i (.aload_n 0), mp_h (.getfield 35) [16, 0], mp_i (.aload_n 0), mp_h (.getfield 26) [10, 0], mp_h (.if_icmp .ge 89) [256]] (by decide +kernel) ?_
                      refine And.intro rfl (And.intro rfl ?_)
                      refine And.intro rfl (And.intro rfl ?_)
                      refine And.intro (fun c_151 => ?_) (fun c_151 => ?_)
                      · have c_151 : y0.toInt ≤ i_137.toInt := c_151
                        let w1_ : va_W := [(mp_ob3 a0 a1 y0 a2 y1 y2 2 i_1 i_137 i_138 y7), (mp_arI E a1 1 1600 f0)]
                        show mp_W E X 1 256 [(0, .ref a0)] [] w1_ 0 0
                        exact mp_vret hF hQ rfl (Nat.le_of_ble_eq_true rfl) (Nat.le_of_ble_eq_true rfl) [0, 1] (w' := w1_) rfl rfl ⟨2, i_1, i_137, i_138, rfl, (by decide), (by decide), l_2, u_3, l_139, u_140, (by (first | exact mp_o85 x_146 | omega)), u_141, (by have t9 := ts_111; (first | exact mp_o68 l_2 ts_111 | omega)), (by (first | exact x_5 | omega)), ⟨ts_112, (by have t9 := (mp_tok2 ts_112 (by (first | exact mp_o80 l_2 c_11 | omega)) (mp_lef x_117) (mp_dit x_124) (mp_end_i (by (first | exact x_143 | omega)) (by (first | exact l_2 | omega)) (by (first | exact mp_o86 x_144 | omega)) x_142 (by first | exact Or.inl (by (first | exact c_151 | omega)) | exact Or.inr (mp_dif (by omega))))); rw [t9.1]; first | rfl | decide), (by have t9 := (mp_tok2 ts_112 (by (first | exact mp_o80 l_2 c_11 | omega)) (mp_lef x_117) (mp_dit x_124) (mp_end_i (by (first | exact x_143 | omega)) (by (first | exact l_2 | omega)) (by (first | exact mp_o86 x_144 | omega)) x_142 (by first | exact Or.inl (by (first | exact c_151 | omega)) | exact Or.inr (mp_dif (by omega))))); (first | exact mp_o87 l_139 t9 | omega)), (Or.inr (by have t9 := (mp_tok2 ts_112 (by (first | exact mp_o80 l_2 c_11 | omega)) (mp_lef x_117) (mp_dit x_124) (mp_end_i (by (first | exact x_143 | omega)) (by (first | exact l_2 | omega)) (by (first | exact mp_o86 x_144 | omega)) x_142 (by first | exact Or.inl (by (first | exact c_151 | omega)) | exact Or.inr (mp_dif (by omega))))); rw [mp_TV_eq ts_112 t9.2 (by (first | exact mp_o88 l_2 c_151 c_11 | omega))]; exact x_145))⟩, rfl⟩ (by first | exact mp_fd_ok mp_k_cX3_step_ok (by decide +kernel) | decide +kernel)
                      · have c_151 : i_137.toInt < y0.toInt := c_151
                        let w2_ : va_W := [(mp_ob3 a0 a1 y0 a2 y1 y2 2 i_1 i_137 i_138 y7), (mp_arI E a1 1 1600 f0)]
                        show mp_W E X 1 170 [(0, .ref a0)] [] w2_ 0 0
                        refine mp_run mp_k_cX3_step_ok hF mp_tabX3_ok [mp_i (.aload_n 0), mp_i (.aload_n 0), mp_h (.getfield 35) [16, 0]] (by decide +kernel) ?_
                        refine And.intro rfl (And.intro rfl ?_)
                        show mp_W E X 1 175 [(0, .ref a0)] [.int i_137, .ref a0] w2_ 0 0
                        refine mp_callV hF (As := [.int i_137]) (rest := []) (wr := []) (bX3_isDigit_7 E a0 a1 a2 f0 y0 y1 y2 2 i_1 i_137 i_138 y7 i_137 l_139 (by (first | exact mp_o79 u_y0 c_151 | omega)) l_y0 u_y0 l_2 u_3 l_139 u_140) mp_lkX3_176 0 rfl [0, 1] [] rfl rfl rfl rfl rfl ⟨(Nat.le_of_ble_eq_true rfl), (Nat.le_of_ble_eq_true rfl), (Nat.le_of_ble_eq_true rfl), (Nat.le_of_ble_eq_true rfl)⟩ (Nat.le_of_ble_eq_true rfl) (by first | exact mp_fd_ok mp_k_cX3_step_ok (by decide +kernel) | decide +kernel) (fun v_152 w_153 h_154 => ?_)
                        rcases h_154 with ⟨rfl, x_155, rfl⟩ | ⟨rfl, x_156, rfl⟩
                        · skip
                          show mp_W E X 1 178 [(0, .ref a0)] [.int 0] w2_ 0 0
                          refine mp_run mp_k_cX3_step_ok hF mp_tabX3_ok [mp_h (.ifCond .eq 78) [256]] (by decide +kernel) ?_
                          refine And.intro (fun _ => ?_) (fun c_157 => absurd c_157 (by decide))
                          show mp_W E X 1 256 [(0, .ref a0)] [] w2_ 0 0
                          exact mp_vret hF hQ rfl (Nat.le_of_ble_eq_true rfl) (Nat.le_of_ble_eq_true rfl) [0, 1] (w' := w2_) rfl rfl ⟨2, i_1, i_137, i_138, rfl, (by decide), (by decide), l_2, u_3, l_139, u_140, (by (first | exact mp_o85 x_146 | omega)), u_141, (by have t9 := ts_111; (first | exact mp_o68 l_2 ts_111 | omega)), (by (first | exact x_5 | omega)), ⟨ts_112, (by have t9 := (mp_tok2 ts_112 (by (first | exact mp_o80 l_2 c_11 | omega)) (mp_lef x_117) (mp_dit x_124) (mp_end_i (by (first | exact x_143 | omega)) (by (first | exact l_2 | omega)) (by (first | exact mp_o89 c_151 | omega)) x_142 (by first | exact Or.inl (by omega) | exact Or.inr (mp_dif (by (first | exact x_155 | omega)))))); rw [t9.1]; first | rfl | decide), (by have t9 := (mp_tok2 ts_112 (by (first | exact mp_o80 l_2 c_11 | omega)) (mp_lef x_117) (mp_dit x_124) (mp_end_i (by (first | exact x_143 | omega)) (by (first | exact l_2 | omega)) (by (first | exact mp_o89 c_151 | omega)) x_142 (by first | exact Or.inl (by omega) | exact Or.inr (mp_dif (by (first | exact x_155 | omega)))))); (first | exact mp_o87 l_139 t9 | omega)), (Or.inr (by have t9 := (mp_tok2 ts_112 (by (first | exact mp_o80 l_2 c_11 | omega)) (mp_lef x_117) (mp_dit x_124) (mp_end_i (by (first | exact x_143 | omega)) (by (first | exact l_2 | omega)) (by (first | exact mp_o89 c_151 | omega)) x_142 (by first | exact Or.inl (by omega) | exact Or.inr (mp_dif (by (first | exact x_155 | omega)))))); rw [mp_TV_eq ts_112 t9.2 (by (first | exact mp_o90 l_2 x_143 | omega))]; exact x_145))⟩, rfl⟩ (by first | exact mp_fd_ok mp_k_cX3_step_ok (by decide +kernel) | decide +kernel)
                        · skip
                          show mp_W E X 1 178 [(0, .ref a0)] [.int 1] w2_ 0 0
                          refine mp_run mp_k_cX3_step_ok hF mp_tabX3_ok [mp_h (.ifCond .eq 78) [256]] (by decide +kernel) ?_
                          refine And.intro (fun c_158 => absurd c_158 (by decide)) (fun _ => ?_)
                          show mp_W E X 1 181 [(0, .ref a0)] [] w2_ 0 0
                          refine mp_run mp_k_cX3_step_ok hF mp_tabX3_ok [mp_i (.aload_n 0), mp_c (.ldc 179) 100000000, mp_c (.bipush 10) 10, mp_i (.aload_n 0), mp_h (.getfield 158) [17, 0], mp_i .imul, mp_i (.aload_n 0), mp_h (.getfield 9) [9, 0], mp_i (.aload_n 0), mp_h (.getfield 35) [16, 0], mp_h .baload [1], mp_i .iadd, mp_c (.bipush 48) 48, mp_i .isub] (by decide +kernel) ?_
                          refine And.intro rfl (And.intro rfl ?_)
                          intro z_159 h_160
                          have e_161 : z_159.toInt = 10 * i_138.toInt := mp_mul (a := 10) (b := i_138.toInt) h_160 (by decide) rfl (by (first | exact mp_o91 x_146 | omega)) (by (first | exact mp_o92 u_141 | omega))
                          refine And.intro rfl (And.intro rfl ?_)
                          refine And.intro rfl (And.intro rfl ?_)
                          refine And.intro rfl (And.intro rfl (And.intro (vp_in_iff.mpr (by (first | exact mp_o70 l_139 u_y0 c_151 | omega))) ?_))
                          intro z_162 h_163
                          have e_164 : z_162.toInt = (f0 i_137.toInt.toNat).toInt := congrArg Int32.toInt h_163
                          intro z_165 h_166
                          have e_167 : z_165.toInt = z_159.toInt + z_162.toInt := mp_add (a := z_159.toInt) (b := z_162.toInt) h_166 rfl rfl (by (first | exact mp_o93 e_161 x_146 e_164 x_156 | omega)) (by (first | exact mp_o94 u_141 e_161 e_164 x_156 | omega))
                          intro z_168 h_169
                          have e_170 : z_168.toInt = z_165.toInt - 48 := mp_subi (a := z_165.toInt) (b := 48) h_169 rfl (by decide) (by (first | exact mp_o95 x_146 e_161 e_167 e_164 x_156 | omega)) (by (first | exact mp_o96 u_141 e_161 e_167 e_164 x_156 | omega))
                          show mp_W E X 1 204 [(0, .ref a0)] [.int z_168, .int 100000000, .ref a0] w2_ 0 0
                          refine mp_mmin hF (idx := 180) (mp_gm (j := 2218) (by decide +kernel)) (mp_gm (j := 2219) (by decide +kernel)) (mp_gm (j := 1013) (by decide +kernel)) (mp_gm (j := 2220) (by decide +kernel)) ⟨(Nat.le_of_ble_eq_true rfl), (Nat.le_of_ble_eq_true rfl), (Nat.le_of_ble_eq_true rfl), (Nat.le_of_ble_eq_true rfl)⟩ (by first | exact mp_fd_ok mp_k_cX3_step_ok (by decide +kernel) | decide +kernel) (fun z_171 m_172 m_173 m_174 => ?_)
                          have m_173 : z_171.toInt ≤ 100000000 := m_173
                          have m_174 : z_171.toInt ≤ z_168.toInt := m_174
                          have m_172 : z_171.toInt = 100000000 ∨ z_171.toInt = z_168.toInt := m_172
                          show mp_W E X 1 207 [(0, .ref a0)] [.int z_171, .ref a0] w2_ 0 0
                          refine mp_run mp_k_cX3_step_ok hF mp_tabX3_ok [mp_h (.putfield 158) [17, 0]] (by decide +kernel) ?_
                          refine And.intro rfl (And.intro rfl (And.intro rfl (And.intro rfl (And.intro (Nat.le_of_ble_eq_true rfl) ?_))))
                          let w3_ : va_W := [(mp_ob3 a0 a1 y0 a2 y1 y2 2 i_1 i_137 z_171 y7), (mp_arI E a1 1 1600 f0)]
                          show mp_W E X 1 210 [(0, .ref a0)] [] w3_ 0 0
                          refine mp_run mp_k_cX3_step_ok hF mp_tabX3_ok [mp_i (.aload_n 0), mp_i .dup, mp_h (.getfield 35) [16, 0], mp_c (.iconst 1) 1, mp_i .iadd, mp_h (.putfield 35) [16, 0]] (by decide +kernel) ?_
                          refine And.intro rfl ?_
                          refine And.intro rfl (And.intro rfl ?_)
                          intro z_175 h_176
                          have e_177 : z_175.toInt = i_137.toInt + 1 := mp_add (a := i_137.toInt) (b := 1) h_176 rfl (by decide) (by (first | exact mp_o2 l_139 | omega)) (by (first | exact mp_o71 u_140 | omega))
                          refine And.intro rfl (And.intro rfl (And.intro rfl (And.intro rfl (And.intro (Nat.le_of_ble_eq_true rfl) ?_))))
                          let w4_ : va_W := [(mp_ob3 a0 a1 y0 a2 y1 y2 2 i_1 z_175 z_171 y7), (mp_arI E a1 1 1600 f0)]
                          show mp_W E X 1 220 [(0, .ref a0)] [] w4_ 0 0
                          refine mp_run mp_k_cX3_step_ok hF mp_tabX3_ok [mp_h (.goto (-61)) [159]] (by decide +kernel) ?_
                          show mp_W E X 1 159 [(0, .ref a0)] [] w4_ 0 0
                          exact mp_sub [0] rfl [0, 1] rfl rfl (ih_149 (d_148 - 1) (by (first | exact mp_o72 hm_150 c_151 | omega)) z_175 z_171 (by (first | exact mp_o51 l_139 e_177 | omega)) (by (first | exact mp_o73 u_y0 c_151 e_177 | omega)) (by (first | exact m_173 | omega)) (mp_all_s x_142 (mp_dit (by (first | exact x_156 | omega))) (by (first | exact mp_o53 l_139 e_177 | omega))) (by (first | exact mp_o75 x_143 e_177 | omega)) (by (first | exact mp_o97 c_151 e_177 | omega)) (by rw [mp_VV_s (c := i_137.toInt) (by (first | exact mp_o98 l_2 x_143 e_177 | omega))]; exact mp_cap_s x_145 (by decide) (by (first | exact mp_o99 x_156 | omega)) (mp_VV_i (by (first | exact mp_o90 l_2 x_143 | omega)) x_142) (by (first | exact mp_o100 m_173 m_172 m_174 e_161 e_164 e_167 e_170 | omega))) (by (first | exact mp_o101 m_173 m_172 e_170 x_146 e_161 e_167 e_164 x_156 | omega)) (by (first | exact mp_o77 hm_150 e_177 | omega)))
                  exact mp_sub [0] rfl [0, 1] rfl rfl (lp_147 _ i_1 0 l_2 u_3 (by decide) (mp_all_0 (by (first | exact mp_o102 | omega))) (by (first | exact mp_o102 | omega)) (by (first | exact mp_o103 c_11 | omega)) (by rw [show (i_1.toInt - i_1.toInt).toNat = 0 by (first | exact mp_o104 | omega)]; rfl) (by first | decide | omega) (Int.self_le_toNat _))
              · skip
                show mp_W E X 1 100 [(0, .ref a0)] [.int 1] [(mp_ob3 a0 a1 y0 a2 y1 y2 y3 i_1 i_1 0 y7), (mp_arI E a1 1 1600 f0)] 0 0
                refine mp_run mp_k_cX3_step_ok hF mp_tabX3_ok [mp_h (.ifCond .eq 43) [143]] (by decide +kernel) ?_
                refine And.intro (fun c_178 => absurd c_178 (by decide)) (fun _ => ?_)
                show mp_W E X 1 103 [(0, .ref a0)] [] [(mp_ob3 a0 a1 y0 a2 y1 y2 y3 i_1 i_1 0 y7), (mp_arI E a1 1 1600 f0)] 0 0
                refine mp_run mp_k_cX3_step_ok hF mp_tabX3_ok [mp_i (.aload_n 0), mp_c (.iconst 1) 1, mp_h (.putfield 41) [14, 0]] (by decide +kernel) ?_
                refine And.intro rfl (And.intro rfl (And.intro rfl (And.intro rfl (And.intro (Nat.le_of_ble_eq_true rfl) ?_))))
                show mp_W E X 1 108 [(0, .ref a0)] [] [(mp_ob3 a0 a1 y0 a2 y1 y2 1 i_1 i_1 0 y7), (mp_arI E a1 1 1600 f0)] 0 0
                have lp_185 : ∀ (d_186 : Nat) (i_179 : Int32), 0 ≤ i_179.toInt → i_179.toInt ≤ 1600 → (∀ j : Nat, (i_1.toInt).toNat ≤ j → (j : Int) < i_179.toInt → mp_isLe (f0 j).toInt = true) → (i_1.toInt ≤ i_179.toInt) → (i_179.toInt ≤ y0.toInt) → y0.toInt - i_179.toInt ≤ (d_186 : Int) → mp_W E X 1 108 [(0, .ref a0)] [] [(mp_ob3 a0 a1 y0 a2 y1 y2 1 i_1 i_179 0 y7), (mp_arI E a1 1 1600 f0)] 0 0 := by
                  intro d_186
                  induction d_186 using Nat.strongRecOn with
                  | ind d_186 ih_187 =>
                    intro i_179 l_180 u_181 x_182 x_183 x_184 hm_188
                    refine mp_run mp_k_cX3_step_ok hF mp_tabX3_ok [mp_i (.aload_n 0), mp_h (.getfield 35) [16, 0], mp_i (.aload_n 0), mp_h (.getfield 26) [10, 0], mp_h (.if_icmp .ge 140) [256]] (by decide +kernel) ?_
                    refine And.intro rfl (And.intro rfl ?_)
                    refine And.intro rfl (And.intro rfl ?_)
                    refine And.intro (fun c_189 => ?_) (fun c_189 => ?_)
                    · have c_189 : y0.toInt ≤ i_179.toInt := c_189
                      show mp_W E X 1 256 [(0, .ref a0)] [] [(mp_ob3 a0 a1 y0 a2 y1 y2 1 i_1 i_179 0 y7), (mp_arI E a1 1 1600 f0)] 0 0
                      exact mp_vret hF hQ rfl (Nat.le_of_ble_eq_true rfl) (Nat.le_of_ble_eq_true rfl) [0, 1] (w' := [(mp_ob3 a0 a1 y0 a2 y1 y2 1 i_1 i_179 0 y7), (mp_arI E a1 1 1600 f0)]) rfl rfl ⟨1, i_1, i_179, 0, rfl, (by decide), (by decide), l_2, u_3, l_180, u_181, (by decide), (by decide), (by have t9 := ts_111; (first | exact mp_o68 l_2 ts_111 | omega)), (by (first | exact x_5 | omega)), ⟨ts_112, (by have t9 := (mp_tok1 ts_112 (by (first | exact mp_o80 l_2 c_11 | omega)) (mp_let x_118) (mp_end_i (by (first | exact x_183 | omega)) (by (first | exact l_2 | omega)) (by (first | exact mp_o86 x_184 | omega)) x_182 (by first | exact Or.inl (by (first | exact c_189 | omega)) | exact Or.inr (mp_lef (by omega))))); rw [t9.1]; first | rfl | decide), (by have t9 := (mp_tok1 ts_112 (by (first | exact mp_o80 l_2 c_11 | omega)) (mp_let x_118) (mp_end_i (by (first | exact x_183 | omega)) (by (first | exact l_2 | omega)) (by (first | exact mp_o86 x_184 | omega)) x_182 (by first | exact Or.inl (by (first | exact c_189 | omega)) | exact Or.inr (mp_lef (by omega))))); (first | exact mp_o105 l_180 t9 | omega)), (Or.inl (by decide))⟩, rfl⟩ (by first | exact mp_fd_ok mp_k_cX3_step_ok (by decide +kernel) | decide +kernel)
                    · have c_189 : i_179.toInt < y0.toInt := c_189
                      show mp_W E X 1 119 [(0, .ref a0)] [] [(mp_ob3 a0 a1 y0 a2 y1 y2 1 i_1 i_179 0 y7), (mp_arI E a1 1 1600 f0)] 0 0
                      refine mp_run mp_k_cX3_step_ok hF mp_tabX3_ok [mp_i (.aload_n 0), mp_i (.aload_n 0), mp_h (.getfield 35) [16, 0]] (by decide +kernel) ?_
                      refine And.intro rfl (And.intro rfl ?_)
                      show mp_W E X 1 124 [(0, .ref a0)] [.int i_179, .ref a0] [(mp_ob3 a0 a1 y0 a2 y1 y2 1 i_1 i_179 0 y7), (mp_arI E a1 1 1600 f0)] 0 0
                      refine mp_callV hF (As := [.int i_179]) (rest := []) (wr := []) (bX3_isLetter_6 E a0 a1 a2 f0 y0 y1 y2 1 i_1 i_179 0 y7 i_179 l_180 (by (first | exact mp_o79 u_y0 c_189 | omega)) l_y0 u_y0 l_2 u_3 l_180 u_181) mp_lkX3_173 0 rfl [0, 1] [] rfl rfl rfl rfl rfl ⟨(Nat.le_of_ble_eq_true rfl), (Nat.le_of_ble_eq_true rfl), (Nat.le_of_ble_eq_true rfl), (Nat.le_of_ble_eq_true rfl)⟩ (Nat.le_of_ble_eq_true rfl) (by first | exact mp_fd_ok mp_k_cX3_step_ok (by decide +kernel) | decide +kernel) (fun v_190 w_191 h_192 => ?_)
                      rcases h_192 with ⟨rfl, x_193, rfl⟩ | ⟨rfl, x_194, rfl⟩
                      · skip
                        show mp_W E X 1 127 [(0, .ref a0)] [.int 0] [(mp_ob3 a0 a1 y0 a2 y1 y2 1 i_1 i_179 0 y7), (mp_arI E a1 1 1600 f0)] 0 0
                        refine mp_run mp_k_cX3_step_ok hF mp_tabX3_ok [mp_h (.ifCond .eq 129) [256]] (by decide +kernel) ?_
                        refine And.intro (fun _ => ?_) (fun c_195 => absurd c_195 (by decide))
                        show mp_W E X 1 256 [(0, .ref a0)] [] [(mp_ob3 a0 a1 y0 a2 y1 y2 1 i_1 i_179 0 y7), (mp_arI E a1 1 1600 f0)] 0 0
                        exact mp_vret hF hQ rfl (Nat.le_of_ble_eq_true rfl) (Nat.le_of_ble_eq_true rfl) [0, 1] (w' := [(mp_ob3 a0 a1 y0 a2 y1 y2 1 i_1 i_179 0 y7), (mp_arI E a1 1 1600 f0)]) rfl rfl ⟨1, i_1, i_179, 0, rfl, (by decide), (by decide), l_2, u_3, l_180, u_181, (by decide), (by decide), (by have t9 := ts_111; (first | exact mp_o68 l_2 ts_111 | omega)), (by (first | exact x_5 | omega)), ⟨ts_112, (by have t9 := (mp_tok1 ts_112 (by (first | exact mp_o80 l_2 c_11 | omega)) (mp_let x_118) (mp_end_i (by (first | exact x_183 | omega)) (by (first | exact l_2 | omega)) (by (first | exact mp_o89 c_189 | omega)) x_182 (by first | exact Or.inl (by omega) | exact Or.inr (mp_lef (by (first | exact x_193 | omega)))))); rw [t9.1]; first | rfl | decide), (by have t9 := (mp_tok1 ts_112 (by (first | exact mp_o80 l_2 c_11 | omega)) (mp_let x_118) (mp_end_i (by (first | exact x_183 | omega)) (by (first | exact l_2 | omega)) (by (first | exact mp_o89 c_189 | omega)) x_182 (by first | exact Or.inl (by omega) | exact Or.inr (mp_lef (by (first | exact x_193 | omega)))))); (first | exact mp_o105 l_180 t9 | omega)), (Or.inl (by decide))⟩, rfl⟩ (by first | exact mp_fd_ok mp_k_cX3_step_ok (by decide +kernel) | decide +kernel)
                      · skip
                        show mp_W E X 1 127 [(0, .ref a0)] [.int 1] [(mp_ob3 a0 a1 y0 a2 y1 y2 1 i_1 i_179 0 y7), (mp_arI E a1 1 1600 f0)] 0 0
                        refine mp_run mp_k_cX3_step_ok hF mp_tabX3_ok [mp_h (.ifCond .eq 129) [256]] (by decide +kernel) ?_
                        refine And.intro (fun c_196 => absurd c_196 (by decide)) (fun _ => ?_)
                        show mp_W E X 1 130 [(0, .ref a0)] [] [(mp_ob3 a0 a1 y0 a2 y1 y2 1 i_1 i_179 0 y7), (mp_arI E a1 1 1600 f0)] 0 0
                        refine mp_run mp_k_cX3_step_ok hF mp_tabX3_ok [mp_i (.aload_n 0), mp_i .dup, mp_h (.getfield 35) [16, 0], mp_c (.iconst 1) 1, mp_i .iadd, mp_h (.putfield 35) [16, 0]] (by decide +kernel) ?_
                        refine And.intro rfl ?_
                        refine And.intro rfl (And.intro rfl ?_)
                        intro z_197 h_198
                        have e_199 : z_197.toInt = i_179.toInt + 1 := mp_add (a := i_179.toInt) (b := 1) h_198 rfl (by decide) (by (first | exact mp_o2 l_180 | omega)) (by (first | exact mp_o71 u_181 | omega))
                        refine And.intro rfl (And.intro rfl (And.intro rfl (And.intro rfl (And.intro (Nat.le_of_ble_eq_true rfl) ?_))))
                        show mp_W E X 1 140 [(0, .ref a0)] [] [(mp_ob3 a0 a1 y0 a2 y1 y2 1 i_1 z_197 0 y7), (mp_arI E a1 1 1600 f0)] 0 0
                        refine mp_run mp_k_cX3_step_ok hF mp_tabX3_ok [mp_h (.goto (-32)) [108]] (by decide +kernel) ?_
                        show mp_W E X 1 108 [(0, .ref a0)] [] [(mp_ob3 a0 a1 y0 a2 y1 y2 1 i_1 z_197 0 y7), (mp_arI E a1 1 1600 f0)] 0 0
                        exact mp_sub [0] rfl [0, 1] rfl rfl (ih_187 (d_186 - 1) (by (first | exact mp_o72 hm_188 c_189 | omega)) z_197 (by (first | exact mp_o51 l_180 e_199 | omega)) (by (first | exact mp_o73 u_y0 c_189 e_199 | omega)) (mp_all_s x_182 (mp_let (by (first | exact x_194 | omega))) (by (first | exact mp_o53 l_180 e_199 | omega))) (by (first | exact mp_o75 x_183 e_199 | omega)) (by (first | exact mp_o97 c_189 e_199 | omega)) (by (first | exact mp_o77 hm_188 e_199 | omega)))
                exact mp_sub [0] rfl [0, 1] rfl rfl (lp_185 _ i_1 l_2 u_3 (mp_all_0 (by (first | exact mp_o102 | omega))) (by (first | exact mp_o102 | omega)) (by (first | exact mp_o103 c_11 | omega)) (Int.self_le_toNat _))
            · have c_113 : y0.toInt ≤ i_1.toInt := c_113
              show mp_W E X 1 84 [(0, .ref a0)] [] [(mp_ob3 a0 a1 y0 a2 y1 y2 y3 i_1 i_1 0 y7), (mp_arI E a1 1 1600 f0)] 0 0
              refine mp_run mp_k_cX3_step_ok hF mp_tabX3_ok [mp_i (.aload_n 0), mp_c (.iconst 0) 0, mp_h (.putfield 41) [14, 0]] (by decide +kernel) ?_
              refine And.intro rfl (And.intro rfl (And.intro rfl (And.intro rfl (And.intro (Nat.le_of_ble_eq_true rfl) ?_))))
              show mp_W E X 1 89 [(0, .ref a0)] [] [(mp_ob3 a0 a1 y0 a2 y1 y2 0 i_1 i_1 0 y7), (mp_arI E a1 1 1600 f0)] 0 0
              refine mp_run mp_k_cX3_step_ok hF mp_tabX3_ok [mp_h (.goto 167) [256]] (by decide +kernel) ?_
              show mp_W E X 1 256 [(0, .ref a0)] [] [(mp_ob3 a0 a1 y0 a2 y1 y2 0 i_1 i_1 0 y7), (mp_arI E a1 1 1600 f0)] 0 0
              exact mp_vret hF hQ rfl (Nat.le_of_ble_eq_true rfl) (Nat.le_of_ble_eq_true rfl) [0, 1] (w' := [(mp_ob3 a0 a1 y0 a2 y1 y2 0 i_1 i_1 0 y7), (mp_arI E a1 1 1600 f0)]) rfl rfl ⟨0, i_1, i_1, 0, rfl, (by decide), (by decide), l_2, u_3, l_2, u_3, (by decide), (by decide), (by have t9 := ts_111; omega), (by (first | exact x_5 | omega)), ⟨ts_112, (by have t9 := (mp_tok0 ts_112 (by (first | exact c_113 | omega))); rw [t9.1]; first | rfl | decide), (by have t9 := (mp_tok0 ts_112 (by (first | exact c_113 | omega))); omega), (Or.inl (by decide))⟩, rfl⟩ (by first | exact mp_fd_ok mp_k_cX3_step_ok (by decide +kernel) | decide +kernel)
          · have c_110 : z_100.toInt = 10 := (congrArg Int32.toInt c_110)
            show mp_W E X 1 47 [(0, .ref a0)] [] [(mp_ob3 a0 a1 y0 a2 y1 y2 y3 i_1 y5 y6 y7), (mp_arI E a1 1 1600 f0)] 0 0
            refine mp_run mp_k_cX3_step_ok hF mp_tabX3_ok [mp_i (.aload_n 0), mp_i .dup, mp_h (.getfield 161) [15, 0], mp_c (.iconst 1) 1, mp_i .iadd, mp_h (.putfield 161) [15, 0]] (by decide +kernel) ?_
            refine And.intro rfl ?_
            refine And.intro rfl (And.intro rfl ?_)
            intro z_200 h_201
            have e_202 : z_200.toInt = i_1.toInt + 1 := mp_add (a := i_1.toInt) (b := 1) h_201 rfl (by decide) (by (first | exact mp_o2 l_2 | omega)) (by (first | exact mp_o71 u_3 | omega))
            refine And.intro rfl (And.intro rfl (And.intro rfl (And.intro rfl (And.intro (Nat.le_of_ble_eq_true rfl) ?_))))
            show mp_W E X 1 57 [(0, .ref a0)] [] [(mp_ob3 a0 a1 y0 a2 y1 y2 y3 z_200 y5 y6 y7), (mp_arI E a1 1 1600 f0)] 0 0
            refine mp_run mp_k_cX3_step_ok hF mp_tabX3_ok [mp_h (.goto (-49)) [8]] (by decide +kernel) ?_
            show mp_W E X 1 8 [(0, .ref a0)] [] [(mp_ob3 a0 a1 y0 a2 y1 y2 y3 z_200 y5 y6 y7), (mp_arI E a1 1 1600 f0)] 0 0
            exact mp_sub [0] rfl [0, 1] rfl rfl (ih_9 (d_8 - 1) (by (first | exact mp_o69 hm_10 e_202 | omega)) z_200 (by (first | exact mp_o69 l_2 e_202 | omega)) (by omega) (mp_all_s x_4 (mp_spt (by (first | exact mp_o106 c_110 e_102 | omega))) (by omega)) (by omega) (by omega) (by omega))
  exact mp_sub [0] rfl [0, 1] rfl rfl (lp_7 _ y5 l_y5 u_y5 (mp_all_0 (by (first | exact mp_o102 | omega))) (by (first | exact mp_o102 | omega)) (by (first | exact mp_o107 | omega)) (Int.self_le_toNat _))
set_option maxHeartbeats 4000000 in
set_option maxRecDepth 100000 in
theorem bJ0_coder_7d493_9 (E : mp_E) (si : Nat) (hsi : si < 14) : mp_Ct E yJ0_coder_7d493 cJ0_coder_7d493 1 (some FieldType.byte) 0 0 0 0 [.ref (E.1.2.1 si)] [] (fun v w' => v = some (.int 0) ∧ w' = []) := by
  refine mp_met false (by decide) (by decide) (Nat.le_of_ble_eq_true rfl) (fun X hF hQ => ?_)
  have hF : mp_F E X (RJ0, cJ0_coder_7d493, 1, (0, 0, 0, 0), (some FieldType.byte), false) := hF
  show mp_W E X 1 0 [(0, .ref (E.1.2.1 si))] [] [] 0 0
  refine mp_scmp hF (idx := 38) (mp_gm (j := 2238) (by decide +kernel)) (by first | exact mp_fd_ok mp_k_cJ0_coder_7d493_ok (by decide +kernel) | decide +kernel) ?_
  show mp_W E X 1 3 [(0, .ref (E.1.2.1 si))] [.int 1] [] 0 0
  refine mp_run mp_k_cJ0_coder_7d493_ok hF mp_tab0_ok [mp_h (.ifCond .eq 10) [13]] (by decide +kernel) ?_
  refine And.intro (fun c_1 => absurd c_1 (by decide)) (fun _ => ?_)
  show mp_W E X 1 6 [(0, .ref (E.1.2.1 si))] [] [] 0 0
  refine mp_run mp_k_cJ0_coder_7d493_ok hF mp_tab0_ok [mp_i (.aload_n 0)] (by decide +kernel) ?_
  show mp_W E X 1 7 [(0, .ref (E.1.2.1 si))] [.ref (E.1.2.1 si)] [] 0 0
  refine mp_scod hF (idx := 15) hsi (mp_gm (j := 9012) (by decide +kernel)) (by first | exact mp_fd_ok mp_k_cJ0_coder_7d493_ok (by decide +kernel) | decide +kernel) ?_
  show mp_W E X 1 10 [(0, .ref (E.1.2.1 si))] [.int 0] [] 0 0
  refine mp_run mp_k_cJ0_coder_7d493_ok hF mp_tab0_ok [mp_h (.goto 4) [14]] (by decide +kernel) ?_
  show mp_W E X 1 14 [(0, .ref (E.1.2.1 si))] [.int 0] [] 0 0
  exact mp_iret hF hQ rfl (by decide) (Nat.le_of_ble_eq_true rfl) (Nat.le_of_ble_eq_true rfl) [] (w' := []) rfl rfl ⟨rfl, rfl⟩ (by first | exact mp_fd_ok mp_k_cJ0_coder_7d493_ok (by decide +kernel) | decide +kernel)
set_option maxHeartbeats 4000000 in
set_option maxRecDepth 100000 in
theorem bJ0_length_8abf5_10 (E : mp_E) (si : Nat) (hsi : si < 14) : mp_Ct E yJ0_length_8abf5 cJ0_length_8abf5 1 (some FieldType.int) 1 0 0 20 [.ref (E.1.2.1 si)] [] (fun v w' => ∃ r1 : Int32, v = some (.int r1) ∧ 0 ≤ r1.toInt ∧ r1.toInt ≤ 7 ∧ (r1 = Int32.ofNat (mp_sl.getD si 0)) ∧ (r1.toInt = (mp_sl.getD si 0 : Int)) ∧ w' = []) := by
  refine mp_met false (by decide) (by decide) (Nat.le_of_ble_eq_true rfl) (fun X hF hQ => ?_)
  have hF : mp_F E X (RJ0, cJ0_length_8abf5, 1, (1, 0, 0, 20), (some FieldType.int), false) := hF
  show mp_W E X 1 0 [(0, .ref (E.1.2.1 si))] [] [] 0 0
  refine mp_run mp_k_cJ0_length_8abf5_ok hF mp_tab0_ok [mp_i (.aload_n 0)] (by decide +kernel) ?_
  show mp_W E X 1 1 [(0, .ref (E.1.2.1 si))] [.ref (E.1.2.1 si)] [] 0 0
  refine mp_sval hF (idx := 9) hsi (mp_gm (j := 9011) (by decide +kernel)) (by first | exact mp_fd_ok mp_k_cJ0_length_8abf5_ok (by decide +kernel) | decide +kernel) ?_
  show mp_W E X 1 4 [(0, .ref (E.1.2.1 si))] [.ref (E.1.2.2 si)] [] 0 0
  refine mp_slen hF hsi (by first | exact mp_fd_ok mp_k_cJ0_length_8abf5_ok (by decide +kernel) | decide +kernel) (fun z_1 h_2 l_3 u_4 => ?_)
  show mp_W E X 1 5 [(0, .ref (E.1.2.1 si))] [.int z_1] [] 0 0
  refine mp_run mp_k_cJ0_length_8abf5_ok hF mp_tab0_ok [mp_i (.aload_n 0)] (by decide +kernel) ?_
  show mp_W E X 1 6 [(0, .ref (E.1.2.1 si))] [.ref (E.1.2.1 si), .int z_1] [] 0 0
  refine mp_callVS hF (As := []) (rest := [.int z_1]) (wr := []) (bJ0_coder_7d493_9 E si hsi) mp_lkJ0_335 hsi [] [] rfl rfl rfl rfl rfl ⟨(Nat.le_of_ble_eq_true rfl), (Nat.le_of_ble_eq_true rfl), (Nat.le_of_ble_eq_true rfl), (Nat.le_of_ble_eq_true rfl)⟩ (Nat.le_of_ble_eq_true rfl) (by first | exact mp_fd_ok mp_k_cJ0_length_8abf5_ok (by decide +kernel) | decide +kernel) (fun v_5 w_6 h_7 => ?_)
  obtain ⟨rfl, rfl⟩ := h_7
  show mp_W E X 1 9 [(0, .ref (E.1.2.1 si))] [.int 0, .int z_1] [] 0 0
  refine mp_run mp_k_cJ0_length_8abf5_ok hF mp_tab0_ok [mp_i .ishr] (by decide +kernel) ?_
  intro z_8 h_9
  have k_11 : z_8 = z_1 := mp_shr0 h_9
  have e_12 : z_8.toInt = z_1.toInt := by rw [k_11]
  have k_13 := k_11.trans h_2
  show mp_W E X 1 10 [(0, .ref (E.1.2.1 si))] [.int z_8] [] 0 0
  exact mp_iret hF hQ rfl rfl (Nat.le_of_ble_eq_true rfl) (Nat.le_of_ble_eq_true rfl) [] (w' := []) rfl rfl ⟨z_8, rfl, (by (first | exact mp_o108 l_3 e_12 | omega)), (by (first | exact mp_o109 u_4 e_12 | omega)), k_13, (by rw [k_13]; exact (mp_slen_ok si hsi).2.2.1), rfl⟩ (by first | exact mp_fd_ok mp_k_cJ0_length_8abf5_ok (by decide +kernel) | decide +kernel)
set_option maxHeartbeats 4000000 in
set_option maxRecDepth 100000 in
theorem bJ0_isLatin1_aae02_11 (E : mp_E) (si : Nat) (hsi : si < 14) : mp_Ct E yJ0_isLatin1_aae02 cJ0_isLatin1_aae02 1 (some FieldType.boolean) 0 0 0 0 [.ref (E.1.2.1 si)] [] (fun v w' => v = some (.int 1) ∧ w' = []) := by
  refine mp_met false (by decide) (by decide) (Nat.le_of_ble_eq_true rfl) (fun X hF hQ => ?_)
  have hF : mp_F E X (RJ0, cJ0_isLatin1_aae02, 1, (0, 0, 0, 0), (some FieldType.boolean), false) := hF
  show mp_W E X 1 0 [(0, .ref (E.1.2.1 si))] [] [] 0 0
  refine mp_scmp hF (idx := 38) (mp_gm (j := 2238) (by decide +kernel)) (by first | exact mp_fd_ok mp_k_cJ0_isLatin1_aae02_ok (by decide +kernel) | decide +kernel) ?_
  show mp_W E X 1 3 [(0, .ref (E.1.2.1 si))] [.int 1] [] 0 0
  refine mp_run mp_k_cJ0_isLatin1_aae02_ok hF mp_tab0_ok [mp_h (.ifCond .eq 14) [17]] (by decide +kernel) ?_
  refine And.intro (fun c_1 => absurd c_1 (by decide)) (fun _ => ?_)
  show mp_W E X 1 6 [(0, .ref (E.1.2.1 si))] [] [] 0 0
  refine mp_run mp_k_cJ0_isLatin1_aae02_ok hF mp_tab0_ok [mp_i (.aload_n 0)] (by decide +kernel) ?_
  show mp_W E X 1 7 [(0, .ref (E.1.2.1 si))] [.ref (E.1.2.1 si)] [] 0 0
  refine mp_scod hF (idx := 15) hsi (mp_gm (j := 9012) (by decide +kernel)) (by first | exact mp_fd_ok mp_k_cJ0_isLatin1_aae02_ok (by decide +kernel) | decide +kernel) ?_
  show mp_W E X 1 10 [(0, .ref (E.1.2.1 si))] [.int 0] [] 0 0
  refine mp_run mp_k_cJ0_isLatin1_aae02_ok hF mp_tab0_ok [mp_h (.ifCond .ne 7) [17]] (by decide +kernel) ?_
  refine And.intro (fun c_2 => absurd c_2 (by decide)) (fun _ => ?_)
  show mp_W E X 1 13 [(0, .ref (E.1.2.1 si))] [] [] 0 0
  refine mp_run mp_k_cJ0_isLatin1_aae02_ok hF mp_tab0_ok [mp_c (.iconst 1) 1, mp_h (.goto 4) [18]] (by decide +kernel) ?_
  show mp_W E X 1 18 [(0, .ref (E.1.2.1 si))] [.int 1] [] 0 0
  exact mp_iret hF hQ rfl (by decide) (Nat.le_of_ble_eq_true rfl) (Nat.le_of_ble_eq_true rfl) [] (w' := []) rfl rfl ⟨rfl, rfl⟩ (by first | exact mp_fd_ok mp_k_cJ0_isLatin1_aae02_ok (by decide +kernel) | decide +kernel)
set_option maxHeartbeats 4000000 in
set_option maxRecDepth 100000 in
theorem bJ3_checkIndex_8e157_12 (E : mp_E) (x0 : Int32) (x1 : Int32) (l_x0 : 0 ≤ x0.toInt) (u_x0 : x0.toInt ≤ 6) (l_x1 : 0 ≤ x1.toInt) (u_x1 : x1.toInt ≤ 7) (q0 : x0.toInt < x1.toInt) : mp_Ct E yJ3_checkIndex_8e157 cJ3_checkIndex_8e157 3 (some FieldType.int) 0 0 0 0 [.int x0, .int x1, .null] [] (fun v w' => v = some (.int x0) ∧ w' = []) := by
  refine mp_met false (by decide) (by decide) (Nat.le_of_ble_eq_true rfl) (fun X hF hQ => ?_)
  have hF : mp_F E X (RJ3, cJ3_checkIndex_8e157, 3, (0, 0, 0, 0), (some FieldType.int), false) := hF
  show mp_W E X 3 0 [(0, .int x0), (1, .int x1), (2, .null)] [] [] 0 0
  refine mp_run mp_k_cJ3_checkIndex_8e157_ok hF mp_tab0_ok [mp_i (.iload_n 0), mp_h (.ifCond .lt 8) [9]] (by decide +kernel) ?_
  refine And.intro (fun c_1 => ?_) (fun c_1 => ?_)
  · have c_1 : x0.toInt < 0 := c_1
    exfalso; (first | exact mp_o110 l_x0 c_1 | omega)
  · have c_1 : 0 ≤ x0.toInt := c_1
    show mp_W E X 3 4 [(0, .int x0), (1, .int x1), (2, .null)] [] [] 0 0
    refine mp_run mp_k_cJ3_checkIndex_8e157_ok hF mp_tab0_ok [mp_i (.iload_n 0), mp_i (.iload_n 1), mp_h (.if_icmp .lt 10) [16]] (by decide +kernel) ?_
    refine And.intro (fun c_2 => ?_) (fun c_2 => ?_)
    · have c_2 : x0.toInt < x1.toInt := c_2
      show mp_W E X 3 16 [(0, .int x0), (1, .int x1), (2, .null)] [] [] 0 0
      refine mp_run mp_k_cJ3_checkIndex_8e157_ok hF mp_tab0_ok [mp_i (.iload_n 0)] (by decide +kernel) ?_
      show mp_W E X 3 17 [(0, .int x0), (1, .int x1), (2, .null)] [.int x0] [] 0 0
      exact mp_iret hF hQ rfl rfl (Nat.le_of_ble_eq_true rfl) (Nat.le_of_ble_eq_true rfl) [] (w' := []) rfl rfl ⟨rfl, rfl⟩ (by first | exact mp_fd_ok mp_k_cJ3_checkIndex_8e157_ok (by decide +kernel) | decide +kernel)
    · have c_2 : x1.toInt ≤ x0.toInt := c_2
      exfalso; (first | exact mp_o111 q0 c_2 | omega)
set_option maxHeartbeats 4000000 in
set_option maxRecDepth 100000 in
theorem bJ3_checkIndex_8e157_13 (E : mp_E) (a0 : Nat) (x0 : Int32) (x1 : Int32) (l_x0 : 0 ≤ x0.toInt) (u_x0 : x0.toInt ≤ 6) (l_x1 : 0 ≤ x1.toInt) (u_x1 : x1.toInt ≤ 7) (q0 : x0.toInt < x1.toInt) : mp_Ct E yJ3_checkIndex_8e157 cJ3_checkIndex_8e157 3 (some FieldType.int) 0 0 0 0 [.int x0, .int x1, .ref a0] [] (fun v w' => v = some (.int x0) ∧ w' = []) := by
  refine mp_met false (by decide) (by decide) (Nat.le_of_ble_eq_true rfl) (fun X hF hQ => ?_)
  have hF : mp_F E X (RJ3, cJ3_checkIndex_8e157, 3, (0, 0, 0, 0), (some FieldType.int), false) := hF
  show mp_W E X 3 0 [(0, .int x0), (1, .int x1), (2, .ref a0)] [] [] 0 0
  refine mp_run mp_k_cJ3_checkIndex_8e157_ok hF mp_tab0_ok [mp_i (.iload_n 0), mp_h (.ifCond .lt 8) [9]] (by decide +kernel) ?_
  refine And.intro (fun c_1 => ?_) (fun c_1 => ?_)
  · have c_1 : x0.toInt < 0 := c_1
    exfalso; (first | exact mp_o110 l_x0 c_1 | omega)
  · have c_1 : 0 ≤ x0.toInt := c_1
    show mp_W E X 3 4 [(0, .int x0), (1, .int x1), (2, .ref a0)] [] [] 0 0
    refine mp_run mp_k_cJ3_checkIndex_8e157_ok hF mp_tab0_ok [mp_i (.iload_n 0), mp_i (.iload_n 1), mp_h (.if_icmp .lt 10) [16]] (by decide +kernel) ?_
    refine And.intro (fun c_2 => ?_) (fun c_2 => ?_)
    · have c_2 : x0.toInt < x1.toInt := c_2
      show mp_W E X 3 16 [(0, .int x0), (1, .int x1), (2, .ref a0)] [] [] 0 0
      refine mp_run mp_k_cJ3_checkIndex_8e157_ok hF mp_tab0_ok [mp_i (.iload_n 0)] (by decide +kernel) ?_
      show mp_W E X 3 17 [(0, .int x0), (1, .int x1), (2, .ref a0)] [.int x0] [] 0 0
      exact mp_iret hF hQ rfl rfl (Nat.le_of_ble_eq_true rfl) (Nat.le_of_ble_eq_true rfl) [] (w' := []) rfl rfl ⟨rfl, rfl⟩ (by first | exact mp_fd_ok mp_k_cJ3_checkIndex_8e157_ok (by decide +kernel) | decide +kernel)
    · have c_2 : x1.toInt ≤ x0.toInt := c_2
      exfalso; (first | exact mp_o111 q0 c_2 | omega)
set_option maxHeartbeats 4000000 in
set_option maxRecDepth 100000 in
theorem bJ0_checkIndex_df160_14 (E : mp_E) (x0 : Int32) (x1 : Int32) (l_x0 : 0 ≤ x0.toInt) (u_x0 : x0.toInt ≤ 6) (l_x1 : 0 ≤ x1.toInt) (u_x1 : x1.toInt ≤ 7) (q0 : x0.toInt < x1.toInt) : mp_Ct E yJ0_checkIndex_df160 cJ0_checkIndex_df160 2 none 1 0 0 22 [.int x0, .int x1] [] (fun v w' => v = none ∧ w' = []) := by
  refine mp_met false (by decide) (by decide) (Nat.le_of_ble_eq_true rfl) (fun X hF hQ => ?_)
  have hF : mp_F E X (RJ0, cJ0_checkIndex_df160, 2, (1, 0, 0, 22), none, false) := hF
  show mp_W E X 2 0 [(0, .int x0), (1, .int x1)] [] [] 0 0
  refine mp_run mp_k_cJ0_checkIndex_df160_ok hF mp_tab0_ok [mp_i (.iload_n 0), mp_i (.iload_n 1)] (by decide +kernel) ?_
  show mp_W E X 2 2 [(0, .int x0), (1, .int x1)] [.int x1, .int x0] [] 0 0
  refine mp_sfor hF (idx := 1053) (mp_gm (j := 3014) (by decide +kernel)) (by first | exact mp_fd_ok mp_k_cJ0_checkIndex_df160_ok (by decide +kernel) | decide +kernel) ?_ (fun t_1 => ?_)
  · skip
    show mp_W E X 2 5 [(0, .int x0), (1, .int x1)] [.null, .int x1, .int x0] [] 0 0
    refine mp_callS hF (As := [.int x0, .int x1, .null]) (rest := []) (wr := []) (bJ3_checkIndex_8e157_12 E x0 x1 l_x0 u_x0 l_x1 u_x1 q0) mp_lkJ0_1059 [] [] rfl rfl rfl rfl rfl ⟨(Nat.le_of_ble_eq_true rfl), (Nat.le_of_ble_eq_true rfl), (Nat.le_of_ble_eq_true rfl), (Nat.le_of_ble_eq_true rfl)⟩ (Nat.le_of_ble_eq_true rfl) (by first | exact mp_fd_ok mp_k_cJ0_checkIndex_df160_ok (by decide +kernel) | decide +kernel) (fun v_2 w_3 h_4 => ?_)
    obtain ⟨rfl, rfl⟩ := h_4
    show mp_W E X 2 8 [(0, .int x0), (1, .int x1)] [.int x0] [] 0 0
    refine mp_run mp_k_cJ0_checkIndex_df160_ok hF mp_tab0_ok [mp_i .pop] (by decide +kernel) ?_
    refine And.intro rfl ?_
    show mp_W E X 2 9 [(0, .int x0), (1, .int x1)] [] [] 0 0
    exact mp_vret hF hQ rfl (Nat.le_of_ble_eq_true rfl) (Nat.le_of_ble_eq_true rfl) [] (w' := []) rfl rfl ⟨rfl, rfl⟩ (by first | exact mp_fd_ok mp_k_cJ0_checkIndex_df160_ok (by decide +kernel) | decide +kernel)
  · skip
    show mp_W E X 2 5 [(0, .int x0), (1, .int x1)] [.ref t_1, .int x1, .int x0] [] 0 0
    refine mp_callS hF (As := [.int x0, .int x1, .ref t_1]) (rest := []) (wr := []) (bJ3_checkIndex_8e157_13 E t_1 x0 x1 l_x0 u_x0 l_x1 u_x1 q0) mp_lkJ0_1059 [] [] rfl rfl rfl rfl rfl ⟨(Nat.le_of_ble_eq_true rfl), (Nat.le_of_ble_eq_true rfl), (Nat.le_of_ble_eq_true rfl), (Nat.le_of_ble_eq_true rfl)⟩ (Nat.le_of_ble_eq_true rfl) (by first | exact mp_fd_ok mp_k_cJ0_checkIndex_df160_ok (by decide +kernel) | decide +kernel) (fun v_5 w_6 h_7 => ?_)
    obtain ⟨rfl, rfl⟩ := h_7
    show mp_W E X 2 8 [(0, .int x0), (1, .int x1)] [.int x0] [] 0 0
    refine mp_run mp_k_cJ0_checkIndex_df160_ok hF mp_tab0_ok [mp_i .pop] (by decide +kernel) ?_
    refine And.intro rfl ?_
    show mp_W E X 2 9 [(0, .int x0), (1, .int x1)] [] [] 0 0
    exact mp_vret hF hQ rfl (Nat.le_of_ble_eq_true rfl) (Nat.le_of_ble_eq_true rfl) [] (w' := []) rfl rfl ⟨rfl, rfl⟩ (by first | exact mp_fd_ok mp_k_cJ0_checkIndex_df160_ok (by decide +kernel) | decide +kernel)
set_option maxHeartbeats 4000000 in
set_option maxRecDepth 100000 in
theorem bJ1_charAt_3b067_15 (E : mp_E) (si : Nat) (hsi : si < 14) (x0 : Int32) (l_x0 : 0 ≤ x0.toInt) (u_x0 : x0.toInt ≤ 6) (q0 : x0.toInt < (Int32.ofNat (mp_sl.getD si 0)).toInt) : mp_Ct E yJ1_charAt_3b067 cJ1_charAt_3b067 2 (some FieldType.char) 2 0 0 43 [.ref (E.1.2.2 si), .int x0] [] (fun v w' => ∃ r1 : Int32, v = some (.int r1) ∧ 0 ≤ r1.toInt ∧ r1.toInt ≤ 255 ∧ (r1 = (mp_sb.getD si []).getD x0.toNatClampNeg 0) ∧ w' = []) := by
  refine mp_met false (by decide) (by decide) (Nat.le_of_ble_eq_true rfl) (fun X hF hQ => ?_)
  have hF : mp_F E X (RJ1, cJ1_charAt_3b067, 2, (2, 0, 0, 43), (some FieldType.char), false) := hF
  show mp_W E X 2 0 [(0, .ref (E.1.2.2 si)), (1, .int x0)] [] [] 0 0
  refine mp_run mp_k_cJ1_charAt_3b067_ok hF mp_tab0_ok [mp_i (.iload_n 1), mp_i (.aload_n 0)] (by decide +kernel) ?_
  show mp_W E X 2 2 [(0, .ref (E.1.2.2 si)), (1, .int x0)] [.ref (E.1.2.2 si), .int x0] [] 0 0
  refine mp_slen hF hsi (by first | exact mp_fd_ok mp_k_cJ1_charAt_3b067_ok (by decide +kernel) | decide +kernel) (fun z_1 h_2 l_3 u_4 => ?_)
  show mp_W E X 2 3 [(0, .ref (E.1.2.2 si)), (1, .int x0)] [.int z_1, .int x0] [] 0 0
  refine mp_callS hF (As := [.int x0, .int z_1]) (rest := []) (wr := []) (bJ0_checkIndex_df160_14 E x0 z_1 l_x0 u_x0 l_3 u_4 (by rw [h_2]; exact q0)) mp_lkJ1_9 [] [] rfl rfl rfl rfl rfl ⟨(Nat.le_of_ble_eq_true rfl), (Nat.le_of_ble_eq_true rfl), (Nat.le_of_ble_eq_true rfl), (Nat.le_of_ble_eq_true rfl)⟩ (Nat.le_of_ble_eq_true rfl) (by first | exact mp_fd_ok mp_k_cJ1_charAt_3b067_ok (by decide +kernel) | decide +kernel) (fun v_5 w_6 h_7 => ?_)
  obtain ⟨rfl, rfl⟩ := h_7
  show mp_W E X 2 6 [(0, .ref (E.1.2.2 si)), (1, .int x0)] [] [] 0 0
  refine mp_run mp_k_cJ1_charAt_3b067_ok hF mp_tab0_ok [mp_i (.aload_n 0), mp_i (.iload_n 1)] (by decide +kernel) ?_
  show mp_W E X 2 8 [(0, .ref (E.1.2.2 si)), (1, .int x0)] [.int x0, .ref (E.1.2.2 si)] [] 0 0
  refine mp_sld hF hsi (by (first | exact l_x0 | omega)) (by (first | exact q0 | omega)) (by first | exact mp_fd_ok mp_k_cJ1_charAt_3b067_ok (by decide +kernel) | decide +kernel) (fun z_8 h_9 => ?_)
  show mp_W E X 2 9 [(0, .ref (E.1.2.2 si)), (1, .int x0)] [.int z_8] [] 0 0
  refine mp_run mp_k_cJ1_charAt_3b067_ok hF mp_tab0_ok [mp_c (.sipush 255) 255, mp_i .iand] (by decide +kernel) ?_
  intro z_10 h_11
  show mp_W E X 2 13 [(0, .ref (E.1.2.2 si)), (1, .int x0)] [.int z_10] [] 0 0
  refine mp_i2cS hF h_9 h_11 (by first | exact mp_fd_ok mp_k_cJ1_charAt_3b067_ok (by decide +kernel) | decide +kernel) (fun z_13 h_14 l_15 u_16 => ?_)
  show mp_W E X 2 14 [(0, .ref (E.1.2.2 si)), (1, .int x0)] [.int z_13] [] 0 0
  exact mp_iret hF hQ rfl (mp_nar_c (by (first | exact l_15 | omega)) (by (first | exact u_16 | omega))) (Nat.le_of_ble_eq_true rfl) (Nat.le_of_ble_eq_true rfl) [] (w' := []) rfl rfl ⟨z_13, rfl, l_15, u_16, h_14, rfl⟩ (by first | exact mp_fd_ok mp_k_cJ1_charAt_3b067_ok (by decide +kernel) | decide +kernel)
set_option maxHeartbeats 4000000 in
set_option maxRecDepth 100000 in
theorem bJ0_charAt_5068e_16 (E : mp_E) (si : Nat) (hsi : si < 14) (x0 : Int32) (l_x0 : 0 ≤ x0.toInt) (u_x0 : x0.toInt ≤ 6) (q0 : x0.toInt < (Int32.ofNat (mp_sl.getD si 0)).toInt) : mp_Ct E yJ0_charAt_5068e cJ0_charAt_5068e 2 (some FieldType.char) 3 0 0 64 [.ref (E.1.2.1 si), .int x0] [] (fun v w' => ∃ r1 : Int32, v = some (.int r1) ∧ 0 ≤ r1.toInt ∧ r1.toInt ≤ 255 ∧ (r1 = (mp_sb.getD si []).getD x0.toNatClampNeg 0) ∧ w' = []) := by
  refine mp_met false (by decide) (by decide) (Nat.le_of_ble_eq_true rfl) (fun X hF hQ => ?_)
  have hF : mp_F E X (RJ0, cJ0_charAt_5068e, 2, (3, 0, 0, 64), (some FieldType.char), false) := hF
  show mp_W E X 2 0 [(0, .ref (E.1.2.1 si)), (1, .int x0)] [] [] 0 0
  refine mp_run mp_k_cJ0_charAt_5068e_ok hF mp_tab0_ok [mp_i (.aload_n 0)] (by decide +kernel) ?_
  show mp_W E X 2 1 [(0, .ref (E.1.2.1 si)), (1, .int x0)] [.ref (E.1.2.1 si)] [] 0 0
  refine mp_callVS hF (As := []) (rest := []) (wr := []) (bJ0_isLatin1_aae02_11 E si hsi) mp_lkJ0_492 hsi [] [] rfl rfl rfl rfl rfl ⟨(Nat.le_of_ble_eq_true rfl), (Nat.le_of_ble_eq_true rfl), (Nat.le_of_ble_eq_true rfl), (Nat.le_of_ble_eq_true rfl)⟩ (Nat.le_of_ble_eq_true rfl) (by first | exact mp_fd_ok mp_k_cJ0_charAt_5068e_ok (by decide +kernel) | decide +kernel) (fun v_1 w_2 h_3 => ?_)
  obtain ⟨rfl, rfl⟩ := h_3
  show mp_W E X 2 4 [(0, .ref (E.1.2.1 si)), (1, .int x0)] [.int 1] [] 0 0
  refine mp_run mp_k_cJ0_charAt_5068e_ok hF mp_tab0_ok [mp_h (.ifCond .eq 12) [16]] (by decide +kernel) ?_
  refine And.intro (fun c_4 => absurd c_4 (by decide)) (fun _ => ?_)
  show mp_W E X 2 7 [(0, .ref (E.1.2.1 si)), (1, .int x0)] [] [] 0 0
  refine mp_run mp_k_cJ0_charAt_5068e_ok hF mp_tab0_ok [mp_i (.aload_n 0)] (by decide +kernel) ?_
  show mp_W E X 2 8 [(0, .ref (E.1.2.1 si)), (1, .int x0)] [.ref (E.1.2.1 si)] [] 0 0
  refine mp_sval hF (idx := 9) hsi (mp_gm (j := 9011) (by decide +kernel)) (by first | exact mp_fd_ok mp_k_cJ0_charAt_5068e_ok (by decide +kernel) | decide +kernel) ?_
  show mp_W E X 2 11 [(0, .ref (E.1.2.1 si)), (1, .int x0)] [.ref (E.1.2.2 si)] [] 0 0
  refine mp_run mp_k_cJ0_charAt_5068e_ok hF mp_tab0_ok [mp_i (.iload_n 1)] (by decide +kernel) ?_
  show mp_W E X 2 12 [(0, .ref (E.1.2.1 si)), (1, .int x0)] [.int x0, .ref (E.1.2.2 si)] [] 0 0
  refine mp_callS hF (As := [.ref (E.1.2.2 si), .int x0]) (rest := []) (wr := []) (bJ1_charAt_3b067_15 E si hsi x0 l_x0 u_x0 q0) mp_lkJ0_495 [] [] rfl rfl rfl rfl rfl ⟨(Nat.le_of_ble_eq_true rfl), (Nat.le_of_ble_eq_true rfl), (Nat.le_of_ble_eq_true rfl), (Nat.le_of_ble_eq_true rfl)⟩ (Nat.le_of_ble_eq_true rfl) (by first | exact mp_fd_ok mp_k_cJ0_charAt_5068e_ok (by decide +kernel) | decide +kernel) (fun v_5 w_6 h_7 => ?_)
  refine h_7.elim fun r_8 q_12 => q_12.elim fun e_13 q_14 => q_14.elim fun l_9 q_15 => q_15.elim fun u_10 q_16 => q_16.elim fun x_11 e_17 => ?_
  clear h_7 q_12 q_14 q_15 q_16
  subst e_13
  subst e_17
  show mp_W E X 2 15 [(0, .ref (E.1.2.1 si)), (1, .int x0)] [.int r_8] [] 0 0
  exact mp_iret hF hQ rfl (mp_nar_c (by (first | exact l_9 | omega)) (by (first | exact u_10 | omega))) (Nat.le_of_ble_eq_true rfl) (Nat.le_of_ble_eq_true rfl) [] (w' := []) rfl rfl ⟨r_8, rfl, l_9, u_10, x_11, rfl⟩ (by first | exact mp_fd_ok mp_k_cJ0_charAt_5068e_ok (by decide +kernel) | decide +kernel)
set_option maxHeartbeats 4000000 in
set_option maxRecDepth 100000 in
theorem bX3_isWord_17 (E : mp_E) (si : Nat) (hsi : si < 14) (a0 a1 a2 : Nat) (f0 : Nat → Int32) (y0 : Int32) (y1 : Int32) (y2 : Int32) (y3 : Int32) (y4 : Int32) (y5 : Int32) (y6 : Int32) (y7 : Int32) (l_y0 : 0 ≤ y0.toInt) (u_y0 : y0.toInt ≤ 1600) (l_y4 : 0 ≤ y4.toInt) (u_y4 : y4.toInt ≤ 1600) (l_y5 : 0 ≤ y5.toInt) (u_y5 : y5.toInt ≤ 1600) (q0 : mp_CT f0 y0.toInt y3.toInt y4.toInt y5.toInt y6.toInt) : mp_Ct E yX3_isWord cX3_isWord 3 (some FieldType.boolean) 4 0 0 85 [.ref a0, .ref (E.1.2.1 si)] [(mp_ob3 a0 a1 y0 a2 y1 y2 y3 y4 y5 y6 y7), (mp_arI E a1 1 1600 f0)] (fun v w' => (v = some (.int 0) ∧ (¬ (mp_TK f0 (y0.toInt).toNat (y4.toInt).toNat = 1 ∧ mp_WD f0 (y0.toInt).toNat (y4.toInt).toNat = mp_wk.getD si 0)) ∧ w' = [(mp_ob3 a0 a1 y0 a2 y1 y2 y3 y4 y5 y6 y7), (mp_arI E a1 1 1600 f0)]) ∨ (v = some (.int 1) ∧ y3.toInt = 1 ∧ (mp_TK f0 (y0.toInt).toNat (y4.toInt).toNat = 1 ∧ mp_WD f0 (y0.toInt).toNat (y4.toInt).toNat = mp_wk.getD si 0) ∧ w' = [(mp_ob3 a0 a1 y0 a2 y1 y2 y3 y4 y5 y6 y7), (mp_arI E a1 1 1600 f0)])) := by
  refine mp_met false (by decide) (by decide) (Nat.le_of_ble_eq_true rfl) (fun X hF hQ => ?_)
  have hF : mp_F E X (RX3, cX3_isWord, 3, (4, 0, 0, 85), (some FieldType.boolean), false) := hF
  show mp_W E X 3 0 [(0, .ref a0), (1, .ref (E.1.2.1 si))] [] [(mp_ob3 a0 a1 y0 a2 y1 y2 y3 y4 y5 y6 y7), (mp_arI E a1 1 1600 f0)] 0 0
  refine mp_run mp_k_cX3_isWord_ok hF mp_tabX3_ok [mp_i (.aload_n 0), mp_h (.getfield 41) [14, 0], mp_c (.iconst 1) 1, mp_h (.if_icmp .ne 19) [24]] (by decide +kernel) ?_
  refine And.intro rfl (And.intro rfl ?_)
  refine And.intro (fun c_1 => ?_) (fun c_1 => ?_)
  · have c_1 : y3.toInt ≠ 1 := c_1
    show mp_W E X 3 24 [(0, .ref a0), (1, .ref (E.1.2.1 si))] [] [(mp_ob3 a0 a1 y0 a2 y1 y2 y3 y4 y5 y6 y7), (mp_arI E a1 1 1600 f0)] 0 0
    refine mp_run mp_k_cX3_isWord_ok hF mp_tabX3_ok [mp_c (.iconst 0) 0] (by decide +kernel) ?_
    show mp_W E X 3 25 [(0, .ref a0), (1, .ref (E.1.2.1 si))] [.int 0] [(mp_ob3 a0 a1 y0 a2 y1 y2 y3 y4 y5 y6 y7), (mp_arI E a1 1 1600 f0)] 0 0
    exact mp_iret hF hQ rfl (by decide) (Nat.le_of_ble_eq_true rfl) (Nat.le_of_ble_eq_true rfl) [0, 1] (w' := [(mp_ob3 a0 a1 y0 a2 y1 y2 y3 y4 y5 y6 y7), (mp_arI E a1 1 1600 f0)]) rfl rfl (Or.inl ⟨rfl, (by first | exact mp_isw_1 q0 (by (first | exact c_1 | omega)) | exact mp_isw_2 q0 hsi (by omega) (by omega) (mp_CT_le q0 (by omega))), rfl⟩) (by first | exact mp_fd_ok mp_k_cX3_isWord_ok (by decide +kernel) | decide +kernel)
  · have c_1 : y3.toInt = 1 := (congrArg Int32.toInt c_1)
    show mp_W E X 3 8 [(0, .ref a0), (1, .ref (E.1.2.1 si))] [] [(mp_ob3 a0 a1 y0 a2 y1 y2 y3 y4 y5 y6 y7), (mp_arI E a1 1 1600 f0)] 0 0
    refine mp_run mp_k_cX3_isWord_ok hF mp_tabX3_ok [mp_i (.aload_n 0), mp_h (.getfield 35) [16, 0], mp_i (.aload_n 0), mp_h (.getfield 161) [15, 0], mp_i .isub, mp_i (.aload_n 1)] (by decide +kernel) ?_
    refine And.intro rfl (And.intro rfl ?_)
    refine And.intro rfl (And.intro rfl ?_)
    intro z_2 h_3
    have e_4 : z_2.toInt = y5.toInt - y4.toInt := mp_subi (a := y5.toInt) (b := y4.toInt) h_3 rfl rfl (by (first | exact mp_o112 l_y5 u_y4 | omega)) (by (first | exact mp_o113 l_y4 u_y5 | omega))
    show mp_W E X 3 18 [(0, .ref a0), (1, .ref (E.1.2.1 si))] [.ref (E.1.2.1 si), .int z_2] [(mp_ob3 a0 a1 y0 a2 y1 y2 y3 y4 y5 y6 y7), (mp_arI E a1 1 1600 f0)] 0 0
    refine mp_callVS hF (As := []) (rest := [.int z_2]) (wr := [(mp_ob3 a0 a1 y0 a2 y1 y2 y3 y4 y5 y6 y7), (mp_arI E a1 1 1600 f0)]) (bJ0_length_8abf5_10 E si hsi) mp_lkX3_164 hsi [] [0, 1] rfl rfl rfl rfl rfl ⟨(Nat.le_of_ble_eq_true rfl), (Nat.le_of_ble_eq_true rfl), (Nat.le_of_ble_eq_true rfl), (Nat.le_of_ble_eq_true rfl)⟩ (Nat.le_of_ble_eq_true rfl) (by first | exact mp_fd_ok mp_k_cX3_isWord_ok (by decide +kernel) | decide +kernel) (fun v_5 w_6 h_7 => ?_)
    refine h_7.elim fun r_8 q_13 => q_13.elim fun e_14 q_15 => q_15.elim fun l_9 q_16 => q_16.elim fun u_10 q_17 => q_17.elim fun x_11 q_18 => q_18.elim fun x_12 e_19 => ?_
    clear h_7 q_13 q_15 q_16 q_17 q_18
    subst e_14
    subst e_19
    show mp_W E X 3 21 [(0, .ref a0), (1, .ref (E.1.2.1 si))] [.int r_8, .int z_2] [(mp_ob3 a0 a1 y0 a2 y1 y2 y3 y4 y5 y6 y7), (mp_arI E a1 1 1600 f0)] 0 0
    refine mp_run mp_k_cX3_isWord_ok hF mp_tabX3_ok [mp_h (.if_icmp .eq 5) [26]] (by decide +kernel) ?_
    refine And.intro (fun c_20 => ?_) (fun c_20 => ?_)
    · have c_20 : z_2.toInt = r_8.toInt := (congrArg Int32.toInt c_20)
      show mp_W E X 3 26 [(0, .ref a0), (1, .ref (E.1.2.1 si))] [] [(mp_ob3 a0 a1 y0 a2 y1 y2 y3 y4 y5 y6 y7), (mp_arI E a1 1 1600 f0)] 0 0
      refine mp_run mp_k_cX3_isWord_ok hF mp_tabX3_ok [mp_c (.iconst 0) 0, mp_i (.istore_n 2)] (by decide +kernel) ?_
      show mp_W E X 3 28 [(2, .int 0), (0, .ref a0), (1, .ref (E.1.2.1 si))] [] [(mp_ob3 a0 a1 y0 a2 y1 y2 y3 y4 y5 y6 y7), (mp_arI E a1 1 1600 f0)] 0 0
      have lp_26 : ∀ (d_27 : Nat) (i_21 : Int32), 0 ≤ i_21.toInt → i_21.toInt ≤ 9 → (∀ j : Nat, (j : Int) < i_21.toInt → (f0 ((y4.toInt).toNat + j)).toInt = ((mp_sb.getD si []).getD j 0).toInt) → (0 ≤ i_21.toInt) → (mp_sl.getD si 0 : Int) - i_21.toInt ≤ (d_27 : Int) → mp_W E X 3 28 [(2, .int i_21), (0, .ref a0), (1, .ref (E.1.2.1 si))] [] [(mp_ob3 a0 a1 y0 a2 y1 y2 y3 y4 y5 y6 y7), (mp_arI E a1 1 1600 f0)] 0 0 := by
        intro d_27
        induction d_27 using Nat.strongRecOn with
        | ind d_27 ih_28 =>
          intro i_21 l_22 u_23 x_24 x_25 hm_29
          refine mp_run mp_k_cX3_isWord_ok hF mp_tabX3_ok [mp_i (.iload_n 2), mp_i (.aload_n 1)] (by decide +kernel) ?_
          show mp_W E X 3 30 [(2, .int i_21), (0, .ref a0), (1, .ref (E.1.2.1 si))] [.ref (E.1.2.1 si), .int i_21] [(mp_ob3 a0 a1 y0 a2 y1 y2 y3 y4 y5 y6 y7), (mp_arI E a1 1 1600 f0)] 0 0
          refine mp_callVS hF (As := []) (rest := [.int i_21]) (wr := [(mp_ob3 a0 a1 y0 a2 y1 y2 y3 y4 y5 y6 y7), (mp_arI E a1 1 1600 f0)]) (bJ0_length_8abf5_10 E si hsi) mp_lkX3_164 hsi [] [0, 1] rfl rfl rfl rfl rfl ⟨(Nat.le_of_ble_eq_true rfl), (Nat.le_of_ble_eq_true rfl), (Nat.le_of_ble_eq_true rfl), (Nat.le_of_ble_eq_true rfl)⟩ (Nat.le_of_ble_eq_true rfl) (by first | exact mp_fd_ok mp_k_cX3_isWord_ok (by decide +kernel) | decide +kernel) (fun v_30 w_31 h_32 => ?_)
          refine h_32.elim fun r_33 q_38 => q_38.elim fun e_39 q_40 => q_40.elim fun l_34 q_41 => q_41.elim fun u_35 q_42 => q_42.elim fun x_36 q_43 => q_43.elim fun x_37 e_44 => ?_
          clear h_32 q_38 q_40 q_41 q_42 q_43
          subst e_39
          subst e_44
          show mp_W E X 3 33 [(2, .int i_21), (0, .ref a0), (1, .ref (E.1.2.1 si))] [.int r_33, .int i_21] [(mp_ob3 a0 a1 y0 a2 y1 y2 y3 y4 y5 y6 y7), (mp_arI E a1 1 1600 f0)] 0 0
          refine mp_run mp_k_cX3_isWord_ok hF mp_tabX3_ok [mp_h (.if_icmp .ge 30) [63]] (by decide +kernel) ?_
          refine And.intro (fun c_45 => ?_) (fun c_45 => ?_)
          · have c_45 : r_33.toInt ≤ i_21.toInt := c_45
            show mp_W E X 3 63 [(2, .int i_21), (0, .ref a0), (1, .ref (E.1.2.1 si))] [] [(mp_ob3 a0 a1 y0 a2 y1 y2 y3 y4 y5 y6 y7), (mp_arI E a1 1 1600 f0)] 0 0
            refine mp_run mp_k_cX3_isWord_ok hF mp_tabX3_ok [mp_c (.iconst 1) 1] (by decide +kernel) ?_
            show mp_W E X 3 64 [(2, .int i_21), (0, .ref a0), (1, .ref (E.1.2.1 si))] [.int 1] [(mp_ob3 a0 a1 y0 a2 y1 y2 y3 y4 y5 y6 y7), (mp_arI E a1 1 1600 f0)] 0 0
            exact mp_iret hF hQ rfl (by decide) (Nat.le_of_ble_eq_true rfl) (Nat.le_of_ble_eq_true rfl) [0, 1] (w' := [(mp_ob3 a0 a1 y0 a2 y1 y2 y3 y4 y5 y6 y7), (mp_arI E a1 1 1600 f0)]) rfl rfl (Or.inr ⟨rfl, (by first | (first | exact c_1 | omega) | decide), (mp_isw_t q0 hsi (by (first | exact c_1 | omega)) (by (first | exact l_y4 | omega)) (by (first | exact mp_o114 x_12 e_4 c_20 | omega)) x_24 (by (first | exact mp_o115 x_37 c_45 | omega))), rfl⟩) (by first | exact mp_fd_ok mp_k_cX3_isWord_ok (by decide +kernel) | decide +kernel)
          · have c_45 : i_21.toInt < r_33.toInt := c_45
            show mp_W E X 3 36 [(2, .int i_21), (0, .ref a0), (1, .ref (E.1.2.1 si))] [] [(mp_ob3 a0 a1 y0 a2 y1 y2 y3 y4 y5 y6 y7), (mp_arI E a1 1 1600 f0)] 0 0
            refine mp_run mp_k_cX3_isWord_ok hF mp_tabX3_ok [mp_i (.aload_n 0), mp_h (.getfield 9) [9, 0], mp_i (.aload_n 0), mp_h (.getfield 161) [15, 0], mp_i (.iload_n 2), mp_i .iadd, mp_h .baload [1], mp_i (.aload_n 1), mp_i (.iload_n 2)] (by decide +kernel) ?_
            refine And.intro rfl (And.intro rfl ?_)
            refine And.intro rfl (And.intro rfl ?_)
            intro z_46 h_47
            have e_48 : z_46.toInt = y4.toInt + i_21.toInt := mp_add (a := y4.toInt) (b := i_21.toInt) h_47 rfl rfl (by (first | exact mp_o116 l_y4 l_22 | omega)) (by (first | exact mp_o117 u_y4 u_23 | omega))
            refine And.intro rfl (And.intro rfl (And.intro (vp_in_iff.mpr (by (first | exact mp_o118 l_y4 l_22 e_48 u_y5 e_4 c_45 c_20 x_37 x_12 | omega))) ?_))
            intro z_49 h_50
            have e_51 := mp_sw_ld (i := i_21) (s := y4) h_50 (by (first | exact e_48 | omega)) (by (first | exact mp_o119 l_y4 l_22 | omega))
            show mp_W E X 3 49 [(2, .int i_21), (0, .ref a0), (1, .ref (E.1.2.1 si))] [.int i_21, .ref (E.1.2.1 si), .int z_49] [(mp_ob3 a0 a1 y0 a2 y1 y2 y3 y4 y5 y6 y7), (mp_arI E a1 1 1600 f0)] 0 0
            refine mp_callVS hF (As := [.int i_21]) (rest := [.int z_49]) (wr := [(mp_ob3 a0 a1 y0 a2 y1 y2 y3 y4 y5 y6 y7), (mp_arI E a1 1 1600 f0)]) (bJ0_charAt_5068e_16 E si hsi i_21 l_22 (by (first | exact mp_o120 u_10 c_45 x_12 x_37 | omega)) (by rw [← x_36]; (first | exact c_45 | omega))) mp_lkX3_169 hsi [] [0, 1] rfl rfl rfl rfl rfl ⟨(Nat.le_of_ble_eq_true rfl), (Nat.le_of_ble_eq_true rfl), (Nat.le_of_ble_eq_true rfl), (Nat.le_of_ble_eq_true rfl)⟩ (Nat.le_of_ble_eq_true rfl) (by first | exact mp_fd_ok mp_k_cX3_isWord_ok (by decide +kernel) | decide +kernel) (fun v_52 w_53 h_54 => ?_)
            refine h_54.elim fun r_55 q_59 => q_59.elim fun e_60 q_61 => q_61.elim fun l_56 q_62 => q_62.elim fun u_57 q_63 => q_63.elim fun x_58 e_64 => ?_
            clear h_54 q_59 q_61 q_62 q_63
            subst e_60
            subst e_64
            show mp_W E X 3 52 [(2, .int i_21), (0, .ref a0), (1, .ref (E.1.2.1 si))] [.int r_55, .int z_49] [(mp_ob3 a0 a1 y0 a2 y1 y2 y3 y4 y5 y6 y7), (mp_arI E a1 1 1600 f0)] 0 0
            refine mp_run mp_k_cX3_isWord_ok hF mp_tabX3_ok [mp_h (.if_icmp .eq 5) [57]] (by decide +kernel) ?_
            refine And.intro (fun c_65 => ?_) (fun c_65 => ?_)
            · have c_65 : z_49.toInt = r_55.toInt := (congrArg Int32.toInt c_65)
              show mp_W E X 3 57 [(2, .int i_21), (0, .ref a0), (1, .ref (E.1.2.1 si))] [] [(mp_ob3 a0 a1 y0 a2 y1 y2 y3 y4 y5 y6 y7), (mp_arI E a1 1 1600 f0)] 0 0
              have wq_66 : (f0 ((y4.toInt).toNat + (i_21.toInt).toNat)).toInt = ((mp_sb.getD si []).getD (i_21.toInt).toNat 0).toInt := by rw [← e_51, ← (show _ = ((mp_sb.getD si []).getD (i_21.toInt).toNat 0) from x_58)]; (first | exact c_65 | omega)
              refine mp_run mp_k_cX3_isWord_ok hF mp_tabX3_ok [mp_c (.iinc 2 1) 1, mp_h (.goto (-32)) [28]] (by decide +kernel) ?_
              intro z_67 h_68
              have e_69 : z_67.toInt = i_21.toInt + 1 := mp_add (a := i_21.toInt) (b := 1) h_68 rfl (by decide) (by (first | exact mp_o2 l_22 | omega)) (by (first | exact mp_o121 u_23 | omega))
              show mp_W E X 3 28 [(2, .int z_67), (0, .ref a0), (1, .ref (E.1.2.1 si))] [] [(mp_ob3 a0 a1 y0 a2 y1 y2 y3 y4 y5 y6 y7), (mp_arI E a1 1 1600 f0)] 0 0
              exact mp_sub [0, 1, 2] rfl [0, 1] rfl rfl (ih_28 (d_27 - 1) (by (first | exact mp_o122 hm_29 x_37 c_45 | omega)) z_67 (by (first | exact mp_o51 l_22 e_69 | omega)) (by (first | exact mp_o123 u_10 e_69 x_12 x_37 c_45 | omega)) (mp_sw_s x_24 wq_66 (by (first | exact mp_o53 l_22 e_69 | omega))) (by (first | exact mp_o51 l_22 e_69 | omega)) (by (first | exact mp_o124 hm_29 e_69 | omega)))
            · have c_65 : z_49.toInt ≠ r_55.toInt := c_65
              show mp_W E X 3 55 [(2, .int i_21), (0, .ref a0), (1, .ref (E.1.2.1 si))] [] [(mp_ob3 a0 a1 y0 a2 y1 y2 y3 y4 y5 y6 y7), (mp_arI E a1 1 1600 f0)] 0 0
              refine mp_run mp_k_cX3_isWord_ok hF mp_tabX3_ok [mp_c (.iconst 0) 0] (by decide +kernel) ?_
              show mp_W E X 3 56 [(2, .int i_21), (0, .ref a0), (1, .ref (E.1.2.1 si))] [.int 0] [(mp_ob3 a0 a1 y0 a2 y1 y2 y3 y4 y5 y6 y7), (mp_arI E a1 1 1600 f0)] 0 0
              exact mp_iret hF hQ rfl (by decide) (Nat.le_of_ble_eq_true rfl) (Nat.le_of_ble_eq_true rfl) [0, 1] (w' := [(mp_ob3 a0 a1 y0 a2 y1 y2 y3 y4 y5 y6 y7), (mp_arI E a1 1 1600 f0)]) rfl rfl (Or.inl ⟨rfl, (mp_isw_3 (j := i_21.toInt.toNat) q0 hsi (by (first | exact mp_o125 l_22 x_37 c_45 | omega)) (by have e9 := e_51; have e8 : _ = ((mp_sb.getD si []).getD (i_21.toInt).toNat 0) := x_58; rw [← e8]; (first | exact mp_o126 e_51 c_65 | omega))), rfl⟩) (by first | exact mp_fd_ok mp_k_cX3_isWord_ok (by decide +kernel) | decide +kernel)
      exact mp_sub [0, 1, 2] rfl [0, 1] rfl rfl (lp_26 _ 0 (by decide) (by decide) (mp_sw_0 (by decide)) (by decide) (Int.self_le_toNat _))
    · have c_20 : z_2.toInt ≠ r_8.toInt := c_20
      show mp_W E X 3 24 [(0, .ref a0), (1, .ref (E.1.2.1 si))] [] [(mp_ob3 a0 a1 y0 a2 y1 y2 y3 y4 y5 y6 y7), (mp_arI E a1 1 1600 f0)] 0 0
      refine mp_run mp_k_cX3_isWord_ok hF mp_tabX3_ok [mp_c (.iconst 0) 0] (by decide +kernel) ?_
      show mp_W E X 3 25 [(0, .ref a0), (1, .ref (E.1.2.1 si))] [.int 0] [(mp_ob3 a0 a1 y0 a2 y1 y2 y3 y4 y5 y6 y7), (mp_arI E a1 1 1600 f0)] 0 0
      exact mp_iret hF hQ rfl (by decide) (Nat.le_of_ble_eq_true rfl) (Nat.le_of_ble_eq_true rfl) [0, 1] (w' := [(mp_ob3 a0 a1 y0 a2 y1 y2 y3 y4 y5 y6 y7), (mp_arI E a1 1 1600 f0)]) rfl rfl (Or.inl ⟨rfl, (by first | exact mp_isw_1 q0 (by omega) | exact mp_isw_2 q0 hsi (by (first | exact l_y4 | omega)) (by (first | exact mp_o127 x_12 e_4 c_20 | omega)) (mp_CT_le q0 (by (first | exact l_y4 | omega)))), rfl⟩) (by first | exact mp_fd_ok mp_k_cX3_isWord_ok (by decide +kernel) | decide +kernel)
set_option maxHeartbeats 4000000 in
set_option maxRecDepth 100000 in
theorem bX3_fail_18 (E : mp_E) (a0 a1 a2 : Nat) (y0 : Int32) (y1 : Int32) (y2 : Int32) (y3 : Int32) (y4 : Int32) (y5 : Int32) (y6 : Int32) (y7 : Int32) (l_y0 : 0 ≤ y0.toInt) (u_y0 : y0.toInt ≤ 1600) (l_y4 : 0 ≤ y4.toInt) (u_y4 : y4.toInt ≤ 1600) (l_y5 : 0 ≤ y5.toInt) (u_y5 : y5.toInt ≤ 1600) : mp_Ct E yX3_fail cX3_fail 2 (some FieldType.boolean) 0 0 0 0 [.ref a0, .int 1] [(mp_ob3 a0 a1 y0 a2 y1 y2 y3 y4 y5 y6 y7)] (fun v w' => v = some (.int 0) ∧ (y4.toInt = y4.toInt) ∧ (1 = 1) ∧ w' = [(mp_ob3 a0 a1 y0 a2 1 y4 y3 y4 y5 y6 y7)]) := by
  refine mp_met false (by decide) (by decide) (Nat.le_of_ble_eq_true rfl) (fun X hF hQ => ?_)
  have hF : mp_F E X (RX3, cX3_fail, 2, (0, 0, 0, 0), (some FieldType.boolean), false) := hF
  show mp_W E X 2 0 [(0, .ref a0), (1, .int 1)] [] [(mp_ob3 a0 a1 y0 a2 y1 y2 y3 y4 y5 y6 y7)] 0 0
  refine mp_run mp_k_cX3_fail_ok hF mp_tabX3_ok [mp_i (.aload_n 0), mp_i (.iload_n 1), mp_h (.putfield 32) [12, 0]] (by decide +kernel) ?_
  refine And.intro rfl (And.intro rfl (And.intro rfl (And.intro rfl (And.intro (Nat.le_of_ble_eq_true rfl) ?_))))
  show mp_W E X 2 5 [(0, .ref a0), (1, .int 1)] [] [(mp_ob3 a0 a1 y0 a2 1 y2 y3 y4 y5 y6 y7)] 0 0
  refine mp_run mp_k_cX3_fail_ok hF mp_tabX3_ok [mp_i (.aload_n 0), mp_i (.aload_n 0), mp_h (.getfield 161) [15, 0], mp_h (.putfield 22) [13, 0]] (by decide +kernel) ?_
  refine And.intro rfl (And.intro rfl ?_)
  refine And.intro rfl (And.intro rfl (And.intro rfl (And.intro rfl (And.intro (Nat.le_of_ble_eq_true rfl) ?_))))
  show mp_W E X 2 13 [(0, .ref a0), (1, .int 1)] [] [(mp_ob3 a0 a1 y0 a2 1 y4 y3 y4 y5 y6 y7)] 0 0
  refine mp_run mp_k_cX3_fail_ok hF mp_tabX3_ok [mp_c (.iconst 0) 0] (by decide +kernel) ?_
  show mp_W E X 2 14 [(0, .ref a0), (1, .int 1)] [.int 0] [(mp_ob3 a0 a1 y0 a2 1 y4 y3 y4 y5 y6 y7)] 0 0
  exact mp_iret hF hQ rfl (by decide) (Nat.le_of_ble_eq_true rfl) (Nat.le_of_ble_eq_true rfl) [0] (w' := [(mp_ob3 a0 a1 y0 a2 1 y4 y3 y4 y5 y6 y7)]) rfl rfl ⟨rfl, (by first | rfl | omega), (by first | rfl | omega | decide), rfl⟩ (by first | exact mp_fd_ok mp_k_cX3_fail_ok (by decide +kernel) | decide +kernel)
set_option maxHeartbeats 4000000 in
set_option maxRecDepth 100000 in
theorem bX3_takeWord_19 (E : mp_E) (si : Nat) (hsi : si < 14) (a0 a1 a2 : Nat) (f0 : Nat → Int32) (y0 : Int32) (y1 : Int32) (y2 : Int32) (y3 : Int32) (y4 : Int32) (y5 : Int32) (y6 : Int32) (y7 : Int32) (l_y0 : 0 ≤ y0.toInt) (u_y0 : y0.toInt ≤ 1600) (l_y4 : 0 ≤ y4.toInt) (u_y4 : y4.toInt ≤ 1600) (l_y5 : 0 ≤ y5.toInt) (u_y5 : y5.toInt ≤ 1600) (q0 : mp_CT f0 y0.toInt y3.toInt y4.toInt y5.toInt y6.toInt) : mp_Ct E yX3_takeWord cX3_takeWord 2 (some FieldType.boolean) 5 0 0 107 [.ref a0, .ref (E.1.2.1 si)] [(mp_ob3 a0 a1 y0 a2 y1 y2 y3 y4 y5 y6 y7), (mp_arI E a1 1 1600 f0)] (fun v w' => (v = some (.int 0) ∧ (¬ (mp_TK f0 (y0.toInt).toNat (y4.toInt).toNat = 1 ∧ mp_WD f0 (y0.toInt).toNat (y4.toInt).toNat = mp_wk.getD si 0)) ∧ (1 = 1 ∧ y4.toInt = y4.toInt) ∧ w' = [(mp_ob3 a0 a1 y0 a2 1 y4 y3 y4 y5 y6 y7), (mp_arI E a1 1 1600 f0)]) ∨ (∃ r1 : Int32, ∃ r2 : Int32, ∃ r3 : Int32, ∃ r4 : Int32, v = some (.int 1) ∧ y3.toInt = 1 ∧ 0 ≤ r1.toInt ∧ r1.toInt ≤ 4 ∧ 0 ≤ r2.toInt ∧ r2.toInt ≤ 1600 ∧ 0 ≤ r3.toInt ∧ r3.toInt ≤ 1600 ∧ 0 ≤ r4.toInt ∧ r4.toInt ≤ 100000000 ∧ (mp_TK f0 (y0.toInt).toNat (y4.toInt).toNat = 1 ∧ mp_WD f0 (y0.toInt).toNat (y4.toInt).toNat = mp_wk.getD si 0) ∧ (r2.toInt = ((mp_NX f0 (y0.toInt).toNat (y4.toInt).toNat : Nat) : Int)) ∧ (y4.toInt ≤ r2.toInt) ∧ (mp_CT f0 y0.toInt r1.toInt r2.toInt r3.toInt r4.toInt) ∧ w' = [(mp_ob3 a0 a1 y0 a2 y1 y2 r1 r2 r3 r4 y7), (mp_arI E a1 1 1600 f0)])) := by
  refine mp_met false (by decide) (by decide) (Nat.le_of_ble_eq_true rfl) (fun X hF hQ => ?_)
  have hF : mp_F E X (RX3, cX3_takeWord, 2, (5, 0, 0, 107), (some FieldType.boolean), false) := hF
  show mp_W E X 2 0 [(0, .ref a0), (1, .ref (E.1.2.1 si))] [] [(mp_ob3 a0 a1 y0 a2 y1 y2 y3 y4 y5 y6 y7), (mp_arI E a1 1 1600 f0)] 0 0
  refine mp_run mp_k_cX3_takeWord_ok hF mp_tabX3_ok [mp_i (.aload_n 0), mp_i (.aload_n 1)] (by decide +kernel) ?_
  show mp_W E X 2 2 [(0, .ref a0), (1, .ref (E.1.2.1 si))] [.ref (E.1.2.1 si), .ref a0] [(mp_ob3 a0 a1 y0 a2 y1 y2 y3 y4 y5 y6 y7), (mp_arI E a1 1 1600 f0)] 0 0
  refine mp_callV hF (As := [.ref (E.1.2.1 si)]) (rest := []) (wr := []) (bX3_isWord_17 E si hsi a0 a1 a2 f0 y0 y1 y2 y3 y4 y5 y6 y7 l_y0 u_y0 l_y4 u_y4 l_y5 u_y5 (by assumption)) mp_lkX3_56 0 rfl [0, 1] [] rfl rfl rfl rfl rfl ⟨(Nat.le_of_ble_eq_true rfl), (Nat.le_of_ble_eq_true rfl), (Nat.le_of_ble_eq_true rfl), (Nat.le_of_ble_eq_true rfl)⟩ (Nat.le_of_ble_eq_true rfl) (by first | exact mp_fd_ok mp_k_cX3_takeWord_ok (by decide +kernel) | decide +kernel) (fun v_1 w_2 h_3 => ?_)
  rcases h_3 with ⟨rfl, x_4, rfl⟩ | ⟨rfl, c_5, x_6, rfl⟩
  · skip
    show mp_W E X 2 5 [(0, .ref a0), (1, .ref (E.1.2.1 si))] [.int 0] [(mp_ob3 a0 a1 y0 a2 y1 y2 y3 y4 y5 y6 y7), (mp_arI E a1 1 1600 f0)] 0 0
    refine mp_run mp_k_cX3_takeWord_ok hF mp_tabX3_ok [mp_h (.ifCond .ne 9) [14]] (by decide +kernel) ?_
    refine And.intro (fun c_7 => absurd c_7 (by decide)) (fun _ => ?_)
    show mp_W E X 2 8 [(0, .ref a0), (1, .ref (E.1.2.1 si))] [] [(mp_ob3 a0 a1 y0 a2 y1 y2 y3 y4 y5 y6 y7), (mp_arI E a1 1 1600 f0)] 0 0
    refine mp_run mp_k_cX3_takeWord_ok hF mp_tabX3_ok [mp_i (.aload_n 0), mp_c (.iconst 1) 1] (by decide +kernel) ?_
    show mp_W E X 2 10 [(0, .ref a0), (1, .ref (E.1.2.1 si))] [.int 1, .ref a0] [(mp_ob3 a0 a1 y0 a2 y1 y2 y3 y4 y5 y6 y7), (mp_arI E a1 1 1600 f0)] 0 0
    refine mp_callV hF (As := [.int 1]) (rest := []) (wr := [(mp_arI E a1 1 1600 f0)]) (bX3_fail_18 E a0 a1 a2 y0 y1 y2 y3 y4 y5 y6 y7 l_y0 u_y0 l_y4 u_y4 l_y5 u_y5) mp_lkX3_60 0 rfl [0] [1] rfl rfl rfl rfl rfl ⟨(Nat.le_of_ble_eq_true rfl), (Nat.le_of_ble_eq_true rfl), (Nat.le_of_ble_eq_true rfl), (Nat.le_of_ble_eq_true rfl)⟩ (Nat.le_of_ble_eq_true rfl) (by first | exact mp_fd_ok mp_k_cX3_takeWord_ok (by decide +kernel) | decide +kernel) (fun v_8 w_9 h_10 => ?_)
    obtain ⟨rfl, x_11, x_12, rfl⟩ := h_10
    show mp_W E X 2 13 [(0, .ref a0), (1, .ref (E.1.2.1 si))] [.int 0] [(mp_arI E a1 1 1600 f0), (mp_ob3 a0 a1 y0 a2 1 y4 y3 y4 y5 y6 y7)] 0 0
    exact mp_iret hF hQ rfl (by decide) (Nat.le_of_ble_eq_true rfl) (Nat.le_of_ble_eq_true rfl) [1, 0] (w' := [(mp_ob3 a0 a1 y0 a2 1 y4 y3 y4 y5 y6 y7), (mp_arI E a1 1 1600 f0)]) rfl rfl (Or.inl ⟨rfl, x_4, (by first | (first | exact mp_o128 | omega) | (have h8 : (1 : Int32).toInt = 1 := rfl; have h9 : (2 : Int32).toInt = 2 := rfl; omega)), rfl⟩) (by first | exact mp_fd_ok mp_k_cX3_takeWord_ok (by decide +kernel) | decide +kernel)
  · skip
    have c_5 : y3.toInt = 1 := c_5
    show mp_W E X 2 5 [(0, .ref a0), (1, .ref (E.1.2.1 si))] [.int 1] [(mp_ob3 a0 a1 y0 a2 y1 y2 y3 y4 y5 y6 y7), (mp_arI E a1 1 1600 f0)] 0 0
    refine mp_run mp_k_cX3_takeWord_ok hF mp_tabX3_ok [mp_h (.ifCond .ne 9) [14]] (by decide +kernel) ?_
    refine And.intro (fun _ => ?_) (fun c_13 => absurd c_13 (by decide))
    show mp_W E X 2 14 [(0, .ref a0), (1, .ref (E.1.2.1 si))] [] [(mp_ob3 a0 a1 y0 a2 y1 y2 y3 y4 y5 y6 y7), (mp_arI E a1 1 1600 f0)] 0 0
    refine mp_run mp_k_cX3_takeWord_ok hF mp_tabX3_ok [mp_i (.aload_n 0)] (by decide +kernel) ?_
    show mp_W E X 2 15 [(0, .ref a0), (1, .ref (E.1.2.1 si))] [.ref a0] [(mp_ob3 a0 a1 y0 a2 y1 y2 y3 y4 y5 y6 y7), (mp_arI E a1 1 1600 f0)] 0 0
    refine mp_callV hF (As := []) (rest := []) (wr := []) (bX3_step_8 E a0 a1 a2 f0 y0 y1 y2 y3 y4 y5 y6 y7 l_y0 u_y0 l_y4 u_y4 l_y5 u_y5) mp_lkX3_38 0 rfl [0, 1] [] rfl rfl rfl rfl rfl ⟨(Nat.le_of_ble_eq_true rfl), (Nat.le_of_ble_eq_true rfl), (Nat.le_of_ble_eq_true rfl), (Nat.le_of_ble_eq_true rfl)⟩ (Nat.le_of_ble_eq_true rfl) (by first | exact mp_fd_ok mp_k_cX3_takeWord_ok (by decide +kernel) | decide +kernel) (fun v_14 w_15 h_16 => ?_)
    refine h_16.elim fun r_17 q_32 => q_32.elim fun r_18 q_33 => q_33.elim fun r_19 q_34 => q_34.elim fun r_20 q_35 => q_35.elim fun e_36 q_37 => q_37.elim fun l_21 q_38 => q_38.elim fun u_22 q_39 => q_39.elim fun l_23 q_40 => q_40.elim fun u_24 q_41 => q_41.elim fun l_25 q_42 => q_42.elim fun u_26 q_43 => q_43.elim fun l_27 q_44 => q_44.elim fun u_28 q_45 => q_45.elim fun x_29 q_46 => q_46.elim fun x_30 q_47 => q_47.elim fun x_31 e_48 => ?_
    clear h_16 q_32 q_33 q_34 q_35 q_37 q_38 q_39 q_40 q_41 q_42 q_43 q_44 q_45 q_46 q_47
    subst e_36
    subst e_48
    let w1_ : va_W := [(mp_ob3 a0 a1 y0 a2 y1 y2 r_17 r_18 r_19 r_20 y7), (mp_arI E a1 1 1600 f0)]
    show mp_W E X 2 18 [(0, .ref a0), (1, .ref (E.1.2.1 si))] [] w1_ 0 0
    refine mp_run mp_k_cX3_takeWord_ok hF mp_tabX3_ok [mp_c (.iconst 1) 1] (by decide +kernel) ?_
    show mp_W E X 2 19 [(0, .ref a0), (1, .ref (E.1.2.1 si))] [.int 1] w1_ 0 0
    exact mp_iret hF hQ rfl (by decide) (Nat.le_of_ble_eq_true rfl) (Nat.le_of_ble_eq_true rfl) [0, 1] (w' := w1_) rfl rfl (Or.inr ⟨r_17, r_18, r_19, r_20, rfl, (by first | (first | exact c_5 | omega) | decide), l_21, u_22, l_23, u_24, l_25, u_26, l_27, u_28, x_6, (by have k9 := x_29; unfold mp_NX; rw [← Int.toNat_natCast (mp_TE _ _ _), ← q0.2.2.1]; exact k9), (by have k9 := mp_CT_le q0 (by (first | exact l_y4 | omega)); (first | exact mp_o129 x_30 k9 | omega)), x_31, rfl⟩) (by first | exact mp_fd_ok mp_k_cX3_takeWord_ok (by decide +kernel) | decide +kernel)
set_option maxHeartbeats 4000000 in
set_option maxRecDepth 100000 in
theorem bX3_fail_20 (E : mp_E) (a0 a1 a2 : Nat) (y0 : Int32) (y1 : Int32) (y2 : Int32) (y3 : Int32) (y4 : Int32) (y5 : Int32) (y6 : Int32) (y7 : Int32) (l_y0 : 0 ≤ y0.toInt) (u_y0 : y0.toInt ≤ 1600) (l_y4 : 0 ≤ y4.toInt) (u_y4 : y4.toInt ≤ 1600) (l_y5 : 0 ≤ y5.toInt) (u_y5 : y5.toInt ≤ 1600) : mp_Ct E yX3_fail cX3_fail 2 (some FieldType.boolean) 0 0 0 0 [.ref a0, .int 2] [(mp_ob3 a0 a1 y0 a2 y1 y2 y3 y4 y5 y6 y7)] (fun v w' => v = some (.int 0) ∧ (y4.toInt = y4.toInt) ∧ (2 = 2) ∧ w' = [(mp_ob3 a0 a1 y0 a2 2 y4 y3 y4 y5 y6 y7)]) := by
  refine mp_met false (by decide) (by decide) (Nat.le_of_ble_eq_true rfl) (fun X hF hQ => ?_)
  have hF : mp_F E X (RX3, cX3_fail, 2, (0, 0, 0, 0), (some FieldType.boolean), false) := hF
  show mp_W E X 2 0 [(0, .ref a0), (1, .int 2)] [] [(mp_ob3 a0 a1 y0 a2 y1 y2 y3 y4 y5 y6 y7)] 0 0
  refine mp_run mp_k_cX3_fail_ok hF mp_tabX3_ok [mp_i (.aload_n 0), mp_i (.iload_n 1), mp_h (.putfield 32) [12, 0]] (by decide +kernel) ?_
  refine And.intro rfl (And.intro rfl (And.intro rfl (And.intro rfl (And.intro (Nat.le_of_ble_eq_true rfl) ?_))))
  show mp_W E X 2 5 [(0, .ref a0), (1, .int 2)] [] [(mp_ob3 a0 a1 y0 a2 2 y2 y3 y4 y5 y6 y7)] 0 0
  refine mp_run mp_k_cX3_fail_ok hF mp_tabX3_ok [mp_i (.aload_n 0), mp_i (.aload_n 0), mp_h (.getfield 161) [15, 0], mp_h (.putfield 22) [13, 0]] (by decide +kernel) ?_
  refine And.intro rfl (And.intro rfl ?_)
  refine And.intro rfl (And.intro rfl (And.intro rfl (And.intro rfl (And.intro (Nat.le_of_ble_eq_true rfl) ?_))))
  show mp_W E X 2 13 [(0, .ref a0), (1, .int 2)] [] [(mp_ob3 a0 a1 y0 a2 2 y4 y3 y4 y5 y6 y7)] 0 0
  refine mp_run mp_k_cX3_fail_ok hF mp_tabX3_ok [mp_c (.iconst 0) 0] (by decide +kernel) ?_
  show mp_W E X 2 14 [(0, .ref a0), (1, .int 2)] [.int 0] [(mp_ob3 a0 a1 y0 a2 2 y4 y3 y4 y5 y6 y7)] 0 0
  exact mp_iret hF hQ rfl (by decide) (Nat.le_of_ble_eq_true rfl) (Nat.le_of_ble_eq_true rfl) [0] (w' := [(mp_ob3 a0 a1 y0 a2 2 y4 y3 y4 y5 y6 y7)]) rfl rfl ⟨rfl, (by first | rfl | omega), (by first | rfl | omega | decide), rfl⟩ (by first | exact mp_fd_ok mp_k_cX3_fail_ok (by decide +kernel) | decide +kernel)
set_option maxHeartbeats 4000000 in
set_option maxRecDepth 100000 in
theorem bX3_takeNumber_21 (E : mp_E) (a0 a1 a2 : Nat) (f0 : Nat → Int32) (y0 : Int32) (y1 : Int32) (y2 : Int32) (y3 : Int32) (y4 : Int32) (y5 : Int32) (y6 : Int32) (y7 : Int32) (x0 : Int32) (x1 : Int32) (l_x0 : (-1) ≤ x0.toInt) (u_x0 : x0.toInt ≤ 5) (l_y0 : 0 ≤ y0.toInt) (u_y0 : y0.toInt ≤ 1600) (l_y4 : 0 ≤ y4.toInt) (u_y4 : y4.toInt ≤ 1600) (l_y5 : 0 ≤ y5.toInt) (u_y5 : y5.toInt ≤ 1600) (q0 : mp_CT f0 y0.toInt y3.toInt y4.toInt y5.toInt y6.toInt) (q1 : x0.toInt ≤ 1000000) (q2 : x1.toInt ≤ 1000000) : mp_Ct E yX3_takeNumber cX3_takeNumber 4 (some FieldType.boolean) 2 0 0 41 [.ref a0, .int 0, .int x0, .int x1] [(mp_ob3 a0 a1 y0 a2 y1 y2 y3 y4 y5 y6 y7), (mp_arI E a1 1 1600 f0)] (fun v w' => (∃ r1 : Int32, v = some (.int 0) ∧ 1 ≤ r1.toInt ∧ r1.toInt ≤ 2 ∧ ((mp_TK f0 (y0.toInt).toNat (y4.toInt).toNat ≠ 2 ∧ r1.toInt = 1) ∨ (mp_TK f0 (y0.toInt).toNat (y4.toInt).toNat = 2 ∧ (mp_TV f0 (y0.toInt).toNat (y4.toInt).toNat < 0 ∨ x0.toInt < mp_TV f0 (y0.toInt).toNat (y4.toInt).toNat ∨ mp_TV f0 (y0.toInt).toNat (y4.toInt).toNat = x1.toInt) ∧ r1.toInt = 2)) ∧ (y4.toInt = y4.toInt) ∧ w' = [(mp_ob3 a0 a1 y0 a2 r1 y4 y3 y4 y5 y6 y7), (mp_arI E a1 1 1600 f0)]) ∨ (∃ r1 : Int32, ∃ r2 : Int32, ∃ r3 : Int32, ∃ r4 : Int32, v = some (.int 1) ∧ y3.toInt = 2 ∧ 0 ≤ y6.toInt ∧ y6.toInt ≤ x0.toInt ∧ y6.toInt ≠ x1.toInt ∧ 0 ≤ r1.toInt ∧ r1.toInt ≤ 4 ∧ 0 ≤ r2.toInt ∧ r2.toInt ≤ 1600 ∧ 0 ≤ r3.toInt ∧ r3.toInt ≤ 1600 ∧ 0 ≤ r4.toInt ∧ r4.toInt ≤ 100000000 ∧ (mp_TK f0 (y0.toInt).toNat (y4.toInt).toNat = 2 ∧ 0 ≤ mp_TV f0 (y0.toInt).toNat (y4.toInt).toNat ∧ mp_TV f0 (y0.toInt).toNat (y4.toInt).toNat ≤ x0.toInt ∧ mp_TV f0 (y0.toInt).toNat (y4.toInt).toNat ≠ x1.toInt) ∧ (y6.toInt = mp_TV f0 (y0.toInt).toNat (y4.toInt).toNat) ∧ (r2.toInt = ((mp_NX f0 (y0.toInt).toNat (y4.toInt).toNat : Nat) : Int)) ∧ (y4.toInt ≤ r2.toInt) ∧ (mp_CT f0 y0.toInt r1.toInt r2.toInt r3.toInt r4.toInt) ∧ w' = [(mp_ob3 a0 a1 y0 a2 y1 y2 r1 r2 r3 r4 y6), (mp_arI E a1 1 1600 f0)])) := by
  refine mp_met false (by decide) (by decide) (Nat.le_of_ble_eq_true rfl) (fun X hF hQ => ?_)
  have hF : mp_F E X (RX3, cX3_takeNumber, 4, (2, 0, 0, 41), (some FieldType.boolean), false) := hF
  show mp_W E X 4 0 [(0, .ref a0), (1, .int 0), (2, .int x0), (3, .int x1)] [] [(mp_ob3 a0 a1 y0 a2 y1 y2 y3 y4 y5 y6 y7), (mp_arI E a1 1 1600 f0)] 0 0
  refine mp_run mp_k_cX3_takeNumber_ok hF mp_tabX3_ok [mp_i (.aload_n 0), mp_h (.getfield 41) [14, 0], mp_c (.iconst 2) 2, mp_h (.if_icmp .eq 9) [14]] (by decide +kernel) ?_
  refine And.intro rfl (And.intro rfl ?_)
  refine And.intro (fun c_1 => ?_) (fun c_1 => ?_)
  · have c_1 : y3.toInt = 2 := (congrArg Int32.toInt c_1)
    show mp_W E X 4 14 [(0, .ref a0), (1, .int 0), (2, .int x0), (3, .int x1)] [] [(mp_ob3 a0 a1 y0 a2 y1 y2 y3 y4 y5 y6 y7), (mp_arI E a1 1 1600 f0)] 0 0
    refine mp_run mp_k_cX3_takeNumber_ok hF mp_tabX3_ok [mp_i (.aload_n 0), mp_h (.getfield 158) [17, 0], mp_i (.iload_n 1), mp_h (.if_icmp .lt 19) [38]] (by decide +kernel) ?_
    refine And.intro rfl (And.intro rfl ?_)
    refine And.intro (fun c_2 => ?_) (fun c_2 => ?_)
    · have c_2 : y6.toInt < 0 := c_2
      show mp_W E X 4 38 [(0, .ref a0), (1, .int 0), (2, .int x0), (3, .int x1)] [] [(mp_ob3 a0 a1 y0 a2 y1 y2 y3 y4 y5 y6 y7), (mp_arI E a1 1 1600 f0)] 0 0
      refine mp_run mp_k_cX3_takeNumber_ok hF mp_tabX3_ok [mp_i (.aload_n 0), mp_c (.iconst 2) 2] (by decide +kernel) ?_
      show mp_W E X 4 40 [(0, .ref a0), (1, .int 0), (2, .int x0), (3, .int x1)] [.int 2, .ref a0] [(mp_ob3 a0 a1 y0 a2 y1 y2 y3 y4 y5 y6 y7), (mp_arI E a1 1 1600 f0)] 0 0
      refine mp_callV hF (As := [.int 2]) (rest := []) (wr := [(mp_arI E a1 1 1600 f0)]) (bX3_fail_20 E a0 a1 a2 y0 y1 y2 y3 y4 y5 y6 y7 l_y0 u_y0 l_y4 u_y4 l_y5 u_y5) mp_lkX3_60 0 rfl [0] [1] rfl rfl rfl rfl rfl ⟨(Nat.le_of_ble_eq_true rfl), (Nat.le_of_ble_eq_true rfl), (Nat.le_of_ble_eq_true rfl), (Nat.le_of_ble_eq_true rfl)⟩ (Nat.le_of_ble_eq_true rfl) (by first | exact mp_fd_ok mp_k_cX3_takeNumber_ok (by decide +kernel) | decide +kernel) (fun v_3 w_4 h_5 => ?_)
      obtain ⟨rfl, x_6, x_7, rfl⟩ := h_5
      show mp_W E X 4 43 [(0, .ref a0), (1, .int 0), (2, .int x0), (3, .int x1)] [.int 0] [(mp_arI E a1 1 1600 f0), (mp_ob3 a0 a1 y0 a2 2 y4 y3 y4 y5 y6 y7)] 0 0
      exact mp_iret hF hQ rfl (by decide) (Nat.le_of_ble_eq_true rfl) (Nat.le_of_ble_eq_true rfl) [1, 0] (w' := [(mp_ob3 a0 a1 y0 a2 2 y4 y3 y4 y5 y6 y7), (mp_arI E a1 1 1600 f0)]) rfl rfl (Or.inl ⟨2, rfl, (by decide), (by decide), (by have k7 := q0.2.1; have k8 := q0.2.2.2; have h8 : (1 : Int32).toInt = 1 := rfl; have h9 : (2 : Int32).toInt = 2 := rfl; rcases k8 with k8 | k8; ((first | exact mp_o130 c_1 k8 | omega)); (have k6 := mp_cap_i k8; (first | exact mp_o131 h9 c_2 k6 c_1 k7 | omega))), (by first | rfl | omega), rfl⟩) (by first | exact mp_fd_ok mp_k_cX3_takeNumber_ok (by decide +kernel) | decide +kernel)
    · have c_2 : 0 ≤ y6.toInt := c_2
      show mp_W E X 4 22 [(0, .ref a0), (1, .int 0), (2, .int x0), (3, .int x1)] [] [(mp_ob3 a0 a1 y0 a2 y1 y2 y3 y4 y5 y6 y7), (mp_arI E a1 1 1600 f0)] 0 0
      refine mp_run mp_k_cX3_takeNumber_ok hF mp_tabX3_ok [mp_i (.aload_n 0), mp_h (.getfield 158) [17, 0], mp_i (.iload_n 2), mp_h (.if_icmp .gt 11) [38]] (by decide +kernel) ?_
      refine And.intro rfl (And.intro rfl ?_)
      refine And.intro (fun c_8 => ?_) (fun c_8 => ?_)
      · have c_8 : x0.toInt < y6.toInt := c_8
        show mp_W E X 4 38 [(0, .ref a0), (1, .int 0), (2, .int x0), (3, .int x1)] [] [(mp_ob3 a0 a1 y0 a2 y1 y2 y3 y4 y5 y6 y7), (mp_arI E a1 1 1600 f0)] 0 0
        refine mp_run mp_k_cX3_takeNumber_ok hF mp_tabX3_ok [mp_i (.aload_n 0), mp_c (.iconst 2) 2] (by decide +kernel) ?_
        show mp_W E X 4 40 [(0, .ref a0), (1, .int 0), (2, .int x0), (3, .int x1)] [.int 2, .ref a0] [(mp_ob3 a0 a1 y0 a2 y1 y2 y3 y4 y5 y6 y7), (mp_arI E a1 1 1600 f0)] 0 0
        refine mp_callV hF (As := [.int 2]) (rest := []) (wr := [(mp_arI E a1 1 1600 f0)]) (bX3_fail_20 E a0 a1 a2 y0 y1 y2 y3 y4 y5 y6 y7 l_y0 u_y0 l_y4 u_y4 l_y5 u_y5) mp_lkX3_60 0 rfl [0] [1] rfl rfl rfl rfl rfl ⟨(Nat.le_of_ble_eq_true rfl), (Nat.le_of_ble_eq_true rfl), (Nat.le_of_ble_eq_true rfl), (Nat.le_of_ble_eq_true rfl)⟩ (Nat.le_of_ble_eq_true rfl) (by first | exact mp_fd_ok mp_k_cX3_takeNumber_ok (by decide +kernel) | decide +kernel) (fun v_9 w_10 h_11 => ?_)
        obtain ⟨rfl, x_12, x_13, rfl⟩ := h_11
        show mp_W E X 4 43 [(0, .ref a0), (1, .int 0), (2, .int x0), (3, .int x1)] [.int 0] [(mp_arI E a1 1 1600 f0), (mp_ob3 a0 a1 y0 a2 2 y4 y3 y4 y5 y6 y7)] 0 0
        exact mp_iret hF hQ rfl (by decide) (Nat.le_of_ble_eq_true rfl) (Nat.le_of_ble_eq_true rfl) [1, 0] (w' := [(mp_ob3 a0 a1 y0 a2 2 y4 y3 y4 y5 y6 y7), (mp_arI E a1 1 1600 f0)]) rfl rfl (Or.inl ⟨2, rfl, (by decide), (by decide), (by have k7 := q0.2.1; have k8 := q0.2.2.2; have h8 : (1 : Int32).toInt = 1 := rfl; have h9 : (2 : Int32).toInt = 2 := rfl; rcases k8 with k8 | k8; ((first | exact mp_o130 c_1 k8 | omega)); (have k6 := mp_cap_i k8; (first | exact mp_o132 h9 c_1 k7 c_8 k6 | omega))), (by first | rfl | omega), rfl⟩) (by first | exact mp_fd_ok mp_k_cX3_takeNumber_ok (by decide +kernel) | decide +kernel)
      · have c_8 : y6.toInt ≤ x0.toInt := c_8
        show mp_W E X 4 30 [(0, .ref a0), (1, .int 0), (2, .int x0), (3, .int x1)] [] [(mp_ob3 a0 a1 y0 a2 y1 y2 y3 y4 y5 y6 y7), (mp_arI E a1 1 1600 f0)] 0 0
        refine mp_run mp_k_cX3_takeNumber_ok hF mp_tabX3_ok [mp_i (.aload_n 0), mp_h (.getfield 158) [17, 0], mp_i (.iload_n 3), mp_h (.if_icmp .ne 9) [44]] (by decide +kernel) ?_
        refine And.intro rfl (And.intro rfl ?_)
        refine And.intro (fun c_14 => ?_) (fun c_14 => ?_)
        · have c_14 : y6.toInt ≠ x1.toInt := c_14
          show mp_W E X 4 44 [(0, .ref a0), (1, .int 0), (2, .int x0), (3, .int x1)] [] [(mp_ob3 a0 a1 y0 a2 y1 y2 y3 y4 y5 y6 y7), (mp_arI E a1 1 1600 f0)] 0 0
          refine mp_run mp_k_cX3_takeNumber_ok hF mp_tabX3_ok [mp_i (.aload_n 0), mp_i (.aload_n 0), mp_h (.getfield 158) [17, 0], mp_h (.putfield 95) [18, 0]] (by decide +kernel) ?_
          refine And.intro rfl (And.intro rfl ?_)
          refine And.intro rfl (And.intro rfl (And.intro rfl (And.intro rfl (And.intro (Nat.le_of_ble_eq_true rfl) ?_))))
          show mp_W E X 4 52 [(0, .ref a0), (1, .int 0), (2, .int x0), (3, .int x1)] [] [(mp_ob3 a0 a1 y0 a2 y1 y2 y3 y4 y5 y6 y6), (mp_arI E a1 1 1600 f0)] 0 0
          refine mp_run mp_k_cX3_takeNumber_ok hF mp_tabX3_ok [mp_i (.aload_n 0)] (by decide +kernel) ?_
          show mp_W E X 4 53 [(0, .ref a0), (1, .int 0), (2, .int x0), (3, .int x1)] [.ref a0] [(mp_ob3 a0 a1 y0 a2 y1 y2 y3 y4 y5 y6 y6), (mp_arI E a1 1 1600 f0)] 0 0
          refine mp_callV hF (As := []) (rest := []) (wr := []) (bX3_step_8 E a0 a1 a2 f0 y0 y1 y2 y3 y4 y5 y6 y6 l_y0 u_y0 l_y4 u_y4 l_y5 u_y5) mp_lkX3_38 0 rfl [0, 1] [] rfl rfl rfl rfl rfl ⟨(Nat.le_of_ble_eq_true rfl), (Nat.le_of_ble_eq_true rfl), (Nat.le_of_ble_eq_true rfl), (Nat.le_of_ble_eq_true rfl)⟩ (Nat.le_of_ble_eq_true rfl) (by first | exact mp_fd_ok mp_k_cX3_takeNumber_ok (by decide +kernel) | decide +kernel) (fun v_15 w_16 h_17 => ?_)
          refine h_17.elim fun r_18 q_33 => q_33.elim fun r_19 q_34 => q_34.elim fun r_20 q_35 => q_35.elim fun r_21 q_36 => q_36.elim fun e_37 q_38 => q_38.elim fun l_22 q_39 => q_39.elim fun u_23 q_40 => q_40.elim fun l_24 q_41 => q_41.elim fun u_25 q_42 => q_42.elim fun l_26 q_43 => q_43.elim fun u_27 q_44 => q_44.elim fun l_28 q_45 => q_45.elim fun u_29 q_46 => q_46.elim fun x_30 q_47 => q_47.elim fun x_31 q_48 => q_48.elim fun x_32 e_49 => ?_
          clear h_17 q_33 q_34 q_35 q_36 q_38 q_39 q_40 q_41 q_42 q_43 q_44 q_45 q_46 q_47 q_48
          subst e_37
          subst e_49
          let w1_ : va_W := [(mp_ob3 a0 a1 y0 a2 y1 y2 r_18 r_19 r_20 r_21 y6), (mp_arI E a1 1 1600 f0)]
          show mp_W E X 4 56 [(0, .ref a0), (1, .int 0), (2, .int x0), (3, .int x1)] [] w1_ 0 0
          refine mp_run mp_k_cX3_takeNumber_ok hF mp_tabX3_ok [mp_c (.iconst 1) 1] (by decide +kernel) ?_
          show mp_W E X 4 57 [(0, .ref a0), (1, .int 0), (2, .int x0), (3, .int x1)] [.int 1] w1_ 0 0
          exact mp_iret hF hQ rfl (by decide) (Nat.le_of_ble_eq_true rfl) (Nat.le_of_ble_eq_true rfl) [0, 1] (w' := w1_) rfl rfl (Or.inr ⟨r_18, r_19, r_20, r_21, rfl, (by first | (first | exact c_1 | omega) | decide), (by first | (first | exact c_2 | omega) | decide), (by first | (first | exact c_8 | omega) | decide), (by first | (first | exact c_14 | omega) | decide), l_22, u_23, l_24, u_25, l_26, u_27, l_28, u_29, (by have k7 := q0.2.1; have k8 := q0.2.2.2; have h8 : (1 : Int32).toInt = 1 := rfl; have h9 : (2 : Int32).toInt = 2 := rfl; rcases k8 with k8 | k8; ((first | exact mp_o133 c_1 k8 | omega)); (have k6 := mp_cap_i k8; (first | exact mp_o134 u_x0 c_2 k6 c_14 c_8 c_1 k7 | omega))), (by have k7 := q0.2.1; have k8 := q0.2.2.2; have h8 : (1 : Int32).toInt = 1 := rfl; have h9 : (2 : Int32).toInt = 2 := rfl; rcases k8 with k8 | k8; ((first | exact mp_o135 c_1 k8 | omega)); (have k6 := mp_cap_i k8; (first | exact mp_o136 k6 u_x0 c_8 | omega))), (by have k9 := x_30; unfold mp_NX; rw [← Int.toNat_natCast (mp_TE _ _ _), ← q0.2.2.1]; exact k9), (by have k9 := mp_CT_le q0 (by (first | exact l_y4 | omega)); (first | exact mp_o129 x_31 k9 | omega)), x_32, rfl⟩) (by first | exact mp_fd_ok mp_k_cX3_takeNumber_ok (by decide +kernel) | decide +kernel)
        · have c_14 : y6.toInt = x1.toInt := (congrArg Int32.toInt c_14)
          show mp_W E X 4 38 [(0, .ref a0), (1, .int 0), (2, .int x0), (3, .int x1)] [] [(mp_ob3 a0 a1 y0 a2 y1 y2 y3 y4 y5 y6 y7), (mp_arI E a1 1 1600 f0)] 0 0
          refine mp_run mp_k_cX3_takeNumber_ok hF mp_tabX3_ok [mp_i (.aload_n 0), mp_c (.iconst 2) 2] (by decide +kernel) ?_
          show mp_W E X 4 40 [(0, .ref a0), (1, .int 0), (2, .int x0), (3, .int x1)] [.int 2, .ref a0] [(mp_ob3 a0 a1 y0 a2 y1 y2 y3 y4 y5 y6 y7), (mp_arI E a1 1 1600 f0)] 0 0
          refine mp_callV hF (As := [.int 2]) (rest := []) (wr := [(mp_arI E a1 1 1600 f0)]) (bX3_fail_20 E a0 a1 a2 y0 y1 y2 y3 y4 y5 y6 y7 l_y0 u_y0 l_y4 u_y4 l_y5 u_y5) mp_lkX3_60 0 rfl [0] [1] rfl rfl rfl rfl rfl ⟨(Nat.le_of_ble_eq_true rfl), (Nat.le_of_ble_eq_true rfl), (Nat.le_of_ble_eq_true rfl), (Nat.le_of_ble_eq_true rfl)⟩ (Nat.le_of_ble_eq_true rfl) (by first | exact mp_fd_ok mp_k_cX3_takeNumber_ok (by decide +kernel) | decide +kernel) (fun v_50 w_51 h_52 => ?_)
          obtain ⟨rfl, x_53, x_54, rfl⟩ := h_52
          show mp_W E X 4 43 [(0, .ref a0), (1, .int 0), (2, .int x0), (3, .int x1)] [.int 0] [(mp_arI E a1 1 1600 f0), (mp_ob3 a0 a1 y0 a2 2 y4 y3 y4 y5 y6 y7)] 0 0
          exact mp_iret hF hQ rfl (by decide) (Nat.le_of_ble_eq_true rfl) (Nat.le_of_ble_eq_true rfl) [1, 0] (w' := [(mp_ob3 a0 a1 y0 a2 2 y4 y3 y4 y5 y6 y7), (mp_arI E a1 1 1600 f0)]) rfl rfl (Or.inl ⟨2, rfl, (by decide), (by decide), (by have k7 := q0.2.1; have k8 := q0.2.2.2; have h8 : (1 : Int32).toInt = 1 := rfl; have h9 : (2 : Int32).toInt = 2 := rfl; rcases k8 with k8 | k8; ((first | exact mp_o130 c_1 k8 | omega)); (have k6 := mp_cap_i k8; (first | exact mp_o137 h9 q2 c_1 k7 c_14 k6 | omega))), (by first | rfl | omega), rfl⟩) (by first | exact mp_fd_ok mp_k_cX3_takeNumber_ok (by decide +kernel) | decide +kernel)
  · have c_1 : y3.toInt ≠ 2 := c_1
    show mp_W E X 4 8 [(0, .ref a0), (1, .int 0), (2, .int x0), (3, .int x1)] [] [(mp_ob3 a0 a1 y0 a2 y1 y2 y3 y4 y5 y6 y7), (mp_arI E a1 1 1600 f0)] 0 0
    refine mp_run mp_k_cX3_takeNumber_ok hF mp_tabX3_ok [mp_i (.aload_n 0), mp_c (.iconst 1) 1] (by decide +kernel) ?_
    show mp_W E X 4 10 [(0, .ref a0), (1, .int 0), (2, .int x0), (3, .int x1)] [.int 1, .ref a0] [(mp_ob3 a0 a1 y0 a2 y1 y2 y3 y4 y5 y6 y7), (mp_arI E a1 1 1600 f0)] 0 0
    refine mp_callV hF (As := [.int 1]) (rest := []) (wr := [(mp_arI E a1 1 1600 f0)]) (bX3_fail_18 E a0 a1 a2 y0 y1 y2 y3 y4 y5 y6 y7 l_y0 u_y0 l_y4 u_y4 l_y5 u_y5) mp_lkX3_60 0 rfl [0] [1] rfl rfl rfl rfl rfl ⟨(Nat.le_of_ble_eq_true rfl), (Nat.le_of_ble_eq_true rfl), (Nat.le_of_ble_eq_true rfl), (Nat.le_of_ble_eq_true rfl)⟩ (Nat.le_of_ble_eq_true rfl) (by first | exact mp_fd_ok mp_k_cX3_takeNumber_ok (by decide +kernel) | decide +kernel) (fun v_55 w_56 h_57 => ?_)
    obtain ⟨rfl, x_58, x_59, rfl⟩ := h_57
    show mp_W E X 4 13 [(0, .ref a0), (1, .int 0), (2, .int x0), (3, .int x1)] [.int 0] [(mp_arI E a1 1 1600 f0), (mp_ob3 a0 a1 y0 a2 1 y4 y3 y4 y5 y6 y7)] 0 0
    exact mp_iret hF hQ rfl (by decide) (Nat.le_of_ble_eq_true rfl) (Nat.le_of_ble_eq_true rfl) [1, 0] (w' := [(mp_ob3 a0 a1 y0 a2 1 y4 y3 y4 y5 y6 y7), (mp_arI E a1 1 1600 f0)]) rfl rfl (Or.inl ⟨1, rfl, (by decide), (by decide), (by have k7 := q0.2.1; have k8 := q0.2.2.2; have h8 : (1 : Int32).toInt = 1 := rfl; have h9 : (2 : Int32).toInt = 2 := rfl; rcases k8 with k8 | k8; ((first | exact mp_o138 h8 k7 k8 | omega)); (have k6 := mp_cap_i k8; (first | exact mp_o138 h8 k7 c_1 | omega))), (by first | rfl | omega), rfl⟩) (by first | exact mp_fd_ok mp_k_cX3_takeNumber_ok (by decide +kernel) | decide +kernel)
set_option maxHeartbeats 4000000 in
set_option maxRecDepth 100000 in
theorem bX3_takeNumber_22 (E : mp_E) (a0 a1 a2 : Nat) (f0 : Nat → Int32) (y0 : Int32) (y1 : Int32) (y2 : Int32) (y3 : Int32) (y4 : Int32) (y5 : Int32) (y6 : Int32) (y7 : Int32) (x0 : Int32) (l_y0 : 0 ≤ y0.toInt) (u_y0 : y0.toInt ≤ 1600) (l_y4 : 0 ≤ y4.toInt) (u_y4 : y4.toInt ≤ 1600) (l_y5 : 0 ≤ y5.toInt) (u_y5 : y5.toInt ≤ 1600) (q0 : mp_CT f0 y0.toInt y3.toInt y4.toInt y5.toInt y6.toInt) (q1 : 99 ≤ 1000000) (q2 : x0.toInt ≤ 1000000) : mp_Ct E yX3_takeNumber cX3_takeNumber 4 (some FieldType.boolean) 2 0 0 41 [.ref a0, .int 0, .int 99, .int x0] [(mp_ob3 a0 a1 y0 a2 y1 y2 y3 y4 y5 y6 y7), (mp_arI E a1 1 1600 f0)] (fun v w' => (∃ r1 : Int32, v = some (.int 0) ∧ 1 ≤ r1.toInt ∧ r1.toInt ≤ 2 ∧ ((mp_TK f0 (y0.toInt).toNat (y4.toInt).toNat ≠ 2 ∧ r1.toInt = 1) ∨ (mp_TK f0 (y0.toInt).toNat (y4.toInt).toNat = 2 ∧ (mp_TV f0 (y0.toInt).toNat (y4.toInt).toNat < 0 ∨ 99 < mp_TV f0 (y0.toInt).toNat (y4.toInt).toNat ∨ mp_TV f0 (y0.toInt).toNat (y4.toInt).toNat = x0.toInt) ∧ r1.toInt = 2)) ∧ (y4.toInt = y4.toInt) ∧ w' = [(mp_ob3 a0 a1 y0 a2 r1 y4 y3 y4 y5 y6 y7), (mp_arI E a1 1 1600 f0)]) ∨ (∃ r1 : Int32, ∃ r2 : Int32, ∃ r3 : Int32, ∃ r4 : Int32, v = some (.int 1) ∧ y3.toInt = 2 ∧ 0 ≤ y6.toInt ∧ y6.toInt ≤ 99 ∧ y6.toInt ≠ x0.toInt ∧ 0 ≤ r1.toInt ∧ r1.toInt ≤ 4 ∧ 0 ≤ r2.toInt ∧ r2.toInt ≤ 1600 ∧ 0 ≤ r3.toInt ∧ r3.toInt ≤ 1600 ∧ 0 ≤ r4.toInt ∧ r4.toInt ≤ 100000000 ∧ (mp_TK f0 (y0.toInt).toNat (y4.toInt).toNat = 2 ∧ 0 ≤ mp_TV f0 (y0.toInt).toNat (y4.toInt).toNat ∧ mp_TV f0 (y0.toInt).toNat (y4.toInt).toNat ≤ 99 ∧ mp_TV f0 (y0.toInt).toNat (y4.toInt).toNat ≠ x0.toInt) ∧ (y6.toInt = mp_TV f0 (y0.toInt).toNat (y4.toInt).toNat) ∧ (r2.toInt = ((mp_NX f0 (y0.toInt).toNat (y4.toInt).toNat : Nat) : Int)) ∧ (y4.toInt ≤ r2.toInt) ∧ (mp_CT f0 y0.toInt r1.toInt r2.toInt r3.toInt r4.toInt) ∧ w' = [(mp_ob3 a0 a1 y0 a2 y1 y2 r1 r2 r3 r4 y6), (mp_arI E a1 1 1600 f0)])) := by
  refine mp_met false (by decide) (by decide) (Nat.le_of_ble_eq_true rfl) (fun X hF hQ => ?_)
  have hF : mp_F E X (RX3, cX3_takeNumber, 4, (2, 0, 0, 41), (some FieldType.boolean), false) := hF
  show mp_W E X 4 0 [(0, .ref a0), (1, .int 0), (2, .int 99), (3, .int x0)] [] [(mp_ob3 a0 a1 y0 a2 y1 y2 y3 y4 y5 y6 y7), (mp_arI E a1 1 1600 f0)] 0 0
  refine mp_run mp_k_cX3_takeNumber_ok hF mp_tabX3_ok [mp_i (.aload_n 0), mp_h (.getfield 41) [14, 0], mp_c (.iconst 2) 2, mp_h (.if_icmp .eq 9) [14]] (by decide +kernel) ?_
  refine And.intro rfl (And.intro rfl ?_)
  refine And.intro (fun c_1 => ?_) (fun c_1 => ?_)
  · have c_1 : y3.toInt = 2 := (congrArg Int32.toInt c_1)
    show mp_W E X 4 14 [(0, .ref a0), (1, .int 0), (2, .int 99), (3, .int x0)] [] [(mp_ob3 a0 a1 y0 a2 y1 y2 y3 y4 y5 y6 y7), (mp_arI E a1 1 1600 f0)] 0 0
    refine mp_run mp_k_cX3_takeNumber_ok hF mp_tabX3_ok [mp_i (.aload_n 0), mp_h (.getfield 158) [17, 0], mp_i (.iload_n 1), mp_h (.if_icmp .lt 19) [38]] (by decide +kernel) ?_
    refine And.intro rfl (And.intro rfl ?_)
    refine And.intro (fun c_2 => ?_) (fun c_2 => ?_)
    · have c_2 : y6.toInt < 0 := c_2
      show mp_W E X 4 38 [(0, .ref a0), (1, .int 0), (2, .int 99), (3, .int x0)] [] [(mp_ob3 a0 a1 y0 a2 y1 y2 y3 y4 y5 y6 y7), (mp_arI E a1 1 1600 f0)] 0 0
      refine mp_run mp_k_cX3_takeNumber_ok hF mp_tabX3_ok [mp_i (.aload_n 0), mp_c (.iconst 2) 2] (by decide +kernel) ?_
      show mp_W E X 4 40 [(0, .ref a0), (1, .int 0), (2, .int 99), (3, .int x0)] [.int 2, .ref a0] [(mp_ob3 a0 a1 y0 a2 y1 y2 y3 y4 y5 y6 y7), (mp_arI E a1 1 1600 f0)] 0 0
      refine mp_callV hF (As := [.int 2]) (rest := []) (wr := [(mp_arI E a1 1 1600 f0)]) (bX3_fail_20 E a0 a1 a2 y0 y1 y2 y3 y4 y5 y6 y7 l_y0 u_y0 l_y4 u_y4 l_y5 u_y5) mp_lkX3_60 0 rfl [0] [1] rfl rfl rfl rfl rfl ⟨(Nat.le_of_ble_eq_true rfl), (Nat.le_of_ble_eq_true rfl), (Nat.le_of_ble_eq_true rfl), (Nat.le_of_ble_eq_true rfl)⟩ (Nat.le_of_ble_eq_true rfl) (by first | exact mp_fd_ok mp_k_cX3_takeNumber_ok (by decide +kernel) | decide +kernel) (fun v_3 w_4 h_5 => ?_)
      obtain ⟨rfl, x_6, x_7, rfl⟩ := h_5
      show mp_W E X 4 43 [(0, .ref a0), (1, .int 0), (2, .int 99), (3, .int x0)] [.int 0] [(mp_arI E a1 1 1600 f0), (mp_ob3 a0 a1 y0 a2 2 y4 y3 y4 y5 y6 y7)] 0 0
      exact mp_iret hF hQ rfl (by decide) (Nat.le_of_ble_eq_true rfl) (Nat.le_of_ble_eq_true rfl) [1, 0] (w' := [(mp_ob3 a0 a1 y0 a2 2 y4 y3 y4 y5 y6 y7), (mp_arI E a1 1 1600 f0)]) rfl rfl (Or.inl ⟨2, rfl, (by decide), (by decide), (by have k7 := q0.2.1; have k8 := q0.2.2.2; have h8 : (1 : Int32).toInt = 1 := rfl; have h9 : (2 : Int32).toInt = 2 := rfl; rcases k8 with k8 | k8; ((first | exact mp_o139 c_1 k8 | omega)); (have k6 := mp_cap_i k8; (first | exact mp_o140 h9 c_2 k6 c_1 k7 | omega))), (by first | rfl | omega), rfl⟩) (by first | exact mp_fd_ok mp_k_cX3_takeNumber_ok (by decide +kernel) | decide +kernel)
    · have c_2 : 0 ≤ y6.toInt := c_2
      show mp_W E X 4 22 [(0, .ref a0), (1, .int 0), (2, .int 99), (3, .int x0)] [] [(mp_ob3 a0 a1 y0 a2 y1 y2 y3 y4 y5 y6 y7), (mp_arI E a1 1 1600 f0)] 0 0
      refine mp_run mp_k_cX3_takeNumber_ok hF mp_tabX3_ok [mp_i (.aload_n 0), mp_h (.getfield 158) [17, 0], mp_i (.iload_n 2), mp_h (.if_icmp .gt 11) [38]] (by decide +kernel) ?_
      refine And.intro rfl (And.intro rfl ?_)
      refine And.intro (fun c_8 => ?_) (fun c_8 => ?_)
      · have c_8 : 99 < y6.toInt := c_8
        show mp_W E X 4 38 [(0, .ref a0), (1, .int 0), (2, .int 99), (3, .int x0)] [] [(mp_ob3 a0 a1 y0 a2 y1 y2 y3 y4 y5 y6 y7), (mp_arI E a1 1 1600 f0)] 0 0
        refine mp_run mp_k_cX3_takeNumber_ok hF mp_tabX3_ok [mp_i (.aload_n 0), mp_c (.iconst 2) 2] (by decide +kernel) ?_
        show mp_W E X 4 40 [(0, .ref a0), (1, .int 0), (2, .int 99), (3, .int x0)] [.int 2, .ref a0] [(mp_ob3 a0 a1 y0 a2 y1 y2 y3 y4 y5 y6 y7), (mp_arI E a1 1 1600 f0)] 0 0
        refine mp_callV hF (As := [.int 2]) (rest := []) (wr := [(mp_arI E a1 1 1600 f0)]) (bX3_fail_20 E a0 a1 a2 y0 y1 y2 y3 y4 y5 y6 y7 l_y0 u_y0 l_y4 u_y4 l_y5 u_y5) mp_lkX3_60 0 rfl [0] [1] rfl rfl rfl rfl rfl ⟨(Nat.le_of_ble_eq_true rfl), (Nat.le_of_ble_eq_true rfl), (Nat.le_of_ble_eq_true rfl), (Nat.le_of_ble_eq_true rfl)⟩ (Nat.le_of_ble_eq_true rfl) (by first | exact mp_fd_ok mp_k_cX3_takeNumber_ok (by decide +kernel) | decide +kernel) (fun v_9 w_10 h_11 => ?_)
        obtain ⟨rfl, x_12, x_13, rfl⟩ := h_11
        show mp_W E X 4 43 [(0, .ref a0), (1, .int 0), (2, .int 99), (3, .int x0)] [.int 0] [(mp_arI E a1 1 1600 f0), (mp_ob3 a0 a1 y0 a2 2 y4 y3 y4 y5 y6 y7)] 0 0
        exact mp_iret hF hQ rfl (by decide) (Nat.le_of_ble_eq_true rfl) (Nat.le_of_ble_eq_true rfl) [1, 0] (w' := [(mp_ob3 a0 a1 y0 a2 2 y4 y3 y4 y5 y6 y7), (mp_arI E a1 1 1600 f0)]) rfl rfl (Or.inl ⟨2, rfl, (by decide), (by decide), (by have k7 := q0.2.1; have k8 := q0.2.2.2; have h8 : (1 : Int32).toInt = 1 := rfl; have h9 : (2 : Int32).toInt = 2 := rfl; rcases k8 with k8 | k8; ((first | exact mp_o139 c_1 k8 | omega)); (have k6 := mp_cap_i k8; (first | exact mp_o141 h9 c_8 k6 c_1 k7 | omega))), (by first | rfl | omega), rfl⟩) (by first | exact mp_fd_ok mp_k_cX3_takeNumber_ok (by decide +kernel) | decide +kernel)
      · have c_8 : y6.toInt ≤ 99 := c_8
        show mp_W E X 4 30 [(0, .ref a0), (1, .int 0), (2, .int 99), (3, .int x0)] [] [(mp_ob3 a0 a1 y0 a2 y1 y2 y3 y4 y5 y6 y7), (mp_arI E a1 1 1600 f0)] 0 0
        refine mp_run mp_k_cX3_takeNumber_ok hF mp_tabX3_ok [mp_i (.aload_n 0), mp_h (.getfield 158) [17, 0], mp_i (.iload_n 3), mp_h (.if_icmp .ne 9) [44]] (by decide +kernel) ?_
        refine And.intro rfl (And.intro rfl ?_)
        refine And.intro (fun c_14 => ?_) (fun c_14 => ?_)
        · have c_14 : y6.toInt ≠ x0.toInt := c_14
          show mp_W E X 4 44 [(0, .ref a0), (1, .int 0), (2, .int 99), (3, .int x0)] [] [(mp_ob3 a0 a1 y0 a2 y1 y2 y3 y4 y5 y6 y7), (mp_arI E a1 1 1600 f0)] 0 0
          refine mp_run mp_k_cX3_takeNumber_ok hF mp_tabX3_ok [mp_i (.aload_n 0), mp_i (.aload_n 0), mp_h (.getfield 158) [17, 0], mp_h (.putfield 95) [18, 0]] (by decide +kernel) ?_
          refine And.intro rfl (And.intro rfl ?_)
          refine And.intro rfl (And.intro rfl (And.intro rfl (And.intro rfl (And.intro (Nat.le_of_ble_eq_true rfl) ?_))))
          show mp_W E X 4 52 [(0, .ref a0), (1, .int 0), (2, .int 99), (3, .int x0)] [] [(mp_ob3 a0 a1 y0 a2 y1 y2 y3 y4 y5 y6 y6), (mp_arI E a1 1 1600 f0)] 0 0
          refine mp_run mp_k_cX3_takeNumber_ok hF mp_tabX3_ok [mp_i (.aload_n 0)] (by decide +kernel) ?_
          show mp_W E X 4 53 [(0, .ref a0), (1, .int 0), (2, .int 99), (3, .int x0)] [.ref a0] [(mp_ob3 a0 a1 y0 a2 y1 y2 y3 y4 y5 y6 y6), (mp_arI E a1 1 1600 f0)] 0 0
          refine mp_callV hF (As := []) (rest := []) (wr := []) (bX3_step_8 E a0 a1 a2 f0 y0 y1 y2 y3 y4 y5 y6 y6 l_y0 u_y0 l_y4 u_y4 l_y5 u_y5) mp_lkX3_38 0 rfl [0, 1] [] rfl rfl rfl rfl rfl ⟨(Nat.le_of_ble_eq_true rfl), (Nat.le_of_ble_eq_true rfl), (Nat.le_of_ble_eq_true rfl), (Nat.le_of_ble_eq_true rfl)⟩ (Nat.le_of_ble_eq_true rfl) (by first | exact mp_fd_ok mp_k_cX3_takeNumber_ok (by decide +kernel) | decide +kernel) (fun v_15 w_16 h_17 => ?_)
          refine h_17.elim fun r_18 q_33 => q_33.elim fun r_19 q_34 => q_34.elim fun r_20 q_35 => q_35.elim fun r_21 q_36 => q_36.elim fun e_37 q_38 => q_38.elim fun l_22 q_39 => q_39.elim fun u_23 q_40 => q_40.elim fun l_24 q_41 => q_41.elim fun u_25 q_42 => q_42.elim fun l_26 q_43 => q_43.elim fun u_27 q_44 => q_44.elim fun l_28 q_45 => q_45.elim fun u_29 q_46 => q_46.elim fun x_30 q_47 => q_47.elim fun x_31 q_48 => q_48.elim fun x_32 e_49 => ?_
          clear h_17 q_33 q_34 q_35 q_36 q_38 q_39 q_40 q_41 q_42 q_43 q_44 q_45 q_46 q_47 q_48
          subst e_37
          subst e_49
          let w1_ : va_W := [(mp_ob3 a0 a1 y0 a2 y1 y2 r_18 r_19 r_20 r_21 y6), (mp_arI E a1 1 1600 f0)]
          show mp_W E X 4 56 [(0, .ref a0), (1, .int 0), (2, .int 99), (3, .int x0)] [] w1_ 0 0
          refine mp_run mp_k_cX3_takeNumber_ok hF mp_tabX3_ok [mp_c (.iconst 1) 1] (by decide +kernel) ?_
          show mp_W E X 4 57 [(0, .ref a0), (1, .int 0), (2, .int 99), (3, .int x0)] [.int 1] w1_ 0 0
          exact mp_iret hF hQ rfl (by decide) (Nat.le_of_ble_eq_true rfl) (Nat.le_of_ble_eq_true rfl) [0, 1] (w' := w1_) rfl rfl (Or.inr ⟨r_18, r_19, r_20, r_21, rfl, (by first | (first | exact c_1 | omega) | decide), (by first | (first | exact c_2 | omega) | decide), (by first | (first | exact c_8 | omega) | decide), (by first | (first | exact c_14 | omega) | decide), l_22, u_23, l_24, u_25, l_26, u_27, l_28, u_29, (by have k7 := q0.2.1; have k8 := q0.2.2.2; have h8 : (1 : Int32).toInt = 1 := rfl; have h9 : (2 : Int32).toInt = 2 := rfl; rcases k8 with k8 | k8; ((first | exact mp_o142 c_1 k8 | omega)); (have k6 := mp_cap_i k8; (first | exact mp_o143 c_2 k6 c_14 c_8 c_1 k7 | omega))), (by have k7 := q0.2.1; have k8 := q0.2.2.2; have h8 : (1 : Int32).toInt = 1 := rfl; have h9 : (2 : Int32).toInt = 2 := rfl; rcases k8 with k8 | k8; ((first | exact mp_o135 c_1 k8 | omega)); (have k6 := mp_cap_i k8; (first | exact mp_o144 k6 c_8 | omega))), (by have k9 := x_30; unfold mp_NX; rw [← Int.toNat_natCast (mp_TE _ _ _), ← q0.2.2.1]; exact k9), (by have k9 := mp_CT_le q0 (by (first | exact l_y4 | omega)); (first | exact mp_o129 x_31 k9 | omega)), x_32, rfl⟩) (by first | exact mp_fd_ok mp_k_cX3_takeNumber_ok (by decide +kernel) | decide +kernel)
        · have c_14 : y6.toInt = x0.toInt := (congrArg Int32.toInt c_14)
          show mp_W E X 4 38 [(0, .ref a0), (1, .int 0), (2, .int 99), (3, .int x0)] [] [(mp_ob3 a0 a1 y0 a2 y1 y2 y3 y4 y5 y6 y7), (mp_arI E a1 1 1600 f0)] 0 0
          refine mp_run mp_k_cX3_takeNumber_ok hF mp_tabX3_ok [mp_i (.aload_n 0), mp_c (.iconst 2) 2] (by decide +kernel) ?_
          show mp_W E X 4 40 [(0, .ref a0), (1, .int 0), (2, .int 99), (3, .int x0)] [.int 2, .ref a0] [(mp_ob3 a0 a1 y0 a2 y1 y2 y3 y4 y5 y6 y7), (mp_arI E a1 1 1600 f0)] 0 0
          refine mp_callV hF (As := [.int 2]) (rest := []) (wr := [(mp_arI E a1 1 1600 f0)]) (bX3_fail_20 E a0 a1 a2 y0 y1 y2 y3 y4 y5 y6 y7 l_y0 u_y0 l_y4 u_y4 l_y5 u_y5) mp_lkX3_60 0 rfl [0] [1] rfl rfl rfl rfl rfl ⟨(Nat.le_of_ble_eq_true rfl), (Nat.le_of_ble_eq_true rfl), (Nat.le_of_ble_eq_true rfl), (Nat.le_of_ble_eq_true rfl)⟩ (Nat.le_of_ble_eq_true rfl) (by first | exact mp_fd_ok mp_k_cX3_takeNumber_ok (by decide +kernel) | decide +kernel) (fun v_50 w_51 h_52 => ?_)
          obtain ⟨rfl, x_53, x_54, rfl⟩ := h_52
          show mp_W E X 4 43 [(0, .ref a0), (1, .int 0), (2, .int 99), (3, .int x0)] [.int 0] [(mp_arI E a1 1 1600 f0), (mp_ob3 a0 a1 y0 a2 2 y4 y3 y4 y5 y6 y7)] 0 0
          exact mp_iret hF hQ rfl (by decide) (Nat.le_of_ble_eq_true rfl) (Nat.le_of_ble_eq_true rfl) [1, 0] (w' := [(mp_ob3 a0 a1 y0 a2 2 y4 y3 y4 y5 y6 y7), (mp_arI E a1 1 1600 f0)]) rfl rfl (Or.inl ⟨2, rfl, (by decide), (by decide), (by have k7 := q0.2.1; have k8 := q0.2.2.2; have h8 : (1 : Int32).toInt = 1 := rfl; have h9 : (2 : Int32).toInt = 2 := rfl; rcases k8 with k8 | k8; ((first | exact mp_o139 c_1 k8 | omega)); (have k6 := mp_cap_i k8; (first | exact mp_o145 h9 c_1 k7 c_14 k6 | omega))), (by first | rfl | omega), rfl⟩) (by first | exact mp_fd_ok mp_k_cX3_takeNumber_ok (by decide +kernel) | decide +kernel)
  · have c_1 : y3.toInt ≠ 2 := c_1
    show mp_W E X 4 8 [(0, .ref a0), (1, .int 0), (2, .int 99), (3, .int x0)] [] [(mp_ob3 a0 a1 y0 a2 y1 y2 y3 y4 y5 y6 y7), (mp_arI E a1 1 1600 f0)] 0 0
    refine mp_run mp_k_cX3_takeNumber_ok hF mp_tabX3_ok [mp_i (.aload_n 0), mp_c (.iconst 1) 1] (by decide +kernel) ?_
    show mp_W E X 4 10 [(0, .ref a0), (1, .int 0), (2, .int 99), (3, .int x0)] [.int 1, .ref a0] [(mp_ob3 a0 a1 y0 a2 y1 y2 y3 y4 y5 y6 y7), (mp_arI E a1 1 1600 f0)] 0 0
    refine mp_callV hF (As := [.int 1]) (rest := []) (wr := [(mp_arI E a1 1 1600 f0)]) (bX3_fail_18 E a0 a1 a2 y0 y1 y2 y3 y4 y5 y6 y7 l_y0 u_y0 l_y4 u_y4 l_y5 u_y5) mp_lkX3_60 0 rfl [0] [1] rfl rfl rfl rfl rfl ⟨(Nat.le_of_ble_eq_true rfl), (Nat.le_of_ble_eq_true rfl), (Nat.le_of_ble_eq_true rfl), (Nat.le_of_ble_eq_true rfl)⟩ (Nat.le_of_ble_eq_true rfl) (by first | exact mp_fd_ok mp_k_cX3_takeNumber_ok (by decide +kernel) | decide +kernel) (fun v_55 w_56 h_57 => ?_)
    obtain ⟨rfl, x_58, x_59, rfl⟩ := h_57
    show mp_W E X 4 13 [(0, .ref a0), (1, .int 0), (2, .int 99), (3, .int x0)] [.int 0] [(mp_arI E a1 1 1600 f0), (mp_ob3 a0 a1 y0 a2 1 y4 y3 y4 y5 y6 y7)] 0 0
    exact mp_iret hF hQ rfl (by decide) (Nat.le_of_ble_eq_true rfl) (Nat.le_of_ble_eq_true rfl) [1, 0] (w' := [(mp_ob3 a0 a1 y0 a2 1 y4 y3 y4 y5 y6 y7), (mp_arI E a1 1 1600 f0)]) rfl rfl (Or.inl ⟨1, rfl, (by decide), (by decide), (by have k7 := q0.2.1; have k8 := q0.2.2.2; have h8 : (1 : Int32).toInt = 1 := rfl; have h9 : (2 : Int32).toInt = 2 := rfl; rcases k8 with k8 | k8; ((first | exact mp_o146 h8 k7 k8 | omega)); (have k6 := mp_cap_i k8; (first | exact mp_o146 h8 k7 c_1 | omega))), (by first | rfl | omega), rfl⟩) (by first | exact mp_fd_ok mp_k_cX3_takeNumber_ok (by decide +kernel) | decide +kernel)
set_option maxHeartbeats 4000000 in
set_option maxRecDepth 100000 in
theorem bX7_setShut_23 (E : mp_E) (a0 a1 a2 a3 a4 a5 a6 a7 a8 a9 a10 a11 a12 : Nat) (f0 : Nat → Int64) (y0 : Int32) (y1 : Int32) (y2 : Int32) (y3 : Int32) (y4 : Int32) (y5 : Int32) (x0 : Int32) (x1 : Int32) (x2 : Int32) (l_x0 : 0 ≤ x0.toInt) (u_x0 : x0.toInt ≤ 5) (l_x1 : 0 ≤ x1.toInt) (u_x1 : x1.toInt ≤ 99) (l_y1 : 0 ≤ y1.toInt) (u_y1 : y1.toInt ≤ 6) (l_y2 : 0 ≤ y2.toInt) (u_y2 : y2.toInt ≤ 99) (l_y3 : 0 ≤ y3.toInt) (u_y3 : y3.toInt ≤ 6) (l_y4 : 0 ≤ y4.toInt) (u_y4 : y4.toInt ≤ 10) (l_y5 : 0 ≤ y5.toInt) (u_y5 : y5.toInt ≤ 60) : mp_Ct E yX7_setShut cX7_setShut 7 none 0 0 0 0 [.ref a0, .int x0, .int x1, .int x2] [(mp_ob7 a0 y0 y1 y2 y3 y4 y5 a2 a1 a3 a4 a5 a6 a7 a8 a9 a10 a11 a12), (mp_arL E a1 12 f0)] (fun v w' => ∃ h1 : Nat → Int64, v = none ∧ (x2.toInt = 0 ∨ mp_shb h1 = fun j => if j = (100 * x0.toInt + x1.toInt).toNat then true else mp_shb f0 j) ∧ (x2.toInt ≠ 0 ∨ mp_shb h1 = fun j => if j = (100 * x0.toInt + x1.toInt).toNat then false else mp_shb f0 j) ∧ w' = [(mp_ob7 a0 y0 y1 y2 y3 y4 y5 a2 a1 a3 a4 a5 a6 a7 a8 a9 a10 a11 a12), (mp_arL E a1 12 h1)]) := by
  refine mp_met false (by decide) (by decide) (Nat.le_of_ble_eq_true rfl) (fun X hF hQ => ?_)
  have hF : mp_F E X (RX7, cX7_setShut, 7, (0, 0, 0, 0), none, false) := hF
  let w1_ : va_W := [(mp_ob7 a0 y0 y1 y2 y3 y4 y5 a2 a1 a3 a4 a5 a6 a7 a8 a9 a10 a11 a12), (mp_arL E a1 12 f0)]
  show mp_W E X 7 0 [(0, .ref a0), (1, .int x0), (2, .int x1), (3, .int x2)] [] w1_ 0 0
  refine mp_run mp_k_cX7_setShut_ok hF mp_tabX7_ok [mp_cl (.lconst 1) 1, mp_i (.iload_n 2), mp_c (.bipush 50) 50, mp_i .irem, mp_i .lshl, mp_i (.lstore 4), mp_c (.iconst 2) 2, mp_i (.iload_n 1), mp_i .imul, mp_i (.iload_n 2), mp_c (.bipush 50) 50, mp_i .idiv, mp_i .iadd, mp_i (.istore 6), mp_i (.aload_n 0), mp_h (.getfield 15) [7, 0], mp_i (.iload 6), mp_i (.iload_n 3), mp_h (.ifCond .eq 16) [41]] (by decide +kernel) ?_
  refine And.intro (by decide) ?_
  intro z_1 h_2
  have e_3 : z_1.toInt = x1.toInt % 50 := mp_rem (a := x1.toInt) (b := 50) h_2 rfl (by decide) (by (first | exact l_x1 | omega)) (by decide)
  intro z_4 h_5
  intro z_6 h_7
  have e_8 : z_6.toInt = 2 * x0.toInt := mp_mul (a := 2) (b := x0.toInt) h_7 (by decide) rfl (by (first | exact mp_o147 l_x0 | omega)) (by (first | exact mp_o148 u_x0 | omega))
  refine And.intro (by decide) ?_
  intro z_9 h_10
  have e_11 : z_9.toInt = x1.toInt / 50 := mp_div (a := x1.toInt) (b := 50) h_10 rfl (by decide) (by (first | exact l_x1 | omega)) (by decide)
  intro z_12 h_13
  have e_14 : z_12.toInt = z_6.toInt + z_9.toInt := mp_add (a := z_6.toInt) (b := z_9.toInt) h_13 rfl rfl (by (first | exact mp_o149 l_x0 e_8 l_x1 e_11 | omega)) (by (first | exact mp_o150 u_x0 e_8 u_x1 e_11 | omega))
  refine And.intro rfl (And.intro rfl ?_)
  refine And.intro (fun c_15 => ?_) (fun c_15 => ?_)
  · have c_15 : x2.toInt = 0 := (congrArg Int32.toInt c_15)
    show mp_W E X 7 41 [(6, .int z_12), (4, .long z_4), (0, .ref a0), (1, .int x0), (2, .int x1), (3, .int x2)] [.int z_12, .ref a1] w1_ 0 0
    refine mp_run mp_k_cX7_setShut_ok hF mp_tabX7_ok [mp_i (.aload_n 0), mp_h (.getfield 15) [7, 0], mp_i (.iload 6), mp_h .laload [1], mp_i (.lload 4), mp_cl (.ldc2_w 83) (-1), mp_i .lxor, mp_i .land, mp_h .lastore [1]] (by decide +kernel) ?_
    refine And.intro rfl (And.intro rfl ?_)
    refine And.intro rfl (And.intro rfl (And.intro (vp_in_iff.mpr (by (first | exact mp_o151 l_x0 u_x0 l_x1 u_x1 e_8 e_11 e_14 | omega))) ?_))
    intro z_16 h_17
    intro z_18 h_19
    intro z_20 h_21
    refine And.intro rfl (And.intro rfl (And.intro (vp_in_iff.mpr (by (first | exact mp_o151 l_x0 u_x0 l_x1 u_x1 e_8 e_11 e_14 | omega))) ?_))
    intro g_22 h_23
    let w2_ : va_W := [(mp_ob7 a0 y0 y1 y2 y3 y4 y5 a2 a1 a3 a4 a5 a6 a7 a8 a9 a10 a11 a12), (mp_arL E a1 12 g_22)]
    show mp_W E X 7 56 [(6, .int z_12), (4, .long z_4), (0, .ref a0), (1, .int x0), (2, .int x1), (3, .int x2)] [] w2_ 0 0
    exact mp_vret hF hQ rfl (Nat.le_of_ble_eq_true rfl) (Nat.le_of_ble_eq_true rfl) [0, 1] (w' := w2_) rfl rfl ⟨g_22, rfl, (Or.inl (by (first | exact c_15 | omega))), (Or.inr (mp_shb_cell0 (a := x0.toInt) (m := x1.toInt) (i := z_12.toInt.toNat) (by rw [h_23, h_21]; rfl) h_19 (by (first | exact mp_o152 l_x0 l_x1 e_8 e_11 e_14 | omega)) h_17 (by rw [h_5, mp_sh63 (v := x1.toInt % 50) (by (first | exact e_3 | omega)) (by (first | exact mp_o153 | omega))]) (by (first | exact l_x0 | omega)) (by (first | exact mp_o154 l_x1 u_x1 | omega)))), rfl⟩ (by first | exact mp_fd_ok mp_k_cX7_setShut_ok (by decide +kernel) | decide +kernel)
  · have c_15 : x2.toInt ≠ 0 := c_15
    show mp_W E X 7 28 [(6, .int z_12), (4, .long z_4), (0, .ref a0), (1, .int x0), (2, .int x1), (3, .int x2)] [.int z_12, .ref a1] w1_ 0 0
    refine mp_run mp_k_cX7_setShut_ok hF mp_tabX7_ok [mp_i (.aload_n 0), mp_h (.getfield 15) [7, 0], mp_i (.iload 6), mp_h .laload [1], mp_i (.lload 4), mp_i .lor, mp_h (.goto 17) [55], mp_h .lastore [1]] (by decide +kernel) ?_
    refine And.intro rfl (And.intro rfl ?_)
    refine And.intro rfl (And.intro rfl (And.intro (vp_in_iff.mpr (by (first | exact mp_o151 l_x0 u_x0 l_x1 u_x1 e_8 e_11 e_14 | omega))) ?_))
    intro z_24 h_25
    intro z_26 h_27
    refine And.intro rfl (And.intro rfl (And.intro (vp_in_iff.mpr (by (first | exact mp_o151 l_x0 u_x0 l_x1 u_x1 e_8 e_11 e_14 | omega))) ?_))
    intro g_28 h_29
    let w3_ : va_W := [(mp_ob7 a0 y0 y1 y2 y3 y4 y5 a2 a1 a3 a4 a5 a6 a7 a8 a9 a10 a11 a12), (mp_arL E a1 12 g_28)]
    show mp_W E X 7 56 [(6, .int z_12), (4, .long z_4), (0, .ref a0), (1, .int x0), (2, .int x1), (3, .int x2)] [] w3_ 0 0
    exact mp_vret hF hQ rfl (Nat.le_of_ble_eq_true rfl) (Nat.le_of_ble_eq_true rfl) [0, 1] (w' := w3_) rfl rfl ⟨g_28, rfl, (Or.inr (mp_shb_cell (a := x0.toInt) (m := x1.toInt) (i := z_12.toInt.toNat) (by rw [h_29, h_27]; rfl) (by (first | exact mp_o152 l_x0 l_x1 e_8 e_11 e_14 | omega)) h_25 (by rw [h_5, mp_sh63 (v := x1.toInt % 50) (by (first | exact e_3 | omega)) (by (first | exact mp_o153 | omega))]) (by (first | exact l_x0 | omega)) (by (first | exact mp_o154 l_x1 u_x1 | omega)))), (Or.inl (by (first | exact c_15 | omega))), rfl⟩ (by first | exact mp_fd_ok mp_k_cX7_setShut_ok (by decide +kernel) | decide +kernel)
set_option maxHeartbeats 4000000 in
set_option maxRecDepth 100000 in
theorem bX3_takeShut_24 (E : mp_E) (a0 a1 a2 a3 a4 a5 a6 a7 a8 a9 a10 a11 a12 a13 a14 : Nat) (f0 : Nat → Int32) (f1 : Nat → Int32) (f2 : Nat → Int64) (f3 : Nat → Int32) (f4 : Nat → Int32) (f5 : Nat → Int32) (f6 : Nat → Int32) (f7 : Nat → Int32) (f8 : Nat → Int32) (f9 : Nat → Int32) (f10 : Nat → Int32) (f11 : Nat → Int32) (y0 : Int32) (y1 : Int32) (y2 : Int32) (y3 : Int32) (y4 : Int32) (y5 : Int32) (y6 : Int32) (y7 : Int32) (y8 : Int32) (y9 : Int32) (y10 : Int32) (y11 : Int32) (y12 : Int32) (y13 : Int32) (p0 : mp_all f1 36 0 20) (p1 : mp_all f3 6 0 5) (p2 : mp_all f6 10 0 5) (p3 : mp_all f7 10 0 5) (p4 : mp_all f9 10 0 99) (p5 : mp_all f10 10 0 1) (p6 : mp_all f11 10 (-1) 9) (l_y0 : 0 ≤ y0.toInt) (u_y0 : y0.toInt ≤ 1600) (l_y4 : 0 ≤ y4.toInt) (u_y4 : y4.toInt ≤ 1600) (l_y5 : 0 ≤ y5.toInt) (u_y5 : y5.toInt ≤ 1600) (l_y9 : 0 ≤ y9.toInt) (u_y9 : y9.toInt ≤ 6) (l_y10 : 0 ≤ y10.toInt) (u_y10 : y10.toInt ≤ 99) (l_y11 : 0 ≤ y11.toInt) (u_y11 : y11.toInt ≤ 6) (l_y12 : 0 ≤ y12.toInt) (u_y12 : y12.toInt ≤ 10) (l_y13 : 0 ≤ y13.toInt) (u_y13 : y13.toInt ≤ 60) (q0 : mp_CT f0 y0.toInt y3.toInt y4.toInt y5.toInt y6.toInt) : mp_Ct E yX3_takeShut cX3_takeShut 2 (some FieldType.boolean) 6 0 0 128 [.ref a0] [(mp_ob3 a0 a1 y0 a2 y1 y2 y3 y4 y5 y6 y7), (mp_arI E a1 1 1600 f0), (mp_ob7 a2 y8 y9 y10 y11 y12 y13 a3 a4 a5 a6 a7 a8 a9 a10 a11 a12 a13 a14), (mp_arI E a3 0 36 f1), (mp_arL E a4 12 f2), (mp_arI E a5 0 6 f3), (mp_arI E a6 0 6 f4), (mp_arI E a7 0 6 f5), (mp_arI E a8 0 10 f6), (mp_arI E a9 0 10 f7), (mp_arI E a10 0 10 f8), (mp_arI E a11 0 10 f9), (mp_arI E a12 0 10 f10), (mp_arI E a13 0 10 f11)] (fun v w' => (∃ r1 : Int32, ∃ r2 : Int32, ∃ r3 : Int32, ∃ r4 : Int32, ∃ r5 : Int32, ∃ r6 : Int32, ∃ r7 : Int32, v = some (.int 0) ∧ 1 ≤ r1.toInt ∧ r1.toInt ≤ 2 ∧ 0 ≤ r2.toInt ∧ r2.toInt ≤ 1600 ∧ 0 ≤ r4.toInt ∧ r4.toInt ≤ 1600 ∧ 0 ≤ r5.toInt ∧ r5.toInt ≤ 1600 ∧ ((mp_gShut mp_gop f0 (y0.toInt).toNat (y4.toInt).toNat (y9.toInt, y10.toInt, y11.toInt, y12.toInt, y8.toInt) (mp_dC f1 f2 f3 f4 f5 f6 f7 f8 f9 f10 f11)).1 = r1.toInt ∧ ((mp_gShut mp_gop f0 (y0.toInt).toNat (y4.toInt).toNat (y9.toInt, y10.toInt, y11.toInt, y12.toInt, y8.toInt) (mp_dC f1 f2 f3 f4 f5 f6 f7 f8 f9 f10 f11)).2.1 : Int) = r2.toInt) ∧ w' = [(mp_ob3 a0 a1 y0 a2 r1 r2 r3 r4 r5 r6 r7), (mp_arI E a1 1 1600 f0), (mp_ob7 a2 y8 y9 y10 y11 y12 y13 a3 a4 a5 a6 a7 a8 a9 a10 a11 a12 a13 a14), (mp_arI E a3 0 36 f1), (mp_arL E a4 12 f2), (mp_arI E a5 0 6 f3), (mp_arI E a6 0 6 f4), (mp_arI E a7 0 6 f5), (mp_arI E a8 0 10 f6), (mp_arI E a9 0 10 f7), (mp_arI E a10 0 10 f8), (mp_arI E a11 0 10 f9), (mp_arI E a12 0 10 f10), (mp_arI E a13 0 10 f11)]) ∨ (∃ r1 : Int32, ∃ r2 : Int32, ∃ r3 : Int32, ∃ r4 : Int32, ∃ r5 : Int32, ∃ h6 : Nat → Int64, v = some (.int 1) ∧ y3.toInt = 1 ∧ 0 ≤ r1.toInt ∧ r1.toInt ≤ 4 ∧ 0 ≤ r2.toInt ∧ r2.toInt ≤ 1600 ∧ 0 ≤ r3.toInt ∧ r3.toInt ≤ 1600 ∧ 0 ≤ r4.toInt ∧ r4.toInt ≤ 100000000 ∧ 0 ≤ r5.toInt ∧ r5.toInt ≤ 99 ∧ (mp_gShut mp_gop f0 (y0.toInt).toNat (y4.toInt).toNat (y9.toInt, y10.toInt, y11.toInt, y12.toInt, y8.toInt) (mp_dC f1 f2 f3 f4 f5 f6 f7 f8 f9 f10 f11) = (0, (r2.toInt).toNat, (y9.toInt, y10.toInt, y11.toInt, y12.toInt, y8.toInt), (mp_dC f1 h6 f3 f4 f5 f6 f7 f8 f9 f10 f11))) ∧ (y4.toInt ≤ r2.toInt) ∧ (mp_CT f0 y0.toInt r1.toInt r2.toInt r3.toInt r4.toInt) ∧ w' = [(mp_ob3 a0 a1 y0 a2 y1 y2 r1 r2 r3 r4 r5), (mp_arI E a1 1 1600 f0), (mp_ob7 a2 y8 y9 y10 y11 y12 y13 a3 a4 a5 a6 a7 a8 a9 a10 a11 a12 a13 a14), (mp_arI E a3 0 36 f1), (mp_arL E a4 12 h6), (mp_arI E a5 0 6 f3), (mp_arI E a6 0 6 f4), (mp_arI E a7 0 6 f5), (mp_arI E a8 0 10 f6), (mp_arI E a9 0 10 f7), (mp_arI E a10 0 10 f8), (mp_arI E a11 0 10 f9), (mp_arI E a12 0 10 f10), (mp_arI E a13 0 10 f11)])) := by
  refine mp_met false (by decide) (by decide) (Nat.le_of_ble_eq_true rfl) (fun X hF hQ => ?_)
  have hF : mp_F E X (RX3, cX3_takeShut, 2, (6, 0, 0, 128), (some FieldType.boolean), false) := hF
  let w1_ : va_W := [(mp_ob3 a0 a1 y0 a2 y1 y2 y3 y4 y5 y6 y7), (mp_arI E a1 1 1600 f0), (mp_ob7 a2 y8 y9 y10 y11 y12 y13 a3 a4 a5 a6 a7 a8 a9 a10 a11 a12 a13 a14), (mp_arI E a3 0 36 f1), (mp_arL E a4 12 f2), (mp_arI E a5 0 6 f3), (mp_arI E a6 0 6 f4), (mp_arI E a7 0 6 f5), (mp_arI E a8 0 10 f6), (mp_arI E a9 0 10 f7), (mp_arI E a10 0 10 f8), (mp_arI E a11 0 10 f9), (mp_arI E a12 0 10 f10), (mp_arI E a13 0 10 f11)]
  show mp_W E X 2 0 [(0, .ref a0)] [] w1_ 0 0
  refine mp_run mp_k_cX3_takeShut_ok hF mp_tabX3_ok [mp_i (.aload_n 0)] (by decide +kernel) ?_
  show mp_W E X 2 1 [(0, .ref a0)] [.ref a0] w1_ 0 0
  refine mp_ldcS hF 13 (q := (RX3, 152, "shut", 13)) rfl rfl (by first | exact mp_fd_ok mp_k_cX3_takeShut_ok (by decide +kernel) | decide +kernel) ?_
  show mp_W E X 2 3 [(0, .ref a0)] [.ref (E.1.2.1 13), .ref a0] w1_ 0 0
  refine mp_callV hF (As := [.ref (E.1.2.1 13)]) (rest := []) (wr := [(mp_ob7 a2 y8 y9 y10 y11 y12 y13 a3 a4 a5 a6 a7 a8 a9 a10 a11 a12 a13 a14), (mp_arI E a3 0 36 f1), (mp_arL E a4 12 f2), (mp_arI E a5 0 6 f3), (mp_arI E a6 0 6 f4), (mp_arI E a7 0 6 f5), (mp_arI E a8 0 10 f6), (mp_arI E a9 0 10 f7), (mp_arI E a10 0 10 f8), (mp_arI E a11 0 10 f9), (mp_arI E a12 0 10 f10), (mp_arI E a13 0 10 f11)]) (bX3_takeWord_19 E 13 (by decide) a0 a1 a2 f0 y0 y1 y2 y3 y4 y5 y6 y7 l_y0 u_y0 l_y4 u_y4 l_y5 u_y5 (by assumption)) mp_lkX3_102 0 rfl [0, 1] [2, 3, 4, 5, 6, 7, 8, 9, 10, 11, 12, 13] rfl rfl rfl rfl rfl ⟨(Nat.le_of_ble_eq_true rfl), (Nat.le_of_ble_eq_true rfl), (Nat.le_of_ble_eq_true rfl), (Nat.le_of_ble_eq_true rfl)⟩ (Nat.le_of_ble_eq_true rfl) (by first | exact mp_fd_ok mp_k_cX3_takeShut_ok (by decide +kernel) | decide +kernel) (fun v_1 w_2 h_3 => ?_)
  refine h_3.elim (fun q_23 => ?_) (fun q_24 => ?_)
  · skip
    refine q_23.elim fun e_25 q_26 => q_26.elim fun x_4 q_27 => q_27.elim fun x_5 e_28 => ?_
    clear h_3 q_23 q_26 q_27
    subst e_25
    subst e_28
    let w2_ : va_W := [(mp_ob7 a2 y8 y9 y10 y11 y12 y13 a3 a4 a5 a6 a7 a8 a9 a10 a11 a12 a13 a14), (mp_arI E a3 0 36 f1), (mp_arL E a4 12 f2), (mp_arI E a5 0 6 f3), (mp_arI E a6 0 6 f4), (mp_arI E a7 0 6 f5), (mp_arI E a8 0 10 f6), (mp_arI E a9 0 10 f7), (mp_arI E a10 0 10 f8), (mp_arI E a11 0 10 f9), (mp_arI E a12 0 10 f10), (mp_arI E a13 0 10 f11), (mp_ob3 a0 a1 y0 a2 1 y4 y3 y4 y5 y6 y7), (mp_arI E a1 1 1600 f0)]
    show mp_W E X 2 6 [(0, .ref a0)] [.int 0] w2_ 0 0
    refine mp_run mp_k_cX3_takeShut_ok hF mp_tabX3_ok [mp_h (.ifCond .eq 21) [27]] (by decide +kernel) ?_
    refine And.intro (fun _ => ?_) (fun c_29 => absurd c_29 (by decide))
    show mp_W E X 2 27 [(0, .ref a0)] [] w2_ 0 0
    refine mp_run mp_k_cX3_takeShut_ok hF mp_tabX3_ok [mp_c (.iconst 0) 0] (by decide +kernel) ?_
    show mp_W E X 2 28 [(0, .ref a0)] [.int 0] w2_ 0 0
    exact mp_iret hF hQ rfl (by decide) (Nat.le_of_ble_eq_true rfl) (Nat.le_of_ble_eq_true rfl) [12, 13, 0, 1, 2, 3, 4, 5, 6, 7, 8, 9, 10, 11] (w' := [(mp_ob3 a0 a1 y0 a2 1 y4 y3 y4 y5 y6 y7), (mp_arI E a1 1 1600 f0), (mp_ob7 a2 y8 y9 y10 y11 y12 y13 a3 a4 a5 a6 a7 a8 a9 a10 a11 a12 a13 a14), (mp_arI E a3 0 36 f1), (mp_arL E a4 12 f2), (mp_arI E a5 0 6 f3), (mp_arI E a6 0 6 f4), (mp_arI E a7 0 6 f5), (mp_arI E a8 0 10 f6), (mp_arI E a9 0 10 f7), (mp_arI E a10 0 10 f8), (mp_arI E a11 0 10 f9), (mp_arI E a12 0 10 f10), (mp_arI E a13 0 10 f11)]) rfl rfl (Or.inl ⟨1, y4, y3, y4, y5, y6, y7, rfl, (by decide), (by decide), l_y4, u_y4, l_y4, u_y4, l_y5, u_y5, (by have i0 : (0 : Int32).toInt = 0 := rfl; have i1 : (1 : Int32).toInt = 1 := rfl; have i2 : (-1 : Int32).toInt = -1 := rfl; have i3 : (6 : Int32).toInt = 6 := rfl; have i4 : (99 : Int32).toInt = 99 := rfl; have i5 : (20 : Int32).toInt = 20 := rfl; have i6 : (100 : Int32).toInt = 100 := rfl; have i7 : (1000000 : Int32).toInt = 1000000 := rfl; have i8 : (2 : Int32).toInt = 2 := rfl; have i9 : (3 : Int32).toInt = 3 := rfl; unfold mp_gShut; rw [mp_kw_1 (w := 380396) x_4]; exact ⟨by have := x_5; show (1 : Int) = _; (first | exact mp_o155 i1 | omega), by have := x_5; show (((y4.toInt).toNat : Nat) : Int) = _; (first | exact mp_o156 l_y4 | omega)⟩), rfl⟩) (by first | exact mp_fd_ok mp_k_cX3_takeShut_ok (by decide +kernel) | decide +kernel)
  · skip
    refine q_24.elim fun r_6 q_30 => q_30.elim fun r_7 q_31 => q_31.elim fun r_8 q_32 => q_32.elim fun r_9 q_33 => q_33.elim fun e_34 q_35 => q_35.elim fun c_10 q_36 => q_36.elim fun l_11 q_37 => q_37.elim fun u_12 q_38 => q_38.elim fun l_13 q_39 => q_39.elim fun u_14 q_40 => q_40.elim fun l_15 q_41 => q_41.elim fun u_16 q_42 => q_42.elim fun l_17 q_43 => q_43.elim fun u_18 q_44 => q_44.elim fun x_19 q_45 => q_45.elim fun x_20 q_46 => q_46.elim fun x_21 q_47 => q_47.elim fun x_22 e_48 => ?_
    clear h_3 q_24 q_30 q_31 q_32 q_33 q_35 q_36 q_37 q_38 q_39 q_40 q_41 q_42 q_43 q_44 q_45 q_46 q_47
    subst e_34
    subst e_48
    have c_10 : y3.toInt = 1 := c_10
    let w3_ : va_W := [(mp_ob7 a2 y8 y9 y10 y11 y12 y13 a3 a4 a5 a6 a7 a8 a9 a10 a11 a12 a13 a14), (mp_arI E a3 0 36 f1), (mp_arL E a4 12 f2), (mp_arI E a5 0 6 f3), (mp_arI E a6 0 6 f4), (mp_arI E a7 0 6 f5), (mp_arI E a8 0 10 f6), (mp_arI E a9 0 10 f7), (mp_arI E a10 0 10 f8), (mp_arI E a11 0 10 f9), (mp_arI E a12 0 10 f10), (mp_arI E a13 0 10 f11), (mp_ob3 a0 a1 y0 a2 y1 y2 r_6 r_7 r_8 r_9 y7), (mp_arI E a1 1 1600 f0)]
    show mp_W E X 2 6 [(0, .ref a0)] [.int 1] w3_ 0 0
    refine mp_run mp_k_cX3_takeShut_ok hF mp_tabX3_ok [mp_h (.ifCond .eq 21) [27]] (by decide +kernel) ?_
    refine And.intro (fun c_49 => absurd c_49 (by decide)) (fun _ => ?_)
    show mp_W E X 2 9 [(0, .ref a0)] [] w3_ 0 0
    refine mp_run mp_k_cX3_takeShut_ok hF mp_tabX3_ok [mp_i (.aload_n 0), mp_c (.iconst 0) 0, mp_i (.aload_n 0), mp_h (.getfield 18) [11, 12], mp_h (.getfield 98) [1, 0], mp_c (.iconst 1) 1, mp_i .isub, mp_c (.iconst (-1)) (-1)] (by decide +kernel) ?_
    refine And.intro rfl (And.intro rfl ?_)
    refine And.intro rfl (And.intro rfl ?_)
    intro z_50 h_51
    have e_52 : z_50.toInt = y9.toInt - 1 := mp_subi (a := y9.toInt) (b := 1) h_51 rfl (by decide) (by (first | exact mp_o157 l_y9 | omega)) (by (first | exact mp_o158 u_y9 | omega))
    show mp_W E X 2 21 [(0, .ref a0)] [.int (-1), .int z_50, .int 0, .ref a0] w3_ 0 0
    refine mp_callV hF (As := [.int 0, .int z_50, .int (-1)]) (rest := []) (wr := [(mp_ob7 a2 y8 y9 y10 y11 y12 y13 a3 a4 a5 a6 a7 a8 a9 a10 a11 a12 a13 a14), (mp_arI E a3 0 36 f1), (mp_arL E a4 12 f2), (mp_arI E a5 0 6 f3), (mp_arI E a6 0 6 f4), (mp_arI E a7 0 6 f5), (mp_arI E a8 0 10 f6), (mp_arI E a9 0 10 f7), (mp_arI E a10 0 10 f8), (mp_arI E a11 0 10 f9), (mp_arI E a12 0 10 f10), (mp_arI E a13 0 10 f11)]) (bX3_takeNumber_21 E a0 a1 a2 f0 y0 y1 y2 r_6 r_7 r_8 r_9 y7 z_50 (-1) (by (first | exact mp_o159 l_y9 e_52 | omega)) (by (first | exact mp_o160 u_y9 e_52 | omega)) l_y0 u_y0 l_13 u_14 l_15 u_16 (by assumption) (by first | (first | exact mp_o161 u_y9 e_52 | omega) | decide) (by first | fail | decide)) mp_lkX3_91 12 rfl [12, 13] [0, 1, 2, 3, 4, 5, 6, 7, 8, 9, 10, 11] rfl rfl rfl rfl rfl ⟨(Nat.le_of_ble_eq_true rfl), (Nat.le_of_ble_eq_true rfl), (Nat.le_of_ble_eq_true rfl), (Nat.le_of_ble_eq_true rfl)⟩ (Nat.le_of_ble_eq_true rfl) (by first | exact mp_fd_ok mp_k_cX3_takeShut_ok (by decide +kernel) | decide +kernel) (fun v_53 w_54 h_55 => ?_)
    refine h_55.elim (fun q_82 => ?_) (fun q_83 => ?_)
    · skip
      refine q_82.elim fun r_56 q_84 => q_84.elim fun e_85 q_86 => q_86.elim fun l_57 q_87 => q_87.elim fun u_58 q_88 => q_88.elim fun x_59 q_89 => q_89.elim fun x_60 e_90 => ?_
      clear h_55 q_82 q_84 q_86 q_87 q_88 q_89
      subst e_85
      subst e_90
      let w4_ : va_W := [(mp_ob7 a2 y8 y9 y10 y11 y12 y13 a3 a4 a5 a6 a7 a8 a9 a10 a11 a12 a13 a14), (mp_arI E a3 0 36 f1), (mp_arL E a4 12 f2), (mp_arI E a5 0 6 f3), (mp_arI E a6 0 6 f4), (mp_arI E a7 0 6 f5), (mp_arI E a8 0 10 f6), (mp_arI E a9 0 10 f7), (mp_arI E a10 0 10 f8), (mp_arI E a11 0 10 f9), (mp_arI E a12 0 10 f10), (mp_arI E a13 0 10 f11), (mp_ob3 a0 a1 y0 a2 r_56 r_7 r_6 r_7 r_8 r_9 y7), (mp_arI E a1 1 1600 f0)]
      show mp_W E X 2 24 [(0, .ref a0)] [.int 0] w4_ 0 0
      refine mp_run mp_k_cX3_takeShut_ok hF mp_tabX3_ok [mp_h (.ifCond .ne 5) [29]] (by decide +kernel) ?_
      refine And.intro (fun c_91 => absurd c_91 (by decide)) (fun _ => ?_)
      show mp_W E X 2 27 [(0, .ref a0)] [] w4_ 0 0
      refine mp_run mp_k_cX3_takeShut_ok hF mp_tabX3_ok [mp_c (.iconst 0) 0] (by decide +kernel) ?_
      show mp_W E X 2 28 [(0, .ref a0)] [.int 0] w4_ 0 0
      exact mp_iret hF hQ rfl (by decide) (Nat.le_of_ble_eq_true rfl) (Nat.le_of_ble_eq_true rfl) [12, 13, 0, 1, 2, 3, 4, 5, 6, 7, 8, 9, 10, 11] (w' := [(mp_ob3 a0 a1 y0 a2 r_56 r_7 r_6 r_7 r_8 r_9 y7), (mp_arI E a1 1 1600 f0), (mp_ob7 a2 y8 y9 y10 y11 y12 y13 a3 a4 a5 a6 a7 a8 a9 a10 a11 a12 a13 a14), (mp_arI E a3 0 36 f1), (mp_arL E a4 12 f2), (mp_arI E a5 0 6 f3), (mp_arI E a6 0 6 f4), (mp_arI E a7 0 6 f5), (mp_arI E a8 0 10 f6), (mp_arI E a9 0 10 f7), (mp_arI E a10 0 10 f8), (mp_arI E a11 0 10 f9), (mp_arI E a12 0 10 f10), (mp_arI E a13 0 10 f11)]) rfl rfl (Or.inl ⟨r_56, r_7, r_6, r_7, r_8, r_9, y7, rfl, l_57, u_58, l_13, u_14, l_13, u_14, l_15, u_16, (by have i0 : (0 : Int32).toInt = 0 := rfl; have i1 : (1 : Int32).toInt = 1 := rfl; have i2 : (-1 : Int32).toInt = -1 := rfl; have i3 : (6 : Int32).toInt = 6 := rfl; have i4 : (99 : Int32).toInt = 99 := rfl; have i5 : (20 : Int32).toInt = 20 := rfl; have i6 : (100 : Int32).toInt = 100 := rfl; have i7 : (1000000 : Int32).toInt = 1000000 := rfl; have i8 : (2 : Int32).toInt = 2 := rfl; have i9 : (3 : Int32).toInt = 3 := rfl; unfold mp_gShut; rw [mp_kw_ok (w := 380396) x_19, ← (mp_nx_i x_20)]; rcases x_59 with ⟨q1, q2⟩ | ⟨q1, q2, q3⟩; (rw [mp_kn_1 q1]; exact ⟨by show (1 : Int) = _; (first | exact mp_o155 q2 | omega), by show (((r_7.toInt).toNat : Nat) : Int) = _; (first | exact mp_o156 l_13 | omega)⟩); (rw [mp_kn_2 q1 (by omega)]; exact ⟨by show (2 : Int) = _; (first | exact mp_o162 q3 | omega), by show (((r_7.toInt).toNat : Nat) : Int) = _; (first | exact mp_o156 l_13 | omega)⟩)), rfl⟩) (by first | exact mp_fd_ok mp_k_cX3_takeShut_ok (by decide +kernel) | decide +kernel)
    · skip
      refine q_83.elim fun r_61 q_92 => q_92.elim fun r_62 q_93 => q_93.elim fun r_63 q_94 => q_94.elim fun r_64 q_95 => q_95.elim fun e_96 q_97 => q_97.elim fun c_65 q_98 => q_98.elim fun c_66 q_99 => q_99.elim fun c_67 q_100 => q_100.elim fun c_68 q_101 => q_101.elim fun l_69 q_102 => q_102.elim fun u_70 q_103 => q_103.elim fun l_71 q_104 => q_104.elim fun u_72 q_105 => q_105.elim fun l_73 q_106 => q_106.elim fun u_74 q_107 => q_107.elim fun l_75 q_108 => q_108.elim fun u_76 q_109 => q_109.elim fun x_77 q_110 => q_110.elim fun x_78 q_111 => q_111.elim fun x_79 q_112 => q_112.elim fun x_80 q_113 => q_113.elim fun x_81 e_114 => ?_
      clear h_55 q_83 q_92 q_93 q_94 q_95 q_97 q_98 q_99 q_100 q_101 q_102 q_103 q_104 q_105 q_106 q_107 q_108 q_109 q_110 q_111 q_112 q_113
      subst e_96
      subst e_114
      have c_65 : r_6.toInt = 2 := c_65
      have c_66 : 0 ≤ r_9.toInt := c_66
      have c_67 : r_9.toInt ≤ z_50.toInt := c_67
      have c_68 : r_9.toInt ≠ (-1) := c_68
      let w5_ : va_W := [(mp_ob7 a2 y8 y9 y10 y11 y12 y13 a3 a4 a5 a6 a7 a8 a9 a10 a11 a12 a13 a14), (mp_arI E a3 0 36 f1), (mp_arL E a4 12 f2), (mp_arI E a5 0 6 f3), (mp_arI E a6 0 6 f4), (mp_arI E a7 0 6 f5), (mp_arI E a8 0 10 f6), (mp_arI E a9 0 10 f7), (mp_arI E a10 0 10 f8), (mp_arI E a11 0 10 f9), (mp_arI E a12 0 10 f10), (mp_arI E a13 0 10 f11), (mp_ob3 a0 a1 y0 a2 y1 y2 r_61 r_62 r_63 r_64 r_9), (mp_arI E a1 1 1600 f0)]
      show mp_W E X 2 24 [(0, .ref a0)] [.int 1] w5_ 0 0
      refine mp_run mp_k_cX3_takeShut_ok hF mp_tabX3_ok [mp_h (.ifCond .ne 5) [29]] (by decide +kernel) ?_
      refine And.intro (fun _ => ?_) (fun c_115 => absurd c_115 (by decide))
      show mp_W E X 2 29 [(0, .ref a0)] [] w5_ 0 0
      refine mp_run mp_k_cX3_takeShut_ok hF mp_tabX3_ok [mp_i (.aload_n 0), mp_h (.getfield 95) [18, 12], mp_i (.istore_n 1), mp_i (.aload_n 0), mp_c (.iconst 0) 0, mp_c (.bipush 99) 99, mp_c (.iconst (-1)) (-1)] (by decide +kernel) ?_
      refine And.intro rfl (And.intro rfl ?_)
      show mp_W E X 2 39 [(1, .int r_9), (0, .ref a0)] [.int (-1), .int 99, .int 0, .ref a0] w5_ 0 0
      refine mp_callV hF (As := [.int 0, .int 99, .int (-1)]) (rest := []) (wr := [(mp_ob7 a2 y8 y9 y10 y11 y12 y13 a3 a4 a5 a6 a7 a8 a9 a10 a11 a12 a13 a14), (mp_arI E a3 0 36 f1), (mp_arL E a4 12 f2), (mp_arI E a5 0 6 f3), (mp_arI E a6 0 6 f4), (mp_arI E a7 0 6 f5), (mp_arI E a8 0 10 f6), (mp_arI E a9 0 10 f7), (mp_arI E a10 0 10 f8), (mp_arI E a11 0 10 f9), (mp_arI E a12 0 10 f10), (mp_arI E a13 0 10 f11)]) (bX3_takeNumber_22 E a0 a1 a2 f0 y0 y1 y2 r_61 r_62 r_63 r_64 r_9 (-1) l_y0 u_y0 l_71 u_72 l_73 u_74 (by assumption) (by first | (first | exact mp_o163 | omega) | decide) (by first | fail | decide)) mp_lkX3_91 12 rfl [12, 13] [0, 1, 2, 3, 4, 5, 6, 7, 8, 9, 10, 11] rfl rfl rfl rfl rfl ⟨(Nat.le_of_ble_eq_true rfl), (Nat.le_of_ble_eq_true rfl), (Nat.le_of_ble_eq_true rfl), (Nat.le_of_ble_eq_true rfl)⟩ (Nat.le_of_ble_eq_true rfl) (by first | exact mp_fd_ok mp_k_cX3_takeShut_ok (by decide +kernel) | decide +kernel) (fun v_116 w_117 h_118 => ?_)
      refine h_118.elim (fun q_145 => ?_) (fun q_146 => ?_)
      · skip
        refine q_145.elim fun r_119 q_147 => q_147.elim fun e_148 q_149 => q_149.elim fun l_120 q_150 => q_150.elim fun u_121 q_151 => q_151.elim fun x_122 q_152 => q_152.elim fun x_123 e_153 => ?_
        clear h_118 q_145 q_147 q_149 q_150 q_151 q_152
        subst e_148
        subst e_153
        let w6_ : va_W := [(mp_ob7 a2 y8 y9 y10 y11 y12 y13 a3 a4 a5 a6 a7 a8 a9 a10 a11 a12 a13 a14), (mp_arI E a3 0 36 f1), (mp_arL E a4 12 f2), (mp_arI E a5 0 6 f3), (mp_arI E a6 0 6 f4), (mp_arI E a7 0 6 f5), (mp_arI E a8 0 10 f6), (mp_arI E a9 0 10 f7), (mp_arI E a10 0 10 f8), (mp_arI E a11 0 10 f9), (mp_arI E a12 0 10 f10), (mp_arI E a13 0 10 f11), (mp_ob3 a0 a1 y0 a2 r_119 r_62 r_61 r_62 r_63 r_64 r_9), (mp_arI E a1 1 1600 f0)]
        show mp_W E X 2 42 [(1, .int r_9), (0, .ref a0)] [.int 0] w6_ 0 0
        refine mp_run mp_k_cX3_takeShut_ok hF mp_tabX3_ok [mp_h (.ifCond .ne 5) [47]] (by decide +kernel) ?_
        refine And.intro (fun c_154 => absurd c_154 (by decide)) (fun _ => ?_)
        show mp_W E X 2 45 [(1, .int r_9), (0, .ref a0)] [] w6_ 0 0
        refine mp_run mp_k_cX3_takeShut_ok hF mp_tabX3_ok [mp_c (.iconst 0) 0] (by decide +kernel) ?_
        show mp_W E X 2 46 [(1, .int r_9), (0, .ref a0)] [.int 0] w6_ 0 0
        exact mp_iret hF hQ rfl (by decide) (Nat.le_of_ble_eq_true rfl) (Nat.le_of_ble_eq_true rfl) [12, 13, 0, 1, 2, 3, 4, 5, 6, 7, 8, 9, 10, 11] (w' := [(mp_ob3 a0 a1 y0 a2 r_119 r_62 r_61 r_62 r_63 r_64 r_9), (mp_arI E a1 1 1600 f0), (mp_ob7 a2 y8 y9 y10 y11 y12 y13 a3 a4 a5 a6 a7 a8 a9 a10 a11 a12 a13 a14), (mp_arI E a3 0 36 f1), (mp_arL E a4 12 f2), (mp_arI E a5 0 6 f3), (mp_arI E a6 0 6 f4), (mp_arI E a7 0 6 f5), (mp_arI E a8 0 10 f6), (mp_arI E a9 0 10 f7), (mp_arI E a10 0 10 f8), (mp_arI E a11 0 10 f9), (mp_arI E a12 0 10 f10), (mp_arI E a13 0 10 f11)]) rfl rfl (Or.inl ⟨r_119, r_62, r_61, r_62, r_63, r_64, r_9, rfl, l_120, u_121, l_71, u_72, l_71, u_72, l_73, u_74, (by have i0 : (0 : Int32).toInt = 0 := rfl; have i1 : (1 : Int32).toInt = 1 := rfl; have i2 : (-1 : Int32).toInt = -1 := rfl; have i3 : (6 : Int32).toInt = 6 := rfl; have i4 : (99 : Int32).toInt = 99 := rfl; have i5 : (20 : Int32).toInt = 20 := rfl; have i6 : (100 : Int32).toInt = 100 := rfl; have i7 : (1000000 : Int32).toInt = 1000000 := rfl; have i8 : (2 : Int32).toInt = 2 := rfl; have i9 : (3 : Int32).toInt = 3 := rfl; unfold mp_gShut; rw [mp_kw_ok (w := 380396) x_19, ← (mp_nx_i x_20), mp_kn_ok (by (first | exact mp_o164 x_77 | omega)) (by omega), ← (mp_nx_i x_79)]; rcases x_122 with ⟨q1, q2⟩ | ⟨q1, q2, q3⟩; (rw [mp_kn_1 q1]; exact ⟨by show (1 : Int) = _; (first | exact mp_o155 q2 | omega), by show (((r_62.toInt).toNat : Nat) : Int) = _; (first | exact mp_o156 l_71 | omega)⟩); (rw [mp_kn_2 q1 (by (first | exact mp_o165 q2 i2 | omega))]; exact ⟨by show (2 : Int) = _; (first | exact mp_o162 q3 | omega), by show (((r_62.toInt).toNat : Nat) : Int) = _; (first | exact mp_o156 l_71 | omega)⟩)), rfl⟩) (by first | exact mp_fd_ok mp_k_cX3_takeShut_ok (by decide +kernel) | decide +kernel)
      · skip
        refine q_146.elim fun r_124 q_155 => q_155.elim fun r_125 q_156 => q_156.elim fun r_126 q_157 => q_157.elim fun r_127 q_158 => q_158.elim fun e_159 q_160 => q_160.elim fun c_128 q_161 => q_161.elim fun c_129 q_162 => q_162.elim fun c_130 q_163 => q_163.elim fun c_131 q_164 => q_164.elim fun l_132 q_165 => q_165.elim fun u_133 q_166 => q_166.elim fun l_134 q_167 => q_167.elim fun u_135 q_168 => q_168.elim fun l_136 q_169 => q_169.elim fun u_137 q_170 => q_170.elim fun l_138 q_171 => q_171.elim fun u_139 q_172 => q_172.elim fun x_140 q_173 => q_173.elim fun x_141 q_174 => q_174.elim fun x_142 q_175 => q_175.elim fun x_143 q_176 => q_176.elim fun x_144 e_177 => ?_
        clear h_118 q_146 q_155 q_156 q_157 q_158 q_160 q_161 q_162 q_163 q_164 q_165 q_166 q_167 q_168 q_169 q_170 q_171 q_172 q_173 q_174 q_175 q_176
        subst e_159
        subst e_177
        have c_128 : r_61.toInt = 2 := c_128
        have c_129 : 0 ≤ r_64.toInt := c_129
        have c_130 : r_64.toInt ≤ 99 := c_130
        have c_131 : r_64.toInt ≠ (-1) := c_131
        let w7_ : va_W := [(mp_ob7 a2 y8 y9 y10 y11 y12 y13 a3 a4 a5 a6 a7 a8 a9 a10 a11 a12 a13 a14), (mp_arI E a3 0 36 f1), (mp_arL E a4 12 f2), (mp_arI E a5 0 6 f3), (mp_arI E a6 0 6 f4), (mp_arI E a7 0 6 f5), (mp_arI E a8 0 10 f6), (mp_arI E a9 0 10 f7), (mp_arI E a10 0 10 f8), (mp_arI E a11 0 10 f9), (mp_arI E a12 0 10 f10), (mp_arI E a13 0 10 f11), (mp_ob3 a0 a1 y0 a2 y1 y2 r_124 r_125 r_126 r_127 r_64), (mp_arI E a1 1 1600 f0)]
        show mp_W E X 2 42 [(1, .int r_9), (0, .ref a0)] [.int 1] w7_ 0 0
        refine mp_run mp_k_cX3_takeShut_ok hF mp_tabX3_ok [mp_h (.ifCond .ne 5) [47]] (by decide +kernel) ?_
        refine And.intro (fun _ => ?_) (fun c_178 => absurd c_178 (by decide))
        show mp_W E X 2 47 [(1, .int r_9), (0, .ref a0)] [] w7_ 0 0
        refine mp_run mp_k_cX3_takeShut_ok hF mp_tabX3_ok [mp_i (.aload_n 0), mp_h (.getfield 18) [11, 12], mp_i (.iload_n 1), mp_i (.aload_n 0), mp_h (.getfield 95) [18, 12], mp_c (.iconst 1) 1] (by decide +kernel) ?_
        refine And.intro rfl (And.intro rfl ?_)
        refine And.intro rfl (And.intro rfl ?_)
        show mp_W E X 2 57 [(1, .int r_9), (0, .ref a0)] [.int 1, .int r_64, .int r_9, .ref a2] w7_ 0 0
        refine mp_callV hF (As := [.int r_9, .int r_64, .int 1]) (rest := []) (wr := [(mp_arI E a3 0 36 f1), (mp_arI E a5 0 6 f3), (mp_arI E a6 0 6 f4), (mp_arI E a7 0 6 f5), (mp_arI E a8 0 10 f6), (mp_arI E a9 0 10 f7), (mp_arI E a10 0 10 f8), (mp_arI E a11 0 10 f9), (mp_arI E a12 0 10 f10), (mp_arI E a13 0 10 f11), (mp_ob3 a0 a1 y0 a2 y1 y2 r_124 r_125 r_126 r_127 r_64), (mp_arI E a1 1 1600 f0)]) (bX7_setShut_23 E a2 a4 a3 a5 a6 a7 a8 a9 a10 a11 a12 a13 a14 f2 y8 y9 y10 y11 y12 y13 r_9 r_64 1 l_17 (by (first | exact mp_o166 u_y9 e_52 x_78 x_77 | omega)) l_75 (by (first | exact c_130 | omega)) l_y9 u_y9 l_y10 u_y10 l_y11 u_y11 l_y12 u_y12 l_y13 u_y13) mp_lkX3_154 0 rfl [0, 2] [1, 3, 4, 5, 6, 7, 8, 9, 10, 11, 12, 13] rfl rfl rfl rfl rfl ⟨(Nat.le_of_ble_eq_true rfl), (Nat.le_of_ble_eq_true rfl), (Nat.le_of_ble_eq_true rfl), (Nat.le_of_ble_eq_true rfl)⟩ (Nat.le_of_ble_eq_true rfl) (by first | exact mp_fd_ok mp_k_cX3_takeShut_ok (by decide +kernel) | decide +kernel) (fun v_179 w_180 h_181 => ?_)
        obtain ⟨g_182, rfl, x_183, x_184, rfl⟩ := h_181
        let w8_ : va_W := [(mp_arI E a3 0 36 f1), (mp_arI E a5 0 6 f3), (mp_arI E a6 0 6 f4), (mp_arI E a7 0 6 f5), (mp_arI E a8 0 10 f6), (mp_arI E a9 0 10 f7), (mp_arI E a10 0 10 f8), (mp_arI E a11 0 10 f9), (mp_arI E a12 0 10 f10), (mp_arI E a13 0 10 f11), (mp_ob3 a0 a1 y0 a2 y1 y2 r_124 r_125 r_126 r_127 r_64), (mp_arI E a1 1 1600 f0), (mp_ob7 a2 y8 y9 y10 y11 y12 y13 a3 a4 a5 a6 a7 a8 a9 a10 a11 a12 a13 a14), (mp_arL E a4 12 g_182)]
        show mp_W E X 2 60 [(1, .int r_9), (0, .ref a0)] [] w8_ 0 0
        refine mp_run mp_k_cX3_takeShut_ok hF mp_tabX3_ok [mp_c (.iconst 1) 1] (by decide +kernel) ?_
        show mp_W E X 2 61 [(1, .int r_9), (0, .ref a0)] [.int 1] w8_ 0 0
        exact mp_iret hF hQ rfl (by decide) (Nat.le_of_ble_eq_true rfl) (Nat.le_of_ble_eq_true rfl) [10, 11, 12, 0, 13, 1, 2, 3, 4, 5, 6, 7, 8, 9] (w' := [(mp_ob3 a0 a1 y0 a2 y1 y2 r_124 r_125 r_126 r_127 r_64), (mp_arI E a1 1 1600 f0), (mp_ob7 a2 y8 y9 y10 y11 y12 y13 a3 a4 a5 a6 a7 a8 a9 a10 a11 a12 a13 a14), (mp_arI E a3 0 36 f1), (mp_arL E a4 12 g_182), (mp_arI E a5 0 6 f3), (mp_arI E a6 0 6 f4), (mp_arI E a7 0 6 f5), (mp_arI E a8 0 10 f6), (mp_arI E a9 0 10 f7), (mp_arI E a10 0 10 f8), (mp_arI E a11 0 10 f9), (mp_arI E a12 0 10 f10), (mp_arI E a13 0 10 f11)]) rfl rfl (Or.inr ⟨r_124, r_125, r_126, r_127, r_64, g_182, rfl, (by first | (first | exact c_10 | omega) | decide), l_132, u_133, l_134, u_135, l_136, u_137, l_138, u_139, l_75, (by (first | exact c_130 | omega)), (by have i0 : (0 : Int32).toInt = 0 := rfl; have i1 : (1 : Int32).toInt = 1 := rfl; have i2 : (-1 : Int32).toInt = -1 := rfl; have i3 : (6 : Int32).toInt = 6 := rfl; have i4 : (99 : Int32).toInt = 99 := rfl; have i5 : (20 : Int32).toInt = 20 := rfl; have i6 : (100 : Int32).toInt = 100 := rfl; have i7 : (1000000 : Int32).toInt = 1000000 := rfl; have i8 : (2 : Int32).toInt = 2 := rfl; have i9 : (3 : Int32).toInt = 3 := rfl; unfold mp_gShut; rw [mp_kw_ok (w := 380396) x_19, ← (mp_nx_i x_20), mp_kn_ok (by (first | exact mp_o164 x_77 | omega)) (by omega), ← (mp_nx_i x_79), mp_kn_ok (by (first | exact mp_o167 x_140 | omega)) (by (first | exact mp_o168 x_140 | omega)), ← (mp_nx_i x_142)]; exact mp_rs4 (by (first | exact mp_o169 | omega)) rfl (mp_op_shut (x_183.resolve_left (by decide)) (by (first | exact x_78 | omega)) (by (first | exact x_141 | omega)))), (by have k9 := mp_CT_le q0 (by (first | exact l_y4 | omega)); (first | exact mp_o170 x_143 x_80 x_21 | omega)), x_144, rfl⟩) (by first | exact mp_fd_ok mp_k_cX3_takeShut_ok (by decide +kernel) | decide +kernel)
