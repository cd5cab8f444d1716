set_option maxHeartbeats 4000000 in
set_option maxRecDepth 100000 in
theorem bX3_addFour_0 (E : mp_E) (a0 a1 a2 : Nat) (f0 : Nat → Int32) (y0 : Int32) (y1 : Int32) (y2 : Int32) (y3 : Int32) (y4 : Int32) (y5 : Int32) (y6 : Int32) (y7 : Int32) (x0 : Int32) (l_y0 : 0 ≤ y0.toInt) (u_y0 : y0.toInt ≤ 1600) (l_y4 : 0 ≤ y4.toInt) (u_y4 : y4.toInt ≤ 1600) (l_y5 : 0 ≤ y5.toInt) (u_y5 : y5.toInt ≤ 1600) : mp_Ct E yX3_addFour cX3_addFour 3 none 0 0 0 0 [.ref a0, .int x0] [(a0, .inr (3, [.ref a1, .int y0, .ref a2, .int y1, .int y2, .int y3, .int y4, .int y5, .int y6, .int y7])), (a1, .inl (E.2.2 1, 1600, .inl f0))] (fun v w' => ∃ r1 : Int32, ∃ h2 : Nat → Int32, v = none ∧ 0 ≤ r1.toInt ∧ r1.toInt ≤ 1600 ∧ ((y0.toInt ≤ 1596 ∧ r1.toInt = y0.toInt + 4) ∨ 1597 ≤ y0.toInt) ∧ w' = [(a0, .inr (3, [.ref a1, .int r1, .ref a2, .int y1, .int y2, .int y3, .int y4, .int y5, .int y6, .int y7])), (a1, .inl (E.2.2 1, 1600, .inl h2))]) := by
  refine mp_met false (by decide) (by decide) (Nat.le_of_ble_eq_true rfl) (fun X hF hQ => ?_)
  have hF : mp_F E X (RX3, cX3_addFour, 3, (0, 0, 0, 0), none, false) := hF
  show mp_W E X 3 0 [(0, .ref a0), (1, .int x0)] [] [(a0, .inr (3, [.ref a1, .int y0, .ref a2, .int y1, .int y2, .int y3, .int y4, .int y5, .int y6, .int y7])), (a1, .inl (E.2.2 1, 1600, .inl f0))] 0 0
  refine mp_run hF mp_tabX3_ok [mp_c (.bipush 24) 24, mp_i (.istore_n 2)] (by decide +kernel) ?_
  show mp_W E X 3 3 [(2, .int 24), (0, .ref a0), (1, .int x0)] [] [(a0, .inr (3, [.ref a1, .int y0, .ref a2, .int y1, .int y2, .int y3, .int y4, .int y5, .int y6, .int y7])), (a1, .inl (E.2.2 1, 1600, .inl f0))] 0 0
  have lp_9 : ∀ (d_10 : Nat) (i_1 : Int32) (i_2 : Int32) (g_3 : Nat → Int32), i_1.toInt ≤ 24 → 0 ≤ i_2.toInt → i_2.toInt ≤ 1600 → (8 * i_2.toInt + i_1.toInt = 8 * y0.toInt + 24) → (-8 ≤ i_1.toInt) → i_1.toInt + 1 ≤ (d_10 : Int) → mp_W E X 3 3 [(2, .int i_1), (0, .ref a0), (1, .int x0)] [] [(a0, .inr (3, [.ref a1, .int i_2, .ref a2, .int y1, .int y2, .int y3, .int y4, .int y5, .int y6, .int y7])), (a1, .inl (E.2.2 1, 1600, .inl g_3))] 0 0 := by
    intro d_10
    induction d_10 using Nat.strongRecOn with
    | ind d_10 ih_11 =>
      intro i_1 i_2 g_3 u_4 l_5 u_6 x_7 x_8 hm_12
      refine mp_run hF mp_tabX3_ok [mp_i (.iload_n 2), mp_h (.ifCond .lt 42) [46]] (by decide +kernel) ?_
      refine And.intro (fun c_13 => ?_) (fun c_13 => ?_)
      · have c_13 : i_1.toInt < 0 := c_13
        show mp_W E X 3 46 [(2, .int i_1), (0, .ref a0), (1, .int x0)] [] [(a0, .inr (3, [.ref a1, .int i_2, .ref a2, .int y1, .int y2, .int y3, .int y4, .int y5, .int y6, .int y7])), (a1, .inl (E.2.2 1, 1600, .inl g_3))] 0 0
        exact mp_vret hF hQ rfl (Nat.le_of_ble_eq_true rfl) (Nat.le_of_ble_eq_true rfl) [0, 1] (w' := [(a0, .inr (3, [.ref a1, .int i_2, .ref a2, .int y1, .int y2, .int y3, .int y4, .int y5, .int y6, .int y7])), (a1, .inl (E.2.2 1, 1600, .inl g_3))]) rfl rfl ⟨i_2, g_3, rfl, l_5, u_6, (by first | omega | decide | (have h8 : (0 : Int32).toInt = 0 := rfl; have h9 : (1 : Int32).toInt = 1 := rfl; have h10 : (-1 : Int32).toInt = -1 := rfl; omega)), rfl⟩ (by decide +kernel)
      · have c_13 : 0 ≤ i_1.toInt := c_13
        show mp_W E X 3 7 [(2, .int i_1), (0, .ref a0), (1, .int x0)] [] [(a0, .inr (3, [.ref a1, .int i_2, .ref a2, .int y1, .int y2, .int y3, .int y4, .int y5, .int y6, .int y7])), (a1, .inl (E.2.2 1, 1600, .inl g_3))] 0 0
        refine mp_run hF mp_tabX3_ok [mp_i (.aload_n 0), mp_h (.getfield 26) [10, 0], mp_c (.sipush 1600) 1600, mp_h (.if_icmp .ge 32) [46]] (by decide +kernel) ?_
        refine And.intro rfl (And.intro rfl ?_)
        refine And.intro (fun c_14 => ?_) (fun c_14 => ?_)
        · have c_14 : 1600 ≤ i_2.toInt := c_14
          show mp_W E X 3 46 [(2, .int i_1), (0, .ref a0), (1, .int x0)] [] [(a0, .inr (3, [.ref a1, .int i_2, .ref a2, .int y1, .int y2, .int y3, .int y4, .int y5, .int y6, .int y7])), (a1, .inl (E.2.2 1, 1600, .inl g_3))] 0 0
          exact mp_vret hF hQ rfl (Nat.le_of_ble_eq_true rfl) (Nat.le_of_ble_eq_true rfl) [0, 1] (w' := [(a0, .inr (3, [.ref a1, .int i_2, .ref a2, .int y1, .int y2, .int y3, .int y4, .int y5, .int y6, .int y7])), (a1, .inl (E.2.2 1, 1600, .inl g_3))]) rfl rfl ⟨i_2, g_3, rfl, l_5, u_6, (by first | omega | decide | (have h8 : (0 : Int32).toInt = 0 := rfl; have h9 : (1 : Int32).toInt = 1 := rfl; have h10 : (-1 : Int32).toInt = -1 := rfl; omega)), rfl⟩ (by decide +kernel)
        · have c_14 : i_2.toInt < 1600 := c_14
          show mp_W E X 3 17 [(2, .int i_1), (0, .ref a0), (1, .int x0)] [] [(a0, .inr (3, [.ref a1, .int i_2, .ref a2, .int y1, .int y2, .int y3, .int y4, .int y5, .int y6, .int y7])), (a1, .inl (E.2.2 1, 1600, .inl g_3))] 0 0
          refine mp_run hF mp_tabX3_ok [mp_i (.aload_n 0), mp_h (.getfield 9) [9, 0], mp_i (.aload_n 0), mp_h (.getfield 26) [10, 0], mp_i (.iload_n 1), mp_i (.iload_n 2), mp_i .ishr, mp_i .i2b, mp_h .bastore [1]] (by decide +kernel) ?_
          refine And.intro rfl (And.intro rfl ?_)
          refine And.intro rfl (And.intro rfl ?_)
          intro z_15 h_16
          intro z_18 h_19
          refine And.intro rfl (And.intro rfl (And.intro (vp_in_iff.mpr (by omega)) ?_))
          intro g_20 h_21
          show mp_W E X 3 30 [(2, .int i_1), (0, .ref a0), (1, .int x0)] [] [(a0, .inr (3, [.ref a1, .int i_2, .ref a2, .int y1, .int y2, .int y3, .int y4, .int y5, .int y6, .int y7])), (a1, .inl (E.2.2 1, 1600, .inl g_20))] 0 0
          refine mp_run hF mp_tabX3_ok [mp_i (.aload_n 0), mp_i .dup, mp_h (.getfield 26) [10, 0], mp_c (.iconst 1) 1, mp_i .iadd, mp_h (.putfield 26) [10, 0]] (by decide +kernel) ?_
          refine And.intro rfl ?_
          refine And.intro rfl (And.intro rfl ?_)
          intro z_22 h_23
          have e_24 : z_22.toInt = i_2.toInt + 1 := mp_add (a := i_2.toInt) (b := 1) h_23 rfl (by decide) (by omega) (by omega)
          refine And.intro rfl (And.intro rfl (And.intro rfl (And.intro rfl (And.intro (Nat.le_of_ble_eq_true rfl) ?_))))
          show mp_W E X 3 40 [(2, .int i_1), (0, .ref a0), (1, .int x0)] [] [(a0, .inr (3, [.ref a1, .int z_22, .ref a2, .int y1, .int y2, .int y3, .int y4, .int y5, .int y6, .int y7])), (a1, .inl (E.2.2 1, 1600, .inl g_20))] 0 0
          refine mp_run hF mp_tabX3_ok [mp_c (.iinc 2 (-8)) (-8), mp_h (.goto (-40)) [3]] (by decide +kernel) ?_
          intro z_25 h_26
          have e_27 : z_25.toInt = i_1.toInt + (-8) := mp_add (a := i_1.toInt) (b := (-8)) h_26 rfl (by decide) (by omega) (by omega)
          show mp_W E X 3 3 [(2, .int z_25), (0, .ref a0), (1, .int x0)] [] [(a0, .inr (3, [.ref a1, .int z_22, .ref a2, .int y1, .int y2, .int y3, .int y4, .int y5, .int y6, .int y7])), (a1, .inl (E.2.2 1, 1600, .inl g_20))] 0 0
          exact mp_sub [0, 1, 2] rfl [0, 1] rfl rfl (ih_11 (d_10 - 1) (by omega) z_25 z_22 g_20 (by omega) (by omega) (by omega) (by first | omega | decide | (show 8 * z_22.toInt + z_25.toInt = 8 * y0.toInt + 24; first | omega | decide)) (by first | omega | decide | (show -8 ≤ z_25.toInt; first | omega | decide)) (by omega))
  exact mp_sub [0, 1, 2] rfl [0, 1] rfl rfl (lp_9 _ 24 y0 f0 (by decide) l_y0 u_y0 (by first | omega | decide | (show 8 * y0.toInt + 24 = 8 * y0.toInt + 24; first | omega | decide)) (by first | omega | decide | (show -8 ≤ 24; first | omega | decide)) (Int.self_le_toNat _))
set_option maxHeartbeats 4000000 in
set_option maxRecDepth 100000 in
theorem bX9_feed_1 (E : mp_E) (a0 a1 a2 a3 a4 a5 a6 a7 a8 a9 a10 a11 : Nat) (f0 : Nat → Int32) (y0 : Int32) (y1 : Int32) (y2 : Int32) (y3 : Int32) (y4 : Int32) (y5 : Int32) (y6 : Int32) (y7 : Int32) (x0 : Int32) (x1 : Int32) (x2 : Int32) (x3 : Int32) (x4 : Int32) (l_y0 : 0 ≤ y0.toInt) (u_y0 : y0.toInt ≤ 1600) (l_y4 : 0 ≤ y4.toInt) (u_y4 : y4.toInt ≤ 1600) (l_y5 : 0 ≤ y5.toInt) (u_y5 : y5.toInt ≤ 1600) : mp_Ct E yX9_feed cX9_feed 6 (some FieldType.int) 1 0 0 22 [.ref a0, .int x0, .int x1, .int x2, .int x3, .int x4] [(a0, .inr (9, [.ref a1, .ref a3, .ref a4, .ref a5, .ref a6, .ref a7, .ref a8, .ref a9, .ref a10])), (a1, .inr (3, [.ref a2, .int y0, .ref a11, .int y1, .int y2, .int y3, .int y4, .int y5, .int y6, .int y7])), (a2, .inl (E.2.2 1, 1600, .inl f0))] (fun v w' => ∃ r1 : Int32, ∃ h2 : Nat → Int32, ∃ r3 : Int32, v = some (.int r3) ∧ 0 ≤ r1.toInt ∧ r1.toInt ≤ 1600 ∧ (-1) ≤ r3.toInt ∧ r3.toInt ≤ 1600 ∧ ((1600 < y0.toInt + 20 ∧ r1.toInt = y0.toInt ∧ r3.toInt = -1) ∨ (y0.toInt + 20 ≤ 1600 ∧ r1.toInt = y0.toInt + 20 ∧ r3.toInt = r1.toInt)) ∧ w' = [(a0, .inr (9, [.ref a1, .ref a3, .ref a4, .ref a5, .ref a6, .ref a7, .ref a8, .ref a9, .ref a10])), (a1, .inr (3, [.ref a2, .int r1, .ref a11, .int y1, .int y2, .int y3, .int y4, .int y5, .int y6, .int y7])), (a2, .inl (E.2.2 1, 1600, .inl h2))]) := by
  refine mp_met false (by decide) (by decide) (Nat.le_of_ble_eq_true rfl) (fun X hF hQ => ?_)
  have hF : mp_F E X (RX9, cX9_feed, 6, (1, 0, 0, 22), (some FieldType.int), false) := hF
  show mp_W E X 6 0 [(0, .ref a0), (1, .int x0), (2, .int x1), (3, .int x2), (4, .int x3), (5, .int x4)] [] [(a0, .inr (9, [.ref a1, .ref a3, .ref a4, .ref a5, .ref a6, .ref a7, .ref a8, .ref a9, .ref a10])), (a1, .inr (3, [.ref a2, .int y0, .ref a11, .int y1, .int y2, .int y3, .int y4, .int y5, .int y6, .int y7])), (a2, .inl (E.2.2 1, 1600, .inl f0))] 0 0
  refine mp_run hF mp_tabX9_ok [mp_i (.aload_n 0), mp_h (.getfield 10) [36, 0], mp_h (.getfield 71) [16, 1], mp_c (.bipush 20) 20, mp_i .iadd, mp_c (.sipush 1600) 1600, mp_h (.if_icmp .le 5) [18]] (by decide +kernel) ?_
  refine And.intro rfl (And.intro rfl ?_)
  refine And.intro rfl (And.intro rfl ?_)
  intro z_1 h_2
  have e_3 : z_1.toInt = y0.toInt + 20 := mp_add (a := y0.toInt) (b := 20) h_2 rfl (by decide) (by omega) (by omega)
  refine And.intro (fun c_4 => ?_) (fun c_4 => ?_)
  · have c_4 : z_1.toInt ≤ 1600 := c_4
    show mp_W E X 6 18 [(0, .ref a0), (1, .int x0), (2, .int x1), (3, .int x2), (4, .int x3), (5, .int x4)] [] [(a0, .inr (9, [.ref a1, .ref a3, .ref a4, .ref a5, .ref a6, .ref a7, .ref a8, .ref a9, .ref a10])), (a1, .inr (3, [.ref a2, .int y0, .ref a11, .int y1, .int y2, .int y3, .int y4, .int y5, .int y6, .int y7])), (a2, .inl (E.2.2 1, 1600, .inl f0))] 0 0
    refine mp_run hF mp_tabX9_ok [mp_i (.aload_n 0), mp_h (.getfield 10) [36, 0], mp_i (.iload_n 1)] (by decide +kernel) ?_
    refine And.intro rfl (And.intro rfl ?_)
    show mp_W E X 6 23 [(0, .ref a0), (1, .int x0), (2, .int x1), (3, .int x2), (4, .int x3), (5, .int x4)] [.int x0, .ref a1] [(a0, .inr (9, [.ref a1, .ref a3, .ref a4, .ref a5, .ref a6, .ref a7, .ref a8, .ref a9, .ref a10])), (a1, .inr (3, [.ref a2, .int y0, .ref a11, .int y1, .int y2, .int y3, .int y4, .int y5, .int y6, .int y7])), (a2, .inl (E.2.2 1, 1600, .inl f0))] 0 0
    refine mp_callV hF (As := [.int x0]) (rest := []) (wr := [(a0, .inr (9, [.ref a1, .ref a3, .ref a4, .ref a5, .ref a6, .ref a7, .ref a8, .ref a9, .ref a10]))]) (bX3_addFour_0 E a1 a2 a11 f0 y0 y1 y2 y3 y4 y5 y6 y7 x0 l_y0 u_y0 l_y4 u_y4 l_y5 u_y5) mp_lkX9_75 1 rfl [1, 2] [0] rfl rfl rfl rfl rfl ⟨(Nat.le_of_ble_eq_true rfl), (Nat.le_of_ble_eq_true rfl), (Nat.le_of_ble_eq_true rfl), (Nat.le_of_ble_eq_true rfl)⟩ (Nat.le_of_ble_eq_true rfl) (by decide +kernel) (fun v_5 w_6 h_7 => ?_)
    obtain ⟨r_8, g_9, rfl, l_10, u_11, x_12, rfl⟩ := h_7
    show mp_W E X 6 26 [(0, .ref a0), (1, .int x0), (2, .int x1), (3, .int x2), (4, .int x3), (5, .int x4)] [] [(a0, .inr (9, [.ref a1, .ref a3, .ref a4, .ref a5, .ref a6, .ref a7, .ref a8, .ref a9, .ref a10])), (a1, .inr (3, [.ref a2, .int r_8, .ref a11, .int y1, .int y2, .int y3, .int y4, .int y5, .int y6, .int y7])), (a2, .inl (E.2.2 1, 1600, .inl g_9))] 0 0
    refine mp_run hF mp_tabX9_ok [mp_i (.aload_n 0), mp_h (.getfield 10) [36, 0], mp_i (.iload_n 2)] (by decide +kernel) ?_
    refine And.intro rfl (And.intro rfl ?_)
    show mp_W E X 6 31 [(0, .ref a0), (1, .int x0), (2, .int x1), (3, .int x2), (4, .int x3), (5, .int x4)] [.int x1, .ref a1] [(a0, .inr (9, [.ref a1, .ref a3, .ref a4, .ref a5, .ref a6, .ref a7, .ref a8, .ref a9, .ref a10])), (a1, .inr (3, [.ref a2, .int r_8, .ref a11, .int y1, .int y2, .int y3, .int y4, .int y5, .int y6, .int y7])), (a2, .inl (E.2.2 1, 1600, .inl g_9))] 0 0
    refine mp_callV hF (As := [.int x1]) (rest := []) (wr := [(a0, .inr (9, [.ref a1, .ref a3, .ref a4, .ref a5, .ref a6, .ref a7, .ref a8, .ref a9, .ref a10]))]) (bX3_addFour_0 E a1 a2 a11 g_9 r_8 y1 y2 y3 y4 y5 y6 y7 x1 l_10 u_11 l_y4 u_y4 l_y5 u_y5) mp_lkX9_75 1 rfl [1, 2] [0] rfl rfl rfl rfl rfl ⟨(Nat.le_of_ble_eq_true rfl), (Nat.le_of_ble_eq_true rfl), (Nat.le_of_ble_eq_true rfl), (Nat.le_of_ble_eq_true rfl)⟩ (Nat.le_of_ble_eq_true rfl) (by decide +kernel) (fun v_13 w_14 h_15 => ?_)
    obtain ⟨r_16, g_17, rfl, l_18, u_19, x_20, rfl⟩ := h_15
    show mp_W E X 6 34 [(0, .ref a0), (1, .int x0), (2, .int x1), (3, .int x2), (4, .int x3), (5, .int x4)] [] [(a0, .inr (9, [.ref a1, .ref a3, .ref a4, .ref a5, .ref a6, .ref a7, .ref a8, .ref a9, .ref a10])), (a1, .inr (3, [.ref a2, .int r_16, .ref a11, .int y1, .int y2, .int y3, .int y4, .int y5, .int y6, .int y7])), (a2, .inl (E.2.2 1, 1600, .inl g_17))] 0 0
    refine mp_run hF mp_tabX9_ok [mp_i (.aload_n 0), mp_h (.getfield 10) [36, 0], mp_i (.iload_n 3)] (by decide +kernel) ?_
    refine And.intro rfl (And.intro rfl ?_)
    show mp_W E X 6 39 [(0, .ref a0), (1, .int x0), (2, .int x1), (3, .int x2), (4, .int x3), (5, .int x4)] [.int x2, .ref a1] [(a0, .inr (9, [.ref a1, .ref a3, .ref a4, .ref a5, .ref a6, .ref a7, .ref a8, .ref a9, .ref a10])), (a1, .inr (3, [.ref a2, .int r_16, .ref a11, .int y1, .int y2, .int y3, .int y4, .int y5, .int y6, .int y7])), (a2, .inl (E.2.2 1, 1600, .inl g_17))] 0 0
    refine mp_callV hF (As := [.int x2]) (rest := []) (wr := [(a0, .inr (9, [.ref a1, .ref a3, .ref a4, .ref a5, .ref a6, .ref a7, .ref a8, .ref a9, .ref a10]))]) (bX3_addFour_0 E a1 a2 a11 g_17 r_16 y1 y2 y3 y4 y5 y6 y7 x2 l_18 u_19 l_y4 u_y4 l_y5 u_y5) mp_lkX9_75 1 rfl [1, 2] [0] rfl rfl rfl rfl rfl ⟨(Nat.le_of_ble_eq_true rfl), (Nat.le_of_ble_eq_true rfl), (Nat.le_of_ble_eq_true rfl), (Nat.le_of_ble_eq_true rfl)⟩ (Nat.le_of_ble_eq_true rfl) (by decide +kernel) (fun v_21 w_22 h_23 => ?_)
    obtain ⟨r_24, g_25, rfl, l_26, u_27, x_28, rfl⟩ := h_23
    show mp_W E X 6 42 [(0, .ref a0), (1, .int x0), (2, .int x1), (3, .int x2), (4, .int x3), (5, .int x4)] [] [(a0, .inr (9, [.ref a1, .ref a3, .ref a4, .ref a5, .ref a6, .ref a7, .ref a8, .ref a9, .ref a10])), (a1, .inr (3, [.ref a2, .int r_24, .ref a11, .int y1, .int y2, .int y3, .int y4, .int y5, .int y6, .int y7])), (a2, .inl (E.2.2 1, 1600, .inl g_25))] 0 0
    refine mp_run hF mp_tabX9_ok [mp_i (.aload_n 0), mp_h (.getfield 10) [36, 0], mp_i (.iload 4)] (by decide +kernel) ?_
    refine And.intro rfl (And.intro rfl ?_)
    show mp_W E X 6 48 [(0, .ref a0), (1, .int x0), (2, .int x1), (3, .int x2), (4, .int x3), (5, .int x4)] [.int x3, .ref a1] [(a0, .inr (9, [.ref a1, .ref a3, .ref a4, .ref a5, .ref a6, .ref a7, .ref a8, .ref a9, .ref a10])), (a1, .inr (3, [.ref a2, .int r_24, .ref a11, .int y1, .int y2, .int y3, .int y4, .int y5, .int y6, .int y7])), (a2, .inl (E.2.2 1, 1600, .inl g_25))] 0 0
    refine mp_callV hF (As := [.int x3]) (rest := []) (wr := [(a0, .inr (9, [.ref a1, .ref a3, .ref a4, .ref a5, .ref a6, .ref a7, .ref a8, .ref a9, .ref a10]))]) (bX3_addFour_0 E a1 a2 a11 g_25 r_24 y1 y2 y3 y4 y5 y6 y7 x3 l_26 u_27 l_y4 u_y4 l_y5 u_y5) mp_lkX9_75 1 rfl [1, 2] [0] rfl rfl rfl rfl rfl ⟨(Nat.le_of_ble_eq_true rfl), (Nat.le_of_ble_eq_true rfl), (Nat.le_of_ble_eq_true rfl), (Nat.le_of_ble_eq_true rfl)⟩ (Nat.le_of_ble_eq_true rfl) (by decide +kernel) (fun v_29 w_30 h_31 => ?_)
    obtain ⟨r_32, g_33, rfl, l_34, u_35, x_36, rfl⟩ := h_31
    show mp_W E X 6 51 [(0, .ref a0), (1, .int x0), (2, .int x1), (3, .int x2), (4, .int x3), (5, .int x4)] [] [(a0, .inr (9, [.ref a1, .ref a3, .ref a4, .ref a5, .ref a6, .ref a7, .ref a8, .ref a9, .ref a10])), (a1, .inr (3, [.ref a2, .int r_32, .ref a11, .int y1, .int y2, .int y3, .int y4, .int y5, .int y6, .int y7])), (a2, .inl (E.2.2 1, 1600, .inl g_33))] 0 0
    refine mp_run hF mp_tabX9_ok [mp_i (.aload_n 0), mp_h (.getfield 10) [36, 0], mp_i (.iload 5)] (by decide +kernel) ?_
    refine And.intro rfl (And.intro rfl ?_)
    show mp_W E X 6 57 [(0, .ref a0), (1, .int x0), (2, .int x1), (3, .int x2), (4, .int x3), (5, .int x4)] [.int x4, .ref a1] [(a0, .inr (9, [.ref a1, .ref a3, .ref a4, .ref a5, .ref a6, .ref a7, .ref a8, .ref a9, .ref a10])), (a1, .inr (3, [.ref a2, .int r_32, .ref a11, .int y1, .int y2, .int y3, .int y4, .int y5, .int y6, .int y7])), (a2, .inl (E.2.2 1, 1600, .inl g_33))] 0 0
    refine mp_callV hF (As := [.int x4]) (rest := []) (wr := [(a0, .inr (9, [.ref a1, .ref a3, .ref a4, .ref a5, .ref a6, .ref a7, .ref a8, .ref a9, .ref a10]))]) (bX3_addFour_0 E a1 a2 a11 g_33 r_32 y1 y2 y3 y4 y5 y6 y7 x4 l_34 u_35 l_y4 u_y4 l_y5 u_y5) mp_lkX9_75 1 rfl [1, 2] [0] rfl rfl rfl rfl rfl ⟨(Nat.le_of_ble_eq_true rfl), (Nat.le_of_ble_eq_true rfl), (Nat.le_of_ble_eq_true rfl), (Nat.le_of_ble_eq_true rfl)⟩ (Nat.le_of_ble_eq_true rfl) (by decide +kernel) (fun v_37 w_38 h_39 => ?_)
    obtain ⟨r_40, g_41, rfl, l_42, u_43, x_44, rfl⟩ := h_39
    show mp_W E X 6 60 [(0, .ref a0), (1, .int x0), (2, .int x1), (3, .int x2), (4, .int x3), (5, .int x4)] [] [(a0, .inr (9, [.ref a1, .ref a3, .ref a4, .ref a5, .ref a6, .ref a7, .ref a8, .ref a9, .ref a10])), (a1, .inr (3, [.ref a2, .int r_40, .ref a11, .int y1, .int y2, .int y3, .int y4, .int y5, .int y6, .int y7])), (a2, .inl (E.2.2 1, 1600, .inl g_41))] 0 0
    refine mp_run hF mp_tabX9_ok [mp_i (.aload_n 0), mp_h (.getfield 10) [36, 0], mp_h (.getfield 71) [16, 1]] (by decide +kernel) ?_
    refine And.intro rfl (And.intro rfl ?_)
    refine And.intro rfl (And.intro rfl ?_)
    show mp_W E X 6 67 [(0, .ref a0), (1, .int x0), (2, .int x1), (3, .int x2), (4, .int x3), (5, .int x4)] [.int r_40] [(a0, .inr (9, [.ref a1, .ref a3, .ref a4, .ref a5, .ref a6, .ref a7, .ref a8, .ref a9, .ref a10])), (a1, .inr (3, [.ref a2, .int r_40, .ref a11, .int y1, .int y2, .int y3, .int y4, .int y5, .int y6, .int y7])), (a2, .inl (E.2.2 1, 1600, .inl g_41))] 0 0
    exact mp_iret hF hQ rfl rfl (Nat.le_of_ble_eq_true rfl) (Nat.le_of_ble_eq_true rfl) [0, 1, 2] (w' := [(a0, .inr (9, [.ref a1, .ref a3, .ref a4, .ref a5, .ref a6, .ref a7, .ref a8, .ref a9, .ref a10])), (a1, .inr (3, [.ref a2, .int r_40, .ref a11, .int y1, .int y2, .int y3, .int y4, .int y5, .int y6, .int y7])), (a2, .inl (E.2.2 1, 1600, .inl g_41))]) rfl rfl ⟨r_40, g_41, r_40, rfl, l_42, u_43, (by omega), u_43, (by first | omega | decide | (have h8 : (0 : Int32).toInt = 0 := rfl; have h9 : (1 : Int32).toInt = 1 := rfl; have h10 : (-1 : Int32).toInt = -1 := rfl; omega)), rfl⟩ (by decide +kernel)
  · have c_4 : 1600 < z_1.toInt := c_4
    show mp_W E X 6 16 [(0, .ref a0), (1, .int x0), (2, .int x1), (3, .int x2), (4, .int x3), (5, .int x4)] [] [(a0, .inr (9, [.ref a1, .ref a3, .ref a4, .ref a5, .ref a6, .ref a7, .ref a8, .ref a9, .ref a10])), (a1, .inr (3, [.ref a2, .int y0, .ref a11, .int y1, .int y2, .int y3, .int y4, .int y5, .int y6, .int y7])), (a2, .inl (E.2.2 1, 1600, .inl f0))] 0 0
    refine mp_run hF mp_tabX9_ok [mp_c (.iconst (-1)) (-1)] (by decide +kernel) ?_
    show mp_W E X 6 17 [(0, .ref a0), (1, .int x0), (2, .int x1), (3, .int x2), (4, .int x3), (5, .int x4)] [.int (-1)] [(a0, .inr (9, [.ref a1, .ref a3, .ref a4, .ref a5, .ref a6, .ref a7, .ref a8, .ref a9, .ref a10])), (a1, .inr (3, [.ref a2, .int y0, .ref a11, .int y1, .int y2, .int y3, .int y4, .int y5, .int y6, .int y7])), (a2, .inl (E.2.2 1, 1600, .inl f0))] 0 0
    exact mp_iret hF hQ rfl rfl (Nat.le_of_ble_eq_true rfl) (Nat.le_of_ble_eq_true rfl) [0, 1, 2] (w' := [(a0, .inr (9, [.ref a1, .ref a3, .ref a4, .ref a5, .ref a6, .ref a7, .ref a8, .ref a9, .ref a10])), (a1, .inr (3, [.ref a2, .int y0, .ref a11, .int y1, .int y2, .int y3, .int y4, .int y5, .int y6, .int y7])), (a2, .inl (E.2.2 1, 1600, .inl f0))]) rfl rfl ⟨y0, f0, (-1), rfl, l_y0, u_y0, (by decide), (by decide), (by first | omega | decide | (have h8 : (0 : Int32).toInt = 0 := rfl; have h9 : (1 : Int32).toInt = 1 := rfl; have h10 : (-1 : Int32).toInt = -1 := rfl; omega)), rfl⟩ (by decide +kernel)
set_option maxHeartbeats 4000000 in
set_option maxRecDepth 100000 in
theorem bX9_end_2 (E : mp_E) (a0 a1 a2 a3 a4 a5 a6 a7 a8 a9 a10 a11 : Nat) (y0 : Int32) (y1 : Int32) (y2 : Int32) (y3 : Int32) (y4 : Int32) (y5 : Int32) (y6 : Int32) (y7 : Int32) (x0 : Int32) (l_y0 : 0 ≤ y0.toInt) (u_y0 : y0.toInt ≤ 1600) (l_y4 : 0 ≤ y4.toInt) (u_y4 : y4.toInt ≤ 1600) (l_y5 : 0 ≤ y5.toInt) (u_y5 : y5.toInt ≤ 1600) : mp_Ct E yX9_end cX9_end 2 (some FieldType.int) 0 0 0 0 [.ref a0, .int x0] [(a0, .inr (9, [.ref a1, .ref a2, .ref a3, .ref a4, .ref a5, .ref a6, .ref a7, .ref a8, .ref a9])), (a1, .inr (3, [.ref a10, .int y0, .ref a11, .int y1, .int y2, .int y3, .int y4, .int y5, .int y6, .int y7]))] (fun v w' => ∃ r1 : Int32, ∃ r2 : Int32, v = some (.int r2) ∧ 0 ≤ r1.toInt ∧ r1.toInt ≤ 1600 ∧ (-1) ≤ r2.toInt ∧ r2.toInt ≤ 1600 ∧ ((0 ≤ x0.toInt ∧ x0.toInt ≤ y0.toInt ∧ r2.toInt = x0.toInt ∧ r1.toInt = x0.toInt) ∨ ((x0.toInt < 0 ∨ y0.toInt < x0.toInt) ∧ r2.toInt = -1 ∧ r1.toInt = y0.toInt)) ∧ w' = [(a0, .inr (9, [.ref a1, .ref a2, .ref a3, .ref a4, .ref a5, .ref a6, .ref a7, .ref a8, .ref a9])), (a1, .inr (3, [.ref a10, .int r1, .ref a11, .int y1, .int y2, .int y3, .int y4, .int y5, .int y6, .int y7]))]) := by
  refine mp_met false (by decide) (by decide) (Nat.le_of_ble_eq_true rfl) (fun X hF hQ => ?_)
  have hF : mp_F E X (RX9, cX9_end, 2, (0, 0, 0, 0), (some FieldType.int), false) := hF
  show mp_W E X 2 0 [(0, .ref a0), (1, .int x0)] [] [(a0, .inr (9, [.ref a1, .ref a2, .ref a3, .ref a4, .ref a5, .ref a6, .ref a7, .ref a8, .ref a9])), (a1, .inr (3, [.ref a10, .int y0, .ref a11, .int y1, .int y2, .int y3, .int y4, .int y5, .int y6, .int y7]))] 0 0
  refine mp_run hF mp_tabX9_ok [mp_i (.iload_n 1), mp_h (.ifCond .lt 14) [15]] (by decide +kernel) ?_
  refine And.intro (fun c_1 => ?_) (fun c_1 => ?_)
  · have c_1 : x0.toInt < 0 := c_1
    show mp_W E X 2 15 [(0, .ref a0), (1, .int x0)] [] [(a0, .inr (9, [.ref a1, .ref a2, .ref a3, .ref a4, .ref a5, .ref a6, .ref a7, .ref a8, .ref a9])), (a1, .inr (3, [.ref a10, .int y0, .ref a11, .int y1, .int y2, .int y3, .int y4, .int y5, .int y6, .int y7]))] 0 0
    refine mp_run hF mp_tabX9_ok [mp_c (.iconst (-1)) (-1)] (by decide +kernel) ?_
    show mp_W E X 2 16 [(0, .ref a0), (1, .int x0)] [.int (-1)] [(a0, .inr (9, [.ref a1, .ref a2, .ref a3, .ref a4, .ref a5, .ref a6, .ref a7, .ref a8, .ref a9])), (a1, .inr (3, [.ref a10, .int y0, .ref a11, .int y1, .int y2, .int y3, .int y4, .int y5, .int y6, .int y7]))] 0 0
    exact mp_iret hF hQ rfl rfl (Nat.le_of_ble_eq_true rfl) (Nat.le_of_ble_eq_true rfl) [0, 1] (w' := [(a0, .inr (9, [.ref a1, .ref a2, .ref a3, .ref a4, .ref a5, .ref a6, .ref a7, .ref a8, .ref a9])), (a1, .inr (3, [.ref a10, .int y0, .ref a11, .int y1, .int y2, .int y3, .int y4, .int y5, .int y6, .int y7]))]) rfl rfl ⟨y0, (-1), rfl, l_y0, u_y0, (by decide), (by decide), (by first | omega | decide | (have h8 : (0 : Int32).toInt = 0 := rfl; have h9 : (1 : Int32).toInt = 1 := rfl; have h10 : (-1 : Int32).toInt = -1 := rfl; omega)), rfl⟩ (by decide +kernel)
  · have c_1 : 0 ≤ x0.toInt := c_1
    show mp_W E X 2 4 [(0, .ref a0), (1, .int x0)] [] [(a0, .inr (9, [.ref a1, .ref a2, .ref a3, .ref a4, .ref a5, .ref a6, .ref a7, .ref a8, .ref a9])), (a1, .inr (3, [.ref a10, .int y0, .ref a11, .int y1, .int y2, .int y3, .int y4, .int y5, .int y6, .int y7]))] 0 0
    refine mp_run hF mp_tabX9_ok [mp_i (.iload_n 1), mp_i (.aload_n 0), mp_h (.getfield 10) [36, 0], mp_h (.getfield 71) [16, 1], mp_h (.if_icmp .le 5) [17]] (by decide +kernel) ?_
    refine And.intro rfl (And.intro rfl ?_)
    refine And.intro rfl (And.intro rfl ?_)
    refine And.intro (fun c_2 => ?_) (fun c_2 => ?_)
    · have c_2 : x0.toInt ≤ y0.toInt := c_2
      show mp_W E X 2 17 [(0, .ref a0), (1, .int x0)] [] [(a0, .inr (9, [.ref a1, .ref a2, .ref a3, .ref a4, .ref a5, .ref a6, .ref a7, .ref a8, .ref a9])), (a1, .inr (3, [.ref a10, .int y0, .ref a11, .int y1, .int y2, .int y3, .int y4, .int y5, .int y6, .int y7]))] 0 0
      refine mp_run hF mp_tabX9_ok [mp_i (.aload_n 0), mp_h (.getfield 10) [36, 0], mp_i (.iload_n 1), mp_h (.putfield 71) [16, 1]] (by decide +kernel) ?_
      refine And.intro rfl (And.intro rfl ?_)
      refine And.intro rfl (And.intro rfl (And.intro rfl (And.intro rfl (And.intro (Nat.le_of_ble_eq_true rfl) ?_))))
      show mp_W E X 2 25 [(0, .ref a0), (1, .int x0)] [] [(a0, .inr (9, [.ref a1, .ref a2, .ref a3, .ref a4, .ref a5, .ref a6, .ref a7, .ref a8, .ref a9])), (a1, .inr (3, [.ref a10, .int x0, .ref a11, .int y1, .int y2, .int y3, .int y4, .int y5, .int y6, .int y7]))] 0 0
      refine mp_run hF mp_tabX9_ok [mp_i (.iload_n 1)] (by decide +kernel) ?_
      show mp_W E X 2 26 [(0, .ref a0), (1, .int x0)] [.int x0] [(a0, .inr (9, [.ref a1, .ref a2, .ref a3, .ref a4, .ref a5, .ref a6, .ref a7, .ref a8, .ref a9])), (a1, .inr (3, [.ref a10, .int x0, .ref a11, .int y1, .int y2, .int y3, .int y4, .int y5, .int y6, .int y7]))] 0 0
      exact mp_iret hF hQ rfl rfl (Nat.le_of_ble_eq_true rfl) (Nat.le_of_ble_eq_true rfl) [0, 1] (w' := [(a0, .inr (9, [.ref a1, .ref a2, .ref a3, .ref a4, .ref a5, .ref a6, .ref a7, .ref a8, .ref a9])), (a1, .inr (3, [.ref a10, .int x0, .ref a11, .int y1, .int y2, .int y3, .int y4, .int y5, .int y6, .int y7]))]) rfl rfl ⟨x0, x0, rfl, (by omega), (by omega), (by omega), (by omega), (by first | omega | decide | (have h8 : (0 : Int32).toInt = 0 := rfl; have h9 : (1 : Int32).toInt = 1 := rfl; have h10 : (-1 : Int32).toInt = -1 := rfl; omega)), rfl⟩ (by decide +kernel)
    · have c_2 : y0.toInt < x0.toInt := c_2
      show mp_W E X 2 15 [(0, .ref a0), (1, .int x0)] [] [(a0, .inr (9, [.ref a1, .ref a2, .ref a3, .ref a4, .ref a5, .ref a6, .ref a7, .ref a8, .ref a9])), (a1, .inr (3, [.ref a10, .int y0, .ref a11, .int y1, .int y2, .int y3, .int y4, .int y5, .int y6, .int y7]))] 0 0
      refine mp_run hF mp_tabX9_ok [mp_c (.iconst (-1)) (-1)] (by decide +kernel) ?_
      show mp_W E X 2 16 [(0, .ref a0), (1, .int x0)] [.int (-1)] [(a0, .inr (9, [.ref a1, .ref a2, .ref a3, .ref a4, .ref a5, .ref a6, .ref a7, .ref a8, .ref a9])), (a1, .inr (3, [.ref a10, .int y0, .ref a11, .int y1, .int y2, .int y3, .int y4, .int y5, .int y6, .int y7]))] 0 0
      exact mp_iret hF hQ rfl rfl (Nat.le_of_ble_eq_true rfl) (Nat.le_of_ble_eq_true rfl) [0, 1] (w' := [(a0, .inr (9, [.ref a1, .ref a2, .ref a3, .ref a4, .ref a5, .ref a6, .ref a7, .ref a8, .ref a9])), (a1, .inr (3, [.ref a10, .int y0, .ref a11, .int y1, .int y2, .int y3, .int y4, .int y5, .int y6, .int y7]))]) rfl rfl ⟨y0, (-1), rfl, l_y0, u_y0, (by decide), (by decide), (by first | omega | decide | (have h8 : (0 : Int32).toInt = 0 := rfl; have h9 : (1 : Int32).toInt = 1 := rfl; have h10 : (-1 : Int32).toInt = -1 := rfl; omega)), rfl⟩ (by decide +kernel)
set_option maxHeartbeats 4000000 in
set_option maxRecDepth 100000 in
theorem bJ7_fill_53178_3 (E : mp_E) (a0 : Nat) (f0 : Nat → Int32) (x0 : Int32) : mp_Ct E yJ7_fill_53178 cJ7_fill_53178 4 none 0 0 0 0 [.ref a0, .int x0] [(a0, .inl (E.2.2 0, 36, .inl f0))] (fun v w' => ∃ h1 : Nat → Int32, v = none ∧ w' = [(a0, .inl (E.2.2 0, 36, .inl h1))]) := by
  refine mp_met false (by decide) (by decide) (Nat.le_of_ble_eq_true rfl) (fun X hF hQ => ?_)
  have hF : mp_F E X (RJ7, cJ7_fill_53178, 4, (0, 0, 0, 0), none, false) := hF
  show mp_W E X 4 0 [(0, .ref a0), (1, .int x0)] [] [(a0, .inl (E.2.2 0, 36, .inl f0))] 0 0
  refine mp_run hF mp_tab0_ok [mp_c (.iconst 0) 0, mp_i (.istore_n 2), mp_i (.aload_n 0), mp_h .arraylength [0, 0], mp_i (.istore_n 3)] (by decide +kernel) ?_
  refine And.intro rfl (And.intro rfl (And.intro (by decide) ?_))
  intro z_1 h_2
  obtain rfl : z_1 = 36 := h_2.trans (show Int32.ofNat 36 = (36 : Int32) by decide)
  show mp_W E X 4 5 [(3, .int 36), (2, .int 0), (0, .ref a0), (1, .int x0)] [] [(a0, .inl (E.2.2 0, 36, .inl f0))] 0 0
  have lp_7 : ∀ (d_8 : Nat) (i_3 : Int32) (g_4 : Nat → Int32), 0 ≤ i_3.toInt → i_3.toInt ≤ 36 → -(i_3.toInt) + 36 ≤ (d_8 : Int) → mp_W E X 4 5 [(3, .int 36), (2, .int i_3), (0, .ref a0), (1, .int x0)] [] [(a0, .inl (E.2.2 0, 36, .inl g_4))] 0 0 := by
    intro d_8
    induction d_8 using Nat.strongRecOn with
    | ind d_8 ih_9 =>
      intro i_3 g_4 l_5 u_6 hm_10
      refine mp_run hF mp_tab0_ok [mp_i (.iload_n 2), mp_i (.iload_n 3), mp_h (.if_icmp .ge 13) [20]] (by decide +kernel) ?_
      refine And.intro (fun c_11 => ?_) (fun c_11 => ?_)
      · have c_11 : 36 ≤ i_3.toInt := c_11
        show mp_W E X 4 20 [(3, .int 36), (2, .int i_3), (0, .ref a0), (1, .int x0)] [] [(a0, .inl (E.2.2 0, 36, .inl g_4))] 0 0
        exact mp_vret hF hQ rfl (Nat.le_of_ble_eq_true rfl) (Nat.le_of_ble_eq_true rfl) [0] (w' := [(a0, .inl (E.2.2 0, 36, .inl g_4))]) rfl rfl ⟨g_4, rfl, rfl⟩ (by decide +kernel)
      · have c_11 : i_3.toInt < 36 := c_11
        show mp_W E X 4 10 [(3, .int 36), (2, .int i_3), (0, .ref a0), (1, .int x0)] [] [(a0, .inl (E.2.2 0, 36, .inl g_4))] 0 0
        refine mp_run hF mp_tab0_ok [mp_i (.aload_n 0), mp_i (.iload_n 2), mp_i (.iload_n 1), mp_h .iastore [0]] (by decide +kernel) ?_
        refine And.intro rfl (And.intro rfl (And.intro (vp_in_iff.mpr (by omega)) ?_))
        intro g_12 h_13
        show mp_W E X 4 14 [(3, .int 36), (2, .int i_3), (0, .ref a0), (1, .int x0)] [] [(a0, .inl (E.2.2 0, 36, .inl g_12))] 0 0
        refine mp_run hF mp_tab0_ok [mp_c (.iinc 2 1) 1, mp_h (.goto (-12)) [5]] (by decide +kernel) ?_
        intro z_14 h_15
        have e_16 : z_14.toInt = i_3.toInt + 1 := mp_add (a := i_3.toInt) (b := 1) h_15 rfl (by decide) (by omega) (by omega)
        show mp_W E X 4 5 [(2, .int z_14), (3, .int 36), (0, .ref a0), (1, .int x0)] [] [(a0, .inl (E.2.2 0, 36, .inl g_12))] 0 0
        exact mp_sub [1, 0, 2, 3] rfl [0] rfl rfl (ih_9 (d_8 - 1) (by omega) z_14 g_12 (by omega) (by omega) (by omega))
  exact mp_sub [0, 1, 2, 3] rfl [0] rfl rfl (lp_7 _ 0 f0 (by decide) (by decide) (Int.self_le_toNat _))
set_option maxHeartbeats 4000000 in
set_option maxRecDepth 100000 in
theorem bJ7_fill_d0a16_4 (E : mp_E) (a0 : Nat) (f0 : Nat → Int64) (x0 : Int64) : mp_Ct E yJ7_fill_d0a16 cJ7_fill_d0a16 5 none 0 0 0 0 [.ref a0, .long x0] [(a0, .inl (E.2.2 2, 12, .inr (.inl f0)))] (fun v w' => ∃ h1 : Nat → Int64, v = none ∧ w' = [(a0, .inl (E.2.2 2, 12, .inr (.inl h1)))]) := by
  refine mp_met false (by decide) (by decide) (Nat.le_of_ble_eq_true rfl) (fun X hF hQ => ?_)
  have hF : mp_F E X (RJ7, cJ7_fill_d0a16, 5, (0, 0, 0, 0), none, false) := hF
  show mp_W E X 5 0 [(0, .ref a0), (1, .long x0)] [] [(a0, .inl (E.2.2 2, 12, .inr (.inl f0)))] 0 0
  refine mp_run hF mp_tab0_ok [mp_c (.iconst 0) 0, mp_i (.istore_n 3), mp_i (.aload_n 0), mp_h .arraylength [0, 2], mp_i (.istore 4)] (by decide +kernel) ?_
  refine And.intro rfl (And.intro rfl (And.intro (by decide) ?_))
  intro z_1 h_2
  obtain rfl : z_1 = 12 := h_2.trans (show Int32.ofNat 12 = (12 : Int32) by decide)
  show mp_W E X 5 6 [(4, .int 12), (3, .int 0), (0, .ref a0), (1, .long x0)] [] [(a0, .inl (E.2.2 2, 12, .inr (.inl f0)))] 0 0
  have lp_7 : ∀ (d_8 : Nat) (i_3 : Int32) (g_4 : Nat → Int64), 0 ≤ i_3.toInt → i_3.toInt ≤ 12 → -(i_3.toInt) + 12 ≤ (d_8 : Int) → mp_W E X 5 6 [(4, .int 12), (3, .int i_3), (0, .ref a0), (1, .long x0)] [] [(a0, .inl (E.2.2 2, 12, .inr (.inl g_4)))] 0 0 := by
    intro d_8
    induction d_8 using Nat.strongRecOn with
    | ind d_8 ih_9 =>
      intro i_3 g_4 l_5 u_6 hm_10
      refine mp_run hF mp_tab0_ok [mp_i (.iload_n 3), mp_i (.iload 4), mp_h (.if_icmp .ge 13) [22]] (by decide +kernel) ?_
      refine And.intro (fun c_11 => ?_) (fun c_11 => ?_)
      · have c_11 : 12 ≤ i_3.toInt := c_11
        show mp_W E X 5 22 [(4, .int 12), (3, .int i_3), (0, .ref a0), (1, .long x0)] [] [(a0, .inl (E.2.2 2, 12, .inr (.inl g_4)))] 0 0
        exact mp_vret hF hQ rfl (Nat.le_of_ble_eq_true rfl) (Nat.le_of_ble_eq_true rfl) [0] (w' := [(a0, .inl (E.2.2 2, 12, .inr (.inl g_4)))]) rfl rfl ⟨g_4, rfl, rfl⟩ (by decide +kernel)
      · have c_11 : i_3.toInt < 12 := c_11
        show mp_W E X 5 12 [(4, .int 12), (3, .int i_3), (0, .ref a0), (1, .long x0)] [] [(a0, .inl (E.2.2 2, 12, .inr (.inl g_4)))] 0 0
        refine mp_run hF mp_tab0_ok [mp_i (.aload_n 0), mp_i (.iload_n 3), mp_i (.lload_n 1), mp_h .lastore [0]] (by decide +kernel) ?_
        refine And.intro rfl (And.intro rfl (And.intro (vp_in_iff.mpr (by omega)) ?_))
        intro g_12 h_13
        show mp_W E X 5 16 [(4, .int 12), (3, .int i_3), (0, .ref a0), (1, .long x0)] [] [(a0, .inl (E.2.2 2, 12, .inr (.inl g_12)))] 0 0
        refine mp_run hF mp_tab0_ok [mp_c (.iinc 3 1) 1, mp_h (.goto (-13)) [6]] (by decide +kernel) ?_
        intro z_14 h_15
        have e_16 : z_14.toInt = i_3.toInt + 1 := mp_add (a := i_3.toInt) (b := 1) h_15 rfl (by decide) (by omega) (by omega)
        show mp_W E X 5 6 [(3, .int z_14), (4, .int 12), (0, .ref a0), (1, .long x0)] [] [(a0, .inl (E.2.2 2, 12, .inr (.inl g_12)))] 0 0
        exact mp_sub [1, 0, 2, 3] rfl [0] rfl rfl (ih_9 (d_8 - 1) (by omega) z_14 g_12 (by omega) (by omega) (by omega))
  exact mp_sub [0, 1, 2, 3] rfl [0] rfl rfl (lp_7 _ 0 f0 (by decide) (by decide) (Int.self_le_toNat _))
set_option maxHeartbeats 4000000 in
set_option maxRecDepth 100000 in
theorem bX7_clear_5 (E : mp_E) (a0 a1 a2 a3 a4 a5 a6 a7 a8 a9 a10 a11 a12 : Nat) (f0 : Nat → Int32) (f1 : Nat → Int64) (y0 : Int32) (y1 : Int32) (y2 : Int32) (y3 : Int32) (y4 : Int32) (y5 : Int32) (l_y1 : 0 ≤ y1.toInt) (u_y1 : y1.toInt ≤ 6) (l_y2 : 0 ≤ y2.toInt) (u_y2 : y2.toInt ≤ 99) (l_y3 : 0 ≤ y3.toInt) (u_y3 : y3.toInt ≤ 6) (l_y4 : 0 ≤ y4.toInt) (u_y4 : y4.toInt ≤ 10) (l_y5 : 0 ≤ y5.toInt) (u_y5 : y5.toInt ≤ 60) : mp_Ct E yX7_clear cX7_clear 1 none 1 0 0 24 [.ref a0] [(a0, .inr (7, [.int y0, .int y1, .int y2, .int y3, .int y4, .int y5, .ref a1, .ref a2, .ref a3, .ref a4, .ref a5, .ref a6, .ref a7, .ref a8, .ref a9, .ref a10, .ref a11, .ref a12])), (a1, .inl (E.2.2 0, 36, .inl f0)), (a2, .inl (E.2.2 2, 12, .inr (.inl f1)))] (fun v w' => ∃ h1 : Nat → Int32, ∃ h2 : Nat → Int64, v = none ∧ w' = [(a0, .inr (7, [.int 0, .int 0, .int 0, .int 0, .int 0, .int 0, .ref a1, .ref a2, .ref a3, .ref a4, .ref a5, .ref a6, .ref a7, .ref a8, .ref a9, .ref a10, .ref a11, .ref a12])), (a1, .inl (E.2.2 0, 36, .inl h1)), (a2, .inl (E.2.2 2, 12, .inr (.inl h2)))]) := by
  refine mp_met false (by decide) (by decide) (Nat.le_of_ble_eq_true rfl) (fun X hF hQ => ?_)
  have hF : mp_F E X (RX7, cX7_clear, 1, (1, 0, 0, 24), none, false) := hF
  show mp_W E X 1 0 [(0, .ref a0)] [] [(a0, .inr (7, [.int y0, .int y1, .int y2, .int y3, .int y4, .int y5, .ref a1, .ref a2, .ref a3, .ref a4, .ref a5, .ref a6, .ref a7, .ref a8, .ref a9, .ref a10, .ref a11, .ref a12])), (a1, .inl (E.2.2 0, 36, .inl f0)), (a2, .inl (E.2.2 2, 12, .inr (.inl f1)))] 0 0
  refine mp_run hF mp_tabX7_ok [mp_i (.aload_n 0), mp_c (.iconst 0) 0, mp_h (.putfield 49) [0, 0]] (by decide +kernel) ?_
  refine And.intro rfl (And.intro rfl (And.intro rfl (And.intro rfl (And.intro (Nat.le_of_ble_eq_true rfl) ?_))))
  show mp_W E X 1 5 [(0, .ref a0)] [] [(a0, .inr (7, [.int 0, .int y1, .int y2, .int y3, .int y4, .int y5, .ref a1, .ref a2, .ref a3, .ref a4, .ref a5, .ref a6, .ref a7, .ref a8, .ref a9, .ref a10, .ref a11, .ref a12])), (a1, .inl (E.2.2 0, 36, .inl f0)), (a2, .inl (E.2.2 2, 12, .inr (.inl f1)))] 0 0
  refine mp_run hF mp_tabX7_ok [mp_i (.aload_n 0), mp_c (.iconst 0) 0, mp_h (.putfield 53) [1, 0]] (by decide +kernel) ?_
  refine And.intro rfl (And.intro rfl (And.intro rfl (And.intro rfl (And.intro (Nat.le_of_ble_eq_true rfl) ?_))))
  show mp_W E X 1 10 [(0, .ref a0)] [] [(a0, .inr (7, [.int 0, .int 0, .int y2, .int y3, .int y4, .int y5, .ref a1, .ref a2, .ref a3, .ref a4, .ref a5, .ref a6, .ref a7, .ref a8, .ref a9, .ref a10, .ref a11, .ref a12])), (a1, .inl (E.2.2 0, 36, .inl f0)), (a2, .inl (E.2.2 2, 12, .inr (.inl f1)))] 0 0
  refine mp_run hF mp_tabX7_ok [mp_i (.aload_n 0), mp_c (.iconst 0) 0, mp_h (.putfield 56) [2, 0]] (by decide +kernel) ?_
  refine And.intro rfl (And.intro rfl (And.intro rfl (And.intro rfl (And.intro (Nat.le_of_ble_eq_true rfl) ?_))))
  show mp_W E X 1 15 [(0, .ref a0)] [] [(a0, .inr (7, [.int 0, .int 0, .int 0, .int y3, .int y4, .int y5, .ref a1, .ref a2, .ref a3, .ref a4, .ref a5, .ref a6, .ref a7, .ref a8, .ref a9, .ref a10, .ref a11, .ref a12])), (a1, .inl (E.2.2 0, 36, .inl f0)), (a2, .inl (E.2.2 2, 12, .inr (.inl f1)))] 0 0
  refine mp_run hF mp_tabX7_ok [mp_i (.aload_n 0), mp_c (.iconst 0) 0, mp_h (.putfield 59) [3, 0]] (by decide +kernel) ?_
  refine And.intro rfl (And.intro rfl (And.intro rfl (And.intro rfl (And.intro (Nat.le_of_ble_eq_true rfl) ?_))))
  show mp_W E X 1 20 [(0, .ref a0)] [] [(a0, .inr (7, [.int 0, .int 0, .int 0, .int 0, .int y4, .int y5, .ref a1, .ref a2, .ref a3, .ref a4, .ref a5, .ref a6, .ref a7, .ref a8, .ref a9, .ref a10, .ref a11, .ref a12])), (a1, .inl (E.2.2 0, 36, .inl f0)), (a2, .inl (E.2.2 2, 12, .inr (.inl f1)))] 0 0
  refine mp_run hF mp_tabX7_ok [mp_i (.aload_n 0), mp_c (.iconst 0) 0, mp_h (.putfield 62) [4, 0]] (by decide +kernel) ?_
  refine And.intro rfl (And.intro rfl (And.intro rfl (And.intro rfl (And.intro (Nat.le_of_ble_eq_true rfl) ?_))))
  show mp_W E X 1 25 [(0, .ref a0)] [] [(a0, .inr (7, [.int 0, .int 0, .int 0, .int 0, .int 0, .int y5, .ref a1, .ref a2, .ref a3, .ref a4, .ref a5, .ref a6, .ref a7, .ref a8, .ref a9, .ref a10, .ref a11, .ref a12])), (a1, .inl (E.2.2 0, 36, .inl f0)), (a2, .inl (E.2.2 2, 12, .inr (.inl f1)))] 0 0
  refine mp_run hF mp_tabX7_ok [mp_i (.aload_n 0), mp_c (.iconst 0) 0, mp_h (.putfield 65) [5, 0]] (by decide +kernel) ?_
  refine And.intro rfl (And.intro rfl (And.intro rfl (And.intro rfl (And.intro (Nat.le_of_ble_eq_true rfl) ?_))))
  show mp_W E X 1 30 [(0, .ref a0)] [] [(a0, .inr (7, [.int 0, .int 0, .int 0, .int 0, .int 0, .int 0, .ref a1, .ref a2, .ref a3, .ref a4, .ref a5, .ref a6, .ref a7, .ref a8, .ref a9, .ref a10, .ref a11, .ref a12])), (a1, .inl (E.2.2 0, 36, .inl f0)), (a2, .inl (E.2.2 2, 12, .inr (.inl f1)))] 0 0
  refine mp_run hF mp_tabX7_ok [mp_i (.aload_n 0), mp_h (.getfield 9) [6, 0], mp_c (.iconst 0) 0] (by decide +kernel) ?_
  refine And.intro rfl (And.intro rfl ?_)
  show mp_W E X 1 35 [(0, .ref a0)] [.int 0, .ref a1] [(a0, .inr (7, [.int 0, .int 0, .int 0, .int 0, .int 0, .int 0, .ref a1, .ref a2, .ref a3, .ref a4, .ref a5, .ref a6, .ref a7, .ref a8, .ref a9, .ref a10, .ref a11, .ref a12])), (a1, .inl (E.2.2 0, 36, .inl f0)), (a2, .inl (E.2.2 2, 12, .inr (.inl f1)))] 0 0
  refine mp_callS hF (As := [.ref a1, .int 0]) (rest := []) (wr := [(a0, .inr (7, [.int 0, .int 0, .int 0, .int 0, .int 0, .int 0, .ref a1, .ref a2, .ref a3, .ref a4, .ref a5, .ref a6, .ref a7, .ref a8, .ref a9, .ref a10, .ref a11, .ref a12])), (a2, .inl (E.2.2 2, 12, .inr (.inl f1)))]) (bJ7_fill_53178_3 E a1 f0 0) mp_lkX7_68 [1] [0, 2] rfl rfl rfl rfl rfl ⟨(Nat.le_of_ble_eq_true rfl), (Nat.le_of_ble_eq_true rfl), (Nat.le_of_ble_eq_true rfl), (Nat.le_of_ble_eq_true rfl)⟩ (Nat.le_of_ble_eq_true rfl) (by decide +kernel) (fun v_1 w_2 h_3 => ?_)
  obtain ⟨g_4, rfl, rfl⟩ := h_3
  show mp_W E X 1 38 [(0, .ref a0)] [] [(a0, .inr (7, [.int 0, .int 0, .int 0, .int 0, .int 0, .int 0, .ref a1, .ref a2, .ref a3, .ref a4, .ref a5, .ref a6, .ref a7, .ref a8, .ref a9, .ref a10, .ref a11, .ref a12])), (a2, .inl (E.2.2 2, 12, .inr (.inl f1))), (a1, .inl (E.2.2 0, 36, .inl g_4))] 0 0
  refine mp_run hF mp_tabX7_ok [mp_i (.aload_n 0), mp_h (.getfield 15) [7, 0], mp_cl (.lconst 0) 0] (by decide +kernel) ?_
  refine And.intro rfl (And.intro rfl ?_)
  show mp_W E X 1 43 [(0, .ref a0)] [.long 0, .ref a2] [(a0, .inr (7, [.int 0, .int 0, .int 0, .int 0, .int 0, .int 0, .ref a1, .ref a2, .ref a3, .ref a4, .ref a5, .ref a6, .ref a7, .ref a8, .ref a9, .ref a10, .ref a11, .ref a12])), (a2, .inl (E.2.2 2, 12, .inr (.inl f1))), (a1, .inl (E.2.2 0, 36, .inl g_4))] 0 0
  refine mp_callS hF (As := [.ref a2, .long 0]) (rest := []) (wr := [(a0, .inr (7, [.int 0, .int 0, .int 0, .int 0, .int 0, .int 0, .ref a1, .ref a2, .ref a3, .ref a4, .ref a5, .ref a6, .ref a7, .ref a8, .ref a9, .ref a10, .ref a11, .ref a12])), (a1, .inl (E.2.2 0, 36, .inl g_4))]) (bJ7_fill_d0a16_4 E a2 f1 0) mp_lkX7_74 [1] [0, 2] rfl rfl rfl rfl rfl ⟨(Nat.le_of_ble_eq_true rfl), (Nat.le_of_ble_eq_true rfl), (Nat.le_of_ble_eq_true rfl), (Nat.le_of_ble_eq_true rfl)⟩ (Nat.le_of_ble_eq_true rfl) (by decide +kernel) (fun v_5 w_6 h_7 => ?_)
  obtain ⟨g_8, rfl, rfl⟩ := h_7
  show mp_W E X 1 46 [(0, .ref a0)] [] [(a0, .inr (7, [.int 0, .int 0, .int 0, .int 0, .int 0, .int 0, .ref a1, .ref a2, .ref a3, .ref a4, .ref a5, .ref a6, .ref a7, .ref a8, .ref a9, .ref a10, .ref a11, .ref a12])), (a1, .inl (E.2.2 0, 36, .inl g_4)), (a2, .inl (E.2.2 2, 12, .inr (.inl g_8)))] 0 0
  exact mp_vret hF hQ rfl (Nat.le_of_ble_eq_true rfl) (Nat.le_of_ble_eq_true rfl) [0, 1, 2] (w' := [(a0, .inr (7, [.int 0, .int 0, .int 0, .int 0, .int 0, .int 0, .ref a1, .ref a2, .ref a3, .ref a4, .ref a5, .ref a6, .ref a7, .ref a8, .ref a9, .ref a10, .ref a11, .ref a12])), (a1, .inl (E.2.2 0, 36, .inl g_4)), (a2, .inl (E.2.2 2, 12, .inr (.inl g_8)))]) rfl rfl ⟨g_4, g_8, rfl, rfl⟩ (by decide +kernel)
set_option maxHeartbeats 4000000 in
set_option maxRecDepth 100000 in
theorem bX3_isLetter_6 (E : mp_E) (a0 a1 a2 : Nat) (f0 : Nat → Int32) (y0 : Int32) (y1 : Int32) (y2 : Int32) (y3 : Int32) (y4 : Int32) (y5 : Int32) (y6 : Int32) (y7 : Int32) (x0 : Int32) (l_x0 : 0 ≤ x0.toInt) (u_x0 : x0.toInt ≤ 1599) (l_y0 : 0 ≤ y0.toInt) (u_y0 : y0.toInt ≤ 1600) (l_y4 : 0 ≤ y4.toInt) (u_y4 : y4.toInt ≤ 1600) (l_y5 : 0 ≤ y5.toInt) (u_y5 : y5.toInt ≤ 1600) : mp_Ct E yX3_isLetter cX3_isLetter 2 (some FieldType.boolean) 0 0 0 0 [.ref a0, .int x0] [(a0, .inr (3, [.ref a1, .int y0, .ref a2, .int y1, .int y2, .int y3, .int y4, .int y5, .int y6, .int y7])), (a1, .inl (E.2.2 1, 1600, .inl f0))] (fun v w' => (v = some (.int 0) ∧ w' = [(a0, .inr (3, [.ref a1, .int y0, .ref a2, .int y1, .int y2, .int y3, .int y4, .int y5, .int y6, .int y7])), (a1, .inl (E.2.2 1, 1600, .inl f0))]) ∨ (v = some (.int 1) ∧ w' = [(a0, .inr (3, [.ref a1, .int y0, .ref a2, .int y1, .int y2, .int y3, .int y4, .int y5, .int y6, .int y7])), (a1, .inl (E.2.2 1, 1600, .inl f0))])) := by
  refine mp_met false (by decide) (by decide) (Nat.le_of_ble_eq_true rfl) (fun X hF hQ => ?_)
  have hF : mp_F E X (RX3, cX3_isLetter, 2, (0, 0, 0, 0), (some FieldType.boolean), false) := hF
  show mp_W E X 2 0 [(0, .ref a0), (1, .int x0)] [] [(a0, .inr (3, [.ref a1, .int y0, .ref a2, .int y1, .int y2, .int y3, .int y4, .int y5, .int y6, .int y7])), (a1, .inl (E.2.2 1, 1600, .inl f0))] 0 0
  refine mp_run hF mp_tabX3_ok [mp_i (.aload_n 0), mp_h (.getfield 9) [9, 0], mp_i (.iload_n 1), mp_h .baload [1], mp_c (.bipush 97) 97, mp_h (.if_icmp .lt 18) [26]] (by decide +kernel) ?_
  refine And.intro rfl (And.intro rfl ?_)
  refine And.intro rfl (And.intro rfl (And.intro (vp_in_iff.mpr (by omega)) ?_))
  intro z_1 h_2
  refine And.intro (fun c_3 => ?_) (fun c_3 => ?_)
  · have c_3 : z_1.toInt < 97 := c_3
    show mp_W E X 2 26 [(0, .ref a0), (1, .int x0)] [] [(a0, .inr (3, [.ref a1, .int y0, .ref a2, .int y1, .int y2, .int y3, .int y4, .int y5, .int y6, .int y7])), (a1, .inl (E.2.2 1, 1600, .inl f0))] 0 0
    refine mp_run hF mp_tabX3_ok [mp_c (.iconst 0) 0] (by decide +kernel) ?_
    show mp_W E X 2 27 [(0, .ref a0), (1, .int x0)] [.int 0] [(a0, .inr (3, [.ref a1, .int y0, .ref a2, .int y1, .int y2, .int y3, .int y4, .int y5, .int y6, .int y7])), (a1, .inl (E.2.2 1, 1600, .inl f0))] 0 0
    exact mp_iret hF hQ rfl (by decide) (Nat.le_of_ble_eq_true rfl) (Nat.le_of_ble_eq_true rfl) [0, 1] (w' := [(a0, .inr (3, [.ref a1, .int y0, .ref a2, .int y1, .int y2, .int y3, .int y4, .int y5, .int y6, .int y7])), (a1, .inl (E.2.2 1, 1600, .inl f0))]) rfl rfl (Or.inl ⟨rfl, rfl⟩) (by decide +kernel)
  · have c_3 : 97 ≤ z_1.toInt := c_3
    show mp_W E X 2 11 [(0, .ref a0), (1, .int x0)] [] [(a0, .inr (3, [.ref a1, .int y0, .ref a2, .int y1, .int y2, .int y3, .int y4, .int y5, .int y6, .int y7])), (a1, .inl (E.2.2 1, 1600, .inl f0))] 0 0
    refine mp_run hF mp_tabX3_ok [mp_i (.aload_n 0), mp_h (.getfield 9) [9, 0], mp_i (.iload_n 1), mp_h .baload [1], mp_c (.bipush 122) 122, mp_h (.if_icmp .gt 7) [26]] (by decide +kernel) ?_
    refine And.intro rfl (And.intro rfl ?_)
    refine And.intro rfl (And.intro rfl (And.intro (vp_in_iff.mpr (by omega)) ?_))
    intro z_4 h_5
    have k_6 : z_1 = z_4 := h_2.trans h_5.symm
    subst k_6
    refine And.intro (fun c_7 => ?_) (fun c_7 => ?_)
    · have c_7 : 122 < z_1.toInt := c_7
      show mp_W E X 2 26 [(0, .ref a0), (1, .int x0)] [] [(a0, .inr (3, [.ref a1, .int y0, .ref a2, .int y1, .int y2, .int y3, .int y4, .int y5, .int y6, .int y7])), (a1, .inl (E.2.2 1, 1600, .inl f0))] 0 0
      refine mp_run hF mp_tabX3_ok [mp_c (.iconst 0) 0] (by decide +kernel) ?_
      show mp_W E X 2 27 [(0, .ref a0), (1, .int x0)] [.int 0] [(a0, .inr (3, [.ref a1, .int y0, .ref a2, .int y1, .int y2, .int y3, .int y4, .int y5, .int y6, .int y7])), (a1, .inl (E.2.2 1, 1600, .inl f0))] 0 0
      exact mp_iret hF hQ rfl (by decide) (Nat.le_of_ble_eq_true rfl) (Nat.le_of_ble_eq_true rfl) [0, 1] (w' := [(a0, .inr (3, [.ref a1, .int y0, .ref a2, .int y1, .int y2, .int y3, .int y4, .int y5, .int y6, .int y7])), (a1, .inl (E.2.2 1, 1600, .inl f0))]) rfl rfl (Or.inl ⟨rfl, rfl⟩) (by decide +kernel)
    · have c_7 : z_1.toInt ≤ 122 := c_7
      show mp_W E X 2 22 [(0, .ref a0), (1, .int x0)] [] [(a0, .inr (3, [.ref a1, .int y0, .ref a2, .int y1, .int y2, .int y3, .int y4, .int y5, .int y6, .int y7])), (a1, .inl (E.2.2 1, 1600, .inl f0))] 0 0
      refine mp_run hF mp_tabX3_ok [mp_c (.iconst 1) 1, mp_h (.goto 4) [27]] (by decide +kernel) ?_
      show mp_W E X 2 27 [(0, .ref a0), (1, .int x0)] [.int 1] [(a0, .inr (3, [.ref a1, .int y0, .ref a2, .int y1, .int y2, .int y3, .int y4, .int y5, .int y6, .int y7])), (a1, .inl (E.2.2 1, 1600, .inl f0))] 0 0
      exact mp_iret hF hQ rfl (by decide) (Nat.le_of_ble_eq_true rfl) (Nat.le_of_ble_eq_true rfl) [0, 1] (w' := [(a0, .inr (3, [.ref a1, .int y0, .ref a2, .int y1, .int y2, .int y3, .int y4, .int y5, .int y6, .int y7])), (a1, .inl (E.2.2 1, 1600, .inl f0))]) rfl rfl (Or.inr ⟨rfl, rfl⟩) (by decide +kernel)
set_option maxHeartbeats 4000000 in
set_option maxRecDepth 100000 in
theorem bX3_isDigit_7 (E : mp_E) (a0 a1 a2 : Nat) (f0 : Nat → Int32) (y0 : Int32) (y1 : Int32) (y2 : Int32) (y3 : Int32) (y4 : Int32) (y5 : Int32) (y6 : Int32) (y7 : Int32) (x0 : Int32) (l_x0 : 0 ≤ x0.toInt) (u_x0 : x0.toInt ≤ 1599) (l_y0 : 0 ≤ y0.toInt) (u_y0 : y0.toInt ≤ 1600) (l_y4 : 0 ≤ y4.toInt) (u_y4 : y4.toInt ≤ 1600) (l_y5 : 0 ≤ y5.toInt) (u_y5 : y5.toInt ≤ 1600) : mp_Ct E yX3_isDigit cX3_isDigit 2 (some FieldType.boolean) 0 0 0 0 [.ref a0, .int x0] [(a0, .inr (3, [.ref a1, .int y0, .ref a2, .int y1, .int y2, .int y3, .int y4, .int y5, .int y6, .int y7])), (a1, .inl (E.2.2 1, 1600, .inl f0))] (fun v w' => (v = some (.int 0) ∧ w' = [(a0, .inr (3, [.ref a1, .int y0, .ref a2, .int y1, .int y2, .int y3, .int y4, .int y5, .int y6, .int y7])), (a1, .inl (E.2.2 1, 1600, .inl f0))]) ∨ (v = some (.int 1) ∧ w' = [(a0, .inr (3, [.ref a1, .int y0, .ref a2, .int y1, .int y2, .int y3, .int y4, .int y5, .int y6, .int y7])), (a1, .inl (E.2.2 1, 1600, .inl f0))])) := by
  refine mp_met false (by decide) (by decide) (Nat.le_of_ble_eq_true rfl) (fun X hF hQ => ?_)
  have hF : mp_F E X (RX3, cX3_isDigit, 2, (0, 0, 0, 0), (some FieldType.boolean), false) := hF
  show mp_W E X 2 0 [(0, .ref a0), (1, .int x0)] [] [(a0, .inr (3, [.ref a1, .int y0, .ref a2, .int y1, .int y2, .int y3, .int y4, .int y5, .int y6, .int y7])), (a1, .inl (E.2.2 1, 1600, .inl f0))] 0 0
  refine mp_run hF mp_tabX3_ok [mp_i (.aload_n 0), mp_h (.getfield 9) [9, 0], mp_i (.iload_n 1), mp_h .baload [1], mp_c (.bipush 48) 48, mp_h (.if_icmp .lt 18) [26]] (by decide +kernel) ?_
  refine And.intro rfl (And.intro rfl ?_)
  refine And.intro rfl (And.intro rfl (And.intro (vp_in_iff.mpr (by omega)) ?_))
  intro z_1 h_2
  refine And.intro (fun c_3 => ?_) (fun c_3 => ?_)
  · have c_3 : z_1.toInt < 48 := c_3
    show mp_W E X 2 26 [(0, .ref a0), (1, .int x0)] [] [(a0, .inr (3, [.ref a1, .int y0, .ref a2, .int y1, .int y2, .int y3, .int y4, .int y5, .int y6, .int y7])), (a1, .inl (E.2.2 1, 1600, .inl f0))] 0 0
    refine mp_run hF mp_tabX3_ok [mp_c (.iconst 0) 0] (by decide +kernel) ?_
    show mp_W E X 2 27 [(0, .ref a0), (1, .int x0)] [.int 0] [(a0, .inr (3, [.ref a1, .int y0, .ref a2, .int y1, .int y2, .int y3, .int y4, .int y5, .int y6, .int y7])), (a1, .inl (E.2.2 1, 1600, .inl f0))] 0 0
    exact mp_iret hF hQ rfl (by decide) (Nat.le_of_ble_eq_true rfl) (Nat.le_of_ble_eq_true rfl) [0, 1] (w' := [(a0, .inr (3, [.ref a1, .int y0, .ref a2, .int y1, .int y2, .int y3, .int y4, .int y5, .int y6, .int y7])), (a1, .inl (E.2.2 1, 1600, .inl f0))]) rfl rfl (Or.inl ⟨rfl, rfl⟩) (by decide +kernel)
  · have c_3 : 48 ≤ z_1.toInt := c_3
    show mp_W E X 2 11 [(0, .ref a0), (1, .int x0)] [] [(a0, .inr (3, [.ref a1, .int y0, .ref a2, .int y1, .int y2, .int y3, .int y4, .int y5, .int y6, .int y7])), (a1, .inl (E.2.2 1, 1600, .inl f0))] 0 0
    refine mp_run hF mp_tabX3_ok [mp_i (.aload_n 0), mp_h (.getfield 9) [9, 0], mp_i (.iload_n 1), mp_h .baload [1], mp_c (.bipush 57) 57, mp_h (.if_icmp .gt 7) [26]] (by decide +kernel) ?_
    refine And.intro rfl (And.intro rfl ?_)
    refine And.intro rfl (And.intro rfl (And.intro (vp_in_iff.mpr (by omega)) ?_))
    intro z_4 h_5
    have k_6 : z_1 = z_4 := h_2.trans h_5.symm
    subst k_6
    refine And.intro (fun c_7 => ?_) (fun c_7 => ?_)
    · have c_7 : 57 < z_1.toInt := c_7
      show mp_W E X 2 26 [(0, .ref a0), (1, .int x0)] [] [(a0, .inr (3, [.ref a1, .int y0, .ref a2, .int y1, .int y2, .int y3, .int y4, .int y5, .int y6, .int y7])), (a1, .inl (E.2.2 1, 1600, .inl f0))] 0 0
      refine mp_run hF mp_tabX3_ok [mp_c (.iconst 0) 0] (by decide +kernel) ?_
      show mp_W E X 2 27 [(0, .ref a0), (1, .int x0)] [.int 0] [(a0, .inr (3, [.ref a1, .int y0, .ref a2, .int y1, .int y2, .int y3, .int y4, .int y5, .int y6, .int y7])), (a1, .inl (E.2.2 1, 1600, .inl f0))] 0 0
      exact mp_iret hF hQ rfl (by decide) (Nat.le_of_ble_eq_true rfl) (Nat.le_of_ble_eq_true rfl) [0, 1] (w' := [(a0, .inr (3, [.ref a1, .int y0, .ref a2, .int y1, .int y2, .int y3, .int y4, .int y5, .int y6, .int y7])), (a1, .inl (E.2.2 1, 1600, .inl f0))]) rfl rfl (Or.inl ⟨rfl, rfl⟩) (by decide +kernel)
    · have c_7 : z_1.toInt ≤ 57 := c_7
      show mp_W E X 2 22 [(0, .ref a0), (1, .int x0)] [] [(a0, .inr (3, [.ref a1, .int y0, .ref a2, .int y1, .int y2, .int y3, .int y4, .int y5, .int y6, .int y7])), (a1, .inl (E.2.2 1, 1600, .inl f0))] 0 0
      refine mp_run hF mp_tabX3_ok [mp_c (.iconst 1) 1, mp_h (.goto 4) [27]] (by decide +kernel) ?_
      show mp_W E X 2 27 [(0, .ref a0), (1, .int x0)] [.int 1] [(a0, .inr (3, [.ref a1, .int y0, .ref a2, .int y1, .int y2, .int y3, .int y4, .int y5, .int y6, .int y7])), (a1, .inl (E.2.2 1, 1600, .inl f0))] 0 0
      exact mp_iret hF hQ rfl (by decide) (Nat.le_of_ble_eq_true rfl) (Nat.le_of_ble_eq_true rfl) [0, 1] (w' := [(a0, .inr (3, [.ref a1, .int y0, .ref a2, .int y1, .int y2, .int y3, .int y4, .int y5, .int y6, .int y7])), (a1, .inl (E.2.2 1, 1600, .inl f0))]) rfl rfl (Or.inr ⟨rfl, rfl⟩) (by decide +kernel)
set_option maxHeartbeats 4000000 in
set_option maxRecDepth 100000 in
theorem bX3_step_8 (E : mp_E) (a0 a1 a2 : Nat) (f0 : Nat → Int32) (y0 : Int32) (y1 : Int32) (y2 : Int32) (y3 : Int32) (y4 : Int32) (y5 : Int32) (y6 : Int32) (y7 : Int32) (l_y0 : 0 ≤ y0.toInt) (u_y0 : y0.toInt ≤ 1600) (l_y4 : 0 ≤ y4.toInt) (u_y4 : y4.toInt ≤ 1600) (l_y5 : 0 ≤ y5.toInt) (u_y5 : y5.toInt ≤ 1600) : mp_Ct E yX3_step cX3_step 1 none 1 0 0 21 [.ref a0] [(a0, .inr (3, [.ref a1, .int y0, .ref a2, .int y1, .int y2, .int y3, .int y4, .int y5, .int y6, .int y7])), (a1, .inl (E.2.2 1, 1600, .inl f0))] (fun v w' => ∃ r1 : Int32, ∃ r2 : Int32, ∃ r3 : Int32, ∃ r4 : Int32, v = none ∧ 0 ≤ r1.toInt ∧ r1.toInt ≤ 4 ∧ 0 ≤ r2.toInt ∧ r2.toInt ≤ 1600 ∧ 0 ≤ r3.toInt ∧ r3.toInt ≤ 1600 ∧ r4.toInt ≤ 100000000 ∧ w' = [(a0, .inr (3, [.ref a1, .int y0, .ref a2, .int y1, .int y2, .int r1, .int r2, .int r3, .int r4, .int y7])), (a1, .inl (E.2.2 1, 1600, .inl f0))]) := by
  refine mp_met false (by decide) (by decide) (Nat.le_of_ble_eq_true rfl) (fun X hF hQ => ?_)
  have hF : mp_F E X (RX3, cX3_step, 1, (1, 0, 0, 21), none, false) := hF
  show mp_W E X 1 0 [(0, .ref a0)] [] [(a0, .inr (3, [.ref a1, .int y0, .ref a2, .int y1, .int y2, .int y3, .int y4, .int y5, .int y6, .int y7])), (a1, .inl (E.2.2 1, 1600, .inl f0))] 0 0
  refine mp_run hF mp_tabX3_ok [mp_i (.aload_n 0), mp_i (.aload_n 0), mp_h (.getfield 35) [16, 0], mp_h (.putfield 161) [15, 0]] (by decide +kernel) ?_
  refine And.intro rfl (And.intro rfl ?_)
  refine And.intro rfl (And.intro rfl (And.intro rfl (And.intro rfl (And.intro (Nat.le_of_ble_eq_true rfl) ?_))))
  show mp_W E X 1 8 [(0, .ref a0)] [] [(a0, .inr (3, [.ref a1, .int y0, .ref a2, .int y1, .int y2, .int y3, .int y5, .int y5, .int y6, .int y7])), (a1, .inl (E.2.2 1, 1600, .inl f0))] 0 0
  have lp_4 : ∀ (d_5 : Nat) (i_1 : Int32), 0 ≤ i_1.toInt → i_1.toInt ≤ 1600 → y0.toInt - i_1.toInt ≤ (d_5 : Int) → mp_W E X 1 8 [(0, .ref a0)] [] [(a0, .inr (3, [.ref a1, .int y0, .ref a2, .int y1, .int y2, .int y3, .int i_1, .int y5, .int y6, .int y7])), (a1, .inl (E.2.2 1, 1600, .inl f0))] 0 0 := by
    intro d_5
    induction d_5 using Nat.strongRecOn with
    | ind d_5 ih_6 =>
      intro i_1 l_2 u_3 hm_7
      refine mp_run hF mp_tabX3_ok [mp_i (.aload_n 0), mp_h (.getfield 161) [15, 0], mp_i (.aload_n 0), mp_h (.getfield 26) [10, 0], mp_h (.if_icmp .ge 44) [60]] (by decide +kernel) ?_
      refine And.intro rfl (And.intro rfl ?_)
      refine And.intro rfl (And.intro rfl ?_)
      refine And.intro (fun c_8 => ?_) (fun c_8 => ?_)
      · have c_8 : y0.toInt ≤ i_1.toInt := c_8
        show mp_W E X 1 60 [(0, .ref a0)] [] [(a0, .inr (3, [.ref a1, .int y0, .ref a2, .int y1, .int y2, .int y3, .int i_1, .int y5, .int y6, .int y7])), (a1, .inl (E.2.2 1, 1600, .inl f0))] 0 0
        refine mp_run hF mp_tabX3_ok [mp_i (.aload_n 0), mp_i (.aload_n 0), mp_h (.getfield 161) [15, 0], mp_h (.putfield 35) [16, 0]] (by decide +kernel) ?_
        refine And.intro rfl (And.intro rfl ?_)
        refine And.intro rfl (And.intro rfl (And.intro rfl (And.intro rfl (And.intro (Nat.le_of_ble_eq_true rfl) ?_))))
        show mp_W E X 1 68 [(0, .ref a0)] [] [(a0, .inr (3, [.ref a1, .int y0, .ref a2, .int y1, .int y2, .int y3, .int i_1, .int i_1, .int y6, .int y7])), (a1, .inl (E.2.2 1, 1600, .inl f0))] 0 0
        refine mp_run hF mp_tabX3_ok [mp_i (.aload_n 0), mp_c (.iconst 0) 0, mp_h (.putfield 158) [17, 0]] (by decide +kernel) ?_
        refine And.intro rfl (And.intro rfl (And.intro rfl (And.intro rfl (And.intro (Nat.le_of_ble_eq_true rfl) ?_))))
        show mp_W E X 1 73 [(0, .ref a0)] [] [(a0, .inr (3, [.ref a1, .int y0, .ref a2, .int y1, .int y2, .int y3, .int i_1, .int i_1, .int 0, .int y7])), (a1, .inl (E.2.2 1, 1600, .inl f0))] 0 0
        refine mp_run hF mp_tabX3_ok [mp_i (.aload_n 0), mp_h (.getfield 161) [15, 0], mp_i (.aload_n 0), mp_h (.getfield 26) [10, 0], mp_h (.if_icmp .lt 11) [92]] (by decide +kernel) ?_
        refine And.intro rfl (And.intro rfl ?_)
        refine And.intro rfl (And.intro rfl ?_)
        refine And.intro (fun c_9 => ?_) (fun c_9 => ?_)
        · have c_9 : i_1.toInt < y0.toInt := c_9
          show mp_W E X 1 92 [(0, .ref a0)] [] [(a0, .inr (3, [.ref a1, .int y0, .ref a2, .int y1, .int y2, .int y3, .int i_1, .int i_1, .int 0, .int y7])), (a1, .inl (E.2.2 1, 1600, .inl f0))] 0 0
          refine mp_run hF mp_tabX3_ok [mp_i (.aload_n 0), mp_i (.aload_n 0), mp_h (.getfield 161) [15, 0]] (by decide +kernel) ?_
          refine And.intro rfl (And.intro rfl ?_)
          show mp_W E X 1 97 [(0, .ref a0)] [.int i_1, .ref a0] [(a0, .inr (3, [.ref a1, .int y0, .ref a2, .int y1, .int y2, .int y3, .int i_1, .int i_1, .int 0, .int y7])), (a1, .inl (E.2.2 1, 1600, .inl f0))] 0 0
          refine mp_callV hF (As := [.int i_1]) (rest := []) (wr := []) (bX3_isLetter_6 E a0 a1 a2 f0 y0 y1 y2 y3 i_1 i_1 0 y7 i_1 l_2 (by omega) l_y0 u_y0 l_2 u_3 l_2 u_3) mp_lkX3_173 0 rfl [0, 1] [] rfl rfl rfl rfl rfl ⟨(Nat.le_of_ble_eq_true rfl), (Nat.le_of_ble_eq_true rfl), (Nat.le_of_ble_eq_true rfl), (Nat.le_of_ble_eq_true rfl)⟩ (Nat.le_of_ble_eq_true rfl) (by decide +kernel) (fun v_10 w_11 h_12 => ?_)
          rcases h_12 with ⟨rfl, rfl⟩ | ⟨rfl, rfl⟩
          · skip
            show mp_W E X 1 100 [(0, .ref a0)] [.int 0] [(a0, .inr (3, [.ref a1, .int y0, .ref a2, .int y1, .int y2, .int y3, .int i_1, .int i_1, .int 0, .int y7])), (a1, .inl (E.2.2 1, 1600, .inl f0))] 0 0
            refine mp_run hF mp_tabX3_ok [mp_h (.ifCond .eq 43) [143]] (by decide +kernel) ?_
            refine And.intro (fun _ => ?_) (fun c_13 => absurd c_13 (by decide))
            show mp_W E X 1 143 [(0, .ref a0)] [] [(a0, .inr (3, [.ref a1, .int y0, .ref a2, .int y1, .int y2, .int y3, .int i_1, .int i_1, .int 0, .int y7])), (a1, .inl (E.2.2 1, 1600, .inl f0))] 0 0
            refine mp_run hF mp_tabX3_ok [mp_i (.aload_n 0), mp_i (.aload_n 0), mp_h (.getfield 161) [15, 0]] (by decide +kernel) ?_
            refine And.intro rfl (And.intro rfl ?_)
            show mp_W E X 1 148 [(0, .ref a0)] [.int i_1, .ref a0] [(a0, .inr (3, [.ref a1, .int y0, .ref a2, .int y1, .int y2, .int y3, .int i_1, .int i_1, .int 0, .int y7])), (a1, .inl (E.2.2 1, 1600, .inl f0))] 0 0
            refine mp_callV hF (As := [.int i_1]) (rest := []) (wr := []) (bX3_isDigit_7 E a0 a1 a2 f0 y0 y1 y2 y3 i_1 i_1 0 y7 i_1 l_2 (by omega) l_y0 u_y0 l_2 u_3 l_2 u_3) mp_lkX3_176 0 rfl [0, 1] [] rfl rfl rfl rfl rfl ⟨(Nat.le_of_ble_eq_true rfl), (Nat.le_of_ble_eq_true rfl), (Nat.le_of_ble_eq_true rfl), (Nat.le_of_ble_eq_true rfl)⟩ (Nat.le_of_ble_eq_true rfl) (by decide +kernel) (fun v_14 w_15 h_16 => ?_)
            rcases h_16 with ⟨rfl, rfl⟩ | ⟨rfl, rfl⟩
            · skip
              show mp_W E X 1 151 [(0, .ref a0)] [.int 0] [(a0, .inr (3, [.ref a1, .int y0, .ref a2, .int y1, .int y2, .int y3, .int i_1, .int i_1, .int 0, .int y7])), (a1, .inl (E.2.2 1, 1600, .inl f0))] 0 0
              refine mp_run hF mp_tabX3_ok [mp_h (.ifCond .eq 72) [223]] (by decide +kernel) ?_
              refine And.intro (fun _ => ?_) (fun c_17 => absurd c_17 (by decide))
              show mp_W E X 1 223 [(0, .ref a0)] [] [(a0, .inr (3, [.ref a1, .int y0, .ref a2, .int y1, .int y2, .int y3, .int i_1, .int i_1, .int 0, .int y7])), (a1, .inl (E.2.2 1, 1600, .inl f0))] 0 0
              refine mp_run hF mp_tabX3_ok [mp_i (.aload_n 0), mp_i (.aload_n 0), mp_h (.getfield 9) [9, 0], mp_i (.aload_n 0), mp_h (.getfield 161) [15, 0], mp_h .baload [1], mp_c (.bipush 59) 59, mp_h (.if_icmp .ne 7) [242]] (by decide +kernel) ?_
              refine And.intro rfl (And.intro rfl ?_)
              refine And.intro rfl (And.intro rfl ?_)
              refine And.intro rfl (And.intro rfl (And.intro (vp_in_iff.mpr (by omega)) ?_))
              intro z_18 h_19
              refine And.intro (fun c_20 => ?_) (fun c_20 => ?_)
              · have c_20 : z_18.toInt ≠ 59 := c_20
                show mp_W E X 1 242 [(0, .ref a0)] [.ref a0] [(a0, .inr (3, [.ref a1, .int y0, .ref a2, .int y1, .int y2, .int y3, .int i_1, .int i_1, .int 0, .int y7])), (a1, .inl (E.2.2 1, 1600, .inl f0))] 0 0
                refine mp_run hF mp_tabX3_ok [mp_c (.iconst 4) 4, mp_h (.putfield 41) [14, 0]] (by decide +kernel) ?_
                refine And.intro rfl (And.intro rfl (And.intro rfl (And.intro rfl (And.intro (Nat.le_of_ble_eq_true rfl) ?_))))
                show mp_W E X 1 246 [(0, .ref a0)] [] [(a0, .inr (3, [.ref a1, .int y0, .ref a2, .int y1, .int y2, .int 4, .int i_1, .int i_1, .int 0, .int y7])), (a1, .inl (E.2.2 1, 1600, .inl f0))] 0 0
                refine mp_run hF mp_tabX3_ok [mp_i (.aload_n 0), mp_i .dup, mp_h (.getfield 35) [16, 0], mp_c (.iconst 1) 1, mp_i .iadd, mp_h (.putfield 35) [16, 0]] (by decide +kernel) ?_
                refine And.intro rfl ?_
                refine And.intro rfl (And.intro rfl ?_)
                intro z_21 h_22
                have e_23 : z_21.toInt = i_1.toInt + 1 := mp_add (a := i_1.toInt) (b := 1) h_22 rfl (by decide) (by omega) (by omega)
                refine And.intro rfl (And.intro rfl (And.intro rfl (And.intro rfl (And.intro (Nat.le_of_ble_eq_true rfl) ?_))))
                show mp_W E X 1 256 [(0, .ref a0)] [] [(a0, .inr (3, [.ref a1, .int y0, .ref a2, .int y1, .int y2, .int 4, .int i_1, .int z_21, .int 0, .int y7])), (a1, .inl (E.2.2 1, 1600, .inl f0))] 0 0
                exact mp_vret hF hQ rfl (Nat.le_of_ble_eq_true rfl) (Nat.le_of_ble_eq_true rfl) [0, 1] (w' := [(a0, .inr (3, [.ref a1, .int y0, .ref a2, .int y1, .int y2, .int 4, .int i_1, .int z_21, .int 0, .int y7])), (a1, .inl (E.2.2 1, 1600, .inl f0))]) rfl rfl ⟨4, i_1, z_21, 0, rfl, (by decide), (by decide), l_2, u_3, (by omega), (by omega), (by decide), rfl⟩ (by decide +kernel)
              · have c_20 : z_18.toInt = 59 := (congrArg Int32.toInt c_20)
                show mp_W E X 1 238 [(0, .ref a0)] [.ref a0] [(a0, .inr (3, [.ref a1, .int y0, .ref a2, .int y1, .int y2, .int y3, .int i_1, .int i_1, .int 0, .int y7])), (a1, .inl (E.2.2 1, 1600, .inl f0))] 0 0
                refine mp_run hF mp_tabX3_ok [mp_c (.iconst 3) 3, mp_h (.goto 4) [243], mp_h (.putfield 41) [14, 0]] (by decide +kernel) ?_
                refine And.intro rfl (And.intro rfl (And.intro rfl (And.intro rfl (And.intro (Nat.le_of_ble_eq_true rfl) ?_))))
                show mp_W E X 1 246 [(0, .ref a0)] [] [(a0, .inr (3, [.ref a1, .int y0, .ref a2, .int y1, .int y2, .int 3, .int i_1, .int i_1, .int 0, .int y7])), (a1, .inl (E.2.2 1, 1600, .inl f0))] 0 0
                refine mp_run hF mp_tabX3_ok [mp_i (.aload_n 0), mp_i .dup, mp_h (.getfield 35) [16, 0], mp_c (.iconst 1) 1, mp_i .iadd, mp_h (.putfield 35) [16, 0]] (by decide +kernel) ?_
                refine And.intro rfl ?_
                refine And.intro rfl (And.intro rfl ?_)
                intro z_24 h_25
                have e_26 : z_24.toInt = i_1.toInt + 1 := mp_add (a := i_1.toInt) (b := 1) h_25 rfl (by decide) (by omega) (by omega)
                refine And.intro rfl (And.intro rfl (And.intro rfl (And.intro rfl (And.intro (Nat.le_of_ble_eq_true rfl) ?_))))
                show mp_W E X 1 256 [(0, .ref a0)] [] [(a0, .inr (3, [.ref a1, .int y0, .ref a2, .int y1, .int y2, .int 3, .int i_1, .int z_24, .int 0, .int y7])), (a1, .inl (E.2.2 1, 1600, .inl f0))] 0 0
                exact mp_vret hF hQ rfl (Nat.le_of_ble_eq_true rfl) (Nat.le_of_ble_eq_true rfl) [0, 1] (w' := [(a0, .inr (3, [.ref a1, .int y0, .ref a2, .int y1, .int y2, .int 3, .int i_1, .int z_24, .int 0, .int y7])), (a1, .inl (E.2.2 1, 1600, .inl f0))]) rfl rfl ⟨3, i_1, z_24, 0, rfl, (by decide), (by decide), l_2, u_3, (by omega), (by omega), (by decide), rfl⟩ (by decide +kernel)
            · skip
              show mp_W E X 1 151 [(0, .ref a0)] [.int 1] [(a0, .inr (3, [.ref a1, .int y0, .ref a2, .int y1, .int y2, .int y3, .int i_1, .int i_1, .int 0, .int y7])), (a1, .inl (E.2.2 1, 1600, .inl f0))] 0 0
              refine mp_run hF mp_tabX3_ok [mp_h (.ifCond .eq 72) [223]] (by decide +kernel) ?_
              refine And.intro (fun c_27 => absurd c_27 (by decide)) (fun _ => ?_)
              show mp_W E X 1 154 [(0, .ref a0)] [] [(a0, .inr (3, [.ref a1, .int y0, .ref a2, .int y1, .int y2, .int y3, .int i_1, .int i_1, .int 0, .int y7])), (a1, .inl (E.2.2 1, 1600, .inl f0))] 0 0
              refine mp_run hF mp_tabX3_ok [mp_i (.aload_n 0), mp_c (.iconst 2) 2, mp_h (.putfield 41) [14, 0]] (by decide +kernel) ?_
              refine And.intro rfl (And.intro rfl (And.intro rfl (And.intro rfl (And.intro (Nat.le_of_ble_eq_true rfl) ?_))))
              show mp_W E X 1 159 [(0, .ref a0)] [] [(a0, .inr (3, [.ref a1, .int y0, .ref a2, .int y1, .int y2, .int 2, .int i_1, .int i_1, .int 0, .int y7])), (a1, .inl (E.2.2 1, 1600, .inl f0))] 0 0
              have lp_33 : ∀ (d_34 : Nat) (i_28 : Int32) (i_29 : Int32), 0 ≤ i_28.toInt → i_28.toInt ≤ 1600 → i_29.toInt ≤ 100000000 → y0.toInt - i_28.toInt ≤ (d_34 : Int) → mp_W E X 1 159 [(0, .ref a0)] [] [(a0, .inr (3, [.ref a1, .int y0, .ref a2, .int y1, .int y2, .int 2, .int i_1, .int i_28, .int i_29, .int y7])), (a1, .inl (E.2.2 1, 1600, .inl f0))] 0 0 := by
                intro d_34
                induction d_34 using Nat.strongRecOn with
                | ind d_34 ih_35 =>
                  intro i_28 i_29 l_30 u_31 u_32 hm_36
                  refine mp_run hF mp_tabX3_ok [mp_i (.aload_n 0), mp_h (.getfield 35) [16, 0], mp_i (.aload_n 0), mp_h (.getfield 26) [10, 0], mp_h (.if_icmp .ge 89) [256]] (by decide +kernel) ?_
                  refine And.intro rfl (And.intro rfl ?_)
                  refine And.intro rfl (And.intro rfl ?_)
                  refine And.intro (fun c_37 => ?_) (fun c_37 => ?_)
                  · have c_37 : y0.toInt ≤ i_28.toInt := c_37
                    show mp_W E X 1 256 [(0, .ref a0)] [] [(a0, .inr (3, [.ref a1, .int y0, .ref a2, .int y1, .int y2, .int 2, .int i_1, .int i_28, .int i_29, .int y7])), (a1, .inl (E.2.2 1, 1600, .inl f0))] 0 0
                    exact mp_vret hF hQ rfl (Nat.le_of_ble_eq_true rfl) (Nat.le_of_ble_eq_true rfl) [0, 1] (w' := [(a0, .inr (3, [.ref a1, .int y0, .ref a2, .int y1, .int y2, .int 2, .int i_1, .int i_28, .int i_29, .int y7])), (a1, .inl (E.2.2 1, 1600, .inl f0))]) rfl rfl ⟨2, i_1, i_28, i_29, rfl, (by decide), (by decide), l_2, u_3, l_30, u_31, u_32, rfl⟩ (by decide +kernel)
                  · have c_37 : i_28.toInt < y0.toInt := c_37
                    show mp_W E X 1 170 [(0, .ref a0)] [] [(a0, .inr (3, [.ref a1, .int y0, .ref a2, .int y1, .int y2, .int 2, .int i_1, .int i_28, .int i_29, .int y7])), (a1, .inl (E.2.2 1, 1600, .inl f0))] 0 0
                    refine mp_run hF mp_tabX3_ok [mp_i (.aload_n 0), mp_i (.aload_n 0), mp_h (.getfield 35) [16, 0]] (by decide +kernel) ?_
                    refine And.intro rfl (And.intro rfl ?_)
                    show mp_W E X 1 175 [(0, .ref a0)] [.int i_28, .ref a0] [(a0, .inr (3, [.ref a1, .int y0, .ref a2, .int y1, .int y2, .int 2, .int i_1, .int i_28, .int i_29, .int y7])), (a1, .inl (E.2.2 1, 1600, .inl f0))] 0 0
                    refine mp_callV hF (As := [.int i_28]) (rest := []) (wr := []) (bX3_isDigit_7 E a0 a1 a2 f0 y0 y1 y2 2 i_1 i_28 i_29 y7 i_28 l_30 (by omega) l_y0 u_y0 l_2 u_3 l_30 u_31) mp_lkX3_176 0 rfl [0, 1] [] rfl rfl rfl rfl rfl ⟨(Nat.le_of_ble_eq_true rfl), (Nat.le_of_ble_eq_true rfl), (Nat.le_of_ble_eq_true rfl), (Nat.le_of_ble_eq_true rfl)⟩ (Nat.le_of_ble_eq_true rfl) (by decide +kernel) (fun v_38 w_39 h_40 => ?_)
                    rcases h_40 with ⟨rfl, rfl⟩ | ⟨rfl, rfl⟩
                    · skip
                      show mp_W E X 1 178 [(0, .ref a0)] [.int 0] [(a0, .inr (3, [.ref a1, .int y0, .ref a2, .int y1, .int y2, .int 2, .int i_1, .int i_28, .int i_29, .int y7])), (a1, .inl (E.2.2 1, 1600, .inl f0))] 0 0
                      refine mp_run hF mp_tabX3_ok [mp_h (.ifCond .eq 78) [256]] (by decide +kernel) ?_
                      refine And.intro (fun _ => ?_) (fun c_41 => absurd c_41 (by decide))
                      show mp_W E X 1 256 [(0, .ref a0)] [] [(a0, .inr (3, [.ref a1, .int y0, .ref a2, .int y1, .int y2, .int 2, .int i_1, .int i_28, .int i_29, .int y7])), (a1, .inl (E.2.2 1, 1600, .inl f0))] 0 0
                      exact mp_vret hF hQ rfl (Nat.le_of_ble_eq_true rfl) (Nat.le_of_ble_eq_true rfl) [0, 1] (w' := [(a0, .inr (3, [.ref a1, .int y0, .ref a2, .int y1, .int y2, .int 2, .int i_1, .int i_28, .int i_29, .int y7])), (a1, .inl (E.2.2 1, 1600, .inl f0))]) rfl rfl ⟨2, i_1, i_28, i_29, rfl, (by decide), (by decide), l_2, u_3, l_30, u_31, u_32, rfl⟩ (by decide +kernel)
                    · skip
                      show mp_W E X 1 178 [(0, .ref a0)] [.int 1] [(a0, .inr (3, [.ref a1, .int y0, .ref a2, .int y1, .int y2, .int 2, .int i_1, .int i_28, .int i_29, .int y7])), (a1, .inl (E.2.2 1, 1600, .inl f0))] 0 0
                      refine mp_run hF mp_tabX3_ok [mp_h (.ifCond .eq 78) [256]] (by decide +kernel) ?_
                      refine And.intro (fun c_42 => absurd c_42 (by decide)) (fun _ => ?_)
                      show mp_W E X 1 181 [(0, .ref a0)] [] [(a0, .inr (3, [.ref a1, .int y0, .ref a2, .int y1, .int y2, .int 2, .int i_1, .int i_28, .int i_29, .int y7])), (a1, .inl (E.2.2 1, 1600, .inl f0))] 0 0
                      refine mp_run hF mp_tabX3_ok [mp_i (.aload_n 0), mp_c (.ldc 179) 100000000, mp_c (.bipush 10) 10, mp_i (.aload_n 0), mp_h (.getfield 158) [17, 0], mp_i .imul, mp_i (.aload_n 0), mp_h (.getfield 9) [9, 0], mp_i (.aload_n 0), mp_h (.getfield 35) [16, 0], mp_h .baload [1], mp_i .iadd, mp_c (.bipush 48) 48, mp_i .isub] (by decide +kernel) ?_
                      refine And.intro rfl (And.intro rfl ?_)
                      intro z_43 h_44
                      refine And.intro rfl (And.intro rfl ?_)
                      refine And.intro rfl (And.intro rfl ?_)
                      refine And.intro rfl (And.intro rfl (And.intro (vp_in_iff.mpr (by omega)) ?_))
                      intro z_46 h_47
                      intro z_48 h_49
                      intro z_51 h_52
                      have e_53 := mp_bnd z_48
                      show mp_W E X 1 204 [(0, .ref a0)] [.int z_51, .int 100000000, .ref a0] [(a0, .inr (3, [.ref a1, .int y0, .ref a2, .int y1, .int y2, .int 2, .int i_1, .int i_28, .int i_29, .int y7])), (a1, .inl (E.2.2 1, 1600, .inl f0))] 0 0
                      refine mp_mmin hF (idx := 180) (mp_gm (j := 2218) (by decide +kernel)) (mp_gm (j := 2219) (by decide +kernel)) (mp_gm (j := 1013) (by decide +kernel)) (mp_gm (j := 2220) (by decide +kernel)) ⟨(Nat.le_of_ble_eq_true rfl), (Nat.le_of_ble_eq_true rfl), (Nat.le_of_ble_eq_true rfl), (Nat.le_of_ble_eq_true rfl)⟩ (by decide +kernel) (fun z_55 m_56 m_57 m_58 => ?_)
                      have m_57 : z_55.toInt ≤ 100000000 := m_57
                      have m_58 : z_55.toInt ≤ z_51.toInt := m_58
                      have m_56 : z_55.toInt = 100000000 ∨ z_55.toInt = z_51.toInt := m_56
                      show mp_W E X 1 207 [(0, .ref a0)] [.int z_55, .ref a0] [(a0, .inr (3, [.ref a1, .int y0, .ref a2, .int y1, .int y2, .int 2, .int i_1, .int i_28, .int i_29, .int y7])), (a1, .inl (E.2.2 1, 1600, .inl f0))] 0 0
                      refine mp_run hF mp_tabX3_ok [mp_h (.putfield 158) [17, 0]] (by decide +kernel) ?_
                      refine And.intro rfl (And.intro rfl (And.intro rfl (And.intro rfl (And.intro (Nat.le_of_ble_eq_true rfl) ?_))))
                      show mp_W E X 1 210 [(0, .ref a0)] [] [(a0, .inr (3, [.ref a1, .int y0, .ref a2, .int y1, .int y2, .int 2, .int i_1, .int i_28, .int z_55, .int y7])), (a1, .inl (E.2.2 1, 1600, .inl f0))] 0 0
                      refine mp_run hF mp_tabX3_ok [mp_i (.aload_n 0), mp_i .dup, mp_h (.getfield 35) [16, 0], mp_c (.iconst 1) 1, mp_i .iadd, mp_h (.putfield 35) [16, 0]] (by decide +kernel) ?_
                      refine And.intro rfl ?_
                      refine And.intro rfl (And.intro rfl ?_)
                      intro z_59 h_60
                      have e_61 : z_59.toInt = i_28.toInt + 1 := mp_add (a := i_28.toInt) (b := 1) h_60 rfl (by decide) (by omega) (by omega)
                      refine And.intro rfl (And.intro rfl (And.intro rfl (And.intro rfl (And.intro (Nat.le_of_ble_eq_true rfl) ?_))))
                      show mp_W E X 1 220 [(0, .ref a0)] [] [(a0, .inr (3, [.ref a1, .int y0, .ref a2, .int y1, .int y2, .int 2, .int i_1, .int z_59, .int z_55, .int y7])), (a1, .inl (E.2.2 1, 1600, .inl f0))] 0 0
                      refine mp_run hF mp_tabX3_ok [mp_h (.goto (-61)) [159]] (by decide +kernel) ?_
                      show mp_W E X 1 159 [(0, .ref a0)] [] [(a0, .inr (3, [.ref a1, .int y0, .ref a2, .int y1, .int y2, .int 2, .int i_1, .int z_59, .int z_55, .int y7])), (a1, .inl (E.2.2 1, 1600, .inl f0))] 0 0
                      exact mp_sub [0] rfl [0, 1] rfl rfl (ih_35 (d_34 - 1) (by omega) z_59 z_55 (by omega) (by omega) (by omega) (by omega))
              exact mp_sub [0] rfl [0, 1] rfl rfl (lp_33 _ i_1 0 l_2 u_3 (by decide) (Int.self_le_toNat _))
          · skip
            show mp_W E X 1 100 [(0, .ref a0)] [.int 1] [(a0, .inr (3, [.ref a1, .int y0, .ref a2, .int y1, .int y2, .int y3, .int i_1, .int i_1, .int 0, .int y7])), (a1, .inl (E.2.2 1, 1600, .inl f0))] 0 0
            refine mp_run hF mp_tabX3_ok [mp_h (.ifCond .eq 43) [143]] (by decide +kernel) ?_
            refine And.intro (fun c_62 => absurd c_62 (by decide)) (fun _ => ?_)
            show mp_W E X 1 103 [(0, .ref a0)] [] [(a0, .inr (3, [.ref a1, .int y0, .ref a2, .int y1, .int y2, .int y3, .int i_1, .int i_1, .int 0, .int y7])), (a1, .inl (E.2.2 1, 1600, .inl f0))] 0 0
            refine mp_run hF mp_tabX3_ok [mp_i (.aload_n 0), mp_c (.iconst 1) 1, mp_h (.putfield 41) [14, 0]] (by decide +kernel) ?_
            refine And.intro rfl (And.intro rfl (And.intro rfl (And.intro rfl (And.intro (Nat.le_of_ble_eq_true rfl) ?_))))
            show mp_W E X 1 108 [(0, .ref a0)] [] [(a0, .inr (3, [.ref a1, .int y0, .ref a2, .int y1, .int y2, .int 1, .int i_1, .int i_1, .int 0, .int y7])), (a1, .inl (E.2.2 1, 1600, .inl f0))] 0 0
            have lp_66 : ∀ (d_67 : Nat) (i_63 : Int32), 0 ≤ i_63.toInt → i_63.toInt ≤ 1600 → y0.toInt - i_63.toInt ≤ (d_67 : Int) → mp_W E X 1 108 [(0, .ref a0)] [] [(a0, .inr (3, [.ref a1, .int y0, .ref a2, .int y1, .int y2, .int 1, .int i_1, .int i_63, .int 0, .int y7])), (a1, .inl (E.2.2 1, 1600, .inl f0))] 0 0 := by
              intro d_67
              induction d_67 using Nat.strongRecOn with
              | ind d_67 ih_68 =>
                intro i_63 l_64 u_65 hm_69
                refine mp_run hF mp_tabX3_ok [mp_i (.aload_n 0), mp_h (.getfield 35) [16, 0], mp_i (.aload_n 0), mp_h (.getfield 26) [10, 0], mp_h (.if_icmp .ge 140) [256]] (by decide +kernel) ?_
                refine And.intro rfl (And.intro rfl ?_)
                refine And.intro rfl (And.intro rfl ?_)
                refine And.intro (fun c_70 => ?_) (fun c_70 => ?_)
                · have c_70 : y0.toInt ≤ i_63.toInt := c_70
                  show mp_W E X 1 256 [(0, .ref a0)] [] [(a0, .inr (3, [.ref a1, .int y0, .ref a2, .int y1, .int y2, .int 1, .int i_1, .int i_63, .int 0, .int y7])), (a1, .inl (E.2.2 1, 1600, .inl f0))] 0 0
                  exact mp_vret hF hQ rfl (Nat.le_of_ble_eq_true rfl) (Nat.le_of_ble_eq_true rfl) [0, 1] (w' := [(a0, .inr (3, [.ref a1, .int y0, .ref a2, .int y1, .int y2, .int 1, .int i_1, .int i_63, .int 0, .int y7])), (a1, .inl (E.2.2 1, 1600, .inl f0))]) rfl rfl ⟨1, i_1, i_63, 0, rfl, (by decide), (by decide), l_2, u_3, l_64, u_65, (by decide), rfl⟩ (by decide +kernel)
                · have c_70 : i_63.toInt < y0.toInt := c_70
                  show mp_W E X 1 119 [(0, .ref a0)] [] [(a0, .inr (3, [.ref a1, .int y0, .ref a2, .int y1, .int y2, .int 1, .int i_1, .int i_63, .int 0, .int y7])), (a1, .inl (E.2.2 1, 1600, .inl f0))] 0 0
                  refine mp_run hF mp_tabX3_ok [mp_i (.aload_n 0), mp_i (.aload_n 0), mp_h (.getfield 35) [16, 0]] (by decide +kernel) ?_
                  refine And.intro rfl (And.intro rfl ?_)
                  show mp_W E X 1 124 [(0, .ref a0)] [.int i_63, .ref a0] [(a0, .inr (3, [.ref a1, .int y0, .ref a2, .int y1, .int y2, .int 1, .int i_1, .int i_63, .int 0, .int y7])), (a1, .inl (E.2.2 1, 1600, .inl f0))] 0 0
                  refine mp_callV hF (As := [.int i_63]) (rest := []) (wr := []) (bX3_isLetter_6 E a0 a1 a2 f0 y0 y1 y2 1 i_1 i_63 0 y7 i_63 l_64 (by omega) l_y0 u_y0 l_2 u_3 l_64 u_65) mp_lkX3_173 0 rfl [0, 1] [] rfl rfl rfl rfl rfl ⟨(Nat.le_of_ble_eq_true rfl), (Nat.le_of_ble_eq_true rfl), (Nat.le_of_ble_eq_true rfl), (Nat.le_of_ble_eq_true rfl)⟩ (Nat.le_of_ble_eq_true rfl) (by decide +kernel) (fun v_71 w_72 h_73 => ?_)
                  rcases h_73 with ⟨rfl, rfl⟩ | ⟨rfl, rfl⟩
                  · skip
                    show mp_W E X 1 127 [(0, .ref a0)] [.int 0] [(a0, .inr (3, [.ref a1, .int y0, .ref a2, .int y1, .int y2, .int 1, .int i_1, .int i_63, .int 0, .int y7])), (a1, .inl (E.2.2 1, 1600, .inl f0))] 0 0
                    refine mp_run hF mp_tabX3_ok [mp_h (.ifCond .eq 129) [256]] (by decide +kernel) ?_
                    refine And.intro (fun _ => ?_) (fun c_74 => absurd c_74 (by decide))
                    show mp_W E X 1 256 [(0, .ref a0)] [] [(a0, .inr (3, [.ref a1, .int y0, .ref a2, .int y1, .int y2, .int 1, .int i_1, .int i_63, .int 0, .int y7])), (a1, .inl (E.2.2 1, 1600, .inl f0))] 0 0
                    exact mp_vret hF hQ rfl (Nat.le_of_ble_eq_true rfl) (Nat.le_of_ble_eq_true rfl) [0, 1] (w' := [(a0, .inr (3, [.ref a1, .int y0, .ref a2, .int y1, .int y2, .int 1, .int i_1, .int i_63, .int 0, .int y7])), (a1, .inl (E.2.2 1, 1600, .inl f0))]) rfl rfl ⟨1, i_1, i_63, 0, rfl, (by decide), (by decide), l_2, u_3, l_64, u_65, (by decide), rfl⟩ (by decide +kernel)
                  · skip
                    show mp_W E X 1 127 [(0, .ref a0)] [.int 1] [(a0, .inr (3, [.ref a1, .int y0, .ref a2, .int y1, .int y2, .int 1, .int i_1, .int i_63, .int 0, .int y7])), (a1, .inl (E.2.2 1, 1600, .inl f0))] 0 0
                    refine mp_run hF mp_tabX3_ok [mp_h (.ifCond .eq 129) [256]] (by decide +kernel) ?_
                    refine And.intro (fun c_75 => absurd c_75 (by decide)) (fun _ => ?_)
                    show mp_W E X 1 130 [(0, .ref a0)] [] [(a0, .inr (3, [.ref a1, .int y0, .ref a2, .int y1, .int y2, .int 1, .int i_1, .int i_63, .int 0, .int y7])), (a1, .inl (E.2.2 1, 1600, .inl f0))] 0 0
                    refine mp_run hF mp_tabX3_ok [mp_i (.aload_n 0), mp_i .dup, mp_h (.getfield 35) [16, 0], mp_c (.iconst 1) 1, mp_i .iadd, mp_h (.putfield 35) [16, 0]] (by decide +kernel) ?_
                    refine And.intro rfl ?_
                    refine And.intro rfl (And.intro rfl ?_)
                    intro z_76 h_77
                    have e_78 : z_76.toInt = i_63.toInt + 1 := mp_add (a := i_63.toInt) (b := 1) h_77 rfl (by decide) (by omega) (by omega)
                    refine And.intro rfl (And.intro rfl (And.intro rfl (And.intro rfl (And.intro (Nat.le_of_ble_eq_true rfl) ?_))))
                    show mp_W E X 1 140 [(0, .ref a0)] [] [(a0, .inr (3, [.ref a1, .int y0, .ref a2, .int y1, .int y2, .int 1, .int i_1, .int z_76, .int 0, .int y7])), (a1, .inl (E.2.2 1, 1600, .inl f0))] 0 0
                    refine mp_run hF mp_tabX3_ok [mp_h (.goto (-32)) [108]] (by decide +kernel) ?_
                    show mp_W E X 1 108 [(0, .ref a0)] [] [(a0, .inr (3, [.ref a1, .int y0, .ref a2, .int y1, .int y2, .int 1, .int i_1, .int z_76, .int 0, .int y7])), (a1, .inl (E.2.2 1, 1600, .inl f0))] 0 0
                    exact mp_sub [0] rfl [0, 1] rfl rfl (ih_68 (d_67 - 1) (by omega) z_76 (by omega) (by omega) (by omega))
            exact mp_sub [0] rfl [0, 1] rfl rfl (lp_66 _ i_1 l_2 u_3 (Int.self_le_toNat _))
        · have c_9 : y0.toInt ≤ i_1.toInt := c_9
          show mp_W E X 1 84 [(0, .ref a0)] [] [(a0, .inr (3, [.ref a1, .int y0, .ref a2, .int y1, .int y2, .int y3, .int i_1, .int i_1, .int 0, .int y7])), (a1, .inl (E.2.2 1, 1600, .inl f0))] 0 0
          refine mp_run hF mp_tabX3_ok [mp_i (.aload_n 0), mp_c (.iconst 0) 0, mp_h (.putfield 41) [14, 0]] (by decide +kernel) ?_
          refine And.intro rfl (And.intro rfl (And.intro rfl (And.intro rfl (And.intro (Nat.le_of_ble_eq_true rfl) ?_))))
          show mp_W E X 1 89 [(0, .ref a0)] [] [(a0, .inr (3, [.ref a1, .int y0, .ref a2, .int y1, .int y2, .int 0, .int i_1, .int i_1, .int 0, .int y7])), (a1, .inl (E.2.2 1, 1600, .inl f0))] 0 0
          refine mp_run hF mp_tabX3_ok [mp_h (.goto 167) [256]] (by decide +kernel) ?_
          show mp_W E X 1 256 [(0, .ref a0)] [] [(a0, .inr (3, [.ref a1, .int y0, .ref a2, .int y1, .int y2, .int 0, .int i_1, .int i_1, .int 0, .int y7])), (a1, .inl (E.2.2 1, 1600, .inl f0))] 0 0
          exact mp_vret hF hQ rfl (Nat.le_of_ble_eq_true rfl) (Nat.le_of_ble_eq_true rfl) [0, 1] (w' := [(a0, .inr (3, [.ref a1, .int y0, .ref a2, .int y1, .int y2, .int 0, .int i_1, .int i_1, .int 0, .int y7])), (a1, .inl (E.2.2 1, 1600, .inl f0))]) rfl rfl ⟨0, i_1, i_1, 0, rfl, (by decide), (by decide), l_2, u_3, l_2, u_3, (by decide), rfl⟩ (by decide +kernel)
      · have c_8 : i_1.toInt < y0.toInt := c_8
        show mp_W E X 1 19 [(0, .ref a0)] [] [(a0, .inr (3, [.ref a1, .int y0, .ref a2, .int y1, .int y2, .int y3, .int i_1, .int y5, .int y6, .int y7])), (a1, .inl (E.2.2 1, 1600, .inl f0))] 0 0
        refine mp_run hF mp_tabX3_ok [mp_i (.aload_n 0), mp_h (.getfield 9) [9, 0], mp_i (.aload_n 0), mp_h (.getfield 161) [15, 0], mp_h .baload [1], mp_c (.bipush 32) 32, mp_h (.if_icmp .eq 17) [47]] (by decide +kernel) ?_
        refine And.intro rfl (And.intro rfl ?_)
        refine And.intro rfl (And.intro rfl ?_)
        refine And.intro rfl (And.intro rfl (And.intro (vp_in_iff.mpr (by omega)) ?_))
        intro z_79 h_80
        refine And.intro (fun c_81 => ?_) (fun c_81 => ?_)
        · have c_81 : z_79.toInt = 32 := (congrArg Int32.toInt c_81)
          show mp_W E X 1 47 [(0, .ref a0)] [] [(a0, .inr (3, [.ref a1, .int y0, .ref a2, .int y1, .int y2, .int y3, .int i_1, .int y5, .int y6, .int y7])), (a1, .inl (E.2.2 1, 1600, .inl f0))] 0 0
          refine mp_run hF mp_tabX3_ok [mp_i (.aload_n 0), mp_i .dup, mp_h (.getfield 161) [15, 0], mp_c (.iconst 1) 1, mp_i .iadd, mp_h (.putfield 161) [15, 0]] (by decide +kernel) ?_
          refine And.intro rfl ?_
          refine And.intro rfl (And.intro rfl ?_)
          intro z_82 h_83
          have e_84 : z_82.toInt = i_1.toInt + 1 := mp_add (a := i_1.toInt) (b := 1) h_83 rfl (by decide) (by omega) (by omega)
          refine And.intro rfl (And.intro rfl (And.intro rfl (And.intro rfl (And.intro (Nat.le_of_ble_eq_true rfl) ?_))))
          show mp_W E X 1 57 [(0, .ref a0)] [] [(a0, .inr (3, [.ref a1, .int y0, .ref a2, .int y1, .int y2, .int y3, .int z_82, .int y5, .int y6, .int y7])), (a1, .inl (E.2.2 1, 1600, .inl f0))] 0 0
          refine mp_run hF mp_tabX3_ok [mp_h (.goto (-49)) [8]] (by decide +kernel) ?_
          show mp_W E X 1 8 [(0, .ref a0)] [] [(a0, .inr (3, [.ref a1, .int y0, .ref a2, .int y1, .int y2, .int y3, .int z_82, .int y5, .int y6, .int y7])), (a1, .inl (E.2.2 1, 1600, .inl f0))] 0 0
          exact mp_sub [0] rfl [0, 1] rfl rfl (ih_6 (d_5 - 1) (by omega) z_82 (by omega) (by omega) (by omega))
        · have c_81 : z_79.toInt ≠ 32 := c_81
          show mp_W E X 1 33 [(0, .ref a0)] [] [(a0, .inr (3, [.ref a1, .int y0, .ref a2, .int y1, .int y2, .int y3, .int i_1, .int y5, .int y6, .int y7])), (a1, .inl (E.2.2 1, 1600, .inl f0))] 0 0
          refine mp_run hF mp_tabX3_ok [mp_i (.aload_n 0), mp_h (.getfield 9) [9, 0], mp_i (.aload_n 0), mp_h (.getfield 161) [15, 0], mp_h .baload [1], mp_c (.bipush 10) 10, mp_h (.if_icmp .ne 16) [60]] (by decide +kernel) ?_
          refine And.intro rfl (And.intro rfl ?_)
          refine And.intro rfl (And.intro rfl ?_)
          refine And.intro rfl (And.intro rfl (And.intro (vp_in_iff.mpr (by omega)) ?_))
          intro z_85 h_86
          have k_87 : z_79 = z_85 := h_80.trans h_86.symm
          subst k_87
          refine And.intro (fun c_88 => ?_) (fun c_88 => ?_)
          · have c_88 : z_79.toInt ≠ 10 := c_88
            show mp_W E X 1 60 [(0, .ref a0)] [] [(a0, .inr (3, [.ref a1, .int y0, .ref a2, .int y1, .int y2, .int y3, .int i_1, .int y5, .int y6, .int y7])), (a1, .inl (E.2.2 1, 1600, .inl f0))] 0 0
            refine mp_run hF mp_tabX3_ok [mp_i (.aload_n 0), mp_i (.aload_n 0), mp_h (.getfield 161) [15, 0], mp_h (.putfield 35) [16, 0]] (by decide +kernel) ?_
            refine And.intro rfl (And.intro rfl ?_)
            refine And.intro rfl (And.intro rfl (And.intro rfl (And.intro rfl (And.intro (Nat.le_of_ble_eq_true rfl) ?_))))
            show mp_W E X 1 68 [(0, .ref a0)] [] [(a0, .inr (3, [.ref a1, .int y0, .ref a2, .int y1, .int y2, .int y3, .int i_1, .int i_1, .int y6, .int y7])), (a1, .inl (E.2.2 1, 1600, .inl f0))] 0 0
            refine mp_run hF mp_tabX3_ok [mp_i (.aload_n 0), mp_c (.iconst 0) 0, mp_h (.putfield 158) [17, 0]] (by decide +kernel) ?_
            refine And.intro rfl (And.intro rfl (And.intro rfl (And.intro rfl (And.intro (Nat.le_of_ble_eq_true rfl) ?_))))
            show mp_W E X 1 73 [(0, .ref a0)] [] [(a0, .inr (3, [.ref a1, .int y0, .ref a2, .int y1, .int y2, .int y3, .int i_1, .int i_1, .int 0, .int y7])), (a1, .inl (E.2.2 1, 1600, .inl f0))] 0 0
            refine mp_run hF mp_tabX3_ok [mp_i (.aload_n 0), mp_h (.getfield 161) [15, 0], mp_i (.aload_n 0), mp_h (.getfield 26) [10, 0], mp_h (.if_icmp .lt 11) [92]] (by decide +kernel) ?_
            refine And.intro rfl (And.intro rfl ?_)
            refine And.intro rfl (And.intro rfl ?_)
            refine And.intro (fun c_89 => ?_) (fun c_89 => ?_)
            · have c_89 : i_1.toInt < y0.toInt := c_89
              show mp_W E X 1 92 [(0, .ref a0)] [] [(a0, .inr (3, [.ref a1, .int y0, .ref a2, .int y1, .int y2, .int y3, .int i_1, .int i_1, .int 0, .int y7])), (a1, .inl (E.2.2 1, 1600, .inl f0))] 0 0
              refine mp_run hF mp_tabX3_ok [mp_i (.aload_n 0), mp_i (.aload_n 0), mp_h (.getfield 161) [15, 0]] (by decide +kernel) ?_
              refine And.intro rfl (And.intro rfl ?_)
              show mp_W E X 1 97 [(0, .ref a0)] [.int i_1, .ref a0] [(a0, .inr (3, [.ref a1, .int y0, .ref a2, .int y1, .int y2, .int y3, .int i_1, .int i_1, .int 0, .int y7])), (a1, .inl (E.2.2 1, 1600, .inl f0))] 0 0
              refine mp_callV hF (As := [.int i_1]) (rest := []) (wr := []) (bX3_isLetter_6 E a0 a1 a2 f0 y0 y1 y2 y3 i_1 i_1 0 y7 i_1 l_2 (by omega) l_y0 u_y0 l_2 u_3 l_2 u_3) mp_lkX3_173 0 rfl [0, 1] [] rfl rfl rfl rfl rfl ⟨(Nat.le_of_ble_eq_true rfl), (Nat.le_of_ble_eq_true rfl), (Nat.le_of_ble_eq_true rfl), (Nat.le_of_ble_eq_true rfl)⟩ (Nat.le_of_ble_eq_true rfl) (by decide +kernel) (fun v_90 w_91 h_92 => ?_)
              rcases h_92 with ⟨rfl, rfl⟩ | ⟨rfl, rfl⟩
              · skip
                show mp_W E X 1 100 [(0, .ref a0)] [.int 0] [(a0, .inr (3, [.ref a1, .int y0, .ref a2, .int y1, .int y2, .int y3, .int i_1, .int i_1, .int 0, .int y7])), (a1, .inl (E.2.2 1, 1600, .inl f0))] 0 0
                refine mp_run hF mp_tabX3_ok [mp_h (.ifCond .eq 43) [143]] (by decide +kernel) ?_
                refine And.intro (fun _ => ?_) (fun c_93 => absurd c_93 (by decide))
                show mp_W E X 1 143 [(0, .ref a0)] [] [(a0, .inr (3, [.ref a1, .int y0, .ref a2, .int y1, .int y2, .int y3, .int i_1, .int i_1, .int 0, .int y7])), (a1, .inl (E.2.2 1, 1600, .inl f0))] 0 0
                refine mp_run hF mp_tabX3_ok [mp_i (.aload_n 0), mp_i (.aload_n 0), mp_h (.getfield 161) [15, 0]] (by decide +kernel) ?_
                refine And.intro rfl (And.intro rfl ?_)
                show mp_W E X 1 148 [(0, .ref a0)] [.int i_1, .ref a0] [(a0, .inr (3, [.ref a1, .int y0, .ref a2, .int y1, .int y2, .int y3, .int i_1, .int i_1, .int 0, .int y7])), (a1, .inl (E.2.2 1, 1600, .inl f0))] 0 0
                refine mp_callV hF (As := [.int i_1]) (rest := []) (wr := []) (bX3_isDigit_7 E a0 a1 a2 f0 y0 y1 y2 y3 i_1 i_1 0 y7 i_1 l_2 (by omega) l_y0 u_y0 l_2 u_3 l_2 u_3) mp_lkX3_176 0 rfl [0, 1] [] rfl rfl rfl rfl rfl ⟨(Nat.le_of_ble_eq_true rfl), (Nat.le_of_ble_eq_true rfl), (Nat.le_of_ble_eq_true rfl), (Nat.le_of_ble_eq_true rfl)⟩ (Nat.le_of_ble_eq_true rfl) (by decide +kernel) (fun v_94 w_95 h_96 => ?_)
                rcases h_96 with ⟨rfl, rfl⟩ | ⟨rfl, rfl⟩
                · skip
                  show mp_W E X 1 151 [(0, .ref a0)] [.int 0] [(a0, .inr (3, [.ref a1, .int y0, .ref a2, .int y1, .int y2, .int y3, .int i_1, .int i_1, .int 0, .int y7])), (a1, .inl (E.2.2 1, 1600, .inl f0))] 0 0
                  refine mp_run hF mp_tabX3_ok [mp_h (.ifCond .eq 72) [223]] (by decide +kernel) ?_
                  refine And.intro (fun _ => ?_) (fun c_97 => absurd c_97 (by decide))
                  show mp_W E X 1 223 [(0, .ref a0)] [] [(a0, .inr (3, [.ref a1, .int y0, .ref a2, .int y1, .int y2, .int y3, .int i_1, .int i_1, .int 0, .int y7])), (a1, .inl (E.2.2 1, 1600, .inl f0))] 0 0
                  refine mp_run hF mp_tabX3_ok [mp_i (.aload_n 0), mp_i (.aload_n 0), mp_h (.getfield 9) [9, 0], mp_i (.aload_n 0), mp_h (.getfield 161) [15, 0], mp_h .baload [1], mp_c (.bipush 59) 59, mp_h (.if_icmp .ne 7) [242]] (by decide +kernel) ?_
                  refine And.intro rfl (And.intro rfl ?_)
                  refine And.intro rfl (And.intro rfl ?_)
                  refine And.intro rfl (And.intro rfl (And.intro (vp_in_iff.mpr (by omega)) ?_))
                  intro z_98 h_99
                  have k_100 : z_79 = z_98 := h_80.trans h_99.symm
                  subst k_100
                  refine And.intro (fun c_101 => ?_) (fun c_101 => ?_)
                  · have c_101 : z_79.toInt ≠ 59 := c_101
                    show mp_W E X 1 242 [(0, .ref a0)] [.ref a0] [(a0, .inr (3, [.ref a1, .int y0, .ref a2, .int y1, .int y2, .int y3, .int i_1, .int i_1, .int 0, .int y7])), (a1, .inl (E.2.2 1, 1600, .inl f0))] 0 0
                    refine mp_run hF mp_tabX3_ok [mp_c (.iconst 4) 4, mp_h (.putfield 41) [14, 0]] (by decide +kernel) ?_
                    refine And.intro rfl (And.intro rfl (And.intro rfl (And.intro rfl (And.intro (Nat.le_of_ble_eq_true rfl) ?_))))
                    show mp_W E X 1 246 [(0, .ref a0)] [] [(a0, .inr (3, [.ref a1, .int y0, .ref a2, .int y1, .int y2, .int 4, .int i_1, .int i_1, .int 0, .int y7])), (a1, .inl (E.2.2 1, 1600, .inl f0))] 0 0
                    refine mp_run hF mp_tabX3_ok [mp_i (.aload_n 0), mp_i .dup, mp_h (.getfield 35) [16, 0], mp_c (.iconst 1) 1, mp_i .iadd, mp_h (.putfield 35) [16, 0]] (by decide +kernel) ?_
                    refine And.intro rfl ?_
                    refine And.intro rfl (And.intro rfl ?_)
                    intro z_102 h_103
                    have e_104 : z_102.toInt = i_1.toInt + 1 := mp_add (a := i_1.toInt) (b := 1) h_103 rfl (by decide) (by omega) (by omega)
                    refine And.intro rfl (And.intro rfl (And.intro rfl (And.intro rfl (And.intro (Nat.le_of_ble_eq_true rfl) ?_))))
                    show mp_W E X 1 256 [(0, .ref a0)] [] [(a0, .inr (3, [.ref a1, .int y0, .ref a2, .int y1, .int y2, .int 4, .int i_1, .int z_102, .int 0, .int y7])), (a1, .inl (E.2.2 1, 1600, .inl f0))] 0 0
                    exact mp_vret hF hQ rfl (Nat.le_of_ble_eq_true rfl) (Nat.le_of_ble_eq_true rfl) [0, 1] (w' := [(a0, .inr (3, [.ref a1, .int y0, .ref a2, .int y1, .int y2, .int 4, .int i_1, .int z_102, .int 0, .int y7])), (a1, .inl (E.2.2 1, 1600, .inl f0))]) rfl rfl ⟨4, i_1, z_102, 0, rfl, (by decide), (by decide), l_2, u_3, (by omega), (by omega), (by decide), rfl⟩ (by decide +kernel)
                  · have c_101 : z_79.toInt = 59 := (congrArg Int32.toInt c_101)
                    show mp_W E X 1 238 [(0, .ref a0)] [.ref a0] [(a0, .inr (3, [.ref a1, .int y0, .ref a2, .int y1, .int y2, .int y3, .int i_1, .int i_1, .int 0, .int y7])), (a1, .inl (E.2.2 1, 1600, .inl f0))] 0 0
                    refine mp_run hF mp_tabX3_ok [mp_c (.iconst 3) 3, mp_h (.goto 4) [243], mp_h (.putfield 41) [14, 0]] (by decide +kernel) ?_
                    refine And.intro rfl (And.intro rfl (And.intro rfl (And.intro rfl (And.intro (Nat.le_of_ble_eq_true rfl) ?_))))
                    show mp_W E X 1 246 [(0, .ref a0)] [] [(a0, .inr (3, [.ref a1, .int y0, .ref a2, .int y1, .int y2, .int 3, .int i_1, .int i_1, .int 0, .int y7])), (a1, .inl (E.2.2 1, 1600, .inl f0))] 0 0
                    refine mp_run hF mp_tabX3_ok [mp_i (.aload_n 0), mp_i .dup, mp_h (.getfield 35) [16, 0], mp_c (.iconst 1) 1, mp_i .iadd, mp_h (.putfield 35) [16, 0]] (by decide +kernel) ?_
                    refine And.intro rfl ?_
                    refine And.intro rfl (And.intro rfl ?_)
                    intro z_105 h_106
                    have e_107 : z_105.toInt = i_1.toInt + 1 := mp_add (a := i_1.toInt) (b := 1) h_106 rfl (by decide) (by omega) (by omega)
                    refine And.intro rfl (And.intro rfl (And.intro rfl (And.intro rfl (And.intro (Nat.le_of_ble_eq_true rfl) ?_))))
                    show mp_W E X 1 256 [(0, .ref a0)] [] [(a0, .inr (3, [.ref a1, .int y0, .ref a2, .int y1, .int y2, .int 3, .int i_1, .int z_105, .int 0, .int y7])), (a1, .inl (E.2.2 1, 1600, .inl f0))] 0 0
                    exact mp_vret hF hQ rfl (Nat.le_of_ble_eq_true rfl) (Nat.le_of_ble_eq_true rfl) [0, 1] (w' := [(a0, .inr (3, [.ref a1, .int y0, .ref a2, .int y1, .int y2, .int 3, .int i_1, .int z_105, .int 0, .int y7])), (a1, .inl (E.2.2 1, 1600, .inl f0))]) rfl rfl ⟨3, i_1, z_105, 0, rfl, (by decide), (by decide), l_2, u_3, (by omega), (by omega), (by decide), rfl⟩ (by decide +kernel)
                · skip
                  show mp_W E X 1 151 [(0, .ref a0)] [.int 1] [(a0, .inr (3, [.ref a1, .int y0, .ref a2, .int y1, .int y2, .int y3, .int i_1, .int i_1, .int 0, .int y7])), (a1, .inl (E.2.2 1, 1600, .inl f0))] 0 0
                  refine mp_run hF mp_tabX3_ok [mp_h (.ifCond .eq 72) [223]] (by decide +kernel) ?_
                  refine And.intro (fun c_108 => absurd c_108 (by decide)) (fun _ => ?_)
                  show mp_W E X 1 154 [(0, .ref a0)] [] [(a0, .inr (3, [.ref a1, .int y0, .ref a2, .int y1, .int y2, .int y3, .int i_1, .int i_1, .int 0, .int y7])), (a1, .inl (E.2.2 1, 1600, .inl f0))] 0 0
                  refine mp_run hF mp_tabX3_ok [mp_i (.aload_n 0), mp_c (.iconst 2) 2, mp_h (.putfield 41) [14, 0]] (by decide +kernel) ?_
                  refine And.intro rfl (And.intro rfl (And.intro rfl (And.intro rfl (And.intro (Nat.le_of_ble_eq_true rfl) ?_))))
                  show mp_W E X 1 159 [(0, .ref a0)] [] [(a0, .inr (3, [.ref a1, .int y0, .ref a2, .int y1, .int y2, .int 2, .int i_1, .int i_1, .int 0, .int y7])), (a1, .inl (E.2.2 1, 1600, .inl f0))] 0 0
                  have lp_114 : ∀ (d_115 : Nat) (i_109 : Int32) (i_110 : Int32), 0 ≤ i_109.toInt → i_109.toInt ≤ 1600 → i_110.toInt ≤ 100000000 → y0.toInt - i_109.toInt ≤ (d_115 : Int) → mp_W E X 1 159 [(0, .ref a0)] [] [(a0, .inr (3, [.ref a1, .int y0, .ref a2, .int y1, .int y2, .int 2, .int i_1, .int i_109, .int i_110, .int y7])), (a1, .inl (E.2.2 1, 1600, .inl f0))] 0 0 := by
                    intro d_115
                    induction d_115 using Nat.strongRecOn with
                    | ind d_115 ih_116 =>
                      intro i_109 i_110 l_111 u_112 u_113 hm_117
                      refine mp_run hF mp_tabX3_ok [mp_i (.aload_n 0), mp_h (.getfield 35) [16, 0], mp_i (.aload_n 0), mp_h (.getfield 26) [10, 0], mp_h (.if_icmp .ge 89) [256]] (by decide +kernel) ?_
                      refine And.intro rfl (And.intro rfl ?_)
                      refine And.intro rfl (And.intro rfl ?_)
                      refine And.intro (fun c_118 => ?_) (fun c_118 => ?_)
                      · have c_118 : y0.toInt ≤ i_109.toInt := c_118
                        show mp_W E X 1 256 [(0, .ref a0)] [] [(a0, .inr (3, [.ref a1, .int y0, .ref a2, .int y1, .int y2, .int 2, .int i_1, .int i_109, .int i_110, .int y7])), (a1, .inl (E.2.2 1, 1600, .inl f0))] 0 0
                        exact mp_vret hF hQ rfl (Nat.le_of_ble_eq_true rfl) (Nat.le_of_ble_eq_true rfl) [0, 1] (w' := [(a0, .inr (3, [.ref a1, .int y0, .ref a2, .int y1, .int y2, .int 2, .int i_1, .int i_109, .int i_110, .int y7])), (a1, .inl (E.2.2 1, 1600, .inl f0))]) rfl rfl ⟨2, i_1, i_109, i_110, rfl, (by decide), (by decide), l_2, u_3, l_111, u_112, u_113, rfl⟩ (by decide +kernel)
                      · have c_118 : i_109.toInt < y0.toInt := c_118
                        show mp_W E X 1 170 [(0, .ref a0)] [] [(a0, .inr (3, [.ref a1, .int y0, .ref a2, .int y1, .int y2, .int 2, .int i_1, .int i_109, .int i_110, .int y7])), (a1, .inl (E.2.2 1, 1600, .inl f0))] 0 0
                        refine mp_run hF mp_tabX3_ok [mp_i (.aload_n 0), mp_i (.aload_n 0), mp_h (.getfield 35) [16, 0]] (by decide +kernel) ?_
                        refine And.intro rfl (And.intro rfl ?_)
                        show mp_W E X 1 175 [(0, .ref a0)] [.int i_109, .ref a0] [(a0, .inr (3, [.ref a1, .int y0, .ref a2, .int y1, .int y2, .int 2, .int i_1, .int i_109, .int i_110, .int y7])), (a1, .inl (E.2.2 1, 1600, .inl f0))] 0 0
                        refine mp_callV hF (As := [.int i_109]) (rest := []) (wr := []) (bX3_isDigit_7 E a0 a1 a2 f0 y0 y1 y2 2 i_1 i_109 i_110 y7 i_109 l_111 (by omega) l_y0 u_y0 l_2 u_3 l_111 u_112) mp_lkX3_176 0 rfl [0, 1] [] rfl rfl rfl rfl rfl ⟨(Nat.le_of_ble_eq_true rfl), (Nat.le_of_ble_eq_true rfl), (Nat.le_of_ble_eq_true rfl), (Nat.le_of_ble_eq_true rfl)⟩ (Nat.le_of_ble_eq_true rfl) (by decide +kernel) (fun v_119 w_120 h_121 => ?_)
                        rcases h_121 with ⟨rfl, rfl⟩ | ⟨rfl, rfl⟩
                        · skip
                          show mp_W E X 1 178 [(0, .ref a0)] [.int 0] [(a0, .inr (3, [.ref a1, .int y0, .ref a2, .int y1, .int y2, .int 2, .int i_1, .int i_109, .int i_110, .int y7])), (a1, .inl (E.2.2 1, 1600, .inl f0))] 0 0
                          refine mp_run hF mp_tabX3_ok [mp_h (.ifCond .eq 78) [256]] (by decide +kernel) ?_
                          refine And.intro (fun _ => ?_) (fun c_122 => absurd c_122 (by decide))
                          show mp_W E X 1 256 [(0, .ref a0)] [] [(a0, .inr (3, [.ref a1, .int y0, .ref a2, .int y1, .int y2, .int 2, .int i_1, .int i_109, .int i_110, .int y7])), (a1, .inl (E.2.2 1, 1600, .inl f0))] 0 0
                          exact mp_vret hF hQ rfl (Nat.le_of_ble_eq_true rfl) (Nat.le_of_ble_eq_true rfl) [0, 1] (w' := [(a0, .inr (3, [.ref a1, .int y0, .ref a2, .int y1, .int y2, .int 2, .int i_1, .int i_109, .int i_110, .int y7])), (a1, .inl (E.2.2 1, 1600, .inl f0))]) rfl rfl ⟨2, i_1, i_109, i_110, rfl, (by decide), (by decide), l_2, u_3, l_111, u_112, u_113, rfl⟩ (by decide +kernel)
                        · skip
                          show mp_W E X 1 178 [(0, .ref a0)] [.int 1] [(a0, .inr (3, [.ref a1, .int y0, .ref a2, .int y1, .int y2, .int 2, .int i_1, .int i_109, .int i_110, .int y7])), (a1, .inl (E.2.2 1, 1600, .inl f0))] 0 0
                          refine mp_run hF mp_tabX3_ok [mp_h (.ifCond .eq 78) [256]] (by decide +kernel) ?_
                          refine And.intro (fun c_123 => absurd c_123 (by decide)) (fun _ => ?_)
                          show mp_W E X 1 181 [(0, .ref a0)] [] [(a0, .inr (3, [.ref a1, .int y0, .ref a2, .int y1, .int y2, .int 2, .int i_1, .int i_109, .int i_110, .int y7])), (a1, .inl (E.2.2 1, 1600, .inl f0))] 0 0
                          refine mp_run hF mp_tabX3_ok [mp_i (.aload_n 0), mp_c (.ldc 179) 100000000, mp_c (.bipush 10) 10, mp_i (.aload_n 0), mp_h (.getfield 158) [17, 0], mp_i .imul, mp_i (.aload_n 0), mp_h (.getfield 9) [9, 0], mp_i (.aload_n 0), mp_h (.getfield 35) [16, 0], mp_h .baload [1], mp_i .iadd, mp_c (.bipush 48) 48, mp_i .isub] (by decide +kernel) ?_
                          refine And.intro rfl (And.intro rfl ?_)
                          intro z_124 h_125
                          refine And.intro rfl (And.intro rfl ?_)
                          refine And.intro rfl (And.intro rfl ?_)
                          refine And.intro rfl (And.intro rfl (And.intro (vp_in_iff.mpr (by omega)) ?_))
                          intro z_127 h_128
                          intro z_129 h_130
                          intro z_132 h_133
                          have e_134 := mp_bnd z_129
                          show mp_W E X 1 204 [(0, .ref a0)] [.int z_132, .int 100000000, .ref a0] [(a0, .inr (3, [.ref a1, .int y0, .ref a2, .int y1, .int y2, .int 2, .int i_1, .int i_109, .int i_110, .int y7])), (a1, .inl (E.2.2 1, 1600, .inl f0))] 0 0
                          refine mp_mmin hF (idx := 180) (mp_gm (j := 2218) (by decide +kernel)) (mp_gm (j := 2219) (by decide +kernel)) (mp_gm (j := 1013) (by decide +kernel)) (mp_gm (j := 2220) (by decide +kernel)) ⟨(Nat.le_of_ble_eq_true rfl), (Nat.le_of_ble_eq_true rfl), (Nat.le_of_ble_eq_true rfl), (Nat.le_of_ble_eq_true rfl)⟩ (by decide +kernel) (fun z_136 m_137 m_138 m_139 => ?_)
                          have m_138 : z_136.toInt ≤ 100000000 := m_138
                          have m_139 : z_136.toInt ≤ z_132.toInt := m_139
                          have m_137 : z_136.toInt = 100000000 ∨ z_136.toInt = z_132.toInt := m_137
                          show mp_W E X 1 207 [(0, .ref a0)] [.int z_136, .ref a0] [(a0, .inr (3, [.ref a1, .int y0, .ref a2, .int y1, .int y2, .int 2, .int i_1, .int i_109, .int i_110, .int y7])), (a1, .inl (E.2.2 1, 1600, .inl f0))] 0 0
                          refine mp_run hF mp_tabX3_ok [mp_h (.putfield 158) [17, 0]] (by decide +kernel) ?_
                          refine And.intro rfl (And.intro rfl (And.intro rfl (And.intro rfl (And.intro (Nat.le_of_ble_eq_true rfl) ?_))))
                          show mp_W E X 1 210 [(0, .ref a0)] [] [(a0, .inr (3, [.ref a1, .int y0, .ref a2, .int y1, .int y2, .int 2, .int i_1, .int i_109, .int z_136, .int y7])), (a1, .inl (E.2.2 1, 1600, .inl f0))] 0 0
                          refine mp_run hF mp_tabX3_ok [mp_i (.aload_n 0), mp_i .dup, mp_h (.getfield 35) [16, 0], mp_c (.iconst 1) 1, mp_i .iadd, mp_h (.putfield 35) [16, 0]] (by decide +kernel) ?_
                          refine And.intro rfl ?_
                          refine And.intro rfl (And.intro rfl ?_)
                          intro z_140 h_141
                          have e_142 : z_140.toInt = i_109.toInt + 1 := mp_add (a := i_109.toInt) (b := 1) h_141 rfl (by decide) (by omega) (by omega)
                          refine And.intro rfl (And.intro rfl (And.intro rfl (And.intro rfl (And.intro (Nat.le_of_ble_eq_true rfl) ?_))))
                          show mp_W E X 1 220 [(0, .ref a0)] [] [(a0, .inr (3, [.ref a1, .int y0, .ref a2, .int y1, .int y2, .int 2, .int i_1, .int z_140, .int z_136, .int y7])), (a1, .inl (E.2.2 1, 1600, .inl f0))] 0 0
                          refine mp_run hF mp_tabX3_ok [mp_h (.goto (-61)) [159]] (by decide +kernel) ?_
                          show mp_W E X 1 159 [(0, .ref a0)] [] [(a0, .inr (3, [.ref a1, .int y0, .ref a2, .int y1, .int y2, .int 2, .int i_1, .int z_140, .int z_136, .int y7])), (a1, .inl (E.2.2 1, 1600, .inl f0))] 0 0
                          exact mp_sub [0] rfl [0, 1] rfl rfl (ih_116 (d_115 - 1) (by omega) z_140 z_136 (by omega) (by omega) (by omega) (by omega))
                  exact mp_sub [0] rfl [0, 1] rfl rfl (lp_114 _ i_1 0 l_2 u_3 (by decide) (Int.self_le_toNat _))
              · skip
                show mp_W E X 1 100 [(0, .ref a0)] [.int 1] [(a0, .inr (3, [.ref a1, .int y0, .ref a2, .int y1, .int y2, .int y3, .int i_1, .int i_1, .int 0, .int y7])), (a1, .inl (E.2.2 1, 1600, .inl f0))] 0 0
                refine mp_run hF mp_tabX3_ok [mp_h (.ifCond .eq 43) [143]] (by decide +kernel) ?_
                refine And.intro (fun c_143 => absurd c_143 (by decide)) (fun _ => ?_)
                show mp_W E X 1 103 [(0, .ref a0)] [] [(a0, .inr (3, [.ref a1, .int y0, .ref a2, .int y1, .int y2, .int y3, .int i_1, .int i_1, .int 0, .int y7])), (a1, .inl (E.2.2 1, 1600, .inl f0))] 0 0
                refine mp_run hF mp_tabX3_ok [mp_i (.aload_n 0), mp_c (.iconst 1) 1, mp_h (.putfield 41) [14, 0]] (by decide +kernel) ?_
                refine And.intro rfl (And.intro rfl (And.intro rfl (And.intro rfl (And.intro (Nat.le_of_ble_eq_true rfl) ?_))))
                show mp_W E X 1 108 [(0, .ref a0)] [] [(a0, .inr (3, [.ref a1, .int y0, .ref a2, .int y1, .int y2, .int 1, .int i_1, .int i_1, .int 0, .int y7])), (a1, .inl (E.2.2 1, 1600, .inl f0))] 0 0
                have lp_147 : ∀ (d_148 : Nat) (i_144 : Int32), 0 ≤ i_144.toInt → i_144.toInt ≤ 1600 → y0.toInt - i_144.toInt ≤ (d_148 : Int) → mp_W E X 1 108 [(0, .ref a0)] [] [(a0, .inr (3, [.ref a1, .int y0, .ref a2, .int y1, .int y2, .int 1, .int i_1, .int i_144, .int 0, .int y7])), (a1, .inl (E.2.2 1, 1600, .inl f0))] 0 0 := by
                  intro d_148
                  induction d_148 using Nat.strongRecOn with
                  | ind d_148 ih_149 =>
                    intro i_144 l_145 u_146 hm_150
                    refine mp_run hF mp_tabX3_ok [mp_i (.aload_n 0), mp_h (.getfield 35) [16, 0], mp_i (.aload_n 0), mp_h (.getfield 26) [10, 0], mp_h (.if_icmp .ge 140) [256]] (by decide +kernel) ?_
                    refine And.intro rfl (And.intro rfl ?_)
                    refine And.intro rfl (And.intro rfl ?_)
                    refine And.intro (fun c_151 => ?_) (fun c_151 => ?_)
                    · have c_151 : y0.toInt ≤ i_144.toInt := c_151
                      show mp_W E X 1 256 [(0, .ref a0)] [] [(a0, .inr (3, [.ref a1, .int y0, .ref a2, .int y1, .int y2, .int 1, .int i_1, .int i_144, .int 0, .int y7])), (a1, .inl (E.2.2 1, 1600, .inl f0))] 0 0
                      exact mp_vret hF hQ rfl (Nat.le_of_ble_eq_true rfl) (Nat.le_of_ble_eq_true rfl) [0, 1] (w' := [(a0, .inr (3, [.ref a1, .int y0, .ref a2, .int y1, .int y2, .int 1, .int i_1, .int i_144, .int 0, .int y7])), (a1, .inl (E.2.2 1, 1600, .inl f0))]) rfl rfl ⟨1, i_1, i_144, 0, rfl, (by decide), (by decide), l_2, u_3, l_145, u_146, (by decide), rfl⟩ (by decide +kernel)
                    · have c_151 : i_144.toInt < y0.toInt := c_151
                      show mp_W E X 1 119 [(0, .ref a0)] [] [(a0, .inr (3, [.ref a1, .int y0, .ref a2, .int y1, .int y2, .int 1, .int i_1, .int i_144, .int 0, .int y7])), (a1, .inl (E.2.2 1, 1600, .inl f0))] 0 0
                      refine mp_run hF mp_tabX3_ok [mp_i (.aload_n 0), mp_i (.aload_n 0), mp_h (.getfield 35) [16, 0]] (by decide +kernel) ?_
                      refine And.intro rfl (And.intro rfl ?_)
                      show mp_W E X 1 124 [(0, .ref a0)] [.int i_144, .ref a0] [(a0, .inr (3, [.ref a1, .int y0, .ref a2, .int y1, .int y2, .int 1, .int i_1, .int i_144, .int 0, .int y7])), (a1, .inl (E.2.2 1, 1600, .inl f0))] 0 0
                      refine mp_callV hF (As := [.int i_144]) (rest := []) (wr := []) (bX3_isLetter_6 E a0 a1 a2 f0 y0 y1 y2 1 i_1 i_144 0 y7 i_144 l_145 (by omega) l_y0 u_y0 l_2 u_3 l_145 u_146) mp_lkX3_173 0 rfl [0, 1] [] rfl rfl rfl rfl rfl ⟨(Nat.le_of_ble_eq_true rfl), (Nat.le_of_ble_eq_true rfl), (Nat.le_of_ble_eq_true rfl), (Nat.le_of_ble_eq_true rfl)⟩ (Nat.le_of_ble_eq_true rfl) (by decide +kernel) (fun v_152 w_153 h_154 => ?_)
                      rcases h_154 with ⟨rfl, rfl⟩ | ⟨rfl, rfl⟩
                      · skip
                        show mp_W E X 1 127 [(0, .ref a0)] [.int 0] [(a0, .inr (3, [.ref a1, .int y0, .ref a2, .int y1, .int y2, .int 1, .int i_1, .int i_144, .int 0, .int y7])), (a1, .inl (E.2.2 1, 1600, .inl f0))] 0 0
                        refine mp_run hF mp_tabX3_ok [mp_h (.ifCond .eq 129) [256]] (by decide +kernel) ?_
                        refine And.intro (fun _ => ?_) (fun c_155 => absurd c_155 (by decide))
                        show mp_W E X 1 256 [(0, .ref a0)] [] [(a0, .inr (3, [.ref a1, .int y0, .ref a2, .int y1, .int y2, .int 1, .int i_1, .int i_144, .int 0, .int y7])), (a1, .inl (E.2.2 1, 1600, .inl f0))] 0 0
                        exact mp_vret hF hQ rfl (Nat.le_of_ble_eq_true rfl) (Nat.le_of_ble_eq_true rfl) [0, 1] (w' := [(a0, .inr (3, [.ref a1, .int y0, .ref a2, .int y1, .int y2, .int 1, .int i_1, .int i_144, .int 0, .int y7])), (a1, .inl (E.2.2 1, 1600, .inl f0))]) rfl rfl ⟨1, i_1, i_144, 0, rfl, (by decide), (by decide), l_2, u_3, l_145, u_146, (by decide), rfl⟩ (by decide +kernel)
                      · skip
                        show mp_W E X 1 127 [(0, .ref a0)] [.int 1] [(a0, .inr (3, [.ref a1, .int y0, .ref a2, .int y1, .int y2, .int 1, .int i_1, .int i_144, .int 0, .int y7])), (a1, .inl (E.2.2 1, 1600, .inl f0))] 0 0
                        refine mp_run hF mp_tabX3_ok [mp_h (.ifCond .eq 129) [256]] (by decide +kernel) ?_
                        refine And.intro (fun c_156 => absurd c_156 (by decide)) (fun _ => ?_)
                        show mp_W E X 1 130 [(0, .ref a0)] [] [(a0, .inr (3, [.ref a1, .int y0, .ref a2, .int y1, .int y2, .int 1, .int i_1, .int i_144, .int 0, .int y7])), (a1, .inl (E.2.2 1, 1600, .inl f0))] 0 0
                        refine mp_run hF mp_tabX3_ok [mp_i (.aload_n 0), mp_i .dup, mp_h (.getfield 35) [16, 0], mp_c (.iconst 1) 1, mp_i .iadd, mp_h (.putfield 35) [16, 0]] (by decide +kernel) ?_
                        refine And.intro rfl ?_
                        refine And.intro rfl (And.intro rfl ?_)
                        intro z_157 h_158
                        have e_159 : z_157.toInt = i_144.toInt + 1 := mp_add (a := i_144.toInt) (b := 1) h_158 rfl (by decide) (by omega) (by omega)
                        refine And.intro rfl (And.intro rfl (And.intro rfl (And.intro rfl (And.intro (Nat.le_of_ble_eq_true rfl) ?_))))
                        show mp_W E X 1 140 [(0, .ref a0)] [] [(a0, .inr (3, [.ref a1, .int y0, .ref a2, .int y1, .int y2, .int 1, .int i_1, .int z_157, .int 0, .int y7])), (a1, .inl (E.2.2 1, 1600, .inl f0))] 0 0
                        refine mp_run hF mp_tabX3_ok [mp_h (.goto (-32)) [108]] (by decide +kernel) ?_
                        show mp_W E X 1 108 [(0, .ref a0)] [] [(a0, .inr (3, [.ref a1, .int y0, .ref a2, .int y1, .int y2, .int 1, .int i_1, .int z_157, .int 0, .int y7])), (a1, .inl (E.2.2 1, 1600, .inl f0))] 0 0
                        exact mp_sub [0] rfl [0, 1] rfl rfl (ih_149 (d_148 - 1) (by omega) z_157 (by omega) (by omega) (by omega))
                exact mp_sub [0] rfl [0, 1] rfl rfl (lp_147 _ i_1 l_2 u_3 (Int.self_le_toNat _))
            · have c_89 : y0.toInt ≤ i_1.toInt := c_89
              show mp_W E X 1 84 [(0, .ref a0)] [] [(a0, .inr (3, [.ref a1, .int y0, .ref a2, .int y1, .int y2, .int y3, .int i_1, .int i_1, .int 0, .int y7])), (a1, .inl (E.2.2 1, 1600, .inl f0))] 0 0
              refine mp_run hF mp_tabX3_ok [mp_i (.aload_n 0), mp_c (.iconst 0) 0, mp_h (.putfield 41) [14, 0]] (by decide +kernel) ?_
              refine And.intro rfl (And.intro rfl (And.intro rfl (And.intro rfl (And.intro (Nat.le_of_ble_eq_true rfl) ?_))))
              show mp_W E X 1 89 [(0, .ref a0)] [] [(a0, .inr (3, [.ref a1, .int y0, .ref a2, .int y1, .int y2, .int 0, .int i_1, .int i_1, .int 0, .int y7])), (a1, .inl (E.2.2 1, 1600, .inl f0))] 0 0
              refine mp_run hF mp_tabX3_ok [mp_h (.goto 167) [256]] (by decide +kernel) ?_
              show mp_W E X 1 256 [(0, .ref a0)] [] [(a0, .inr (3, [.ref a1, .int y0, .ref a2, .int y1, .int y2, .int 0, .int i_1, .int i_1, .int 0, .int y7])), (a1, .inl (E.2.2 1, 1600, .inl f0))] 0 0
              exact mp_vret hF hQ rfl (Nat.le_of_ble_eq_true rfl) (Nat.le_of_ble_eq_true rfl) [0, 1] (w' := [(a0, .inr (3, [.ref a1, .int y0, .ref a2, .int y1, .int y2, .int 0, .int i_1, .int i_1, .int 0, .int y7])), (a1, .inl (E.2.2 1, 1600, .inl f0))]) rfl rfl ⟨0, i_1, i_1, 0, rfl, (by decide), (by decide), l_2, u_3, l_2, u_3, (by decide), rfl⟩ (by decide +kernel)
          · have c_88 : z_79.toInt = 10 := (congrArg Int32.toInt c_88)
            show mp_W E X 1 47 [(0, .ref a0)] [] [(a0, .inr (3, [.ref a1, .int y0, .ref a2, .int y1, .int y2, .int y3, .int i_1, .int y5, .int y6, .int y7])), (a1, .inl (E.2.2 1, 1600, .inl f0))] 0 0
            refine mp_run hF mp_tabX3_ok [mp_i (.aload_n 0), mp_i .dup, mp_h (.getfield 161) [15, 0], mp_c (.iconst 1) 1, mp_i .iadd, mp_h (.putfield 161) [15, 0]] (by decide +kernel) ?_
            refine And.intro rfl ?_
            refine And.intro rfl (And.intro rfl ?_)
            intro z_160 h_161
            have e_162 : z_160.toInt = i_1.toInt + 1 := mp_add (a := i_1.toInt) (b := 1) h_161 rfl (by decide) (by omega) (by omega)
            refine And.intro rfl (And.intro rfl (And.intro rfl (And.intro rfl (And.intro (Nat.le_of_ble_eq_true rfl) ?_))))
            show mp_W E X 1 57 [(0, .ref a0)] [] [(a0, .inr (3, [.ref a1, .int y0, .ref a2, .int y1, .int y2, .int y3, .int z_160, .int y5, .int y6, .int y7])), (a1, .inl (E.2.2 1, 1600, .inl f0))] 0 0
            refine mp_run hF mp_tabX3_ok [mp_h (.goto (-49)) [8]] (by decide +kernel) ?_
            show mp_W E X 1 8 [(0, .ref a0)] [] [(a0, .inr (3, [.ref a1, .int y0, .ref a2, .int y1, .int y2, .int y3, .int z_160, .int y5, .int y6, .int y7])), (a1, .inl (E.2.2 1, 1600, .inl f0))] 0 0
            exact mp_sub [0] rfl [0, 1] rfl rfl (ih_6 (d_5 - 1) (by omega) z_160 (by omega) (by omega) (by omega))
  exact mp_sub [0] rfl [0, 1] rfl rfl (lp_4 _ y5 l_y5 u_y5 (Int.self_le_toNat _))
set_option maxHeartbeats 4000000 in
set_option maxRecDepth 100000 in
theorem bJ0_coder_7d493_9 (E : mp_E) (si : Nat) (hsi : si < 14) : mp_Ct E yJ0_coder_7d493 cJ0_coder_7d493 1 (some FieldType.byte) 0 0 0 0 [.ref (E.1.2.1 si)] [] (fun v w' => v = some (.int 0) ∧ w' = []) := by
  refine mp_met false (by decide) (by decide) (Nat.le_of_ble_eq_true rfl) (fun X hF hQ => ?_)
  have hF : mp_F E X (RJ0, cJ0_coder_7d493, 1, (0, 0, 0, 0), (some FieldType.byte), false) := hF
  show mp_W E X 1 0 [(0, .ref (E.1.2.1 si))] [] [] 0 0
  refine mp_scmp hF (idx := 38) (mp_gm (j := 2238) (by decide +kernel)) (by decide +kernel) ?_
  show mp_W E X 1 3 [(0, .ref (E.1.2.1 si))] [.int 1] [] 0 0
  refine mp_run hF mp_tab0_ok [mp_h (.ifCond .eq 10) [13]] (by decide +kernel) ?_
  refine And.intro (fun c_1 => absurd c_1 (by decide)) (fun _ => ?_)
  show mp_W E X 1 6 [(0, .ref (E.1.2.1 si))] [] [] 0 0
  refine mp_run hF mp_tab0_ok [mp_i (.aload_n 0)] (by decide +kernel) ?_
  show mp_W E X 1 7 [(0, .ref (E.1.2.1 si))] [.ref (E.1.2.1 si)] [] 0 0
  refine mp_scod hF (idx := 15) hsi (mp_gm (j := 9012) (by decide +kernel)) (by decide +kernel) ?_
  show mp_W E X 1 10 [(0, .ref (E.1.2.1 si))] [.int 0] [] 0 0
  refine mp_run hF mp_tab0_ok [mp_h (.goto 4) [14]] (by decide +kernel) ?_
  show mp_W E X 1 14 [(0, .ref (E.1.2.1 si))] [.int 0] [] 0 0
  exact mp_iret hF hQ rfl (by decide) (Nat.le_of_ble_eq_true rfl) (Nat.le_of_ble_eq_true rfl) [] (w' := []) rfl rfl ⟨rfl, rfl⟩ (by decide +kernel)
set_option maxHeartbeats 4000000 in
set_option maxRecDepth 100000 in
theorem bJ0_length_8abf5_10 (E : mp_E) (si : Nat) (hsi : si < 14) : mp_Ct E yJ0_length_8abf5 cJ0_length_8abf5 1 (some FieldType.int) 1 0 0 20 [.ref (E.1.2.1 si)] [] (fun v w' => ∃ r1 : Int32, v = some (.int r1) ∧ 0 ≤ r1.toInt ∧ r1.toInt ≤ 7 ∧ (r1 = Int32.ofNat (mp_sl.getD si 0)) ∧ (r1.toInt = (mp_sl.getD si 0 : Int)) ∧ w' = []) := by
  refine mp_met false (by decide) (by decide) (Nat.le_of_ble_eq_true rfl) (fun X hF hQ => ?_)
  have hF : mp_F E X (RJ0, cJ0_length_8abf5, 1, (1, 0, 0, 20), (some FieldType.int), false) := hF
  show mp_W E X 1 0 [(0, .ref (E.1.2.1 si))] [] [] 0 0
  refine mp_run hF mp_tab0_ok [mp_i (.aload_n 0)] (by decide +kernel) ?_
  show mp_W E X 1 1 [(0, .ref (E.1.2.1 si))] [.ref (E.1.2.1 si)] [] 0 0
  refine mp_sval hF (idx := 9) hsi (mp_gm (j := 9011) (by decide +kernel)) (by decide +kernel) ?_
  show mp_W E X 1 4 [(0, .ref (E.1.2.1 si))] [.ref (E.1.2.2 si)] [] 0 0
  refine mp_slen hF hsi (by decide +kernel) (fun z_1 h_2 l_3 u_4 => ?_)
  show mp_W E X 1 5 [(0, .ref (E.1.2.1 si))] [.int z_1] [] 0 0
  refine mp_run hF mp_tab0_ok [mp_i (.aload_n 0)] (by decide +kernel) ?_
  show mp_W E X 1 6 [(0, .ref (E.1.2.1 si))] [.ref (E.1.2.1 si), .int z_1] [] 0 0
  refine mp_callVS hF (As := []) (rest := [.int z_1]) (wr := []) (bJ0_coder_7d493_9 E si hsi) mp_lkJ0_335 hsi [] [] rfl rfl rfl rfl rfl ⟨(Nat.le_of_ble_eq_true rfl), (Nat.le_of_ble_eq_true rfl), (Nat.le_of_ble_eq_true rfl), (Nat.le_of_ble_eq_true rfl)⟩ (Nat.le_of_ble_eq_true rfl) (by decide +kernel) (fun v_5 w_6 h_7 => ?_)
  obtain ⟨rfl, rfl⟩ := h_7
  show mp_W E X 1 9 [(0, .ref (E.1.2.1 si))] [.int 0, .int z_1] [] 0 0
  refine mp_run hF mp_tab0_ok [mp_i .ishr] (by decide +kernel) ?_
  intro z_8 h_9
  have k_11 : z_8 = z_1 := mp_shr0 h_9
  have e_12 : z_8.toInt = z_1.toInt := by rw [k_11]
  have k_13 := k_11.trans h_2
  show mp_W E X 1 10 [(0, .ref (E.1.2.1 si))] [.int z_8] [] 0 0
  exact mp_iret hF hQ rfl rfl (Nat.le_of_ble_eq_true rfl) (Nat.le_of_ble_eq_true rfl) [] (w' := []) rfl rfl ⟨z_8, rfl, (by omega), (by omega), k_13, (by rw [k_13]; exact (mp_slen_ok si hsi).2.2.1), rfl⟩ (by decide +kernel)
set_option maxHeartbeats 4000000 in
set_option maxRecDepth 100000 in
theorem bJ0_isLatin1_aae02_11 (E : mp_E) (si : Nat) (hsi : si < 14) : mp_Ct E yJ0_isLatin1_aae02 cJ0_isLatin1_aae02 1 (some FieldType.boolean) 0 0 0 0 [.ref (E.1.2.1 si)] [] (fun v w' => v = some (.int 1) ∧ w' = []) := by
  refine mp_met false (by decide) (by decide) (Nat.le_of_ble_eq_true rfl) (fun X hF hQ => ?_)
  have hF : mp_F E X (RJ0, cJ0_isLatin1_aae02, 1, (0, 0, 0, 0), (some FieldType.boolean), false) := hF
  show mp_W E X 1 0 [(0, .ref (E.1.2.1 si))] [] [] 0 0
  refine mp_scmp hF (idx := 38) (mp_gm (j := 2238) (by decide +kernel)) (by decide +kernel) ?_
  show mp_W E X 1 3 [(0, .ref (E.1.2.1 si))] [.int 1] [] 0 0
  refine mp_run hF mp_tab0_ok [mp_h (.ifCond .eq 14) [17]] (by decide +kernel) ?_
  refine And.intro (fun c_1 => absurd c_1 (by decide)) (fun _ => ?_)
  show mp_W E X 1 6 [(0, .ref (E.1.2.1 si))] [] [] 0 0
  refine mp_run hF mp_tab0_ok [mp_i (.aload_n 0)] (by decide +kernel) ?_
  show mp_W E X 1 7 [(0, .ref (E.1.2.1 si))] [.ref (E.1.2.1 si)] [] 0 0
  refine mp_scod hF (idx := 15) hsi (mp_gm (j := 9012) (by decide +kernel)) (by decide +kernel) ?_
  show mp_W E X 1 10 [(0, .ref (E.1.2.1 si))] [.int 0] [] 0 0
  refine mp_run hF mp_tab0_ok [mp_h (.ifCond .ne 7) [17]] (by decide +kernel) ?_
  refine And.intro (fun c_2 => absurd c_2 (by decide)) (fun _ => ?_)
  show mp_W E X 1 13 [(0, .ref (E.1.2.1 si))] [] [] 0 0
  refine mp_run hF mp_tab0_ok [mp_c (.iconst 1) 1, mp_h (.goto 4) [18]] (by decide +kernel) ?_
  show mp_W E X 1 18 [(0, .ref (E.1.2.1 si))] [.int 1] [] 0 0
  exact mp_iret hF hQ rfl (by decide) (Nat.le_of_ble_eq_true rfl) (Nat.le_of_ble_eq_true rfl) [] (w' := []) rfl rfl ⟨rfl, rfl⟩ (by decide +kernel)
set_option maxHeartbeats 4000000 in
set_option maxRecDepth 100000 in
theorem bJ3_checkIndex_8e157_12 (E : mp_E) (x0 : Int32) (x1 : Int32) (l_x0 : 0 ≤ x0.toInt) (u_x0 : x0.toInt ≤ 6) (l_x1 : 0 ≤ x1.toInt) (u_x1 : x1.toInt ≤ 7) (q0 : x0.toInt < x1.toInt) : mp_Ct E yJ3_checkIndex_8e157 cJ3_checkIndex_8e157 3 (some FieldType.int) 0 0 0 0 [.int x0, .int x1, .null] [] (fun v w' => v = some (.int x0) ∧ w' = []) := by
  refine mp_met false (by decide) (by decide) (Nat.le_of_ble_eq_true rfl) (fun X hF hQ => ?_)
  have hF : mp_F E X (RJ3, cJ3_checkIndex_8e157, 3, (0, 0, 0, 0), (some FieldType.int), false) := hF
  show mp_W E X 3 0 [(0, .int x0), (1, .int x1), (2, .null)] [] [] 0 0
  refine mp_run hF mp_tab0_ok [mp_i (.iload_n 0), mp_h (.ifCond .lt 8) [9]] (by decide +kernel) ?_
  refine And.intro (fun c_1 => ?_) (fun c_1 => ?_)
  · have c_1 : x0.toInt < 0 := c_1
    exfalso; omega
  · have c_1 : 0 ≤ x0.toInt := c_1
    show mp_W E X 3 4 [(0, .int x0), (1, .int x1), (2, .null)] [] [] 0 0
    refine mp_run hF mp_tab0_ok [mp_i (.iload_n 0), mp_i (.iload_n 1), mp_h (.if_icmp .lt 10) [16]] (by decide +kernel) ?_
    refine And.intro (fun c_2 => ?_) (fun c_2 => ?_)
    · have c_2 : x0.toInt < x1.toInt := c_2
      show mp_W E X 3 16 [(0, .int x0), (1, .int x1), (2, .null)] [] [] 0 0
      refine mp_run hF mp_tab0_ok [mp_i (.iload_n 0)] (by decide +kernel) ?_
      show mp_W E X 3 17 [(0, .int x0), (1, .int x1), (2, .null)] [.int x0] [] 0 0
      exact mp_iret hF hQ rfl rfl (Nat.le_of_ble_eq_true rfl) (Nat.le_of_ble_eq_true rfl) [] (w' := []) rfl rfl ⟨rfl, rfl⟩ (by decide +kernel)
    · have c_2 : x1.toInt ≤ x0.toInt := c_2
      exfalso; omega
set_option maxHeartbeats 4000000 in
set_option maxRecDepth 100000 in
theorem bJ3_checkIndex_8e157_13 (E : mp_E) (a0 : Nat) (x0 : Int32) (x1 : Int32) (l_x0 : 0 ≤ x0.toInt) (u_x0 : x0.toInt ≤ 6) (l_x1 : 0 ≤ x1.toInt) (u_x1 : x1.toInt ≤ 7) (q0 : x0.toInt < x1.toInt) : mp_Ct E yJ3_checkIndex_8e157 cJ3_checkIndex_8e157 3 (some FieldType.int) 0 0 0 0 [.int x0, .int x1, .ref a0] [] (fun v w' => v = some (.int x0) ∧ w' = []) := by
  refine mp_met false (by decide) (by decide) (Nat.le_of_ble_eq_true rfl) (fun X hF hQ => ?_)
  have hF : mp_F E X (RJ3, cJ3_checkIndex_8e157, 3, (0, 0, 0, 0), (some FieldType.int), false) := hF
  show mp_W E X 3 0 [(0, .int x0), (1, .int x1), (2, .ref a0)] [] [] 0 0
  refine mp_run hF mp_tab0_ok [mp_i (.iload_n 0), mp_h (.ifCond .lt 8) [9]] (by decide +kernel) ?_
  refine And.intro (fun c_1 => ?_) (fun c_1 => ?_)
  · have c_1 : x0.toInt < 0 := c_1
    exfalso; omega
  · have c_1 : 0 ≤ x0.toInt := c_1
    show mp_W E X 3 4 [(0, .int x0), (1, .int x1), (2, .ref a0)] [] [] 0 0
    refine mp_run hF mp_tab0_ok [mp_i (.iload_n 0), mp_i (.iload_n 1), mp_h (.if_icmp .lt 10) [16]] (by decide +kernel) ?_
    refine And.intro (fun c_2 => ?_) (fun c_2 => ?_)
    · have c_2 : x0.toInt < x1.toInt := c_2
      show mp_W E X 3 16 [(0, .int x0), (1, .int x1), (2, .ref a0)] [] [] 0 0
      refine mp_run hF mp_tab0_ok [mp_i (.iload_n 0)] (by decide +kernel) ?_
      show mp_W E X 3 17 [(0, .int x0), (1, .int x1), (2, .ref a0)] [.int x0] [] 0 0
      exact mp_iret hF hQ rfl rfl (Nat.le_of_ble_eq_true rfl) (Nat.le_of_ble_eq_true rfl) [] (w' := []) rfl rfl ⟨rfl, rfl⟩ (by decide +kernel)
    · have c_2 : x1.toInt ≤ x0.toInt := c_2
      exfalso; omega
set_option maxHeartbeats 4000000 in
set_option maxRecDepth 100000 in
theorem bJ0_checkIndex_df160_14 (E : mp_E) (x0 : Int32) (x1 : Int32) (l_x0 : 0 ≤ x0.toInt) (u_x0 : x0.toInt ≤ 6) (l_x1 : 0 ≤ x1.toInt) (u_x1 : x1.toInt ≤ 7) (q0 : x0.toInt < x1.toInt) : mp_Ct E yJ0_checkIndex_df160 cJ0_checkIndex_df160 2 none 1 0 0 22 [.int x0, .int x1] [] (fun v w' => v = none ∧ w' = []) := by
  refine mp_met false (by decide) (by decide) (Nat.le_of_ble_eq_true rfl) (fun X hF hQ => ?_)
  have hF : mp_F E X (RJ0, cJ0_checkIndex_df160, 2, (1, 0, 0, 22), none, false) := hF
  show mp_W E X 2 0 [(0, .int x0), (1, .int x1)] [] [] 0 0
  refine mp_run hF mp_tab0_ok [mp_i (.iload_n 0), mp_i (.iload_n 1)] (by decide +kernel) ?_
  show mp_W E X 2 2 [(0, .int x0), (1, .int x1)] [.int x1, .int x0] [] 0 0
  refine mp_sfor hF (idx := 1053) (mp_gm (j := 3014) (by decide +kernel)) (by decide +kernel) ?_ (fun t_1 => ?_)
  · skip
    show mp_W E X 2 5 [(0, .int x0), (1, .int x1)] [.null, .int x1, .int x0] [] 0 0
    refine mp_callS hF (As := [.int x0, .int x1, .null]) (rest := []) (wr := []) (bJ3_checkIndex_8e157_12 E x0 x1 l_x0 u_x0 l_x1 u_x1 q0) mp_lkJ0_1059 [] [] rfl rfl rfl rfl rfl ⟨(Nat.le_of_ble_eq_true rfl), (Nat.le_of_ble_eq_true rfl), (Nat.le_of_ble_eq_true rfl), (Nat.le_of_ble_eq_true rfl)⟩ (Nat.le_of_ble_eq_true rfl) (by decide +kernel) (fun v_2 w_3 h_4 => ?_)
    obtain ⟨rfl, rfl⟩ := h_4
    show mp_W E X 2 8 [(0, .int x0), (1, .int x1)] [.int x0] [] 0 0
    refine mp_run hF mp_tab0_ok [mp_i .pop] (by decide +kernel) ?_
    refine And.intro rfl ?_
    show mp_W E X 2 9 [(0, .int x0), (1, .int x1)] [] [] 0 0
    exact mp_vret hF hQ rfl (Nat.le_of_ble_eq_true rfl) (Nat.le_of_ble_eq_true rfl) [] (w' := []) rfl rfl ⟨rfl, rfl⟩ (by decide +kernel)
  · skip
    show mp_W E X 2 5 [(0, .int x0), (1, .int x1)] [.ref t_1, .int x1, .int x0] [] 0 0
    refine mp_callS hF (As := [.int x0, .int x1, .ref t_1]) (rest := []) (wr := []) (bJ3_checkIndex_8e157_13 E t_1 x0 x1 l_x0 u_x0 l_x1 u_x1 q0) mp_lkJ0_1059 [] [] rfl rfl rfl rfl rfl ⟨(Nat.le_of_ble_eq_true rfl), (Nat.le_of_ble_eq_true rfl), (Nat.le_of_ble_eq_true rfl), (Nat.le_of_ble_eq_true rfl)⟩ (Nat.le_of_ble_eq_true rfl) (by decide +kernel) (fun v_5 w_6 h_7 => ?_)
    obtain ⟨rfl, rfl⟩ := h_7
    show mp_W E X 2 8 [(0, .int x0), (1, .int x1)] [.int x0] [] 0 0
    refine mp_run hF mp_tab0_ok [mp_i .pop] (by decide +kernel) ?_
    refine And.intro rfl ?_
    show mp_W E X 2 9 [(0, .int x0), (1, .int x1)] [] [] 0 0
    exact mp_vret hF hQ rfl (Nat.le_of_ble_eq_true rfl) (Nat.le_of_ble_eq_true rfl) [] (w' := []) rfl rfl ⟨rfl, rfl⟩ (by decide +kernel)
set_option maxHeartbeats 4000000 in
set_option maxRecDepth 100000 in
theorem bJ1_charAt_3b067_15 (E : mp_E) (si : Nat) (hsi : si < 14) (x0 : Int32) (l_x0 : 0 ≤ x0.toInt) (u_x0 : x0.toInt ≤ 6) (q0 : x0.toInt < (Int32.ofNat (mp_sl.getD si 0)).toInt) : mp_Ct E yJ1_charAt_3b067 cJ1_charAt_3b067 2 (some FieldType.char) 2 0 0 43 [.ref (E.1.2.2 si), .int x0] [] (fun v w' => ∃ r1 : Int32, v = some (.int r1) ∧ 0 ≤ r1.toInt ∧ r1.toInt ≤ 255 ∧ (r1 = (mp_sb.getD si []).getD x0.toNatClampNeg 0) ∧ w' = []) := by
  refine mp_met false (by decide) (by decide) (Nat.le_of_ble_eq_true rfl) (fun X hF hQ => ?_)
  have hF : mp_F E X (RJ1, cJ1_charAt_3b067, 2, (2, 0, 0, 43), (some FieldType.char), false) := hF
  show mp_W E X 2 0 [(0, .ref (E.1.2.2 si)), (1, .int x0)] [] [] 0 0
  refine mp_run hF mp_tab0_ok [mp_i (.iload_n 1), mp_i (.aload_n 0)] (by decide +kernel) ?_
  show mp_W E X 2 2 [(0, .ref (E.1.2.2 si)), (1, .int x0)] [.ref (E.1.2.2 si), .int x0] [] 0 0
  refine mp_slen hF hsi (by decide +kernel) (fun z_1 h_2 l_3 u_4 => ?_)
  show mp_W E X 2 3 [(0, .ref (E.1.2.2 si)), (1, .int x0)] [.int z_1, .int x0] [] 0 0
  refine mp_callS hF (As := [.int x0, .int z_1]) (rest := []) (wr := []) (bJ0_checkIndex_df160_14 E x0 z_1 l_x0 u_x0 l_3 u_4 (by rw [h_2]; exact q0)) mp_lkJ1_9 [] [] rfl rfl rfl rfl rfl ⟨(Nat.le_of_ble_eq_true rfl), (Nat.le_of_ble_eq_true rfl), (Nat.le_of_ble_eq_true rfl), (Nat.le_of_ble_eq_true rfl)⟩ (Nat.le_of_ble_eq_true rfl) (by decide +kernel) (fun v_5 w_6 h_7 => ?_)
  obtain ⟨rfl, rfl⟩ := h_7
  show mp_W E X 2 6 [(0, .ref (E.1.2.2 si)), (1, .int x0)] [] [] 0 0
  refine mp_run hF mp_tab0_ok [mp_i (.aload_n 0), mp_i (.iload_n 1)] (by decide +kernel) ?_
  show mp_W E X 2 8 [(0, .ref (E.1.2.2 si)), (1, .int x0)] [.int x0, .ref (E.1.2.2 si)] [] 0 0
  refine mp_sld hF hsi (by omega) (by omega) (by decide +kernel) (fun z_8 h_9 => ?_)
  show mp_W E X 2 9 [(0, .ref (E.1.2.2 si)), (1, .int x0)] [.int z_8] [] 0 0
  refine mp_run hF mp_tab0_ok [mp_c (.sipush 255) 255, mp_i .iand] (by decide +kernel) ?_
  intro z_10 h_11
  show mp_W E X 2 13 [(0, .ref (E.1.2.2 si)), (1, .int x0)] [.int z_10] [] 0 0
  refine mp_i2cS hF h_9 h_11 (by decide +kernel) (fun z_13 h_14 l_15 u_16 => ?_)
  show mp_W E X 2 14 [(0, .ref (E.1.2.2 si)), (1, .int x0)] [.int z_13] [] 0 0
  exact mp_iret hF hQ rfl (mp_nar_c (by omega) (by omega)) (Nat.le_of_ble_eq_true rfl) (Nat.le_of_ble_eq_true rfl) [] (w' := []) rfl rfl ⟨z_13, rfl, l_15, u_16, h_14, rfl⟩ (by decide +kernel)
set_option maxHeartbeats 4000000 in
set_option maxRecDepth 100000 in
theorem bJ0_charAt_5068e_16 (E : mp_E) (si : Nat) (hsi : si < 14) (x0 : Int32) (l_x0 : 0 ≤ x0.toInt) (u_x0 : x0.toInt ≤ 6) (q0 : x0.toInt < (Int32.ofNat (mp_sl.getD si 0)).toInt) : mp_Ct E yJ0_charAt_5068e cJ0_charAt_5068e 2 (some FieldType.char) 3 0 0 64 [.ref (E.1.2.1 si), .int x0] [] (fun v w' => ∃ r1 : Int32, v = some (.int r1) ∧ 0 ≤ r1.toInt ∧ r1.toInt ≤ 255 ∧ (r1 = (mp_sb.getD si []).getD x0.toNatClampNeg 0) ∧ w' = []) := by
  refine mp_met false (by decide) (by decide) (Nat.le_of_ble_eq_true rfl) (fun X hF hQ => ?_)
  have hF : mp_F E X (RJ0, cJ0_charAt_5068e, 2, (3, 0, 0, 64), (some FieldType.char), false) := hF
  show mp_W E X 2 0 [(0, .ref (E.1.2.1 si)), (1, .int x0)] [] [] 0 0
  refine mp_run hF mp_tab0_ok [mp_i (.aload_n 0)] (by decide +kernel) ?_
  show mp_W E X 2 1 [(0, .ref (E.1.2.1 si)), (1, .int x0)] [.ref (E.1.2.1 si)] [] 0 0
  refine mp_callVS hF (As := []) (rest := []) (wr := []) (bJ0_isLatin1_aae02_11 E si hsi) mp_lkJ0_492 hsi [] [] rfl rfl rfl rfl rfl ⟨(Nat.le_of_ble_eq_true rfl), (Nat.le_of_ble_eq_true rfl), (Nat.le_of_ble_eq_true rfl), (Nat.le_of_ble_eq_true rfl)⟩ (Nat.le_of_ble_eq_true rfl) (by decide +kernel) (fun v_1 w_2 h_3 => ?_)
  obtain ⟨rfl, rfl⟩ := h_3
  show mp_W E X 2 4 [(0, .ref (E.1.2.1 si)), (1, .int x0)] [.int 1] [] 0 0
  refine mp_run hF mp_tab0_ok [mp_h (.ifCond .eq 12) [16]] (by decide +kernel) ?_
  refine And.intro (fun c_4 => absurd c_4 (by decide)) (fun _ => ?_)
  show mp_W E X 2 7 [(0, .ref (E.1.2.1 si)), (1, .int x0)] [] [] 0 0
  refine mp_run hF mp_tab0_ok [mp_i (.aload_n 0)] (by decide +kernel) ?_
  show mp_W E X 2 8 [(0, .ref (E.1.2.1 si)), (1, .int x0)] [.ref (E.1.2.1 si)] [] 0 0
  refine mp_sval hF (idx := 9) hsi (mp_gm (j := 9011) (by decide +kernel)) (by decide +kernel) ?_
  show mp_W E X 2 11 [(0, .ref (E.1.2.1 si)), (1, .int x0)] [.ref (E.1.2.2 si)] [] 0 0
  refine mp_run hF mp_tab0_ok [mp_i (.iload_n 1)] (by decide +kernel) ?_
  show mp_W E X 2 12 [(0, .ref (E.1.2.1 si)), (1, .int x0)] [.int x0, .ref (E.1.2.2 si)] [] 0 0
  refine mp_callS hF (As := [.ref (E.1.2.2 si), .int x0]) (rest := []) (wr := []) (bJ1_charAt_3b067_15 E si hsi x0 l_x0 u_x0 q0) mp_lkJ0_495 [] [] rfl rfl rfl rfl rfl ⟨(Nat.le_of_ble_eq_true rfl), (Nat.le_of_ble_eq_true rfl), (Nat.le_of_ble_eq_true rfl), (Nat.le_of_ble_eq_true rfl)⟩ (Nat.le_of_ble_eq_true rfl) (by decide +kernel) (fun v_5 w_6 h_7 => ?_)
  obtain ⟨r_8, rfl, l_9, u_10, x_11, rfl⟩ := h_7
  show mp_W E X 2 15 [(0, .ref (E.1.2.1 si)), (1, .int x0)] [.int r_8] [] 0 0
  exact mp_iret hF hQ rfl (mp_nar_c (by omega) (by omega)) (Nat.le_of_ble_eq_true rfl) (Nat.le_of_ble_eq_true rfl) [] (w' := []) rfl rfl ⟨r_8, rfl, l_9, u_10, x_11, rfl⟩ (by decide +kernel)
set_option maxHeartbeats 4000000 in
set_option maxRecDepth 100000 in
theorem bX3_isWord_17 (E : mp_E) (si : Nat) (hsi : si < 14) (a0 a1 a2 : Nat) (f0 : Nat → Int32) (y0 : Int32) (y1 : Int32) (y2 : Int32) (y3 : Int32) (y4 : Int32) (y5 : Int32) (y6 : Int32) (y7 : Int32) (l_y0 : 0 ≤ y0.toInt) (u_y0 : y0.toInt ≤ 1600) (l_y4 : 0 ≤ y4.toInt) (u_y4 : y4.toInt ≤ 1600) (l_y5 : 0 ≤ y5.toInt) (u_y5 : y5.toInt ≤ 1600) : mp_Ct E yX3_isWord cX3_isWord 3 (some FieldType.boolean) 4 0 0 85 [.ref a0, .ref (E.1.2.1 si)] [(a0, .inr (3, [.ref a1, .int y0, .ref a2, .int y1, .int y2, .int y3, .int y4, .int y5, .int y6, .int y7])), (a1, .inl (E.2.2 1, 1600, .inl f0))] (fun v w' => (v = some (.int 0) ∧ w' = [(a0, .inr (3, [.ref a1, .int y0, .ref a2, .int y1, .int y2, .int y3, .int y4, .int y5, .int y6, .int y7])), (a1, .inl (E.2.2 1, 1600, .inl f0))]) ∨ (v = some (.int 1) ∧ y3.toInt = 1 ∧ w' = [(a0, .inr (3, [.ref a1, .int y0, .ref a2, .int y1, .int y2, .int y3, .int y4, .int y5, .int y6, .int y7])), (a1, .inl (E.2.2 1, 1600, .inl f0))])) := by
  refine mp_met false (by decide) (by decide) (Nat.le_of_ble_eq_true rfl) (fun X hF hQ => ?_)
  have hF : mp_F E X (RX3, cX3_isWord, 3, (4, 0, 0, 85), (some FieldType.boolean), false) := hF
  show mp_W E X 3 0 [(0, .ref a0), (1, .ref (E.1.2.1 si))] [] [(a0, .inr (3, [.ref a1, .int y0, .ref a2, .int y1, .int y2, .int y3, .int y4, .int y5, .int y6, .int y7])), (a1, .inl (E.2.2 1, 1600, .inl f0))] 0 0
  refine mp_run hF mp_tabX3_ok [mp_i (.aload_n 0), mp_h (.getfield 41) [14, 0], mp_c (.iconst 1) 1, mp_h (.if_icmp .ne 19) [24]] (by decide +kernel) ?_
  refine And.intro rfl (And.intro rfl ?_)
  refine And.intro (fun c_1 => ?_) (fun c_1 => ?_)
  · have c_1 : y3.toInt ≠ 1 := c_1
    show mp_W E X 3 24 [(0, .ref a0), (1, .ref (E.1.2.1 si))] [] [(a0, .inr (3, [.ref a1, .int y0, .ref a2, .int y1, .int y2, .int y3, .int y4, .int y5, .int y6, .int y7])), (a1, .inl (E.2.2 1, 1600, .inl f0))] 0 0
    refine mp_run hF mp_tabX3_ok [mp_c (.iconst 0) 0] (by decide +kernel) ?_
    show mp_W E X 3 25 [(0, .ref a0), (1, .ref (E.1.2.1 si))] [.int 0] [(a0, .inr (3, [.ref a1, .int y0, .ref a2, .int y1, .int y2, .int y3, .int y4, .int y5, .int y6, .int y7])), (a1, .inl (E.2.2 1, 1600, .inl f0))] 0 0
    exact mp_iret hF hQ rfl (by decide) (Nat.le_of_ble_eq_true rfl) (Nat.le_of_ble_eq_true rfl) [0, 1] (w' := [(a0, .inr (3, [.ref a1, .int y0, .ref a2, .int y1, .int y2, .int y3, .int y4, .int y5, .int y6, .int y7])), (a1, .inl (E.2.2 1, 1600, .inl f0))]) rfl rfl (Or.inl ⟨rfl, rfl⟩) (by decide +kernel)
  · have c_1 : y3.toInt = 1 := (congrArg Int32.toInt c_1)
    show mp_W E X 3 8 [(0, .ref a0), (1, .ref (E.1.2.1 si))] [] [(a0, .inr (3, [.ref a1, .int y0, .ref a2, .int y1, .int y2, .int y3, .int y4, .int y5, .int y6, .int y7])), (a1, .inl (E.2.2 1, 1600, .inl f0))] 0 0
    refine mp_run hF mp_tabX3_ok [mp_i (.aload_n 0), mp_h (.getfield 35) [16, 0], mp_i (.aload_n 0), mp_h (.getfield 161) [15, 0], mp_i .isub, mp_i (.aload_n 1)] (by decide +kernel) ?_
    refine And.intro rfl (And.intro rfl ?_)
    refine And.intro rfl (And.intro rfl ?_)
    intro z_2 h_3
    have e_4 : z_2.toInt = y5.toInt - y4.toInt := mp_subi (a := y5.toInt) (b := y4.toInt) h_3 rfl rfl (by omega) (by omega)
    show mp_W E X 3 18 [(0, .ref a0), (1, .ref (E.1.2.1 si))] [.ref (E.1.2.1 si), .int z_2] [(a0, .inr (3, [.ref a1, .int y0, .ref a2, .int y1, .int y2, .int y3, .int y4, .int y5, .int y6, .int y7])), (a1, .inl (E.2.2 1, 1600, .inl f0))] 0 0
    refine mp_callVS hF (As := []) (rest := [.int z_2]) (wr := [(a0, .inr (3, [.ref a1, .int y0, .ref a2, .int y1, .int y2, .int y3, .int y4, .int y5, .int y6, .int y7])), (a1, .inl (E.2.2 1, 1600, .inl f0))]) (bJ0_length_8abf5_10 E si hsi) mp_lkX3_164 hsi [] [0, 1] rfl rfl rfl rfl rfl ⟨(Nat.le_of_ble_eq_true rfl), (Nat.le_of_ble_eq_true rfl), (Nat.le_of_ble_eq_true rfl), (Nat.le_of_ble_eq_true rfl)⟩ (Nat.le_of_ble_eq_true rfl) (by decide +kernel) (fun v_5 w_6 h_7 => ?_)
    obtain ⟨r_8, rfl, l_9, u_10, x_11, x_12, rfl⟩ := h_7
    show mp_W E X 3 21 [(0, .ref a0), (1, .ref (E.1.2.1 si))] [.int r_8, .int z_2] [(a0, .inr (3, [.ref a1, .int y0, .ref a2, .int y1, .int y2, .int y3, .int y4, .int y5, .int y6, .int y7])), (a1, .inl (E.2.2 1, 1600, .inl f0))] 0 0
    refine mp_run hF mp_tabX3_ok [mp_h (.if_icmp .eq 5) [26]] (by decide +kernel) ?_
    refine And.intro (fun c_13 => ?_) (fun c_13 => ?_)
    · have c_13 : z_2.toInt = r_8.toInt := (congrArg Int32.toInt c_13)
      show mp_W E X 3 26 [(0, .ref a0), (1, .ref (E.1.2.1 si))] [] [(a0, .inr (3, [.ref a1, .int y0, .ref a2, .int y1, .int y2, .int y3, .int y4, .int y5, .int y6, .int y7])), (a1, .inl (E.2.2 1, 1600, .inl f0))] 0 0
      refine mp_run hF mp_tabX3_ok [mp_c (.iconst 0) 0, mp_i (.istore_n 2)] (by decide +kernel) ?_
      show mp_W E X 3 28 [(2, .int 0), (0, .ref a0), (1, .ref (E.1.2.1 si))] [] [(a0, .inr (3, [.ref a1, .int y0, .ref a2, .int y1, .int y2, .int y3, .int y4, .int y5, .int y6, .int y7])), (a1, .inl (E.2.2 1, 1600, .inl f0))] 0 0
      have lp_17 : ∀ (d_18 : Nat) (i_14 : Int32), 0 ≤ i_14.toInt → i_14.toInt ≤ 9 → (mp_sl.getD si 0 : Int) - i_14.toInt ≤ (d_18 : Int) → mp_W E X 3 28 [(2, .int i_14), (0, .ref a0), (1, .ref (E.1.2.1 si))] [] [(a0, .inr (3, [.ref a1, .int y0, .ref a2, .int y1, .int y2, .int y3, .int y4, .int y5, .int y6, .int y7])), (a1, .inl (E.2.2 1, 1600, .inl f0))] 0 0 := by
        intro d_18
        induction d_18 using Nat.strongRecOn with
        | ind d_18 ih_19 =>
          intro i_14 l_15 u_16 hm_20
          refine mp_run hF mp_tabX3_ok [mp_i (.iload_n 2), mp_i (.aload_n 1)] (by decide +kernel) ?_
          show mp_W E X 3 30 [(2, .int i_14), (0, .ref a0), (1, .ref (E.1.2.1 si))] [.ref (E.1.2.1 si), .int i_14] [(a0, .inr (3, [.ref a1, .int y0, .ref a2, .int y1, .int y2, .int y3, .int y4, .int y5, .int y6, .int y7])), (a1, .inl (E.2.2 1, 1600, .inl f0))] 0 0
          refine mp_callVS hF (As := []) (rest := [.int i_14]) (wr := [(a0, .inr (3, [.ref a1, .int y0, .ref a2, .int y1, .int y2, .int y3, .int y4, .int y5, .int y6, .int y7])), (a1, .inl (E.2.2 1, 1600, .inl f0))]) (bJ0_length_8abf5_10 E si hsi) mp_lkX3_164 hsi [] [0, 1] rfl rfl rfl rfl rfl ⟨(Nat.le_of_ble_eq_true rfl), (Nat.le_of_ble_eq_true rfl), (Nat.le_of_ble_eq_true rfl), (Nat.le_of_ble_eq_true rfl)⟩ (Nat.le_of_ble_eq_true rfl) (by decide +kernel) (fun v_21 w_22 h_23 => ?_)
          obtain ⟨r_24, rfl, l_25, u_26, x_27, x_28, rfl⟩ := h_23
          show mp_W E X 3 33 [(2, .int i_14), (0, .ref a0), (1, .ref (E.1.2.1 si))] [.int r_24, .int i_14] [(a0, .inr (3, [.ref a1, .int y0, .ref a2, .int y1, .int y2, .int y3, .int y4, .int y5, .int y6, .int y7])), (a1, .inl (E.2.2 1, 1600, .inl f0))] 0 0
          refine mp_run hF mp_tabX3_ok [mp_h (.if_icmp .ge 30) [63]] (by decide +kernel) ?_
          refine And.intro (fun c_29 => ?_) (fun c_29 => ?_)
          · have c_29 : r_24.toInt ≤ i_14.toInt := c_29
            show mp_W E X 3 63 [(2, .int i_14), (0, .ref a0), (1, .ref (E.1.2.1 si))] [] [(a0, .inr (3, [.ref a1, .int y0, .ref a2, .int y1, .int y2, .int y3, .int y4, .int y5, .int y6, .int y7])), (a1, .inl (E.2.2 1, 1600, .inl f0))] 0 0
            refine mp_run hF mp_tabX3_ok [mp_c (.iconst 1) 1] (by decide +kernel) ?_
            show mp_W E X 3 64 [(2, .int i_14), (0, .ref a0), (1, .ref (E.1.2.1 si))] [.int 1] [(a0, .inr (3, [.ref a1, .int y0, .ref a2, .int y1, .int y2, .int y3, .int y4, .int y5, .int y6, .int y7])), (a1, .inl (E.2.2 1, 1600, .inl f0))] 0 0
            exact mp_iret hF hQ rfl (by decide) (Nat.le_of_ble_eq_true rfl) (Nat.le_of_ble_eq_true rfl) [0, 1] (w' := [(a0, .inr (3, [.ref a1, .int y0, .ref a2, .int y1, .int y2, .int y3, .int y4, .int y5, .int y6, .int y7])), (a1, .inl (E.2.2 1, 1600, .inl f0))]) rfl rfl (Or.inr ⟨rfl, (by first | omega | decide), rfl⟩) (by decide +kernel)
          · have c_29 : i_14.toInt < r_24.toInt := c_29
            show mp_W E X 3 36 [(2, .int i_14), (0, .ref a0), (1, .ref (E.1.2.1 si))] [] [(a0, .inr (3, [.ref a1, .int y0, .ref a2, .int y1, .int y2, .int y3, .int y4, .int y5, .int y6, .int y7])), (a1, .inl (E.2.2 1, 1600, .inl f0))] 0 0
            refine mp_run hF mp_tabX3_ok [mp_i (.aload_n 0), mp_h (.getfield 9) [9, 0], mp_i (.aload_n 0), mp_h (.getfield 161) [15, 0], mp_i (.iload_n 2), mp_i .iadd, mp_h .baload [1], mp_i (.aload_n 1), mp_i (.iload_n 2)] (by decide +kernel) ?_
            refine And.intro rfl (And.intro rfl ?_)
            refine And.intro rfl (And.intro rfl ?_)
            intro z_30 h_31
            have e_32 : z_30.toInt = y4.toInt + i_14.toInt := mp_add (a := y4.toInt) (b := i_14.toInt) h_31 rfl rfl (by omega) (by omega)
            refine And.intro rfl (And.intro rfl (And.intro (vp_in_iff.mpr (by omega)) ?_))
            intro z_33 h_34
            show mp_W E X 3 49 [(2, .int i_14), (0, .ref a0), (1, .ref (E.1.2.1 si))] [.int i_14, .ref (E.1.2.1 si), .int z_33] [(a0, .inr (3, [.ref a1, .int y0, .ref a2, .int y1, .int y2, .int y3, .int y4, .int y5, .int y6, .int y7])), (a1, .inl (E.2.2 1, 1600, .inl f0))] 0 0
            refine mp_callVS hF (As := [.int i_14]) (rest := [.int z_33]) (wr := [(a0, .inr (3, [.ref a1, .int y0, .ref a2, .int y1, .int y2, .int y3, .int y4, .int y5, .int y6, .int y7])), (a1, .inl (E.2.2 1, 1600, .inl f0))]) (bJ0_charAt_5068e_16 E si hsi i_14 l_15 (by omega) (by rw [← x_27]; omega)) mp_lkX3_169 hsi [] [0, 1] rfl rfl rfl rfl rfl ⟨(Nat.le_of_ble_eq_true rfl), (Nat.le_of_ble_eq_true rfl), (Nat.le_of_ble_eq_true rfl), (Nat.le_of_ble_eq_true rfl)⟩ (Nat.le_of_ble_eq_true rfl) (by decide +kernel) (fun v_35 w_36 h_37 => ?_)
            obtain ⟨r_38, rfl, l_39, u_40, x_41, rfl⟩ := h_37
            show mp_W E X 3 52 [(2, .int i_14), (0, .ref a0), (1, .ref (E.1.2.1 si))] [.int r_38, .int z_33] [(a0, .inr (3, [.ref a1, .int y0, .ref a2, .int y1, .int y2, .int y3, .int y4, .int y5, .int y6, .int y7])), (a1, .inl (E.2.2 1, 1600, .inl f0))] 0 0
            refine mp_run hF mp_tabX3_ok [mp_h (.if_icmp .eq 5) [57]] (by decide +kernel) ?_
            refine And.intro (fun c_42 => ?_) (fun c_42 => ?_)
            · have c_42 : z_33.toInt = r_38.toInt := (congrArg Int32.toInt c_42)
              show mp_W E X 3 57 [(2, .int i_14), (0, .ref a0), (1, .ref (E.1.2.1 si))] [] [(a0, .inr (3, [.ref a1, .int y0, .ref a2, .int y1, .int y2, .int y3, .int y4, .int y5, .int y6, .int y7])), (a1, .inl (E.2.2 1, 1600, .inl f0))] 0 0
              refine mp_run hF mp_tabX3_ok [mp_c (.iinc 2 1) 1, mp_h (.goto (-32)) [28]] (by decide +kernel) ?_
              intro z_43 h_44
              have e_45 : z_43.toInt = i_14.toInt + 1 := mp_add (a := i_14.toInt) (b := 1) h_44 rfl (by decide) (by omega) (by omega)
              show mp_W E X 3 28 [(2, .int z_43), (0, .ref a0), (1, .ref (E.1.2.1 si))] [] [(a0, .inr (3, [.ref a1, .int y0, .ref a2, .int y1, .int y2, .int y3, .int y4, .int y5, .int y6, .int y7])), (a1, .inl (E.2.2 1, 1600, .inl f0))] 0 0
              exact mp_sub [0, 1, 2] rfl [0, 1] rfl rfl (ih_19 (d_18 - 1) (by omega) z_43 (by omega) (by omega) (by omega))
            · have c_42 : z_33.toInt ≠ r_38.toInt := c_42
              show mp_W E X 3 55 [(2, .int i_14), (0, .ref a0), (1, .ref (E.1.2.1 si))] [] [(a0, .inr (3, [.ref a1, .int y0, .ref a2, .int y1, .int y2, .int y3, .int y4, .int y5, .int y6, .int y7])), (a1, .inl (E.2.2 1, 1600, .inl f0))] 0 0
              refine mp_run hF mp_tabX3_ok [mp_c (.iconst 0) 0] (by decide +kernel) ?_
              show mp_W E X 3 56 [(2, .int i_14), (0, .ref a0), (1, .ref (E.1.2.1 si))] [.int 0] [(a0, .inr (3, [.ref a1, .int y0, .ref a2, .int y1, .int y2, .int y3, .int y4, .int y5, .int y6, .int y7])), (a1, .inl (E.2.2 1, 1600, .inl f0))] 0 0
              exact mp_iret hF hQ rfl (by decide) (Nat.le_of_ble_eq_true rfl) (Nat.le_of_ble_eq_true rfl) [0, 1] (w' := [(a0, .inr (3, [.ref a1, .int y0, .ref a2, .int y1, .int y2, .int y3, .int y4, .int y5, .int y6, .int y7])), (a1, .inl (E.2.2 1, 1600, .inl f0))]) rfl rfl (Or.inl ⟨rfl, rfl⟩) (by decide +kernel)
      exact mp_sub [0, 1, 2] rfl [0, 1] rfl rfl (lp_17 _ 0 (by decide) (by decide) (Int.self_le_toNat _))
    · have c_13 : z_2.toInt ≠ r_8.toInt := c_13
      show mp_W E X 3 24 [(0, .ref a0), (1, .ref (E.1.2.1 si))] [] [(a0, .inr (3, [.ref a1, .int y0, .ref a2, .int y1, .int y2, .int y3, .int y4, .int y5, .int y6, .int y7])), (a1, .inl (E.2.2 1, 1600, .inl f0))] 0 0
      refine mp_run hF mp_tabX3_ok [mp_c (.iconst 0) 0] (by decide +kernel) ?_
      show mp_W E X 3 25 [(0, .ref a0), (1, .ref (E.1.2.1 si))] [.int 0] [(a0, .inr (3, [.ref a1, .int y0, .ref a2, .int y1, .int y2, .int y3, .int y4, .int y5, .int y6, .int y7])), (a1, .inl (E.2.2 1, 1600, .inl f0))] 0 0
      exact mp_iret hF hQ rfl (by decide) (Nat.le_of_ble_eq_true rfl) (Nat.le_of_ble_eq_true rfl) [0, 1] (w' := [(a0, .inr (3, [.ref a1, .int y0, .ref a2, .int y1, .int y2, .int y3, .int y4, .int y5, .int y6, .int y7])), (a1, .inl (E.2.2 1, 1600, .inl f0))]) rfl rfl (Or.inl ⟨rfl, rfl⟩) (by decide +kernel)
set_option maxHeartbeats 4000000 in
set_option maxRecDepth 100000 in
theorem bX3_fail_18 (E : mp_E) (a0 a1 a2 : Nat) (y0 : Int32) (y1 : Int32) (y2 : Int32) (y3 : Int32) (y4 : Int32) (y5 : Int32) (y6 : Int32) (y7 : Int32) (x0 : Int32) (l_y0 : 0 ≤ y0.toInt) (u_y0 : y0.toInt ≤ 1600) (l_y4 : 0 ≤ y4.toInt) (u_y4 : y4.toInt ≤ 1600) (l_y5 : 0 ≤ y5.toInt) (u_y5 : y5.toInt ≤ 1600) : mp_Ct E yX3_fail cX3_fail 2 (some FieldType.boolean) 0 0 0 0 [.ref a0, .int x0] [(a0, .inr (3, [.ref a1, .int y0, .ref a2, .int y1, .int y2, .int y3, .int y4, .int y5, .int y6, .int y7]))] (fun v w' => v = some (.int 0) ∧ w' = [(a0, .inr (3, [.ref a1, .int y0, .ref a2, .int x0, .int y4, .int y3, .int y4, .int y5, .int y6, .int y7]))]) := by
  refine mp_met false (by decide) (by decide) (Nat.le_of_ble_eq_true rfl) (fun X hF hQ => ?_)
  have hF : mp_F E X (RX3, cX3_fail, 2, (0, 0, 0, 0), (some FieldType.boolean), false) := hF
  show mp_W E X 2 0 [(0, .ref a0), (1, .int x0)] [] [(a0, .inr (3, [.ref a1, .int y0, .ref a2, .int y1, .int y2, .int y3, .int y4, .int y5, .int y6, .int y7]))] 0 0
  refine mp_run hF mp_tabX3_ok [mp_i (.aload_n 0), mp_i (.iload_n 1), mp_h (.putfield 32) [12, 0]] (by decide +kernel) ?_
  refine And.intro rfl (And.intro rfl (And.intro rfl (And.intro rfl (And.intro (Nat.le_of_ble_eq_true rfl) ?_))))
  show mp_W E X 2 5 [(0, .ref a0), (1, .int x0)] [] [(a0, .inr (3, [.ref a1, .int y0, .ref a2, .int x0, .int y2, .int y3, .int y4, .int y5, .int y6, .int y7]))] 0 0
  refine mp_run hF mp_tabX3_ok [mp_i (.aload_n 0), mp_i (.aload_n 0), mp_h (.getfield 161) [15, 0], mp_h (.putfield 22) [13, 0]] (by decide +kernel) ?_
  refine And.intro rfl (And.intro rfl ?_)
  refine And.intro rfl (And.intro rfl (And.intro rfl (And.intro rfl (And.intro (Nat.le_of_ble_eq_true rfl) ?_))))
  show mp_W E X 2 13 [(0, .ref a0), (1, .int x0)] [] [(a0, .inr (3, [.ref a1, .int y0, .ref a2, .int x0, .int y4, .int y3, .int y4, .int y5, .int y6, .int y7]))] 0 0
  refine mp_run hF mp_tabX3_ok [mp_c (.iconst 0) 0] (by decide +kernel) ?_
  show mp_W E X 2 14 [(0, .ref a0), (1, .int x0)] [.int 0] [(a0, .inr (3, [.ref a1, .int y0, .ref a2, .int x0, .int y4, .int y3, .int y4, .int y5, .int y6, .int y7]))] 0 0
  exact mp_iret hF hQ rfl (by decide) (Nat.le_of_ble_eq_true rfl) (Nat.le_of_ble_eq_true rfl) [0] (w' := [(a0, .inr (3, [.ref a1, .int y0, .ref a2, .int x0, .int y4, .int y3, .int y4, .int y5, .int y6, .int y7]))]) rfl rfl ⟨rfl, rfl⟩ (by decide +kernel)
set_option maxHeartbeats 4000000 in
set_option maxRecDepth 100000 in
theorem bX3_takeWord_19 (E : mp_E) (si : Nat) (hsi : si < 14) (a0 a1 a2 : Nat) (f0 : Nat → Int32) (y0 : Int32) (y1 : Int32) (y2 : Int32) (y3 : Int32) (y4 : Int32) (y5 : Int32) (y6 : Int32) (y7 : Int32) (l_y0 : 0 ≤ y0.toInt) (u_y0 : y0.toInt ≤ 1600) (l_y4 : 0 ≤ y4.toInt) (u_y4 : y4.toInt ≤ 1600) (l_y5 : 0 ≤ y5.toInt) (u_y5 : y5.toInt ≤ 1600) : mp_Ct E yX3_takeWord cX3_takeWord 2 (some FieldType.boolean) 5 0 0 107 [.ref a0, .ref (E.1.2.1 si)] [(a0, .inr (3, [.ref a1, .int y0, .ref a2, .int y1, .int y2, .int y3, .int y4, .int y5, .int y6, .int y7])), (a1, .inl (E.2.2 1, 1600, .inl f0))] (fun v w' => (v = some (.int 0) ∧ w' = [(a0, .inr (3, [.ref a1, .int y0, .ref a2, .int 1, .int y4, .int y3, .int y4, .int y5, .int y6, .int y7])), (a1, .inl (E.2.2 1, 1600, .inl f0))]) ∨ (∃ r1 : Int32, ∃ r2 : Int32, ∃ r3 : Int32, ∃ r4 : Int32, v = some (.int 1) ∧ y3.toInt = 1 ∧ 0 ≤ r1.toInt ∧ r1.toInt ≤ 4 ∧ 0 ≤ r2.toInt ∧ r2.toInt ≤ 1600 ∧ 0 ≤ r3.toInt ∧ r3.toInt ≤ 1600 ∧ r4.toInt ≤ 100000000 ∧ w' = [(a0, .inr (3, [.ref a1, .int y0, .ref a2, .int y1, .int y2, .int r1, .int r2, .int r3, .int r4, .int y7])), (a1, .inl (E.2.2 1, 1600, .inl f0))])) := by
  refine mp_met false (by decide) (by decide) (Nat.le_of_ble_eq_true rfl) (fun X hF hQ => ?_)
  have hF : mp_F E X (RX3, cX3_takeWord, 2, (5, 0, 0, 107), (some FieldType.boolean), false) := hF
  show mp_W E X 2 0 [(0, .ref a0), (1, .ref (E.1.2.1 si))] [] [(a0, .inr (3, [.ref a1, .int y0, .ref a2, .int y1, .int y2, .int y3, .int y4, .int y5, .int y6, .int y7])), (a1, .inl (E.2.2 1, 1600, .inl f0))] 0 0
  refine mp_run hF mp_tabX3_ok [mp_i (.aload_n 0), mp_i (.aload_n 1)] (by decide +kernel) ?_
  show mp_W E X 2 2 [(0, .ref a0), (1, .ref (E.1.2.1 si))] [.ref (E.1.2.1 si), .ref a0] [(a0, .inr (3, [.ref a1, .int y0, .ref a2, .int y1, .int y2, .int y3, .int y4, .int y5, .int y6, .int y7])), (a1, .inl (E.2.2 1, 1600, .inl f0))] 0 0
  refine mp_callV hF (As := [.ref (E.1.2.1 si)]) (rest := []) (wr := []) (bX3_isWord_17 E si hsi a0 a1 a2 f0 y0 y1 y2 y3 y4 y5 y6 y7 l_y0 u_y0 l_y4 u_y4 l_y5 u_y5) mp_lkX3_56 0 rfl [0, 1] [] rfl rfl rfl rfl rfl ⟨(Nat.le_of_ble_eq_true rfl), (Nat.le_of_ble_eq_true rfl), (Nat.le_of_ble_eq_true rfl), (Nat.le_of_ble_eq_true rfl)⟩ (Nat.le_of_ble_eq_true rfl) (by decide +kernel) (fun v_1 w_2 h_3 => ?_)
  rcases h_3 with ⟨rfl, rfl⟩ | ⟨rfl, c_4, rfl⟩
  · skip
    show mp_W E X 2 5 [(0, .ref a0), (1, .ref (E.1.2.1 si))] [.int 0] [(a0, .inr (3, [.ref a1, .int y0, .ref a2, .int y1, .int y2, .int y3, .int y4, .int y5, .int y6, .int y7])), (a1, .inl (E.2.2 1, 1600, .inl f0))] 0 0
    refine mp_run hF mp_tabX3_ok [mp_h (.ifCond .ne 9) [14]] (by decide +kernel) ?_
    refine And.intro (fun c_5 => absurd c_5 (by decide)) (fun _ => ?_)
    show mp_W E X 2 8 [(0, .ref a0), (1, .ref (E.1.2.1 si))] [] [(a0, .inr (3, [.ref a1, .int y0, .ref a2, .int y1, .int y2, .int y3, .int y4, .int y5, .int y6, .int y7])), (a1, .inl (E.2.2 1, 1600, .inl f0))] 0 0
    refine mp_run hF mp_tabX3_ok [mp_i (.aload_n 0), mp_c (.iconst 1) 1] (by decide +kernel) ?_
    show mp_W E X 2 10 [(0, .ref a0), (1, .ref (E.1.2.1 si))] [.int 1, .ref a0] [(a0, .inr (3, [.ref a1, .int y0, .ref a2, .int y1, .int y2, .int y3, .int y4, .int y5, .int y6, .int y7])), (a1, .inl (E.2.2 1, 1600, .inl f0))] 0 0
    refine mp_callV hF (As := [.int 1]) (rest := []) (wr := [(a1, .inl (E.2.2 1, 1600, .inl f0))]) (bX3_fail_18 E a0 a1 a2 y0 y1 y2 y3 y4 y5 y6 y7 1 l_y0 u_y0 l_y4 u_y4 l_y5 u_y5) mp_lkX3_60 0 rfl [0] [1] rfl rfl rfl rfl rfl ⟨(Nat.le_of_ble_eq_true rfl), (Nat.le_of_ble_eq_true rfl), (Nat.le_of_ble_eq_true rfl), (Nat.le_of_ble_eq_true rfl)⟩ (Nat.le_of_ble_eq_true rfl) (by decide +kernel) (fun v_6 w_7 h_8 => ?_)
    obtain ⟨rfl, rfl⟩ := h_8
    show mp_W E X 2 13 [(0, .ref a0), (1, .ref (E.1.2.1 si))] [.int 0] [(a1, .inl (E.2.2 1, 1600, .inl f0)), (a0, .inr (3, [.ref a1, .int y0, .ref a2, .int 1, .int y4, .int y3, .int y4, .int y5, .int y6, .int y7]))] 0 0
    exact mp_iret hF hQ rfl (by decide) (Nat.le_of_ble_eq_true rfl) (Nat.le_of_ble_eq_true rfl) [1, 0] (w' := [(a0, .inr (3, [.ref a1, .int y0, .ref a2, .int 1, .int y4, .int y3, .int y4, .int y5, .int y6, .int y7])), (a1, .inl (E.2.2 1, 1600, .inl f0))]) rfl rfl (Or.inl ⟨rfl, rfl⟩) (by decide +kernel)
  · skip
    have c_4 : y3.toInt = 1 := c_4
    show mp_W E X 2 5 [(0, .ref a0), (1, .ref (E.1.2.1 si))] [.int 1] [(a0, .inr (3, [.ref a1, .int y0, .ref a2, .int y1, .int y2, .int y3, .int y4, .int y5, .int y6, .int y7])), (a1, .inl (E.2.2 1, 1600, .inl f0))] 0 0
    refine mp_run hF mp_tabX3_ok [mp_h (.ifCond .ne 9) [14]] (by decide +kernel) ?_
    refine And.intro (fun _ => ?_) (fun c_9 => absurd c_9 (by decide))
    show mp_W E X 2 14 [(0, .ref a0), (1, .ref (E.1.2.1 si))] [] [(a0, .inr (3, [.ref a1, .int y0, .ref a2, .int y1, .int y2, .int y3, .int y4, .int y5, .int y6, .int y7])), (a1, .inl (E.2.2 1, 1600, .inl f0))] 0 0
    refine mp_run hF mp_tabX3_ok [mp_i (.aload_n 0)] (by decide +kernel) ?_
    show mp_W E X 2 15 [(0, .ref a0), (1, .ref (E.1.2.1 si))] [.ref a0] [(a0, .inr (3, [.ref a1, .int y0, .ref a2, .int y1, .int y2, .int y3, .int y4, .int y5, .int y6, .int y7])), (a1, .inl (E.2.2 1, 1600, .inl f0))] 0 0
    refine mp_callV hF (As := []) (rest := []) (wr := []) (bX3_step_8 E a0 a1 a2 f0 y0 y1 y2 y3 y4 y5 y6 y7 l_y0 u_y0 l_y4 u_y4 l_y5 u_y5) mp_lkX3_38 0 rfl [0, 1] [] rfl rfl rfl rfl rfl ⟨(Nat.le_of_ble_eq_true rfl), (Nat.le_of_ble_eq_true rfl), (Nat.le_of_ble_eq_true rfl), (Nat.le_of_ble_eq_true rfl)⟩ (Nat.le_of_ble_eq_true rfl) (by decide +kernel) (fun v_10 w_11 h_12 => ?_)
    obtain ⟨r_13, r_14, r_15, r_16, rfl, l_17, u_18, l_19, u_20, l_21, u_22, u_23, rfl⟩ := h_12
    show mp_W E X 2 18 [(0, .ref a0), (1, .ref (E.1.2.1 si))] [] [(a0, .inr (3, [.ref a1, .int y0, .ref a2, .int y1, .int y2, .int r_13, .int r_14, .int r_15, .int r_16, .int y7])), (a1, .inl (E.2.2 1, 1600, .inl f0))] 0 0
    refine mp_run hF mp_tabX3_ok [mp_c (.iconst 1) 1] (by decide +kernel) ?_
    show mp_W E X 2 19 [(0, .ref a0), (1, .ref (E.1.2.1 si))] [.int 1] [(a0, .inr (3, [.ref a1, .int y0, .ref a2, .int y1, .int y2, .int r_13, .int r_14, .int r_15, .int r_16, .int y7])), (a1, .inl (E.2.2 1, 1600, .inl f0))] 0 0
    exact mp_iret hF hQ rfl (by decide) (Nat.le_of_ble_eq_true rfl) (Nat.le_of_ble_eq_true rfl) [0, 1] (w' := [(a0, .inr (3, [.ref a1, .int y0, .ref a2, .int y1, .int y2, .int r_13, .int r_14, .int r_15, .int r_16, .int y7])), (a1, .inl (E.2.2 1, 1600, .inl f0))]) rfl rfl (Or.inr ⟨r_13, r_14, r_15, r_16, rfl, (by first | omega | decide), l_17, u_18, l_19, u_20, l_21, u_22, u_23, rfl⟩) (by decide +kernel)
set_option maxHeartbeats 4000000 in
set_option maxRecDepth 100000 in
theorem bX3_takeNumber_20 (E : mp_E) (a0 a1 a2 : Nat) (f0 : Nat → Int32) (y0 : Int32) (y1 : Int32) (y2 : Int32) (y3 : Int32) (y4 : Int32) (y5 : Int32) (y6 : Int32) (y7 : Int32) (x0 : Int32) (x1 : Int32) (l_x0 : (-1) ≤ x0.toInt) (u_x0 : x0.toInt ≤ 5) (l_y0 : 0 ≤ y0.toInt) (u_y0 : y0.toInt ≤ 1600) (l_y4 : 0 ≤ y4.toInt) (u_y4 : y4.toInt ≤ 1600) (l_y5 : 0 ≤ y5.toInt) (u_y5 : y5.toInt ≤ 1600) : mp_Ct E yX3_takeNumber cX3_takeNumber 4 (some FieldType.boolean) 2 0 0 41 [.ref a0, .int 0, .int x0, .int x1] [(a0, .inr (3, [.ref a1, .int y0, .ref a2, .int y1, .int y2, .int y3, .int y4, .int y5, .int y6, .int y7])), (a1, .inl (E.2.2 1, 1600, .inl f0))] (fun v w' => (∃ r1 : Int32, v = some (.int 0) ∧ 1 ≤ r1.toInt ∧ r1.toInt ≤ 2 ∧ w' = [(a0, .inr (3, [.ref a1, .int y0, .ref a2, .int r1, .int y4, .int y3, .int y4, .int y5, .int y6, .int y7])), (a1, .inl (E.2.2 1, 1600, .inl f0))]) ∨ (∃ r1 : Int32, ∃ r2 : Int32, ∃ r3 : Int32, ∃ r4 : Int32, v = some (.int 1) ∧ y3.toInt = 2 ∧ 0 ≤ y6.toInt ∧ y6.toInt ≤ x0.toInt ∧ y6.toInt ≠ x1.toInt ∧ 0 ≤ r1.toInt ∧ r1.toInt ≤ 4 ∧ 0 ≤ r2.toInt ∧ r2.toInt ≤ 1600 ∧ 0 ≤ r3.toInt ∧ r3.toInt ≤ 1600 ∧ r4.toInt ≤ 100000000 ∧ w' = [(a0, .inr (3, [.ref a1, .int y0, .ref a2, .int y1, .int y2, .int r1, .int r2, .int r3, .int r4, .int y6])), (a1, .inl (E.2.2 1, 1600, .inl f0))])) := by
  refine mp_met false (by decide) (by decide) (Nat.le_of_ble_eq_true rfl) (fun X hF hQ => ?_)
  have hF : mp_F E X (RX3, cX3_takeNumber, 4, (2, 0, 0, 41), (some FieldType.boolean), false) := hF
  show mp_W E X 4 0 [(0, .ref a0), (1, .int 0), (2, .int x0), (3, .int x1)] [] [(a0, .inr (3, [.ref a1, .int y0, .ref a2, .int y1, .int y2, .int y3, .int y4, .int y5, .int y6, .int y7])), (a1, .inl (E.2.2 1, 1600, .inl f0))] 0 0
  refine mp_run hF mp_tabX3_ok [mp_i (.aload_n 0), mp_h (.getfield 41) [14, 0], mp_c (.iconst 2) 2, mp_h (.if_icmp .eq 9) [14]] (by decide +kernel) ?_
  refine And.intro rfl (And.intro rfl ?_)
  refine And.intro (fun c_1 => ?_) (fun c_1 => ?_)
  · have c_1 : y3.toInt = 2 := (congrArg Int32.toInt c_1)
    show mp_W E X 4 14 [(0, .ref a0), (1, .int 0), (2, .int x0), (3, .int x1)] [] [(a0, .inr (3, [.ref a1, .int y0, .ref a2, .int y1, .int y2, .int y3, .int y4, .int y5, .int y6, .int y7])), (a1, .inl (E.2.2 1, 1600, .inl f0))] 0 0
    refine mp_run hF mp_tabX3_ok [mp_i (.aload_n 0), mp_h (.getfield 158) [17, 0], mp_i (.iload_n 1), mp_h (.if_icmp .lt 19) [38]] (by decide +kernel) ?_
    refine And.intro rfl (And.intro rfl ?_)
    refine And.intro (fun c_2 => ?_) (fun c_2 => ?_)
    · have c_2 : y6.toInt < 0 := c_2
      show mp_W E X 4 38 [(0, .ref a0), (1, .int 0), (2, .int x0), (3, .int x1)] [] [(a0, .inr (3, [.ref a1, .int y0, .ref a2, .int y1, .int y2, .int y3, .int y4, .int y5, .int y6, .int y7])), (a1, .inl (E.2.2 1, 1600, .inl f0))] 0 0
      refine mp_run hF mp_tabX3_ok [mp_i (.aload_n 0), mp_c (.iconst 2) 2] (by decide +kernel) ?_
      show mp_W E X 4 40 [(0, .ref a0), (1, .int 0), (2, .int x0), (3, .int x1)] [.int 2, .ref a0] [(a0, .inr (3, [.ref a1, .int y0, .ref a2, .int y1, .int y2, .int y3, .int y4, .int y5, .int y6, .int y7])), (a1, .inl (E.2.2 1, 1600, .inl f0))] 0 0
      refine mp_callV hF (As := [.int 2]) (rest := []) (wr := [(a1, .inl (E.2.2 1, 1600, .inl f0))]) (bX3_fail_18 E a0 a1 a2 y0 y1 y2 y3 y4 y5 y6 y7 2 l_y0 u_y0 l_y4 u_y4 l_y5 u_y5) mp_lkX3_60 0 rfl [0] [1] rfl rfl rfl rfl rfl ⟨(Nat.le_of_ble_eq_true rfl), (Nat.le_of_ble_eq_true rfl), (Nat.le_of_ble_eq_true rfl), (Nat.le_of_ble_eq_true rfl)⟩ (Nat.le_of_ble_eq_true rfl) (by decide +kernel) (fun v_3 w_4 h_5 => ?_)
      obtain ⟨rfl, rfl⟩ := h_5
      show mp_W E X 4 43 [(0, .ref a0), (1, .int 0), (2, .int x0), (3, .int x1)] [.int 0] [(a1, .inl (E.2.2 1, 1600, .inl f0)), (a0, .inr (3, [.ref a1, .int y0, .ref a2, .int 2, .int y4, .int y3, .int y4, .int y5, .int y6, .int y7]))] 0 0
      exact mp_iret hF hQ rfl (by decide) (Nat.le_of_ble_eq_true rfl) (Nat.le_of_ble_eq_true rfl) [1, 0] (w' := [(a0, .inr (3, [.ref a1, .int y0, .ref a2, .int 2, .int y4, .int y3, .int y4, .int y5, .int y6, .int y7])), (a1, .inl (E.2.2 1, 1600, .inl f0))]) rfl rfl (Or.inl ⟨2, rfl, (by decide), (by decide), rfl⟩) (by decide +kernel)
    · have c_2 : 0 ≤ y6.toInt := c_2
      show mp_W E X 4 22 [(0, .ref a0), (1, .int 0), (2, .int x0), (3, .int x1)] [] [(a0, .inr (3, [.ref a1, .int y0, .ref a2, .int y1, .int y2, .int y3, .int y4, .int y5, .int y6, .int y7])), (a1, .inl (E.2.2 1, 1600, .inl f0))] 0 0
      refine mp_run hF mp_tabX3_ok [mp_i (.aload_n 0), mp_h (.getfield 158) [17, 0], mp_i (.iload_n 2), mp_h (.if_icmp .gt 11) [38]] (by decide +kernel) ?_
      refine And.intro rfl (And.intro rfl ?_)
      refine And.intro (fun c_6 => ?_) (fun c_6 => ?_)
      · have c_6 : x0.toInt < y6.toInt := c_6
        show mp_W E X 4 38 [(0, .ref a0), (1, .int 0), (2, .int x0), (3, .int x1)] [] [(a0, .inr (3, [.ref a1, .int y0, .ref a2, .int y1, .int y2, .int y3, .int y4, .int y5, .int y6, .int y7])), (a1, .inl (E.2.2 1, 1600, .inl f0))] 0 0
        refine mp_run hF mp_tabX3_ok [mp_i (.aload_n 0), mp_c (.iconst 2) 2] (by decide +kernel) ?_
        show mp_W E X 4 40 [(0, .ref a0), (1, .int 0), (2, .int x0), (3, .int x1)] [.int 2, .ref a0] [(a0, .inr (3, [.ref a1, .int y0, .ref a2, .int y1, .int y2, .int y3, .int y4, .int y5, .int y6, .int y7])), (a1, .inl (E.2.2 1, 1600, .inl f0))] 0 0
        refine mp_callV hF (As := [.int 2]) (rest := []) (wr := [(a1, .inl (E.2.2 1, 1600, .inl f0))]) (bX3_fail_18 E a0 a1 a2 y0 y1 y2 y3 y4 y5 y6 y7 2 l_y0 u_y0 l_y4 u_y4 l_y5 u_y5) mp_lkX3_60 0 rfl [0] [1] rfl rfl rfl rfl rfl ⟨(Nat.le_of_ble_eq_true rfl), (Nat.le_of_ble_eq_true rfl), (Nat.le_of_ble_eq_true rfl), (Nat.le_of_ble_eq_true rfl)⟩ (Nat.le_of_ble_eq_true rfl) (by decide +kernel) (fun v_7 w_8 h_9 => ?_)
        obtain ⟨rfl, rfl⟩ := h_9
        show mp_W E X 4 43 [(0, .ref a0), (1, .int 0), (2, .int x0), (3, .int x1)] [.int 0] [(a1, .inl (E.2.2 1, 1600, .inl f0)), (a0, .inr (3, [.ref a1, .int y0, .ref a2, .int 2, .int y4, .int y3, .int y4, .int y5, .int y6, .int y7]))] 0 0
        exact mp_iret hF hQ rfl (by decide) (Nat.le_of_ble_eq_true rfl) (Nat.le_of_ble_eq_true rfl) [1, 0] (w' := [(a0, .inr (3, [.ref a1, .int y0, .ref a2, .int 2, .int y4, .int y3, .int y4, .int y5, .int y6, .int y7])), (a1, .inl (E.2.2 1, 1600, .inl f0))]) rfl rfl (Or.inl ⟨2, rfl, (by decide), (by decide), rfl⟩) (by decide +kernel)
      · have c_6 : y6.toInt ≤ x0.toInt := c_6
        show mp_W E X 4 30 [(0, .ref a0), (1, .int 0), (2, .int x0), (3, .int x1)] [] [(a0, .inr (3, [.ref a1, .int y0, .ref a2, .int y1, .int y2, .int y3, .int y4, .int y5, .int y6, .int y7])), (a1, .inl (E.2.2 1, 1600, .inl f0))] 0 0
        refine mp_run hF mp_tabX3_ok [mp_i (.aload_n 0), mp_h (.getfield 158) [17, 0], mp_i (.iload_n 3), mp_h (.if_icmp .ne 9) [44]] (by decide +kernel) ?_
        refine And.intro rfl (And.intro rfl ?_)
        refine And.intro (fun c_10 => ?_) (fun c_10 => ?_)
        · have c_10 : y6.toInt ≠ x1.toInt := c_10
          show mp_W E X 4 44 [(0, .ref a0), (1, .int 0), (2, .int x0), (3, .int x1)] [] [(a0, .inr (3, [.ref a1, .int y0, .ref a2, .int y1, .int y2, .int y3, .int y4, .int y5, .int y6, .int y7])), (a1, .inl (E.2.2 1, 1600, .inl f0))] 0 0
          refine mp_run hF mp_tabX3_ok [mp_i (.aload_n 0), mp_i (.aload_n 0), mp_h (.getfield 158) [17, 0], mp_h (.putfield 95) [18, 0]] (by decide +kernel) ?_
          refine And.intro rfl (And.intro rfl ?_)
          refine And.intro rfl (And.intro rfl (And.intro rfl (And.intro rfl (And.intro (Nat.le_of_ble_eq_true rfl) ?_))))
          show mp_W E X 4 52 [(0, .ref a0), (1, .int 0), (2, .int x0), (3, .int x1)] [] [(a0, .inr (3, [.ref a1, .int y0, .ref a2, .int y1, .int y2, .int y3, .int y4, .int y5, .int y6, .int y6])), (a1, .inl (E.2.2 1, 1600, .inl f0))] 0 0
          refine mp_run hF mp_tabX3_ok [mp_i (.aload_n 0)] (by decide +kernel) ?_
          show mp_W E X 4 53 [(0, .ref a0), (1, .int 0), (2, .int x0), (3, .int x1)] [.ref a0] [(a0, .inr (3, [.ref a1, .int y0, .ref a2, .int y1, .int y2, .int y3, .int y4, .int y5, .int y6, .int y6])), (a1, .inl (E.2.2 1, 1600, .inl f0))] 0 0
          refine mp_callV hF (As := []) (rest := []) (wr := []) (bX3_step_8 E a0 a1 a2 f0 y0 y1 y2 y3 y4 y5 y6 y6 l_y0 u_y0 l_y4 u_y4 l_y5 u_y5) mp_lkX3_38 0 rfl [0, 1] [] rfl rfl rfl rfl rfl ⟨(Nat.le_of_ble_eq_true rfl), (Nat.le_of_ble_eq_true rfl), (Nat.le_of_ble_eq_true rfl), (Nat.le_of_ble_eq_true rfl)⟩ (Nat.le_of_ble_eq_true rfl) (by decide +kernel) (fun v_11 w_12 h_13 => ?_)
          obtain ⟨r_14, r_15, r_16, r_17, rfl, l_18, u_19, l_20, u_21, l_22, u_23, u_24, rfl⟩ := h_13
          show mp_W E X 4 56 [(0, .ref a0), (1, .int 0), (2, .int x0), (3, .int x1)] [] [(a0, .inr (3, [.ref a1, .int y0, .ref a2, .int y1, .int y2, .int r_14, .int r_15, .int r_16, .int r_17, .int y6])), (a1, .inl (E.2.2 1, 1600, .inl f0))] 0 0
          refine mp_run hF mp_tabX3_ok [mp_c (.iconst 1) 1] (by decide +kernel) ?_
          show mp_W E X 4 57 [(0, .ref a0), (1, .int 0), (2, .int x0), (3, .int x1)] [.int 1] [(a0, .inr (3, [.ref a1, .int y0, .ref a2, .int y1, .int y2, .int r_14, .int r_15, .int r_16, .int r_17, .int y6])), (a1, .inl (E.2.2 1, 1600, .inl f0))] 0 0
          exact mp_iret hF hQ rfl (by decide) (Nat.le_of_ble_eq_true rfl) (Nat.le_of_ble_eq_true rfl) [0, 1] (w' := [(a0, .inr (3, [.ref a1, .int y0, .ref a2, .int y1, .int y2, .int r_14, .int r_15, .int r_16, .int r_17, .int y6])), (a1, .inl (E.2.2 1, 1600, .inl f0))]) rfl rfl (Or.inr ⟨r_14, r_15, r_16, r_17, rfl, (by first | omega | decide), (by first | omega | decide), (by first | omega | decide), (by first | omega | decide), l_18, u_19, l_20, u_21, l_22, u_23, u_24, rfl⟩) (by decide +kernel)
        · have c_10 : y6.toInt = x1.toInt := (congrArg Int32.toInt c_10)
          show mp_W E X 4 38 [(0, .ref a0), (1, .int 0), (2, .int x0), (3, .int x1)] [] [(a0, .inr (3, [.ref a1, .int y0, .ref a2, .int y1, .int y2, .int y3, .int y4, .int y5, .int y6, .int y7])), (a1, .inl (E.2.2 1, 1600, .inl f0))] 0 0
          refine mp_run hF mp_tabX3_ok [mp_i (.aload_n 0), mp_c (.iconst 2) 2] (by decide +kernel) ?_
          show mp_W E X 4 40 [(0, .ref a0), (1, .int 0), (2, .int x0), (3, .int x1)] [.int 2, .ref a0] [(a0, .inr (3, [.ref a1, .int y0, .ref a2, .int y1, .int y2, .int y3, .int y4, .int y5, .int y6, .int y7])), (a1, .inl (E.2.2 1, 1600, .inl f0))] 0 0
          refine mp_callV hF (As := [.int 2]) (rest := []) (wr := [(a1, .inl (E.2.2 1, 1600, .inl f0))]) (bX3_fail_18 E a0 a1 a2 y0 y1 y2 y3 y4 y5 y6 y7 2 l_y0 u_y0 l_y4 u_y4 l_y5 u_y5) mp_lkX3_60 0 rfl [0] [1] rfl rfl rfl rfl rfl ⟨(Nat.le_of_ble_eq_true rfl), (Nat.le_of_ble_eq_true rfl), (Nat.le_of_ble_eq_true rfl), (Nat.le_of_ble_eq_true rfl)⟩ (Nat.le_of_ble_eq_true rfl) (by decide +kernel) (fun v_25 w_26 h_27 => ?_)
          obtain ⟨rfl, rfl⟩ := h_27
          show mp_W E X 4 43 [(0, .ref a0), (1, .int 0), (2, .int x0), (3, .int x1)] [.int 0] [(a1, .inl (E.2.2 1, 1600, .inl f0)), (a0, .inr (3, [.ref a1, .int y0, .ref a2, .int 2, .int y4, .int y3, .int y4, .int y5, .int y6, .int y7]))] 0 0
          exact mp_iret hF hQ rfl (by decide) (Nat.le_of_ble_eq_true rfl) (Nat.le_of_ble_eq_true rfl) [1, 0] (w' := [(a0, .inr (3, [.ref a1, .int y0, .ref a2, .int 2, .int y4, .int y3, .int y4, .int y5, .int y6, .int y7])), (a1, .inl (E.2.2 1, 1600, .inl f0))]) rfl rfl (Or.inl ⟨2, rfl, (by decide), (by decide), rfl⟩) (by decide +kernel)
  · have c_1 : y3.toInt ≠ 2 := c_1
    show mp_W E X 4 8 [(0, .ref a0), (1, .int 0), (2, .int x0), (3, .int x1)] [] [(a0, .inr (3, [.ref a1, .int y0, .ref a2, .int y1, .int y2, .int y3, .int y4, .int y5, .int y6, .int y7])), (a1, .inl (E.2.2 1, 1600, .inl f0))] 0 0
    refine mp_run hF mp_tabX3_ok [mp_i (.aload_n 0), mp_c (.iconst 1) 1] (by decide +kernel) ?_
    show mp_W E X 4 10 [(0, .ref a0), (1, .int 0), (2, .int x0), (3, .int x1)] [.int 1, .ref a0] [(a0, .inr (3, [.ref a1, .int y0, .ref a2, .int y1, .int y2, .int y3, .int y4, .int y5, .int y6, .int y7])), (a1, .inl (E.2.2 1, 1600, .inl f0))] 0 0
    refine mp_callV hF (As := [.int 1]) (rest := []) (wr := [(a1, .inl (E.2.2 1, 1600, .inl f0))]) (bX3_fail_18 E a0 a1 a2 y0 y1 y2 y3 y4 y5 y6 y7 1 l_y0 u_y0 l_y4 u_y4 l_y5 u_y5) mp_lkX3_60 0 rfl [0] [1] rfl rfl rfl rfl rfl ⟨(Nat.le_of_ble_eq_true rfl), (Nat.le_of_ble_eq_true rfl), (Nat.le_of_ble_eq_true rfl), (Nat.le_of_ble_eq_true rfl)⟩ (Nat.le_of_ble_eq_true rfl) (by decide +kernel) (fun v_28 w_29 h_30 => ?_)
    obtain ⟨rfl, rfl⟩ := h_30
    show mp_W E X 4 13 [(0, .ref a0), (1, .int 0), (2, .int x0), (3, .int x1)] [.int 0] [(a1, .inl (E.2.2 1, 1600, .inl f0)), (a0, .inr (3, [.ref a1, .int y0, .ref a2, .int 1, .int y4, .int y3, .int y4, .int y5, .int y6, .int y7]))] 0 0
    exact mp_iret hF hQ rfl (by decide) (Nat.le_of_ble_eq_true rfl) (Nat.le_of_ble_eq_true rfl) [1, 0] (w' := [(a0, .inr (3, [.ref a1, .int y0, .ref a2, .int 1, .int y4, .int y3, .int y4, .int y5, .int y6, .int y7])), (a1, .inl (E.2.2 1, 1600, .inl f0))]) rfl rfl (Or.inl ⟨1, rfl, (by decide), (by decide), rfl⟩) (by decide +kernel)
set_option maxHeartbeats 4000000 in
set_option maxRecDepth 100000 in
theorem bX3_takeNumber_21 (E : mp_E) (a0 a1 a2 : Nat) (f0 : Nat → Int32) (y0 : Int32) (y1 : Int32) (y2 : Int32) (y3 : Int32) (y4 : Int32) (y5 : Int32) (y6 : Int32) (y7 : Int32) (x0 : Int32) (l_y0 : 0 ≤ y0.toInt) (u_y0 : y0.toInt ≤ 1600) (l_y4 : 0 ≤ y4.toInt) (u_y4 : y4.toInt ≤ 1600) (l_y5 : 0 ≤ y5.toInt) (u_y5 : y5.toInt ≤ 1600) : mp_Ct E yX3_takeNumber cX3_takeNumber 4 (some FieldType.boolean) 2 0 0 41 [.ref a0, .int 0, .int 99, .int x0] [(a0, .inr (3, [.ref a1, .int y0, .ref a2, .int y1, .int y2, .int y3, .int y4, .int y5, .int y6, .int y7])), (a1, .inl (E.2.2 1, 1600, .inl f0))] (fun v w' => (∃ r1 : Int32, v = some (.int 0) ∧ 1 ≤ r1.toInt ∧ r1.toInt ≤ 2 ∧ w' = [(a0, .inr (3, [.ref a1, .int y0, .ref a2, .int r1, .int y4, .int y3, .int y4, .int y5, .int y6, .int y7])), (a1, .inl (E.2.2 1, 1600, .inl f0))]) ∨ (∃ r1 : Int32, ∃ r2 : Int32, ∃ r3 : Int32, ∃ r4 : Int32, v = some (.int 1) ∧ y3.toInt = 2 ∧ 0 ≤ y6.toInt ∧ y6.toInt ≤ 99 ∧ y6.toInt ≠ x0.toInt ∧ 0 ≤ r1.toInt ∧ r1.toInt ≤ 4 ∧ 0 ≤ r2.toInt ∧ r2.toInt ≤ 1600 ∧ 0 ≤ r3.toInt ∧ r3.toInt ≤ 1600 ∧ r4.toInt ≤ 100000000 ∧ w' = [(a0, .inr (3, [.ref a1, .int y0, .ref a2, .int y1, .int y2, .int r1, .int r2, .int r3, .int r4, .int y6])), (a1, .inl (E.2.2 1, 1600, .inl f0))])) := by
  refine mp_met false (by decide) (by decide) (Nat.le_of_ble_eq_true rfl) (fun X hF hQ => ?_)
  have hF : mp_F E X (RX3, cX3_takeNumber, 4, (2, 0, 0, 41), (some FieldType.boolean), false) := hF
  show mp_W E X 4 0 [(0, .ref a0), (1, .int 0), (2, .int 99), (3, .int x0)] [] [(a0, .inr (3, [.ref a1, .int y0, .ref a2, .int y1, .int y2, .int y3, .int y4, .int y5, .int y6, .int y7])), (a1, .inl (E.2.2 1, 1600, .inl f0))] 0 0
  refine mp_run hF mp_tabX3_ok [mp_i (.aload_n 0), mp_h (.getfield 41) [14, 0], mp_c (.iconst 2) 2, mp_h (.if_icmp .eq 9) [14]] (by decide +kernel) ?_
  refine And.intro rfl (And.intro rfl ?_)
  refine And.intro (fun c_1 => ?_) (fun c_1 => ?_)
  · have c_1 : y3.toInt = 2 := (congrArg Int32.toInt c_1)
    show mp_W E X 4 14 [(0, .ref a0), (1, .int 0), (2, .int 99), (3, .int x0)] [] [(a0, .inr (3, [.ref a1, .int y0, .ref a2, .int y1, .int y2, .int y3, .int y4, .int y5, .int y6, .int y7])), (a1, .inl (E.2.2 1, 1600, .inl f0))] 0 0
    refine mp_run hF mp_tabX3_ok [mp_i (.aload_n 0), mp_h (.getfield 158) [17, 0], mp_i (.iload_n 1), mp_h (.if_icmp .lt 19) [38]] (by decide +kernel) ?_
    refine And.intro rfl (And.intro rfl ?_)
    refine And.intro (fun c_2 => ?_) (fun c_2 => ?_)
    · have c_2 : y6.toInt < 0 := c_2
      show mp_W E X 4 38 [(0, .ref a0), (1, .int 0), (2, .int 99), (3, .int x0)] [] [(a0, .inr (3, [.ref a1, .int y0, .ref a2, .int y1, .int y2, .int y3, .int y4, .int y5, .int y6, .int y7])), (a1, .inl (E.2.2 1, 1600, .inl f0))] 0 0
      refine mp_run hF mp_tabX3_ok [mp_i (.aload_n 0), mp_c (.iconst 2) 2] (by decide +kernel) ?_
      show mp_W E X 4 40 [(0, .ref a0), (1, .int 0), (2, .int 99), (3, .int x0)] [.int 2, .ref a0] [(a0, .inr (3, [.ref a1, .int y0, .ref a2, .int y1, .int y2, .int y3, .int y4, .int y5, .int y6, .int y7])), (a1, .inl (E.2.2 1, 1600, .inl f0))] 0 0
      refine mp_callV hF (As := [.int 2]) (rest := []) (wr := [(a1, .inl (E.2.2 1, 1600, .inl f0))]) (bX3_fail_18 E a0 a1 a2 y0 y1 y2 y3 y4 y5 y6 y7 2 l_y0 u_y0 l_y4 u_y4 l_y5 u_y5) mp_lkX3_60 0 rfl [0] [1] rfl rfl rfl rfl rfl ⟨(Nat.le_of_ble_eq_true rfl), (Nat.le_of_ble_eq_true rfl), (Nat.le_of_ble_eq_true rfl), (Nat.le_of_ble_eq_true rfl)⟩ (Nat.le_of_ble_eq_true rfl) (by decide +kernel) (fun v_3 w_4 h_5 => ?_)
      obtain ⟨rfl, rfl⟩ := h_5
      show mp_W E X 4 43 [(0, .ref a0), (1, .int 0), (2, .int 99), (3, .int x0)] [.int 0] [(a1, .inl (E.2.2 1, 1600, .inl f0)), (a0, .inr (3, [.ref a1, .int y0, .ref a2, .int 2, .int y4, .int y3, .int y4, .int y5, .int y6, .int y7]))] 0 0
      exact mp_iret hF hQ rfl (by decide) (Nat.le_of_ble_eq_true rfl) (Nat.le_of_ble_eq_true rfl) [1, 0] (w' := [(a0, .inr (3, [.ref a1, .int y0, .ref a2, .int 2, .int y4, .int y3, .int y4, .int y5, .int y6, .int y7])), (a1, .inl (E.2.2 1, 1600, .inl f0))]) rfl rfl (Or.inl ⟨2, rfl, (by decide), (by decide), rfl⟩) (by decide +kernel)
    · have c_2 : 0 ≤ y6.toInt := c_2
      show mp_W E X 4 22 [(0, .ref a0), (1, .int 0), (2, .int 99), (3, .int x0)] [] [(a0, .inr (3, [.ref a1, .int y0, .ref a2, .int y1, .int y2, .int y3, .int y4, .int y5, .int y6, .int y7])), (a1, .inl (E.2.2 1, 1600, .inl f0))] 0 0
      refine mp_run hF mp_tabX3_ok [mp_i (.aload_n 0), mp_h (.getfield 158) [17, 0], mp_i (.iload_n 2), mp_h (.if_icmp .gt 11) [38]] (by decide +kernel) ?_
      refine And.intro rfl (And.intro rfl ?_)
      refine And.intro (fun c_6 => ?_) (fun c_6 => ?_)
      · have c_6 : 99 < y6.toInt := c_6
        show mp_W E X 4 38 [(0, .ref a0), (1, .int 0), (2, .int 99), (3, .int x0)] [] [(a0, .inr (3, [.ref a1, .int y0, .ref a2, .int y1, .int y2, .int y3, .int y4, .int y5, .int y6, .int y7])), (a1, .inl (E.2.2 1, 1600, .inl f0))] 0 0
        refine mp_run hF mp_tabX3_ok [mp_i (.aload_n 0), mp_c (.iconst 2) 2] (by decide +kernel) ?_
        show mp_W E X 4 40 [(0, .ref a0), (1, .int 0), (2, .int 99), (3, .int x0)] [.int 2, .ref a0] [(a0, .inr (3, [.ref a1, .int y0, .ref a2, .int y1, .int y2, .int y3, .int y4, .int y5, .int y6, .int y7])), (a1, .inl (E.2.2 1, 1600, .inl f0))] 0 0
        refine mp_callV hF (As := [.int 2]) (rest := []) (wr := [(a1, .inl (E.2.2 1, 1600, .inl f0))]) (bX3_fail_18 E a0 a1 a2 y0 y1 y2 y3 y4 y5 y6 y7 2 l_y0 u_y0 l_y4 u_y4 l_y5 u_y5) mp_lkX3_60 0 rfl [0] [1] rfl rfl rfl rfl rfl ⟨(Nat.le_of_ble_eq_true rfl), (Nat.le_of_ble_eq_true rfl), (Nat.le_of_ble_eq_true rfl), (Nat.le_of_ble_eq_true rfl)⟩ (Nat.le_of_ble_eq_true rfl) (by decide +kernel) (fun v_7 w_8 h_9 => ?_)
        obtain ⟨rfl, rfl⟩ := h_9
        show mp_W E X 4 43 [(0, .ref a0), (1, .int 0), (2, .int 99), (3, .int x0)] [.int 0] [(a1, .inl (E.2.2 1, 1600, .inl f0)), (a0, .inr (3, [.ref a1, .int y0, .ref a2, .int 2, .int y4, .int y3, .int y4, .int y5, .int y6, .int y7]))] 0 0
        exact mp_iret hF hQ rfl (by decide) (Nat.le_of_ble_eq_true rfl) (Nat.le_of_ble_eq_true rfl) [1, 0] (w' := [(a0, .inr (3, [.ref a1, .int y0, .ref a2, .int 2, .int y4, .int y3, .int y4, .int y5, .int y6, .int y7])), (a1, .inl (E.2.2 1, 1600, .inl f0))]) rfl rfl (Or.inl ⟨2, rfl, (by decide), (by decide), rfl⟩) (by decide +kernel)
      · have c_6 : y6.toInt ≤ 99 := c_6
        show mp_W E X 4 30 [(0, .ref a0), (1, .int 0), (2, .int 99), (3, .int x0)] [] [(a0, .inr (3, [.ref a1, .int y0, .ref a2, .int y1, .int y2, .int y3, .int y4, .int y5, .int y6, .int y7])), (a1, .inl (E.2.2 1, 1600, .inl f0))] 0 0
        refine mp_run hF mp_tabX3_ok [mp_i (.aload_n 0), mp_h (.getfield 158) [17, 0], mp_i (.iload_n 3), mp_h (.if_icmp .ne 9) [44]] (by decide +kernel) ?_
        refine And.intro rfl (And.intro rfl ?_)
        refine And.intro (fun c_10 => ?_) (fun c_10 => ?_)
        · have c_10 : y6.toInt ≠ x0.toInt := c_10
          show mp_W E X 4 44 [(0, .ref a0), (1, .int 0), (2, .int 99), (3, .int x0)] [] [(a0, .inr (3, [.ref a1, .int y0, .ref a2, .int y1, .int y2, .int y3, .int y4, .int y5, .int y6, .int y7])), (a1, .inl (E.2.2 1, 1600, .inl f0))] 0 0
          refine mp_run hF mp_tabX3_ok [mp_i (.aload_n 0), mp_i (.aload_n 0), mp_h (.getfield 158) [17, 0], mp_h (.putfield 95) [18, 0]] (by decide +kernel) ?_
          refine And.intro rfl (And.intro rfl ?_)
          refine And.intro rfl (And.intro rfl (And.intro rfl (And.intro rfl (And.intro (Nat.le_of_ble_eq_true rfl) ?_))))
          show mp_W E X 4 52 [(0, .ref a0), (1, .int 0), (2, .int 99), (3, .int x0)] [] [(a0, .inr (3, [.ref a1, .int y0, .ref a2, .int y1, .int y2, .int y3, .int y4, .int y5, .int y6, .int y6])), (a1, .inl (E.2.2 1, 1600, .inl f0))] 0 0
          refine mp_run hF mp_tabX3_ok [mp_i (.aload_n 0)] (by decide +kernel) ?_
          show mp_W E X 4 53 [(0, .ref a0), (1, .int 0), (2, .int 99), (3, .int x0)] [.ref a0] [(a0, .inr (3, [.ref a1, .int y0, .ref a2, .int y1, .int y2, .int y3, .int y4, .int y5, .int y6, .int y6])), (a1, .inl (E.2.2 1, 1600, .inl f0))] 0 0
          refine mp_callV hF (As := []) (rest := []) (wr := []) (bX3_step_8 E a0 a1 a2 f0 y0 y1 y2 y3 y4 y5 y6 y6 l_y0 u_y0 l_y4 u_y4 l_y5 u_y5) mp_lkX3_38 0 rfl [0, 1] [] rfl rfl rfl rfl rfl ⟨(Nat.le_of_ble_eq_true rfl), (Nat.le_of_ble_eq_true rfl), (Nat.le_of_ble_eq_true rfl), (Nat.le_of_ble_eq_true rfl)⟩ (Nat.le_of_ble_eq_true rfl) (by decide +kernel) (fun v_11 w_12 h_13 => ?_)
          obtain ⟨r_14, r_15, r_16, r_17, rfl, l_18, u_19, l_20, u_21, l_22, u_23, u_24, rfl⟩ := h_13
          show mp_W E X 4 56 [(0, .ref a0), (1, .int 0), (2, .int 99), (3, .int x0)] [] [(a0, .inr (3, [.ref a1, .int y0, .ref a2, .int y1, .int y2, .int r_14, .int r_15, .int r_16, .int r_17, .int y6])), (a1, .inl (E.2.2 1, 1600, .inl f0))] 0 0
          refine mp_run hF mp_tabX3_ok [mp_c (.iconst 1) 1] (by decide +kernel) ?_
          show mp_W E X 4 57 [(0, .ref a0), (1, .int 0), (2, .int 99), (3, .int x0)] [.int 1] [(a0, .inr (3, [.ref a1, .int y0, .ref a2, .int y1, .int y2, .int r_14, .int r_15, .int r_16, .int r_17, .int y6])), (a1, .inl (E.2.2 1, 1600, .inl f0))] 0 0
          exact mp_iret hF hQ rfl (by decide) (Nat.le_of_ble_eq_true rfl) (Nat.le_of_ble_eq_true rfl) [0, 1] (w' := [(a0, .inr (3, [.ref a1, .int y0, .ref a2, .int y1, .int y2, .int r_14, .int r_15, .int r_16, .int r_17, .int y6])), (a1, .inl (E.2.2 1, 1600, .inl f0))]) rfl rfl (Or.inr ⟨r_14, r_15, r_16, r_17, rfl, (by first | omega | decide), (by first | omega | decide), (by first | omega | decide), (by first | omega | decide), l_18, u_19, l_20, u_21, l_22, u_23, u_24, rfl⟩) (by decide +kernel)
        · have c_10 : y6.toInt = x0.toInt := (congrArg Int32.toInt c_10)
          show mp_W E X 4 38 [(0, .ref a0), (1, .int 0), (2, .int 99), (3, .int x0)] [] [(a0, .inr (3, [.ref a1, .int y0, .ref a2, .int y1, .int y2, .int y3, .int y4, .int y5, .int y6, .int y7])), (a1, .inl (E.2.2 1, 1600, .inl f0))] 0 0
          refine mp_run hF mp_tabX3_ok [mp_i (.aload_n 0), mp_c (.iconst 2) 2] (by decide +kernel) ?_
          show mp_W E X 4 40 [(0, .ref a0), (1, .int 0), (2, .int 99), (3, .int x0)] [.int 2, .ref a0] [(a0, .inr (3, [.ref a1, .int y0, .ref a2, .int y1, .int y2, .int y3, .int y4, .int y5, .int y6, .int y7])), (a1, .inl (E.2.2 1, 1600, .inl f0))] 0 0
          refine mp_callV hF (As := [.int 2]) (rest := []) (wr := [(a1, .inl (E.2.2 1, 1600, .inl f0))]) (bX3_fail_18 E a0 a1 a2 y0 y1 y2 y3 y4 y5 y6 y7 2 l_y0 u_y0 l_y4 u_y4 l_y5 u_y5) mp_lkX3_60 0 rfl [0] [1] rfl rfl rfl rfl rfl ⟨(Nat.le_of_ble_eq_true rfl), (Nat.le_of_ble_eq_true rfl), (Nat.le_of_ble_eq_true rfl), (Nat.le_of_ble_eq_true rfl)⟩ (Nat.le_of_ble_eq_true rfl) (by decide +kernel) (fun v_25 w_26 h_27 => ?_)
          obtain ⟨rfl, rfl⟩ := h_27
          show mp_W E X 4 43 [(0, .ref a0), (1, .int 0), (2, .int 99), (3, .int x0)] [.int 0] [(a1, .inl (E.2.2 1, 1600, .inl f0)), (a0, .inr (3, [.ref a1, .int y0, .ref a2, .int 2, .int y4, .int y3, .int y4, .int y5, .int y6, .int y7]))] 0 0
          exact mp_iret hF hQ rfl (by decide) (Nat.le_of_ble_eq_true rfl) (Nat.le_of_ble_eq_true rfl) [1, 0] (w' := [(a0, .inr (3, [.ref a1, .int y0, .ref a2, .int 2, .int y4, .int y3, .int y4, .int y5, .int y6, .int y7])), (a1, .inl (E.2.2 1, 1600, .inl f0))]) rfl rfl (Or.inl ⟨2, rfl, (by decide), (by decide), rfl⟩) (by decide +kernel)
  · have c_1 : y3.toInt ≠ 2 := c_1
    show mp_W E X 4 8 [(0, .ref a0), (1, .int 0), (2, .int 99), (3, .int x0)] [] [(a0, .inr (3, [.ref a1, .int y0, .ref a2, .int y1, .int y2, .int y3, .int y4, .int y5, .int y6, .int y7])), (a1, .inl (E.2.2 1, 1600, .inl f0))] 0 0
    refine mp_run hF mp_tabX3_ok [mp_i (.aload_n 0), mp_c (.iconst 1) 1] (by decide +kernel) ?_
    show mp_W E X 4 10 [(0, .ref a0), (1, .int 0), (2, .int 99), (3, .int x0)] [.int 1, .ref a0] [(a0, .inr (3, [.ref a1, .int y0, .ref a2, .int y1, .int y2, .int y3, .int y4, .int y5, .int y6, .int y7])), (a1, .inl (E.2.2 1, 1600, .inl f0))] 0 0
    refine mp_callV hF (As := [.int 1]) (rest := []) (wr := [(a1, .inl (E.2.2 1, 1600, .inl f0))]) (bX3_fail_18 E a0 a1 a2 y0 y1 y2 y3 y4 y5 y6 y7 1 l_y0 u_y0 l_y4 u_y4 l_y5 u_y5) mp_lkX3_60 0 rfl [0] [1] rfl rfl rfl rfl rfl ⟨(Nat.le_of_ble_eq_true rfl), (Nat.le_of_ble_eq_true rfl), (Nat.le_of_ble_eq_true rfl), (Nat.le_of_ble_eq_true rfl)⟩ (Nat.le_of_ble_eq_true rfl) (by decide +kernel) (fun v_28 w_29 h_30 => ?_)
    obtain ⟨rfl, rfl⟩ := h_30
    show mp_W E X 4 13 [(0, .ref a0), (1, .int 0), (2, .int 99), (3, .int x0)] [.int 0] [(a1, .inl (E.2.2 1, 1600, .inl f0)), (a0, .inr (3, [.ref a1, .int y0, .ref a2, .int 1, .int y4, .int y3, .int y4, .int y5, .int y6, .int y7]))] 0 0
    exact mp_iret hF hQ rfl (by decide) (Nat.le_of_ble_eq_true rfl) (Nat.le_of_ble_eq_true rfl) [1, 0] (w' := [(a0, .inr (3, [.ref a1, .int y0, .ref a2, .int 1, .int y4, .int y3, .int y4, .int y5, .int y6, .int y7])), (a1, .inl (E.2.2 1, 1600, .inl f0))]) rfl rfl (Or.inl ⟨1, rfl, (by decide), (by decide), rfl⟩) (by decide +kernel)
set_option maxHeartbeats 4000000 in
set_option maxRecDepth 100000 in
theorem bX7_setShut_22 (E : mp_E) (a0 a1 a2 a3 a4 a5 a6 a7 a8 a9 a10 a11 a12 : Nat) (f0 : Nat → Int64) (y0 : Int32) (y1 : Int32) (y2 : Int32) (y3 : Int32) (y4 : Int32) (y5 : Int32) (x0 : Int32) (x1 : Int32) (x2 : Int32) (l_x0 : 0 ≤ x0.toInt) (u_x0 : x0.toInt ≤ 5) (l_x1 : 0 ≤ x1.toInt) (u_x1 : x1.toInt ≤ 99) (l_y1 : 0 ≤ y1.toInt) (u_y1 : y1.toInt ≤ 6) (l_y2 : 0 ≤ y2.toInt) (u_y2 : y2.toInt ≤ 99) (l_y3 : 0 ≤ y3.toInt) (u_y3 : y3.toInt ≤ 6) (l_y4 : 0 ≤ y4.toInt) (u_y4 : y4.toInt ≤ 10) (l_y5 : 0 ≤ y5.toInt) (u_y5 : y5.toInt ≤ 60) : mp_Ct E yX7_setShut cX7_setShut 7 none 0 0 0 0 [.ref a0, .int x0, .int x1, .int x2] [(a0, .inr (7, [.int y0, .int y1, .int y2, .int y3, .int y4, .int y5, .ref a2, .ref a1, .ref a3, .ref a4, .ref a5, .ref a6, .ref a7, .ref a8, .ref a9, .ref a10, .ref a11, .ref a12])), (a1, .inl (E.2.2 2, 12, .inr (.inl f0)))] (fun v w' => ∃ h1 : Nat → Int64, v = none ∧ w' = [(a0, .inr (7, [.int y0, .int y1, .int y2, .int y3, .int y4, .int y5, .ref a2, .ref a1, .ref a3, .ref a4, .ref a5, .ref a6, .ref a7, .ref a8, .ref a9, .ref a10, .ref a11, .ref a12])), (a1, .inl (E.2.2 2, 12, .inr (.inl h1)))]) := by
  refine mp_met false (by decide) (by decide) (Nat.le_of_ble_eq_true rfl) (fun X hF hQ => ?_)
  have hF : mp_F E X (RX7, cX7_setShut, 7, (0, 0, 0, 0), none, false) := hF
  show mp_W E X 7 0 [(0, .ref a0), (1, .int x0), (2, .int x1), (3, .int x2)] [] [(a0, .inr (7, [.int y0, .int y1, .int y2, .int y3, .int y4, .int y5, .ref a2, .ref a1, .ref a3, .ref a4, .ref a5, .ref a6, .ref a7, .ref a8, .ref a9, .ref a10, .ref a11, .ref a12])), (a1, .inl (E.2.2 2, 12, .inr (.inl f0)))] 0 0
  refine mp_run hF mp_tabX7_ok [mp_cl (.lconst 1) 1, mp_i (.iload_n 2), mp_c (.bipush 50) 50, mp_i .irem, mp_i .lshl, mp_i (.lstore 4), mp_c (.iconst 2) 2, mp_i (.iload_n 1), mp_i .imul, mp_i (.iload_n 2), mp_c (.bipush 50) 50, mp_i .idiv, mp_i .iadd, mp_i (.istore 6), mp_i (.aload_n 0), mp_h (.getfield 15) [7, 0], mp_i (.iload 6), mp_i (.iload_n 3), mp_h (.ifCond .eq 16) [41]] (by decide +kernel) ?_
  refine And.intro (by decide) ?_
  intro z_1 h_2
  have e_3 : z_1.toInt = x1.toInt % 50 := mp_rem (a := x1.toInt) (b := 50) h_2 rfl (by decide) (by omega) (by decide)
  intro z_4 h_5
  intro z_6 h_7
  have e_8 : z_6.toInt = 2 * x0.toInt := mp_mul (a := 2) (b := x0.toInt) h_7 (by decide) rfl (by omega) (by omega)
  refine And.intro (by decide) ?_
  intro z_9 h_10
  have e_11 : z_9.toInt = x1.toInt / 50 := mp_div (a := x1.toInt) (b := 50) h_10 rfl (by decide) (by omega) (by decide)
  intro z_12 h_13
  have e_14 : z_12.toInt = z_6.toInt + z_9.toInt := mp_add (a := z_6.toInt) (b := z_9.toInt) h_13 rfl rfl (by omega) (by omega)
  refine And.intro rfl (And.intro rfl ?_)
  refine And.intro (fun c_15 => ?_) (fun c_15 => ?_)
  · have c_15 : x2.toInt = 0 := (congrArg Int32.toInt c_15)
    show mp_W E X 7 41 [(6, .int z_12), (4, .long z_4), (0, .ref a0), (1, .int x0), (2, .int x1), (3, .int x2)] [.int z_12, .ref a1] [(a0, .inr (7, [.int y0, .int y1, .int y2, .int y3, .int y4, .int y5, .ref a2, .ref a1, .ref a3, .ref a4, .ref a5, .ref a6, .ref a7, .ref a8, .ref a9, .ref a10, .ref a11, .ref a12])), (a1, .inl (E.2.2 2, 12, .inr (.inl f0)))] 0 0
    refine mp_run hF mp_tabX7_ok [mp_i (.aload_n 0), mp_h (.getfield 15) [7, 0], mp_i (.iload 6), mp_h .laload [1], mp_i (.lload 4), mp_cl (.ldc2_w 83) (-1), mp_i .lxor, mp_i .land, mp_h .lastore [1]] (by decide +kernel) ?_
    refine And.intro rfl (And.intro rfl ?_)
    refine And.intro rfl (And.intro rfl (And.intro (vp_in_iff.mpr (by omega)) ?_))
    intro z_16 h_17
    intro z_18 h_19
    intro z_20 h_21
    refine And.intro rfl (And.intro rfl (And.intro (vp_in_iff.mpr (by omega)) ?_))
    intro g_22 h_23
    show mp_W E X 7 56 [(6, .int z_12), (4, .long z_4), (0, .ref a0), (1, .int x0), (2, .int x1), (3, .int x2)] [] [(a0, .inr (7, [.int y0, .int y1, .int y2, .int y3, .int y4, .int y5, .ref a2, .ref a1, .ref a3, .ref a4, .ref a5, .ref a6, .ref a7, .ref a8, .ref a9, .ref a10, .ref a11, .ref a12])), (a1, .inl (E.2.2 2, 12, .inr (.inl g_22)))] 0 0
    exact mp_vret hF hQ rfl (Nat.le_of_ble_eq_true rfl) (Nat.le_of_ble_eq_true rfl) [0, 1] (w' := [(a0, .inr (7, [.int y0, .int y1, .int y2, .int y3, .int y4, .int y5, .ref a2, .ref a1, .ref a3, .ref a4, .ref a5, .ref a6, .ref a7, .ref a8, .ref a9, .ref a10, .ref a11, .ref a12])), (a1, .inl (E.2.2 2, 12, .inr (.inl g_22)))]) rfl rfl ⟨g_22, rfl, rfl⟩ (by decide +kernel)
  · have c_15 : x2.toInt ≠ 0 := c_15
    show mp_W E X 7 28 [(6, .int z_12), (4, .long z_4), (0, .ref a0), (1, .int x0), (2, .int x1), (3, .int x2)] [.int z_12, .ref a1] [(a0, .inr (7, [.int y0, .int y1, .int y2, .int y3, .int y4, .int y5, .ref a2, .ref a1, .ref a3, .ref a4, .ref a5, .ref a6, .ref a7, .ref a8, .ref a9, .ref a10, .ref a11, .ref a12])), (a1, .inl (E.2.2 2, 12, .inr (.inl f0)))] 0 0
    refine mp_run hF mp_tabX7_ok [mp_i (.aload_n 0), mp_h (.getfield 15) [7, 0], mp_i (.iload 6), mp_h .laload [1], mp_i (.lload 4), mp_i .lor, mp_h (.goto 17) [55], mp_h .lastore [1]] (by decide +kernel) ?_
    refine And.intro rfl (And.intro rfl ?_)
    refine And.intro rfl (And.intro rfl (And.intro (vp_in_iff.mpr (by omega)) ?_))
    intro z_24 h_25
    intro z_26 h_27
    refine And.intro rfl (And.intro rfl (And.intro (vp_in_iff.mpr (by omega)) ?_))
    intro g_28 h_29
    show mp_W E X 7 56 [(6, .int z_12), (4, .long z_4), (0, .ref a0), (1, .int x0), (2, .int x1), (3, .int x2)] [] [(a0, .inr (7, [.int y0, .int y1, .int y2, .int y3, .int y4, .int y5, .ref a2, .ref a1, .ref a3, .ref a4, .ref a5, .ref a6, .ref a7, .ref a8, .ref a9, .ref a10, .ref a11, .ref a12])), (a1, .inl (E.2.2 2, 12, .inr (.inl g_28)))] 0 0
    exact mp_vret hF hQ rfl (Nat.le_of_ble_eq_true rfl) (Nat.le_of_ble_eq_true rfl) [0, 1] (w' := [(a0, .inr (7, [.int y0, .int y1, .int y2, .int y3, .int y4, .int y5, .ref a2, .ref a1, .ref a3, .ref a4, .ref a5, .ref a6, .ref a7, .ref a8, .ref a9, .ref a10, .ref a11, .ref a12])), (a1, .inl (E.2.2 2, 12, .inr (.inl g_28)))]) rfl rfl ⟨g_28, rfl, rfl⟩ (by decide +kernel)
set_option maxHeartbeats 4000000 in
set_option maxRecDepth 100000 in
theorem bX3_takeShut_23 (E : mp_E) (a0 a1 a2 a3 a4 a5 a6 a7 a8 a9 a10 a11 a12 a13 a14 : Nat) (f0 : Nat → Int32) (f1 : Nat → Int64) (y0 : Int32) (y1 : Int32) (y2 : Int32) (y3 : Int32) (y4 : Int32) (y5 : Int32) (y6 : Int32) (y7 : Int32) (y8 : Int32) (y9 : Int32) (y10 : Int32) (y11 : Int32) (y12 : Int32) (y13 : Int32) (l_y0 : 0 ≤ y0.toInt) (u_y0 : y0.toInt ≤ 1600) (l_y4 : 0 ≤ y4.toInt) (u_y4 : y4.toInt ≤ 1600) (l_y5 : 0 ≤ y5.toInt) (u_y5 : y5.toInt ≤ 1600) (l_y9 : 0 ≤ y9.toInt) (u_y9 : y9.toInt ≤ 6) (l_y10 : 0 ≤ y10.toInt) (u_y10 : y10.toInt ≤ 99) (l_y11 : 0 ≤ y11.toInt) (u_y11 : y11.toInt ≤ 6) (l_y12 : 0 ≤ y12.toInt) (u_y12 : y12.toInt ≤ 10) (l_y13 : 0 ≤ y13.toInt) (u_y13 : y13.toInt ≤ 60) : mp_Ct E yX3_takeShut cX3_takeShut 2 (some FieldType.boolean) 6 0 0 128 [.ref a0] [(a0, .inr (3, [.ref a1, .int y0, .ref a2, .int y1, .int y2, .int y3, .int y4, .int y5, .int y6, .int y7])), (a1, .inl (E.2.2 1, 1600, .inl f0)), (a2, .inr (7, [.int y8, .int y9, .int y10, .int y11, .int y12, .int y13, .ref a4, .ref a3, .ref a5, .ref a6, .ref a7, .ref a8, .ref a9, .ref a10, .ref a11, .ref a12, .ref a13, .ref a14])), (a3, .inl (E.2.2 2, 12, .inr (.inl f1)))] (fun v w' => (∃ r1 : Int32, ∃ r2 : Int32, ∃ r3 : Int32, ∃ r4 : Int32, ∃ r5 : Int32, ∃ r6 : Int32, ∃ r7 : Int32, v = some (.int 0) ∧ 1 ≤ r1.toInt ∧ r1.toInt ≤ 2 ∧ 0 ≤ r2.toInt ∧ r2.toInt ≤ 1600 ∧ 0 ≤ r4.toInt ∧ r4.toInt ≤ 1600 ∧ 0 ≤ r5.toInt ∧ r5.toInt ≤ 1600 ∧ w' = [(a0, .inr (3, [.ref a1, .int y0, .ref a2, .int r1, .int r2, .int r3, .int r4, .int r5, .int r6, .int r7])), (a1, .inl (E.2.2 1, 1600, .inl f0)), (a2, .inr (7, [.int y8, .int y9, .int y10, .int y11, .int y12, .int y13, .ref a4, .ref a3, .ref a5, .ref a6, .ref a7, .ref a8, .ref a9, .ref a10, .ref a11, .ref a12, .ref a13, .ref a14])), (a3, .inl (E.2.2 2, 12, .inr (.inl f1)))]) ∨ (∃ r1 : Int32, ∃ r2 : Int32, ∃ r3 : Int32, ∃ r4 : Int32, ∃ r5 : Int32, ∃ h6 : Nat → Int64, v = some (.int 1) ∧ y3.toInt = 1 ∧ 0 ≤ r1.toInt ∧ r1.toInt ≤ 4 ∧ 0 ≤ r2.toInt ∧ r2.toInt ≤ 1600 ∧ 0 ≤ r3.toInt ∧ r3.toInt ≤ 1600 ∧ r4.toInt ≤ 100000000 ∧ 0 ≤ r5.toInt ∧ r5.toInt ≤ 99 ∧ w' = [(a0, .inr (3, [.ref a1, .int y0, .ref a2, .int y1, .int y2, .int r1, .int r2, .int r3, .int r4, .int r5])), (a1, .inl (E.2.2 1, 1600, .inl f0)), (a2, .inr (7, [.int y8, .int y9, .int y10, .int y11, .int y12, .int y13, .ref a4, .ref a3, .ref a5, .ref a6, .ref a7, .ref a8, .ref a9, .ref a10, .ref a11, .ref a12, .ref a13, .ref a14])), (a3, .inl (E.2.2 2, 12, .inr (.inl h6)))])) := by
  refine mp_met false (by decide) (by decide) (Nat.le_of_ble_eq_true rfl) (fun X hF hQ => ?_)
  have hF : mp_F E X (RX3, cX3_takeShut, 2, (6, 0, 0, 128), (some FieldType.boolean), false) := hF
  show mp_W E X 2 0 [(0, .ref a0)] [] [(a0, .inr (3, [.ref a1, .int y0, .ref a2, .int y1, .int y2, .int y3, .int y4, .int y5, .int y6, .int y7])), (a1, .inl (E.2.2 1, 1600, .inl f0)), (a2, .inr (7, [.int y8, .int y9, .int y10, .int y11, .int y12, .int y13, .ref a4, .ref a3, .ref a5, .ref a6, .ref a7, .ref a8, .ref a9, .ref a10, .ref a11, .ref a12, .ref a13, .ref a14])), (a3, .inl (E.2.2 2, 12, .inr (.inl f1)))] 0 0
  refine mp_run hF mp_tabX3_ok [mp_i (.aload_n 0)] (by decide +kernel) ?_
  show mp_W E X 2 1 [(0, .ref a0)] [.ref a0] [(a0, .inr (3, [.ref a1, .int y0, .ref a2, .int y1, .int y2, .int y3, .int y4, .int y5, .int y6, .int y7])), (a1, .inl (E.2.2 1, 1600, .inl f0)), (a2, .inr (7, [.int y8, .int y9, .int y10, .int y11, .int y12, .int y13, .ref a4, .ref a3, .ref a5, .ref a6, .ref a7, .ref a8, .ref a9, .ref a10, .ref a11, .ref a12, .ref a13, .ref a14])), (a3, .inl (E.2.2 2, 12, .inr (.inl f1)))] 0 0
  refine mp_ldcS hF 13 (q := (RX3, 152, "shut", 13)) rfl rfl (by decide +kernel) ?_
  show mp_W E X 2 3 [(0, .ref a0)] [.ref (E.1.2.1 13), .ref a0] [(a0, .inr (3, [.ref a1, .int y0, .ref a2, .int y1, .int y2, .int y3, .int y4, .int y5, .int y6, .int y7])), (a1, .inl (E.2.2 1, 1600, .inl f0)), (a2, .inr (7, [.int y8, .int y9, .int y10, .int y11, .int y12, .int y13, .ref a4, .ref a3, .ref a5, .ref a6, .ref a7, .ref a8, .ref a9, .ref a10, .ref a11, .ref a12, .ref a13, .ref a14])), (a3, .inl (E.2.2 2, 12, .inr (.inl f1)))] 0 0
  refine mp_callV hF (As := [.ref (E.1.2.1 13)]) (rest := []) (wr := [(a2, .inr (7, [.int y8, .int y9, .int y10, .int y11, .int y12, .int y13, .ref a4, .ref a3, .ref a5, .ref a6, .ref a7, .ref a8, .ref a9, .ref a10, .ref a11, .ref a12, .ref a13, .ref a14])), (a3, .inl (E.2.2 2, 12, .inr (.inl f1)))]) (bX3_takeWord_19 E 13 (by decide) a0 a1 a2 f0 y0 y1 y2 y3 y4 y5 y6 y7 l_y0 u_y0 l_y4 u_y4 l_y5 u_y5) mp_lkX3_102 0 rfl [0, 1] [2, 3] rfl rfl rfl rfl rfl ⟨(Nat.le_of_ble_eq_true rfl), (Nat.le_of_ble_eq_true rfl), (Nat.le_of_ble_eq_true rfl), (Nat.le_of_ble_eq_true rfl)⟩ (Nat.le_of_ble_eq_true rfl) (by decide +kernel) (fun v_1 w_2 h_3 => ?_)
  rcases h_3 with ⟨rfl, rfl⟩ | ⟨r_4, r_5, r_6, r_7, rfl, c_8, l_9, u_10, l_11, u_12, l_13, u_14, u_15, rfl⟩
  · skip
    show mp_W E X 2 6 [(0, .ref a0)] [.int 0] [(a2, .inr (7, [.int y8, .int y9, .int y10, .int y11, .int y12, .int y13, .ref a4, .ref a3, .ref a5, .ref a6, .ref a7, .ref a8, .ref a9, .ref a10, .ref a11, .ref a12, .ref a13, .ref a14])), (a3, .inl (E.2.2 2, 12, .inr (.inl f1))), (a0, .inr (3, [.ref a1, .int y0, .ref a2, .int 1, .int y4, .int y3, .int y4, .int y5, .int y6, .int y7])), (a1, .inl (E.2.2 1, 1600, .inl f0))] 0 0
    refine mp_run hF mp_tabX3_ok [mp_h (.ifCond .eq 21) [27]] (by decide +kernel) ?_
    refine And.intro (fun _ => ?_) (fun c_16 => absurd c_16 (by decide))
    show mp_W E X 2 27 [(0, .ref a0)] [] [(a2, .inr (7, [.int y8, .int y9, .int y10, .int y11, .int y12, .int y13, .ref a4, .ref a3, .ref a5, .ref a6, .ref a7, .ref a8, .ref a9, .ref a10, .ref a11, .ref a12, .ref a13, .ref a14])), (a3, .inl (E.2.2 2, 12, .inr (.inl f1))), (a0, .inr (3, [.ref a1, .int y0, .ref a2, .int 1, .int y4, .int y3, .int y4, .int y5, .int y6, .int y7])), (a1, .inl (E.2.2 1, 1600, .inl f0))] 0 0
    refine mp_run hF mp_tabX3_ok [mp_c (.iconst 0) 0] (by decide +kernel) ?_
    show mp_W E X 2 28 [(0, .ref a0)] [.int 0] [(a2, .inr (7, [.int y8, .int y9, .int y10, .int y11, .int y12, .int y13, .ref a4, .ref a3, .ref a5, .ref a6, .ref a7, .ref a8, .ref a9, .ref a10, .ref a11, .ref a12, .ref a13, .ref a14])), (a3, .inl (E.2.2 2, 12, .inr (.inl f1))), (a0, .inr (3, [.ref a1, .int y0, .ref a2, .int 1, .int y4, .int y3, .int y4, .int y5, .int y6, .int y7])), (a1, .inl (E.2.2 1, 1600, .inl f0))] 0 0
    exact mp_iret hF hQ rfl (by decide) (Nat.le_of_ble_eq_true rfl) (Nat.le_of_ble_eq_true rfl) [2, 3, 0, 1] (w' := [(a0, .inr (3, [.ref a1, .int y0, .ref a2, .int 1, .int y4, .int y3, .int y4, .int y5, .int y6, .int y7])), (a1, .inl (E.2.2 1, 1600, .inl f0)), (a2, .inr (7, [.int y8, .int y9, .int y10, .int y11, .int y12, .int y13, .ref a4, .ref a3, .ref a5, .ref a6, .ref a7, .ref a8, .ref a9, .ref a10, .ref a11, .ref a12, .ref a13, .ref a14])), (a3, .inl (E.2.2 2, 12, .inr (.inl f1)))]) rfl rfl (Or.inl ⟨1, y4, y3, y4, y5, y6, y7, rfl, (by decide), (by decide), l_y4, u_y4, l_y4, u_y4, l_y5, u_y5, rfl⟩) (by decide +kernel)
  · skip
    have c_8 : y3.toInt = 1 := c_8
    show mp_W E X 2 6 [(0, .ref a0)] [.int 1] [(a2, .inr (7, [.int y8, .int y9, .int y10, .int y11, .int y12, .int y13, .ref a4, .ref a3, .ref a5, .ref a6, .ref a7, .ref a8, .ref a9, .ref a10, .ref a11, .ref a12, .ref a13, .ref a14])), (a3, .inl (E.2.2 2, 12, .inr (.inl f1))), (a0, .inr (3, [.ref a1, .int y0, .ref a2, .int y1, .int y2, .int r_4, .int r_5, .int r_6, .int r_7, .int y7])), (a1, .inl (E.2.2 1, 1600, .inl f0))] 0 0
    refine mp_run hF mp_tabX3_ok [mp_h (.ifCond .eq 21) [27]] (by decide +kernel) ?_
    refine And.intro (fun c_17 => absurd c_17 (by decide)) (fun _ => ?_)
    show mp_W E X 2 9 [(0, .ref a0)] [] [(a2, .inr (7, [.int y8, .int y9, .int y10, .int y11, .int y12, .int y13, .ref a4, .ref a3, .ref a5, .ref a6, .ref a7, .ref a8, .ref a9, .ref a10, .ref a11, .ref a12, .ref a13, .ref a14])), (a3, .inl (E.2.2 2, 12, .inr (.inl f1))), (a0, .inr (3, [.ref a1, .int y0, .ref a2, .int y1, .int y2, .int r_4, .int r_5, .int r_6, .int r_7, .int y7])), (a1, .inl (E.2.2 1, 1600, .inl f0))] 0 0
    refine mp_run hF mp_tabX3_ok [mp_i (.aload_n 0), mp_c (.iconst 0) 0, mp_i (.aload_n 0), mp_h (.getfield 18) [11, 2], mp_h (.getfield 98) [1, 0], mp_c (.iconst 1) 1, mp_i .isub, mp_c (.iconst (-1)) (-1)] (by decide +kernel) ?_
    refine And.intro rfl (And.intro rfl ?_)
    refine And.intro rfl (And.intro rfl ?_)
    intro z_18 h_19
    have e_20 : z_18.toInt = y9.toInt - 1 := mp_subi (a := y9.toInt) (b := 1) h_19 rfl (by decide) (by omega) (by omega)
    show mp_W E X 2 21 [(0, .ref a0)] [.int (-1), .int z_18, .int 0, .ref a0] [(a2, .inr (7, [.int y8, .int y9, .int y10, .int y11, .int y12, .int y13, .ref a4, .ref a3, .ref a5, .ref a6, .ref a7, .ref a8, .ref a9, .ref a10, .ref a11, .ref a12, .ref a13, .ref a14])), (a3, .inl (E.2.2 2, 12, .inr (.inl f1))), (a0, .inr (3, [.ref a1, .int y0, .ref a2, .int y1, .int y2, .int r_4, .int r_5, .int r_6, .int r_7, .int y7])), (a1, .inl (E.2.2 1, 1600, .inl f0))] 0 0
    refine mp_callV hF (As := [.int 0, .int z_18, .int (-1)]) (rest := []) (wr := [(a2, .inr (7, [.int y8, .int y9, .int y10, .int y11, .int y12, .int y13, .ref a4, .ref a3, .ref a5, .ref a6, .ref a7, .ref a8, .ref a9, .ref a10, .ref a11, .ref a12, .ref a13, .ref a14])), (a3, .inl (E.2.2 2, 12, .inr (.inl f1)))]) (bX3_takeNumber_20 E a0 a1 a2 f0 y0 y1 y2 r_4 r_5 r_6 r_7 y7 z_18 (-1) (by omega) (by omega) l_y0 u_y0 l_11 u_12 l_13 u_14) mp_lkX3_91 2 rfl [2, 3] [0, 1] rfl rfl rfl rfl rfl ⟨(Nat.le_of_ble_eq_true rfl), (Nat.le_of_ble_eq_true rfl), (Nat.le_of_ble_eq_true rfl), (Nat.le_of_ble_eq_true rfl)⟩ (Nat.le_of_ble_eq_true rfl) (by decide +kernel) (fun v_21 w_22 h_23 => ?_)
    rcases h_23 with ⟨r_24, rfl, l_25, u_26, rfl⟩ | ⟨r_27, r_28, r_29, r_30, rfl, c_31, c_32, c_33, c_34, l_35, u_36, l_37, u_38, l_39, u_40, u_41, rfl⟩
    · skip
      show mp_W E X 2 24 [(0, .ref a0)] [.int 0] [(a2, .inr (7, [.int y8, .int y9, .int y10, .int y11, .int y12, .int y13, .ref a4, .ref a3, .ref a5, .ref a6, .ref a7, .ref a8, .ref a9, .ref a10, .ref a11, .ref a12, .ref a13, .ref a14])), (a3, .inl (E.2.2 2, 12, .inr (.inl f1))), (a0, .inr (3, [.ref a1, .int y0, .ref a2, .int r_24, .int r_5, .int r_4, .int r_5, .int r_6, .int r_7, .int y7])), (a1, .inl (E.2.2 1, 1600, .inl f0))] 0 0
      refine mp_run hF mp_tabX3_ok [mp_h (.ifCond .ne 5) [29]] (by decide +kernel) ?_
      refine And.intro (fun c_42 => absurd c_42 (by decide)) (fun _ => ?_)
      show mp_W E X 2 27 [(0, .ref a0)] [] [(a2, .inr (7, [.int y8, .int y9, .int y10, .int y11, .int y12, .int y13, .ref a4, .ref a3, .ref a5, .ref a6, .ref a7, .ref a8, .ref a9, .ref a10, .ref a11, .ref a12, .ref a13, .ref a14])), (a3, .inl (E.2.2 2, 12, .inr (.inl f1))), (a0, .inr (3, [.ref a1, .int y0, .ref a2, .int r_24, .int r_5, .int r_4, .int r_5, .int r_6, .int r_7, .int y7])), (a1, .inl (E.2.2 1, 1600, .inl f0))] 0 0
      refine mp_run hF mp_tabX3_ok [mp_c (.iconst 0) 0] (by decide +kernel) ?_
      show mp_W E X 2 28 [(0, .ref a0)] [.int 0] [(a2, .inr (7, [.int y8, .int y9, .int y10, .int y11, .int y12, .int y13, .ref a4, .ref a3, .ref a5, .ref a6, .ref a7, .ref a8, .ref a9, .ref a10, .ref a11, .ref a12, .ref a13, .ref a14])), (a3, .inl (E.2.2 2, 12, .inr (.inl f1))), (a0, .inr (3, [.ref a1, .int y0, .ref a2, .int r_24, .int r_5, .int r_4, .int r_5, .int r_6, .int r_7, .int y7])), (a1, .inl (E.2.2 1, 1600, .inl f0))] 0 0
      exact mp_iret hF hQ rfl (by decide) (Nat.le_of_ble_eq_true rfl) (Nat.le_of_ble_eq_true rfl) [2, 3, 0, 1] (w' := [(a0, .inr (3, [.ref a1, .int y0, .ref a2, .int r_24, .int r_5, .int r_4, .int r_5, .int r_6, .int r_7, .int y7])), (a1, .inl (E.2.2 1, 1600, .inl f0)), (a2, .inr (7, [.int y8, .int y9, .int y10, .int y11, .int y12, .int y13, .ref a4, .ref a3, .ref a5, .ref a6, .ref a7, .ref a8, .ref a9, .ref a10, .ref a11, .ref a12, .ref a13, .ref a14])), (a3, .inl (E.2.2 2, 12, .inr (.inl f1)))]) rfl rfl (Or.inl ⟨r_24, r_5, r_4, r_5, r_6, r_7, y7, rfl, l_25, u_26, l_11, u_12, l_11, u_12, l_13, u_14, rfl⟩) (by decide +kernel)
    · skip
      have c_31 : r_4.toInt = 2 := c_31
      have c_32 : 0 ≤ r_7.toInt := c_32
      have c_33 : r_7.toInt ≤ z_18.toInt := c_33
      have c_34 : r_7.toInt ≠ (-1) := c_34
      show mp_W E X 2 24 [(0, .ref a0)] [.int 1] [(a2, .inr (7, [.int y8, .int y9, .int y10, .int y11, .int y12, .int y13, .ref a4, .ref a3, .ref a5, .ref a6, .ref a7, .ref a8, .ref a9, .ref a10, .ref a11, .ref a12, .ref a13, .ref a14])), (a3, .inl (E.2.2 2, 12, .inr (.inl f1))), (a0, .inr (3, [.ref a1, .int y0, .ref a2, .int y1, .int y2, .int r_27, .int r_28, .int r_29, .int r_30, .int r_7])), (a1, .inl (E.2.2 1, 1600, .inl f0))] 0 0
      refine mp_run hF mp_tabX3_ok [mp_h (.ifCond .ne 5) [29]] (by decide +kernel) ?_
      refine And.intro (fun _ => ?_) (fun c_43 => absurd c_43 (by decide))
      show mp_W E X 2 29 [(0, .ref a0)] [] [(a2, .inr (7, [.int y8, .int y9, .int y10, .int y11, .int y12, .int y13, .ref a4, .ref a3, .ref a5, .ref a6, .ref a7, .ref a8, .ref a9, .ref a10, .ref a11, .ref a12, .ref a13, .ref a14])), (a3, .inl (E.2.2 2, 12, .inr (.inl f1))), (a0, .inr (3, [.ref a1, .int y0, .ref a2, .int y1, .int y2, .int r_27, .int r_28, .int r_29, .int r_30, .int r_7])), (a1, .inl (E.2.2 1, 1600, .inl f0))] 0 0
      refine mp_run hF mp_tabX3_ok [mp_i (.aload_n 0), mp_h (.getfield 95) [18, 2], mp_i (.istore_n 1), mp_i (.aload_n 0), mp_c (.iconst 0) 0, mp_c (.bipush 99) 99, mp_c (.iconst (-1)) (-1)] (by decide +kernel) ?_
      refine And.intro rfl (And.intro rfl ?_)
      show mp_W E X 2 39 [(1, .int r_7), (0, .ref a0)] [.int (-1), .int 99, .int 0, .ref a0] [(a2, .inr (7, [.int y8, .int y9, .int y10, .int y11, .int y12, .int y13, .ref a4, .ref a3, .ref a5, .ref a6, .ref a7, .ref a8, .ref a9, .ref a10, .ref a11, .ref a12, .ref a13, .ref a14])), (a3, .inl (E.2.2 2, 12, .inr (.inl f1))), (a0, .inr (3, [.ref a1, .int y0, .ref a2, .int y1, .int y2, .int r_27, .int r_28, .int r_29, .int r_30, .int r_7])), (a1, .inl (E.2.2 1, 1600, .inl f0))] 0 0
      refine mp_callV hF (As := [.int 0, .int 99, .int (-1)]) (rest := []) (wr := [(a2, .inr (7, [.int y8, .int y9, .int y10, .int y11, .int y12, .int y13, .ref a4, .ref a3, .ref a5, .ref a6, .ref a7, .ref a8, .ref a9, .ref a10, .ref a11, .ref a12, .ref a13, .ref a14])), (a3, .inl (E.2.2 2, 12, .inr (.inl f1)))]) (bX3_takeNumber_21 E a0 a1 a2 f0 y0 y1 y2 r_27 r_28 r_29 r_30 r_7 (-1) l_y0 u_y0 l_37 u_38 l_39 u_40) mp_lkX3_91 2 rfl [2, 3] [0, 1] rfl rfl rfl rfl rfl ⟨(Nat.le_of_ble_eq_true rfl), (Nat.le_of_ble_eq_true rfl), (Nat.le_of_ble_eq_true rfl), (Nat.le_of_ble_eq_true rfl)⟩ (Nat.le_of_ble_eq_true rfl) (by decide +kernel) (fun v_44 w_45 h_46 => ?_)
      rcases h_46 with ⟨r_47, rfl, l_48, u_49, rfl⟩ | ⟨r_50, r_51, r_52, r_53, rfl, c_54, c_55, c_56, c_57, l_58, u_59, l_60, u_61, l_62, u_63, u_64, rfl⟩
      · skip
        show mp_W E X 2 42 [(1, .int r_7), (0, .ref a0)] [.int 0] [(a2, .inr (7, [.int y8, .int y9, .int y10, .int y11, .int y12, .int y13, .ref a4, .ref a3, .ref a5, .ref a6, .ref a7, .ref a8, .ref a9, .ref a10, .ref a11, .ref a12, .ref a13, .ref a14])), (a3, .inl (E.2.2 2, 12, .inr (.inl f1))), (a0, .inr (3, [.ref a1, .int y0, .ref a2, .int r_47, .int r_28, .int r_27, .int r_28, .int r_29, .int r_30, .int r_7])), (a1, .inl (E.2.2 1, 1600, .inl f0))] 0 0
        refine mp_run hF mp_tabX3_ok [mp_h (.ifCond .ne 5) [47]] (by decide +kernel) ?_
        refine And.intro (fun c_65 => absurd c_65 (by decide)) (fun _ => ?_)
        show mp_W E X 2 45 [(1, .int r_7), (0, .ref a0)] [] [(a2, .inr (7, [.int y8, .int y9, .int y10, .int y11, .int y12, .int y13, .ref a4, .ref a3, .ref a5, .ref a6, .ref a7, .ref a8, .ref a9, .ref a10, .ref a11, .ref a12, .ref a13, .ref a14])), (a3, .inl (E.2.2 2, 12, .inr (.inl f1))), (a0, .inr (3, [.ref a1, .int y0, .ref a2, .int r_47, .int r_28, .int r_27, .int r_28, .int r_29, .int r_30, .int r_7])), (a1, .inl (E.2.2 1, 1600, .inl f0))] 0 0
        refine mp_run hF mp_tabX3_ok [mp_c (.iconst 0) 0] (by decide +kernel) ?_
        show mp_W E X 2 46 [(1, .int r_7), (0, .ref a0)] [.int 0] [(a2, .inr (7, [.int y8, .int y9, .int y10, .int y11, .int y12, .int y13, .ref a4, .ref a3, .ref a5, .ref a6, .ref a7, .ref a8, .ref a9, .ref a10, .ref a11, .ref a12, .ref a13, .ref a14])), (a3, .inl (E.2.2 2, 12, .inr (.inl f1))), (a0, .inr (3, [.ref a1, .int y0, .ref a2, .int r_47, .int r_28, .int r_27, .int r_28, .int r_29, .int r_30, .int r_7])), (a1, .inl (E.2.2 1, 1600, .inl f0))] 0 0
        exact mp_iret hF hQ rfl (by decide) (Nat.le_of_ble_eq_true rfl) (Nat.le_of_ble_eq_true rfl) [2, 3, 0, 1] (w' := [(a0, .inr (3, [.ref a1, .int y0, .ref a2, .int r_47, .int r_28, .int r_27, .int r_28, .int r_29, .int r_30, .int r_7])), (a1, .inl (E.2.2 1, 1600, .inl f0)), (a2, .inr (7, [.int y8, .int y9, .int y10, .int y11, .int y12, .int y13, .ref a4, .ref a3, .ref a5, .ref a6, .ref a7, .ref a8, .ref a9, .ref a10, .ref a11, .ref a12, .ref a13, .ref a14])), (a3, .inl (E.2.2 2, 12, .inr (.inl f1)))]) rfl rfl (Or.inl ⟨r_47, r_28, r_27, r_28, r_29, r_30, r_7, rfl, l_48, u_49, l_37, u_38, l_37, u_38, l_39, u_40, rfl⟩) (by decide +kernel)
      · skip
        have c_54 : r_27.toInt = 2 := c_54
        have c_55 : 0 ≤ r_30.toInt := c_55
        have c_56 : r_30.toInt ≤ 99 := c_56
        have c_57 : r_30.toInt ≠ (-1) := c_57
        show mp_W E X 2 42 [(1, .int r_7), (0, .ref a0)] [.int 1] [(a2, .inr (7, [.int y8, .int y9, .int y10, .int y11, .int y12, .int y13, .ref a4, .ref a3, .ref a5, .ref a6, .ref a7, .ref a8, .ref a9, .ref a10, .ref a11, .ref a12, .ref a13, .ref a14])), (a3, .inl (E.2.2 2, 12, .inr (.inl f1))), (a0, .inr (3, [.ref a1, .int y0, .ref a2, .int y1, .int y2, .int r_50, .int r_51, .int r_52, .int r_53, .int r_30])), (a1, .inl (E.2.2 1, 1600, .inl f0))] 0 0
        refine mp_run hF mp_tabX3_ok [mp_h (.ifCond .ne 5) [47]] (by decide +kernel) ?_
        refine And.intro (fun _ => ?_) (fun c_66 => absurd c_66 (by decide))
        show mp_W E X 2 47 [(1, .int r_7), (0, .ref a0)] [] [(a2, .inr (7, [.int y8, .int y9, .int y10, .int y11, .int y12, .int y13, .ref a4, .ref a3, .ref a5, .ref a6, .ref a7, .ref a8, .ref a9, .ref a10, .ref a11, .ref a12, .ref a13, .ref a14])), (a3, .inl (E.2.2 2, 12, .inr (.inl f1))), (a0, .inr (3, [.ref a1, .int y0, .ref a2, .int y1, .int y2, .int r_50, .int r_51, .int r_52, .int r_53, .int r_30])), (a1, .inl (E.2.2 1, 1600, .inl f0))] 0 0
        refine mp_run hF mp_tabX3_ok [mp_i (.aload_n 0), mp_h (.getfield 18) [11, 2], mp_i (.iload_n 1), mp_i (.aload_n 0), mp_h (.getfield 95) [18, 2], mp_c (.iconst 1) 1] (by decide +kernel) ?_
        refine And.intro rfl (And.intro rfl ?_)
        refine And.intro rfl (And.intro rfl ?_)
        show mp_W E X 2 57 [(1, .int r_7), (0, .ref a0)] [.int 1, .int r_30, .int r_7, .ref a2] [(a2, .inr (7, [.int y8, .int y9, .int y10, .int y11, .int y12, .int y13, .ref a4, .ref a3, .ref a5, .ref a6, .ref a7, .ref a8, .ref a9, .ref a10, .ref a11, .ref a12, .ref a13, .ref a14])), (a3, .inl (E.2.2 2, 12, .inr (.inl f1))), (a0, .inr (3, [.ref a1, .int y0, .ref a2, .int y1, .int y2, .int r_50, .int r_51, .int r_52, .int r_53, .int r_30])), (a1, .inl (E.2.2 1, 1600, .inl f0))] 0 0
        refine mp_callV hF (As := [.int r_7, .int r_30, .int 1]) (rest := []) (wr := [(a0, .inr (3, [.ref a1, .int y0, .ref a2, .int y1, .int y2, .int r_50, .int r_51, .int r_52, .int r_53, .int r_30])), (a1, .inl (E.2.2 1, 1600, .inl f0))]) (bX7_setShut_22 E a2 a3 a4 a5 a6 a7 a8 a9 a10 a11 a12 a13 a14 f1 y8 y9 y10 y11 y12 y13 r_7 r_30 1 (by omega) (by omega) (by omega) (by omega) l_y9 u_y9 l_y10 u_y10 l_y11 u_y11 l_y12 u_y12 l_y13 u_y13) mp_lkX3_154 0 rfl [0, 1] [2, 3] rfl rfl rfl rfl rfl ⟨(Nat.le_of_ble_eq_true rfl), (Nat.le_of_ble_eq_true rfl), (Nat.le_of_ble_eq_true rfl), (Nat.le_of_ble_eq_true rfl)⟩ (Nat.le_of_ble_eq_true rfl) (by decide +kernel) (fun v_67 w_68 h_69 => ?_)
        obtain ⟨g_70, rfl, rfl⟩ := h_69
        show mp_W E X 2 60 [(1, .int r_7), (0, .ref a0)] [] [(a0, .inr (3, [.ref a1, .int y0, .ref a2, .int y1, .int y2, .int r_50, .int r_51, .int r_52, .int r_53, .int r_30])), (a1, .inl (E.2.2 1, 1600, .inl f0)), (a2, .inr (7, [.int y8, .int y9, .int y10, .int y11, .int y12, .int y13, .ref a4, .ref a3, .ref a5, .ref a6, .ref a7, .ref a8, .ref a9, .ref a10, .ref a11, .ref a12, .ref a13, .ref a14])), (a3, .inl (E.2.2 2, 12, .inr (.inl g_70)))] 0 0
        refine mp_run hF mp_tabX3_ok [mp_c (.iconst 1) 1] (by decide +kernel) ?_
        show mp_W E X 2 61 [(1, .int r_7), (0, .ref a0)] [.int 1] [(a0, .inr (3, [.ref a1, .int y0, .ref a2, .int y1, .int y2, .int r_50, .int r_51, .int r_52, .int r_53, .int r_30])), (a1, .inl (E.2.2 1, 1600, .inl f0)), (a2, .inr (7, [.int y8, .int y9, .int y10, .int y11, .int y12, .int y13, .ref a4, .ref a3, .ref a5, .ref a6, .ref a7, .ref a8, .ref a9, .ref a10, .ref a11, .ref a12, .ref a13, .ref a14])), (a3, .inl (E.2.2 2, 12, .inr (.inl g_70)))] 0 0
        exact mp_iret hF hQ rfl (by decide) (Nat.le_of_ble_eq_true rfl) (Nat.le_of_ble_eq_true rfl) [0, 1, 2, 3] (w' := [(a0, .inr (3, [.ref a1, .int y0, .ref a2, .int y1, .int y2, .int r_50, .int r_51, .int r_52, .int r_53, .int r_30])), (a1, .inl (E.2.2 1, 1600, .inl f0)), (a2, .inr (7, [.int y8, .int y9, .int y10, .int y11, .int y12, .int y13, .ref a4, .ref a3, .ref a5, .ref a6, .ref a7, .ref a8, .ref a9, .ref a10, .ref a11, .ref a12, .ref a13, .ref a14])), (a3, .inl (E.2.2 2, 12, .inr (.inl g_70)))]) rfl rfl (Or.inr ⟨r_50, r_51, r_52, r_53, r_30, g_70, rfl, (by first | omega | decide), l_58, u_59, l_60, u_61, l_62, u_63, u_64, (by omega), (by omega), rfl⟩) (by decide +kernel)
set_option maxHeartbeats 4000000 in
set_option maxRecDepth 100000 in
theorem bX3_takeNumber_24 (E : mp_E) (a0 a1 a2 : Nat) (f0 : Nat → Int32) (y0 : Int32) (y1 : Int32) (y2 : Int32) (y3 : Int32) (y4 : Int32) (y5 : Int32) (y6 : Int32) (y7 : Int32) (x0 : Int32) (x1 : Int32) (l_x0 : 0 ≤ x0.toInt) (u_x0 : x0.toInt ≤ 5) (l_y0 : 0 ≤ y0.toInt) (u_y0 : y0.toInt ≤ 1600) (l_y4 : 0 ≤ y4.toInt) (u_y4 : y4.toInt ≤ 1600) (l_y5 : 0 ≤ y5.toInt) (u_y5 : y5.toInt ≤ 1600) : mp_Ct E yX3_takeNumber cX3_takeNumber 4 (some FieldType.boolean) 2 0 0 41 [.ref a0, .int 0, .int x0, .int x1] [(a0, .inr (3, [.ref a1, .int y0, .ref a2, .int y1, .int y2, .int y3, .int y4, .int y5, .int y6, .int y7])), (a1, .inl (E.2.2 1, 1600, .inl f0))] (fun v w' => (∃ r1 : Int32, v = some (.int 0) ∧ 1 ≤ r1.toInt ∧ r1.toInt ≤ 2 ∧ w' = [(a0, .inr (3, [.ref a1, .int y0, .ref a2, .int r1, .int y4, .int y3, .int y4, .int y5, .int y6, .int y7])), (a1, .inl (E.2.2 1, 1600, .inl f0))]) ∨ (∃ r1 : Int32, ∃ r2 : Int32, ∃ r3 : Int32, ∃ r4 : Int32, v = some (.int 1) ∧ y3.toInt = 2 ∧ 0 ≤ y6.toInt ∧ y6.toInt ≤ x0.toInt ∧ y6.toInt ≠ x1.toInt ∧ 0 ≤ r1.toInt ∧ r1.toInt ≤ 4 ∧ 0 ≤ r2.toInt ∧ r2.toInt ≤ 1600 ∧ 0 ≤ r3.toInt ∧ r3.toInt ≤ 1600 ∧ r4.toInt ≤ 100000000 ∧ w' = [(a0, .inr (3, [.ref a1, .int y0, .ref a2, .int y1, .int y2, .int r1, .int r2, .int r3, .int r4, .int y6])), (a1, .inl (E.2.2 1, 1600, .inl f0))])) := by
  refine mp_met false (by decide) (by decide) (Nat.le_of_ble_eq_true rfl) (fun X hF hQ => ?_)
  have hF : mp_F E X (RX3, cX3_takeNumber, 4, (2, 0, 0, 41), (some FieldType.boolean), false) := hF
  show mp_W E X 4 0 [(0, .ref a0), (1, .int 0), (2, .int x0), (3, .int x1)] [] [(a0, .inr (3, [.ref a1, .int y0, .ref a2, .int y1, .int y2, .int y3, .int y4, .int y5, .int y6, .int y7])), (a1, .inl (E.2.2 1, 1600, .inl f0))] 0 0
  refine mp_run hF mp_tabX3_ok [mp_i (.aload_n 0), mp_h (.getfield 41) [14, 0], mp_c (.iconst 2) 2, mp_h (.if_icmp .eq 9) [14]] (by decide +kernel) ?_
  refine And.intro rfl (And.intro rfl ?_)
  refine And.intro (fun c_1 => ?_) (fun c_1 => ?_)
  · have c_1 : y3.toInt = 2 := (congrArg Int32.toInt c_1)
    show mp_W E X 4 14 [(0, .ref a0), (1, .int 0), (2, .int x0), (3, .int x1)] [] [(a0, .inr (3, [.ref a1, .int y0, .ref a2, .int y1, .int y2, .int y3, .int y4, .int y5, .int y6, .int y7])), (a1, .inl (E.2.2 1, 1600, .inl f0))] 0 0
    refine mp_run hF mp_tabX3_ok [mp_i (.aload_n 0), mp_h (.getfield 158) [17, 0], mp_i (.iload_n 1), mp_h (.if_icmp .lt 19) [38]] (by decide +kernel) ?_
    refine And.intro rfl (And.intro rfl ?_)
    refine And.intro (fun c_2 => ?_) (fun c_2 => ?_)
    · have c_2 : y6.toInt < 0 := c_2
      show mp_W E X 4 38 [(0, .ref a0), (1, .int 0), (2, .int x0), (3, .int x1)] [] [(a0, .inr (3, [.ref a1, .int y0, .ref a2, .int y1, .int y2, .int y3, .int y4, .int y5, .int y6, .int y7])), (a1, .inl (E.2.2 1, 1600, .inl f0))] 0 0
      refine mp_run hF mp_tabX3_ok [mp_i (.aload_n 0), mp_c (.iconst 2) 2] (by decide +kernel) ?_
      show mp_W E X 4 40 [(0, .ref a0), (1, .int 0), (2, .int x0), (3, .int x1)] [.int 2, .ref a0] [(a0, .inr (3, [.ref a1, .int y0, .ref a2, .int y1, .int y2, .int y3, .int y4, .int y5, .int y6, .int y7])), (a1, .inl (E.2.2 1, 1600, .inl f0))] 0 0
      refine mp_callV hF (As := [.int 2]) (rest := []) (wr := [(a1, .inl (E.2.2 1, 1600, .inl f0))]) (bX3_fail_18 E a0 a1 a2 y0 y1 y2 y3 y4 y5 y6 y7 2 l_y0 u_y0 l_y4 u_y4 l_y5 u_y5) mp_lkX3_60 0 rfl [0] [1] rfl rfl rfl rfl rfl ⟨(Nat.le_of_ble_eq_true rfl), (Nat.le_of_ble_eq_true rfl), (Nat.le_of_ble_eq_true rfl), (Nat.le_of_ble_eq_true rfl)⟩ (Nat.le_of_ble_eq_true rfl) (by decide +kernel) (fun v_3 w_4 h_5 => ?_)
      obtain ⟨rfl, rfl⟩ := h_5
      show mp_W E X 4 43 [(0, .ref a0), (1, .int 0), (2, .int x0), (3, .int x1)] [.int 0] [(a1, .inl (E.2.2 1, 1600, .inl f0)), (a0, .inr (3, [.ref a1, .int y0, .ref a2, .int 2, .int y4, .int y3, .int y4, .int y5, .int y6, .int y7]))] 0 0
      exact mp_iret hF hQ rfl (by decide) (Nat.le_of_ble_eq_true rfl) (Nat.le_of_ble_eq_true rfl) [1, 0] (w' := [(a0, .inr (3, [.ref a1, .int y0, .ref a2, .int 2, .int y4, .int y3, .int y4, .int y5, .int y6, .int y7])), (a1, .inl (E.2.2 1, 1600, .inl f0))]) rfl rfl (Or.inl ⟨2, rfl, (by decide), (by decide), rfl⟩) (by decide +kernel)
    · have c_2 : 0 ≤ y6.toInt := c_2
      show mp_W E X 4 22 [(0, .ref a0), (1, .int 0), (2, .int x0), (3, .int x1)] [] [(a0, .inr (3, [.ref a1, .int y0, .ref a2, .int y1, .int y2, .int y3, .int y4, .int y5, .int y6, .int y7])), (a1, .inl (E.2.2 1, 1600, .inl f0))] 0 0
      refine mp_run hF mp_tabX3_ok [mp_i (.aload_n 0), mp_h (.getfield 158) [17, 0], mp_i (.iload_n 2), mp_h (.if_icmp .gt 11) [38]] (by decide +kernel) ?_
      refine And.intro rfl (And.intro rfl ?_)
      refine And.intro (fun c_6 => ?_) (fun c_6 => ?_)
      · have c_6 : x0.toInt < y6.toInt := c_6
        show mp_W E X 4 38 [(0, .ref a0), (1, .int 0), (2, .int x0), (3, .int x1)] [] [(a0, .inr (3, [.ref a1, .int y0, .ref a2, .int y1, .int y2, .int y3, .int y4, .int y5, .int y6, .int y7])), (a1, .inl (E.2.2 1, 1600, .inl f0))] 0 0
        refine mp_run hF mp_tabX3_ok [mp_i (.aload_n 0), mp_c (.iconst 2) 2] (by decide +kernel) ?_
        show mp_W E X 4 40 [(0, .ref a0), (1, .int 0), (2, .int x0), (3, .int x1)] [.int 2, .ref a0] [(a0, .inr (3, [.ref a1, .int y0, .ref a2, .int y1, .int y2, .int y3, .int y4, .int y5, .int y6, .int y7])), (a1, .inl (E.2.2 1, 1600, .inl f0))] 0 0
        refine mp_callV hF (As := [.int 2]) (rest := []) (wr := [(a1, .inl (E.2.2 1, 1600, .inl f0))]) (bX3_fail_18 E a0 a1 a2 y0 y1 y2 y3 y4 y5 y6 y7 2 l_y0 u_y0 l_y4 u_y4 l_y5 u_y5) mp_lkX3_60 0 rfl [0] [1] rfl rfl rfl rfl rfl ⟨(Nat.le_of_ble_eq_true rfl), (Nat.le_of_ble_eq_true rfl), (Nat.le_of_ble_eq_true rfl), (Nat.le_of_ble_eq_true rfl)⟩ (Nat.le_of_ble_eq_true rfl) (by decide +kernel) (fun v_7 w_8 h_9 => ?_)
        obtain ⟨rfl, rfl⟩ := h_9
        show mp_W E X 4 43 [(0, .ref a0), (1, .int 0), (2, .int x0), (3, .int x1)] [.int 0] [(a1, .inl (E.2.2 1, 1600, .inl f0)), (a0, .inr (3, [.ref a1, .int y0, .ref a2, .int 2, .int y4, .int y3, .int y4, .int y5, .int y6, .int y7]))] 0 0
        exact mp_iret hF hQ rfl (by decide) (Nat.le_of_ble_eq_true rfl) (Nat.le_of_ble_eq_true rfl) [1, 0] (w' := [(a0, .inr (3, [.ref a1, .int y0, .ref a2, .int 2, .int y4, .int y3, .int y4, .int y5, .int y6, .int y7])), (a1, .inl (E.2.2 1, 1600, .inl f0))]) rfl rfl (Or.inl ⟨2, rfl, (by decide), (by decide), rfl⟩) (by decide +kernel)
      · have c_6 : y6.toInt ≤ x0.toInt := c_6
        show mp_W E X 4 30 [(0, .ref a0), (1, .int 0), (2, .int x0), (3, .int x1)] [] [(a0, .inr (3, [.ref a1, .int y0, .ref a2, .int y1, .int y2, .int y3, .int y4, .int y5, .int y6, .int y7])), (a1, .inl (E.2.2 1, 1600, .inl f0))] 0 0
        refine mp_run hF mp_tabX3_ok [mp_i (.aload_n 0), mp_h (.getfield 158) [17, 0], mp_i (.iload_n 3), mp_h (.if_icmp .ne 9) [44]] (by decide +kernel) ?_
        refine And.intro rfl (And.intro rfl ?_)
        refine And.intro (fun c_10 => ?_) (fun c_10 => ?_)
        · have c_10 : y6.toInt ≠ x1.toInt := c_10
          show mp_W E X 4 44 [(0, .ref a0), (1, .int 0), (2, .int x0), (3, .int x1)] [] [(a0, .inr (3, [.ref a1, .int y0, .ref a2, .int y1, .int y2, .int y3, .int y4, .int y5, .int y6, .int y7])), (a1, .inl (E.2.2 1, 1600, .inl f0))] 0 0
          refine mp_run hF mp_tabX3_ok [mp_i (.aload_n 0), mp_i (.aload_n 0), mp_h (.getfield 158) [17, 0], mp_h (.putfield 95) [18, 0]] (by decide +kernel) ?_
          refine And.intro rfl (And.intro rfl ?_)
          refine And.intro rfl (And.intro rfl (And.intro rfl (And.intro rfl (And.intro (Nat.le_of_ble_eq_true rfl) ?_))))
          show mp_W E X 4 52 [(0, .ref a0), (1, .int 0), (2, .int x0), (3, .int x1)] [] [(a0, .inr (3, [.ref a1, .int y0, .ref a2, .int y1, .int y2, .int y3, .int y4, .int y5, .int y6, .int y6])), (a1, .inl (E.2.2 1, 1600, .inl f0))] 0 0
          refine mp_run hF mp_tabX3_ok [mp_i (.aload_n 0)] (by decide +kernel) ?_
          show mp_W E X 4 53 [(0, .ref a0), (1, .int 0), (2, .int x0), (3, .int x1)] [.ref a0] [(a0, .inr (3, [.ref a1, .int y0, .ref a2, .int y1, .int y2, .int y3, .int y4, .int y5, .int y6, .int y6])), (a1, .inl (E.2.2 1, 1600, .inl f0))] 0 0
          refine mp_callV hF (As := []) (rest := []) (wr := []) (bX3_step_8 E a0 a1 a2 f0 y0 y1 y2 y3 y4 y5 y6 y6 l_y0 u_y0 l_y4 u_y4 l_y5 u_y5) mp_lkX3_38 0 rfl [0, 1] [] rfl rfl rfl rfl rfl ⟨(Nat.le_of_ble_eq_true rfl), (Nat.le_of_ble_eq_true rfl), (Nat.le_of_ble_eq_true rfl), (Nat.le_of_ble_eq_true rfl)⟩ (Nat.le_of_ble_eq_true rfl) (by decide +kernel) (fun v_11 w_12 h_13 => ?_)
          obtain ⟨r_14, r_15, r_16, r_17, rfl, l_18, u_19, l_20, u_21, l_22, u_23, u_24, rfl⟩ := h_13
          show mp_W E X 4 56 [(0, .ref a0), (1, .int 0), (2, .int x0), (3, .int x1)] [] [(a0, .inr (3, [.ref a1, .int y0, .ref a2, .int y1, .int y2, .int r_14, .int r_15, .int r_16, .int r_17, .int y6])), (a1, .inl (E.2.2 1, 1600, .inl f0))] 0 0
          refine mp_run hF mp_tabX3_ok [mp_c (.iconst 1) 1] (by decide +kernel) ?_
          show mp_W E X 4 57 [(0, .ref a0), (1, .int 0), (2, .int x0), (3, .int x1)] [.int 1] [(a0, .inr (3, [.ref a1, .int y0, .ref a2, .int y1, .int y2, .int r_14, .int r_15, .int r_16, .int r_17, .int y6])), (a1, .inl (E.2.2 1, 1600, .inl f0))] 0 0
          exact mp_iret hF hQ rfl (by decide) (Nat.le_of_ble_eq_true rfl) (Nat.le_of_ble_eq_true rfl) [0, 1] (w' := [(a0, .inr (3, [.ref a1, .int y0, .ref a2, .int y1, .int y2, .int r_14, .int r_15, .int r_16, .int r_17, .int y6])), (a1, .inl (E.2.2 1, 1600, .inl f0))]) rfl rfl (Or.inr ⟨r_14, r_15, r_16, r_17, rfl, (by first | omega | decide), (by first | omega | decide), (by first | omega | decide), (by first | omega | decide), l_18, u_19, l_20, u_21, l_22, u_23, u_24, rfl⟩) (by decide +kernel)
        · have c_10 : y6.toInt = x1.toInt := (congrArg Int32.toInt c_10)
          show mp_W E X 4 38 [(0, .ref a0), (1, .int 0), (2, .int x0), (3, .int x1)] [] [(a0, .inr (3, [.ref a1, .int y0, .ref a2, .int y1, .int y2, .int y3, .int y4, .int y5, .int y6, .int y7])), (a1, .inl (E.2.2 1, 1600, .inl f0))] 0 0
          refine mp_run hF mp_tabX3_ok [mp_i (.aload_n 0), mp_c (.iconst 2) 2] (by decide +kernel) ?_
          show mp_W E X 4 40 [(0, .ref a0), (1, .int 0), (2, .int x0), (3, .int x1)] [.int 2, .ref a0] [(a0, .inr (3, [.ref a1, .int y0, .ref a2, .int y1, .int y2, .int y3, .int y4, .int y5, .int y6, .int y7])), (a1, .inl (E.2.2 1, 1600, .inl f0))] 0 0
          refine mp_callV hF (As := [.int 2]) (rest := []) (wr := [(a1, .inl (E.2.2 1, 1600, .inl f0))]) (bX3_fail_18 E a0 a1 a2 y0 y1 y2 y3 y4 y5 y6 y7 2 l_y0 u_y0 l_y4 u_y4 l_y5 u_y5) mp_lkX3_60 0 rfl [0] [1] rfl rfl rfl rfl rfl ⟨(Nat.le_of_ble_eq_true rfl), (Nat.le_of_ble_eq_true rfl), (Nat.le_of_ble_eq_true rfl), (Nat.le_of_ble_eq_true rfl)⟩ (Nat.le_of_ble_eq_true rfl) (by decide +kernel) (fun v_25 w_26 h_27 => ?_)
          obtain ⟨rfl, rfl⟩ := h_27
          show mp_W E X 4 43 [(0, .ref a0), (1, .int 0), (2, .int x0), (3, .int x1)] [.int 0] [(a1, .inl (E.2.2 1, 1600, .inl f0)), (a0, .inr (3, [.ref a1, .int y0, .ref a2, .int 2, .int y4, .int y3, .int y4, .int y5, .int y6, .int y7]))] 0 0
          exact mp_iret hF hQ rfl (by decide) (Nat.le_of_ble_eq_true rfl) (Nat.le_of_ble_eq_true rfl) [1, 0] (w' := [(a0, .inr (3, [.ref a1, .int y0, .ref a2, .int 2, .int y4, .int y3, .int y4, .int y5, .int y6, .int y7])), (a1, .inl (E.2.2 1, 1600, .inl f0))]) rfl rfl (Or.inl ⟨2, rfl, (by decide), (by decide), rfl⟩) (by decide +kernel)
  · have c_1 : y3.toInt ≠ 2 := c_1
    show mp_W E X 4 8 [(0, .ref a0), (1, .int 0), (2, .int x0), (3, .int x1)] [] [(a0, .inr (3, [.ref a1, .int y0, .ref a2, .int y1, .int y2, .int y3, .int y4, .int y5, .int y6, .int y7])), (a1, .inl (E.2.2 1, 1600, .inl f0))] 0 0
    refine mp_run hF mp_tabX3_ok [mp_i (.aload_n 0), mp_c (.iconst 1) 1] (by decide +kernel) ?_
    show mp_W E X 4 10 [(0, .ref a0), (1, .int 0), (2, .int x0), (3, .int x1)] [.int 1, .ref a0] [(a0, .inr (3, [.ref a1, .int y0, .ref a2, .int y1, .int y2, .int y3, .int y4, .int y5, .int y6, .int y7])), (a1, .inl (E.2.2 1, 1600, .inl f0))] 0 0
    refine mp_callV hF (As := [.int 1]) (rest := []) (wr := [(a1, .inl (E.2.2 1, 1600, .inl f0))]) (bX3_fail_18 E a0 a1 a2 y0 y1 y2 y3 y4 y5 y6 y7 1 l_y0 u_y0 l_y4 u_y4 l_y5 u_y5) mp_lkX3_60 0 rfl [0] [1] rfl rfl rfl rfl rfl ⟨(Nat.le_of_ble_eq_true rfl), (Nat.le_of_ble_eq_true rfl), (Nat.le_of_ble_eq_true rfl), (Nat.le_of_ble_eq_true rfl)⟩ (Nat.le_of_ble_eq_true rfl) (by decide +kernel) (fun v_28 w_29 h_30 => ?_)
    obtain ⟨rfl, rfl⟩ := h_30
    show mp_W E X 4 13 [(0, .ref a0), (1, .int 0), (2, .int x0), (3, .int x1)] [.int 0] [(a1, .inl (E.2.2 1, 1600, .inl f0)), (a0, .inr (3, [.ref a1, .int y0, .ref a2, .int 1, .int y4, .int y3, .int y4, .int y5, .int y6, .int y7]))] 0 0
    exact mp_iret hF hQ rfl (by decide) (Nat.le_of_ble_eq_true rfl) (Nat.le_of_ble_eq_true rfl) [1, 0] (w' := [(a0, .inr (3, [.ref a1, .int y0, .ref a2, .int 1, .int y4, .int y3, .int y4, .int y5, .int y6, .int y7])), (a1, .inl (E.2.2 1, 1600, .inl f0))]) rfl rfl (Or.inl ⟨1, rfl, (by decide), (by decide), rfl⟩) (by decide +kernel)
set_option maxHeartbeats 4000000 in
set_option maxRecDepth 100000 in
theorem bX3_takeNumber_25 (E : mp_E) (a0 a1 a2 : Nat) (f0 : Nat → Int32) (y0 : Int32) (y1 : Int32) (y2 : Int32) (y3 : Int32) (y4 : Int32) (y5 : Int32) (y6 : Int32) (y7 : Int32) (x0 : Int32) (l_y0 : 0 ≤ y0.toInt) (u_y0 : y0.toInt ≤ 1600) (l_y4 : 0 ≤ y4.toInt) (u_y4 : y4.toInt ≤ 1600) (l_y5 : 0 ≤ y5.toInt) (u_y5 : y5.toInt ≤ 1600) : mp_Ct E yX3_takeNumber cX3_takeNumber 4 (some FieldType.boolean) 2 0 0 41 [.ref a0, .int 1, .int 1000000, .int x0] [(a0, .inr (3, [.ref a1, .int y0, .ref a2, .int y1, .int y2, .int y3, .int y4, .int y5, .int y6, .int y7])), (a1, .inl (E.2.2 1, 1600, .inl f0))] (fun v w' => (∃ r1 : Int32, v = some (.int 0) ∧ 1 ≤ r1.toInt ∧ r1.toInt ≤ 2 ∧ w' = [(a0, .inr (3, [.ref a1, .int y0, .ref a2, .int r1, .int y4, .int y3, .int y4, .int y5, .int y6, .int y7])), (a1, .inl (E.2.2 1, 1600, .inl f0))]) ∨ (∃ r1 : Int32, ∃ r2 : Int32, ∃ r3 : Int32, ∃ r4 : Int32, v = some (.int 1) ∧ y3.toInt = 2 ∧ 1 ≤ y6.toInt ∧ y6.toInt ≤ 1000000 ∧ y6.toInt ≠ x0.toInt ∧ 0 ≤ r1.toInt ∧ r1.toInt ≤ 4 ∧ 0 ≤ r2.toInt ∧ r2.toInt ≤ 1600 ∧ 0 ≤ r3.toInt ∧ r3.toInt ≤ 1600 ∧ r4.toInt ≤ 100000000 ∧ w' = [(a0, .inr (3, [.ref a1, .int y0, .ref a2, .int y1, .int y2, .int r1, .int r2, .int r3, .int r4, .int y6])), (a1, .inl (E.2.2 1, 1600, .inl f0))])) := by
  refine mp_met false (by decide) (by decide) (Nat.le_of_ble_eq_true rfl) (fun X hF hQ => ?_)
  have hF : mp_F E X (RX3, cX3_takeNumber, 4, (2, 0, 0, 41), (some FieldType.boolean), false) := hF
  show mp_W E X 4 0 [(0, .ref a0), (1, .int 1), (2, .int 1000000), (3, .int x0)] [] [(a0, .inr (3, [.ref a1, .int y0, .ref a2, .int y1, .int y2, .int y3, .int y4, .int y5, .int y6, .int y7])), (a1, .inl (E.2.2 1, 1600, .inl f0))] 0 0
  refine mp_run hF mp_tabX3_ok [mp_i (.aload_n 0), mp_h (.getfield 41) [14, 0], mp_c (.iconst 2) 2, mp_h (.if_icmp .eq 9) [14]] (by decide +kernel) ?_
  refine And.intro rfl (And.intro rfl ?_)
  refine And.intro (fun c_1 => ?_) (fun c_1 => ?_)
  · have c_1 : y3.toInt = 2 := (congrArg Int32.toInt c_1)
    show mp_W E X 4 14 [(0, .ref a0), (1, .int 1), (2, .int 1000000), (3, .int x0)] [] [(a0, .inr (3, [.ref a1, .int y0, .ref a2, .int y1, .int y2, .int y3, .int y4, .int y5, .int y6, .int y7])), (a1, .inl (E.2.2 1, 1600, .inl f0))] 0 0
    refine mp_run hF mp_tabX3_ok [mp_i (.aload_n 0), mp_h (.getfield 158) [17, 0], mp_i (.iload_n 1), mp_h (.if_icmp .lt 19) [38]] (by decide +kernel) ?_
    refine And.intro rfl (And.intro rfl ?_)
    refine And.intro (fun c_2 => ?_) (fun c_2 => ?_)
    · have c_2 : y6.toInt < 1 := c_2
      show mp_W E X 4 38 [(0, .ref a0), (1, .int 1), (2, .int 1000000), (3, .int x0)] [] [(a0, .inr (3, [.ref a1, .int y0, .ref a2, .int y1, .int y2, .int y3, .int y4, .int y5, .int y6, .int y7])), (a1, .inl (E.2.2 1, 1600, .inl f0))] 0 0
      refine mp_run hF mp_tabX3_ok [mp_i (.aload_n 0), mp_c (.iconst 2) 2] (by decide +kernel) ?_
      show mp_W E X 4 40 [(0, .ref a0), (1, .int 1), (2, .int 1000000), (3, .int x0)] [.int 2, .ref a0] [(a0, .inr (3, [.ref a1, .int y0, .ref a2, .int y1, .int y2, .int y3, .int y4, .int y5, .int y6, .int y7])), (a1, .inl (E.2.2 1, 1600, .inl f0))] 0 0
      refine mp_callV hF (As := [.int 2]) (rest := []) (wr := [(a1, .inl (E.2.2 1, 1600, .inl f0))]) (bX3_fail_18 E a0 a1 a2 y0 y1 y2 y3 y4 y5 y6 y7 2 l_y0 u_y0 l_y4 u_y4 l_y5 u_y5) mp_lkX3_60 0 rfl [0] [1] rfl rfl rfl rfl rfl ⟨(Nat.le_of_ble_eq_true rfl), (Nat.le_of_ble_eq_true rfl), (Nat.le_of_ble_eq_true rfl), (Nat.le_of_ble_eq_true rfl)⟩ (Nat.le_of_ble_eq_true rfl) (by decide +kernel) (fun v_3 w_4 h_5 => ?_)
      obtain ⟨rfl, rfl⟩ := h_5
      show mp_W E X 4 43 [(0, .ref a0), (1, .int 1), (2, .int 1000000), (3, .int x0)] [.int 0] [(a1, .inl (E.2.2 1, 1600, .inl f0)), (a0, .inr (3, [.ref a1, .int y0, .ref a2, .int 2, .int y4, .int y3, .int y4, .int y5, .int y6, .int y7]))] 0 0
      exact mp_iret hF hQ rfl (by decide) (Nat.le_of_ble_eq_true rfl) (Nat.le_of_ble_eq_true rfl) [1, 0] (w' := [(a0, .inr (3, [.ref a1, .int y0, .ref a2, .int 2, .int y4, .int y3, .int y4, .int y5, .int y6, .int y7])), (a1, .inl (E.2.2 1, 1600, .inl f0))]) rfl rfl (Or.inl ⟨2, rfl, (by decide), (by decide), rfl⟩) (by decide +kernel)
    · have c_2 : 1 ≤ y6.toInt := c_2
      show mp_W E X 4 22 [(0, .ref a0), (1, .int 1), (2, .int 1000000), (3, .int x0)] [] [(a0, .inr (3, [.ref a1, .int y0, .ref a2, .int y1, .int y2, .int y3, .int y4, .int y5, .int y6, .int y7])), (a1, .inl (E.2.2 1, 1600, .inl f0))] 0 0
      refine mp_run hF mp_tabX3_ok [mp_i (.aload_n 0), mp_h (.getfield 158) [17, 0], mp_i (.iload_n 2), mp_h (.if_icmp .gt 11) [38]] (by decide +kernel) ?_
      refine And.intro rfl (And.intro rfl ?_)
      refine And.intro (fun c_6 => ?_) (fun c_6 => ?_)
      · have c_6 : 1000000 < y6.toInt := c_6
        show mp_W E X 4 38 [(0, .ref a0), (1, .int 1), (2, .int 1000000), (3, .int x0)] [] [(a0, .inr (3, [.ref a1, .int y0, .ref a2, .int y1, .int y2, .int y3, .int y4, .int y5, .int y6, .int y7])), (a1, .inl (E.2.2 1, 1600, .inl f0))] 0 0
        refine mp_run hF mp_tabX3_ok [mp_i (.aload_n 0), mp_c (.iconst 2) 2] (by decide +kernel) ?_
        show mp_W E X 4 40 [(0, .ref a0), (1, .int 1), (2, .int 1000000), (3, .int x0)] [.int 2, .ref a0] [(a0, .inr (3, [.ref a1, .int y0, .ref a2, .int y1, .int y2, .int y3, .int y4, .int y5, .int y6, .int y7])), (a1, .inl (E.2.2 1, 1600, .inl f0))] 0 0
        refine mp_callV hF (As := [.int 2]) (rest := []) (wr := [(a1, .inl (E.2.2 1, 1600, .inl f0))]) (bX3_fail_18 E a0 a1 a2 y0 y1 y2 y3 y4 y5 y6 y7 2 l_y0 u_y0 l_y4 u_y4 l_y5 u_y5) mp_lkX3_60 0 rfl [0] [1] rfl rfl rfl rfl rfl ⟨(Nat.le_of_ble_eq_true rfl), (Nat.le_of_ble_eq_true rfl), (Nat.le_of_ble_eq_true rfl), (Nat.le_of_ble_eq_true rfl)⟩ (Nat.le_of_ble_eq_true rfl) (by decide +kernel) (fun v_7 w_8 h_9 => ?_)
        obtain ⟨rfl, rfl⟩ := h_9
        show mp_W E X 4 43 [(0, .ref a0), (1, .int 1), (2, .int 1000000), (3, .int x0)] [.int 0] [(a1, .inl (E.2.2 1, 1600, .inl f0)), (a0, .inr (3, [.ref a1, .int y0, .ref a2, .int 2, .int y4, .int y3, .int y4, .int y5, .int y6, .int y7]))] 0 0
        exact mp_iret hF hQ rfl (by decide) (Nat.le_of_ble_eq_true rfl) (Nat.le_of_ble_eq_true rfl) [1, 0] (w' := [(a0, .inr (3, [.ref a1, .int y0, .ref a2, .int 2, .int y4, .int y3, .int y4, .int y5, .int y6, .int y7])), (a1, .inl (E.2.2 1, 1600, .inl f0))]) rfl rfl (Or.inl ⟨2, rfl, (by decide), (by decide), rfl⟩) (by decide +kernel)
      · have c_6 : y6.toInt ≤ 1000000 := c_6
        show mp_W E X 4 30 [(0, .ref a0), (1, .int 1), (2, .int 1000000), (3, .int x0)] [] [(a0, .inr (3, [.ref a1, .int y0, .ref a2, .int y1, .int y2, .int y3, .int y4, .int y5, .int y6, .int y7])), (a1, .inl (E.2.2 1, 1600, .inl f0))] 0 0
        refine mp_run hF mp_tabX3_ok [mp_i (.aload_n 0), mp_h (.getfield 158) [17, 0], mp_i (.iload_n 3), mp_h (.if_icmp .ne 9) [44]] (by decide +kernel) ?_
        refine And.intro rfl (And.intro rfl ?_)
        refine And.intro (fun c_10 => ?_) (fun c_10 => ?_)
        · have c_10 : y6.toInt ≠ x0.toInt := c_10
          show mp_W E X 4 44 [(0, .ref a0), (1, .int 1), (2, .int 1000000), (3, .int x0)] [] [(a0, .inr (3, [.ref a1, .int y0, .ref a2, .int y1, .int y2, .int y3, .int y4, .int y5, .int y6, .int y7])), (a1, .inl (E.2.2 1, 1600, .inl f0))] 0 0
          refine mp_run hF mp_tabX3_ok [mp_i (.aload_n 0), mp_i (.aload_n 0), mp_h (.getfield 158) [17, 0], mp_h (.putfield 95) [18, 0]] (by decide +kernel) ?_
          refine And.intro rfl (And.intro rfl ?_)
          refine And.intro rfl (And.intro rfl (And.intro rfl (And.intro rfl (And.intro (Nat.le_of_ble_eq_true rfl) ?_))))
          show mp_W E X 4 52 [(0, .ref a0), (1, .int 1), (2, .int 1000000), (3, .int x0)] [] [(a0, .inr (3, [.ref a1, .int y0, .ref a2, .int y1, .int y2, .int y3, .int y4, .int y5, .int y6, .int y6])), (a1, .inl (E.2.2 1, 1600, .inl f0))] 0 0
          refine mp_run hF mp_tabX3_ok [mp_i (.aload_n 0)] (by decide +kernel) ?_
          show mp_W E X 4 53 [(0, .ref a0), (1, .int 1), (2, .int 1000000), (3, .int x0)] [.ref a0] [(a0, .inr (3, [.ref a1, .int y0, .ref a2, .int y1, .int y2, .int y3, .int y4, .int y5, .int y6, .int y6])), (a1, .inl (E.2.2 1, 1600, .inl f0))] 0 0
          refine mp_callV hF (As := []) (rest := []) (wr := []) (bX3_step_8 E a0 a1 a2 f0 y0 y1 y2 y3 y4 y5 y6 y6 l_y0 u_y0 l_y4 u_y4 l_y5 u_y5) mp_lkX3_38 0 rfl [0, 1] [] rfl rfl rfl rfl rfl ⟨(Nat.le_of_ble_eq_true rfl), (Nat.le_of_ble_eq_true rfl), (Nat.le_of_ble_eq_true rfl), (Nat.le_of_ble_eq_true rfl)⟩ (Nat.le_of_ble_eq_true rfl) (by decide +kernel) (fun v_11 w_12 h_13 => ?_)
          obtain ⟨r_14, r_15, r_16, r_17, rfl, l_18, u_19, l_20, u_21, l_22, u_23, u_24, rfl⟩ := h_13
          show mp_W E X 4 56 [(0, .ref a0), (1, .int 1), (2, .int 1000000), (3, .int x0)] [] [(a0, .inr (3, [.ref a1, .int y0, .ref a2, .int y1, .int y2, .int r_14, .int r_15, .int r_16, .int r_17, .int y6])), (a1, .inl (E.2.2 1, 1600, .inl f0))] 0 0
          refine mp_run hF mp_tabX3_ok [mp_c (.iconst 1) 1] (by decide +kernel) ?_
          show mp_W E X 4 57 [(0, .ref a0), (1, .int 1), (2, .int 1000000), (3, .int x0)] [.int 1] [(a0, .inr (3, [.ref a1, .int y0, .ref a2, .int y1, .int y2, .int r_14, .int r_15, .int r_16, .int r_17, .int y6])), (a1, .inl (E.2.2 1, 1600, .inl f0))] 0 0
          exact mp_iret hF hQ rfl (by decide) (Nat.le_of_ble_eq_true rfl) (Nat.le_of_ble_eq_true rfl) [0, 1] (w' := [(a0, .inr (3, [.ref a1, .int y0, .ref a2, .int y1, .int y2, .int r_14, .int r_15, .int r_16, .int r_17, .int y6])), (a1, .inl (E.2.2 1, 1600, .inl f0))]) rfl rfl (Or.inr ⟨r_14, r_15, r_16, r_17, rfl, (by first | omega | decide), (by first | omega | decide), (by first | omega | decide), (by first | omega | decide), l_18, u_19, l_20, u_21, l_22, u_23, u_24, rfl⟩) (by decide +kernel)
        · have c_10 : y6.toInt = x0.toInt := (congrArg Int32.toInt c_10)
          show mp_W E X 4 38 [(0, .ref a0), (1, .int 1), (2, .int 1000000), (3, .int x0)] [] [(a0, .inr (3, [.ref a1, .int y0, .ref a2, .int y1, .int y2, .int y3, .int y4, .int y5, .int y6, .int y7])), (a1, .inl (E.2.2 1, 1600, .inl f0))] 0 0
          refine mp_run hF mp_tabX3_ok [mp_i (.aload_n 0), mp_c (.iconst 2) 2] (by decide +kernel) ?_
          show mp_W E X 4 40 [(0, .ref a0), (1, .int 1), (2, .int 1000000), (3, .int x0)] [.int 2, .ref a0] [(a0, .inr (3, [.ref a1, .int y0, .ref a2, .int y1, .int y2, .int y3, .int y4, .int y5, .int y6, .int y7])), (a1, .inl (E.2.2 1, 1600, .inl f0))] 0 0
          refine mp_callV hF (As := [.int 2]) (rest := []) (wr := [(a1, .inl (E.2.2 1, 1600, .inl f0))]) (bX3_fail_18 E a0 a1 a2 y0 y1 y2 y3 y4 y5 y6 y7 2 l_y0 u_y0 l_y4 u_y4 l_y5 u_y5) mp_lkX3_60 0 rfl [0] [1] rfl rfl rfl rfl rfl ⟨(Nat.le_of_ble_eq_true rfl), (Nat.le_of_ble_eq_true rfl), (Nat.le_of_ble_eq_true rfl), (Nat.le_of_ble_eq_true rfl)⟩ (Nat.le_of_ble_eq_true rfl) (by decide +kernel) (fun v_25 w_26 h_27 => ?_)
          obtain ⟨rfl, rfl⟩ := h_27
          show mp_W E X 4 43 [(0, .ref a0), (1, .int 1), (2, .int 1000000), (3, .int x0)] [.int 0] [(a1, .inl (E.2.2 1, 1600, .inl f0)), (a0, .inr (3, [.ref a1, .int y0, .ref a2, .int 2, .int y4, .int y3, .int y4, .int y5, .int y6, .int y7]))] 0 0
          exact mp_iret hF hQ rfl (by decide) (Nat.le_of_ble_eq_true rfl) (Nat.le_of_ble_eq_true rfl) [1, 0] (w' := [(a0, .inr (3, [.ref a1, .int y0, .ref a2, .int 2, .int y4, .int y3, .int y4, .int y5, .int y6, .int y7])), (a1, .inl (E.2.2 1, 1600, .inl f0))]) rfl rfl (Or.inl ⟨2, rfl, (by decide), (by decide), rfl⟩) (by decide +kernel)
  · have c_1 : y3.toInt ≠ 2 := c_1
    show mp_W E X 4 8 [(0, .ref a0), (1, .int 1), (2, .int 1000000), (3, .int x0)] [] [(a0, .inr (3, [.ref a1, .int y0, .ref a2, .int y1, .int y2, .int y3, .int y4, .int y5, .int y6, .int y7])), (a1, .inl (E.2.2 1, 1600, .inl f0))] 0 0
    refine mp_run hF mp_tabX3_ok [mp_i (.aload_n 0), mp_c (.iconst 1) 1] (by decide +kernel) ?_
    show mp_W E X 4 10 [(0, .ref a0), (1, .int 1), (2, .int 1000000), (3, .int x0)] [.int 1, .ref a0] [(a0, .inr (3, [.ref a1, .int y0, .ref a2, .int y1, .int y2, .int y3, .int y4, .int y5, .int y6, .int y7])), (a1, .inl (E.2.2 1, 1600, .inl f0))] 0 0
    refine mp_callV hF (As := [.int 1]) (rest := []) (wr := [(a1, .inl (E.2.2 1, 1600, .inl f0))]) (bX3_fail_18 E a0 a1 a2 y0 y1 y2 y3 y4 y5 y6 y7 1 l_y0 u_y0 l_y4 u_y4 l_y5 u_y5) mp_lkX3_60 0 rfl [0] [1] rfl rfl rfl rfl rfl ⟨(Nat.le_of_ble_eq_true rfl), (Nat.le_of_ble_eq_true rfl), (Nat.le_of_ble_eq_true rfl), (Nat.le_of_ble_eq_true rfl)⟩ (Nat.le_of_ble_eq_true rfl) (by decide +kernel) (fun v_28 w_29 h_30 => ?_)
    obtain ⟨rfl, rfl⟩ := h_30
    show mp_W E X 4 13 [(0, .ref a0), (1, .int 1), (2, .int 1000000), (3, .int x0)] [.int 0] [(a1, .inl (E.2.2 1, 1600, .inl f0)), (a0, .inr (3, [.ref a1, .int y0, .ref a2, .int 1, .int y4, .int y3, .int y4, .int y5, .int y6, .int y7]))] 0 0
    exact mp_iret hF hQ rfl (by decide) (Nat.le_of_ble_eq_true rfl) (Nat.le_of_ble_eq_true rfl) [1, 0] (w' := [(a0, .inr (3, [.ref a1, .int y0, .ref a2, .int 1, .int y4, .int y3, .int y4, .int y5, .int y6, .int y7])), (a1, .inl (E.2.2 1, 1600, .inl f0))]) rfl rfl (Or.inl ⟨1, rfl, (by decide), (by decide), rfl⟩) (by decide +kernel)
set_option maxHeartbeats 4000000 in
set_option maxRecDepth 100000 in
theorem bX3_takeNumber_26 (E : mp_E) (a0 a1 a2 : Nat) (f0 : Nat → Int32) (y0 : Int32) (y1 : Int32) (y2 : Int32) (y3 : Int32) (y4 : Int32) (y5 : Int32) (y6 : Int32) (y7 : Int32) (x0 : Int32) (x1 : Int32) (l_x0 : 0 ≤ x0.toInt) (u_x0 : x0.toInt ≤ 99) (l_y0 : 0 ≤ y0.toInt) (u_y0 : y0.toInt ≤ 1600) (l_y4 : 0 ≤ y4.toInt) (u_y4 : y4.toInt ≤ 1600) (l_y5 : 0 ≤ y5.toInt) (u_y5 : y5.toInt ≤ 1600) : mp_Ct E yX3_takeNumber cX3_takeNumber 4 (some FieldType.boolean) 2 0 0 41 [.ref a0, .int 0, .int x0, .int x1] [(a0, .inr (3, [.ref a1, .int y0, .ref a2, .int y1, .int y2, .int y3, .int y4, .int y5, .int y6, .int y7])), (a1, .inl (E.2.2 1, 1600, .inl f0))] (fun v w' => (∃ r1 : Int32, v = some (.int 0) ∧ 1 ≤ r1.toInt ∧ r1.toInt ≤ 2 ∧ w' = [(a0, .inr (3, [.ref a1, .int y0, .ref a2, .int r1, .int y4, .int y3, .int y4, .int y5, .int y6, .int y7])), (a1, .inl (E.2.2 1, 1600, .inl f0))]) ∨ (∃ r1 : Int32, ∃ r2 : Int32, ∃ r3 : Int32, ∃ r4 : Int32, v = some (.int 1) ∧ y3.toInt = 2 ∧ 0 ≤ y6.toInt ∧ y6.toInt ≤ x0.toInt ∧ y6.toInt ≠ x1.toInt ∧ 0 ≤ r1.toInt ∧ r1.toInt ≤ 4 ∧ 0 ≤ r2.toInt ∧ r2.toInt ≤ 1600 ∧ 0 ≤ r3.toInt ∧ r3.toInt ≤ 1600 ∧ r4.toInt ≤ 100000000 ∧ w' = [(a0, .inr (3, [.ref a1, .int y0, .ref a2, .int y1, .int y2, .int r1, .int r2, .int r3, .int r4, .int y6])), (a1, .inl (E.2.2 1, 1600, .inl f0))])) := by
  refine mp_met false (by decide) (by decide) (Nat.le_of_ble_eq_true rfl) (fun X hF hQ => ?_)
  have hF : mp_F E X (RX3, cX3_takeNumber, 4, (2, 0, 0, 41), (some FieldType.boolean), false) := hF
  show mp_W E X 4 0 [(0, .ref a0), (1, .int 0), (2, .int x0), (3, .int x1)] [] [(a0, .inr (3, [.ref a1, .int y0, .ref a2, .int y1, .int y2, .int y3, .int y4, .int y5, .int y6, .int y7])), (a1, .inl (E.2.2 1, 1600, .inl f0))] 0 0
  refine mp_run hF mp_tabX3_ok [mp_i (.aload_n 0), mp_h (.getfield 41) [14, 0], mp_c (.iconst 2) 2, mp_h (.if_icmp .eq 9) [14]] (by decide +kernel) ?_
  refine And.intro rfl (And.intro rfl ?_)
  refine And.intro (fun c_1 => ?_) (fun c_1 => ?_)
  · have c_1 : y3.toInt = 2 := (congrArg Int32.toInt c_1)
    show mp_W E X 4 14 [(0, .ref a0), (1, .int 0), (2, .int x0), (3, .int x1)] [] [(a0, .inr (3, [.ref a1, .int y0, .ref a2, .int y1, .int y2, .int y3, .int y4, .int y5, .int y6, .int y7])), (a1, .inl (E.2.2 1, 1600, .inl f0))] 0 0
    refine mp_run hF mp_tabX3_ok [mp_i (.aload_n 0), mp_h (.getfield 158) [17, 0], mp_i (.iload_n 1), mp_h (.if_icmp .lt 19) [38]] (by decide +kernel) ?_
    refine And.intro rfl (And.intro rfl ?_)
    refine And.intro (fun c_2 => ?_) (fun c_2 => ?_)
    · have c_2 : y6.toInt < 0 := c_2
      show mp_W E X 4 38 [(0, .ref a0), (1, .int 0), (2, .int x0), (3, .int x1)] [] [(a0, .inr (3, [.ref a1, .int y0, .ref a2, .int y1, .int y2, .int y3, .int y4, .int y5, .int y6, .int y7])), (a1, .inl (E.2.2 1, 1600, .inl f0))] 0 0
      refine mp_run hF mp_tabX3_ok [mp_i (.aload_n 0), mp_c (.iconst 2) 2] (by decide +kernel) ?_
      show mp_W E X 4 40 [(0, .ref a0), (1, .int 0), (2, .int x0), (3, .int x1)] [.int 2, .ref a0] [(a0, .inr (3, [.ref a1, .int y0, .ref a2, .int y1, .int y2, .int y3, .int y4, .int y5, .int y6, .int y7])), (a1, .inl (E.2.2 1, 1600, .inl f0))] 0 0
      refine mp_callV hF (As := [.int 2]) (rest := []) (wr := [(a1, .inl (E.2.2 1, 1600, .inl f0))]) (bX3_fail_18 E a0 a1 a2 y0 y1 y2 y3 y4 y5 y6 y7 2 l_y0 u_y0 l_y4 u_y4 l_y5 u_y5) mp_lkX3_60 0 rfl [0] [1] rfl rfl rfl rfl rfl ⟨(Nat.le_of_ble_eq_true rfl), (Nat.le_of_ble_eq_true rfl), (Nat.le_of_ble_eq_true rfl), (Nat.le_of_ble_eq_true rfl)⟩ (Nat.le_of_ble_eq_true rfl) (by decide +kernel) (fun v_3 w_4 h_5 => ?_)
      obtain ⟨rfl, rfl⟩ := h_5
      show mp_W E X 4 43 [(0, .ref a0), (1, .int 0), (2, .int x0), (3, .int x1)] [.int 0] [(a1, .inl (E.2.2 1, 1600, .inl f0)), (a0, .inr (3, [.ref a1, .int y0, .ref a2, .int 2, .int y4, .int y3, .int y4, .int y5, .int y6, .int y7]))] 0 0
      exact mp_iret hF hQ rfl (by decide) (Nat.le_of_ble_eq_true rfl) (Nat.le_of_ble_eq_true rfl) [1, 0] (w' := [(a0, .inr (3, [.ref a1, .int y0, .ref a2, .int 2, .int y4, .int y3, .int y4, .int y5, .int y6, .int y7])), (a1, .inl (E.2.2 1, 1600, .inl f0))]) rfl rfl (Or.inl ⟨2, rfl, (by decide), (by decide), rfl⟩) (by decide +kernel)
    · have c_2 : 0 ≤ y6.toInt := c_2
      show mp_W E X 4 22 [(0, .ref a0), (1, .int 0), (2, .int x0), (3, .int x1)] [] [(a0, .inr (3, [.ref a1, .int y0, .ref a2, .int y1, .int y2, .int y3, .int y4, .int y5, .int y6, .int y7])), (a1, .inl (E.2.2 1, 1600, .inl f0))] 0 0
      refine mp_run hF mp_tabX3_ok [mp_i (.aload_n 0), mp_h (.getfield 158) [17, 0], mp_i (.iload_n 2), mp_h (.if_icmp .gt 11) [38]] (by decide +kernel) ?_
      refine And.intro rfl (And.intro rfl ?_)
      refine And.intro (fun c_6 => ?_) (fun c_6 => ?_)
      · have c_6 : x0.toInt < y6.toInt := c_6
        show mp_W E X 4 38 [(0, .ref a0), (1, .int 0), (2, .int x0), (3, .int x1)] [] [(a0, .inr (3, [.ref a1, .int y0, .ref a2, .int y1, .int y2, .int y3, .int y4, .int y5, .int y6, .int y7])), (a1, .inl (E.2.2 1, 1600, .inl f0))] 0 0
        refine mp_run hF mp_tabX3_ok [mp_i (.aload_n 0), mp_c (.iconst 2) 2] (by decide +kernel) ?_
        show mp_W E X 4 40 [(0, .ref a0), (1, .int 0), (2, .int x0), (3, .int x1)] [.int 2, .ref a0] [(a0, .inr (3, [.ref a1, .int y0, .ref a2, .int y1, .int y2, .int y3, .int y4, .int y5, .int y6, .int y7])), (a1, .inl (E.2.2 1, 1600, .inl f0))] 0 0
        refine mp_callV hF (As := [.int 2]) (rest := []) (wr := [(a1, .inl (E.2.2 1, 1600, .inl f0))]) (bX3_fail_18 E a0 a1 a2 y0 y1 y2 y3 y4 y5 y6 y7 2 l_y0 u_y0 l_y4 u_y4 l_y5 u_y5) mp_lkX3_60 0 rfl [0] [1] rfl rfl rfl rfl rfl ⟨(Nat.le_of_ble_eq_true rfl), (Nat.le_of_ble_eq_true rfl), (Nat.le_of_ble_eq_true rfl), (Nat.le_of_ble_eq_true rfl)⟩ (Nat.le_of_ble_eq_true rfl) (by decide +kernel) (fun v_7 w_8 h_9 => ?_)
        obtain ⟨rfl, rfl⟩ := h_9
        show mp_W E X 4 43 [(0, .ref a0), (1, .int 0), (2, .int x0), (3, .int x1)] [.int 0] [(a1, .inl (E.2.2 1, 1600, .inl f0)), (a0, .inr (3, [.ref a1, .int y0, .ref a2, .int 2, .int y4, .int y3, .int y4, .int y5, .int y6, .int y7]))] 0 0
        exact mp_iret hF hQ rfl (by decide) (Nat.le_of_ble_eq_true rfl) (Nat.le_of_ble_eq_true rfl) [1, 0] (w' := [(a0, .inr (3, [.ref a1, .int y0, .ref a2, .int 2, .int y4, .int y3, .int y4, .int y5, .int y6, .int y7])), (a1, .inl (E.2.2 1, 1600, .inl f0))]) rfl rfl (Or.inl ⟨2, rfl, (by decide), (by decide), rfl⟩) (by decide +kernel)
      · have c_6 : y6.toInt ≤ x0.toInt := c_6
        show mp_W E X 4 30 [(0, .ref a0), (1, .int 0), (2, .int x0), (3, .int x1)] [] [(a0, .inr (3, [.ref a1, .int y0, .ref a2, .int y1, .int y2, .int y3, .int y4, .int y5, .int y6, .int y7])), (a1, .inl (E.2.2 1, 1600, .inl f0))] 0 0
        refine mp_run hF mp_tabX3_ok [mp_i (.aload_n 0), mp_h (.getfield 158) [17, 0], mp_i (.iload_n 3), mp_h (.if_icmp .ne 9) [44]] (by decide +kernel) ?_
        refine And.intro rfl (And.intro rfl ?_)
        refine And.intro (fun c_10 => ?_) (fun c_10 => ?_)
        · have c_10 : y6.toInt ≠ x1.toInt := c_10
          show mp_W E X 4 44 [(0, .ref a0), (1, .int 0), (2, .int x0), (3, .int x1)] [] [(a0, .inr (3, [.ref a1, .int y0, .ref a2, .int y1, .int y2, .int y3, .int y4, .int y5, .int y6, .int y7])), (a1, .inl (E.2.2 1, 1600, .inl f0))] 0 0
          refine mp_run hF mp_tabX3_ok [mp_i (.aload_n 0), mp_i (.aload_n 0), mp_h (.getfield 158) [17, 0], mp_h (.putfield 95) [18, 0]] (by decide +kernel) ?_
          refine And.intro rfl (And.intro rfl ?_)
          refine And.intro rfl (And.intro rfl (And.intro rfl (And.intro rfl (And.intro (Nat.le_of_ble_eq_true rfl) ?_))))
          show mp_W E X 4 52 [(0, .ref a0), (1, .int 0), (2, .int x0), (3, .int x1)] [] [(a0, .inr (3, [.ref a1, .int y0, .ref a2, .int y1, .int y2, .int y3, .int y4, .int y5, .int y6, .int y6])), (a1, .inl (E.2.2 1, 1600, .inl f0))] 0 0
          refine mp_run hF mp_tabX3_ok [mp_i (.aload_n 0)] (by decide +kernel) ?_
          show mp_W E X 4 53 [(0, .ref a0), (1, .int 0), (2, .int x0), (3, .int x1)] [.ref a0] [(a0, .inr (3, [.ref a1, .int y0, .ref a2, .int y1, .int y2, .int y3, .int y4, .int y5, .int y6, .int y6])), (a1, .inl (E.2.2 1, 1600, .inl f0))] 0 0
          refine mp_callV hF (As := []) (rest := []) (wr := []) (bX3_step_8 E a0 a1 a2 f0 y0 y1 y2 y3 y4 y5 y6 y6 l_y0 u_y0 l_y4 u_y4 l_y5 u_y5) mp_lkX3_38 0 rfl [0, 1] [] rfl rfl rfl rfl rfl ⟨(Nat.le_of_ble_eq_true rfl), (Nat.le_of_ble_eq_true rfl), (Nat.le_of_ble_eq_true rfl), (Nat.le_of_ble_eq_true rfl)⟩ (Nat.le_of_ble_eq_true rfl) (by decide +kernel) (fun v_11 w_12 h_13 => ?_)
          obtain ⟨r_14, r_15, r_16, r_17, rfl, l_18, u_19, l_20, u_21, l_22, u_23, u_24, rfl⟩ := h_13
          show mp_W E X 4 56 [(0, .ref a0), (1, .int 0), (2, .int x0), (3, .int x1)] [] [(a0, .inr (3, [.ref a1, .int y0, .ref a2, .int y1, .int y2, .int r_14, .int r_15, .int r_16, .int r_17, .int y6])), (a1, .inl (E.2.2 1, 1600, .inl f0))] 0 0
          refine mp_run hF mp_tabX3_ok [mp_c (.iconst 1) 1] (by decide +kernel) ?_
          show mp_W E X 4 57 [(0, .ref a0), (1, .int 0), (2, .int x0), (3, .int x1)] [.int 1] [(a0, .inr (3, [.ref a1, .int y0, .ref a2, .int y1, .int y2, .int r_14, .int r_15, .int r_16, .int r_17, .int y6])), (a1, .inl (E.2.2 1, 1600, .inl f0))] 0 0
          exact mp_iret hF hQ rfl (by decide) (Nat.le_of_ble_eq_true rfl) (Nat.le_of_ble_eq_true rfl) [0, 1] (w' := [(a0, .inr (3, [.ref a1, .int y0, .ref a2, .int y1, .int y2, .int r_14, .int r_15, .int r_16, .int r_17, .int y6])), (a1, .inl (E.2.2 1, 1600, .inl f0))]) rfl rfl (Or.inr ⟨r_14, r_15, r_16, r_17, rfl, (by first | omega | decide), (by first | omega | decide), (by first | omega | decide), (by first | omega | decide), l_18, u_19, l_20, u_21, l_22, u_23, u_24, rfl⟩) (by decide +kernel)
        · have c_10 : y6.toInt = x1.toInt := (congrArg Int32.toInt c_10)
          show mp_W E X 4 38 [(0, .ref a0), (1, .int 0), (2, .int x0), (3, .int x1)] [] [(a0, .inr (3, [.ref a1, .int y0, .ref a2, .int y1, .int y2, .int y3, .int y4, .int y5, .int y6, .int y7])), (a1, .inl (E.2.2 1, 1600, .inl f0))] 0 0
          refine mp_run hF mp_tabX3_ok [mp_i (.aload_n 0), mp_c (.iconst 2) 2] (by decide +kernel) ?_
          show mp_W E X 4 40 [(0, .ref a0), (1, .int 0), (2, .int x0), (3, .int x1)] [.int 2, .ref a0] [(a0, .inr (3, [.ref a1, .int y0, .ref a2, .int y1, .int y2, .int y3, .int y4, .int y5, .int y6, .int y7])), (a1, .inl (E.2.2 1, 1600, .inl f0))] 0 0
          refine mp_callV hF (As := [.int 2]) (rest := []) (wr := [(a1, .inl (E.2.2 1, 1600, .inl f0))]) (bX3_fail_18 E a0 a1 a2 y0 y1 y2 y3 y4 y5 y6 y7 2 l_y0 u_y0 l_y4 u_y4 l_y5 u_y5) mp_lkX3_60 0 rfl [0] [1] rfl rfl rfl rfl rfl ⟨(Nat.le_of_ble_eq_true rfl), (Nat.le_of_ble_eq_true rfl), (Nat.le_of_ble_eq_true rfl), (Nat.le_of_ble_eq_true rfl)⟩ (Nat.le_of_ble_eq_true rfl) (by decide +kernel) (fun v_25 w_26 h_27 => ?_)
          obtain ⟨rfl, rfl⟩ := h_27
          show mp_W E X 4 43 [(0, .ref a0), (1, .int 0), (2, .int x0), (3, .int x1)] [.int 0] [(a1, .inl (E.2.2 1, 1600, .inl f0)), (a0, .inr (3, [.ref a1, .int y0, .ref a2, .int 2, .int y4, .int y3, .int y4, .int y5, .int y6, .int y7]))] 0 0
          exact mp_iret hF hQ rfl (by decide) (Nat.le_of_ble_eq_true rfl) (Nat.le_of_ble_eq_true rfl) [1, 0] (w' := [(a0, .inr (3, [.ref a1, .int y0, .ref a2, .int 2, .int y4, .int y3, .int y4, .int y5, .int y6, .int y7])), (a1, .inl (E.2.2 1, 1600, .inl f0))]) rfl rfl (Or.inl ⟨2, rfl, (by decide), (by decide), rfl⟩) (by decide +kernel)
  · have c_1 : y3.toInt ≠ 2 := c_1
    show mp_W E X 4 8 [(0, .ref a0), (1, .int 0), (2, .int x0), (3, .int x1)] [] [(a0, .inr (3, [.ref a1, .int y0, .ref a2, .int y1, .int y2, .int y3, .int y4, .int y5, .int y6, .int y7])), (a1, .inl (E.2.2 1, 1600, .inl f0))] 0 0
    refine mp_run hF mp_tabX3_ok [mp_i (.aload_n 0), mp_c (.iconst 1) 1] (by decide +kernel) ?_
    show mp_W E X 4 10 [(0, .ref a0), (1, .int 0), (2, .int x0), (3, .int x1)] [.int 1, .ref a0] [(a0, .inr (3, [.ref a1, .int y0, .ref a2, .int y1, .int y2, .int y3, .int y4, .int y5, .int y6, .int y7])), (a1, .inl (E.2.2 1, 1600, .inl f0))] 0 0
    refine mp_callV hF (As := [.int 1]) (rest := []) (wr := [(a1, .inl (E.2.2 1, 1600, .inl f0))]) (bX3_fail_18 E a0 a1 a2 y0 y1 y2 y3 y4 y5 y6 y7 1 l_y0 u_y0 l_y4 u_y4 l_y5 u_y5) mp_lkX3_60 0 rfl [0] [1] rfl rfl rfl rfl rfl ⟨(Nat.le_of_ble_eq_true rfl), (Nat.le_of_ble_eq_true rfl), (Nat.le_of_ble_eq_true rfl), (Nat.le_of_ble_eq_true rfl)⟩ (Nat.le_of_ble_eq_true rfl) (by decide +kernel) (fun v_28 w_29 h_30 => ?_)
    obtain ⟨rfl, rfl⟩ := h_30
    show mp_W E X 4 13 [(0, .ref a0), (1, .int 0), (2, .int x0), (3, .int x1)] [.int 0] [(a1, .inl (E.2.2 1, 1600, .inl f0)), (a0, .inr (3, [.ref a1, .int y0, .ref a2, .int 1, .int y4, .int y3, .int y4, .int y5, .int y6, .int y7]))] 0 0
    exact mp_iret hF hQ rfl (by decide) (Nat.le_of_ble_eq_true rfl) (Nat.le_of_ble_eq_true rfl) [1, 0] (w' := [(a0, .inr (3, [.ref a1, .int y0, .ref a2, .int 1, .int y4, .int y3, .int y4, .int y5, .int y6, .int y7])), (a1, .inl (E.2.2 1, 1600, .inl f0))]) rfl rfl (Or.inl ⟨1, rfl, (by decide), (by decide), rfl⟩) (by decide +kernel)
set_option maxHeartbeats 4000000 in
set_option maxRecDepth 100000 in
theorem bX7_addPromise_27 (E : mp_E) (a0 a1 a2 a3 a4 a5 a6 a7 a8 a9 a10 a11 a12 : Nat) (f0 : Nat → Int32) (f1 : Nat → Int32) (f2 : Nat → Int32) (f3 : Nat → Int32) (f4 : Nat → Int32) (f5 : Nat → Int32) (y0 : Int32) (y1 : Int32) (y2 : Int32) (y3 : Int32) (y4 : Int32) (y5 : Int32) (x0 : Int32) (x1 : Int32) (x2 : Int32) (x3 : Int32) (p0 : mp_all f0 10 0 5) (p1 : mp_all f1 10 0 5) (p2 : mp_all f3 10 0 99) (p3 : mp_all f4 10 0 1) (p4 : mp_all f5 10 (-1) 9) (l_x0 : 0 ≤ x0.toInt) (u_x0 : x0.toInt ≤ 5) (l_x1 : 0 ≤ x1.toInt) (u_x1 : x1.toInt ≤ 5) (l_x3 : 0 ≤ x3.toInt) (u_x3 : x3.toInt ≤ 99) (l_y1 : 0 ≤ y1.toInt) (u_y1 : y1.toInt ≤ 6) (l_y2 : 0 ≤ y2.toInt) (u_y2 : y2.toInt ≤ 99) (l_y3 : 0 ≤ y3.toInt) (u_y3 : y3.toInt ≤ 6) (l_y4 : 0 ≤ y4.toInt) (u_y4 : y4.toInt ≤ 9) (l_y5 : 0 ≤ y5.toInt) (u_y5 : y5.toInt ≤ 60) : mp_Ct E yX7_addPromise cX7_addPromise 5 none 0 0 0 0 [.ref a0, .int x0, .int x1, .int x2, .int x3] [(a0, .inr (7, [.int y0, .int y1, .int y2, .int y3, .int y4, .int y5, .ref a7, .ref a8, .ref a9, .ref a10, .ref a11, .ref a1, .ref a2, .ref a3, .ref a4, .ref a5, .ref a6, .ref a12])), (a1, .inl (E.2.2 0, 10, .inl f0)), (a2, .inl (E.2.2 0, 10, .inl f1)), (a3, .inl (E.2.2 0, 10, .inl f2)), (a4, .inl (E.2.2 0, 10, .inl f3)), (a5, .inl (E.2.2 0, 10, .inl f4)), (a6, .inl (E.2.2 0, 10, .inl f5))] (fun v w' => ∃ r1 : Int32, ∃ h2 : Nat → Int32, ∃ h3 : Nat → Int32, ∃ h4 : Nat → Int32, ∃ h5 : Nat → Int32, ∃ h6 : Nat → Int32, ∃ h7 : Nat → Int32, v = none ∧ 1 ≤ r1.toInt ∧ r1.toInt ≤ 10 ∧ mp_all h2 10 0 5 ∧ mp_all h3 10 0 5 ∧ mp_all h5 10 0 99 ∧ mp_all h6 10 0 1 ∧ mp_all h7 10 (-1) 9 ∧ w' = [(a0, .inr (7, [.int y0, .int y1, .int y2, .int y3, .int r1, .int y5, .ref a7, .ref a8, .ref a9, .ref a10, .ref a11, .ref a1, .ref a2, .ref a3, .ref a4, .ref a5, .ref a6, .ref a12])), (a1, .inl (E.2.2 0, 10, .inl h2)), (a2, .inl (E.2.2 0, 10, .inl h3)), (a3, .inl (E.2.2 0, 10, .inl h4)), (a4, .inl (E.2.2 0, 10, .inl h5)), (a5, .inl (E.2.2 0, 10, .inl h6)), (a6, .inl (E.2.2 0, 10, .inl h7))]) := by
  refine mp_met false (by decide) (by decide) (Nat.le_of_ble_eq_true rfl) (fun X hF hQ => ?_)
  have hF : mp_F E X (RX7, cX7_addPromise, 5, (0, 0, 0, 0), none, false) := hF
  show mp_W E X 5 0 [(0, .ref a0), (1, .int x0), (2, .int x1), (3, .int x2), (4, .int x3)] [] [(a0, .inr (7, [.int y0, .int y1, .int y2, .int y3, .int y4, .int y5, .ref a7, .ref a8, .ref a9, .ref a10, .ref a11, .ref a1, .ref a2, .ref a3, .ref a4, .ref a5, .ref a6, .ref a12])), (a1, .inl (E.2.2 0, 10, .inl f0)), (a2, .inl (E.2.2 0, 10, .inl f1)), (a3, .inl (E.2.2 0, 10, .inl f2)), (a4, .inl (E.2.2 0, 10, .inl f3)), (a5, .inl (E.2.2 0, 10, .inl f4)), (a6, .inl (E.2.2 0, 10, .inl f5))] 0 0
  refine mp_run hF mp_tabX7_ok [mp_i (.aload_n 0), mp_h (.getfield 28) [11, 0], mp_i (.aload_n 0), mp_h (.getfield 62) [4, 0], mp_i (.iload_n 1), mp_h .iastore [1]] (by decide +kernel) ?_
  refine And.intro rfl (And.intro rfl ?_)
  refine And.intro rfl (And.intro rfl ?_)
  refine And.intro rfl (And.intro rfl (And.intro (vp_in_iff.mpr (by omega)) ?_))
  intro g_1 h_2
  have p_3 : mp_all g_1 10 0 5 := mp_all_st h_2 p0 l_x0 u_x0
  show mp_W E X 5 10 [(0, .ref a0), (1, .int x0), (2, .int x1), (3, .int x2), (4, .int x3)] [] [(a0, .inr (7, [.int y0, .int y1, .int y2, .int y3, .int y4, .int y5, .ref a7, .ref a8, .ref a9, .ref a10, .ref a11, .ref a1, .ref a2, .ref a3, .ref a4, .ref a5, .ref a6, .ref a12])), (a1, .inl (E.2.2 0, 10, .inl g_1)), (a2, .inl (E.2.2 0, 10, .inl f1)), (a3, .inl (E.2.2 0, 10, .inl f2)), (a4, .inl (E.2.2 0, 10, .inl f3)), (a5, .inl (E.2.2 0, 10, .inl f4)), (a6, .inl (E.2.2 0, 10, .inl f5))] 0 0
  refine mp_run hF mp_tabX7_ok [mp_i (.aload_n 0), mp_h (.getfield 31) [12, 0], mp_i (.aload_n 0), mp_h (.getfield 62) [4, 0], mp_i (.iload_n 2), mp_h .iastore [2]] (by decide +kernel) ?_
  refine And.intro rfl (And.intro rfl ?_)
  refine And.intro rfl (And.intro rfl ?_)
  refine And.intro rfl (And.intro rfl (And.intro (vp_in_iff.mpr (by omega)) ?_))
  intro g_4 h_5
  have p_6 : mp_all g_4 10 0 5 := mp_all_st h_5 p1 l_x1 u_x1
  show mp_W E X 5 20 [(0, .ref a0), (1, .int x0), (2, .int x1), (3, .int x2), (4, .int x3)] [] [(a0, .inr (7, [.int y0, .int y1, .int y2, .int y3, .int y4, .int y5, .ref a7, .ref a8, .ref a9, .ref a10, .ref a11, .ref a1, .ref a2, .ref a3, .ref a4, .ref a5, .ref a6, .ref a12])), (a1, .inl (E.2.2 0, 10, .inl g_1)), (a2, .inl (E.2.2 0, 10, .inl g_4)), (a3, .inl (E.2.2 0, 10, .inl f2)), (a4, .inl (E.2.2 0, 10, .inl f3)), (a5, .inl (E.2.2 0, 10, .inl f4)), (a6, .inl (E.2.2 0, 10, .inl f5))] 0 0
  refine mp_run hF mp_tabX7_ok [mp_i (.aload_n 0), mp_h (.getfield 34) [13, 0], mp_i (.aload_n 0), mp_h (.getfield 62) [4, 0], mp_i (.iload_n 3), mp_h .iastore [3]] (by decide +kernel) ?_
  refine And.intro rfl (And.intro rfl ?_)
  refine And.intro rfl (And.intro rfl ?_)
  refine And.intro rfl (And.intro rfl (And.intro (vp_in_iff.mpr (by omega)) ?_))
  intro g_7 h_8
  show mp_W E X 5 30 [(0, .ref a0), (1, .int x0), (2, .int x1), (3, .int x2), (4, .int x3)] [] [(a0, .inr (7, [.int y0, .int y1, .int y2, .int y3, .int y4, .int y5, .ref a7, .ref a8, .ref a9, .ref a10, .ref a11, .ref a1, .ref a2, .ref a3, .ref a4, .ref a5, .ref a6, .ref a12])), (a1, .inl (E.2.2 0, 10, .inl g_1)), (a2, .inl (E.2.2 0, 10, .inl g_4)), (a3, .inl (E.2.2 0, 10, .inl g_7)), (a4, .inl (E.2.2 0, 10, .inl f3)), (a5, .inl (E.2.2 0, 10, .inl f4)), (a6, .inl (E.2.2 0, 10, .inl f5))] 0 0
  refine mp_run hF mp_tabX7_ok [mp_i (.aload_n 0), mp_h (.getfield 37) [14, 0], mp_i (.aload_n 0), mp_h (.getfield 62) [4, 0], mp_i (.iload 4), mp_h .iastore [4]] (by decide +kernel) ?_
  refine And.intro rfl (And.intro rfl ?_)
  refine And.intro rfl (And.intro rfl ?_)
  refine And.intro rfl (And.intro rfl (And.intro (vp_in_iff.mpr (by omega)) ?_))
  intro g_9 h_10
  have p_11 : mp_all g_9 10 0 99 := mp_all_st h_10 p2 l_x3 u_x3
  show mp_W E X 5 41 [(0, .ref a0), (1, .int x0), (2, .int x1), (3, .int x2), (4, .int x3)] [] [(a0, .inr (7, [.int y0, .int y1, .int y2, .int y3, .int y4, .int y5, .ref a7, .ref a8, .ref a9, .ref a10, .ref a11, .ref a1, .ref a2, .ref a3, .ref a4, .ref a5, .ref a6, .ref a12])), (a1, .inl (E.2.2 0, 10, .inl g_1)), (a2, .inl (E.2.2 0, 10, .inl g_4)), (a3, .inl (E.2.2 0, 10, .inl g_7)), (a4, .inl (E.2.2 0, 10, .inl g_9)), (a5, .inl (E.2.2 0, 10, .inl f4)), (a6, .inl (E.2.2 0, 10, .inl f5))] 0 0
  refine mp_run hF mp_tabX7_ok [mp_i (.aload_n 0), mp_h (.getfield 40) [15, 0], mp_i (.aload_n 0), mp_h (.getfield 62) [4, 0], mp_c (.iconst 0) 0, mp_h .iastore [5]] (by decide +kernel) ?_
  refine And.intro rfl (And.intro rfl ?_)
  refine And.intro rfl (And.intro rfl ?_)
  refine And.intro rfl (And.intro rfl (And.intro (vp_in_iff.mpr (by omega)) ?_))
  intro g_12 h_13
  have p_14 : mp_all g_12 10 0 1 := mp_all_st h_13 p3 (by decide) (by decide)
  show mp_W E X 5 51 [(0, .ref a0), (1, .int x0), (2, .int x1), (3, .int x2), (4, .int x3)] [] [(a0, .inr (7, [.int y0, .int y1, .int y2, .int y3, .int y4, .int y5, .ref a7, .ref a8, .ref a9, .ref a10, .ref a11, .ref a1, .ref a2, .ref a3, .ref a4, .ref a5, .ref a6, .ref a12])), (a1, .inl (E.2.2 0, 10, .inl g_1)), (a2, .inl (E.2.2 0, 10, .inl g_4)), (a3, .inl (E.2.2 0, 10, .inl g_7)), (a4, .inl (E.2.2 0, 10, .inl g_9)), (a5, .inl (E.2.2 0, 10, .inl g_12)), (a6, .inl (E.2.2 0, 10, .inl f5))] 0 0
  refine mp_run hF mp_tabX7_ok [mp_i (.aload_n 0), mp_h (.getfield 43) [16, 0], mp_i (.aload_n 0), mp_h (.getfield 62) [4, 0], mp_c (.iconst (-1)) (-1), mp_h .iastore [6]] (by decide +kernel) ?_
  refine And.intro rfl (And.intro rfl ?_)
  refine And.intro rfl (And.intro rfl ?_)
  refine And.intro rfl (And.intro rfl (And.intro (vp_in_iff.mpr (by omega)) ?_))
  intro g_15 h_16
  have p_17 : mp_all g_15 10 (-1) 9 := mp_all_st h_16 p4 (by decide) (by decide)
  show mp_W E X 5 61 [(0, .ref a0), (1, .int x0), (2, .int x1), (3, .int x2), (4, .int x3)] [] [(a0, .inr (7, [.int y0, .int y1, .int y2, .int y3, .int y4, .int y5, .ref a7, .ref a8, .ref a9, .ref a10, .ref a11, .ref a1, .ref a2, .ref a3, .ref a4, .ref a5, .ref a6, .ref a12])), (a1, .inl (E.2.2 0, 10, .inl g_1)), (a2, .inl (E.2.2 0, 10, .inl g_4)), (a3, .inl (E.2.2 0, 10, .inl g_7)), (a4, .inl (E.2.2 0, 10, .inl g_9)), (a5, .inl (E.2.2 0, 10, .inl g_12)), (a6, .inl (E.2.2 0, 10, .inl g_15))] 0 0
  refine mp_run hF mp_tabX7_ok [mp_i (.aload_n 0), mp_i .dup, mp_h (.getfield 62) [4, 0], mp_c (.iconst 1) 1, mp_i .iadd, mp_h (.putfield 62) [4, 0]] (by decide +kernel) ?_
  refine And.intro rfl ?_
  refine And.intro rfl (And.intro rfl ?_)
  intro z_18 h_19
  have e_20 : z_18.toInt = y4.toInt + 1 := mp_add (a := y4.toInt) (b := 1) h_19 rfl (by decide) (by omega) (by omega)
  refine And.intro rfl (And.intro rfl (And.intro rfl (And.intro rfl (And.intro (Nat.le_of_ble_eq_true rfl) ?_))))
  show mp_W E X 5 71 [(0, .ref a0), (1, .int x0), (2, .int x1), (3, .int x2), (4, .int x3)] [] [(a0, .inr (7, [.int y0, .int y1, .int y2, .int y3, .int z_18, .int y5, .ref a7, .ref a8, .ref a9, .ref a10, .ref a11, .ref a1, .ref a2, .ref a3, .ref a4, .ref a5, .ref a6, .ref a12])), (a1, .inl (E.2.2 0, 10, .inl g_1)), (a2, .inl (E.2.2 0, 10, .inl g_4)), (a3, .inl (E.2.2 0, 10, .inl g_7)), (a4, .inl (E.2.2 0, 10, .inl g_9)), (a5, .inl (E.2.2 0, 10, .inl g_12)), (a6, .inl (E.2.2 0, 10, .inl g_15))] 0 0
  exact mp_vret hF hQ rfl (Nat.le_of_ble_eq_true rfl) (Nat.le_of_ble_eq_true rfl) [0, 1, 2, 3, 4, 5, 6] (w' := [(a0, .inr (7, [.int y0, .int y1, .int y2, .int y3, .int z_18, .int y5, .ref a7, .ref a8, .ref a9, .ref a10, .ref a11, .ref a1, .ref a2, .ref a3, .ref a4, .ref a5, .ref a6, .ref a12])), (a1, .inl (E.2.2 0, 10, .inl g_1)), (a2, .inl (E.2.2 0, 10, .inl g_4)), (a3, .inl (E.2.2 0, 10, .inl g_7)), (a4, .inl (E.2.2 0, 10, .inl g_9)), (a5, .inl (E.2.2 0, 10, .inl g_12)), (a6, .inl (E.2.2 0, 10, .inl g_15))]) rfl rfl ⟨z_18, g_1, g_4, g_7, g_9, g_12, g_15, rfl, (by omega), (by omega), p_3, p_6, p_11, p_14, p_17, rfl⟩ (by decide +kernel)
