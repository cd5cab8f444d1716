set_option maxHeartbeats 4000000 in
set_option maxRecDepth 100000 in
theorem bX3_addFour_0 (E : mp_E) (a0 a1 a2 : Nat) (f0 : Nat → Int32) (y0 : Int32) (y1 : Int32) (y2 : Int32) (y3 : Int32) (y4 : Int32) (y5 : Int32) (y6 : Int32) (y7 : Int32) (x0 : Int32) (l_y0 : 0 ≤ y0.toInt) (u_y0 : y0.toInt ≤ 1600) (l_y4 : 0 ≤ y4.toInt) (u_y4 : y4.toInt ≤ 1600) (l_y5 : 0 ≤ y5.toInt) (u_y5 : y5.toInt ≤ 1600) : mp_Ct E yX3_addFour cX3_addFour 3 none 0 0 0 0 [.ref a0, .int x0] [(a0, .inr (3, [.ref a1, .int y0, .ref a2, .int y1, .int y2, .int y3, .int y4, .int y5, .int y6, .int y7])), (a1, .inl (E.2.2 1, 1600, .inl f0))] (fun v w' => ∃ r1 : Int32, ∃ h2 : Nat → Int32, v = none ∧ 0 ≤ r1.toInt ∧ r1.toInt ≤ 1600 ∧ w' = [(a0, .inr (3, [.ref a1, .int r1, .ref a2, .int y1, .int y2, .int y3, .int y4, .int y5, .int y6, .int y7])), (a1, .inl (E.2.2 1, 1600, .inl h2))]) := by
  refine mp_met false (by decide) (by decide) (Nat.le_of_ble_eq_true rfl) (fun X hF hQ => ?_)
  have hF : mp_F E X (RX3, cX3_addFour, 3, (0, 0, 0, 0), none, false) := hF
  show mp_W E X 3 0 [(0, .ref a0), (1, .int x0)] [] [(a0, .inr (3, [.ref a1, .int y0, .ref a2, .int y1, .int y2, .int y3, .int y4, .int y5, .int y6, .int y7])), (a1, .inl (E.2.2 1, 1600, .inl f0))] 0 0
  refine mp_run hF mp_tabX3_ok [mp_c (.bipush 24) 24, mp_i (.istore_n 2)] (by decide +kernel) ?_
  show mp_W E X 3 3 [(2, .int 24), (0, .ref a0), (1, .int x0)] [] [(a0, .inr (3, [.ref a1, .int y0, .ref a2, .int y1, .int y2, .int y3, .int y4, .int y5, .int y6, .int y7])), (a1, .inl (E.2.2 1, 1600, .inl f0))] 0 0
  have lp7 : ∀ (d8 : Nat) (i1 : Int32) (i2 : Int32) (g3 : Nat → Int32), i1.toInt ≤ 24 → 0 ≤ i2.toInt → i2.toInt ≤ 1600 → i1.toInt + 1 ≤ (d8 : Int) → mp_W E X 3 3 [(2, .int i1), (0, .ref a0), (1, .int x0)] [] [(a0, .inr (3, [.ref a1, .int i2, .ref a2, .int y1, .int y2, .int y3, .int y4, .int y5, .int y6, .int y7])), (a1, .inl (E.2.2 1, 1600, .inl g3))] 0 0 := by
    intro d8
    induction d8 using Nat.strongRecOn with
    | ind d8 ih9 =>
      intro i1 i2 g3 u4 l5 u6 hm10
      refine mp_run hF mp_tabX3_ok [mp_i (.iload_n 2), mp_h (.ifCond .lt 42) [46]] (by decide +kernel) ?_
      refine And.intro (fun c11 => ?_) (fun c11 => ?_)
      · have c11 : i1.toInt < 0 := c11
        show mp_W E X 3 46 [(2, .int i1), (0, .ref a0), (1, .int x0)] [] [(a0, .inr (3, [.ref a1, .int i2, .ref a2, .int y1, .int y2, .int y3, .int y4, .int y5, .int y6, .int y7])), (a1, .inl (E.2.2 1, 1600, .inl g3))] 0 0
        exact mp_vret hF hQ rfl (Nat.le_of_ble_eq_true rfl) (Nat.le_of_ble_eq_true rfl) [0, 1] (w' := [(a0, .inr (3, [.ref a1, .int i2, .ref a2, .int y1, .int y2, .int y3, .int y4, .int y5, .int y6, .int y7])), (a1, .inl (E.2.2 1, 1600, .inl g3))]) rfl rfl ⟨i2, g3, rfl, l5, u6, rfl⟩ (by decide +kernel)
      · have c11 : 0 ≤ i1.toInt := c11
        show mp_W E X 3 7 [(2, .int i1), (0, .ref a0), (1, .int x0)] [] [(a0, .inr (3, [.ref a1, .int i2, .ref a2, .int y1, .int y2, .int y3, .int y4, .int y5, .int y6, .int y7])), (a1, .inl (E.2.2 1, 1600, .inl g3))] 0 0
        refine mp_run hF mp_tabX3_ok [mp_i (.aload_n 0), mp_h (.getfield 26) [10, 0], mp_c (.sipush 1600) 1600, mp_h (.if_icmp .ge 32) [46]] (by decide +kernel) ?_
        refine And.intro rfl (And.intro rfl ?_)
        refine And.intro (fun c12 => ?_) (fun c12 => ?_)
        · have c12 : 1600 ≤ i2.toInt := c12
          show mp_W E X 3 46 [(2, .int i1), (0, .ref a0), (1, .int x0)] [] [(a0, .inr (3, [.ref a1, .int i2, .ref a2, .int y1, .int y2, .int y3, .int y4, .int y5, .int y6, .int y7])), (a1, .inl (E.2.2 1, 1600, .inl g3))] 0 0
          exact mp_vret hF hQ rfl (Nat.le_of_ble_eq_true rfl) (Nat.le_of_ble_eq_true rfl) [0, 1] (w' := [(a0, .inr (3, [.ref a1, .int i2, .ref a2, .int y1, .int y2, .int y3, .int y4, .int y5, .int y6, .int y7])), (a1, .inl (E.2.2 1, 1600, .inl g3))]) rfl rfl ⟨i2, g3, rfl, l5, u6, rfl⟩ (by decide +kernel)
        · have c12 : i2.toInt < 1600 := c12
          show mp_W E X 3 17 [(2, .int i1), (0, .ref a0), (1, .int x0)] [] [(a0, .inr (3, [.ref a1, .int i2, .ref a2, .int y1, .int y2, .int y3, .int y4, .int y5, .int y6, .int y7])), (a1, .inl (E.2.2 1, 1600, .inl g3))] 0 0
          refine mp_run hF mp_tabX3_ok [mp_i (.aload_n 0), mp_h (.getfield 9) [9, 0], mp_i (.aload_n 0), mp_h (.getfield 26) [10, 0], mp_i (.iload_n 1), mp_i (.iload_n 2), mp_i .ishr, mp_i .i2b, mp_h .bastore [1]] (by decide +kernel) ?_
          refine And.intro rfl (And.intro rfl ?_)
          refine And.intro rfl (And.intro rfl ?_)
          intro z13 h14
          intro z16 h17
          refine And.intro rfl (And.intro rfl (And.intro (vp_in_iff.mpr (by omega)) ?_))
          intro g18 h19
          show mp_W E X 3 30 [(2, .int i1), (0, .ref a0), (1, .int x0)] [] [(a0, .inr (3, [.ref a1, .int i2, .ref a2, .int y1, .int y2, .int y3, .int y4, .int y5, .int y6, .int y7])), (a1, .inl (E.2.2 1, 1600, .inl g18))] 0 0
          refine mp_run hF mp_tabX3_ok [mp_i (.aload_n 0), mp_i .dup, mp_h (.getfield 26) [10, 0], mp_c (.iconst 1) 1, mp_i .iadd, mp_h (.putfield 26) [10, 0]] (by decide +kernel) ?_
          refine And.intro rfl ?_
          refine And.intro rfl (And.intro rfl ?_)
          intro z20 h21
          have e22 : z20.toInt = i2.toInt + 1 := mp_add (a := i2.toInt) (b := 1) h21 rfl (by decide) (by omega) (by omega)
          refine And.intro rfl (And.intro rfl (And.intro rfl (And.intro rfl (And.intro (Nat.le_of_ble_eq_true rfl) ?_))))
          show mp_W E X 3 40 [(2, .int i1), (0, .ref a0), (1, .int x0)] [] [(a0, .inr (3, [.ref a1, .int z20, .ref a2, .int y1, .int y2, .int y3, .int y4, .int y5, .int y6, .int y7])), (a1, .inl (E.2.2 1, 1600, .inl g18))] 0 0
          refine mp_run hF mp_tabX3_ok [mp_c (.iinc 2 (-8)) (-8), mp_h (.goto (-40)) [3]] (by decide +kernel) ?_
          intro z23 h24
          have e25 : z23.toInt = i1.toInt + (-8) := mp_add (a := i1.toInt) (b := (-8)) h24 rfl (by decide) (by omega) (by omega)
          show mp_W E X 3 3 [(2, .int z23), (0, .ref a0), (1, .int x0)] [] [(a0, .inr (3, [.ref a1, .int z20, .ref a2, .int y1, .int y2, .int y3, .int y4, .int y5, .int y6, .int y7])), (a1, .inl (E.2.2 1, 1600, .inl g18))] 0 0
          exact mp_sub [0, 1, 2] rfl [0, 1] rfl rfl (ih9 (d8 - 1) (by omega) z23 z20 g18 (by omega) (by omega) (by omega) (by omega))
  exact mp_sub [0, 1, 2] rfl [0, 1] rfl rfl (lp7 _ 24 y0 f0 (by decide) l_y0 u_y0 (Int.self_le_toNat _))
set_option maxHeartbeats 4000000 in
set_option maxRecDepth 100000 in
theorem bX9_feed_1 (E : mp_E) (a0 a1 a2 a3 a4 a5 a6 a7 a8 a9 a10 a11 : Nat) (f0 : Nat → Int32) (y0 : Int32) (y1 : Int32) (y2 : Int32) (y3 : Int32) (y4 : Int32) (y5 : Int32) (y6 : Int32) (y7 : Int32) (x0 : Int32) (x1 : Int32) (x2 : Int32) (x3 : Int32) (x4 : Int32) (l_y0 : 0 ≤ y0.toInt) (u_y0 : y0.toInt ≤ 1600) (l_y4 : 0 ≤ y4.toInt) (u_y4 : y4.toInt ≤ 1600) (l_y5 : 0 ≤ y5.toInt) (u_y5 : y5.toInt ≤ 1600) : mp_Ct E yX9_feed cX9_feed 6 (some FieldType.int) 1 0 0 22 [.ref a0, .int x0, .int x1, .int x2, .int x3, .int x4] [(a0, .inr (9, [.ref a1, .ref a3, .ref a4, .ref a5, .ref a6, .ref a7, .ref a8, .ref a9, .ref a10])), (a1, .inr (3, [.ref a2, .int y0, .ref a11, .int y1, .int y2, .int y3, .int y4, .int y5, .int y6, .int y7])), (a2, .inl (E.2.2 1, 1600, .inl f0))] (fun v w' => ∃ r1 : Int32, ∃ h2 : Nat → Int32, ∃ r3 : Int32, v = some (.int r3) ∧ 0 ≤ r1.toInt ∧ r1.toInt ≤ 1600 ∧ (-1) ≤ r3.toInt ∧ r3.toInt ≤ 1600 ∧ w' = [(a0, .inr (9, [.ref a1, .ref a3, .ref a4, .ref a5, .ref a6, .ref a7, .ref a8, .ref a9, .ref a10])), (a1, .inr (3, [.ref a2, .int r1, .ref a11, .int y1, .int y2, .int y3, .int y4, .int y5, .int y6, .int y7])), (a2, .inl (E.2.2 1, 1600, .inl h2))]) := by
  refine mp_met false (by decide) (by decide) (Nat.le_of_ble_eq_true rfl) (fun X hF hQ => ?_)
  have hF : mp_F E X (RX9, cX9_feed, 6, (1, 0, 0, 22), (some FieldType.int), false) := hF
  show mp_W E X 6 0 [(0, .ref a0), (1, .int x0), (2, .int x1), (3, .int x2), (4, .int x3), (5, .int x4)] [] [(a0, .inr (9, [.ref a1, .ref a3, .ref a4, .ref a5, .ref a6, .ref a7, .ref a8, .ref a9, .ref a10])), (a1, .inr (3, [.ref a2, .int y0, .ref a11, .int y1, .int y2, .int y3, .int y4, .int y5, .int y6, .int y7])), (a2, .inl (E.2.2 1, 1600, .inl f0))] 0 0
  refine mp_run hF mp_tabX9_ok [mp_i (.aload_n 0), mp_h (.getfield 10) [36, 0], mp_h (.getfield 71) [16, 1], mp_c (.bipush 20) 20, mp_i .iadd, mp_c (.sipush 1600) 1600, mp_h (.if_icmp .le 5) [18]] (by decide +kernel) ?_
  refine And.intro rfl (And.intro rfl ?_)
  refine And.intro rfl (And.intro rfl ?_)
  intro z1 h2
  have e3 : z1.toInt = y0.toInt + 20 := mp_add (a := y0.toInt) (b := 20) h2 rfl (by decide) (by omega) (by omega)
  refine And.intro (fun c4 => ?_) (fun c4 => ?_)
  · have c4 : z1.toInt ≤ 1600 := c4
    show mp_W E X 6 18 [(0, .ref a0), (1, .int x0), (2, .int x1), (3, .int x2), (4, .int x3), (5, .int x4)] [] [(a0, .inr (9, [.ref a1, .ref a3, .ref a4, .ref a5, .ref a6, .ref a7, .ref a8, .ref a9, .ref a10])), (a1, .inr (3, [.ref a2, .int y0, .ref a11, .int y1, .int y2, .int y3, .int y4, .int y5, .int y6, .int y7])), (a2, .inl (E.2.2 1, 1600, .inl f0))] 0 0
    refine mp_run hF mp_tabX9_ok [mp_i (.aload_n 0), mp_h (.getfield 10) [36, 0], mp_i (.iload_n 1)] (by decide +kernel) ?_
    refine And.intro rfl (And.intro rfl ?_)
    show mp_W E X 6 23 [(0, .ref a0), (1, .int x0), (2, .int x1), (3, .int x2), (4, .int x3), (5, .int x4)] [.int x0, .ref a1] [(a0, .inr (9, [.ref a1, .ref a3, .ref a4, .ref a5, .ref a6, .ref a7, .ref a8, .ref a9, .ref a10])), (a1, .inr (3, [.ref a2, .int y0, .ref a11, .int y1, .int y2, .int y3, .int y4, .int y5, .int y6, .int y7])), (a2, .inl (E.2.2 1, 1600, .inl f0))] 0 0
    refine mp_callV hF (As := [.int x0]) (rest := []) (wr := [(a0, .inr (9, [.ref a1, .ref a3, .ref a4, .ref a5, .ref a6, .ref a7, .ref a8, .ref a9, .ref a10]))]) (bX3_addFour_0 E a1 a2 a11 f0 y0 y1 y2 y3 y4 y5 y6 y7 x0 l_y0 u_y0 l_y4 u_y4 l_y5 u_y5) mp_lkX9_75 1 rfl [1, 2] [0] rfl rfl rfl rfl rfl ⟨(Nat.le_of_ble_eq_true rfl), (Nat.le_of_ble_eq_true rfl), (Nat.le_of_ble_eq_true rfl), (Nat.le_of_ble_eq_true rfl)⟩ (Nat.le_of_ble_eq_true rfl) (by decide +kernel) (fun v5 w6 h7 => ?_)
    obtain ⟨r8, g9, rfl, l10, u11, rfl⟩ := h7
    show mp_W E X 6 26 [(0, .ref a0), (1, .int x0), (2, .int x1), (3, .int x2), (4, .int x3), (5, .int x4)] [] [(a0, .inr (9, [.ref a1, .ref a3, .ref a4, .ref a5, .ref a6, .ref a7, .ref a8, .ref a9, .ref a10])), (a1, .inr (3, [.ref a2, .int r8, .ref a11, .int y1, .int y2, .int y3, .int y4, .int y5, .int y6, .int y7])), (a2, .inl (E.2.2 1, 1600, .inl g9))] 0 0
    refine mp_run hF mp_tabX9_ok [mp_i (.aload_n 0), mp_h (.getfield 10) [36, 0], mp_i (.iload_n 2)] (by decide +kernel) ?_
    refine And.intro rfl (And.intro rfl ?_)
    show mp_W E X 6 31 [(0, .ref a0), (1, .int x0), (2, .int x1), (3, .int x2), (4, .int x3), (5, .int x4)] [.int x1, .ref a1] [(a0, .inr (9, [.ref a1, .ref a3, .ref a4, .ref a5, .ref a6, .ref a7, .ref a8, .ref a9, .ref a10])), (a1, .inr (3, [.ref a2, .int r8, .ref a11, .int y1, .int y2, .int y3, .int y4, .int y5, .int y6, .int y7])), (a2, .inl (E.2.2 1, 1600, .inl g9))] 0 0
    refine mp_callV hF (As := [.int x1]) (rest := []) (wr := [(a0, .inr (9, [.ref a1, .ref a3, .ref a4, .ref a5, .ref a6, .ref a7, .ref a8, .ref a9, .ref a10]))]) (bX3_addFour_0 E a1 a2 a11 g9 r8 y1 y2 y3 y4 y5 y6 y7 x1 l10 u11 l_y4 u_y4 l_y5 u_y5) mp_lkX9_75 1 rfl [1, 2] [0] rfl rfl rfl rfl rfl ⟨(Nat.le_of_ble_eq_true rfl), (Nat.le_of_ble_eq_true rfl), (Nat.le_of_ble_eq_true rfl), (Nat.le_of_ble_eq_true rfl)⟩ (Nat.le_of_ble_eq_true rfl) (by decide +kernel) (fun v12 w13 h14 => ?_)
    obtain ⟨r15, g16, rfl, l17, u18, rfl⟩ := h14
    show mp_W E X 6 34 [(0, .ref a0), (1, .int x0), (2, .int x1), (3, .int x2), (4, .int x3), (5, .int x4)] [] [(a0, .inr (9, [.ref a1, .ref a3, .ref a4, .ref a5, .ref a6, .ref a7, .ref a8, .ref a9, .ref a10])), (a1, .inr (3, [.ref a2, .int r15, .ref a11, .int y1, .int y2, .int y3, .int y4, .int y5, .int y6, .int y7])), (a2, .inl (E.2.2 1, 1600, .inl g16))] 0 0
    refine mp_run hF mp_tabX9_ok [mp_i (.aload_n 0), mp_h (.getfield 10) [36, 0], mp_i (.iload_n 3)] (by decide +kernel) ?_
    refine And.intro rfl (And.intro rfl ?_)
    show mp_W E X 6 39 [(0, .ref a0), (1, .int x0), (2, .int x1), (3, .int x2), (4, .int x3), (5, .int x4)] [.int x2, .ref a1] [(a0, .inr (9, [.ref a1, .ref a3, .ref a4, .ref a5, .ref a6, .ref a7, .ref a8, .ref a9, .ref a10])), (a1, .inr (3, [.ref a2, .int r15, .ref a11, .int y1, .int y2, .int y3, .int y4, .int y5, .int y6, .int y7])), (a2, .inl (E.2.2 1, 1600, .inl g16))] 0 0
    refine mp_callV hF (As := [.int x2]) (rest := []) (wr := [(a0, .inr (9, [.ref a1, .ref a3, .ref a4, .ref a5, .ref a6, .ref a7, .ref a8, .ref a9, .ref a10]))]) (bX3_addFour_0 E a1 a2 a11 g16 r15 y1 y2 y3 y4 y5 y6 y7 x2 l17 u18 l_y4 u_y4 l_y5 u_y5) mp_lkX9_75 1 rfl [1, 2] [0] rfl rfl rfl rfl rfl ⟨(Nat.le_of_ble_eq_true rfl), (Nat.le_of_ble_eq_true rfl), (Nat.le_of_ble_eq_true rfl), (Nat.le_of_ble_eq_true rfl)⟩ (Nat.le_of_ble_eq_true rfl) (by decide +kernel) (fun v19 w20 h21 => ?_)
    obtain ⟨r22, g23, rfl, l24, u25, rfl⟩ := h21
    show mp_W E X 6 42 [(0, .ref a0), (1, .int x0), (2, .int x1), (3, .int x2), (4, .int x3), (5, .int x4)] [] [(a0, .inr (9, [.ref a1, .ref a3, .ref a4, .ref a5, .ref a6, .ref a7, .ref a8, .ref a9, .ref a10])), (a1, .inr (3, [.ref a2, .int r22, .ref a11, .int y1, .int y2, .int y3, .int y4, .int y5, .int y6, .int y7])), (a2, .inl (E.2.2 1, 1600, .inl g23))] 0 0
    refine mp_run hF mp_tabX9_ok [mp_i (.aload_n 0), mp_h (.getfield 10) [36, 0], mp_i (.iload 4)] (by decide +kernel) ?_
    refine And.intro rfl (And.intro rfl ?_)
    show mp_W E X 6 48 [(0, .ref a0), (1, .int x0), (2, .int x1), (3, .int x2), (4, .int x3), (5, .int x4)] [.int x3, .ref a1] [(a0, .inr (9, [.ref a1, .ref a3, .ref a4, .ref a5, .ref a6, .ref a7, .ref a8, .ref a9, .ref a10])), (a1, .inr (3, [.ref a2, .int r22, .ref a11, .int y1, .int y2, .int y3, .int y4, .int y5, .int y6, .int y7])), (a2, .inl (E.2.2 1, 1600, .inl g23))] 0 0
    refine mp_callV hF (As := [.int x3]) (rest := []) (wr := [(a0, .inr (9, [.ref a1, .ref a3, .ref a4, .ref a5, .ref a6, .ref a7, .ref a8, .ref a9, .ref a10]))]) (bX3_addFour_0 E a1 a2 a11 g23 r22 y1 y2 y3 y4 y5 y6 y7 x3 l24 u25 l_y4 u_y4 l_y5 u_y5) mp_lkX9_75 1 rfl [1, 2] [0] rfl rfl rfl rfl rfl ⟨(Nat.le_of_ble_eq_true rfl), (Nat.le_of_ble_eq_true rfl), (Nat.le_of_ble_eq_true rfl), (Nat.le_of_ble_eq_true rfl)⟩ (Nat.le_of_ble_eq_true rfl) (by decide +kernel) (fun v26 w27 h28 => ?_)
    obtain ⟨r29, g30, rfl, l31, u32, rfl⟩ := h28
    show mp_W E X 6 51 [(0, .ref a0), (1, .int x0), (2, .int x1), (3, .int x2), (4, .int x3), (5, .int x4)] [] [(a0, .inr (9, [.ref a1, .ref a3, .ref a4, .ref a5, .ref a6, .ref a7, .ref a8, .ref a9, .ref a10])), (a1, .inr (3, [.ref a2, .int r29, .ref a11, .int y1, .int y2, .int y3, .int y4, .int y5, .int y6, .int y7])), (a2, .inl (E.2.2 1, 1600, .inl g30))] 0 0
    refine mp_run hF mp_tabX9_ok [mp_i (.aload_n 0), mp_h (.getfield 10) [36, 0], mp_i (.iload 5)] (by decide +kernel) ?_
    refine And.intro rfl (And.intro rfl ?_)
    show mp_W E X 6 57 [(0, .ref a0), (1, .int x0), (2, .int x1), (3, .int x2), (4, .int x3), (5, .int x4)] [.int x4, .ref a1] [(a0, .inr (9, [.ref a1, .ref a3, .ref a4, .ref a5, .ref a6, .ref a7, .ref a8, .ref a9, .ref a10])), (a1, .inr (3, [.ref a2, .int r29, .ref a11, .int y1, .int y2, .int y3, .int y4, .int y5, .int y6, .int y7])), (a2, .inl (E.2.2 1, 1600, .inl g30))] 0 0
    refine mp_callV hF (As := [.int x4]) (rest := []) (wr := [(a0, .inr (9, [.ref a1, .ref a3, .ref a4, .ref a5, .ref a6, .ref a7, .ref a8, .ref a9, .ref a10]))]) (bX3_addFour_0 E a1 a2 a11 g30 r29 y1 y2 y3 y4 y5 y6 y7 x4 l31 u32 l_y4 u_y4 l_y5 u_y5) mp_lkX9_75 1 rfl [1, 2] [0] rfl rfl rfl rfl rfl ⟨(Nat.le_of_ble_eq_true rfl), (Nat.le_of_ble_eq_true rfl), (Nat.le_of_ble_eq_true rfl), (Nat.le_of_ble_eq_true rfl)⟩ (Nat.le_of_ble_eq_true rfl) (by decide +kernel) (fun v33 w34 h35 => ?_)
    obtain ⟨r36, g37, rfl, l38, u39, rfl⟩ := h35
    show mp_W E X 6 60 [(0, .ref a0), (1, .int x0), (2, .int x1), (3, .int x2), (4, .int x3), (5, .int x4)] [] [(a0, .inr (9, [.ref a1, .ref a3, .ref a4, .ref a5, .ref a6, .ref a7, .ref a8, .ref a9, .ref a10])), (a1, .inr (3, [.ref a2, .int r36, .ref a11, .int y1, .int y2, .int y3, .int y4, .int y5, .int y6, .int y7])), (a2, .inl (E.2.2 1, 1600, .inl g37))] 0 0
    refine mp_run hF mp_tabX9_ok [mp_i (.aload_n 0), mp_h (.getfield 10) [36, 0], mp_h (.getfield 71) [16, 1]] (by decide +kernel) ?_
    refine And.intro rfl (And.intro rfl ?_)
    refine And.intro rfl (And.intro rfl ?_)
    show mp_W E X 6 67 [(0, .ref a0), (1, .int x0), (2, .int x1), (3, .int x2), (4, .int x3), (5, .int x4)] [.int r36] [(a0, .inr (9, [.ref a1, .ref a3, .ref a4, .ref a5, .ref a6, .ref a7, .ref a8, .ref a9, .ref a10])), (a1, .inr (3, [.ref a2, .int r36, .ref a11, .int y1, .int y2, .int y3, .int y4, .int y5, .int y6, .int y7])), (a2, .inl (E.2.2 1, 1600, .inl g37))] 0 0
    exact mp_iret hF hQ rfl rfl (Nat.le_of_ble_eq_true rfl) (Nat.le_of_ble_eq_true rfl) [0, 1, 2] (w' := [(a0, .inr (9, [.ref a1, .ref a3, .ref a4, .ref a5, .ref a6, .ref a7, .ref a8, .ref a9, .ref a10])), (a1, .inr (3, [.ref a2, .int r36, .ref a11, .int y1, .int y2, .int y3, .int y4, .int y5, .int y6, .int y7])), (a2, .inl (E.2.2 1, 1600, .inl g37))]) rfl rfl ⟨r36, g37, r36, rfl, l38, u39, (by omega), u39, rfl⟩ (by decide +kernel)
  · have c4 : 1600 < z1.toInt := c4
    show mp_W E X 6 16 [(0, .ref a0), (1, .int x0), (2, .int x1), (3, .int x2), (4, .int x3), (5, .int x4)] [] [(a0, .inr (9, [.ref a1, .ref a3, .ref a4, .ref a5, .ref a6, .ref a7, .ref a8, .ref a9, .ref a10])), (a1, .inr (3, [.ref a2, .int y0, .ref a11, .int y1, .int y2, .int y3, .int y4, .int y5, .int y6, .int y7])), (a2, .inl (E.2.2 1, 1600, .inl f0))] 0 0
    refine mp_run hF mp_tabX9_ok [mp_c (.iconst (-1)) (-1)] (by decide +kernel) ?_
    show mp_W E X 6 17 [(0, .ref a0), (1, .int x0), (2, .int x1), (3, .int x2), (4, .int x3), (5, .int x4)] [.int (-1)] [(a0, .inr (9, [.ref a1, .ref a3, .ref a4, .ref a5, .ref a6, .ref a7, .ref a8, .ref a9, .ref a10])), (a1, .inr (3, [.ref a2, .int y0, .ref a11, .int y1, .int y2, .int y3, .int y4, .int y5, .int y6, .int y7])), (a2, .inl (E.2.2 1, 1600, .inl f0))] 0 0
    exact mp_iret hF hQ rfl rfl (Nat.le_of_ble_eq_true rfl) (Nat.le_of_ble_eq_true rfl) [0, 1, 2] (w' := [(a0, .inr (9, [.ref a1, .ref a3, .ref a4, .ref a5, .ref a6, .ref a7, .ref a8, .ref a9, .ref a10])), (a1, .inr (3, [.ref a2, .int y0, .ref a11, .int y1, .int y2, .int y3, .int y4, .int y5, .int y6, .int y7])), (a2, .inl (E.2.2 1, 1600, .inl f0))]) rfl rfl ⟨y0, f0, (-1), rfl, l_y0, u_y0, (by decide), (by decide), rfl⟩ (by decide +kernel)
set_option maxHeartbeats 4000000 in
set_option maxRecDepth 100000 in
theorem bX9_end_2 (E : mp_E) (a0 a1 a2 a3 a4 a5 a6 a7 a8 a9 a10 a11 : Nat) (y0 : Int32) (y1 : Int32) (y2 : Int32) (y3 : Int32) (y4 : Int32) (y5 : Int32) (y6 : Int32) (y7 : Int32) (x0 : Int32) (l_y0 : 0 ≤ y0.toInt) (u_y0 : y0.toInt ≤ 1600) (l_y4 : 0 ≤ y4.toInt) (u_y4 : y4.toInt ≤ 1600) (l_y5 : 0 ≤ y5.toInt) (u_y5 : y5.toInt ≤ 1600) : mp_Ct E yX9_end cX9_end 2 (some FieldType.int) 0 0 0 0 [.ref a0, .int x0] [(a0, .inr (9, [.ref a1, .ref a2, .ref a3, .ref a4, .ref a5, .ref a6, .ref a7, .ref a8, .ref a9])), (a1, .inr (3, [.ref a10, .int y0, .ref a11, .int y1, .int y2, .int y3, .int y4, .int y5, .int y6, .int y7]))] (fun v w' => ∃ r1 : Int32, ∃ r2 : Int32, v = some (.int r2) ∧ 0 ≤ r1.toInt ∧ r1.toInt ≤ 1600 ∧ (-1) ≤ r2.toInt ∧ r2.toInt ≤ 1600 ∧ w' = [(a0, .inr (9, [.ref a1, .ref a2, .ref a3, .ref a4, .ref a5, .ref a6, .ref a7, .ref a8, .ref a9])), (a1, .inr (3, [.ref a10, .int r1, .ref a11, .int y1, .int y2, .int y3, .int y4, .int y5, .int y6, .int y7]))]) := by
  refine mp_met false (by decide) (by decide) (Nat.le_of_ble_eq_true rfl) (fun X hF hQ => ?_)
  have hF : mp_F E X (RX9, cX9_end, 2, (0, 0, 0, 0), (some FieldType.int), false) := hF
  show mp_W E X 2 0 [(0, .ref a0), (1, .int x0)] [] [(a0, .inr (9, [.ref a1, .ref a2, .ref a3, .ref a4, .ref a5, .ref a6, .ref a7, .ref a8, .ref a9])), (a1, .inr (3, [.ref a10, .int y0, .ref a11, .int y1, .int y2, .int y3, .int y4, .int y5, .int y6, .int y7]))] 0 0
  refine mp_run hF mp_tabX9_ok [mp_i (.iload_n 1), mp_h (.ifCond .lt 14) [15]] (by decide +kernel) ?_
  refine And.intro (fun c1 => ?_) (fun c1 => ?_)
  · have c1 : x0.toInt < 0 := c1
    show mp_W E X 2 15 [(0, .ref a0), (1, .int x0)] [] [(a0, .inr (9, [.ref a1, .ref a2, .ref a3, .ref a4, .ref a5, .ref a6, .ref a7, .ref a8, .ref a9])), (a1, .inr (3, [.ref a10, .int y0, .ref a11, .int y1, .int y2, .int y3, .int y4, .int y5, .int y6, .int y7]))] 0 0
    refine mp_run hF mp_tabX9_ok [mp_c (.iconst (-1)) (-1)] (by decide +kernel) ?_
    show mp_W E X 2 16 [(0, .ref a0), (1, .int x0)] [.int (-1)] [(a0, .inr (9, [.ref a1, .ref a2, .ref a3, .ref a4, .ref a5, .ref a6, .ref a7, .ref a8, .ref a9])), (a1, .inr (3, [.ref a10, .int y0, .ref a11, .int y1, .int y2, .int y3, .int y4, .int y5, .int y6, .int y7]))] 0 0
    exact mp_iret hF hQ rfl rfl (Nat.le_of_ble_eq_true rfl) (Nat.le_of_ble_eq_true rfl) [0, 1] (w' := [(a0, .inr (9, [.ref a1, .ref a2, .ref a3, .ref a4, .ref a5, .ref a6, .ref a7, .ref a8, .ref a9])), (a1, .inr (3, [.ref a10, .int y0, .ref a11, .int y1, .int y2, .int y3, .int y4, .int y5, .int y6, .int y7]))]) rfl rfl ⟨y0, (-1), rfl, l_y0, u_y0, (by decide), (by decide), rfl⟩ (by decide +kernel)
  · have c1 : 0 ≤ x0.toInt := c1
    show mp_W E X 2 4 [(0, .ref a0), (1, .int x0)] [] [(a0, .inr (9, [.ref a1, .ref a2, .ref a3, .ref a4, .ref a5, .ref a6, .ref a7, .ref a8, .ref a9])), (a1, .inr (3, [.ref a10, .int y0, .ref a11, .int y1, .int y2, .int y3, .int y4, .int y5, .int y6, .int y7]))] 0 0
    refine mp_run hF mp_tabX9_ok [mp_i (.iload_n 1), mp_i (.aload_n 0), mp_h (.getfield 10) [36, 0], mp_h (.getfield 71) [16, 1], mp_h (.if_icmp .le 5) [17]] (by decide +kernel) ?_
    refine And.intro rfl (And.intro rfl ?_)
    refine And.intro rfl (And.intro rfl ?_)
    refine And.intro (fun c2 => ?_) (fun c2 => ?_)
    · have c2 : x0.toInt ≤ y0.toInt := c2
      show mp_W E X 2 17 [(0, .ref a0), (1, .int x0)] [] [(a0, .inr (9, [.ref a1, .ref a2, .ref a3, .ref a4, .ref a5, .ref a6, .ref a7, .ref a8, .ref a9])), (a1, .inr (3, [.ref a10, .int y0, .ref a11, .int y1, .int y2, .int y3, .int y4, .int y5, .int y6, .int y7]))] 0 0
      refine mp_run hF mp_tabX9_ok [mp_i (.aload_n 0), mp_h (.getfield 10) [36, 0], mp_i (.iload_n 1), mp_h (.putfield 71) [16, 1]] (by decide +kernel) ?_
      refine And.intro rfl (And.intro rfl ?_)
      refine And.intro rfl (And.intro rfl (And.intro rfl (And.intro rfl (And.intro (Nat.le_of_ble_eq_true rfl) ?_))))
      show mp_W E X 2 25 [(0, .ref a0), (1, .int x0)] [] [(a0, .inr (9, [.ref a1, .ref a2, .ref a3, .ref a4, .ref a5, .ref a6, .ref a7, .ref a8, .ref a9])), (a1, .inr (3, [.ref a10, .int x0, .ref a11, .int y1, .int y2, .int y3, .int y4, .int y5, .int y6, .int y7]))] 0 0
      refine mp_run hF mp_tabX9_ok [mp_i (.iload_n 1)] (by decide +kernel) ?_
      show mp_W E X 2 26 [(0, .ref a0), (1, .int x0)] [.int x0] [(a0, .inr (9, [.ref a1, .ref a2, .ref a3, .ref a4, .ref a5, .ref a6, .ref a7, .ref a8, .ref a9])), (a1, .inr (3, [.ref a10, .int x0, .ref a11, .int y1, .int y2, .int y3, .int y4, .int y5, .int y6, .int y7]))] 0 0
      exact mp_iret hF hQ rfl rfl (Nat.le_of_ble_eq_true rfl) (Nat.le_of_ble_eq_true rfl) [0, 1] (w' := [(a0, .inr (9, [.ref a1, .ref a2, .ref a3, .ref a4, .ref a5, .ref a6, .ref a7, .ref a8, .ref a9])), (a1, .inr (3, [.ref a10, .int x0, .ref a11, .int y1, .int y2, .int y3, .int y4, .int y5, .int y6, .int y7]))]) rfl rfl ⟨x0, x0, rfl, (by omega), (by omega), (by omega), (by omega), rfl⟩ (by decide +kernel)
    · have c2 : y0.toInt < x0.toInt := c2
      show mp_W E X 2 15 [(0, .ref a0), (1, .int x0)] [] [(a0, .inr (9, [.ref a1, .ref a2, .ref a3, .ref a4, .ref a5, .ref a6, .ref a7, .ref a8, .ref a9])), (a1, .inr (3, [.ref a10, .int y0, .ref a11, .int y1, .int y2, .int y3, .int y4, .int y5, .int y6, .int y7]))] 0 0
      refine mp_run hF mp_tabX9_ok [mp_c (.iconst (-1)) (-1)] (by decide +kernel) ?_
      show mp_W E X 2 16 [(0, .ref a0), (1, .int x0)] [.int (-1)] [(a0, .inr (9, [.ref a1, .ref a2, .ref a3, .ref a4, .ref a5, .ref a6, .ref a7, .ref a8, .ref a9])), (a1, .inr (3, [.ref a10, .int y0, .ref a11, .int y1, .int y2, .int y3, .int y4, .int y5, .int y6, .int y7]))] 0 0
      exact mp_iret hF hQ rfl rfl (Nat.le_of_ble_eq_true rfl) (Nat.le_of_ble_eq_true rfl) [0, 1] (w' := [(a0, .inr (9, [.ref a1, .ref a2, .ref a3, .ref a4, .ref a5, .ref a6, .ref a7, .ref a8, .ref a9])), (a1, .inr (3, [.ref a10, .int y0, .ref a11, .int y1, .int y2, .int y3, .int y4, .int y5, .int y6, .int y7]))]) rfl rfl ⟨y0, (-1), rfl, l_y0, u_y0, (by decide), (by decide), rfl⟩ (by decide +kernel)
set_option maxHeartbeats 4000000 in
set_option maxRecDepth 100000 in
theorem bJ7_fill_53178_3 (E : mp_E) (a0 : Nat) (f0 : Nat → Int32) (x0 : Int32) : mp_Ct E yJ7_fill_53178 cJ7_fill_53178 4 none 0 0 0 0 [.ref a0, .int x0] [(a0, .inl (E.2.2 0, 36, .inl f0))] (fun v w' => ∃ h1 : Nat → Int32, v = none ∧ w' = [(a0, .inl (E.2.2 0, 36, .inl h1))]) := by
  refine mp_met false (by decide) (by decide) (Nat.le_of_ble_eq_true rfl) (fun X hF hQ => ?_)
  have hF : mp_F E X (RJ7, cJ7_fill_53178, 4, (0, 0, 0, 0), none, false) := hF
  show mp_W E X 4 0 [(0, .ref a0), (1, .int x0)] [] [(a0, .inl (E.2.2 0, 36, .inl f0))] 0 0
  refine mp_run hF mp_tab0_ok [mp_c (.iconst 0) 0, mp_i (.istore_n 2), mp_i (.aload_n 0), mp_h .arraylength [0, 0], mp_i (.istore_n 3)] (by decide +kernel) ?_
  refine And.intro rfl (And.intro rfl (And.intro (by decide) ?_))
  intro z1 h2
  obtain rfl : z1 = 36 := h2.trans (by decide)
  show mp_W E X 4 5 [(3, .int 36), (2, .int 0), (0, .ref a0), (1, .int x0)] [] [(a0, .inl (E.2.2 0, 36, .inl f0))] 0 0
  have lp7 : ∀ (d8 : Nat) (i3 : Int32) (g4 : Nat → Int32), 0 ≤ i3.toInt → i3.toInt ≤ 36 → -(i3.toInt) + 36 ≤ (d8 : Int) → mp_W E X 4 5 [(3, .int 36), (2, .int i3), (0, .ref a0), (1, .int x0)] [] [(a0, .inl (E.2.2 0, 36, .inl g4))] 0 0 := by
    intro d8
    induction d8 using Nat.strongRecOn with
    | ind d8 ih9 =>
      intro i3 g4 l5 u6 hm10
      refine mp_run hF mp_tab0_ok [mp_i (.iload_n 2), mp_i (.iload_n 3), mp_h (.if_icmp .ge 13) [20]] (by decide +kernel) ?_
      refine And.intro (fun c11 => ?_) (fun c11 => ?_)
      · have c11 : 36 ≤ i3.toInt := c11
        show mp_W E X 4 20 [(3, .int 36), (2, .int i3), (0, .ref a0), (1, .int x0)] [] [(a0, .inl (E.2.2 0, 36, .inl g4))] 0 0
        exact mp_vret hF hQ rfl (Nat.le_of_ble_eq_true rfl) (Nat.le_of_ble_eq_true rfl) [0] (w' := [(a0, .inl (E.2.2 0, 36, .inl g4))]) rfl rfl ⟨g4, rfl, rfl⟩ (by decide +kernel)
      · have c11 : i3.toInt < 36 := c11
        show mp_W E X 4 10 [(3, .int 36), (2, .int i3), (0, .ref a0), (1, .int x0)] [] [(a0, .inl (E.2.2 0, 36, .inl g4))] 0 0
        refine mp_run hF mp_tab0_ok [mp_i (.aload_n 0), mp_i (.iload_n 2), mp_i (.iload_n 1), mp_h .iastore [0]] (by decide +kernel) ?_
        refine And.intro rfl (And.intro rfl (And.intro (vp_in_iff.mpr (by omega)) ?_))
        intro g12 h13
        show mp_W E X 4 14 [(3, .int 36), (2, .int i3), (0, .ref a0), (1, .int x0)] [] [(a0, .inl (E.2.2 0, 36, .inl g12))] 0 0
        refine mp_run hF mp_tab0_ok [mp_c (.iinc 2 1) 1, mp_h (.goto (-12)) [5]] (by decide +kernel) ?_
        intro z14 h15
        have e16 : z14.toInt = i3.toInt + 1 := mp_add (a := i3.toInt) (b := 1) h15 rfl (by decide) (by omega) (by omega)
        show mp_W E X 4 5 [(2, .int z14), (3, .int 36), (0, .ref a0), (1, .int x0)] [] [(a0, .inl (E.2.2 0, 36, .inl g12))] 0 0
        exact mp_sub [1, 0, 2, 3] rfl [0] rfl rfl (ih9 (d8 - 1) (by omega) z14 g12 (by omega) (by omega) (by omega))
  exact mp_sub [0, 1, 2, 3] rfl [0] rfl rfl (lp7 _ 0 f0 (by decide) (by decide) (Int.self_le_toNat _))
set_option maxHeartbeats 4000000 in
set_option maxRecDepth 100000 in
theorem bJ7_fill_d0a16_4 (E : mp_E) (a0 : Nat) (f0 : Nat → Int64) (x0 : Int64) : mp_Ct E yJ7_fill_d0a16 cJ7_fill_d0a16 5 none 0 0 0 0 [.ref a0, .long x0] [(a0, .inl (E.2.2 2, 12, .inr (.inl f0)))] (fun v w' => ∃ h1 : Nat → Int64, v = none ∧ w' = [(a0, .inl (E.2.2 2, 12, .inr (.inl h1)))]) := by
  refine mp_met false (by decide) (by decide) (Nat.le_of_ble_eq_true rfl) (fun X hF hQ => ?_)
  have hF : mp_F E X (RJ7, cJ7_fill_d0a16, 5, (0, 0, 0, 0), none, false) := hF
  show mp_W E X 5 0 [(0, .ref a0), (1, .long x0)] [] [(a0, .inl (E.2.2 2, 12, .inr (.inl f0)))] 0 0
  refine mp_run hF mp_tab0_ok [mp_c (.iconst 0) 0, mp_i (.istore_n 3), mp_i (.aload_n 0), mp_h .arraylength [0, 2], mp_i (.istore 4)] (by decide +kernel) ?_
  refine And.intro rfl (And.intro rfl (And.intro (by decide) ?_))
  intro z1 h2
  obtain rfl : z1 = 12 := h2.trans (by decide)
  show mp_W E X 5 6 [(4, .int 12), (3, .int 0), (0, .ref a0), (1, .long x0)] [] [(a0, .inl (E.2.2 2, 12, .inr (.inl f0)))] 0 0
  have lp7 : ∀ (d8 : Nat) (i3 : Int32) (g4 : Nat → Int64), 0 ≤ i3.toInt → i3.toInt ≤ 12 → -(i3.toInt) + 12 ≤ (d8 : Int) → mp_W E X 5 6 [(4, .int 12), (3, .int i3), (0, .ref a0), (1, .long x0)] [] [(a0, .inl (E.2.2 2, 12, .inr (.inl g4)))] 0 0 := by
    intro d8
    induction d8 using Nat.strongRecOn with
    | ind d8 ih9 =>
      intro i3 g4 l5 u6 hm10
      refine mp_run hF mp_tab0_ok [mp_i (.iload_n 3), mp_i (.iload 4), mp_h (.if_icmp .ge 13) [22]] (by decide +kernel) ?_
      refine And.intro (fun c11 => ?_) (fun c11 => ?_)
      · have c11 : 12 ≤ i3.toInt := c11
        show mp_W E X 5 22 [(4, .int 12), (3, .int i3), (0, .ref a0), (1, .long x0)] [] [(a0, .inl (E.2.2 2, 12, .inr (.inl g4)))] 0 0
        exact mp_vret hF hQ rfl (Nat.le_of_ble_eq_true rfl) (Nat.le_of_ble_eq_true rfl) [0] (w' := [(a0, .inl (E.2.2 2, 12, .inr (.inl g4)))]) rfl rfl ⟨g4, rfl, rfl⟩ (by decide +kernel)
      · have c11 : i3.toInt < 12 := c11
        show mp_W E X 5 12 [(4, .int 12), (3, .int i3), (0, .ref a0), (1, .long x0)] [] [(a0, .inl (E.2.2 2, 12, .inr (.inl g4)))] 0 0
        refine mp_run hF mp_tab0_ok [mp_i (.aload_n 0), mp_i (.iload_n 3), mp_i (.lload_n 1), mp_h .lastore [0]] (by decide +kernel) ?_
        refine And.intro rfl (And.intro rfl (And.intro (vp_in_iff.mpr (by omega)) ?_))
        intro g12 h13
        show mp_W E X 5 16 [(4, .int 12), (3, .int i3), (0, .ref a0), (1, .long x0)] [] [(a0, .inl (E.2.2 2, 12, .inr (.inl g12)))] 0 0
        refine mp_run hF mp_tab0_ok [mp_c (.iinc 3 1) 1, mp_h (.goto (-13)) [6]] (by decide +kernel) ?_
        intro z14 h15
        have e16 : z14.toInt = i3.toInt + 1 := mp_add (a := i3.toInt) (b := 1) h15 rfl (by decide) (by omega) (by omega)
        show mp_W E X 5 6 [(3, .int z14), (4, .int 12), (0, .ref a0), (1, .long x0)] [] [(a0, .inl (E.2.2 2, 12, .inr (.inl g12)))] 0 0
        exact mp_sub [1, 0, 2, 3] rfl [0] rfl rfl (ih9 (d8 - 1) (by omega) z14 g12 (by omega) (by omega) (by omega))
  exact mp_sub [0, 1, 2, 3] rfl [0] rfl rfl (lp7 _ 0 f0 (by decide) (by decide) (Int.self_le_toNat _))
set_option maxHeartbeats 4000000 in
set_option maxRecDepth 100000 in
theorem bX7_clear_5 (E : mp_E) (a0 a1 a2 a3 a4 a5 a6 a7 a8 a9 a10 a11 a12 : Nat) (f0 : Nat → Int32) (f1 : Nat → Int64) (y0 : Int32) (y1 : Int32) (y2 : Int32) (y3 : Int32) (y4 : Int32) (y5 : Int32) (l_y1 : 0 ≤ y1.toInt) (u_y1 : y1.toInt ≤ 6) (l_y2 : 0 ≤ y2.toInt) (u_y2 : y2.toInt ≤ 99) (l_y3 : 0 ≤ y3.toInt) (u_y3 : y3.toInt ≤ 6) (l_y4 : 0 ≤ y4.toInt) (u_y4 : y4.toInt ≤ 10) (l_y5 : 0 ≤ y5.toInt) (u_y5 : y5.toInt ≤ 60) : mp_Ct E yX7_clear cX7_clear 1 none 1 0 0 24 [.ref a0] [(a0, .inr (7, [.int y0, .int y1, .int y2, .int y3, .int y4, .int y5, .ref a1, .ref a2, .ref a3, .ref a4, .ref a5, .ref a6, .ref a7, .ref a8, .ref a9, .ref a10, .ref a11, .ref a12])), (a1, .inl (E.2.2 0, 36, .inl f0)), (a2, .inl (E.2.2 2, 12, .inr (.inl f1)))] (fun v w' => ∃ h1 : Nat → Int32, ∃ h2 : Nat → Int64, v = none ∧ w' = [(a0, .inr (7, [.int 0, .int 0, .int 0, .int 0, .int 0, .int 0, .ref a1, .ref a2, .ref a3, .ref a4, .ref a5, .ref a6, .ref a7, .ref a8, .ref a9, .ref a10, .ref a11, .ref a12])), (a1, .inl (E.2.2 0, 36, .inl h1)), (a2, .inl (E.2.2 2, 12, .inr (.inl h2)))]) := by
  refine mp_met false (by decide) (by decide) (Nat.le_of_ble_eq_true rfl) (fun X hF hQ => ?_)
  have hF : mp_F E X (RX7, cX7_clear, 1, (1, 0, 0, 24), none, false) := hF
  show mp_W E X 1 0 [(0, .ref a0)] [] [(a0, .inr (7, [.int y0, .int y1, .int y2, .int y3, .int y4, .int y5, .ref a1, .ref a2, .ref a3, .ref a4, .ref a5, .ref a6, .ref a7, .ref a8, .ref a9, .ref a10, .ref a11, .ref a12])), (a1, .inl (E.2.2 0, 36, .inl f0)), (a2, .inl (E.2.2 2, 12, .inr (.inl f1)))] 0 0
  refine mp_run hF mp_tabX7_ok [mp_i (.aload_n 0), mp_c (.iconst 0) 0, mp_h (.putfield 49) [0, 0]] (by decide +kernel) ?_
  refine And.intro rfl (And.intro rfl (And.intro rfl (And.intro rfl (And.intro (Nat.le_of_ble_eq_true rfl) ?_))))
  show mp_W E X 1 5 [(0, .ref a0)] [] [(a0, .inr (7, [.int 0, .int y1, .int y2, .int y3, .int y4, .int y5, .ref a1, .ref a2, .ref a3, .ref a4, .ref a5, .ref a6, .ref a7, .ref a8, .ref a9, .ref a10, .ref a11, .ref a12])), (a1, .inl (E.2.2 0, 36, .inl f0)), (a2, .inl (E.2.2 2, 12, .inr (.inl f1)))] 0 0
  refine mp_run hF mp_tabX7_ok [mp_i (.aload_n 0), mp_c (.iconst 0) 0, mp_h (.putfield 53) [1, 0]] (by decide +kernel) ?_
  refine And.intro rfl (And.intro rfl (And.intro rfl (And.intro rfl (And.intro (Nat.le_of_ble_eq_true rfl) ?_))))
  show mp_W E X 1 10 [(0, .ref a0)] [] [(a0, .inr (7, [.int 0, .int 0, .int y2, .int y3, .int y4, .int y5, .ref a1, .ref a2, .ref a3, .ref a4, .ref a5, .ref a6, .ref a7, .ref a8, .ref a9, .ref a10, .ref a11, .ref a12])), (a1, .inl (E.2.2 0, 36, .inl f0)), (a2, .inl (E.2.2 2, 12, .inr (.inl f1)))] 0 0
  refine mp_run hF mp_tabX7_ok [mp_i (.aload_n 0), mp_c (.iconst 0) 0, mp_h (.putfield 56) [2, 0]] (by decide +kernel) ?_
  refine And.intro rfl (And.intro rfl (And.intro rfl (And.intro rfl (And.intro (Nat.le_of_ble_eq_true rfl) ?_))))
  show mp_W E X 1 15 [(0, .ref a0)] [] [(a0, .inr (7, [.int 0, .int 0, .int 0, .int y3, .int y4, .int y5, .ref a1, .ref a2, .ref a3, .ref a4, .ref a5, .ref a6, .ref a7, .ref a8, .ref a9, .ref a10, .ref a11, .ref a12])), (a1, .inl (E.2.2 0, 36, .inl f0)), (a2, .inl (E.2.2 2, 12, .inr (.inl f1)))] 0 0
  refine mp_run hF mp_tabX7_ok [mp_i (.aload_n 0), mp_c (.iconst 0) 0, mp_h (.putfield 59) [3, 0]] (by decide +kernel) ?_
  refine And.intro rfl (And.intro rfl (And.intro rfl (And.intro rfl (And.intro (Nat.le_of_ble_eq_true rfl) ?_))))
  show mp_W E X 1 20 [(0, .ref a0)] [] [(a0, .inr (7, [.int 0, .int 0, .int 0, .int 0, .int y4, .int y5, .ref a1, .ref a2, .ref a3, .ref a4, .ref a5, .ref a6, .ref a7, .ref a8, .ref a9, .ref a10, .ref a11, .ref a12])), (a1, .inl (E.2.2 0, 36, .inl f0)), (a2, .inl (E.2.2 2, 12, .inr (.inl f1)))] 0 0
  refine mp_run hF mp_tabX7_ok [mp_i (.aload_n 0), mp_c (.iconst 0) 0, mp_h (.putfield 62) [4, 0]] (by decide +kernel) ?_
  refine And.intro rfl (And.intro rfl (And.intro rfl (And.intro rfl (And.intro (Nat.le_of_ble_eq_true rfl) ?_))))
  show mp_W E X 1 25 [(0, .ref a0)] [] [(a0, .inr (7, [.int 0, .int 0, .int 0, .int 0, .int 0, .int y5, .ref a1, .ref a2, .ref a3, .ref a4, .ref a5, .ref a6, .ref a7, .ref a8, .ref a9, .ref a10, .ref a11, .ref a12])), (a1, .inl (E.2.2 0, 36, .inl f0)), (a2, .inl (E.2.2 2, 12, .inr (.inl f1)))] 0 0
  refine mp_run hF mp_tabX7_ok [mp_i (.aload_n 0), mp_c (.iconst 0) 0, mp_h (.putfield 65) [5, 0]] (by decide +kernel) ?_
  refine And.intro rfl (And.intro rfl (And.intro rfl (And.intro rfl (And.intro (Nat.le_of_ble_eq_true rfl) ?_))))
  show mp_W E X 1 30 [(0, .ref a0)] [] [(a0, .inr (7, [.int 0, .int 0, .int 0, .int 0, .int 0, .int 0, .ref a1, .ref a2, .ref a3, .ref a4, .ref a5, .ref a6, .ref a7, .ref a8, .ref a9, .ref a10, .ref a11, .ref a12])), (a1, .inl (E.2.2 0, 36, .inl f0)), (a2, .inl (E.2.2 2, 12, .inr (.inl f1)))] 0 0
  refine mp_run hF mp_tabX7_ok [mp_i (.aload_n 0), mp_h (.getfield 9) [6, 0], mp_c (.iconst 0) 0] (by decide +kernel) ?_
  refine And.intro rfl (And.intro rfl ?_)
  show mp_W E X 1 35 [(0, .ref a0)] [.int 0, .ref a1] [(a0, .inr (7, [.int 0, .int 0, .int 0, .int 0, .int 0, .int 0, .ref a1, .ref a2, .ref a3, .ref a4, .ref a5, .ref a6, .ref a7, .ref a8, .ref a9, .ref a10, .ref a11, .ref a12])), (a1, .inl (E.2.2 0, 36, .inl f0)), (a2, .inl (E.2.2 2, 12, .inr (.inl f1)))] 0 0
  refine mp_callS hF (As := [.ref a1, .int 0]) (rest := []) (wr := [(a0, .inr (7, [.int 0, .int 0, .int 0, .int 0, .int 0, .int 0, .ref a1, .ref a2, .ref a3, .ref a4, .ref a5, .ref a6, .ref a7, .ref a8, .ref a9, .ref a10, .ref a11, .ref a12])), (a2, .inl (E.2.2 2, 12, .inr (.inl f1)))]) (bJ7_fill_53178_3 E a1 f0 0) mp_lkX7_68 [1] [0, 2] rfl rfl rfl rfl rfl ⟨(Nat.le_of_ble_eq_true rfl), (Nat.le_of_ble_eq_true rfl), (Nat.le_of_ble_eq_true rfl), (Nat.le_of_ble_eq_true rfl)⟩ (Nat.le_of_ble_eq_true rfl) (by decide +kernel) (fun v1 w2 h3 => ?_)
  obtain ⟨g4, rfl, rfl⟩ := h3
  show mp_W E X 1 38 [(0, .ref a0)] [] [(a0, .inr (7, [.int 0, .int 0, .int 0, .int 0, .int 0, .int 0, .ref a1, .ref a2, .ref a3, .ref a4, .ref a5, .ref a6, .ref a7, .ref a8, .ref a9, .ref a10, .ref a11, .ref a12])), (a2, .inl (E.2.2 2, 12, .inr (.inl f1))), (a1, .inl (E.2.2 0, 36, .inl g4))] 0 0
  refine mp_run hF mp_tabX7_ok [mp_i (.aload_n 0), mp_h (.getfield 15) [7, 0], mp_cl (.lconst 0) 0] (by decide +kernel) ?_
  refine And.intro rfl (And.intro rfl ?_)
  show mp_W E X 1 43 [(0, .ref a0)] [.long 0, .ref a2] [(a0, .inr (7, [.int 0, .int 0, .int 0, .int 0, .int 0, .int 0, .ref a1, .ref a2, .ref a3, .ref a4, .ref a5, .ref a6, .ref a7, .ref a8, .ref a9, .ref a10, .ref a11, .ref a12])), (a2, .inl (E.2.2 2, 12, .inr (.inl f1))), (a1, .inl (E.2.2 0, 36, .inl g4))] 0 0
  refine mp_callS hF (As := [.ref a2, .long 0]) (rest := []) (wr := [(a0, .inr (7, [.int 0, .int 0, .int 0, .int 0, .int 0, .int 0, .ref a1, .ref a2, .ref a3, .ref a4, .ref a5, .ref a6, .ref a7, .ref a8, .ref a9, .ref a10, .ref a11, .ref a12])), (a1, .inl (E.2.2 0, 36, .inl g4))]) (bJ7_fill_d0a16_4 E a2 f1 0) mp_lkX7_74 [1] [0, 2] rfl rfl rfl rfl rfl ⟨(Nat.le_of_ble_eq_true rfl), (Nat.le_of_ble_eq_true rfl), (Nat.le_of_ble_eq_true rfl), (Nat.le_of_ble_eq_true rfl)⟩ (Nat.le_of_ble_eq_true rfl) (by decide +kernel) (fun v5 w6 h7 => ?_)
  obtain ⟨g8, rfl, rfl⟩ := h7
  show mp_W E X 1 46 [(0, .ref a0)] [] [(a0, .inr (7, [.int 0, .int 0, .int 0, .int 0, .int 0, .int 0, .ref a1, .ref a2, .ref a3, .ref a4, .ref a5, .ref a6, .ref a7, .ref a8, .ref a9, .ref a10, .ref a11, .ref a12])), (a1, .inl (E.2.2 0, 36, .inl g4)), (a2, .inl (E.2.2 2, 12, .inr (.inl g8)))] 0 0
  exact mp_vret hF hQ rfl (Nat.le_of_ble_eq_true rfl) (Nat.le_of_ble_eq_true rfl) [0, 1, 2] (w' := [(a0, .inr (7, [.int 0, .int 0, .int 0, .int 0, .int 0, .int 0, .ref a1, .ref a2, .ref a3, .ref a4, .ref a5, .ref a6, .ref a7, .ref a8, .ref a9, .ref a10, .ref a11, .ref a12])), (a1, .inl (E.2.2 0, 36, .inl g4)), (a2, .inl (E.2.2 2, 12, .inr (.inl g8)))]) rfl rfl ⟨g4, g8, rfl, rfl⟩ (by decide +kernel)
set_option maxHeartbeats 4000000 in
set_option maxRecDepth 100000 in
theorem bX3_isLetter_6 (E : mp_E) (a0 a1 a2 : Nat) (f0 : Nat → Int32) (y0 : Int32) (y1 : Int32) (y2 : Int32) (y3 : Int32) (y4 : Int32) (y5 : Int32) (y6 : Int32) (y7 : Int32) (x0 : Int32) (l_x0 : 0 ≤ x0.toInt) (u_x0 : x0.toInt ≤ 1599) (l_y0 : 0 ≤ y0.toInt) (u_y0 : y0.toInt ≤ 1600) (l_y4 : 0 ≤ y4.toInt) (u_y4 : y4.toInt ≤ 1600) (l_y5 : 0 ≤ y5.toInt) (u_y5 : y5.toInt ≤ 1600) : mp_Ct E yX3_isLetter cX3_isLetter 2 (some FieldType.boolean) 0 0 0 0 [.ref a0, .int x0] [(a0, .inr (3, [.ref a1, .int y0, .ref a2, .int y1, .int y2, .int y3, .int y4, .int y5, .int y6, .int y7])), (a1, .inl (E.2.2 1, 1600, .inl f0))] (fun v w' => (v = some (.int 0) ∧ w' = [(a0, .inr (3, [.ref a1, .int y0, .ref a2, .int y1, .int y2, .int y3, .int y4, .int y5, .int y6, .int y7])), (a1, .inl (E.2.2 1, 1600, .inl f0))]) ∨ (v = some (.int 1) ∧ w' = [(a0, .inr (3, [.ref a1, .int y0, .ref a2, .int y1, .int y2, .int y3, .int y4, .int y5, .int y6, .int y7])), (a1, .inl (E.2.2 1, 1600, .inl f0))])) := by
  refine mp_met false (by decide) (by decide) (Nat.le_of_ble_eq_true rfl) (fun X hF hQ => ?_)
  have hF : mp_F E X (RX3, cX3_isLetter, 2, (0, 0, 0, 0), (some FieldType.boolean), false) := hF
  show mp_W E X 2 0 [(0, .ref a0), (1, .int x0)] [] [(a0, .inr (3, [.ref a1, .int y0, .ref a2, .int y1, .int y2, .int y3, .int y4, .int y5, .int y6, .int y7])), (a1, .inl (E.2.2 1, 1600, .inl f0))] 0 0
  refine mp_run hF mp_tabX3_ok [mp_i (.aload_n 0), mp_h (.getfield 9) [9, 0], mp_i (.iload_n 1), mp_h .baload [1], mp_c (.bipush 97) 97, mp_h (.if_icmp .lt 18) [26]] (by decide +kernel) ?_
  refine And.intro rfl (And.intro rfl ?_)
  refine And.intro rfl (And.intro rfl (And.intro (vp_in_iff.mpr (by omega)) ?_))
  intro z1 h2
  refine And.intro (fun c3 => ?_) (fun c3 => ?_)
  · have c3 : z1.toInt < 97 := c3
    show mp_W E X 2 26 [(0, .ref a0), (1, .int x0)] [] [(a0, .inr (3, [.ref a1, .int y0, .ref a2, .int y1, .int y2, .int y3, .int y4, .int y5, .int y6, .int y7])), (a1, .inl (E.2.2 1, 1600, .inl f0))] 0 0
    refine mp_run hF mp_tabX3_ok [mp_c (.iconst 0) 0] (by decide +kernel) ?_
    show mp_W E X 2 27 [(0, .ref a0), (1, .int x0)] [.int 0] [(a0, .inr (3, [.ref a1, .int y0, .ref a2, .int y1, .int y2, .int y3, .int y4, .int y5, .int y6, .int y7])), (a1, .inl (E.2.2 1, 1600, .inl f0))] 0 0
    exact mp_iret hF hQ rfl (by decide) (Nat.le_of_ble_eq_true rfl) (Nat.le_of_ble_eq_true rfl) [0, 1] (w' := [(a0, .inr (3, [.ref a1, .int y0, .ref a2, .int y1, .int y2, .int y3, .int y4, .int y5, .int y6, .int y7])), (a1, .inl (E.2.2 1, 1600, .inl f0))]) rfl rfl (Or.inl ⟨rfl, rfl⟩) (by decide +kernel)
  · have c3 : 97 ≤ z1.toInt := c3
    show mp_W E X 2 11 [(0, .ref a0), (1, .int x0)] [] [(a0, .inr (3, [.ref a1, .int y0, .ref a2, .int y1, .int y2, .int y3, .int y4, .int y5, .int y6, .int y7])), (a1, .inl (E.2.2 1, 1600, .inl f0))] 0 0
    refine mp_run hF mp_tabX3_ok [mp_i (.aload_n 0), mp_h (.getfield 9) [9, 0], mp_i (.iload_n 1), mp_h .baload [1], mp_c (.bipush 122) 122, mp_h (.if_icmp .gt 7) [26]] (by decide +kernel) ?_
    refine And.intro rfl (And.intro rfl ?_)
    refine And.intro rfl (And.intro rfl (And.intro (vp_in_iff.mpr (by omega)) ?_))
    intro z4 h5
    refine And.intro (fun c6 => ?_) (fun c6 => ?_)
    · have c6 : 122 < z4.toInt := c6
      show mp_W E X 2 26 [(0, .ref a0), (1, .int x0)] [] [(a0, .inr (3, [.ref a1, .int y0, .ref a2, .int y1, .int y2, .int y3, .int y4, .int y5, .int y6, .int y7])), (a1, .inl (E.2.2 1, 1600, .inl f0))] 0 0
      refine mp_run hF mp_tabX3_ok [mp_c (.iconst 0) 0] (by decide +kernel) ?_
      show mp_W E X 2 27 [(0, .ref a0), (1, .int x0)] [.int 0] [(a0, .inr (3, [.ref a1, .int y0, .ref a2, .int y1, .int y2, .int y3, .int y4, .int y5, .int y6, .int y7])), (a1, .inl (E.2.2 1, 1600, .inl f0))] 0 0
      exact mp_iret hF hQ rfl (by decide) (Nat.le_of_ble_eq_true rfl) (Nat.le_of_ble_eq_true rfl) [0, 1] (w' := [(a0, .inr (3, [.ref a1, .int y0, .ref a2, .int y1, .int y2, .int y3, .int y4, .int y5, .int y6, .int y7])), (a1, .inl (E.2.2 1, 1600, .inl f0))]) rfl rfl (Or.inl ⟨rfl, rfl⟩) (by decide +kernel)
    · have c6 : z4.toInt ≤ 122 := c6
      show mp_W E X 2 22 [(0, .ref a0), (1, .int x0)] [] [(a0, .inr (3, [.ref a1, .int y0, .ref a2, .int y1, .int y2, .int y3, .int y4, .int y5, .int y6, .int y7])), (a1, .inl (E.2.2 1, 1600, .inl f0))] 0 0
      refine mp_run hF mp_tabX3_ok [mp_c (.iconst 1) 1, mp_h (.goto 4) [27]] (by decide +kernel) ?_
      show mp_W E X 2 27 [(0, .ref a0), (1, .int x0)] [.int 1] [(a0, .inr (3, [.ref a1, .int y0, .ref a2, .int y1, .int y2, .int y3, .int y4, .int y5, .int y6, .int y7])), (a1, .inl (E.2.2 1, 1600, .inl f0))] 0 0
      exact mp_iret hF hQ rfl (by decide) (Nat.le_of_ble_eq_true rfl) (Nat.le_of_ble_eq_true rfl) [0, 1] (w' := [(a0, .inr (3, [.ref a1, .int y0, .ref a2, .int y1, .int y2, .int y3, .int y4, .int y5, .int y6, .int y7])), (a1, .inl (E.2.2 1, 1600, .inl f0))]) rfl rfl (Or.inr ⟨rfl, rfl⟩) (by decide +kernel)
set_option maxHeartbeats 4000000 in
set_option maxRecDepth 100000 in
theorem bX3_isDigit_7 (E : mp_E) (a0 a1 a2 : Nat) (f0 : Nat → Int32) (y0 : Int32) (y1 : Int32) (y2 : Int32) (y3 : Int32) (y4 : Int32) (y5 : Int32) (y6 : Int32) (y7 : Int32) (x0 : Int32) (l_x0 : 0 ≤ x0.toInt) (u_x0 : x0.toInt ≤ 1599) (l_y0 : 0 ≤ y0.toInt) (u_y0 : y0.toInt ≤ 1600) (l_y4 : 0 ≤ y4.toInt) (u_y4 : y4.toInt ≤ 1600) (l_y5 : 0 ≤ y5.toInt) (u_y5 : y5.toInt ≤ 1600) : mp_Ct E yX3_isDigit cX3_isDigit 2 (some FieldType.boolean) 0 0 0 0 [.ref a0, .int x0] [(a0, .inr (3, [.ref a1, .int y0, .ref a2, .int y1, .int y2, .int y3, .int y4, .int y5, .int y6, .int y7])), (a1, .inl (E.2.2 1, 1600, .inl f0))] (fun v w' => (v = some (.int 0) ∧ w' = [(a0, .inr (3, [.ref a1, .int y0, .ref a2, .int y1, .int y2, .int y3, .int y4, .int y5, .int y6, .int y7])), (a1, .inl (E.2.2 1, 1600, .inl f0))]) ∨ (v = some (.int 1) ∧ w' = [(a0, .inr (3, [.ref a1, .int y0, .ref a2, .int y1, .int y2, .int y3, .int y4, .int y5, .int y6, .int y7])), (a1, .inl (E.2.2 1, 1600, .inl f0))])) := by
  refine mp_met false (by decide) (by decide) (Nat.le_of_ble_eq_true rfl) (fun X hF hQ => ?_)
  have hF : mp_F E X (RX3, cX3_isDigit, 2, (0, 0, 0, 0), (some FieldType.boolean), false) := hF
  show mp_W E X 2 0 [(0, .ref a0), (1, .int x0)] [] [(a0, .inr (3, [.ref a1, .int y0, .ref a2, .int y1, .int y2, .int y3, .int y4, .int y5, .int y6, .int y7])), (a1, .inl (E.2.2 1, 1600, .inl f0))] 0 0
  refine mp_run hF mp_tabX3_ok [mp_i (.aload_n 0), mp_h (.getfield 9) [9, 0], mp_i (.iload_n 1), mp_h .baload [1], mp_c (.bipush 48) 48, mp_h (.if_icmp .lt 18) [26]] (by decide +kernel) ?_
  refine And.intro rfl (And.intro rfl ?_)
  refine And.intro rfl (And.intro rfl (And.intro (vp_in_iff.mpr (by omega)) ?_))
  intro z1 h2
  refine And.intro (fun c3 => ?_) (fun c3 => ?_)
  · have c3 : z1.toInt < 48 := c3
    show mp_W E X 2 26 [(0, .ref a0), (1, .int x0)] [] [(a0, .inr (3, [.ref a1, .int y0, .ref a2, .int y1, .int y2, .int y3, .int y4, .int y5, .int y6, .int y7])), (a1, .inl (E.2.2 1, 1600, .inl f0))] 0 0
    refine mp_run hF mp_tabX3_ok [mp_c (.iconst 0) 0] (by decide +kernel) ?_
    show mp_W E X 2 27 [(0, .ref a0), (1, .int x0)] [.int 0] [(a0, .inr (3, [.ref a1, .int y0, .ref a2, .int y1, .int y2, .int y3, .int y4, .int y5, .int y6, .int y7])), (a1, .inl (E.2.2 1, 1600, .inl f0))] 0 0
    exact mp_iret hF hQ rfl (by decide) (Nat.le_of_ble_eq_true rfl) (Nat.le_of_ble_eq_true rfl) [0, 1] (w' := [(a0, .inr (3, [.ref a1, .int y0, .ref a2, .int y1, .int y2, .int y3, .int y4, .int y5, .int y6, .int y7])), (a1, .inl (E.2.2 1, 1600, .inl f0))]) rfl rfl (Or.inl ⟨rfl, rfl⟩) (by decide +kernel)
  · have c3 : 48 ≤ z1.toInt := c3
    show mp_W E X 2 11 [(0, .ref a0), (1, .int x0)] [] [(a0, .inr (3, [.ref a1, .int y0, .ref a2, .int y1, .int y2, .int y3, .int y4, .int y5, .int y6, .int y7])), (a1, .inl (E.2.2 1, 1600, .inl f0))] 0 0
    refine mp_run hF mp_tabX3_ok [mp_i (.aload_n 0), mp_h (.getfield 9) [9, 0], mp_i (.iload_n 1), mp_h .baload [1], mp_c (.bipush 57) 57, mp_h (.if_icmp .gt 7) [26]] (by decide +kernel) ?_
    refine And.intro rfl (And.intro rfl ?_)
    refine And.intro rfl (And.intro rfl (And.intro (vp_in_iff.mpr (by omega)) ?_))
    intro z4 h5
    refine And.intro (fun c6 => ?_) (fun c6 => ?_)
    · have c6 : 57 < z4.toInt := c6
      show mp_W E X 2 26 [(0, .ref a0), (1, .int x0)] [] [(a0, .inr (3, [.ref a1, .int y0, .ref a2, .int y1, .int y2, .int y3, .int y4, .int y5, .int y6, .int y7])), (a1, .inl (E.2.2 1, 1600, .inl f0))] 0 0
      refine mp_run hF mp_tabX3_ok [mp_c (.iconst 0) 0] (by decide +kernel) ?_
      show mp_W E X 2 27 [(0, .ref a0), (1, .int x0)] [.int 0] [(a0, .inr (3, [.ref a1, .int y0, .ref a2, .int y1, .int y2, .int y3, .int y4, .int y5, .int y6, .int y7])), (a1, .inl (E.2.2 1, 1600, .inl f0))] 0 0
      exact mp_iret hF hQ rfl (by decide) (Nat.le_of_ble_eq_true rfl) (Nat.le_of_ble_eq_true rfl) [0, 1] (w' := [(a0, .inr (3, [.ref a1, .int y0, .ref a2, .int y1, .int y2, .int y3, .int y4, .int y5, .int y6, .int y7])), (a1, .inl (E.2.2 1, 1600, .inl f0))]) rfl rfl (Or.inl ⟨rfl, rfl⟩) (by decide +kernel)
    · have c6 : z4.toInt ≤ 57 := c6
      show mp_W E X 2 22 [(0, .ref a0), (1, .int x0)] [] [(a0, .inr (3, [.ref a1, .int y0, .ref a2, .int y1, .int y2, .int y3, .int y4, .int y5, .int y6, .int y7])), (a1, .inl (E.2.2 1, 1600, .inl f0))] 0 0
      refine mp_run hF mp_tabX3_ok [mp_c (.iconst 1) 1, mp_h (.goto 4) [27]] (by decide +kernel) ?_
      show mp_W E X 2 27 [(0, .ref a0), (1, .int x0)] [.int 1] [(a0, .inr (3, [.ref a1, .int y0, .ref a2, .int y1, .int y2, .int y3, .int y4, .int y5, .int y6, .int y7])), (a1, .inl (E.2.2 1, 1600, .inl f0))] 0 0
      exact mp_iret hF hQ rfl (by decide) (Nat.le_of_ble_eq_true rfl) (Nat.le_of_ble_eq_true rfl) [0, 1] (w' := [(a0, .inr (3, [.ref a1, .int y0, .ref a2, .int y1, .int y2, .int y3, .int y4, .int y5, .int y6, .int y7])), (a1, .inl (E.2.2 1, 1600, .inl f0))]) rfl rfl (Or.inr ⟨rfl, rfl⟩) (by decide +kernel)
set_option maxHeartbeats 4000000 in
set_option maxRecDepth 100000 in
theorem bJ9_min_7cf53_8 (E : mp_E) (x0 : Int32) (x1 : Int32) : mp_Ct E yJ9_min_7cf53 cJ9_min_7cf53 2 (some FieldType.int) 0 0 0 0 [.int x0, .int x1] [] (fun v w' => ∃ r1 : Int32, v = some (.int r1) ∧ w' = []) := by
  refine mp_met false (by decide) (by decide) (Nat.le_of_ble_eq_true rfl) (fun X hF hQ => ?_)
  have hF : mp_F E X (RJ9, cJ9_min_7cf53, 2, (0, 0, 0, 0), (some FieldType.int), false) := hF
  show mp_W E X 2 0 [(0, .int x0), (1, .int x1)] [] [] 0 0
  refine mp_run hF mp_tab0_ok [mp_i (.iload_n 0), mp_i (.iload_n 1), mp_h (.if_icmp .gt 7) [9]] (by decide +kernel) ?_
  refine And.intro (fun c1 => ?_) (fun c1 => ?_)
  · have c1 : x1.toInt < x0.toInt := c1
    show mp_W E X 2 9 [(0, .int x0), (1, .int x1)] [] [] 0 0
    refine mp_run hF mp_tab0_ok [mp_i (.iload_n 1)] (by decide +kernel) ?_
    show mp_W E X 2 10 [(0, .int x0), (1, .int x1)] [.int x1] [] 0 0
    exact mp_iret hF hQ rfl rfl (Nat.le_of_ble_eq_true rfl) (Nat.le_of_ble_eq_true rfl) [] (w' := []) rfl rfl ⟨x1, rfl, rfl⟩ (by decide +kernel)
  · have c1 : x0.toInt ≤ x1.toInt := c1
    show mp_W E X 2 5 [(0, .int x0), (1, .int x1)] [] [] 0 0
    refine mp_run hF mp_tab0_ok [mp_i (.iload_n 0), mp_h (.goto 4) [10]] (by decide +kernel) ?_
    show mp_W E X 2 10 [(0, .int x0), (1, .int x1)] [.int x0] [] 0 0
    exact mp_iret hF hQ rfl rfl (Nat.le_of_ble_eq_true rfl) (Nat.le_of_ble_eq_true rfl) [] (w' := []) rfl rfl ⟨x0, rfl, rfl⟩ (by decide +kernel)
set_option maxHeartbeats 4000000 in
set_option maxRecDepth 100000 in
theorem bX3_step_9 (E : mp_E) (a0 a1 a2 : Nat) (f0 : Nat → Int32) (y0 : Int32) (y1 : Int32) (y2 : Int32) (y3 : Int32) (y4 : Int32) (y5 : Int32) (y6 : Int32) (y7 : Int32) (l_y0 : 0 ≤ y0.toInt) (u_y0 : y0.toInt ≤ 1600) (l_y4 : 0 ≤ y4.toInt) (u_y4 : y4.toInt ≤ 1600) (l_y5 : 0 ≤ y5.toInt) (u_y5 : y5.toInt ≤ 1600) : mp_Ct E yX3_step cX3_step 1 none 1 0 0 21 [.ref a0] [(a0, .inr (3, [.ref a1, .int y0, .ref a2, .int y1, .int y2, .int y3, .int y4, .int y5, .int y6, .int y7])), (a1, .inl (E.2.2 1, 1600, .inl f0))] (fun v w' => ∃ r1 : Int32, ∃ r2 : Int32, ∃ r3 : Int32, ∃ r4 : Int32, v = none ∧ 0 ≤ r1.toInt ∧ r1.toInt ≤ 4 ∧ 0 ≤ r2.toInt ∧ r2.toInt ≤ 1600 ∧ 0 ≤ r3.toInt ∧ r3.toInt ≤ 1600 ∧ w' = [(a0, .inr (3, [.ref a1, .int y0, .ref a2, .int y1, .int y2, .int r1, .int r2, .int r3, .int r4, .int y7])), (a1, .inl (E.2.2 1, 1600, .inl f0))]) := by
  refine mp_met false (by decide) (by decide) (Nat.le_of_ble_eq_true rfl) (fun X hF hQ => ?_)
  have hF : mp_F E X (RX3, cX3_step, 1, (1, 0, 0, 21), none, false) := hF
  show mp_W E X 1 0 [(0, .ref a0)] [] [(a0, .inr (3, [.ref a1, .int y0, .ref a2, .int y1, .int y2, .int y3, .int y4, .int y5, .int y6, .int y7])), (a1, .inl (E.2.2 1, 1600, .inl f0))] 0 0
  refine mp_run hF mp_tabX3_ok [mp_i (.aload_n 0), mp_i (.aload_n 0), mp_h (.getfield 35) [16, 0], mp_h (.putfield 161) [15, 0]] (by decide +kernel) ?_
  refine And.intro rfl (And.intro rfl ?_)
  refine And.intro rfl (And.intro rfl (And.intro rfl (And.intro rfl (And.intro (Nat.le_of_ble_eq_true rfl) ?_))))
  show mp_W E X 1 8 [(0, .ref a0)] [] [(a0, .inr (3, [.ref a1, .int y0, .ref a2, .int y1, .int y2, .int y3, .int y5, .int y5, .int y6, .int y7])), (a1, .inl (E.2.2 1, 1600, .inl f0))] 0 0
  have lp4 : ∀ (d5 : Nat) (i1 : Int32), 0 ≤ i1.toInt → i1.toInt ≤ 1600 → y0.toInt - i1.toInt ≤ (d5 : Int) → mp_W E X 1 8 [(0, .ref a0)] [] [(a0, .inr (3, [.ref a1, .int y0, .ref a2, .int y1, .int y2, .int y3, .int i1, .int y5, .int y6, .int y7])), (a1, .inl (E.2.2 1, 1600, .inl f0))] 0 0 := by
    intro d5
    induction d5 using Nat.strongRecOn with
    | ind d5 ih6 =>
      intro i1 l2 u3 hm7
      refine mp_run hF mp_tabX3_ok [mp_i (.aload_n 0), mp_h (.getfield 161) [15, 0], mp_i (.aload_n 0), mp_h (.getfield 26) [10, 0], mp_h (.if_icmp .ge 44) [60]] (by decide +kernel) ?_
      refine And.intro rfl (And.intro rfl ?_)
      refine And.intro rfl (And.intro rfl ?_)
      refine And.intro (fun c8 => ?_) (fun c8 => ?_)
      · have c8 : y0.toInt ≤ i1.toInt := c8
        show mp_W E X 1 60 [(0, .ref a0)] [] [(a0, .inr (3, [.ref a1, .int y0, .ref a2, .int y1, .int y2, .int y3, .int i1, .int y5, .int y6, .int y7])), (a1, .inl (E.2.2 1, 1600, .inl f0))] 0 0
        refine mp_run hF mp_tabX3_ok [mp_i (.aload_n 0), mp_i (.aload_n 0), mp_h (.getfield 161) [15, 0], mp_h (.putfield 35) [16, 0]] (by decide +kernel) ?_
        refine And.intro rfl (And.intro rfl ?_)
        refine And.intro rfl (And.intro rfl (And.intro rfl (And.intro rfl (And.intro (Nat.le_of_ble_eq_true rfl) ?_))))
        show mp_W E X 1 68 [(0, .ref a0)] [] [(a0, .inr (3, [.ref a1, .int y0, .ref a2, .int y1, .int y2, .int y3, .int i1, .int i1, .int y6, .int y7])), (a1, .inl (E.2.2 1, 1600, .inl f0))] 0 0
        refine mp_run hF mp_tabX3_ok [mp_i (.aload_n 0), mp_c (.iconst 0) 0, mp_h (.putfield 158) [17, 0]] (by decide +kernel) ?_
        refine And.intro rfl (And.intro rfl (And.intro rfl (And.intro rfl (And.intro (Nat.le_of_ble_eq_true rfl) ?_))))
        show mp_W E X 1 73 [(0, .ref a0)] [] [(a0, .inr (3, [.ref a1, .int y0, .ref a2, .int y1, .int y2, .int y3, .int i1, .int i1, .int 0, .int y7])), (a1, .inl (E.2.2 1, 1600, .inl f0))] 0 0
        refine mp_run hF mp_tabX3_ok [mp_i (.aload_n 0), mp_h (.getfield 161) [15, 0], mp_i (.aload_n 0), mp_h (.getfield 26) [10, 0], mp_h (.if_icmp .lt 11) [92]] (by decide +kernel) ?_
        refine And.intro rfl (And.intro rfl ?_)
        refine And.intro rfl (And.intro rfl ?_)
        refine And.intro (fun c9 => ?_) (fun c9 => ?_)
        · have c9 : i1.toInt < y0.toInt := c9
          show mp_W E X 1 92 [(0, .ref a0)] [] [(a0, .inr (3, [.ref a1, .int y0, .ref a2, .int y1, .int y2, .int y3, .int i1, .int i1, .int 0, .int y7])), (a1, .inl (E.2.2 1, 1600, .inl f0))] 0 0
          refine mp_run hF mp_tabX3_ok [mp_i (.aload_n 0), mp_i (.aload_n 0), mp_h (.getfield 161) [15, 0]] (by decide +kernel) ?_
          refine And.intro rfl (And.intro rfl ?_)
          show mp_W E X 1 97 [(0, .ref a0)] [.int i1, .ref a0] [(a0, .inr (3, [.ref a1, .int y0, .ref a2, .int y1, .int y2, .int y3, .int i1, .int i1, .int 0, .int y7])), (a1, .inl (E.2.2 1, 1600, .inl f0))] 0 0
          refine mp_callV hF (As := [.int i1]) (rest := []) (wr := []) (bX3_isLetter_6 E a0 a1 a2 f0 y0 y1 y2 y3 i1 i1 0 y7 i1 l2 (by omega) l_y0 u_y0 l2 u3 l2 u3) mp_lkX3_173 0 rfl [0, 1] [] rfl rfl rfl rfl rfl ⟨(Nat.le_of_ble_eq_true rfl), (Nat.le_of_ble_eq_true rfl), (Nat.le_of_ble_eq_true rfl), (Nat.le_of_ble_eq_true rfl)⟩ (Nat.le_of_ble_eq_true rfl) (by decide +kernel) (fun v10 w11 h12 => ?_)
          rcases h12 with ⟨rfl, rfl⟩ | ⟨rfl, rfl⟩
          · skip
            show mp_W E X 1 100 [(0, .ref a0)] [.int 0] [(a0, .inr (3, [.ref a1, .int y0, .ref a2, .int y1, .int y2, .int y3, .int i1, .int i1, .int 0, .int y7])), (a1, .inl (E.2.2 1, 1600, .inl f0))] 0 0
            refine mp_run hF mp_tabX3_ok [mp_h (.ifCond .eq 43) [143]] (by decide +kernel) ?_
            refine And.intro (fun _ => ?_) (fun c13 => absurd c13 (by decide))
            show mp_W E X 1 143 [(0, .ref a0)] [] [(a0, .inr (3, [.ref a1, .int y0, .ref a2, .int y1, .int y2, .int y3, .int i1, .int i1, .int 0, .int y7])), (a1, .inl (E.2.2 1, 1600, .inl f0))] 0 0
            refine mp_run hF mp_tabX3_ok [mp_i (.aload_n 0), mp_i (.aload_n 0), mp_h (.getfield 161) [15, 0]] (by decide +kernel) ?_
            refine And.intro rfl (And.intro rfl ?_)
            show mp_W E X 1 148 [(0, .ref a0)] [.int i1, .ref a0] [(a0, .inr (3, [.ref a1, .int y0, .ref a2, .int y1, .int y2, .int y3, .int i1, .int i1, .int 0, .int y7])), (a1, .inl (E.2.2 1, 1600, .inl f0))] 0 0
            refine mp_callV hF (As := [.int i1]) (rest := []) (wr := []) (bX3_isDigit_7 E a0 a1 a2 f0 y0 y1 y2 y3 i1 i1 0 y7 i1 l2 (by omega) l_y0 u_y0 l2 u3 l2 u3) mp_lkX3_176 0 rfl [0, 1] [] rfl rfl rfl rfl rfl ⟨(Nat.le_of_ble_eq_true rfl), (Nat.le_of_ble_eq_true rfl), (Nat.le_of_ble_eq_true rfl), (Nat.le_of_ble_eq_true rfl)⟩ (Nat.le_of_ble_eq_true rfl) (by decide +kernel) (fun v14 w15 h16 => ?_)
            rcases h16 with ⟨rfl, rfl⟩ | ⟨rfl, rfl⟩
            · skip
              show mp_W E X 1 151 [(0, .ref a0)] [.int 0] [(a0, .inr (3, [.ref a1, .int y0, .ref a2, .int y1, .int y2, .int y3, .int i1, .int i1, .int 0, .int y7])), (a1, .inl (E.2.2 1, 1600, .inl f0))] 0 0
              refine mp_run hF mp_tabX3_ok [mp_h (.ifCond .eq 72) [223]] (by decide +kernel) ?_
              refine And.intro (fun _ => ?_) (fun c17 => absurd c17 (by decide))
              show mp_W E X 1 223 [(0, .ref a0)] [] [(a0, .inr (3, [.ref a1, .int y0, .ref a2, .int y1, .int y2, .int y3, .int i1, .int i1, .int 0, .int y7])), (a1, .inl (E.2.2 1, 1600, .inl f0))] 0 0
              refine mp_run hF mp_tabX3_ok [mp_i (.aload_n 0), mp_i (.aload_n 0), mp_h (.getfield 9) [9, 0], mp_i (.aload_n 0), mp_h (.getfield 161) [15, 0], mp_h .baload [1], mp_c (.bipush 59) 59, mp_h (.if_icmp .ne 7) [242]] (by decide +kernel) ?_
              refine And.intro rfl (And.intro rfl ?_)
              refine And.intro rfl (And.intro rfl ?_)
              refine And.intro rfl (And.intro rfl (And.intro (vp_in_iff.mpr (by omega)) ?_))
              intro z18 h19
              refine And.intro (fun c20 => ?_) (fun c20 => ?_)
              · have c20 : z18.toInt ≠ 59 := c20
                show mp_W E X 1 242 [(0, .ref a0)] [.ref a0] [(a0, .inr (3, [.ref a1, .int y0, .ref a2, .int y1, .int y2, .int y3, .int i1, .int i1, .int 0, .int y7])), (a1, .inl (E.2.2 1, 1600, .inl f0))] 0 0
                refine mp_run hF mp_tabX3_ok [mp_c (.iconst 4) 4, mp_h (.putfield 41) [14, 0]] (by decide +kernel) ?_
                refine And.intro rfl (And.intro rfl (And.intro rfl (And.intro rfl (And.intro (Nat.le_of_ble_eq_true rfl) ?_))))
                show mp_W E X 1 246 [(0, .ref a0)] [] [(a0, .inr (3, [.ref a1, .int y0, .ref a2, .int y1, .int y2, .int 4, .int i1, .int i1, .int 0, .int y7])), (a1, .inl (E.2.2 1, 1600, .inl f0))] 0 0
                refine mp_run hF mp_tabX3_ok [mp_i (.aload_n 0), mp_i .dup, mp_h (.getfield 35) [16, 0], mp_c (.iconst 1) 1, mp_i .iadd, mp_h (.putfield 35) [16, 0]] (by decide +kernel) ?_
                refine And.intro rfl ?_
                refine And.intro rfl (And.intro rfl ?_)
                intro z21 h22
                have e23 : z21.toInt = i1.toInt + 1 := mp_add (a := i1.toInt) (b := 1) h22 rfl (by decide) (by omega) (by omega)
                refine And.intro rfl (And.intro rfl (And.intro rfl (And.intro rfl (And.intro (Nat.le_of_ble_eq_true rfl) ?_))))
                show mp_W E X 1 256 [(0, .ref a0)] [] [(a0, .inr (3, [.ref a1, .int y0, .ref a2, .int y1, .int y2, .int 4, .int i1, .int z21, .int 0, .int y7])), (a1, .inl (E.2.2 1, 1600, .inl f0))] 0 0
                exact mp_vret hF hQ rfl (Nat.le_of_ble_eq_true rfl) (Nat.le_of_ble_eq_true rfl) [0, 1] (w' := [(a0, .inr (3, [.ref a1, .int y0, .ref a2, .int y1, .int y2, .int 4, .int i1, .int z21, .int 0, .int y7])), (a1, .inl (E.2.2 1, 1600, .inl f0))]) rfl rfl ⟨4, i1, z21, 0, rfl, (by decide), (by decide), l2, u3, (by omega), (by omega), rfl⟩ (by decide +kernel)
              · have c20 : z18.toInt = 59 := (congrArg Int32.toInt c20)
                show mp_W E X 1 238 [(0, .ref a0)] [.ref a0] [(a0, .inr (3, [.ref a1, .int y0, .ref a2, .int y1, .int y2, .int y3, .int i1, .int i1, .int 0, .int y7])), (a1, .inl (E.2.2 1, 1600, .inl f0))] 0 0
                refine mp_run hF mp_tabX3_ok [mp_c (.iconst 3) 3, mp_h (.goto 4) [243], mp_h (.putfield 41) [14, 0]] (by decide +kernel) ?_
                refine And.intro rfl (And.intro rfl (And.intro rfl (And.intro rfl (And.intro (Nat.le_of_ble_eq_true rfl) ?_))))
                show mp_W E X 1 246 [(0, .ref a0)] [] [(a0, .inr (3, [.ref a1, .int y0, .ref a2, .int y1, .int y2, .int 3, .int i1, .int i1, .int 0, .int y7])), (a1, .inl (E.2.2 1, 1600, .inl f0))] 0 0
                refine mp_run hF mp_tabX3_ok [mp_i (.aload_n 0), mp_i .dup, mp_h (.getfield 35) [16, 0], mp_c (.iconst 1) 1, mp_i .iadd, mp_h (.putfield 35) [16, 0]] (by decide +kernel) ?_
                refine And.intro rfl ?_
                refine And.intro rfl (And.intro rfl ?_)
                intro z24 h25
                have e26 : z24.toInt = i1.toInt + 1 := mp_add (a := i1.toInt) (b := 1) h25 rfl (by decide) (by omega) (by omega)
                refine And.intro rfl (And.intro rfl (And.intro rfl (And.intro rfl (And.intro (Nat.le_of_ble_eq_true rfl) ?_))))
                show mp_W E X 1 256 [(0, .ref a0)] [] [(a0, .inr (3, [.ref a1, .int y0, .ref a2, .int y1, .int y2, .int 3, .int i1, .int z24, .int 0, .int y7])), (a1, .inl (E.2.2 1, 1600, .inl f0))] 0 0
                exact mp_vret hF hQ rfl (Nat.le_of_ble_eq_true rfl) (Nat.le_of_ble_eq_true rfl) [0, 1] (w' := [(a0, .inr (3, [.ref a1, .int y0, .ref a2, .int y1, .int y2, .int 3, .int i1, .int z24, .int 0, .int y7])), (a1, .inl (E.2.2 1, 1600, .inl f0))]) rfl rfl ⟨3, i1, z24, 0, rfl, (by decide), (by decide), l2, u3, (by omega), (by omega), rfl⟩ (by decide +kernel)
            · skip
              show mp_W E X 1 151 [(0, .ref a0)] [.int 1] [(a0, .inr (3, [.ref a1, .int y0, .ref a2, .int y1, .int y2, .int y3, .int i1, .int i1, .int 0, .int y7])), (a1, .inl (E.2.2 1, 1600, .inl f0))] 0 0
              refine mp_run hF mp_tabX3_ok [mp_h (.ifCond .eq 72) [223]] (by decide +kernel) ?_
              refine And.intro (fun c27 => absurd c27 (by decide)) (fun _ => ?_)
              show mp_W E X 1 154 [(0, .ref a0)] [] [(a0, .inr (3, [.ref a1, .int y0, .ref a2, .int y1, .int y2, .int y3, .int i1, .int i1, .int 0, .int y7])), (a1, .inl (E.2.2 1, 1600, .inl f0))] 0 0
              refine mp_run hF mp_tabX3_ok [mp_i (.aload_n 0), mp_c (.iconst 2) 2, mp_h (.putfield 41) [14, 0]] (by decide +kernel) ?_
              refine And.intro rfl (And.intro rfl (And.intro rfl (And.intro rfl (And.intro (Nat.le_of_ble_eq_true rfl) ?_))))
              show mp_W E X 1 159 [(0, .ref a0)] [] [(a0, .inr (3, [.ref a1, .int y0, .ref a2, .int y1, .int y2, .int 2, .int i1, .int i1, .int 0, .int y7])), (a1, .inl (E.2.2 1, 1600, .inl f0))] 0 0
              have lp32 : ∀ (d33 : Nat) (i28 : Int32) (i29 : Int32), 0 ≤ i28.toInt → i28.toInt ≤ 1600 → y0.toInt - i28.toInt ≤ (d33 : Int) → mp_W E X 1 159 [(0, .ref a0)] [] [(a0, .inr (3, [.ref a1, .int y0, .ref a2, .int y1, .int y2, .int 2, .int i1, .int i28, .int i29, .int y7])), (a1, .inl (E.2.2 1, 1600, .inl f0))] 0 0 := by
                intro d33
                induction d33 using Nat.strongRecOn with
                | ind d33 ih34 =>
                  intro i28 i29 l30 u31 hm35
                  refine mp_run hF mp_tabX3_ok [mp_i (.aload_n 0), mp_h (.getfield 35) [16, 0], mp_i (.aload_n 0), mp_h (.getfield 26) [10, 0], mp_h (.if_icmp .ge 89) [256]] (by decide +kernel) ?_
                  refine And.intro rfl (And.intro rfl ?_)
                  refine And.intro rfl (And.intro rfl ?_)
                  refine And.intro (fun c36 => ?_) (fun c36 => ?_)
                  · have c36 : y0.toInt ≤ i28.toInt := c36
                    show mp_W E X 1 256 [(0, .ref a0)] [] [(a0, .inr (3, [.ref a1, .int y0, .ref a2, .int y1, .int y2, .int 2, .int i1, .int i28, .int i29, .int y7])), (a1, .inl (E.2.2 1, 1600, .inl f0))] 0 0
                    exact mp_vret hF hQ rfl (Nat.le_of_ble_eq_true rfl) (Nat.le_of_ble_eq_true rfl) [0, 1] (w' := [(a0, .inr (3, [.ref a1, .int y0, .ref a2, .int y1, .int y2, .int 2, .int i1, .int i28, .int i29, .int y7])), (a1, .inl (E.2.2 1, 1600, .inl f0))]) rfl rfl ⟨2, i1, i28, i29, rfl, (by decide), (by decide), l2, u3, l30, u31, rfl⟩ (by decide +kernel)
                  · have c36 : i28.toInt < y0.toInt := c36
                    show mp_W E X 1 170 [(0, .ref a0)] [] [(a0, .inr (3, [.ref a1, .int y0, .ref a2, .int y1, .int y2, .int 2, .int i1, .int i28, .int i29, .int y7])), (a1, .inl (E.2.2 1, 1600, .inl f0))] 0 0
                    refine mp_run hF mp_tabX3_ok [mp_i (.aload_n 0), mp_i (.aload_n 0), mp_h (.getfield 35) [16, 0]] (by decide +kernel) ?_
                    refine And.intro rfl (And.intro rfl ?_)
                    show mp_W E X 1 175 [(0, .ref a0)] [.int i28, .ref a0] [(a0, .inr (3, [.ref a1, .int y0, .ref a2, .int y1, .int y2, .int 2, .int i1, .int i28, .int i29, .int y7])), (a1, .inl (E.2.2 1, 1600, .inl f0))] 0 0
                    refine mp_callV hF (As := [.int i28]) (rest := []) (wr := []) (bX3_isDigit_7 E a0 a1 a2 f0 y0 y1 y2 2 i1 i28 i29 y7 i28 l30 (by omega) l_y0 u_y0 l2 u3 l30 u31) mp_lkX3_176 0 rfl [0, 1] [] rfl rfl rfl rfl rfl ⟨(Nat.le_of_ble_eq_true rfl), (Nat.le_of_ble_eq_true rfl), (Nat.le_of_ble_eq_true rfl), (Nat.le_of_ble_eq_true rfl)⟩ (Nat.le_of_ble_eq_true rfl) (by decide +kernel) (fun v37 w38 h39 => ?_)
                    rcases h39 with ⟨rfl, rfl⟩ | ⟨rfl, rfl⟩
                    · skip
                      show mp_W E X 1 178 [(0, .ref a0)] [.int 0] [(a0, .inr (3, [.ref a1, .int y0, .ref a2, .int y1, .int y2, .int 2, .int i1, .int i28, .int i29, .int y7])), (a1, .inl (E.2.2 1, 1600, .inl f0))] 0 0
                      refine mp_run hF mp_tabX3_ok [mp_h (.ifCond .eq 78) [256]] (by decide +kernel) ?_
                      refine And.intro (fun _ => ?_) (fun c40 => absurd c40 (by decide))
                      show mp_W E X 1 256 [(0, .ref a0)] [] [(a0, .inr (3, [.ref a1, .int y0, .ref a2, .int y1, .int y2, .int 2, .int i1, .int i28, .int i29, .int y7])), (a1, .inl (E.2.2 1, 1600, .inl f0))] 0 0
                      exact mp_vret hF hQ rfl (Nat.le_of_ble_eq_true rfl) (Nat.le_of_ble_eq_true rfl) [0, 1] (w' := [(a0, .inr (3, [.ref a1, .int y0, .ref a2, .int y1, .int y2, .int 2, .int i1, .int i28, .int i29, .int y7])), (a1, .inl (E.2.2 1, 1600, .inl f0))]) rfl rfl ⟨2, i1, i28, i29, rfl, (by decide), (by decide), l2, u3, l30, u31, rfl⟩ (by decide +kernel)
                    · skip
                      show mp_W E X 1 178 [(0, .ref a0)] [.int 1] [(a0, .inr (3, [.ref a1, .int y0, .ref a2, .int y1, .int y2, .int 2, .int i1, .int i28, .int i29, .int y7])), (a1, .inl (E.2.2 1, 1600, .inl f0))] 0 0
                      refine mp_run hF mp_tabX3_ok [mp_h (.ifCond .eq 78) [256]] (by decide +kernel) ?_
                      refine And.intro (fun c41 => absurd c41 (by decide)) (fun _ => ?_)
                      show mp_W E X 1 181 [(0, .ref a0)] [] [(a0, .inr (3, [.ref a1, .int y0, .ref a2, .int y1, .int y2, .int 2, .int i1, .int i28, .int i29, .int y7])), (a1, .inl (E.2.2 1, 1600, .inl f0))] 0 0
                      refine mp_run hF mp_tabX3_ok [mp_i (.aload_n 0), mp_c (.ldc 179) 100000000, mp_c (.bipush 10) 10, mp_i (.aload_n 0), mp_h (.getfield 158) [17, 0], mp_i .imul, mp_i (.aload_n 0), mp_h (.getfield 9) [9, 0], mp_i (.aload_n 0), mp_h (.getfield 35) [16, 0], mp_h .baload [1], mp_i .iadd, mp_c (.bipush 48) 48, mp_i .isub] (by decide +kernel) ?_
                      refine And.intro rfl (And.intro rfl ?_)
                      intro z42 h43
                      refine And.intro rfl (And.intro rfl ?_)
                      refine And.intro rfl (And.intro rfl ?_)
                      refine And.intro rfl (And.intro rfl (And.intro (vp_in_iff.mpr (by omega)) ?_))
                      intro z45 h46
                      intro z47 h48
                      intro z50 h51
                      show mp_W E X 1 204 [(0, .ref a0)] [.int z50, .int 100000000, .ref a0] [(a0, .inr (3, [.ref a1, .int y0, .ref a2, .int y1, .int y2, .int 2, .int i1, .int i28, .int i29, .int y7])), (a1, .inl (E.2.2 1, 1600, .inl f0))] 0 0
                      refine mp_callS hF (As := [.int 100000000, .int z50]) (rest := [.ref a0]) (wr := [(a0, .inr (3, [.ref a1, .int y0, .ref a2, .int y1, .int y2, .int 2, .int i1, .int i28, .int i29, .int y7])), (a1, .inl (E.2.2 1, 1600, .inl f0))]) (bJ9_min_7cf53_8 E 100000000 z50) mp_lkX3_180 [] [0, 1] rfl rfl rfl rfl rfl ⟨(Nat.le_of_ble_eq_true rfl), (Nat.le_of_ble_eq_true rfl), (Nat.le_of_ble_eq_true rfl), (Nat.le_of_ble_eq_true rfl)⟩ (Nat.le_of_ble_eq_true rfl) (by decide +kernel) (fun v53 w54 h55 => ?_)
                      obtain ⟨r56, rfl, rfl⟩ := h55
                      show mp_W E X 1 207 [(0, .ref a0)] [.int r56, .ref a0] [(a0, .inr (3, [.ref a1, .int y0, .ref a2, .int y1, .int y2, .int 2, .int i1, .int i28, .int i29, .int y7])), (a1, .inl (E.2.2 1, 1600, .inl f0))] 0 0
                      refine mp_run hF mp_tabX3_ok [mp_h (.putfield 158) [17, 0]] (by decide +kernel) ?_
                      refine And.intro rfl (And.intro rfl (And.intro rfl (And.intro rfl (And.intro (Nat.le_of_ble_eq_true rfl) ?_))))
                      show mp_W E X 1 210 [(0, .ref a0)] [] [(a0, .inr (3, [.ref a1, .int y0, .ref a2, .int y1, .int y2, .int 2, .int i1, .int i28, .int r56, .int y7])), (a1, .inl (E.2.2 1, 1600, .inl f0))] 0 0
                      refine mp_run hF mp_tabX3_ok [mp_i (.aload_n 0), mp_i .dup, mp_h (.getfield 35) [16, 0], mp_c (.iconst 1) 1, mp_i .iadd, mp_h (.putfield 35) [16, 0]] (by decide +kernel) ?_
                      refine And.intro rfl ?_
                      refine And.intro rfl (And.intro rfl ?_)
                      intro z57 h58
                      have e59 : z57.toInt = i28.toInt + 1 := mp_add (a := i28.toInt) (b := 1) h58 rfl (by decide) (by omega) (by omega)
                      refine And.intro rfl (And.intro rfl (And.intro rfl (And.intro rfl (And.intro (Nat.le_of_ble_eq_true rfl) ?_))))
                      show mp_W E X 1 220 [(0, .ref a0)] [] [(a0, .inr (3, [.ref a1, .int y0, .ref a2, .int y1, .int y2, .int 2, .int i1, .int z57, .int r56, .int y7])), (a1, .inl (E.2.2 1, 1600, .inl f0))] 0 0
                      refine mp_run hF mp_tabX3_ok [mp_h (.goto (-61)) [159]] (by decide +kernel) ?_
                      show mp_W E X 1 159 [(0, .ref a0)] [] [(a0, .inr (3, [.ref a1, .int y0, .ref a2, .int y1, .int y2, .int 2, .int i1, .int z57, .int r56, .int y7])), (a1, .inl (E.2.2 1, 1600, .inl f0))] 0 0
                      exact mp_sub [0] rfl [0, 1] rfl rfl (ih34 (d33 - 1) (by omega) z57 r56 (by omega) (by omega) (by omega))
              exact mp_sub [0] rfl [0, 1] rfl rfl (lp32 _ i1 0 l2 u3 (Int.self_le_toNat _))
          · skip
            show mp_W E X 1 100 [(0, .ref a0)] [.int 1] [(a0, .inr (3, [.ref a1, .int y0, .ref a2, .int y1, .int y2, .int y3, .int i1, .int i1, .int 0, .int y7])), (a1, .inl (E.2.2 1, 1600, .inl f0))] 0 0
            refine mp_run hF mp_tabX3_ok [mp_h (.ifCond .eq 43) [143]] (by decide +kernel) ?_
            refine And.intro (fun c60 => absurd c60 (by decide)) (fun _ => ?_)
            show mp_W E X 1 103 [(0, .ref a0)] [] [(a0, .inr (3, [.ref a1, .int y0, .ref a2, .int y1, .int y2, .int y3, .int i1, .int i1, .int 0, .int y7])), (a1, .inl (E.2.2 1, 1600, .inl f0))] 0 0
            refine mp_run hF mp_tabX3_ok [mp_i (.aload_n 0), mp_c (.iconst 1) 1, mp_h (.putfield 41) [14, 0]] (by decide +kernel) ?_
            refine And.intro rfl (And.intro rfl (And.intro rfl (And.intro rfl (And.intro (Nat.le_of_ble_eq_true rfl) ?_))))
            show mp_W E X 1 108 [(0, .ref a0)] [] [(a0, .inr (3, [.ref a1, .int y0, .ref a2, .int y1, .int y2, .int 1, .int i1, .int i1, .int 0, .int y7])), (a1, .inl (E.2.2 1, 1600, .inl f0))] 0 0
            have lp64 : ∀ (d65 : Nat) (i61 : Int32), 0 ≤ i61.toInt → i61.toInt ≤ 1600 → y0.toInt - i61.toInt ≤ (d65 : Int) → mp_W E X 1 108 [(0, .ref a0)] [] [(a0, .inr (3, [.ref a1, .int y0, .ref a2, .int y1, .int y2, .int 1, .int i1, .int i61, .int 0, .int y7])), (a1, .inl (E.2.2 1, 1600, .inl f0))] 0 0 := by
              intro d65
              induction d65 using Nat.strongRecOn with
              | ind d65 ih66 =>
                intro i61 l62 u63 hm67
                refine mp_run hF mp_tabX3_ok [mp_i (.aload_n 0), mp_h (.getfield 35) [16, 0], mp_i (.aload_n 0), mp_h (.getfield 26) [10, 0], mp_h (.if_icmp .ge 140) [256]] (by decide +kernel) ?_
                refine And.intro rfl (And.intro rfl ?_)
                refine And.intro rfl (And.intro rfl ?_)
                refine And.intro (fun c68 => ?_) (fun c68 => ?_)
                · have c68 : y0.toInt ≤ i61.toInt := c68
                  show mp_W E X 1 256 [(0, .ref a0)] [] [(a0, .inr (3, [.ref a1, .int y0, .ref a2, .int y1, .int y2, .int 1, .int i1, .int i61, .int 0, .int y7])), (a1, .inl (E.2.2 1, 1600, .inl f0))] 0 0
                  exact mp_vret hF hQ rfl (Nat.le_of_ble_eq_true rfl) (Nat.le_of_ble_eq_true rfl) [0, 1] (w' := [(a0, .inr (3, [.ref a1, .int y0, .ref a2, .int y1, .int y2, .int 1, .int i1, .int i61, .int 0, .int y7])), (a1, .inl (E.2.2 1, 1600, .inl f0))]) rfl rfl ⟨1, i1, i61, 0, rfl, (by decide), (by decide), l2, u3, l62, u63, rfl⟩ (by decide +kernel)
                · have c68 : i61.toInt < y0.toInt := c68
                  show mp_W E X 1 119 [(0, .ref a0)] [] [(a0, .inr (3, [.ref a1, .int y0, .ref a2, .int y1, .int y2, .int 1, .int i1, .int i61, .int 0, .int y7])), (a1, .inl (E.2.2 1, 1600, .inl f0))] 0 0
                  refine mp_run hF mp_tabX3_ok [mp_i (.aload_n 0), mp_i (.aload_n 0), mp_h (.getfield 35) [16, 0]] (by decide +kernel) ?_
                  refine And.intro rfl (And.intro rfl ?_)
                  show mp_W E X 1 124 [(0, .ref a0)] [.int i61, .ref a0] [(a0, .inr (3, [.ref a1, .int y0, .ref a2, .int y1, .int y2, .int 1, .int i1, .int i61, .int 0, .int y7])), (a1, .inl (E.2.2 1, 1600, .inl f0))] 0 0
                  refine mp_callV hF (As := [.int i61]) (rest := []) (wr := []) (bX3_isLetter_6 E a0 a1 a2 f0 y0 y1 y2 1 i1 i61 0 y7 i61 l62 (by omega) l_y0 u_y0 l2 u3 l62 u63) mp_lkX3_173 0 rfl [0, 1] [] rfl rfl rfl rfl rfl ⟨(Nat.le_of_ble_eq_true rfl), (Nat.le_of_ble_eq_true rfl), (Nat.le_of_ble_eq_true rfl), (Nat.le_of_ble_eq_true rfl)⟩ (Nat.le_of_ble_eq_true rfl) (by decide +kernel) (fun v69 w70 h71 => ?_)
                  rcases h71 with ⟨rfl, rfl⟩ | ⟨rfl, rfl⟩
                  · skip
                    show mp_W E X 1 127 [(0, .ref a0)] [.int 0] [(a0, .inr (3, [.ref a1, .int y0, .ref a2, .int y1, .int y2, .int 1, .int i1, .int i61, .int 0, .int y7])), (a1, .inl (E.2.2 1, 1600, .inl f0))] 0 0
                    refine mp_run hF mp_tabX3_ok [mp_h (.ifCond .eq 129) [256]] (by decide +kernel) ?_
                    refine And.intro (fun _ => ?_) (fun c72 => absurd c72 (by decide))
                    show mp_W E X 1 256 [(0, .ref a0)] [] [(a0, .inr (3, [.ref a1, .int y0, .ref a2, .int y1, .int y2, .int 1, .int i1, .int i61, .int 0, .int y7])), (a1, .inl (E.2.2 1, 1600, .inl f0))] 0 0
                    exact mp_vret hF hQ rfl (Nat.le_of_ble_eq_true rfl) (Nat.le_of_ble_eq_true rfl) [0, 1] (w' := [(a0, .inr (3, [.ref a1, .int y0, .ref a2, .int y1, .int y2, .int 1, .int i1, .int i61, .int 0, .int y7])), (a1, .inl (E.2.2 1, 1600, .inl f0))]) rfl rfl ⟨1, i1, i61, 0, rfl, (by decide), (by decide), l2, u3, l62, u63, rfl⟩ (by decide +kernel)
                  · skip
                    show mp_W E X 1 127 [(0, .ref a0)] [.int 1] [(a0, .inr (3, [.ref a1, .int y0, .ref a2, .int y1, .int y2, .int 1, .int i1, .int i61, .int 0, .int y7])), (a1, .inl (E.2.2 1, 1600, .inl f0))] 0 0
                    refine mp_run hF mp_tabX3_ok [mp_h (.ifCond .eq 129) [256]] (by decide +kernel) ?_
                    refine And.intro (fun c73 => absurd c73 (by decide)) (fun _ => ?_)
                    show mp_W E X 1 130 [(0, .ref a0)] [] [(a0, .inr (3, [.ref a1, .int y0, .ref a2, .int y1, .int y2, .int 1, .int i1, .int i61, .int 0, .int y7])), (a1, .inl (E.2.2 1, 1600, .inl f0))] 0 0
                    refine mp_run hF mp_tabX3_ok [mp_i (.aload_n 0), mp_i .dup, mp_h (.getfield 35) [16, 0], mp_c (.iconst 1) 1, mp_i .iadd, mp_h (.putfield 35) [16, 0]] (by decide +kernel) ?_
                    refine And.intro rfl ?_
                    refine And.intro rfl (And.intro rfl ?_)
                    intro z74 h75
                    have e76 : z74.toInt = i61.toInt + 1 := mp_add (a := i61.toInt) (b := 1) h75 rfl (by decide) (by omega) (by omega)
                    refine And.intro rfl (And.intro rfl (And.intro rfl (And.intro rfl (And.intro (Nat.le_of_ble_eq_true rfl) ?_))))
                    show mp_W E X 1 140 [(0, .ref a0)] [] [(a0, .inr (3, [.ref a1, .int y0, .ref a2, .int y1, .int y2, .int 1, .int i1, .int z74, .int 0, .int y7])), (a1, .inl (E.2.2 1, 1600, .inl f0))] 0 0
                    refine mp_run hF mp_tabX3_ok [mp_h (.goto (-32)) [108]] (by decide +kernel) ?_
                    show mp_W E X 1 108 [(0, .ref a0)] [] [(a0, .inr (3, [.ref a1, .int y0, .ref a2, .int y1, .int y2, .int 1, .int i1, .int z74, .int 0, .int y7])), (a1, .inl (E.2.2 1, 1600, .inl f0))] 0 0
                    exact mp_sub [0] rfl [0, 1] rfl rfl (ih66 (d65 - 1) (by omega) z74 (by omega) (by omega) (by omega))
            exact mp_sub [0] rfl [0, 1] rfl rfl (lp64 _ i1 l2 u3 (Int.self_le_toNat _))
        · have c9 : y0.toInt ≤ i1.toInt := c9
          show mp_W E X 1 84 [(0, .ref a0)] [] [(a0, .inr (3, [.ref a1, .int y0, .ref a2, .int y1, .int y2, .int y3, .int i1, .int i1, .int 0, .int y7])), (a1, .inl (E.2.2 1, 1600, .inl f0))] 0 0
          refine mp_run hF mp_tabX3_ok [mp_i (.aload_n 0), mp_c (.iconst 0) 0, mp_h (.putfield 41) [14, 0]] (by decide +kernel) ?_
          refine And.intro rfl (And.intro rfl (And.intro rfl (And.intro rfl (And.intro (Nat.le_of_ble_eq_true rfl) ?_))))
          show mp_W E X 1 89 [(0, .ref a0)] [] [(a0, .inr (3, [.ref a1, .int y0, .ref a2, .int y1, .int y2, .int 0, .int i1, .int i1, .int 0, .int y7])), (a1, .inl (E.2.2 1, 1600, .inl f0))] 0 0
          refine mp_run hF mp_tabX3_ok [mp_h (.goto 167) [256]] (by decide +kernel) ?_
          show mp_W E X 1 256 [(0, .ref a0)] [] [(a0, .inr (3, [.ref a1, .int y0, .ref a2, .int y1, .int y2, .int 0, .int i1, .int i1, .int 0, .int y7])), (a1, .inl (E.2.2 1, 1600, .inl f0))] 0 0
          exact mp_vret hF hQ rfl (Nat.le_of_ble_eq_true rfl) (Nat.le_of_ble_eq_true rfl) [0, 1] (w' := [(a0, .inr (3, [.ref a1, .int y0, .ref a2, .int y1, .int y2, .int 0, .int i1, .int i1, .int 0, .int y7])), (a1, .inl (E.2.2 1, 1600, .inl f0))]) rfl rfl ⟨0, i1, i1, 0, rfl, (by decide), (by decide), l2, u3, l2, u3, rfl⟩ (by decide +kernel)
      · have c8 : i1.toInt < y0.toInt := c8
        show mp_W E X 1 19 [(0, .ref a0)] [] [(a0, .inr (3, [.ref a1, .int y0, .ref a2, .int y1, .int y2, .int y3, .int i1, .int y5, .int y6, .int y7])), (a1, .inl (E.2.2 1, 1600, .inl f0))] 0 0
        refine mp_run hF mp_tabX3_ok [mp_i (.aload_n 0), mp_h (.getfield 9) [9, 0], mp_i (.aload_n 0), mp_h (.getfield 161) [15, 0], mp_h .baload [1], mp_c (.bipush 32) 32, mp_h (.if_icmp .eq 17) [47]] (by decide +kernel) ?_
        refine And.intro rfl (And.intro rfl ?_)
        refine And.intro rfl (And.intro rfl ?_)
        refine And.intro rfl (And.intro rfl (And.intro (vp_in_iff.mpr (by omega)) ?_))
        intro z77 h78
        refine And.intro (fun c79 => ?_) (fun c79 => ?_)
        · have c79 : z77.toInt = 32 := (congrArg Int32.toInt c79)
          show mp_W E X 1 47 [(0, .ref a0)] [] [(a0, .inr (3, [.ref a1, .int y0, .ref a2, .int y1, .int y2, .int y3, .int i1, .int y5, .int y6, .int y7])), (a1, .inl (E.2.2 1, 1600, .inl f0))] 0 0
          refine mp_run hF mp_tabX3_ok [mp_i (.aload_n 0), mp_i .dup, mp_h (.getfield 161) [15, 0], mp_c (.iconst 1) 1, mp_i .iadd, mp_h (.putfield 161) [15, 0]] (by decide +kernel) ?_
          refine And.intro rfl ?_
          refine And.intro rfl (And.intro rfl ?_)
          intro z80 h81
          have e82 : z80.toInt = i1.toInt + 1 := mp_add (a := i1.toInt) (b := 1) h81 rfl (by decide) (by omega) (by omega)
          refine And.intro rfl (And.intro rfl (And.intro rfl (And.intro rfl (And.intro (Nat.le_of_ble_eq_true rfl) ?_))))
          show mp_W E X 1 57 [(0, .ref a0)] [] [(a0, .inr (3, [.ref a1, .int y0, .ref a2, .int y1, .int y2, .int y3, .int z80, .int y5, .int y6, .int y7])), (a1, .inl (E.2.2 1, 1600, .inl f0))] 0 0
          refine mp_run hF mp_tabX3_ok [mp_h (.goto (-49)) [8]] (by decide +kernel) ?_
          show mp_W E X 1 8 [(0, .ref a0)] [] [(a0, .inr (3, [.ref a1, .int y0, .ref a2, .int y1, .int y2, .int y3, .int z80, .int y5, .int y6, .int y7])), (a1, .inl (E.2.2 1, 1600, .inl f0))] 0 0
          exact mp_sub [0] rfl [0, 1] rfl rfl (ih6 (d5 - 1) (by omega) z80 (by omega) (by omega) (by omega))
        · have c79 : z77.toInt ≠ 32 := c79
          show mp_W E X 1 33 [(0, .ref a0)] [] [(a0, .inr (3, [.ref a1, .int y0, .ref a2, .int y1, .int y2, .int y3, .int i1, .int y5, .int y6, .int y7])), (a1, .inl (E.2.2 1, 1600, .inl f0))] 0 0
          refine mp_run hF mp_tabX3_ok [mp_i (.aload_n 0), mp_h (.getfield 9) [9, 0], mp_i (.aload_n 0), mp_h (.getfield 161) [15, 0], mp_h .baload [1], mp_c (.bipush 10) 10, mp_h (.if_icmp .ne 16) [60]] (by decide +kernel) ?_
          refine And.intro rfl (And.intro rfl ?_)
          refine And.intro rfl (And.intro rfl ?_)
          refine And.intro rfl (And.intro rfl (And.intro (vp_in_iff.mpr (by omega)) ?_))
          intro z83 h84
          refine And.intro (fun c85 => ?_) (fun c85 => ?_)
          · have c85 : z83.toInt ≠ 10 := c85
            show mp_W E X 1 60 [(0, .ref a0)] [] [(a0, .inr (3, [.ref a1, .int y0, .ref a2, .int y1, .int y2, .int y3, .int i1, .int y5, .int y6, .int y7])), (a1, .inl (E.2.2 1, 1600, .inl f0))] 0 0
            refine mp_run hF mp_tabX3_ok [mp_i (.aload_n 0), mp_i (.aload_n 0), mp_h (.getfield 161) [15, 0], mp_h (.putfield 35) [16, 0]] (by decide +kernel) ?_
            refine And.intro rfl (And.intro rfl ?_)
            refine And.intro rfl (And.intro rfl (And.intro rfl (And.intro rfl (And.intro (Nat.le_of_ble_eq_true rfl) ?_))))
            show mp_W E X 1 68 [(0, .ref a0)] [] [(a0, .inr (3, [.ref a1, .int y0, .ref a2, .int y1, .int y2, .int y3, .int i1, .int i1, .int y6, .int y7])), (a1, .inl (E.2.2 1, 1600, .inl f0))] 0 0
            refine mp_run hF mp_tabX3_ok [mp_i (.aload_n 0), mp_c (.iconst 0) 0, mp_h (.putfield 158) [17, 0]] (by decide +kernel) ?_
            refine And.intro rfl (And.intro rfl (And.intro rfl (And.intro rfl (And.intro (Nat.le_of_ble_eq_true rfl) ?_))))
            show mp_W E X 1 73 [(0, .ref a0)] [] [(a0, .inr (3, [.ref a1, .int y0, .ref a2, .int y1, .int y2, .int y3, .int i1, .int i1, .int 0, .int y7])), (a1, .inl (E.2.2 1, 1600, .inl f0))] 0 0
            refine mp_run hF mp_tabX3_ok [mp_i (.aload_n 0), mp_h (.getfield 161) [15, 0], mp_i (.aload_n 0), mp_h (.getfield 26) [10, 0], mp_h (.if_icmp .lt 11) [92]] (by decide +kernel) ?_
            refine And.intro rfl (And.intro rfl ?_)
            refine And.intro rfl (And.intro rfl ?_)
            refine And.intro (fun c86 => ?_) (fun c86 => ?_)
            · have c86 : i1.toInt < y0.toInt := c86
              show mp_W E X 1 92 [(0, .ref a0)] [] [(a0, .inr (3, [.ref a1, .int y0, .ref a2, .int y1, .int y2, .int y3, .int i1, .int i1, .int 0, .int y7])), (a1, .inl (E.2.2 1, 1600, .inl f0))] 0 0
              refine mp_run hF mp_tabX3_ok [mp_i (.aload_n 0), mp_i (.aload_n 0), mp_h (.getfield 161) [15, 0]] (by decide +kernel) ?_
              refine And.intro rfl (And.intro rfl ?_)
              show mp_W E X 1 97 [(0, .ref a0)] [.int i1, .ref a0] [(a0, .inr (3, [.ref a1, .int y0, .ref a2, .int y1, .int y2, .int y3, .int i1, .int i1, .int 0, .int y7])), (a1, .inl (E.2.2 1, 1600, .inl f0))] 0 0
              refine mp_callV hF (As := [.int i1]) (rest := []) (wr := []) (bX3_isLetter_6 E a0 a1 a2 f0 y0 y1 y2 y3 i1 i1 0 y7 i1 l2 (by omega) l_y0 u_y0 l2 u3 l2 u3) mp_lkX3_173 0 rfl [0, 1] [] rfl rfl rfl rfl rfl ⟨(Nat.le_of_ble_eq_true rfl), (Nat.le_of_ble_eq_true rfl), (Nat.le_of_ble_eq_true rfl), (Nat.le_of_ble_eq_true rfl)⟩ (Nat.le_of_ble_eq_true rfl) (by decide +kernel) (fun v87 w88 h89 => ?_)
              rcases h89 with ⟨rfl, rfl⟩ | ⟨rfl, rfl⟩
              · skip
                show mp_W E X 1 100 [(0, .ref a0)] [.int 0] [(a0, .inr (3, [.ref a1, .int y0, .ref a2, .int y1, .int y2, .int y3, .int i1, .int i1, .int 0, .int y7])), (a1, .inl (E.2.2 1, 1600, .inl f0))] 0 0
                refine mp_run hF mp_tabX3_ok [mp_h (.ifCond .eq 43) [143]] (by decide +kernel) ?_
                refine And.intro (fun _ => ?_) (fun c90 => absurd c90 (by decide))
                show mp_W E X 1 143 [(0, .ref a0)] [] [(a0, .inr (3, [.ref a1, .int y0, .ref a2, .int y1, .int y2, .int y3, .int i1, .int i1, .int 0, .int y7])), (a1, .inl (E.2.2 1, 1600, .inl f0))] 0 0
                refine mp_run hF mp_tabX3_ok [mp_i (.aload_n 0), mp_i (.aload_n 0), mp_h (.getfield 161) [15, 0]] (by decide +kernel) ?_
                refine And.intro rfl (And.intro rfl ?_)
                show mp_W E X 1 148 [(0, .ref a0)] [.int i1, .ref a0] [(a0, .inr (3, [.ref a1, .int y0, .ref a2, .int y1, .int y2, .int y3, .int i1, .int i1, .int 0, .int y7])), (a1, .inl (E.2.2 1, 1600, .inl f0))] 0 0
                refine mp_callV hF (As := [.int i1]) (rest := []) (wr := []) (bX3_isDigit_7 E a0 a1 a2 f0 y0 y1 y2 y3 i1 i1 0 y7 i1 l2 (by omega) l_y0 u_y0 l2 u3 l2 u3) mp_lkX3_176 0 rfl [0, 1] [] rfl rfl rfl rfl rfl ⟨(Nat.le_of_ble_eq_true rfl), (Nat.le_of_ble_eq_true rfl), (Nat.le_of_ble_eq_true rfl), (Nat.le_of_ble_eq_true rfl)⟩ (Nat.le_of_ble_eq_true rfl) (by decide +kernel) (fun v91 w92 h93 => ?_)
                rcases h93 with ⟨rfl, rfl⟩ | ⟨rfl, rfl⟩
                · skip
                  show mp_W E X 1 151 [(0, .ref a0)] [.int 0] [(a0, .inr (3, [.ref a1, .int y0, .ref a2, .int y1, .int y2, .int y3, .int i1, .int i1, .int 0, .int y7])), (a1, .inl (E.2.2 1, 1600, .inl f0))] 0 0
                  refine mp_run hF mp_tabX3_ok [mp_h (.ifCond .eq 72) [223]] (by decide +kernel) ?_
                  refine And.intro (fun _ => ?_) (fun c94 => absurd c94 (by decide))
                  show mp_W E X 1 223 [(0, .ref a0)] [] [(a0, .inr (3, [.ref a1, .int y0, .ref a2, .int y1, .int y2, .int y3, .int i1, .int i1, .int 0, .int y7])), (a1, .inl (E.2.2 1, 1600, .inl f0))] 0 0
                  refine mp_run hF mp_tabX3_ok [mp_i (.aload_n 0), mp_i (.aload_n 0), mp_h (.getfield 9) [9, 0], mp_i (.aload_n 0), mp_h (.getfield 161) [15, 0], mp_h .baload [1], mp_c (.bipush 59) 59, mp_h (.if_icmp .ne 7) [242]] (by decide +kernel) ?_
                  refine And.intro rfl (And.intro rfl ?_)
                  refine And.intro rfl (And.intro rfl ?_)
                  refine And.intro rfl (And.intro rfl (And.intro (vp_in_iff.mpr (by omega)) ?_))
                  intro z95 h96
                  refine And.intro (fun c97 => ?_) (fun c97 => ?_)
                  · have c97 : z95.toInt ≠ 59 := c97
                    show mp_W E X 1 242 [(0, .ref a0)] [.ref a0] [(a0, .inr (3, [.ref a1, .int y0, .ref a2, .int y1, .int y2, .int y3, .int i1, .int i1, .int 0, .int y7])), (a1, .inl (E.2.2 1, 1600, .inl f0))] 0 0
                    refine mp_run hF mp_tabX3_ok [mp_c (.iconst 4) 4, mp_h (.putfield 41) [14, 0]] (by decide +kernel) ?_
                    refine And.intro rfl (And.intro rfl (And.intro rfl (And.intro rfl (And.intro (Nat.le_of_ble_eq_true rfl) ?_))))
                    show mp_W E X 1 246 [(0, .ref a0)] [] [(a0, .inr (3, [.ref a1, .int y0, .ref a2, .int y1, .int y2, .int 4, .int i1, .int i1, .int 0, .int y7])), (a1, .inl (E.2.2 1, 1600, .inl f0))] 0 0
                    refine mp_run hF mp_tabX3_ok [mp_i (.aload_n 0), mp_i .dup, mp_h (.getfield 35) [16, 0], mp_c (.iconst 1) 1, mp_i .iadd, mp_h (.putfield 35) [16, 0]] (by decide +kernel) ?_
                    refine And.intro rfl ?_
                    refine And.intro rfl (And.intro rfl ?_)
                    intro z98 h99
                    have e100 : z98.toInt = i1.toInt + 1 := mp_add (a := i1.toInt) (b := 1) h99 rfl (by decide) (by omega) (by omega)
                    refine And.intro rfl (And.intro rfl (And.intro rfl (And.intro rfl (And.intro (Nat.le_of_ble_eq_true rfl) ?_))))
                    show mp_W E X 1 256 [(0, .ref a0)] [] [(a0, .inr (3, [.ref a1, .int y0, .ref a2, .int y1, .int y2, .int 4, .int i1, .int z98, .int 0, .int y7])), (a1, .inl (E.2.2 1, 1600, .inl f0))] 0 0
                    exact mp_vret hF hQ rfl (Nat.le_of_ble_eq_true rfl) (Nat.le_of_ble_eq_true rfl) [0, 1] (w' := [(a0, .inr (3, [.ref a1, .int y0, .ref a2, .int y1, .int y2, .int 4, .int i1, .int z98, .int 0, .int y7])), (a1, .inl (E.2.2 1, 1600, .inl f0))]) rfl rfl ⟨4, i1, z98, 0, rfl, (by decide), (by decide), l2, u3, (by omega), (by omega), rfl⟩ (by decide +kernel)
                  · have c97 : z95.toInt = 59 := (congrArg Int32.toInt c97)
                    show mp_W E X 1 238 [(0, .ref a0)] [.ref a0] [(a0, .inr (3, [.ref a1, .int y0, .ref a2, .int y1, .int y2, .int y3, .int i1, .int i1, .int 0, .int y7])), (a1, .inl (E.2.2 1, 1600, .inl f0))] 0 0
                    refine mp_run hF mp_tabX3_ok [mp_c (.iconst 3) 3, mp_h (.goto 4) [243], mp_h (.putfield 41) [14, 0]] (by decide +kernel) ?_
                    refine And.intro rfl (And.intro rfl (And.intro rfl (And.intro rfl (And.intro (Nat.le_of_ble_eq_true rfl) ?_))))
                    show mp_W E X 1 246 [(0, .ref a0)] [] [(a0, .inr (3, [.ref a1, .int y0, .ref a2, .int y1, .int y2, .int 3, .int i1, .int i1, .int 0, .int y7])), (a1, .inl (E.2.2 1, 1600, .inl f0))] 0 0
                    refine mp_run hF mp_tabX3_ok [mp_i (.aload_n 0), mp_i .dup, mp_h (.getfield 35) [16, 0], mp_c (.iconst 1) 1, mp_i .iadd, mp_h (.putfield 35) [16, 0]] (by decide +kernel) ?_
                    refine And.intro rfl ?_
                    refine And.intro rfl (And.intro rfl ?_)
                    intro z101 h102
                    have e103 : z101.toInt = i1.toInt + 1 := mp_add (a := i1.toInt) (b := 1) h102 rfl (by decide) (by omega) (by omega)
                    refine And.intro rfl (And.intro rfl (And.intro rfl (And.intro rfl (And.intro (Nat.le_of_ble_eq_true rfl) ?_))))
                    show mp_W E X 1 256 [(0, .ref a0)] [] [(a0, .inr (3, [.ref a1, .int y0, .ref a2, .int y1, .int y2, .int 3, .int i1, .int z101, .int 0, .int y7])), (a1, .inl (E.2.2 1, 1600, .inl f0))] 0 0
                    exact mp_vret hF hQ rfl (Nat.le_of_ble_eq_true rfl) (Nat.le_of_ble_eq_true rfl) [0, 1] (w' := [(a0, .inr (3, [.ref a1, .int y0, .ref a2, .int y1, .int y2, .int 3, .int i1, .int z101, .int 0, .int y7])), (a1, .inl (E.2.2 1, 1600, .inl f0))]) rfl rfl ⟨3, i1, z101, 0, rfl, (by decide), (by decide), l2, u3, (by omega), (by omega), rfl⟩ (by decide +kernel)
                · skip
                  show mp_W E X 1 151 [(0, .ref a0)] [.int 1] [(a0, .inr (3, [.ref a1, .int y0, .ref a2, .int y1, .int y2, .int y3, .int i1, .int i1, .int 0, .int y7])), (a1, .inl (E.2.2 1, 1600, .inl f0))] 0 0
                  refine mp_run hF mp_tabX3_ok [mp_h (.ifCond .eq 72) [223]] (by decide +kernel) ?_
                  refine And.intro (fun c104 => absurd c104 (by decide)) (fun _ => ?_)
                  show mp_W E X 1 154 [(0, .ref a0)] [] [(a0, .inr (3, [.ref a1, .int y0, .ref a2, .int y1, .int y2, .int y3, .int i1, .int i1, .int 0, .int y7])), (a1, .inl (E.2.2 1, 1600, .inl f0))] 0 0
                  refine mp_run hF mp_tabX3_ok [mp_i (.aload_n 0), mp_c (.iconst 2) 2, mp_h (.putfield 41) [14, 0]] (by decide +kernel) ?_
                  refine And.intro rfl (And.intro rfl (And.intro rfl (And.intro rfl (And.intro (Nat.le_of_ble_eq_true rfl) ?_))))
                  show mp_W E X 1 159 [(0, .ref a0)] [] [(a0, .inr (3, [.ref a1, .int y0, .ref a2, .int y1, .int y2, .int 2, .int i1, .int i1, .int 0, .int y7])), (a1, .inl (E.2.2 1, 1600, .inl f0))] 0 0
                  have lp109 : ∀ (d110 : Nat) (i105 : Int32) (i106 : Int32), 0 ≤ i105.toInt → i105.toInt ≤ 1600 → y0.toInt - i105.toInt ≤ (d110 : Int) → mp_W E X 1 159 [(0, .ref a0)] [] [(a0, .inr (3, [.ref a1, .int y0, .ref a2, .int y1, .int y2, .int 2, .int i1, .int i105, .int i106, .int y7])), (a1, .inl (E.2.2 1, 1600, .inl f0))] 0 0 := by
                    intro d110
                    induction d110 using Nat.strongRecOn with
                    | ind d110 ih111 =>
                      intro i105 i106 l107 u108 hm112
                      refine mp_run hF mp_tabX3_ok [mp_i (.aload_n 0), mp_h (.getfield 35) [16, 0], mp_i (.aload_n 0), mp_h (.getfield 26) [10, 0], mp_h (.if_icmp .ge 89) [256]] (by decide +kernel) ?_
                      refine And.intro rfl (And.intro rfl ?_)
                      refine And.intro rfl (And.intro rfl ?_)
                      refine And.intro (fun c113 => ?_) (fun c113 => ?_)
                      · have c113 : y0.toInt ≤ i105.toInt := c113
                        show mp_W E X 1 256 [(0, .ref a0)] [] [(a0, .inr (3, [.ref a1, .int y0, .ref a2, .int y1, .int y2, .int 2, .int i1, .int i105, .int i106, .int y7])), (a1, .inl (E.2.2 1, 1600, .inl f0))] 0 0
                        exact mp_vret hF hQ rfl (Nat.le_of_ble_eq_true rfl) (Nat.le_of_ble_eq_true rfl) [0, 1] (w' := [(a0, .inr (3, [.ref a1, .int y0, .ref a2, .int y1, .int y2, .int 2, .int i1, .int i105, .int i106, .int y7])), (a1, .inl (E.2.2 1, 1600, .inl f0))]) rfl rfl ⟨2, i1, i105, i106, rfl, (by decide), (by decide), l2, u3, l107, u108, rfl⟩ (by decide +kernel)
                      · have c113 : i105.toInt < y0.toInt := c113
                        show mp_W E X 1 170 [(0, .ref a0)] [] [(a0, .inr (3, [.ref a1, .int y0, .ref a2, .int y1, .int y2, .int 2, .int i1, .int i105, .int i106, .int y7])), (a1, .inl (E.2.2 1, 1600, .inl f0))] 0 0
                        refine mp_run hF mp_tabX3_ok [mp_i (.aload_n 0), mp_i (.aload_n 0), mp_h (.getfield 35) [16, 0]] (by decide +kernel) ?_
                        refine And.intro rfl (And.intro rfl ?_)
                        show mp_W E X 1 175 [(0, .ref a0)] [.int i105, .ref a0] [(a0, .inr (3, [.ref a1, .int y0, .ref a2, .int y1, .int y2, .int 2, .int i1, .int i105, .int i106, .int y7])), (a1, .inl (E.2.2 1, 1600, .inl f0))] 0 0
                        refine mp_callV hF (As := [.int i105]) (rest := []) (wr := []) (bX3_isDigit_7 E a0 a1 a2 f0 y0 y1 y2 2 i1 i105 i106 y7 i105 l107 (by omega) l_y0 u_y0 l2 u3 l107 u108) mp_lkX3_176 0 rfl [0, 1] [] rfl rfl rfl rfl rfl ⟨(Nat.le_of_ble_eq_true rfl), (Nat.le_of_ble_eq_true rfl), (Nat.le_of_ble_eq_true rfl), (Nat.le_of_ble_eq_true rfl)⟩ (Nat.le_of_ble_eq_true rfl) (by decide +kernel) (fun v114 w115 h116 => ?_)
                        rcases h116 with ⟨rfl, rfl⟩ | ⟨rfl, rfl⟩
                        · skip
                          show mp_W E X 1 178 [(0, .ref a0)] [.int 0] [(a0, .inr (3, [.ref a1, .int y0, .ref a2, .int y1, .int y2, .int 2, .int i1, .int i105, .int i106, .int y7])), (a1, .inl (E.2.2 1, 1600, .inl f0))] 0 0
                          refine mp_run hF mp_tabX3_ok [mp_h (.ifCond .eq 78) [256]] (by decide +kernel) ?_
                          refine And.intro (fun _ => ?_) (fun c117 => absurd c117 (by decide))
                          show mp_W E X 1 256 [(0, .ref a0)] [] [(a0, .inr (3, [.ref a1, .int y0, .ref a2, .int y1, .int y2, .int 2, .int i1, .int i105, .int i106, .int y7])), (a1, .inl (E.2.2 1, 1600, .inl f0))] 0 0
                          exact mp_vret hF hQ rfl (Nat.le_of_ble_eq_true rfl) (Nat.le_of_ble_eq_true rfl) [0, 1] (w' := [(a0, .inr (3, [.ref a1, .int y0, .ref a2, .int y1, .int y2, .int 2, .int i1, .int i105, .int i106, .int y7])), (a1, .inl (E.2.2 1, 1600, .inl f0))]) rfl rfl ⟨2, i1, i105, i106, rfl, (by decide), (by decide), l2, u3, l107, u108, rfl⟩ (by decide +kernel)
                        · skip
                          show mp_W E X 1 178 [(0, .ref a0)] [.int 1] [(a0, .inr (3, [.ref a1, .int y0, .ref a2, .int y1, .int y2, .int 2, .int i1, .int i105, .int i106, .int y7])), (a1, .inl (E.2.2 1, 1600, .inl f0))] 0 0
                          refine mp_run hF mp_tabX3_ok [mp_h (.ifCond .eq 78) [256]] (by decide +kernel) ?_
                          refine And.intro (fun c118 => absurd c118 (by decide)) (fun _ => ?_)
                          show mp_W E X 1 181 [(0, .ref a0)] [] [(a0, .inr (3, [.ref a1, .int y0, .ref a2, .int y1, .int y2, .int 2, .int i1, .int i105, .int i106, .int y7])), (a1, .inl (E.2.2 1, 1600, .inl f0))] 0 0
                          refine mp_run hF mp_tabX3_ok [mp_i (.aload_n 0), mp_c (.ldc 179) 100000000, mp_c (.bipush 10) 10, mp_i (.aload_n 0), mp_h (.getfield 158) [17, 0], mp_i .imul, mp_i (.aload_n 0), mp_h (.getfield 9) [9, 0], mp_i (.aload_n 0), mp_h (.getfield 35) [16, 0], mp_h .baload [1], mp_i .iadd, mp_c (.bipush 48) 48, mp_i .isub] (by decide +kernel) ?_
                          refine And.intro rfl (And.intro rfl ?_)
                          intro z119 h120
                          refine And.intro rfl (And.intro rfl ?_)
                          refine And.intro rfl (And.intro rfl ?_)
                          refine And.intro rfl (And.intro rfl (And.intro (vp_in_iff.mpr (by omega)) ?_))
                          intro z122 h123
                          intro z124 h125
                          intro z127 h128
                          show mp_W E X 1 204 [(0, .ref a0)] [.int z127, .int 100000000, .ref a0] [(a0, .inr (3, [.ref a1, .int y0, .ref a2, .int y1, .int y2, .int 2, .int i1, .int i105, .int i106, .int y7])), (a1, .inl (E.2.2 1, 1600, .inl f0))] 0 0
                          refine mp_callS hF (As := [.int 100000000, .int z127]) (rest := [.ref a0]) (wr := [(a0, .inr (3, [.ref a1, .int y0, .ref a2, .int y1, .int y2, .int 2, .int i1, .int i105, .int i106, .int y7])), (a1, .inl (E.2.2 1, 1600, .inl f0))]) (bJ9_min_7cf53_8 E 100000000 z127) mp_lkX3_180 [] [0, 1] rfl rfl rfl rfl rfl ⟨(Nat.le_of_ble_eq_true rfl), (Nat.le_of_ble_eq_true rfl), (Nat.le_of_ble_eq_true rfl), (Nat.le_of_ble_eq_true rfl)⟩ (Nat.le_of_ble_eq_true rfl) (by decide +kernel) (fun v130 w131 h132 => ?_)
                          obtain ⟨r133, rfl, rfl⟩ := h132
                          show mp_W E X 1 207 [(0, .ref a0)] [.int r133, .ref a0] [(a0, .inr (3, [.ref a1, .int y0, .ref a2, .int y1, .int y2, .int 2, .int i1, .int i105, .int i106, .int y7])), (a1, .inl (E.2.2 1, 1600, .inl f0))] 0 0
                          refine mp_run hF mp_tabX3_ok [mp_h (.putfield 158) [17, 0]] (by decide +kernel) ?_
                          refine And.intro rfl (And.intro rfl (And.intro rfl (And.intro rfl (And.intro (Nat.le_of_ble_eq_true rfl) ?_))))
                          show mp_W E X 1 210 [(0, .ref a0)] [] [(a0, .inr (3, [.ref a1, .int y0, .ref a2, .int y1, .int y2, .int 2, .int i1, .int i105, .int r133, .int y7])), (a1, .inl (E.2.2 1, 1600, .inl f0))] 0 0
                          refine mp_run hF mp_tabX3_ok [mp_i (.aload_n 0), mp_i .dup, mp_h (.getfield 35) [16, 0], mp_c (.iconst 1) 1, mp_i .iadd, mp_h (.putfield 35) [16, 0]] (by decide +kernel) ?_
                          refine And.intro rfl ?_
                          refine And.intro rfl (And.intro rfl ?_)
                          intro z134 h135
                          have e136 : z134.toInt = i105.toInt + 1 := mp_add (a := i105.toInt) (b := 1) h135 rfl (by decide) (by omega) (by omega)
                          refine And.intro rfl (And.intro rfl (And.intro rfl (And.intro rfl (And.intro (Nat.le_of_ble_eq_true rfl) ?_))))
                          show mp_W E X 1 220 [(0, .ref a0)] [] [(a0, .inr (3, [.ref a1, .int y0, .ref a2, .int y1, .int y2, .int 2, .int i1, .int z134, .int r133, .int y7])), (a1, .inl (E.2.2 1, 1600, .inl f0))] 0 0
                          refine mp_run hF mp_tabX3_ok [mp_h (.goto (-61)) [159]] (by decide +kernel) ?_
                          show mp_W E X 1 159 [(0, .ref a0)] [] [(a0, .inr (3, [.ref a1, .int y0, .ref a2, .int y1, .int y2, .int 2, .int i1, .int z134, .int r133, .int y7])), (a1, .inl (E.2.2 1, 1600, .inl f0))] 0 0
                          exact mp_sub [0] rfl [0, 1] rfl rfl (ih111 (d110 - 1) (by omega) z134 r133 (by omega) (by omega) (by omega))
                  exact mp_sub [0] rfl [0, 1] rfl rfl (lp109 _ i1 0 l2 u3 (Int.self_le_toNat _))
              · skip
                show mp_W E X 1 100 [(0, .ref a0)] [.int 1] [(a0, .inr (3, [.ref a1, .int y0, .ref a2, .int y1, .int y2, .int y3, .int i1, .int i1, .int 0, .int y7])), (a1, .inl (E.2.2 1, 1600, .inl f0))] 0 0
                refine mp_run hF mp_tabX3_ok [mp_h (.ifCond .eq 43) [143]] (by decide +kernel) ?_
                refine And.intro (fun c137 => absurd c137 (by decide)) (fun _ => ?_)
                show mp_W E X 1 103 [(0, .ref a0)] [] [(a0, .inr (3, [.ref a1, .int y0, .ref a2, .int y1, .int y2, .int y3, .int i1, .int i1, .int 0, .int y7])), (a1, .inl (E.2.2 1, 1600, .inl f0))] 0 0
                refine mp_run hF mp_tabX3_ok [mp_i (.aload_n 0), mp_c (.iconst 1) 1, mp_h (.putfield 41) [14, 0]] (by decide +kernel) ?_
                refine And.intro rfl (And.intro rfl (And.intro rfl (And.intro rfl (And.intro (Nat.le_of_ble_eq_true rfl) ?_))))
                show mp_W E X 1 108 [(0, .ref a0)] [] [(a0, .inr (3, [.ref a1, .int y0, .ref a2, .int y1, .int y2, .int 1, .int i1, .int i1, .int 0, .int y7])), (a1, .inl (E.2.2 1, 1600, .inl f0))] 0 0
                have lp141 : ∀ (d142 : Nat) (i138 : Int32), 0 ≤ i138.toInt → i138.toInt ≤ 1600 → y0.toInt - i138.toInt ≤ (d142 : Int) → mp_W E X 1 108 [(0, .ref a0)] [] [(a0, .inr (3, [.ref a1, .int y0, .ref a2, .int y1, .int y2, .int 1, .int i1, .int i138, .int 0, .int y7])), (a1, .inl (E.2.2 1, 1600, .inl f0))] 0 0 := by
                  intro d142
                  induction d142 using Nat.strongRecOn with
                  | ind d142 ih143 =>
                    intro i138 l139 u140 hm144
                    refine mp_run hF mp_tabX3_ok [mp_i (.aload_n 0), mp_h (.getfield 35) [16, 0], mp_i (.aload_n 0), mp_h (.getfield 26) [10, 0], mp_h (.if_icmp .ge 140) [256]] (by decide +kernel) ?_
                    refine And.intro rfl (And.intro rfl ?_)
                    refine And.intro rfl (And.intro rfl ?_)
                    refine And.intro (fun c145 => ?_) (fun c145 => ?_)
                    · have c145 : y0.toInt ≤ i138.toInt := c145
                      show mp_W E X 1 256 [(0, .ref a0)] [] [(a0, .inr (3, [.ref a1, .int y0, .ref a2, .int y1, .int y2, .int 1, .int i1, .int i138, .int 0, .int y7])), (a1, .inl (E.2.2 1, 1600, .inl f0))] 0 0
                      exact mp_vret hF hQ rfl (Nat.le_of_ble_eq_true rfl) (Nat.le_of_ble_eq_true rfl) [0, 1] (w' := [(a0, .inr (3, [.ref a1, .int y0, .ref a2, .int y1, .int y2, .int 1, .int i1, .int i138, .int 0, .int y7])), (a1, .inl (E.2.2 1, 1600, .inl f0))]) rfl rfl ⟨1, i1, i138, 0, rfl, (by decide), (by decide), l2, u3, l139, u140, rfl⟩ (by decide +kernel)
                    · have c145 : i138.toInt < y0.toInt := c145
                      show mp_W E X 1 119 [(0, .ref a0)] [] [(a0, .inr (3, [.ref a1, .int y0, .ref a2, .int y1, .int y2, .int 1, .int i1, .int i138, .int 0, .int y7])), (a1, .inl (E.2.2 1, 1600, .inl f0))] 0 0
                      refine mp_run hF mp_tabX3_ok [mp_i (.aload_n 0), mp_i (.aload_n 0), mp_h (.getfield 35) [16, 0]] (by decide +kernel) ?_
                      refine And.intro rfl (And.intro rfl ?_)
                      show mp_W E X 1 124 [(0, .ref a0)] [.int i138, .ref a0] [(a0, .inr (3, [.ref a1, .int y0, .ref a2, .int y1, .int y2, .int 1, .int i1, .int i138, .int 0, .int y7])), (a1, .inl (E.2.2 1, 1600, .inl f0))] 0 0
                      refine mp_callV hF (As := [.int i138]) (rest := []) (wr := []) (bX3_isLetter_6 E a0 a1 a2 f0 y0 y1 y2 1 i1 i138 0 y7 i138 l139 (by omega) l_y0 u_y0 l2 u3 l139 u140) mp_lkX3_173 0 rfl [0, 1] [] rfl rfl rfl rfl rfl ⟨(Nat.le_of_ble_eq_true rfl), (Nat.le_of_ble_eq_true rfl), (Nat.le_of_ble_eq_true rfl), (Nat.le_of_ble_eq_true rfl)⟩ (Nat.le_of_ble_eq_true rfl) (by decide +kernel) (fun v146 w147 h148 => ?_)
                      rcases h148 with ⟨rfl, rfl⟩ | ⟨rfl, rfl⟩
                      · skip
                        show mp_W E X 1 127 [(0, .ref a0)] [.int 0] [(a0, .inr (3, [.ref a1, .int y0, .ref a2, .int y1, .int y2, .int 1, .int i1, .int i138, .int 0, .int y7])), (a1, .inl (E.2.2 1, 1600, .inl f0))] 0 0
                        refine mp_run hF mp_tabX3_ok [mp_h (.ifCond .eq 129) [256]] (by decide +kernel) ?_
                        refine And.intro (fun _ => ?_) (fun c149 => absurd c149 (by decide))
                        show mp_W E X 1 256 [(0, .ref a0)] [] [(a0, .inr (3, [.ref a1, .int y0, .ref a2, .int y1, .int y2, .int 1, .int i1, .int i138, .int 0, .int y7])), (a1, .inl (E.2.2 1, 1600, .inl f0))] 0 0
                        exact mp_vret hF hQ rfl (Nat.le_of_ble_eq_true rfl) (Nat.le_of_ble_eq_true rfl) [0, 1] (w' := [(a0, .inr (3, [.ref a1, .int y0, .ref a2, .int y1, .int y2, .int 1, .int i1, .int i138, .int 0, .int y7])), (a1, .inl (E.2.2 1, 1600, .inl f0))]) rfl rfl ⟨1, i1, i138, 0, rfl, (by decide), (by decide), l2, u3, l139, u140, rfl⟩ (by decide +kernel)
                      · skip
                        show mp_W E X 1 127 [(0, .ref a0)] [.int 1] [(a0, .inr (3, [.ref a1, .int y0, .ref a2, .int y1, .int y2, .int 1, .int i1, .int i138, .int 0, .int y7])), (a1, .inl (E.2.2 1, 1600, .inl f0))] 0 0
                        refine mp_run hF mp_tabX3_ok [mp_h (.ifCond .eq 129) [256]] (by decide +kernel) ?_
                        refine And.intro (fun c150 => absurd c150 (by decide)) (fun _ => ?_)
                        show mp_W E X 1 130 [(0, .ref a0)] [] [(a0, .inr (3, [.ref a1, .int y0, .ref a2, .int y1, .int y2, .int 1, .int i1, .int i138, .int 0, .int y7])), (a1, .inl (E.2.2 1, 1600, .inl f0))] 0 0
                        refine mp_run hF mp_tabX3_ok [mp_i (.aload_n 0), mp_i .dup, mp_h (.getfield 35) [16, 0], mp_c (.iconst 1) 1, mp_i .iadd, mp_h (.putfield 35) [16, 0]] (by decide +kernel) ?_
                        refine And.intro rfl ?_
                        refine And.intro rfl (And.intro rfl ?_)
                        intro z151 h152
                        have e153 : z151.toInt = i138.toInt + 1 := mp_add (a := i138.toInt) (b := 1) h152 rfl (by decide) (by omega) (by omega)
                        refine And.intro rfl (And.intro rfl (And.intro rfl (And.intro rfl (And.intro (Nat.le_of_ble_eq_true rfl) ?_))))
                        show mp_W E X 1 140 [(0, .ref a0)] [] [(a0, .inr (3, [.ref a1, .int y0, .ref a2, .int y1, .int y2, .int 1, .int i1, .int z151, .int 0, .int y7])), (a1, .inl (E.2.2 1, 1600, .inl f0))] 0 0
                        refine mp_run hF mp_tabX3_ok [mp_h (.goto (-32)) [108]] (by decide +kernel) ?_
                        show mp_W E X 1 108 [(0, .ref a0)] [] [(a0, .inr (3, [.ref a1, .int y0, .ref a2, .int y1, .int y2, .int 1, .int i1, .int z151, .int 0, .int y7])), (a1, .inl (E.2.2 1, 1600, .inl f0))] 0 0
                        exact mp_sub [0] rfl [0, 1] rfl rfl (ih143 (d142 - 1) (by omega) z151 (by omega) (by omega) (by omega))
                exact mp_sub [0] rfl [0, 1] rfl rfl (lp141 _ i1 l2 u3 (Int.self_le_toNat _))
            · have c86 : y0.toInt ≤ i1.toInt := c86
              show mp_W E X 1 84 [(0, .ref a0)] [] [(a0, .inr (3, [.ref a1, .int y0, .ref a2, .int y1, .int y2, .int y3, .int i1, .int i1, .int 0, .int y7])), (a1, .inl (E.2.2 1, 1600, .inl f0))] 0 0
              refine mp_run hF mp_tabX3_ok [mp_i (.aload_n 0), mp_c (.iconst 0) 0, mp_h (.putfield 41) [14, 0]] (by decide +kernel) ?_
              refine And.intro rfl (And.intro rfl (And.intro rfl (And.intro rfl (And.intro (Nat.le_of_ble_eq_true rfl) ?_))))
              show mp_W E X 1 89 [(0, .ref a0)] [] [(a0, .inr (3, [.ref a1, .int y0, .ref a2, .int y1, .int y2, .int 0, .int i1, .int i1, .int 0, .int y7])), (a1, .inl (E.2.2 1, 1600, .inl f0))] 0 0
              refine mp_run hF mp_tabX3_ok [mp_h (.goto 167) [256]] (by decide +kernel) ?_
              show mp_W E X 1 256 [(0, .ref a0)] [] [(a0, .inr (3, [.ref a1, .int y0, .ref a2, .int y1, .int y2, .int 0, .int i1, .int i1, .int 0, .int y7])), (a1, .inl (E.2.2 1, 1600, .inl f0))] 0 0
              exact mp_vret hF hQ rfl (Nat.le_of_ble_eq_true rfl) (Nat.le_of_ble_eq_true rfl) [0, 1] (w' := [(a0, .inr (3, [.ref a1, .int y0, .ref a2, .int y1, .int y2, .int 0, .int i1, .int i1, .int 0, .int y7])), (a1, .inl (E.2.2 1, 1600, .inl f0))]) rfl rfl ⟨0, i1, i1, 0, rfl, (by decide), (by decide), l2, u3, l2, u3, rfl⟩ (by decide +kernel)
          · have c85 : z83.toInt = 10 := (congrArg Int32.toInt c85)
            show mp_W E X 1 47 [(0, .ref a0)] [] [(a0, .inr (3, [.ref a1, .int y0, .ref a2, .int y1, .int y2, .int y3, .int i1, .int y5, .int y6, .int y7])), (a1, .inl (E.2.2 1, 1600, .inl f0))] 0 0
            refine mp_run hF mp_tabX3_ok [mp_i (.aload_n 0), mp_i .dup, mp_h (.getfield 161) [15, 0], mp_c (.iconst 1) 1, mp_i .iadd, mp_h (.putfield 161) [15, 0]] (by decide +kernel) ?_
            refine And.intro rfl ?_
            refine And.intro rfl (And.intro rfl ?_)
            intro z154 h155
            have e156 : z154.toInt = i1.toInt + 1 := mp_add (a := i1.toInt) (b := 1) h155 rfl (by decide) (by omega) (by omega)
            refine And.intro rfl (And.intro rfl (And.intro rfl (And.intro rfl (And.intro (Nat.le_of_ble_eq_true rfl) ?_))))
            show mp_W E X 1 57 [(0, .ref a0)] [] [(a0, .inr (3, [.ref a1, .int y0, .ref a2, .int y1, .int y2, .int y3, .int z154, .int y5, .int y6, .int y7])), (a1, .inl (E.2.2 1, 1600, .inl f0))] 0 0
            refine mp_run hF mp_tabX3_ok [mp_h (.goto (-49)) [8]] (by decide +kernel) ?_
            show mp_W E X 1 8 [(0, .ref a0)] [] [(a0, .inr (3, [.ref a1, .int y0, .ref a2, .int y1, .int y2, .int y3, .int z154, .int y5, .int y6, .int y7])), (a1, .inl (E.2.2 1, 1600, .inl f0))] 0 0
            exact mp_sub [0] rfl [0, 1] rfl rfl (ih6 (d5 - 1) (by omega) z154 (by omega) (by omega) (by omega))
  exact mp_sub [0] rfl [0, 1] rfl rfl (lp4 _ y5 l_y5 u_y5 (Int.self_le_toNat _))
set_option maxHeartbeats 4000000 in
set_option maxRecDepth 100000 in
theorem bJ0_coder_7d493_10 (E : mp_E) (si : Nat) (hsi : si < 14) : mp_Ct E yJ0_coder_7d493 cJ0_coder_7d493 1 (some FieldType.byte) 0 0 0 0 [.ref (E.1.2.1 si)] [] (fun v w' => v = some (.int 0) ∧ w' = []) := by
  refine mp_met false (by decide) (by decide) (Nat.le_of_ble_eq_true rfl) (fun X hF hQ => ?_)
  have hF : mp_F E X (RJ0, cJ0_coder_7d493, 1, (0, 0, 0, 0), (some FieldType.byte), false) := hF
  show mp_W E X 1 0 [(0, .ref (E.1.2.1 si))] [] [] 0 0
  refine mp_scmp hF (idx := 38) (mp_gm (j := 2238) (by decide +kernel)) (by decide +kernel) ?_
  show mp_W E X 1 3 [(0, .ref (E.1.2.1 si))] [.int 1] [] 0 0
  refine mp_run hF mp_tab0_ok [mp_h (.ifCond .eq 10) [13]] (by decide +kernel) ?_
  refine And.intro (fun c1 => absurd c1 (by decide)) (fun _ => ?_)
  show mp_W E X 1 6 [(0, .ref (E.1.2.1 si))] [] [] 0 0
  refine mp_run hF mp_tab0_ok [mp_i (.aload_n 0)] (by decide +kernel) ?_
  show mp_W E X 1 7 [(0, .ref (E.1.2.1 si))] [.ref (E.1.2.1 si)] [] 0 0
  refine mp_scod hF hsi (mp_gm (j := 9012) (by decide +kernel)) (by decide +kernel) ?_
  show mp_W E X 1 10 [(0, .ref (E.1.2.1 si))] [.int 0] [] 0 0
  refine mp_run hF mp_tab0_ok [mp_h (.goto 4) [14]] (by decide +kernel) ?_
  show mp_W E X 1 14 [(0, .ref (E.1.2.1 si))] [.int 0] [] 0 0
  exact mp_iret hF hQ rfl (by decide) (Nat.le_of_ble_eq_true rfl) (Nat.le_of_ble_eq_true rfl) [] (w' := []) rfl rfl ⟨rfl, rfl⟩ (by decide +kernel)
set_option maxHeartbeats 4000000 in
set_option maxRecDepth 100000 in
theorem bJ0_length_8abf5_11 (E : mp_E) (si : Nat) (hsi : si < 14) : mp_Ct E yJ0_length_8abf5 cJ0_length_8abf5 1 (some FieldType.int) 1 0 0 20 [.ref (E.1.2.1 si)] [] (fun v w' => ∃ r1 : Int32, v = some (.int r1) ∧ 0 ≤ r1.toInt ∧ r1.toInt ≤ 7 ∧ (r1 = Int32.ofNat (mp_sl.getD si 0)) ∧ (r1.toInt = (mp_sl.getD si 0 : Int)) ∧ w' = []) := by
  refine mp_met false (by decide) (by decide) (Nat.le_of_ble_eq_true rfl) (fun X hF hQ => ?_)
  have hF : mp_F E X (RJ0, cJ0_length_8abf5, 1, (1, 0, 0, 20), (some FieldType.int), false) := hF
  show mp_W E X 1 0 [(0, .ref (E.1.2.1 si))] [] [] 0 0
  refine mp_run hF mp_tab0_ok [mp_i (.aload_n 0)] (by decide +kernel) ?_
  show mp_W E X 1 1 [(0, .ref (E.1.2.1 si))] [.ref (E.1.2.1 si)] [] 0 0
  refine mp_sval hF hsi (mp_gm (j := 9011) (by decide +kernel)) (by decide +kernel) ?_
  show mp_W E X 1 4 [(0, .ref (E.1.2.1 si))] [.ref (E.1.2.2 si)] [] 0 0
  refine mp_slen hF hsi (by decide +kernel) (fun z1 h2 l3 u4 => ?_)
  show mp_W E X 1 5 [(0, .ref (E.1.2.1 si))] [.int z1] [] 0 0
  refine mp_run hF mp_tab0_ok [mp_i (.aload_n 0)] (by decide +kernel) ?_
  show mp_W E X 1 6 [(0, .ref (E.1.2.1 si))] [.ref (E.1.2.1 si), .int z1] [] 0 0
  refine mp_callVS hF (As := []) (rest := [.int z1]) (wr := []) (bJ0_coder_7d493_10 E si hsi) mp_lkJ0_335 hsi [] [] rfl rfl rfl rfl rfl ⟨(Nat.le_of_ble_eq_true rfl), (Nat.le_of_ble_eq_true rfl), (Nat.le_of_ble_eq_true rfl), (Nat.le_of_ble_eq_true rfl)⟩ (Nat.le_of_ble_eq_true rfl) (by decide +kernel) (fun v5 w6 h7 => ?_)
  obtain ⟨rfl, rfl⟩ := h7
  show mp_W E X 1 9 [(0, .ref (E.1.2.1 si))] [.int 0, .int z1] [] 0 0
  refine mp_run hF mp_tab0_ok [mp_i .ishr] (by decide +kernel) ?_
  intro z8 h9
  have k11 : z8 = z1 := mp_shr0 h9
  have e12 : z8.toInt = z1.toInt := by rw [k11]
  have k13 := k11.trans h2
  show mp_W E X 1 10 [(0, .ref (E.1.2.1 si))] [.int z8] [] 0 0
  exact mp_iret hF hQ rfl rfl (Nat.le_of_ble_eq_true rfl) (Nat.le_of_ble_eq_true rfl) [] (w' := []) rfl rfl ⟨z8, rfl, (by omega), (by omega), k13, (by rw [k13]; exact (mp_slen_ok si hsi).2.2.1), rfl⟩ (by decide +kernel)
set_option maxHeartbeats 4000000 in
set_option maxRecDepth 100000 in
theorem bJ0_isLatin1_aae02_12 (E : mp_E) (si : Nat) (hsi : si < 14) : mp_Ct E yJ0_isLatin1_aae02 cJ0_isLatin1_aae02 1 (some FieldType.boolean) 0 0 0 0 [.ref (E.1.2.1 si)] [] (fun v w' => v = some (.int 1) ∧ w' = []) := by
  refine mp_met false (by decide) (by decide) (Nat.le_of_ble_eq_true rfl) (fun X hF hQ => ?_)
  have hF : mp_F E X (RJ0, cJ0_isLatin1_aae02, 1, (0, 0, 0, 0), (some FieldType.boolean), false) := hF
  show mp_W E X 1 0 [(0, .ref (E.1.2.1 si))] [] [] 0 0
  refine mp_scmp hF (idx := 38) (mp_gm (j := 2238) (by decide +kernel)) (by decide +kernel) ?_
  show mp_W E X 1 3 [(0, .ref (E.1.2.1 si))] [.int 1] [] 0 0
  refine mp_run hF mp_tab0_ok [mp_h (.ifCond .eq 14) [17]] (by decide +kernel) ?_
  refine And.intro (fun c1 => absurd c1 (by decide)) (fun _ => ?_)
  show mp_W E X 1 6 [(0, .ref (E.1.2.1 si))] [] [] 0 0
  refine mp_run hF mp_tab0_ok [mp_i (.aload_n 0)] (by decide +kernel) ?_
  show mp_W E X 1 7 [(0, .ref (E.1.2.1 si))] [.ref (E.1.2.1 si)] [] 0 0
  refine mp_scod hF hsi (mp_gm (j := 9012) (by decide +kernel)) (by decide +kernel) ?_
  show mp_W E X 1 10 [(0, .ref (E.1.2.1 si))] [.int 0] [] 0 0
  refine mp_run hF mp_tab0_ok [mp_h (.ifCond .ne 7) [17]] (by decide +kernel) ?_
  refine And.intro (fun c2 => absurd c2 (by decide)) (fun _ => ?_)
  show mp_W E X 1 13 [(0, .ref (E.1.2.1 si))] [] [] 0 0
  refine mp_run hF mp_tab0_ok [mp_c (.iconst 1) 1, mp_h (.goto 4) [18]] (by decide +kernel) ?_
  show mp_W E X 1 18 [(0, .ref (E.1.2.1 si))] [.int 1] [] 0 0
  exact mp_iret hF hQ rfl (by decide) (Nat.le_of_ble_eq_true rfl) (Nat.le_of_ble_eq_true rfl) [] (w' := []) rfl rfl ⟨rfl, rfl⟩ (by decide +kernel)
set_option maxHeartbeats 4000000 in
set_option maxRecDepth 100000 in
theorem bJ3_checkIndex_8e157_13 (E : mp_E) (x0 : Int32) (x1 : Int32) (l_x0 : 0 ≤ x0.toInt) (u_x0 : x0.toInt ≤ 6) (l_x1 : 0 ≤ x1.toInt) (u_x1 : x1.toInt ≤ 7) (q0 : x0.toInt < x1.toInt) : mp_Ct E yJ3_checkIndex_8e157 cJ3_checkIndex_8e157 3 (some FieldType.int) 0 0 0 0 [.int x0, .int x1, .null] [] (fun v w' => v = some (.int x0) ∧ w' = []) := by
  refine mp_met false (by decide) (by decide) (Nat.le_of_ble_eq_true rfl) (fun X hF hQ => ?_)
  have hF : mp_F E X (RJ3, cJ3_checkIndex_8e157, 3, (0, 0, 0, 0), (some FieldType.int), false) := hF
  show mp_W E X 3 0 [(0, .int x0), (1, .int x1), (2, .null)] [] [] 0 0
  refine mp_run hF mp_tab0_ok [mp_i (.iload_n 0), mp_h (.ifCond .lt 8) [9]] (by decide +kernel) ?_
  refine And.intro (fun c1 => ?_) (fun c1 => ?_)
  · have c1 : x0.toInt < 0 := c1
    exfalso; omega
  · have c1 : 0 ≤ x0.toInt := c1
    show mp_W E X 3 4 [(0, .int x0), (1, .int x1), (2, .null)] [] [] 0 0
    refine mp_run hF mp_tab0_ok [mp_i (.iload_n 0), mp_i (.iload_n 1), mp_h (.if_icmp .lt 10) [16]] (by decide +kernel) ?_
    refine And.intro (fun c2 => ?_) (fun c2 => ?_)
    · have c2 : x0.toInt < x1.toInt := c2
      show mp_W E X 3 16 [(0, .int x0), (1, .int x1), (2, .null)] [] [] 0 0
      refine mp_run hF mp_tab0_ok [mp_i (.iload_n 0)] (by decide +kernel) ?_
      show mp_W E X 3 17 [(0, .int x0), (1, .int x1), (2, .null)] [.int x0] [] 0 0
      exact mp_iret hF hQ rfl rfl (Nat.le_of_ble_eq_true rfl) (Nat.le_of_ble_eq_true rfl) [] (w' := []) rfl rfl ⟨rfl, rfl⟩ (by decide +kernel)
    · have c2 : x1.toInt ≤ x0.toInt := c2
      exfalso; omega
set_option maxHeartbeats 4000000 in
set_option maxRecDepth 100000 in
theorem bJ3_checkIndex_8e157_14 (E : mp_E) (a0 : Nat) (x0 : Int32) (x1 : Int32) (l_x0 : 0 ≤ x0.toInt) (u_x0 : x0.toInt ≤ 6) (l_x1 : 0 ≤ x1.toInt) (u_x1 : x1.toInt ≤ 7) (q0 : x0.toInt < x1.toInt) : mp_Ct E yJ3_checkIndex_8e157 cJ3_checkIndex_8e157 3 (some FieldType.int) 0 0 0 0 [.int x0, .int x1, .ref a0] [] (fun v w' => v = some (.int x0) ∧ w' = []) := by
  refine mp_met false (by decide) (by decide) (Nat.le_of_ble_eq_true rfl) (fun X hF hQ => ?_)
  have hF : mp_F E X (RJ3, cJ3_checkIndex_8e157, 3, (0, 0, 0, 0), (some FieldType.int), false) := hF
  show mp_W E X 3 0 [(0, .int x0), (1, .int x1), (2, .ref a0)] [] [] 0 0
  refine mp_run hF mp_tab0_ok [mp_i (.iload_n 0), mp_h (.ifCond .lt 8) [9]] (by decide +kernel) ?_
  refine And.intro (fun c1 => ?_) (fun c1 => ?_)
  · have c1 : x0.toInt < 0 := c1
    exfalso; omega
  · have c1 : 0 ≤ x0.toInt := c1
    show mp_W E X 3 4 [(0, .int x0), (1, .int x1), (2, .ref a0)] [] [] 0 0
    refine mp_run hF mp_tab0_ok [mp_i (.iload_n 0), mp_i (.iload_n 1), mp_h (.if_icmp .lt 10) [16]] (by decide +kernel) ?_
    refine And.intro (fun c2 => ?_) (fun c2 => ?_)
    · have c2 : x0.toInt < x1.toInt := c2
      show mp_W E X 3 16 [(0, .int x0), (1, .int x1), (2, .ref a0)] [] [] 0 0
      refine mp_run hF mp_tab0_ok [mp_i (.iload_n 0)] (by decide +kernel) ?_
      show mp_W E X 3 17 [(0, .int x0), (1, .int x1), (2, .ref a0)] [.int x0] [] 0 0
      exact mp_iret hF hQ rfl rfl (Nat.le_of_ble_eq_true rfl) (Nat.le_of_ble_eq_true rfl) [] (w' := []) rfl rfl ⟨rfl, rfl⟩ (by decide +kernel)
    · have c2 : x1.toInt ≤ x0.toInt := c2
      exfalso; omega
set_option maxHeartbeats 4000000 in
set_option maxRecDepth 100000 in
theorem bJ0_checkIndex_df160_15 (E : mp_E) (x0 : Int32) (x1 : Int32) (l_x0 : 0 ≤ x0.toInt) (u_x0 : x0.toInt ≤ 6) (l_x1 : 0 ≤ x1.toInt) (u_x1 : x1.toInt ≤ 7) (q0 : x0.toInt < x1.toInt) : mp_Ct E yJ0_checkIndex_df160 cJ0_checkIndex_df160 2 none 1 0 0 22 [.int x0, .int x1] [] (fun v w' => v = none ∧ w' = []) := by
  refine mp_met false (by decide) (by decide) (Nat.le_of_ble_eq_true rfl) (fun X hF hQ => ?_)
  have hF : mp_F E X (RJ0, cJ0_checkIndex_df160, 2, (1, 0, 0, 22), none, false) := hF
  show mp_W E X 2 0 [(0, .int x0), (1, .int x1)] [] [] 0 0
  refine mp_run hF mp_tab0_ok [mp_i (.iload_n 0), mp_i (.iload_n 1)] (by decide +kernel) ?_
  show mp_W E X 2 2 [(0, .int x0), (1, .int x1)] [.int x1, .int x0] [] 0 0
  refine mp_sfor hF (idx := 1053) (mp_gm (j := 3014) (by decide +kernel)) (by decide +kernel) ?_ (fun t1 => ?_)
  · skip
    show mp_W E X 2 5 [(0, .int x0), (1, .int x1)] [.null, .int x1, .int x0] [] 0 0
    refine mp_callS hF (As := [.int x0, .int x1, .null]) (rest := []) (wr := []) (bJ3_checkIndex_8e157_13 E x0 x1 l_x0 u_x0 l_x1 u_x1 q0) mp_lkJ0_1059 [] [] rfl rfl rfl rfl rfl ⟨(Nat.le_of_ble_eq_true rfl), (Nat.le_of_ble_eq_true rfl), (Nat.le_of_ble_eq_true rfl), (Nat.le_of_ble_eq_true rfl)⟩ (Nat.le_of_ble_eq_true rfl) (by decide +kernel) (fun v2 w3 h4 => ?_)
    obtain ⟨rfl, rfl⟩ := h4
    show mp_W E X 2 8 [(0, .int x0), (1, .int x1)] [.int x0] [] 0 0
    refine mp_run hF mp_tab0_ok [mp_i .pop] (by decide +kernel) ?_
    refine And.intro rfl ?_
    show mp_W E X 2 9 [(0, .int x0), (1, .int x1)] [] [] 0 0
    exact mp_vret hF hQ rfl (Nat.le_of_ble_eq_true rfl) (Nat.le_of_ble_eq_true rfl) [] (w' := []) rfl rfl ⟨rfl, rfl⟩ (by decide +kernel)
  · skip
    show mp_W E X 2 5 [(0, .int x0), (1, .int x1)] [.ref t1, .int x1, .int x0] [] 0 0
    refine mp_callS hF (As := [.int x0, .int x1, .ref t1]) (rest := []) (wr := []) (bJ3_checkIndex_8e157_14 E t1 x0 x1 l_x0 u_x0 l_x1 u_x1 q0) mp_lkJ0_1059 [] [] rfl rfl rfl rfl rfl ⟨(Nat.le_of_ble_eq_true rfl), (Nat.le_of_ble_eq_true rfl), (Nat.le_of_ble_eq_true rfl), (Nat.le_of_ble_eq_true rfl)⟩ (Nat.le_of_ble_eq_true rfl) (by decide +kernel) (fun v5 w6 h7 => ?_)
    obtain ⟨rfl, rfl⟩ := h7
    show mp_W E X 2 8 [(0, .int x0), (1, .int x1)] [.int x0] [] 0 0
    refine mp_run hF mp_tab0_ok [mp_i .pop] (by decide +kernel) ?_
    refine And.intro rfl ?_
    show mp_W E X 2 9 [(0, .int x0), (1, .int x1)] [] [] 0 0
    exact mp_vret hF hQ rfl (Nat.le_of_ble_eq_true rfl) (Nat.le_of_ble_eq_true rfl) [] (w' := []) rfl rfl ⟨rfl, rfl⟩ (by decide +kernel)
set_option maxHeartbeats 4000000 in
set_option maxRecDepth 100000 in
theorem bJ1_charAt_3b067_16 (E : mp_E) (si : Nat) (hsi : si < 14) (x0 : Int32) (l_x0 : 0 ≤ x0.toInt) (u_x0 : x0.toInt ≤ 6) (q0 : x0.toInt < (Int32.ofNat (mp_sl.getD si 0)).toInt) : mp_Ct E yJ1_charAt_3b067 cJ1_charAt_3b067 2 (some FieldType.char) 2 0 0 43 [.ref (E.1.2.2 si), .int x0] [] (fun v w' => ∃ r1 : Int32, v = some (.int r1) ∧ 0 ≤ r1.toInt ∧ r1.toInt ≤ 255 ∧ (r1 = (mp_sb.getD si []).getD x0.toNatClampNeg 0) ∧ w' = []) := by
  refine mp_met false (by decide) (by decide) (Nat.le_of_ble_eq_true rfl) (fun X hF hQ => ?_)
  have hF : mp_F E X (RJ1, cJ1_charAt_3b067, 2, (2, 0, 0, 43), (some FieldType.char), false) := hF
  show mp_W E X 2 0 [(0, .ref (E.1.2.2 si)), (1, .int x0)] [] [] 0 0
  refine mp_run hF mp_tab0_ok [mp_i (.iload_n 1), mp_i (.aload_n 0)] (by decide +kernel) ?_
  show mp_W E X 2 2 [(0, .ref (E.1.2.2 si)), (1, .int x0)] [.ref (E.1.2.2 si), .int x0] [] 0 0
  refine mp_slen hF hsi (by decide +kernel) (fun z1 h2 l3 u4 => ?_)
  show mp_W E X 2 3 [(0, .ref (E.1.2.2 si)), (1, .int x0)] [.int z1, .int x0] [] 0 0
  refine mp_callS hF (As := [.int x0, .int z1]) (rest := []) (wr := []) (bJ0_checkIndex_df160_15 E x0 z1 l_x0 u_x0 l3 u4 (by rw [h2]; exact q0)) mp_lkJ1_9 [] [] rfl rfl rfl rfl rfl ⟨(Nat.le_of_ble_eq_true rfl), (Nat.le_of_ble_eq_true rfl), (Nat.le_of_ble_eq_true rfl), (Nat.le_of_ble_eq_true rfl)⟩ (Nat.le_of_ble_eq_true rfl) (by decide +kernel) (fun v5 w6 h7 => ?_)
  obtain ⟨rfl, rfl⟩ := h7
  show mp_W E X 2 6 [(0, .ref (E.1.2.2 si)), (1, .int x0)] [] [] 0 0
  refine mp_run hF mp_tab0_ok [mp_i (.aload_n 0), mp_i (.iload_n 1)] (by decide +kernel) ?_
  show mp_W E X 2 8 [(0, .ref (E.1.2.2 si)), (1, .int x0)] [.int x0, .ref (E.1.2.2 si)] [] 0 0
  refine mp_sld hF hsi (by omega) (by omega) (by decide +kernel) (fun z8 h9 => ?_)
  show mp_W E X 2 9 [(0, .ref (E.1.2.2 si)), (1, .int x0)] [.int z8] [] 0 0
  refine mp_run hF mp_tab0_ok [mp_c (.sipush 255) 255, mp_i .iand] (by decide +kernel) ?_
  intro z10 h11
  show mp_W E X 2 13 [(0, .ref (E.1.2.2 si)), (1, .int x0)] [.int z10] [] 0 0
  refine mp_i2cS hF h9 h11 (by decide +kernel) (fun z13 h14 l15 u16 => ?_)
  show mp_W E X 2 14 [(0, .ref (E.1.2.2 si)), (1, .int x0)] [.int z13] [] 0 0
  exact mp_iret hF hQ rfl (mp_nar_c (by omega) (by omega)) (Nat.le_of_ble_eq_true rfl) (Nat.le_of_ble_eq_true rfl) [] (w' := []) rfl rfl ⟨z13, rfl, l15, u16, h14, rfl⟩ (by decide +kernel)
set_option maxHeartbeats 4000000 in
set_option maxRecDepth 100000 in
theorem bJ0_charAt_5068e_17 (E : mp_E) (si : Nat) (hsi : si < 14) (x0 : Int32) (l_x0 : 0 ≤ x0.toInt) (u_x0 : x0.toInt ≤ 6) (q0 : x0.toInt < (Int32.ofNat (mp_sl.getD si 0)).toInt) : mp_Ct E yJ0_charAt_5068e cJ0_charAt_5068e 2 (some FieldType.char) 3 0 0 64 [.ref (E.1.2.1 si), .int x0] [] (fun v w' => ∃ r1 : Int32, v = some (.int r1) ∧ 0 ≤ r1.toInt ∧ r1.toInt ≤ 255 ∧ (r1 = (mp_sb.getD si []).getD x0.toNatClampNeg 0) ∧ w' = []) := by
  refine mp_met false (by decide) (by decide) (Nat.le_of_ble_eq_true rfl) (fun X hF hQ => ?_)
  have hF : mp_F E X (RJ0, cJ0_charAt_5068e, 2, (3, 0, 0, 64), (some FieldType.char), false) := hF
  show mp_W E X 2 0 [(0, .ref (E.1.2.1 si)), (1, .int x0)] [] [] 0 0
  refine mp_run hF mp_tab0_ok [mp_i (.aload_n 0)] (by decide +kernel) ?_
  show mp_W E X 2 1 [(0, .ref (E.1.2.1 si)), (1, .int x0)] [.ref (E.1.2.1 si)] [] 0 0
  refine mp_callVS hF (As := []) (rest := []) (wr := []) (bJ0_isLatin1_aae02_12 E si hsi) mp_lkJ0_492 hsi [] [] rfl rfl rfl rfl rfl ⟨(Nat.le_of_ble_eq_true rfl), (Nat.le_of_ble_eq_true rfl), (Nat.le_of_ble_eq_true rfl), (Nat.le_of_ble_eq_true rfl)⟩ (Nat.le_of_ble_eq_true rfl) (by decide +kernel) (fun v1 w2 h3 => ?_)
  obtain ⟨rfl, rfl⟩ := h3
  show mp_W E X 2 4 [(0, .ref (E.1.2.1 si)), (1, .int x0)] [.int 1] [] 0 0
  refine mp_run hF mp_tab0_ok [mp_h (.ifCond .eq 12) [16]] (by decide +kernel) ?_
  refine And.intro (fun c4 => absurd c4 (by decide)) (fun _ => ?_)
  show mp_W E X 2 7 [(0, .ref (E.1.2.1 si)), (1, .int x0)] [] [] 0 0
  refine mp_run hF mp_tab0_ok [mp_i (.aload_n 0)] (by decide +kernel) ?_
  show mp_W E X 2 8 [(0, .ref (E.1.2.1 si)), (1, .int x0)] [.ref (E.1.2.1 si)] [] 0 0
  refine mp_sval hF hsi (mp_gm (j := 9011) (by decide +kernel)) (by decide +kernel) ?_
  show mp_W E X 2 11 [(0, .ref (E.1.2.1 si)), (1, .int x0)] [.ref (E.1.2.2 si)] [] 0 0
  refine mp_run hF mp_tab0_ok [mp_i (.iload_n 1)] (by decide +kernel) ?_
  show mp_W E X 2 12 [(0, .ref (E.1.2.1 si)), (1, .int x0)] [.int x0, .ref (E.1.2.2 si)] [] 0 0
  refine mp_callS hF (As := [.ref (E.1.2.2 si), .int x0]) (rest := []) (wr := []) (bJ1_charAt_3b067_16 E si hsi x0 l_x0 u_x0 q0) mp_lkJ0_495 [] [] rfl rfl rfl rfl rfl ⟨(Nat.le_of_ble_eq_true rfl), (Nat.le_of_ble_eq_true rfl), (Nat.le_of_ble_eq_true rfl), (Nat.le_of_ble_eq_true rfl)⟩ (Nat.le_of_ble_eq_true rfl) (by decide +kernel) (fun v5 w6 h7 => ?_)
  obtain ⟨r8, rfl, l9, u10, x11, rfl⟩ := h7
  show mp_W E X 2 15 [(0, .ref (E.1.2.1 si)), (1, .int x0)] [.int r8] [] 0 0
  exact mp_iret hF hQ rfl (mp_nar_c (by omega) (by omega)) (Nat.le_of_ble_eq_true rfl) (Nat.le_of_ble_eq_true rfl) [] (w' := []) rfl rfl ⟨r8, rfl, l9, u10, x11, rfl⟩ (by decide +kernel)
set_option maxHeartbeats 4000000 in
set_option maxRecDepth 100000 in
theorem bX3_isWord_18 (E : mp_E) (si : Nat) (hsi : si < 14) (a0 a1 a2 : Nat) (f0 : Nat → Int32) (y0 : Int32) (y1 : Int32) (y2 : Int32) (y3 : Int32) (y4 : Int32) (y5 : Int32) (y6 : Int32) (y7 : Int32) (l_y0 : 0 ≤ y0.toInt) (u_y0 : y0.toInt ≤ 1600) (l_y4 : 0 ≤ y4.toInt) (u_y4 : y4.toInt ≤ 1600) (l_y5 : 0 ≤ y5.toInt) (u_y5 : y5.toInt ≤ 1600) : mp_Ct E yX3_isWord cX3_isWord 3 (some FieldType.boolean) 4 0 0 85 [.ref a0, .ref (E.1.2.1 si)] [(a0, .inr (3, [.ref a1, .int y0, .ref a2, .int y1, .int y2, .int y3, .int y4, .int y5, .int y6, .int y7])), (a1, .inl (E.2.2 1, 1600, .inl f0))] (fun v w' => (v = some (.int 0) ∧ w' = [(a0, .inr (3, [.ref a1, .int y0, .ref a2, .int y1, .int y2, .int y3, .int y4, .int y5, .int y6, .int y7])), (a1, .inl (E.2.2 1, 1600, .inl f0))]) ∨ (v = some (.int 1) ∧ y3.toInt = 1 ∧ w' = [(a0, .inr (3, [.ref a1, .int y0, .ref a2, .int y1, .int y2, .int y3, .int y4, .int y5, .int y6, .int y7])), (a1, .inl (E.2.2 1, 1600, .inl f0))])) := by
  refine mp_met false (by decide) (by decide) (Nat.le_of_ble_eq_true rfl) (fun X hF hQ => ?_)
  have hF : mp_F E X (RX3, cX3_isWord, 3, (4, 0, 0, 85), (some FieldType.boolean), false) := hF
  show mp_W E X 3 0 [(0, .ref a0), (1, .ref (E.1.2.1 si))] [] [(a0, .inr (3, [.ref a1, .int y0, .ref a2, .int y1, .int y2, .int y3, .int y4, .int y5, .int y6, .int y7])), (a1, .inl (E.2.2 1, 1600, .inl f0))] 0 0
  refine mp_run hF mp_tabX3_ok [mp_i (.aload_n 0), mp_h (.getfield 41) [14, 0], mp_c (.iconst 1) 1, mp_h (.if_icmp .ne 19) [24]] (by decide +kernel) ?_
  refine And.intro rfl (And.intro rfl ?_)
  refine And.intro (fun c1 => ?_) (fun c1 => ?_)
  · have c1 : y3.toInt ≠ 1 := c1
    show mp_W E X 3 24 [(0, .ref a0), (1, .ref (E.1.2.1 si))] [] [(a0, .inr (3, [.ref a1, .int y0, .ref a2, .int y1, .int y2, .int y3, .int y4, .int y5, .int y6, .int y7])), (a1, .inl (E.2.2 1, 1600, .inl f0))] 0 0
    refine mp_run hF mp_tabX3_ok [mp_c (.iconst 0) 0] (by decide +kernel) ?_
    show mp_W E X 3 25 [(0, .ref a0), (1, .ref (E.1.2.1 si))] [.int 0] [(a0, .inr (3, [.ref a1, .int y0, .ref a2, .int y1, .int y2, .int y3, .int y4, .int y5, .int y6, .int y7])), (a1, .inl (E.2.2 1, 1600, .inl f0))] 0 0
    exact mp_iret hF hQ rfl (by decide) (Nat.le_of_ble_eq_true rfl) (Nat.le_of_ble_eq_true rfl) [0, 1] (w' := [(a0, .inr (3, [.ref a1, .int y0, .ref a2, .int y1, .int y2, .int y3, .int y4, .int y5, .int y6, .int y7])), (a1, .inl (E.2.2 1, 1600, .inl f0))]) rfl rfl (Or.inl ⟨rfl, rfl⟩) (by decide +kernel)
  · have c1 : y3.toInt = 1 := (congrArg Int32.toInt c1)
    show mp_W E X 3 8 [(0, .ref a0), (1, .ref (E.1.2.1 si))] [] [(a0, .inr (3, [.ref a1, .int y0, .ref a2, .int y1, .int y2, .int y3, .int y4, .int y5, .int y6, .int y7])), (a1, .inl (E.2.2 1, 1600, .inl f0))] 0 0
    refine mp_run hF mp_tabX3_ok [mp_i (.aload_n 0), mp_h (.getfield 35) [16, 0], mp_i (.aload_n 0), mp_h (.getfield 161) [15, 0], mp_i .isub, mp_i (.aload_n 1)] (by decide +kernel) ?_
    refine And.intro rfl (And.intro rfl ?_)
    refine And.intro rfl (And.intro rfl ?_)
    intro z2 h3
    have e4 : z2.toInt = y5.toInt - y4.toInt := mp_subi (a := y5.toInt) (b := y4.toInt) h3 rfl rfl (by omega) (by omega)
    show mp_W E X 3 18 [(0, .ref a0), (1, .ref (E.1.2.1 si))] [.ref (E.1.2.1 si), .int z2] [(a0, .inr (3, [.ref a1, .int y0, .ref a2, .int y1, .int y2, .int y3, .int y4, .int y5, .int y6, .int y7])), (a1, .inl (E.2.2 1, 1600, .inl f0))] 0 0
    refine mp_callVS hF (As := []) (rest := [.int z2]) (wr := [(a0, .inr (3, [.ref a1, .int y0, .ref a2, .int y1, .int y2, .int y3, .int y4, .int y5, .int y6, .int y7])), (a1, .inl (E.2.2 1, 1600, .inl f0))]) (bJ0_length_8abf5_11 E si hsi) mp_lkX3_164 hsi [] [0, 1] rfl rfl rfl rfl rfl ⟨(Nat.le_of_ble_eq_true rfl), (Nat.le_of_ble_eq_true rfl), (Nat.le_of_ble_eq_true rfl), (Nat.le_of_ble_eq_true rfl)⟩ (Nat.le_of_ble_eq_true rfl) (by decide +kernel) (fun v5 w6 h7 => ?_)
    obtain ⟨r8, rfl, l9, u10, x11, x12, rfl⟩ := h7
    show mp_W E X 3 21 [(0, .ref a0), (1, .ref (E.1.2.1 si))] [.int r8, .int z2] [(a0, .inr (3, [.ref a1, .int y0, .ref a2, .int y1, .int y2, .int y3, .int y4, .int y5, .int y6, .int y7])), (a1, .inl (E.2.2 1, 1600, .inl f0))] 0 0
    refine mp_run hF mp_tabX3_ok [mp_h (.if_icmp .eq 5) [26]] (by decide +kernel) ?_
    refine And.intro (fun c13 => ?_) (fun c13 => ?_)
    · have c13 : z2.toInt = r8.toInt := (congrArg Int32.toInt c13)
      show mp_W E X 3 26 [(0, .ref a0), (1, .ref (E.1.2.1 si))] [] [(a0, .inr (3, [.ref a1, .int y0, .ref a2, .int y1, .int y2, .int y3, .int y4, .int y5, .int y6, .int y7])), (a1, .inl (E.2.2 1, 1600, .inl f0))] 0 0
      refine mp_run hF mp_tabX3_ok [mp_c (.iconst 0) 0, mp_i (.istore_n 2)] (by decide +kernel) ?_
      show mp_W E X 3 28 [(2, .int 0), (0, .ref a0), (1, .ref (E.1.2.1 si))] [] [(a0, .inr (3, [.ref a1, .int y0, .ref a2, .int y1, .int y2, .int y3, .int y4, .int y5, .int y6, .int y7])), (a1, .inl (E.2.2 1, 1600, .inl f0))] 0 0
      have lp17 : ∀ (d18 : Nat) (i14 : Int32), 0 ≤ i14.toInt → i14.toInt ≤ 10 → r24.toInt - i14.toInt ≤ (d18 : Int) → mp_W E X 3 28 [(2, .int i14), (0, .ref a0), (1, .ref (E.1.2.1 si))] [] [(a0, .inr (3, [.ref a1, .int y0, .ref a2, .int y1, .int y2, .int y3, .int y4, .int y5, .int y6, .int y7])), (a1, .inl (E.2.2 1, 1600, .inl f0))] 0 0 := by
        intro d18
        induction d18 using Nat.strongRecOn with
        | ind d18 ih19 =>
          intro i14 l15 u16 hm20
          refine mp_run hF mp_tabX3_ok [mp_i (.iload_n 2), mp_i (.aload_n 1)] (by decide +kernel) ?_
          show mp_W E X 3 30 [(2, .int i14), (0, .ref a0), (1, .ref (E.1.2.1 si))] [.ref (E.1.2.1 si), .int i14] [(a0, .inr (3, [.ref a1, .int y0, .ref a2, .int y1, .int y2, .int y3, .int y4, .int y5, .int y6, .int y7])), (a1, .inl (E.2.2 1, 1600, .inl f0))] 0 0
          refine mp_callVS hF (As := []) (rest := [.int i14]) (wr := [(a0, .inr (3, [.ref a1, .int y0, .ref a2, .int y1, .int y2, .int y3, .int y4, .int y5, .int y6, .int y7])), (a1, .inl (E.2.2 1, 1600, .inl f0))]) (bJ0_length_8abf5_11 E si hsi) mp_lkX3_164 hsi [] [0, 1] rfl rfl rfl rfl rfl ⟨(Nat.le_of_ble_eq_true rfl), (Nat.le_of_ble_eq_true rfl), (Nat.le_of_ble_eq_true rfl), (Nat.le_of_ble_eq_true rfl)⟩ (Nat.le_of_ble_eq_true rfl) (by decide +kernel) (fun v21 w22 h23 => ?_)
          obtain ⟨r24, rfl, l25, u26, x27, x28, rfl⟩ := h23
          show mp_W E X 3 33 [(2, .int i14), (0, .ref a0), (1, .ref (E.1.2.1 si))] [.int r24, .int i14] [(a0, .inr (3, [.ref a1, .int y0, .ref a2, .int y1, .int y2, .int y3, .int y4, .int y5, .int y6, .int y7])), (a1, .inl (E.2.2 1, 1600, .inl f0))] 0 0
          refine mp_run hF mp_tabX3_ok [mp_h (.if_icmp .ge 30) [63]] (by decide +kernel) ?_
          refine And.intro (fun c29 => ?_) (fun c29 => ?_)
          · have c29 : r24.toInt ≤ i14.toInt := c29
            show mp_W E X 3 63 [(2, .int i14), (0, .ref a0), (1, .ref (E.1.2.1 si))] [] [(a0, .inr (3, [.ref a1, .int y0, .ref a2, .int y1, .int y2, .int y3, .int y4, .int y5, .int y6, .int y7])), (a1, .inl (E.2.2 1, 1600, .inl f0))] 0 0
            refine mp_run hF mp_tabX3_ok [mp_c (.iconst 1) 1] (by decide +kernel) ?_
            show mp_W E X 3 64 [(2, .int i14), (0, .ref a0), (1, .ref (E.1.2.1 si))] [.int 1] [(a0, .inr (3, [.ref a1, .int y0, .ref a2, .int y1, .int y2, .int y3, .int y4, .int y5, .int y6, .int y7])), (a1, .inl (E.2.2 1, 1600, .inl f0))] 0 0
            exact mp_iret hF hQ rfl (by decide) (Nat.le_of_ble_eq_true rfl) (Nat.le_of_ble_eq_true rfl) [0, 1] (w' := [(a0, .inr (3, [.ref a1, .int y0, .ref a2, .int y1, .int y2, .int y3, .int y4, .int y5, .int y6, .int y7])), (a1, .inl (E.2.2 1, 1600, .inl f0))]) rfl rfl (Or.inr ⟨rfl, (by first | omega | decide), rfl⟩) (by decide +kernel)
          · have c29 : i14.toInt < r24.toInt := c29
            show mp_W E X 3 36 [(2, .int i14), (0, .ref a0), (1, .ref (E.1.2.1 si))] [] [(a0, .inr (3, [.ref a1, .int y0, .ref a2, .int y1, .int y2, .int y3, .int y4, .int y5, .int y6, .int y7])), (a1, .inl (E.2.2 1, 1600, .inl f0))] 0 0
            refine mp_run hF mp_tabX3_ok [mp_i (.aload_n 0), mp_h (.getfield 9) [9, 0], mp_i (.aload_n 0), mp_h (.getfield 161) [15, 0], mp_i (.iload_n 2), mp_i .iadd, mp_h .baload [1], mp_i (.aload_n 1), mp_i (.iload_n 2)] (by decide +kernel) ?_
            refine And.intro rfl (And.intro rfl ?_)
            refine And.intro rfl (And.intro rfl ?_)
            intro z30 h31
            have e32 : z30.toInt = y4.toInt + i14.toInt := mp_add (a := y4.toInt) (b := i14.toInt) h31 rfl rfl (by omega) (by omega)
            refine And.intro rfl (And.intro rfl (And.intro (vp_in_iff.mpr (by omega)) ?_))
            intro z33 h34
            show mp_W E X 3 49 [(2, .int i14), (0, .ref a0), (1, .ref (E.1.2.1 si))] [.int i14, .ref (E.1.2.1 si), .int z33] [(a0, .inr (3, [.ref a1, .int y0, .ref a2, .int y1, .int y2, .int y3, .int y4, .int y5, .int y6, .int y7])), (a1, .inl (E.2.2 1, 1600, .inl f0))] 0 0
            refine mp_callVS hF (As := [.int i14]) (rest := [.int z33]) (wr := [(a0, .inr (3, [.ref a1, .int y0, .ref a2, .int y1, .int y2, .int y3, .int y4, .int y5, .int y6, .int y7])), (a1, .inl (E.2.2 1, 1600, .inl f0))]) (bJ0_charAt_5068e_17 E si hsi i14 l15 (by omega) (by rw [← x27]; omega)) mp_lkX3_169 hsi [] [0, 1] rfl rfl rfl rfl rfl ⟨(Nat.le_of_ble_eq_true rfl), (Nat.le_of_ble_eq_true rfl), (Nat.le_of_ble_eq_true rfl), (Nat.le_of_ble_eq_true rfl)⟩ (Nat.le_of_ble_eq_true rfl) (by decide +kernel) (fun v35 w36 h37 => ?_)
            obtain ⟨r38, rfl, l39, u40, x41, rfl⟩ := h37
            show mp_W E X 3 52 [(2, .int i14), (0, .ref a0), (1, .ref (E.1.2.1 si))] [.int r38, .int z33] [(a0, .inr (3, [.ref a1, .int y0, .ref a2, .int y1, .int y2, .int y3, .int y4, .int y5, .int y6, .int y7])), (a1, .inl (E.2.2 1, 1600, .inl f0))] 0 0
            refine mp_run hF mp_tabX3_ok [mp_h (.if_icmp .eq 5) [57]] (by decide +kernel) ?_
            refine And.intro (fun c42 => ?_) (fun c42 => ?_)
            · have c42 : z33.toInt = r38.toInt := (congrArg Int32.toInt c42)
              show mp_W E X 3 57 [(2, .int i14), (0, .ref a0), (1, .ref (E.1.2.1 si))] [] [(a0, .inr (3, [.ref a1, .int y0, .ref a2, .int y1, .int y2, .int y3, .int y4, .int y5, .int y6, .int y7])), (a1, .inl (E.2.2 1, 1600, .inl f0))] 0 0
              refine mp_run hF mp_tabX3_ok [mp_c (.iinc 2 1) 1, mp_h (.goto (-32)) [28]] (by decide +kernel) ?_
              intro z43 h44
              have e45 : z43.toInt = i14.toInt + 1 := mp_add (a := i14.toInt) (b := 1) h44 rfl (by decide) (by omega) (by omega)
              show mp_W E X 3 28 [(2, .int z43), (0, .ref a0), (1, .ref (E.1.2.1 si))] [] [(a0, .inr (3, [.ref a1, .int y0, .ref a2, .int y1, .int y2, .int y3, .int y4, .int y5, .int y6, .int y7])), (a1, .inl (E.2.2 1, 1600, .inl f0))] 0 0
              exact mp_sub [0, 1, 2] rfl [0, 1] rfl rfl (ih19 (d18 - 1) (by omega) z43 (by omega) (by omega) (by omega))
            · have c42 : z33.toInt ≠ r38.toInt := c42
              show mp_W E X 3 55 [(2, .int i14), (0, .ref a0), (1, .ref (E.1.2.1 si))] [] [(a0, .inr (3, [.ref a1, .int y0, .ref a2, .int y1, .int y2, .int y3, .int y4, .int y5, .int y6, .int y7])), (a1, .inl (E.2.2 1, 1600, .inl f0))] 0 0
              refine mp_run hF mp_tabX3_ok [mp_c (.iconst 0) 0] (by decide +kernel) ?_
              show mp_W E X 3 56 [(2, .int i14), (0, .ref a0), (1, .ref (E.1.2.1 si))] [.int 0] [(a0, .inr (3, [.ref a1, .int y0, .ref a2, .int y1, .int y2, .int y3, .int y4, .int y5, .int y6, .int y7])), (a1, .inl (E.2.2 1, 1600, .inl f0))] 0 0
              exact mp_iret hF hQ rfl (by decide) (Nat.le_of_ble_eq_true rfl) (Nat.le_of_ble_eq_true rfl) [0, 1] (w' := [(a0, .inr (3, [.ref a1, .int y0, .ref a2, .int y1, .int y2, .int y3, .int y4, .int y5, .int y6, .int y7])), (a1, .inl (E.2.2 1, 1600, .inl f0))]) rfl rfl (Or.inl ⟨rfl, rfl⟩) (by decide +kernel)
      exact mp_sub [0, 1, 2] rfl [0, 1] rfl rfl (lp17 _ 0 (by decide) (by decide) (Int.self_le_toNat _))
    · have c13 : z2.toInt ≠ r8.toInt := c13
      show mp_W E X 3 24 [(0, .ref a0), (1, .ref (E.1.2.1 si))] [] [(a0, .inr (3, [.ref a1, .int y0, .ref a2, .int y1, .int y2, .int y3, .int y4, .int y5, .int y6, .int y7])), (a1, .inl (E.2.2 1, 1600, .inl f0))] 0 0
      refine mp_run hF mp_tabX3_ok [mp_c (.iconst 0) 0] (by decide +kernel) ?_
      show mp_W E X 3 25 [(0, .ref a0), (1, .ref (E.1.2.1 si))] [.int 0] [(a0, .inr (3, [.ref a1, .int y0, .ref a2, .int y1, .int y2, .int y3, .int y4, .int y5, .int y6, .int y7])), (a1, .inl (E.2.2 1, 1600, .inl f0))] 0 0
      exact mp_iret hF hQ rfl (by decide) (Nat.le_of_ble_eq_true rfl) (Nat.le_of_ble_eq_true rfl) [0, 1] (w' := [(a0, .inr (3, [.ref a1, .int y0, .ref a2, .int y1, .int y2, .int y3, .int y4, .int y5, .int y6, .int y7])), (a1, .inl (E.2.2 1, 1600, .inl f0))]) rfl rfl (Or.inl ⟨rfl, rfl⟩) (by decide +kernel)
set_option maxHeartbeats 4000000 in
set_option maxRecDepth 100000 in
theorem bX3_fail_19 (E : mp_E) (a0 a1 a2 : Nat) (y0 : Int32) (y1 : Int32) (y2 : Int32) (y3 : Int32) (y4 : Int32) (y5 : Int32) (y6 : Int32) (y7 : Int32) (x0 : Int32) (l_y0 : 0 ≤ y0.toInt) (u_y0 : y0.toInt ≤ 1600) (l_y4 : 0 ≤ y4.toInt) (u_y4 : y4.toInt ≤ 1600) (l_y5 : 0 ≤ y5.toInt) (u_y5 : y5.toInt ≤ 1600) : mp_Ct E yX3_fail cX3_fail 2 (some FieldType.boolean) 0 0 0 0 [.ref a0, .int x0] [(a0, .inr (3, [.ref a1, .int y0, .ref a2, .int y1, .int y2, .int y3, .int y4, .int y5, .int y6, .int y7]))] (fun v w' => v = some (.int 0) ∧ w' = [(a0, .inr (3, [.ref a1, .int y0, .ref a2, .int x0, .int y4, .int y3, .int y4, .int y5, .int y6, .int y7]))]) := by
  refine mp_met false (by decide) (by decide) (Nat.le_of_ble_eq_true rfl) (fun X hF hQ => ?_)
  have hF : mp_F E X (RX3, cX3_fail, 2, (0, 0, 0, 0), (some FieldType.boolean), false) := hF
  show mp_W E X 2 0 [(0, .ref a0), (1, .int x0)] [] [(a0, .inr (3, [.ref a1, .int y0, .ref a2, .int y1, .int y2, .int y3, .int y4, .int y5, .int y6, .int y7]))] 0 0
  refine mp_run hF mp_tabX3_ok [mp_i (.aload_n 0), mp_i (.iload_n 1), mp_h (.putfield 32) [12, 0]] (by decide +kernel) ?_
  refine And.intro rfl (And.intro rfl (And.intro rfl (And.intro rfl (And.intro (Nat.le_of_ble_eq_true rfl) ?_))))
  show mp_W E X 2 5 [(0, .ref a0), (1, .int x0)] [] [(a0, .inr (3, [.ref a1, .int y0, .ref a2, .int x0, .int y2, .int y3, .int y4, .int y5, .int y6, .int y7]))] 0 0
  refine mp_run hF mp_tabX3_ok [mp_i (.aload_n 0), mp_i (.aload_n 0), mp_h (.getfield 161) [15, 0], mp_h (.putfield 22) [13, 0]] (by decide +kernel) ?_
  refine And.intro rfl (And.intro rfl ?_)
  refine And.intro rfl (And.intro rfl (And.intro rfl (And.intro rfl (And.intro (Nat.le_of_ble_eq_true rfl) ?_))))
  show mp_W E X 2 13 [(0, .ref a0), (1, .int x0)] [] [(a0, .inr (3, [.ref a1, .int y0, .ref a2, .int x0, .int y4, .int y3, .int y4, .int y5, .int y6, .int y7]))] 0 0
  refine mp_run hF mp_tabX3_ok [mp_c (.iconst 0) 0] (by decide +kernel) ?_
  show mp_W E X 2 14 [(0, .ref a0), (1, .int x0)] [.int 0] [(a0, .inr (3, [.ref a1, .int y0, .ref a2, .int x0, .int y4, .int y3, .int y4, .int y5, .int y6, .int y7]))] 0 0
  exact mp_iret hF hQ rfl (by decide) (Nat.le_of_ble_eq_true rfl) (Nat.le_of_ble_eq_true rfl) [0] (w' := [(a0, .inr (3, [.ref a1, .int y0, .ref a2, .int x0, .int y4, .int y3, .int y4, .int y5, .int y6, .int y7]))]) rfl rfl ⟨rfl, rfl⟩ (by decide +kernel)
set_option maxHeartbeats 4000000 in
set_option maxRecDepth 100000 in
theorem bX3_takeWord_20 (E : mp_E) (si : Nat) (hsi : si < 14) (a0 a1 a2 : Nat) (f0 : Nat → Int32) (y0 : Int32) (y1 : Int32) (y2 : Int32) (y3 : Int32) (y4 : Int32) (y5 : Int32) (y6 : Int32) (y7 : Int32) (l_y0 : 0 ≤ y0.toInt) (u_y0 : y0.toInt ≤ 1600) (l_y4 : 0 ≤ y4.toInt) (u_y4 : y4.toInt ≤ 1600) (l_y5 : 0 ≤ y5.toInt) (u_y5 : y5.toInt ≤ 1600) : mp_Ct E yX3_takeWord cX3_takeWord 2 (some FieldType.boolean) 5 0 0 107 [.ref a0, .ref (E.1.2.1 si)] [(a0, .inr (3, [.ref a1, .int y0, .ref a2, .int y1, .int y2, .int y3, .int y4, .int y5, .int y6, .int y7])), (a1, .inl (E.2.2 1, 1600, .inl f0))] (fun v w' => (v = some (.int 0) ∧ w' = [(a0, .inr (3, [.ref a1, .int y0, .ref a2, .int 1, .int y4, .int y3, .int y4, .int y5, .int y6, .int y7])), (a1, .inl (E.2.2 1, 1600, .inl f0))]) ∨ (∃ r1 : Int32, ∃ r2 : Int32, ∃ r3 : Int32, ∃ r4 : Int32, v = some (.int 1) ∧ y3.toInt = 1 ∧ 0 ≤ r1.toInt ∧ r1.toInt ≤ 4 ∧ 0 ≤ r2.toInt ∧ r2.toInt ≤ 1600 ∧ 0 ≤ r3.toInt ∧ r3.toInt ≤ 1600 ∧ w' = [(a0, .inr (3, [.ref a1, .int y0, .ref a2, .int y1, .int y2, .int r1, .int r2, .int r3, .int r4, .int y7])), (a1, .inl (E.2.2 1, 1600, .inl f0))])) := by
  refine mp_met false (by decide) (by decide) (Nat.le_of_ble_eq_true rfl) (fun X hF hQ => ?_)
  have hF : mp_F E X (RX3, cX3_takeWord, 2, (5, 0, 0, 107), (some FieldType.boolean), false) := hF
  show mp_W E X 2 0 [(0, .ref a0), (1, .ref (E.1.2.1 si))] [] [(a0, .inr (3, [.ref a1, .int y0, .ref a2, .int y1, .int y2, .int y3, .int y4, .int y5, .int y6, .int y7])), (a1, .inl (E.2.2 1, 1600, .inl f0))] 0 0
  refine mp_run hF mp_tabX3_ok [mp_i (.aload_n 0), mp_i (.aload_n 1)] (by decide +kernel) ?_
  show mp_W E X 2 2 [(0, .ref a0), (1, .ref (E.1.2.1 si))] [.ref (E.1.2.1 si), .ref a0] [(a0, .inr (3, [.ref a1, .int y0, .ref a2, .int y1, .int y2, .int y3, .int y4, .int y5, .int y6, .int y7])), (a1, .inl (E.2.2 1, 1600, .inl f0))] 0 0
  refine mp_callV hF (As := [.ref (E.1.2.1 si)]) (rest := []) (wr := []) (bX3_isWord_18 E si hsi a0 a1 a2 f0 y0 y1 y2 y3 y4 y5 y6 y7 l_y0 u_y0 l_y4 u_y4 l_y5 u_y5) mp_lkX3_56 0 rfl [0, 1] [] rfl rfl rfl rfl rfl ⟨(Nat.le_of_ble_eq_true rfl), (Nat.le_of_ble_eq_true rfl), (Nat.le_of_ble_eq_true rfl), (Nat.le_of_ble_eq_true rfl)⟩ (Nat.le_of_ble_eq_true rfl) (by decide +kernel) (fun v1 w2 h3 => ?_)
  rcases h3 with ⟨rfl, rfl⟩ | ⟨rfl, c4, rfl⟩
  · skip
    show mp_W E X 2 5 [(0, .ref a0), (1, .ref (E.1.2.1 si))] [.int 0] [(a0, .inr (3, [.ref a1, .int y0, .ref a2, .int y1, .int y2, .int y3, .int y4, .int y5, .int y6, .int y7])), (a1, .inl (E.2.2 1, 1600, .inl f0))] 0 0
    refine mp_run hF mp_tabX3_ok [mp_h (.ifCond .ne 9) [14]] (by decide +kernel) ?_
    refine And.intro (fun c5 => absurd c5 (by decide)) (fun _ => ?_)
    show mp_W E X 2 8 [(0, .ref a0), (1, .ref (E.1.2.1 si))] [] [(a0, .inr (3, [.ref a1, .int y0, .ref a2, .int y1, .int y2, .int y3, .int y4, .int y5, .int y6, .int y7])), (a1, .inl (E.2.2 1, 1600, .inl f0))] 0 0
    refine mp_run hF mp_tabX3_ok [mp_i (.aload_n 0), mp_c (.iconst 1) 1] (by decide +kernel) ?_
    show mp_W E X 2 10 [(0, .ref a0), (1, .ref (E.1.2.1 si))] [.int 1, .ref a0] [(a0, .inr (3, [.ref a1, .int y0, .ref a2, .int y1, .int y2, .int y3, .int y4, .int y5, .int y6, .int y7])), (a1, .inl (E.2.2 1, 1600, .inl f0))] 0 0
    refine mp_callV hF (As := [.int 1]) (rest := []) (wr := [(a1, .inl (E.2.2 1, 1600, .inl f0))]) (bX3_fail_19 E a0 a1 a2 y0 y1 y2 y3 y4 y5 y6 y7 1 l_y0 u_y0 l_y4 u_y4 l_y5 u_y5) mp_lkX3_60 0 rfl [0] [1] rfl rfl rfl rfl rfl ⟨(Nat.le_of_ble_eq_true rfl), (Nat.le_of_ble_eq_true rfl), (Nat.le_of_ble_eq_true rfl), (Nat.le_of_ble_eq_true rfl)⟩ (Nat.le_of_ble_eq_true rfl) (by decide +kernel) (fun v6 w7 h8 => ?_)
    obtain ⟨rfl, rfl⟩ := h8
    show mp_W E X 2 13 [(0, .ref a0), (1, .ref (E.1.2.1 si))] [.int 0] [(a1, .inl (E.2.2 1, 1600, .inl f0)), (a0, .inr (3, [.ref a1, .int y0, .ref a2, .int 1, .int y4, .int y3, .int y4, .int y5, .int y6, .int y7]))] 0 0
    exact mp_iret hF hQ rfl (by decide) (Nat.le_of_ble_eq_true rfl) (Nat.le_of_ble_eq_true rfl) [1, 0] (w' := [(a0, .inr (3, [.ref a1, .int y0, .ref a2, .int 1, .int y4, .int y3, .int y4, .int y5, .int y6, .int y7])), (a1, .inl (E.2.2 1, 1600, .inl f0))]) rfl rfl (Or.inl ⟨rfl, rfl⟩) (by decide +kernel)
  · skip
    have c4 : y3.toInt = 1 := c4
    show mp_W E X 2 5 [(0, .ref a0), (1, .ref (E.1.2.1 si))] [.int 1] [(a0, .inr (3, [.ref a1, .int y0, .ref a2, .int y1, .int y2, .int y3, .int y4, .int y5, .int y6, .int y7])), (a1, .inl (E.2.2 1, 1600, .inl f0))] 0 0
    refine mp_run hF mp_tabX3_ok [mp_h (.ifCond .ne 9) [14]] (by decide +kernel) ?_
    refine And.intro (fun _ => ?_) (fun c9 => absurd c9 (by decide))
    show mp_W E X 2 14 [(0, .ref a0), (1, .ref (E.1.2.1 si))] [] [(a0, .inr (3, [.ref a1, .int y0, .ref a2, .int y1, .int y2, .int y3, .int y4, .int y5, .int y6, .int y7])), (a1, .inl (E.2.2 1, 1600, .inl f0))] 0 0
    refine mp_run hF mp_tabX3_ok [mp_i (.aload_n 0)] (by decide +kernel) ?_
    show mp_W E X 2 15 [(0, .ref a0), (1, .ref (E.1.2.1 si))] [.ref a0] [(a0, .inr (3, [.ref a1, .int y0, .ref a2, .int y1, .int y2, .int y3, .int y4, .int y5, .int y6, .int y7])), (a1, .inl (E.2.2 1, 1600, .inl f0))] 0 0
    refine mp_callV hF (As := []) (rest := []) (wr := []) (bX3_step_9 E a0 a1 a2 f0 y0 y1 y2 y3 y4 y5 y6 y7 l_y0 u_y0 l_y4 u_y4 l_y5 u_y5) mp_lkX3_38 0 rfl [0, 1] [] rfl rfl rfl rfl rfl ⟨(Nat.le_of_ble_eq_true rfl), (Nat.le_of_ble_eq_true rfl), (Nat.le_of_ble_eq_true rfl), (Nat.le_of_ble_eq_true rfl)⟩ (Nat.le_of_ble_eq_true rfl) (by decide +kernel) (fun v10 w11 h12 => ?_)
    obtain ⟨r13, r14, r15, r16, rfl, l17, u18, l19, u20, l21, u22, rfl⟩ := h12
    show mp_W E X 2 18 [(0, .ref a0), (1, .ref (E.1.2.1 si))] [] [(a0, .inr (3, [.ref a1, .int y0, .ref a2, .int y1, .int y2, .int r13, .int r14, .int r15, .int r16, .int y7])), (a1, .inl (E.2.2 1, 1600, .inl f0))] 0 0
    refine mp_run hF mp_tabX3_ok [mp_c (.iconst 1) 1] (by decide +kernel) ?_
    show mp_W E X 2 19 [(0, .ref a0), (1, .ref (E.1.2.1 si))] [.int 1] [(a0, .inr (3, [.ref a1, .int y0, .ref a2, .int y1, .int y2, .int r13, .int r14, .int r15, .int r16, .int y7])), (a1, .inl (E.2.2 1, 1600, .inl f0))] 0 0
    exact mp_iret hF hQ rfl (by decide) (Nat.le_of_ble_eq_true rfl) (Nat.le_of_ble_eq_true rfl) [0, 1] (w' := [(a0, .inr (3, [.ref a1, .int y0, .ref a2, .int y1, .int y2, .int r13, .int r14, .int r15, .int r16, .int y7])), (a1, .inl (E.2.2 1, 1600, .inl f0))]) rfl rfl (Or.inr ⟨r13, r14, r15, r16, rfl, (by first | omega | decide), l17, u18, l19, u20, l21, u22, rfl⟩) (by decide +kernel)
set_option maxHeartbeats 4000000 in
set_option maxRecDepth 100000 in
theorem bX3_takeNumber_21 (E : mp_E) (a0 a1 a2 : Nat) (f0 : Nat → Int32) (y0 : Int32) (y1 : Int32) (y2 : Int32) (y3 : Int32) (y4 : Int32) (y5 : Int32) (y6 : Int32) (y7 : Int32) (x0 : Int32) (x1 : Int32) (l_x0 : (-1) ≤ x0.toInt) (u_x0 : x0.toInt ≤ 5) (l_y0 : 0 ≤ y0.toInt) (u_y0 : y0.toInt ≤ 1600) (l_y4 : 0 ≤ y4.toInt) (u_y4 : y4.toInt ≤ 1600) (l_y5 : 0 ≤ y5.toInt) (u_y5 : y5.toInt ≤ 1600) : mp_Ct E yX3_takeNumber cX3_takeNumber 4 (some FieldType.boolean) 2 0 0 41 [.ref a0, .int 0, .int x0, .int x1] [(a0, .inr (3, [.ref a1, .int y0, .ref a2, .int y1, .int y2, .int y3, .int y4, .int y5, .int y6, .int y7])), (a1, .inl (E.2.2 1, 1600, .inl f0))] (fun v w' => (∃ r1 : Int32, v = some (.int 0) ∧ 1 ≤ r1.toInt ∧ r1.toInt ≤ 2 ∧ w' = [(a0, .inr (3, [.ref a1, .int y0, .ref a2, .int r1, .int y4, .int y3, .int y4, .int y5, .int y6, .int y7])), (a1, .inl (E.2.2 1, 1600, .inl f0))]) ∨ (∃ r1 : Int32, ∃ r2 : Int32, ∃ r3 : Int32, ∃ r4 : Int32, v = some (.int 1) ∧ y3.toInt = 2 ∧ 0 ≤ y6.toInt ∧ y6.toInt ≤ x0.toInt ∧ y6.toInt ≠ x1.toInt ∧ 0 ≤ r1.toInt ∧ r1.toInt ≤ 4 ∧ 0 ≤ r2.toInt ∧ r2.toInt ≤ 1600 ∧ 0 ≤ r3.toInt ∧ r3.toInt ≤ 1600 ∧ w' = [(a0, .inr (3, [.ref a1, .int y0, .ref a2, .int y1, .int y2, .int r1, .int r2, .int r3, .int r4, .int y6])), (a1, .inl (E.2.2 1, 1600, .inl f0))])) := by
  refine mp_met false (by decide) (by decide) (Nat.le_of_ble_eq_true rfl) (fun X hF hQ => ?_)
  have hF : mp_F E X (RX3, cX3_takeNumber, 4, (2, 0, 0, 41), (some FieldType.boolean), false) := hF
  show mp_W E X 4 0 [(0, .ref a0), (1, .int 0), (2, .int x0), (3, .int x1)] [] [(a0, .inr (3, [.ref a1, .int y0, .ref a2, .int y1, .int y2, .int y3, .int y4, .int y5, .int y6, .int y7])), (a1, .inl (E.2.2 1, 1600, .inl f0))] 0 0
  refine mp_run hF mp_tabX3_ok [mp_i (.aload_n 0), mp_h (.getfield 41) [14, 0], mp_c (.iconst 2) 2, mp_h (.if_icmp .eq 9) [14]] (by decide +kernel) ?_
  refine And.intro rfl (And.intro rfl ?_)
  refine And.intro (fun c1 => ?_) (fun c1 => ?_)
  · have c1 : y3.toInt = 2 := (congrArg Int32.toInt c1)
    show mp_W E X 4 14 [(0, .ref a0), (1, .int 0), (2, .int x0), (3, .int x1)] [] [(a0, .inr (3, [.ref a1, .int y0, .ref a2, .int y1, .int y2, .int y3, .int y4, .int y5, .int y6, .int y7])), (a1, .inl (E.2.2 1, 1600, .inl f0))] 0 0
    refine mp_run hF mp_tabX3_ok [mp_i (.aload_n 0), mp_h (.getfield 158) [17, 0], mp_i (.iload_n 1), mp_h (.if_icmp .lt 19) [38]] (by decide +kernel) ?_
    refine And.intro rfl (And.intro rfl ?_)
    refine And.intro (fun c2 => ?_) (fun c2 => ?_)
    · have c2 : y6.toInt < 0 := c2
      show mp_W E X 4 38 [(0, .ref a0), (1, .int 0), (2, .int x0), (3, .int x1)] [] [(a0, .inr (3, [.ref a1, .int y0, .ref a2, .int y1, .int y2, .int y3, .int y4, .int y5, .int y6, .int y7])), (a1, .inl (E.2.2 1, 1600, .inl f0))] 0 0
      refine mp_run hF mp_tabX3_ok [mp_i (.aload_n 0), mp_c (.iconst 2) 2] (by decide +kernel) ?_
      show mp_W E X 4 40 [(0, .ref a0), (1, .int 0), (2, .int x0), (3, .int x1)] [.int 2, .ref a0] [(a0, .inr (3, [.ref a1, .int y0, .ref a2, .int y1, .int y2, .int y3, .int y4, .int y5, .int y6, .int y7])), (a1, .inl (E.2.2 1, 1600, .inl f0))] 0 0
      refine mp_callV hF (As := [.int 2]) (rest := []) (wr := [(a1, .inl (E.2.2 1, 1600, .inl f0))]) (bX3_fail_19 E a0 a1 a2 y0 y1 y2 y3 y4 y5 y6 y7 2 l_y0 u_y0 l_y4 u_y4 l_y5 u_y5) mp_lkX3_60 0 rfl [0] [1] rfl rfl rfl rfl rfl ⟨(Nat.le_of_ble_eq_true rfl), (Nat.le_of_ble_eq_true rfl), (Nat.le_of_ble_eq_true rfl), (Nat.le_of_ble_eq_true rfl)⟩ (Nat.le_of_ble_eq_true rfl) (by decide +kernel) (fun v3 w4 h5 => ?_)
      obtain ⟨rfl, rfl⟩ := h5
      show mp_W E X 4 43 [(0, .ref a0), (1, .int 0), (2, .int x0), (3, .int x1)] [.int 0] [(a1, .inl (E.2.2 1, 1600, .inl f0)), (a0, .inr (3, [.ref a1, .int y0, .ref a2, .int 2, .int y4, .int y3, .int y4, .int y5, .int y6, .int y7]))] 0 0
      exact mp_iret hF hQ rfl (by decide) (Nat.le_of_ble_eq_true rfl) (Nat.le_of_ble_eq_true rfl) [1, 0] (w' := [(a0, .inr (3, [.ref a1, .int y0, .ref a2, .int 2, .int y4, .int y3, .int y4, .int y5, .int y6, .int y7])), (a1, .inl (E.2.2 1, 1600, .inl f0))]) rfl rfl (Or.inl ⟨2, rfl, (by decide), (by decide), rfl⟩) (by decide +kernel)
    · have c2 : 0 ≤ y6.toInt := c2
      show mp_W E X 4 22 [(0, .ref a0), (1, .int 0), (2, .int x0), (3, .int x1)] [] [(a0, .inr (3, [.ref a1, .int y0, .ref a2, .int y1, .int y2, .int y3, .int y4, .int y5, .int y6, .int y7])), (a1, .inl (E.2.2 1, 1600, .inl f0))] 0 0
      refine mp_run hF mp_tabX3_ok [mp_i (.aload_n 0), mp_h (.getfield 158) [17, 0], mp_i (.iload_n 2), mp_h (.if_icmp .gt 11) [38]] (by decide +kernel) ?_
      refine And.intro rfl (And.intro rfl ?_)
      refine And.intro (fun c6 => ?_) (fun c6 => ?_)
      · have c6 : x0.toInt < y6.toInt := c6
        show mp_W E X 4 38 [(0, .ref a0), (1, .int 0), (2, .int x0), (3, .int x1)] [] [(a0, .inr (3, [.ref a1, .int y0, .ref a2, .int y1, .int y2, .int y3, .int y4, .int y5, .int y6, .int y7])), (a1, .inl (E.2.2 1, 1600, .inl f0))] 0 0
        refine mp_run hF mp_tabX3_ok [mp_i (.aload_n 0), mp_c (.iconst 2) 2] (by decide +kernel) ?_
        show mp_W E X 4 40 [(0, .ref a0), (1, .int 0), (2, .int x0), (3, .int x1)] [.int 2, .ref a0] [(a0, .inr (3, [.ref a1, .int y0, .ref a2, .int y1, .int y2, .int y3, .int y4, .int y5, .int y6, .int y7])), (a1, .inl (E.2.2 1, 1600, .inl f0))] 0 0
        refine mp_callV hF (As := [.int 2]) (rest := []) (wr := [(a1, .inl (E.2.2 1, 1600, .inl f0))]) (bX3_fail_19 E a0 a1 a2 y0 y1 y2 y3 y4 y5 y6 y7 2 l_y0 u_y0 l_y4 u_y4 l_y5 u_y5) mp_lkX3_60 0 rfl [0] [1] rfl rfl rfl rfl rfl ⟨(Nat.le_of_ble_eq_true rfl), (Nat.le_of_ble_eq_true rfl), (Nat.le_of_ble_eq_true rfl), (Nat.le_of_ble_eq_true rfl)⟩ (Nat.le_of_ble_eq_true rfl) (by decide +kernel) (fun v7 w8 h9 => ?_)
        obtain ⟨rfl, rfl⟩ := h9
        show mp_W E X 4 43 [(0, .ref a0), (1, .int 0), (2, .int x0), (3, .int x1)] [.int 0] [(a1, .inl (E.2.2 1, 1600, .inl f0)), (a0, .inr (3, [.ref a1, .int y0, .ref a2, .int 2, .int y4, .int y3, .int y4, .int y5, .int y6, .int y7]))] 0 0
        exact mp_iret hF hQ rfl (by decide) (Nat.le_of_ble_eq_true rfl) (Nat.le_of_ble_eq_true rfl) [1, 0] (w' := [(a0, .inr (3, [.ref a1, .int y0, .ref a2, .int 2, .int y4, .int y3, .int y4, .int y5, .int y6, .int y7])), (a1, .inl (E.2.2 1, 1600, .inl f0))]) rfl rfl (Or.inl ⟨2, rfl, (by decide), (by decide), rfl⟩) (by decide +kernel)
      · have c6 : y6.toInt ≤ x0.toInt := c6
        show mp_W E X 4 30 [(0, .ref a0), (1, .int 0), (2, .int x0), (3, .int x1)] [] [(a0, .inr (3, [.ref a1, .int y0, .ref a2, .int y1, .int y2, .int y3, .int y4, .int y5, .int y6, .int y7])), (a1, .inl (E.2.2 1, 1600, .inl f0))] 0 0
        refine mp_run hF mp_tabX3_ok [mp_i (.aload_n 0), mp_h (.getfield 158) [17, 0], mp_i (.iload_n 3), mp_h (.if_icmp .ne 9) [44]] (by decide +kernel) ?_
        refine And.intro rfl (And.intro rfl ?_)
        refine And.intro (fun c10 => ?_) (fun c10 => ?_)
        · have c10 : y6.toInt ≠ x1.toInt := c10
          show mp_W E X 4 44 [(0, .ref a0), (1, .int 0), (2, .int x0), (3, .int x1)] [] [(a0, .inr (3, [.ref a1, .int y0, .ref a2, .int y1, .int y2, .int y3, .int y4, .int y5, .int y6, .int y7])), (a1, .inl (E.2.2 1, 1600, .inl f0))] 0 0
          refine mp_run hF mp_tabX3_ok [mp_i (.aload_n 0), mp_i (.aload_n 0), mp_h (.getfield 158) [17, 0], mp_h (.putfield 95) [18, 0]] (by decide +kernel) ?_
          refine And.intro rfl (And.intro rfl ?_)
          refine And.intro rfl (And.intro rfl (And.intro rfl (And.intro rfl (And.intro (Nat.le_of_ble_eq_true rfl) ?_))))
          show mp_W E X 4 52 [(0, .ref a0), (1, .int 0), (2, .int x0), (3, .int x1)] [] [(a0, .inr (3, [.ref a1, .int y0, .ref a2, .int y1, .int y2, .int y3, .int y4, .int y5, .int y6, .int y6])), (a1, .inl (E.2.2 1, 1600, .inl f0))] 0 0
          refine mp_run hF mp_tabX3_ok [mp_i (.aload_n 0)] (by decide +kernel) ?_
          show mp_W E X 4 53 [(0, .ref a0), (1, .int 0), (2, .int x0), (3, .int x1)] [.ref a0] [(a0, .inr (3, [.ref a1, .int y0, .ref a2, .int y1, .int y2, .int y3, .int y4, .int y5, .int y6, .int y6])), (a1, .inl (E.2.2 1, 1600, .inl f0))] 0 0
          refine mp_callV hF (As := []) (rest := []) (wr := []) (bX3_step_9 E a0 a1 a2 f0 y0 y1 y2 y3 y4 y5 y6 y6 l_y0 u_y0 l_y4 u_y4 l_y5 u_y5) mp_lkX3_38 0 rfl [0, 1] [] rfl rfl rfl rfl rfl ⟨(Nat.le_of_ble_eq_true rfl), (Nat.le_of_ble_eq_true rfl), (Nat.le_of_ble_eq_true rfl), (Nat.le_of_ble_eq_true rfl)⟩ (Nat.le_of_ble_eq_true rfl) (by decide +kernel) (fun v11 w12 h13 => ?_)
          obtain ⟨r14, r15, r16, r17, rfl, l18, u19, l20, u21, l22, u23, rfl⟩ := h13
          show mp_W E X 4 56 [(0, .ref a0), (1, .int 0), (2, .int x0), (3, .int x1)] [] [(a0, .inr (3, [.ref a1, .int y0, .ref a2, .int y1, .int y2, .int r14, .int r15, .int r16, .int r17, .int y6])), (a1, .inl (E.2.2 1, 1600, .inl f0))] 0 0
          refine mp_run hF mp_tabX3_ok [mp_c (.iconst 1) 1] (by decide +kernel) ?_
          show mp_W E X 4 57 [(0, .ref a0), (1, .int 0), (2, .int x0), (3, .int x1)] [.int 1] [(a0, .inr (3, [.ref a1, .int y0, .ref a2, .int y1, .int y2, .int r14, .int r15, .int r16, .int r17, .int y6])), (a1, .inl (E.2.2 1, 1600, .inl f0))] 0 0
          exact mp_iret hF hQ rfl (by decide) (Nat.le_of_ble_eq_true rfl) (Nat.le_of_ble_eq_true rfl) [0, 1] (w' := [(a0, .inr (3, [.ref a1, .int y0, .ref a2, .int y1, .int y2, .int r14, .int r15, .int r16, .int r17, .int y6])), (a1, .inl (E.2.2 1, 1600, .inl f0))]) rfl rfl (Or.inr ⟨r14, r15, r16, r17, rfl, (by first | omega | decide), (by first | omega | decide), (by first | omega | decide), (by first | omega | decide), l18, u19, l20, u21, l22, u23, rfl⟩) (by decide +kernel)
        · have c10 : y6.toInt = x1.toInt := (congrArg Int32.toInt c10)
          show mp_W E X 4 38 [(0, .ref a0), (1, .int 0), (2, .int x0), (3, .int x1)] [] [(a0, .inr (3, [.ref a1, .int y0, .ref a2, .int y1, .int y2, .int y3, .int y4, .int y5, .int y6, .int y7])), (a1, .inl (E.2.2 1, 1600, .inl f0))] 0 0
          refine mp_run hF mp_tabX3_ok [mp_i (.aload_n 0), mp_c (.iconst 2) 2] (by decide +kernel) ?_
          show mp_W E X 4 40 [(0, .ref a0), (1, .int 0), (2, .int x0), (3, .int x1)] [.int 2, .ref a0] [(a0, .inr (3, [.ref a1, .int y0, .ref a2, .int y1, .int y2, .int y3, .int y4, .int y5, .int y6, .int y7])), (a1, .inl (E.2.2 1, 1600, .inl f0))] 0 0
          refine mp_callV hF (As := [.int 2]) (rest := []) (wr := [(a1, .inl (E.2.2 1, 1600, .inl f0))]) (bX3_fail_19 E a0 a1 a2 y0 y1 y2 y3 y4 y5 y6 y7 2 l_y0 u_y0 l_y4 u_y4 l_y5 u_y5) mp_lkX3_60 0 rfl [0] [1] rfl rfl rfl rfl rfl ⟨(Nat.le_of_ble_eq_true rfl), (Nat.le_of_ble_eq_true rfl), (Nat.le_of_ble_eq_true rfl), (Nat.le_of_ble_eq_true rfl)⟩ (Nat.le_of_ble_eq_true rfl) (by decide +kernel) (fun v24 w25 h26 => ?_)
          obtain ⟨rfl, rfl⟩ := h26
          show mp_W E X 4 43 [(0, .ref a0), (1, .int 0), (2, .int x0), (3, .int x1)] [.int 0] [(a1, .inl (E.2.2 1, 1600, .inl f0)), (a0, .inr (3, [.ref a1, .int y0, .ref a2, .int 2, .int y4, .int y3, .int y4, .int y5, .int y6, .int y7]))] 0 0
          exact mp_iret hF hQ rfl (by decide) (Nat.le_of_ble_eq_true rfl) (Nat.le_of_ble_eq_true rfl) [1, 0] (w' := [(a0, .inr (3, [.ref a1, .int y0, .ref a2, .int 2, .int y4, .int y3, .int y4, .int y5, .int y6, .int y7])), (a1, .inl (E.2.2 1, 1600, .inl f0))]) rfl rfl (Or.inl ⟨2, rfl, (by decide), (by decide), rfl⟩) (by decide +kernel)
  · have c1 : y3.toInt ≠ 2 := c1
    show mp_W E X 4 8 [(0, .ref a0), (1, .int 0), (2, .int x0), (3, .int x1)] [] [(a0, .inr (3, [.ref a1, .int y0, .ref a2, .int y1, .int y2, .int y3, .int y4, .int y5, .int y6, .int y7])), (a1, .inl (E.2.2 1, 1600, .inl f0))] 0 0
    refine mp_run hF mp_tabX3_ok [mp_i (.aload_n 0), mp_c (.iconst 1) 1] (by decide +kernel) ?_
    show mp_W E X 4 10 [(0, .ref a0), (1, .int 0), (2, .int x0), (3, .int x1)] [.int 1, .ref a0] [(a0, .inr (3, [.ref a1, .int y0, .ref a2, .int y1, .int y2, .int y3, .int y4, .int y5, .int y6, .int y7])), (a1, .inl (E.2.2 1, 1600, .inl f0))] 0 0
    refine mp_callV hF (As := [.int 1]) (rest := []) (wr := [(a1, .inl (E.2.2 1, 1600, .inl f0))]) (bX3_fail_19 E a0 a1 a2 y0 y1 y2 y3 y4 y5 y6 y7 1 l_y0 u_y0 l_y4 u_y4 l_y5 u_y5) mp_lkX3_60 0 rfl [0] [1] rfl rfl rfl rfl rfl ⟨(Nat.le_of_ble_eq_true rfl), (Nat.le_of_ble_eq_true rfl), (Nat.le_of_ble_eq_true rfl), (Nat.le_of_ble_eq_true rfl)⟩ (Nat.le_of_ble_eq_true rfl) (by decide +kernel) (fun v27 w28 h29 => ?_)
    obtain ⟨rfl, rfl⟩ := h29
    show mp_W E X 4 13 [(0, .ref a0), (1, .int 0), (2, .int x0), (3, .int x1)] [.int 0] [(a1, .inl (E.2.2 1, 1600, .inl f0)), (a0, .inr (3, [.ref a1, .int y0, .ref a2, .int 1, .int y4, .int y3, .int y4, .int y5, .int y6, .int y7]))] 0 0
    exact mp_iret hF hQ rfl (by decide) (Nat.le_of_ble_eq_true rfl) (Nat.le_of_ble_eq_true rfl) [1, 0] (w' := [(a0, .inr (3, [.ref a1, .int y0, .ref a2, .int 1, .int y4, .int y3, .int y4, .int y5, .int y6, .int y7])), (a1, .inl (E.2.2 1, 1600, .inl f0))]) rfl rfl (Or.inl ⟨1, rfl, (by decide), (by decide), rfl⟩) (by decide +kernel)
set_option maxHeartbeats 4000000 in
set_option maxRecDepth 100000 in
theorem bX3_takeNumber_22 (E : mp_E) (a0 a1 a2 : Nat) (f0 : Nat → Int32) (y0 : Int32) (y1 : Int32) (y2 : Int32) (y3 : Int32) (y4 : Int32) (y5 : Int32) (y6 : Int32) (y7 : Int32) (x0 : Int32) (l_y0 : 0 ≤ y0.toInt) (u_y0 : y0.toInt ≤ 1600) (l_y4 : 0 ≤ y4.toInt) (u_y4 : y4.toInt ≤ 1600) (l_y5 : 0 ≤ y5.toInt) (u_y5 : y5.toInt ≤ 1600) : mp_Ct E yX3_takeNumber cX3_takeNumber 4 (some FieldType.boolean) 2 0 0 41 [.ref a0, .int 0, .int 99, .int x0] [(a0, .inr (3, [.ref a1, .int y0, .ref a2, .int y1, .int y2, .int y3, .int y4, .int y5, .int y6, .int y7])), (a1, .inl (E.2.2 1, 1600, .inl f0))] (fun v w' => (∃ r1 : Int32, v = some (.int 0) ∧ 1 ≤ r1.toInt ∧ r1.toInt ≤ 2 ∧ w' = [(a0, .inr (3, [.ref a1, .int y0, .ref a2, .int r1, .int y4, .int y3, .int y4, .int y5, .int y6, .int y7])), (a1, .inl (E.2.2 1, 1600, .inl f0))]) ∨ (∃ r1 : Int32, ∃ r2 : Int32, ∃ r3 : Int32, ∃ r4 : Int32, v = some (.int 1) ∧ y3.toInt = 2 ∧ 0 ≤ y6.toInt ∧ y6.toInt ≤ 99 ∧ y6.toInt ≠ x0.toInt ∧ 0 ≤ r1.toInt ∧ r1.toInt ≤ 4 ∧ 0 ≤ r2.toInt ∧ r2.toInt ≤ 1600 ∧ 0 ≤ r3.toInt ∧ r3.toInt ≤ 1600 ∧ w' = [(a0, .inr (3, [.ref a1, .int y0, .ref a2, .int y1, .int y2, .int r1, .int r2, .int r3, .int r4, .int y6])), (a1, .inl (E.2.2 1, 1600, .inl f0))])) := by
  refine mp_met false (by decide) (by decide) (Nat.le_of_ble_eq_true rfl) (fun X hF hQ => ?_)
  have hF : mp_F E X (RX3, cX3_takeNumber, 4, (2, 0, 0, 41), (some FieldType.boolean), false) := hF
  show mp_W E X 4 0 [(0, .ref a0), (1, .int 0), (2, .int 99), (3, .int x0)] [] [(a0, .inr (3, [.ref a1, .int y0, .ref a2, .int y1, .int y2, .int y3, .int y4, .int y5, .int y6, .int y7])), (a1, .inl (E.2.2 1, 1600, .inl f0))] 0 0
  refine mp_run hF mp_tabX3_ok [mp_i (.aload_n 0), mp_h (.getfield 41) [14, 0], mp_c (.iconst 2) 2, mp_h (.if_icmp .eq 9) [14]] (by decide +kernel) ?_
  refine And.intro rfl (And.intro rfl ?_)
  refine And.intro (fun c1 => ?_) (fun c1 => ?_)
  · have c1 : y3.toInt = 2 := (congrArg Int32.toInt c1)
    show mp_W E X 4 14 [(0, .ref a0), (1, .int 0), (2, .int 99), (3, .int x0)] [] [(a0, .inr (3, [.ref a1, .int y0, .ref a2, .int y1, .int y2, .int y3, .int y4, .int y5, .int y6, .int y7])), (a1, .inl (E.2.2 1, 1600, .inl f0))] 0 0
    refine mp_run hF mp_tabX3_ok [mp_i (.aload_n 0), mp_h (.getfield 158) [17, 0], mp_i (.iload_n 1), mp_h (.if_icmp .lt 19) [38]] (by decide +kernel) ?_
    refine And.intro rfl (And.intro rfl ?_)
    refine And.intro (fun c2 => ?_) (fun c2 => ?_)
    · have c2 : y6.toInt < 0 := c2
      show mp_W E X 4 38 [(0, .ref a0), (1, .int 0), (2, .int 99), (3, .int x0)] [] [(a0, .inr (3, [.ref a1, .int y0, .ref a2, .int y1, .int y2, .int y3, .int y4, .int y5, .int y6, .int y7])), (a1, .inl (E.2.2 1, 1600, .inl f0))] 0 0
      refine mp_run hF mp_tabX3_ok [mp_i (.aload_n 0), mp_c (.iconst 2) 2] (by decide +kernel) ?_
      show mp_W E X 4 40 [(0, .ref a0), (1, .int 0), (2, .int 99), (3, .int x0)] [.int 2, .ref a0] [(a0, .inr (3, [.ref a1, .int y0, .ref a2, .int y1, .int y2, .int y3, .int y4, .int y5, .int y6, .int y7])), (a1, .inl (E.2.2 1, 1600, .inl f0))] 0 0
      refine mp_callV hF (As := [.int 2]) (rest := []) (wr := [(a1, .inl (E.2.2 1, 1600, .inl f0))]) (bX3_fail_19 E a0 a1 a2 y0 y1 y2 y3 y4 y5 y6 y7 2 l_y0 u_y0 l_y4 u_y4 l_y5 u_y5) mp_lkX3_60 0 rfl [0] [1] rfl rfl rfl rfl rfl ⟨(Nat.le_of_ble_eq_true rfl), (Nat.le_of_ble_eq_true rfl), (Nat.le_of_ble_eq_true rfl), (Nat.le_of_ble_eq_true rfl)⟩ (Nat.le_of_ble_eq_true rfl) (by decide +kernel) (fun v3 w4 h5 => ?_)
      obtain ⟨rfl, rfl⟩ := h5
      show mp_W E X 4 43 [(0, .ref a0), (1, .int 0), (2, .int 99), (3, .int x0)] [.int 0] [(a1, .inl (E.2.2 1, 1600, .inl f0)), (a0, .inr (3, [.ref a1, .int y0, .ref a2, .int 2, .int y4, .int y3, .int y4, .int y5, .int y6, .int y7]))] 0 0
      exact mp_iret hF hQ rfl (by decide) (Nat.le_of_ble_eq_true rfl) (Nat.le_of_ble_eq_true rfl) [1, 0] (w' := [(a0, .inr (3, [.ref a1, .int y0, .ref a2, .int 2, .int y4, .int y3, .int y4, .int y5, .int y6, .int y7])), (a1, .inl (E.2.2 1, 1600, .inl f0))]) rfl rfl (Or.inl ⟨2, rfl, (by decide), (by decide), rfl⟩) (by decide +kernel)
    · have c2 : 0 ≤ y6.toInt := c2
      show mp_W E X 4 22 [(0, .ref a0), (1, .int 0), (2, .int 99), (3, .int x0)] [] [(a0, .inr (3, [.ref a1, .int y0, .ref a2, .int y1, .int y2, .int y3, .int y4, .int y5, .int y6, .int y7])), (a1, .inl (E.2.2 1, 1600, .inl f0))] 0 0
      refine mp_run hF mp_tabX3_ok [mp_i (.aload_n 0), mp_h (.getfield 158) [17, 0], mp_i (.iload_n 2), mp_h (.if_icmp .gt 11) [38]] (by decide +kernel) ?_
      refine And.intro rfl (And.intro rfl ?_)
      refine And.intro (fun c6 => ?_) (fun c6 => ?_)
      · have c6 : 99 < y6.toInt := c6
        show mp_W E X 4 38 [(0, .ref a0), (1, .int 0), (2, .int 99), (3, .int x0)] [] [(a0, .inr (3, [.ref a1, .int y0, .ref a2, .int y1, .int y2, .int y3, .int y4, .int y5, .int y6, .int y7])), (a1, .inl (E.2.2 1, 1600, .inl f0))] 0 0
        refine mp_run hF mp_tabX3_ok [mp_i (.aload_n 0), mp_c (.iconst 2) 2] (by decide +kernel) ?_
        show mp_W E X 4 40 [(0, .ref a0), (1, .int 0), (2, .int 99), (3, .int x0)] [.int 2, .ref a0] [(a0, .inr (3, [.ref a1, .int y0, .ref a2, .int y1, .int y2, .int y3, .int y4, .int y5, .int y6, .int y7])), (a1, .inl (E.2.2 1, 1600, .inl f0))] 0 0
        refine mp_callV hF (As := [.int 2]) (rest := []) (wr := [(a1, .inl (E.2.2 1, 1600, .inl f0))]) (bX3_fail_19 E a0 a1 a2 y0 y1 y2 y3 y4 y5 y6 y7 2 l_y0 u_y0 l_y4 u_y4 l_y5 u_y5) mp_lkX3_60 0 rfl [0] [1] rfl rfl rfl rfl rfl ⟨(Nat.le_of_ble_eq_true rfl), (Nat.le_of_ble_eq_true rfl), (Nat.le_of_ble_eq_true rfl), (Nat.le_of_ble_eq_true rfl)⟩ (Nat.le_of_ble_eq_true rfl) (by decide +kernel) (fun v7 w8 h9 => ?_)
        obtain ⟨rfl, rfl⟩ := h9
        show mp_W E X 4 43 [(0, .ref a0), (1, .int 0), (2, .int 99), (3, .int x0)] [.int 0] [(a1, .inl (E.2.2 1, 1600, .inl f0)), (a0, .inr (3, [.ref a1, .int y0, .ref a2, .int 2, .int y4, .int y3, .int y4, .int y5, .int y6, .int y7]))] 0 0
        exact mp_iret hF hQ rfl (by decide) (Nat.le_of_ble_eq_true rfl) (Nat.le_of_ble_eq_true rfl) [1, 0] (w' := [(a0, .inr (3, [.ref a1, .int y0, .ref a2, .int 2, .int y4, .int y3, .int y4, .int y5, .int y6, .int y7])), (a1, .inl (E.2.2 1, 1600, .inl f0))]) rfl rfl (Or.inl ⟨2, rfl, (by decide), (by decide), rfl⟩) (by decide +kernel)
      · have c6 : y6.toInt ≤ 99 := c6
        show mp_W E X 4 30 [(0, .ref a0), (1, .int 0), (2, .int 99), (3, .int x0)] [] [(a0, .inr (3, [.ref a1, .int y0, .ref a2, .int y1, .int y2, .int y3, .int y4, .int y5, .int y6, .int y7])), (a1, .inl (E.2.2 1, 1600, .inl f0))] 0 0
        refine mp_run hF mp_tabX3_ok [mp_i (.aload_n 0), mp_h (.getfield 158) [17, 0], mp_i (.iload_n 3), mp_h (.if_icmp .ne 9) [44]] (by decide +kernel) ?_
        refine And.intro rfl (And.intro rfl ?_)
        refine And.intro (fun c10 => ?_) (fun c10 => ?_)
        · have c10 : y6.toInt ≠ x0.toInt := c10
          show mp_W E X 4 44 [(0, .ref a0), (1, .int 0), (2, .int 99), (3, .int x0)] [] [(a0, .inr (3, [.ref a1, .int y0, .ref a2, .int y1, .int y2, .int y3, .int y4, .int y5, .int y6, .int y7])), (a1, .inl (E.2.2 1, 1600, .inl f0))] 0 0
          refine mp_run hF mp_tabX3_ok [mp_i (.aload_n 0), mp_i (.aload_n 0), mp_h (.getfield 158) [17, 0], mp_h (.putfield 95) [18, 0]] (by decide +kernel) ?_
          refine And.intro rfl (And.intro rfl ?_)
          refine And.intro rfl (And.intro rfl (And.intro rfl (And.intro rfl (And.intro (Nat.le_of_ble_eq_true rfl) ?_))))
          show mp_W E X 4 52 [(0, .ref a0), (1, .int 0), (2, .int 99), (3, .int x0)] [] [(a0, .inr (3, [.ref a1, .int y0, .ref a2, .int y1, .int y2, .int y3, .int y4, .int y5, .int y6, .int y6])), (a1, .inl (E.2.2 1, 1600, .inl f0))] 0 0
          refine mp_run hF mp_tabX3_ok [mp_i (.aload_n 0)] (by decide +kernel) ?_
          show mp_W E X 4 53 [(0, .ref a0), (1, .int 0), (2, .int 99), (3, .int x0)] [.ref a0] [(a0, .inr (3, [.ref a1, .int y0, .ref a2, .int y1, .int y2, .int y3, .int y4, .int y5, .int y6, .int y6])), (a1, .inl (E.2.2 1, 1600, .inl f0))] 0 0
          refine mp_callV hF (As := []) (rest := []) (wr := []) (bX3_step_9 E a0 a1 a2 f0 y0 y1 y2 y3 y4 y5 y6 y6 l_y0 u_y0 l_y4 u_y4 l_y5 u_y5) mp_lkX3_38 0 rfl [0, 1] [] rfl rfl rfl rfl rfl ⟨(Nat.le_of_ble_eq_true rfl), (Nat.le_of_ble_eq_true rfl), (Nat.le_of_ble_eq_true rfl), (Nat.le_of_ble_eq_true rfl)⟩ (Nat.le_of_ble_eq_true rfl) (by decide +kernel) (fun v11 w12 h13 => ?_)
          obtain ⟨r14, r15, r16, r17, rfl, l18, u19, l20, u21, l22, u23, rfl⟩ := h13
          show mp_W E X 4 56 [(0, .ref a0), (1, .int 0), (2, .int 99), (3, .int x0)] [] [(a0, .inr (3, [.ref a1, .int y0, .ref a2, .int y1, .int y2, .int r14, .int r15, .int r16, .int r17, .int y6])), (a1, .inl (E.2.2 1, 1600, .inl f0))] 0 0
          refine mp_run hF mp_tabX3_ok [mp_c (.iconst 1) 1] (by decide +kernel) ?_
          show mp_W E X 4 57 [(0, .ref a0), (1, .int 0), (2, .int 99), (3, .int x0)] [.int 1] [(a0, .inr (3, [.ref a1, .int y0, .ref a2, .int y1, .int y2, .int r14, .int r15, .int r16, .int r17, .int y6])), (a1, .inl (E.2.2 1, 1600, .inl f0))] 0 0
          exact mp_iret hF hQ rfl (by decide) (Nat.le_of_ble_eq_true rfl) (Nat.le_of_ble_eq_true rfl) [0, 1] (w' := [(a0, .inr (3, [.ref a1, .int y0, .ref a2, .int y1, .int y2, .int r14, .int r15, .int r16, .int r17, .int y6])), (a1, .inl (E.2.2 1, 1600, .inl f0))]) rfl rfl (Or.inr ⟨r14, r15, r16, r17, rfl, (by first | omega | decide), (by first | omega | decide), (by first | omega | decide), (by first | omega | decide), l18, u19, l20, u21, l22, u23, rfl⟩) (by decide +kernel)
        · have c10 : y6.toInt = x0.toInt := (congrArg Int32.toInt c10)
          show mp_W E X 4 38 [(0, .ref a0), (1, .int 0), (2, .int 99), (3, .int x0)] [] [(a0, .inr (3, [.ref a1, .int y0, .ref a2, .int y1, .int y2, .int y3, .int y4, .int y5, .int y6, .int y7])), (a1, .inl (E.2.2 1, 1600, .inl f0))] 0 0
          refine mp_run hF mp_tabX3_ok [mp_i (.aload_n 0), mp_c (.iconst 2) 2] (by decide +kernel) ?_
          show mp_W E X 4 40 [(0, .ref a0), (1, .int 0), (2, .int 99), (3, .int x0)] [.int 2, .ref a0] [(a0, .inr (3, [.ref a1, .int y0, .ref a2, .int y1, .int y2, .int y3, .int y4, .int y5, .int y6, .int y7])), (a1, .inl (E.2.2 1, 1600, .inl f0))] 0 0
          refine mp_callV hF (As := [.int 2]) (rest := []) (wr := [(a1, .inl (E.2.2 1, 1600, .inl f0))]) (bX3_fail_19 E a0 a1 a2 y0 y1 y2 y3 y4 y5 y6 y7 2 l_y0 u_y0 l_y4 u_y4 l_y5 u_y5) mp_lkX3_60 0 rfl [0] [1] rfl rfl rfl rfl rfl ⟨(Nat.le_of_ble_eq_true rfl), (Nat.le_of_ble_eq_true rfl), (Nat.le_of_ble_eq_true rfl), (Nat.le_of_ble_eq_true rfl)⟩ (Nat.le_of_ble_eq_true rfl) (by decide +kernel) (fun v24 w25 h26 => ?_)
          obtain ⟨rfl, rfl⟩ := h26
          show mp_W E X 4 43 [(0, .ref a0), (1, .int 0), (2, .int 99), (3, .int x0)] [.int 0] [(a1, .inl (E.2.2 1, 1600, .inl f0)), (a0, .inr (3, [.ref a1, .int y0, .ref a2, .int 2, .int y4, .int y3, .int y4, .int y5, .int y6, .int y7]))] 0 0
          exact mp_iret hF hQ rfl (by decide) (Nat.le_of_ble_eq_true rfl) (Nat.le_of_ble_eq_true rfl) [1, 0] (w' := [(a0, .inr (3, [.ref a1, .int y0, .ref a2, .int 2, .int y4, .int y3, .int y4, .int y5, .int y6, .int y7])), (a1, .inl (E.2.2 1, 1600, .inl f0))]) rfl rfl (Or.inl ⟨2, rfl, (by decide), (by decide), rfl⟩) (by decide +kernel)
  · have c1 : y3.toInt ≠ 2 := c1
    show mp_W E X 4 8 [(0, .ref a0), (1, .int 0), (2, .int 99), (3, .int x0)] [] [(a0, .inr (3, [.ref a1, .int y0, .ref a2, .int y1, .int y2, .int y3, .int y4, .int y5, .int y6, .int y7])), (a1, .inl (E.2.2 1, 1600, .inl f0))] 0 0
    refine mp_run hF mp_tabX3_ok [mp_i (.aload_n 0), mp_c (.iconst 1) 1] (by decide +kernel) ?_
    show mp_W E X 4 10 [(0, .ref a0), (1, .int 0), (2, .int 99), (3, .int x0)] [.int 1, .ref a0] [(a0, .inr (3, [.ref a1, .int y0, .ref a2, .int y1, .int y2, .int y3, .int y4, .int y5, .int y6, .int y7])), (a1, .inl (E.2.2 1, 1600, .inl f0))] 0 0
    refine mp_callV hF (As := [.int 1]) (rest := []) (wr := [(a1, .inl (E.2.2 1, 1600, .inl f0))]) (bX3_fail_19 E a0 a1 a2 y0 y1 y2 y3 y4 y5 y6 y7 1 l_y0 u_y0 l_y4 u_y4 l_y5 u_y5) mp_lkX3_60 0 rfl [0] [1] rfl rfl rfl rfl rfl ⟨(Nat.le_of_ble_eq_true rfl), (Nat.le_of_ble_eq_true rfl), (Nat.le_of_ble_eq_true rfl), (Nat.le_of_ble_eq_true rfl)⟩ (Nat.le_of_ble_eq_true rfl) (by decide +kernel) (fun v27 w28 h29 => ?_)
    obtain ⟨rfl, rfl⟩ := h29
    show mp_W E X 4 13 [(0, .ref a0), (1, .int 0), (2, .int 99), (3, .int x0)] [.int 0] [(a1, .inl (E.2.2 1, 1600, .inl f0)), (a0, .inr (3, [.ref a1, .int y0, .ref a2, .int 1, .int y4, .int y3, .int y4, .int y5, .int y6, .int y7]))] 0 0
    exact mp_iret hF hQ rfl (by decide) (Nat.le_of_ble_eq_true rfl) (Nat.le_of_ble_eq_true rfl) [1, 0] (w' := [(a0, .inr (3, [.ref a1, .int y0, .ref a2, .int 1, .int y4, .int y3, .int y4, .int y5, .int y6, .int y7])), (a1, .inl (E.2.2 1, 1600, .inl f0))]) rfl rfl (Or.inl ⟨1, rfl, (by decide), (by decide), rfl⟩) (by decide +kernel)
set_option maxHeartbeats 4000000 in
set_option maxRecDepth 100000 in
theorem bX7_setShut_23 (E : mp_E) (a0 a1 a2 a3 a4 a5 a6 a7 a8 a9 a10 a11 a12 : Nat) (f0 : Nat → Int64) (y0 : Int32) (y1 : Int32) (y2 : Int32) (y3 : Int32) (y4 : Int32) (y5 : Int32) (x0 : Int32) (x1 : Int32) (x2 : Int32) (l_x0 : 0 ≤ x0.toInt) (u_x0 : x0.toInt ≤ 5) (l_x1 : 0 ≤ x1.toInt) (u_x1 : x1.toInt ≤ 99) (l_y1 : 0 ≤ y1.toInt) (u_y1 : y1.toInt ≤ 6) (l_y2 : 0 ≤ y2.toInt) (u_y2 : y2.toInt ≤ 99) (l_y3 : 0 ≤ y3.toInt) (u_y3 : y3.toInt ≤ 6) (l_y4 : 0 ≤ y4.toInt) (u_y4 : y4.toInt ≤ 10) (l_y5 : 0 ≤ y5.toInt) (u_y5 : y5.toInt ≤ 60) : mp_Ct E yX7_setShut cX7_setShut 7 none 0 0 0 0 [.ref a0, .int x0, .int x1, .int x2] [(a0, .inr (7, [.int y0, .int y1, .int y2, .int y3, .int y4, .int y5, .ref a2, .ref a1, .ref a3, .ref a4, .ref a5, .ref a6, .ref a7, .ref a8, .ref a9, .ref a10, .ref a11, .ref a12])), (a1, .inl (E.2.2 2, 12, .inr (.inl f0)))] (fun v w' => ∃ h1 : Nat → Int64, v = none ∧ w' = [(a0, .inr (7, [.int y0, .int y1, .int y2, .int y3, .int y4, .int y5, .ref a2, .ref a1, .ref a3, .ref a4, .ref a5, .ref a6, .ref a7, .ref a8, .ref a9, .ref a10, .ref a11, .ref a12])), (a1, .inl (E.2.2 2, 12, .inr (.inl h1)))]) := by
  refine mp_met false (by decide) (by decide) (Nat.le_of_ble_eq_true rfl) (fun X hF hQ => ?_)
  have hF : mp_F E X (RX7, cX7_setShut, 7, (0, 0, 0, 0), none, false) := hF
  show mp_W E X 7 0 [(0, .ref a0), (1, .int x0), (2, .int x1), (3, .int x2)] [] [(a0, .inr (7, [.int y0, .int y1, .int y2, .int y3, .int y4, .int y5, .ref a2, .ref a1, .ref a3, .ref a4, .ref a5, .ref a6, .ref a7, .ref a8, .ref a9, .ref a10, .ref a11, .ref a12])), (a1, .inl (E.2.2 2, 12, .inr (.inl f0)))] 0 0
  refine mp_run hF mp_tabX7_ok [mp_cl (.lconst 1) 1, mp_i (.iload_n 2), mp_c (.bipush 50) 50, mp_i .irem, mp_i .lshl, mp_i (.lstore 4), mp_c (.iconst 2) 2, mp_i (.iload_n 1), mp_i .imul, mp_i (.iload_n 2), mp_c (.bipush 50) 50, mp_i .idiv, mp_i .iadd, mp_i (.istore 6), mp_i (.aload_n 0), mp_h (.getfield 15) [7, 0], mp_i (.iload 6), mp_i (.iload_n 3), mp_h (.ifCond .eq 16) [41]] (by decide +kernel) ?_
  refine And.intro (by decide) ?_
  intro z1 h2
  have e3 : z1.toInt = x1.toInt % 50 := mp_rem (a := x1.toInt) (b := 50) h2 rfl (by decide) (by omega) (by decide)
  intro z4 h5
  intro z6 h7
  have e8 : z6.toInt = 2 * x0.toInt := mp_mul (a := 2) (b := x0.toInt) h7 (by decide) rfl (by omega) (by omega)
  refine And.intro (by decide) ?_
  intro z9 h10
  have e11 : z9.toInt = x1.toInt / 50 := mp_div (a := x1.toInt) (b := 50) h10 rfl (by decide) (by omega) (by decide)
  intro z12 h13
  have e14 : z12.toInt = z6.toInt + z9.toInt := mp_add (a := z6.toInt) (b := z9.toInt) h13 rfl rfl (by omega) (by omega)
  refine And.intro rfl (And.intro rfl ?_)
  refine And.intro (fun c15 => ?_) (fun c15 => ?_)
  · have c15 : x2.toInt = 0 := (congrArg Int32.toInt c15)
    show mp_W E X 7 41 [(6, .int z12), (4, .long z4), (0, .ref a0), (1, .int x0), (2, .int x1), (3, .int x2)] [.int z12, .ref a1] [(a0, .inr (7, [.int y0, .int y1, .int y2, .int y3, .int y4, .int y5, .ref a2, .ref a1, .ref a3, .ref a4, .ref a5, .ref a6, .ref a7, .ref a8, .ref a9, .ref a10, .ref a11, .ref a12])), (a1, .inl (E.2.2 2, 12, .inr (.inl f0)))] 0 0
    refine mp_run hF mp_tabX7_ok [mp_i (.aload_n 0), mp_h (.getfield 15) [7, 0], mp_i (.iload 6), mp_h .laload [1], mp_i (.lload 4), mp_cl (.ldc2_w 83) (-1), mp_i .lxor, mp_i .land, mp_h .lastore [1]] (by decide +kernel) ?_
    refine And.intro rfl (And.intro rfl ?_)
    refine And.intro rfl (And.intro rfl (And.intro (vp_in_iff.mpr (by omega)) ?_))
    intro z16 h17
    intro z18 h19
    intro z20 h21
    refine And.intro rfl (And.intro rfl (And.intro (vp_in_iff.mpr (by omega)) ?_))
    intro g22 h23
    show mp_W E X 7 56 [(6, .int z12), (4, .long z4), (0, .ref a0), (1, .int x0), (2, .int x1), (3, .int x2)] [] [(a0, .inr (7, [.int y0, .int y1, .int y2, .int y3, .int y4, .int y5, .ref a2, .ref a1, .ref a3, .ref a4, .ref a5, .ref a6, .ref a7, .ref a8, .ref a9, .ref a10, .ref a11, .ref a12])), (a1, .inl (E.2.2 2, 12, .inr (.inl g22)))] 0 0
    exact mp_vret hF hQ rfl (Nat.le_of_ble_eq_true rfl) (Nat.le_of_ble_eq_true rfl) [0, 1] (w' := [(a0, .inr (7, [.int y0, .int y1, .int y2, .int y3, .int y4, .int y5, .ref a2, .ref a1, .ref a3, .ref a4, .ref a5, .ref a6, .ref a7, .ref a8, .ref a9, .ref a10, .ref a11, .ref a12])), (a1, .inl (E.2.2 2, 12, .inr (.inl g22)))]) rfl rfl ⟨g22, rfl, rfl⟩ (by decide +kernel)
  · have c15 : x2.toInt ≠ 0 := c15
    show mp_W E X 7 28 [(6, .int z12), (4, .long z4), (0, .ref a0), (1, .int x0), (2, .int x1), (3, .int x2)] [.int z12, .ref a1] [(a0, .inr (7, [.int y0, .int y1, .int y2, .int y3, .int y4, .int y5, .ref a2, .ref a1, .ref a3, .ref a4, .ref a5, .ref a6, .ref a7, .ref a8, .ref a9, .ref a10, .ref a11, .ref a12])), (a1, .inl (E.2.2 2, 12, .inr (.inl f0)))] 0 0
    refine mp_run hF mp_tabX7_ok [mp_i (.aload_n 0), mp_h (.getfield 15) [7, 0], mp_i (.iload 6), mp_h .laload [1], mp_i (.lload 4), mp_i .lor, mp_h (.goto 17) [55], mp_h .lastore [1]] (by decide +kernel) ?_
    refine And.intro rfl (And.intro rfl ?_)
    refine And.intro rfl (And.intro rfl (And.intro (vp_in_iff.mpr (by omega)) ?_))
    intro z24 h25
    intro z26 h27
    refine And.intro rfl (And.intro rfl (And.intro (vp_in_iff.mpr (by omega)) ?_))
    intro g28 h29
    show mp_W E X 7 56 [(6, .int z12), (4, .long z4), (0, .ref a0), (1, .int x0), (2, .int x1), (3, .int x2)] [] [(a0, .inr (7, [.int y0, .int y1, .int y2, .int y3, .int y4, .int y5, .ref a2, .ref a1, .ref a3, .ref a4, .ref a5, .ref a6, .ref a7, .ref a8, .ref a9, .ref a10, .ref a11, .ref a12])), (a1, .inl (E.2.2 2, 12, .inr (.inl g28)))] 0 0
    exact mp_vret hF hQ rfl (Nat.le_of_ble_eq_true rfl) (Nat.le_of_ble_eq_true rfl) [0, 1] (w' := [(a0, .inr (7, [.int y0, .int y1, .int y2, .int y3, .int y4, .int y5, .ref a2, .ref a1, .ref a3, .ref a4, .ref a5, .ref a6, .ref a7, .ref a8, .ref a9, .ref a10, .ref a11, .ref a12])), (a1, .inl (E.2.2 2, 12, .inr (.inl g28)))]) rfl rfl ⟨g28, rfl, rfl⟩ (by decide +kernel)
set_option maxHeartbeats 4000000 in
set_option maxRecDepth 100000 in
theorem bX3_takeShut_24 (E : mp_E) (a0 a1 a2 a3 a4 a5 a6 a7 a8 a9 a10 a11 a12 a13 a14 : Nat) (f0 : Nat → Int64) (f1 : Nat → Int32) (y0 : Int32) (y1 : Int32) (y2 : Int32) (y3 : Int32) (y4 : Int32) (y5 : Int32) (y6 : Int32) (y7 : Int32) (y8 : Int32) (y9 : Int32) (y10 : Int32) (y11 : Int32) (y12 : Int32) (y13 : Int32) (l_y1 : 0 ≤ y1.toInt) (u_y1 : y1.toInt ≤ 6) (l_y2 : 0 ≤ y2.toInt) (u_y2 : y2.toInt ≤ 99) (l_y3 : 0 ≤ y3.toInt) (u_y3 : y3.toInt ≤ 6) (l_y4 : 0 ≤ y4.toInt) (u_y4 : y4.toInt ≤ 10) (l_y5 : 0 ≤ y5.toInt) (u_y5 : y5.toInt ≤ 60) (l_y6 : 0 ≤ y6.toInt) (u_y6 : y6.toInt ≤ 1600) (l_y10 : 0 ≤ y10.toInt) (u_y10 : y10.toInt ≤ 1600) (l_y11 : 0 ≤ y11.toInt) (u_y11 : y11.toInt ≤ 1600) : mp_Ct E yX3_takeShut cX3_takeShut 2 (some FieldType.boolean) 6 0 0 128 [.ref a0] [(a1, .inr (7, [.int y0, .int y1, .int y2, .int y3, .int y4, .int y5, .ref a4, .ref a2, .ref a5, .ref a6, .ref a7, .ref a8, .ref a9, .ref a10, .ref a11, .ref a12, .ref a13, .ref a14])), (a2, .inl (E.2.2 2, 12, .inr (.inl f0))), (a0, .inr (3, [.ref a3, .int y6, .ref a1, .int y7, .int y8, .int y9, .int y10, .int y11, .int y12, .int y13])), (a3, .inl (E.2.2 1, 1600, .inl f1))] (fun v w' => (∃ r1 : Int32, ∃ r2 : Int32, ∃ r3 : Int32, ∃ r4 : Int32, ∃ r5 : Int32, ∃ r6 : Int32, ∃ r7 : Int32, v = some (.int 0) ∧ 1 ≤ r1.toInt ∧ r1.toInt ≤ 2 ∧ 0 ≤ r2.toInt ∧ r2.toInt ≤ 1600 ∧ 0 ≤ r4.toInt ∧ r4.toInt ≤ 1600 ∧ 0 ≤ r5.toInt ∧ r5.toInt ≤ 1600 ∧ w' = [(a1, .inr (7, [.int y0, .int y1, .int y2, .int y3, .int y4, .int y5, .ref a4, .ref a2, .ref a5, .ref a6, .ref a7, .ref a8, .ref a9, .ref a10, .ref a11, .ref a12, .ref a13, .ref a14])), (a2, .inl (E.2.2 2, 12, .inr (.inl f0))), (a0, .inr (3, [.ref a3, .int y6, .ref a1, .int r1, .int r2, .int r3, .int r4, .int r5, .int r6, .int r7])), (a3, .inl (E.2.2 1, 1600, .inl f1))]) ∨ (∃ h1 : Nat → Int64, ∃ r2 : Int32, ∃ r3 : Int32, ∃ r4 : Int32, ∃ r5 : Int32, ∃ r6 : Int32, v = some (.int 1) ∧ y9.toInt = 1 ∧ 0 ≤ r2.toInt ∧ r2.toInt ≤ 4 ∧ 0 ≤ r3.toInt ∧ r3.toInt ≤ 1600 ∧ 0 ≤ r4.toInt ∧ r4.toInt ≤ 1600 ∧ 0 ≤ r6.toInt ∧ r6.toInt ≤ 99 ∧ w' = [(a1, .inr (7, [.int y0, .int y1, .int y2, .int y3, .int y4, .int y5, .ref a4, .ref a2, .ref a5, .ref a6, .ref a7, .ref a8, .ref a9, .ref a10, .ref a11, .ref a12, .ref a13, .ref a14])), (a2, .inl (E.2.2 2, 12, .inr (.inl h1))), (a0, .inr (3, [.ref a3, .int y6, .ref a1, .int y7, .int y8, .int r2, .int r3, .int r4, .int r5, .int r6])), (a3, .inl (E.2.2 1, 1600, .inl f1))])) := by
  refine mp_met false (by decide) (by decide) (Nat.le_of_ble_eq_true rfl) (fun X hF hQ => ?_)
  have hF : mp_F E X (RX3, cX3_takeShut, 2, (6, 0, 0, 128), (some FieldType.boolean), false) := hF
  show mp_W E X 2 0 [(0, .ref a0)] [] [(a1, .inr (7, [.int y0, .int y1, .int y2, .int y3, .int y4, .int y5, .ref a4, .ref a2, .ref a5, .ref a6, .ref a7, .ref a8, .ref a9, .ref a10, .ref a11, .ref a12, .ref a13, .ref a14])), (a2, .inl (E.2.2 2, 12, .inr (.inl f0))), (a0, .inr (3, [.ref a3, .int y6, .ref a1, .int y7, .int y8, .int y9, .int y10, .int y11, .int y12, .int y13])), (a3, .inl (E.2.2 1, 1600, .inl f1))] 0 0
  refine mp_run hF mp_tabX3_ok [mp_i (.aload_n 0)] (by decide +kernel) ?_
  show mp_W E X 2 1 [(0, .ref a0)] [.ref a0] [(a1, .inr (7, [.int y0, .int y1, .int y2, .int y3, .int y4, .int y5, .ref a4, .ref a2, .ref a5, .ref a6, .ref a7, .ref a8, .ref a9, .ref a10, .ref a11, .ref a12, .ref a13, .ref a14])), (a2, .inl (E.2.2 2, 12, .inr (.inl f0))), (a0, .inr (3, [.ref a3, .int y6, .ref a1, .int y7, .int y8, .int y9, .int y10, .int y11, .int y12, .int y13])), (a3, .inl (E.2.2 1, 1600, .inl f1))] 0 0
  refine mp_ldcS hF 13 (q := (RX3, 152, "shut", 13)) rfl rfl (by decide +kernel) ?_
  show mp_W E X 2 3 [(0, .ref a0)] [.ref (E.1.2.1 13), .ref a0] [(a1, .inr (7, [.int y0, .int y1, .int y2, .int y3, .int y4, .int y5, .ref a4, .ref a2, .ref a5, .ref a6, .ref a7, .ref a8, .ref a9, .ref a10, .ref a11, .ref a12, .ref a13, .ref a14])), (a2, .inl (E.2.2 2, 12, .inr (.inl f0))), (a0, .inr (3, [.ref a3, .int y6, .ref a1, .int y7, .int y8, .int y9, .int y10, .int y11, .int y12, .int y13])), (a3, .inl (E.2.2 1, 1600, .inl f1))] 0 0
  refine mp_callV hF (As := [.ref (E.1.2.1 13)]) (rest := []) (wr := [(a1, .inr (7, [.int y0, .int y1, .int y2, .int y3, .int y4, .int y5, .ref a4, .ref a2, .ref a5, .ref a6, .ref a7, .ref a8, .ref a9, .ref a10, .ref a11, .ref a12, .ref a13, .ref a14])), (a2, .inl (E.2.2 2, 12, .inr (.inl f0)))]) (bX3_takeWord_20 E 13 (by decide) a0 a3 a1 f1 y6 y7 y8 y9 y10 y11 y12 y13 l_y6 u_y6 l_y10 u_y10 l_y11 u_y11) mp_lkX3_102 2 rfl [2, 3] [0, 1] rfl rfl rfl rfl rfl ⟨(Nat.le_of_ble_eq_true rfl), (Nat.le_of_ble_eq_true rfl), (Nat.le_of_ble_eq_true rfl), (Nat.le_of_ble_eq_true rfl)⟩ (Nat.le_of_ble_eq_true rfl) (by decide +kernel) (fun v1 w2 h3 => ?_)
  rcases h3 with ⟨rfl, rfl⟩ | ⟨r4, r5, r6, r7, rfl, c8, l9, u10, l11, u12, l13, u14, rfl⟩
  · skip
    show mp_W E X 2 6 [(0, .ref a0)] [.int 0] [(a1, .inr (7, [.int y0, .int y1, .int y2, .int y3, .int y4, .int y5, .ref a4, .ref a2, .ref a5, .ref a6, .ref a7, .ref a8, .ref a9, .ref a10, .ref a11, .ref a12, .ref a13, .ref a14])), (a2, .inl (E.2.2 2, 12, .inr (.inl f0))), (a0, .inr (3, [.ref a3, .int y6, .ref a1, .int 1, .int y10, .int y9, .int y10, .int y11, .int y12, .int y13])), (a3, .inl (E.2.2 1, 1600, .inl f1))] 0 0
    refine mp_run hF mp_tabX3_ok [mp_h (.ifCond .eq 21) [27]] (by decide +kernel) ?_
    refine And.intro (fun _ => ?_) (fun c15 => absurd c15 (by decide))
    show mp_W E X 2 27 [(0, .ref a0)] [] [(a1, .inr (7, [.int y0, .int y1, .int y2, .int y3, .int y4, .int y5, .ref a4, .ref a2, .ref a5, .ref a6, .ref a7, .ref a8, .ref a9, .ref a10, .ref a11, .ref a12, .ref a13, .ref a14])), (a2, .inl (E.2.2 2, 12, .inr (.inl f0))), (a0, .inr (3, [.ref a3, .int y6, .ref a1, .int 1, .int y10, .int y9, .int y10, .int y11, .int y12, .int y13])), (a3, .inl (E.2.2 1, 1600, .inl f1))] 0 0
    refine mp_run hF mp_tabX3_ok [mp_c (.iconst 0) 0] (by decide +kernel) ?_
    show mp_W E X 2 28 [(0, .ref a0)] [.int 0] [(a1, .inr (7, [.int y0, .int y1, .int y2, .int y3, .int y4, .int y5, .ref a4, .ref a2, .ref a5, .ref a6, .ref a7, .ref a8, .ref a9, .ref a10, .ref a11, .ref a12, .ref a13, .ref a14])), (a2, .inl (E.2.2 2, 12, .inr (.inl f0))), (a0, .inr (3, [.ref a3, .int y6, .ref a1, .int 1, .int y10, .int y9, .int y10, .int y11, .int y12, .int y13])), (a3, .inl (E.2.2 1, 1600, .inl f1))] 0 0
    exact mp_iret hF hQ rfl (by decide) (Nat.le_of_ble_eq_true rfl) (Nat.le_of_ble_eq_true rfl) [0, 1, 2, 3] (w' := [(a1, .inr (7, [.int y0, .int y1, .int y2, .int y3, .int y4, .int y5, .ref a4, .ref a2, .ref a5, .ref a6, .ref a7, .ref a8, .ref a9, .ref a10, .ref a11, .ref a12, .ref a13, .ref a14])), (a2, .inl (E.2.2 2, 12, .inr (.inl f0))), (a0, .inr (3, [.ref a3, .int y6, .ref a1, .int 1, .int y10, .int y9, .int y10, .int y11, .int y12, .int y13])), (a3, .inl (E.2.2 1, 1600, .inl f1))]) rfl rfl (Or.inl ⟨1, y10, y9, y10, y11, y12, y13, rfl, (by decide), (by decide), l_y10, u_y10, l_y10, u_y10, l_y11, u_y11, rfl⟩) (by decide +kernel)
  · skip
    have c8 : y9.toInt = 1 := c8
    show mp_W E X 2 6 [(0, .ref a0)] [.int 1] [(a1, .inr (7, [.int y0, .int y1, .int y2, .int y3, .int y4, .int y5, .ref a4, .ref a2, .ref a5, .ref a6, .ref a7, .ref a8, .ref a9, .ref a10, .ref a11, .ref a12, .ref a13, .ref a14])), (a2, .inl (E.2.2 2, 12, .inr (.inl f0))), (a0, .inr (3, [.ref a3, .int y6, .ref a1, .int y7, .int y8, .int r4, .int r5, .int r6, .int r7, .int y13])), (a3, .inl (E.2.2 1, 1600, .inl f1))] 0 0
    refine mp_run hF mp_tabX3_ok [mp_h (.ifCond .eq 21) [27]] (by decide +kernel) ?_
    refine And.intro (fun c16 => absurd c16 (by decide)) (fun _ => ?_)
    show mp_W E X 2 9 [(0, .ref a0)] [] [(a1, .inr (7, [.int y0, .int y1, .int y2, .int y3, .int y4, .int y5, .ref a4, .ref a2, .ref a5, .ref a6, .ref a7, .ref a8, .ref a9, .ref a10, .ref a11, .ref a12, .ref a13, .ref a14])), (a2, .inl (E.2.2 2, 12, .inr (.inl f0))), (a0, .inr (3, [.ref a3, .int y6, .ref a1, .int y7, .int y8, .int r4, .int r5, .int r6, .int r7, .int y13])), (a3, .inl (E.2.2 1, 1600, .inl f1))] 0 0
    refine mp_run hF mp_tabX3_ok [mp_i (.aload_n 0), mp_c (.iconst 0) 0, mp_i (.aload_n 0), mp_h (.getfield 18) [11, 2], mp_h (.getfield 98) [1, 0], mp_c (.iconst 1) 1, mp_i .isub, mp_c (.iconst (-1)) (-1)] (by decide +kernel) ?_
    refine And.intro rfl (And.intro rfl ?_)
    refine And.intro rfl (And.intro rfl ?_)
    intro z17 h18
    have e19 : z17.toInt = y1.toInt - 1 := mp_subi (a := y1.toInt) (b := 1) h18 rfl (by decide) (by omega) (by omega)
    show mp_W E X 2 21 [(0, .ref a0)] [.int (-1), .int z17, .int 0, .ref a0] [(a1, .inr (7, [.int y0, .int y1, .int y2, .int y3, .int y4, .int y5, .ref a4, .ref a2, .ref a5, .ref a6, .ref a7, .ref a8, .ref a9, .ref a10, .ref a11, .ref a12, .ref a13, .ref a14])), (a2, .inl (E.2.2 2, 12, .inr (.inl f0))), (a0, .inr (3, [.ref a3, .int y6, .ref a1, .int y7, .int y8, .int r4, .int r5, .int r6, .int r7, .int y13])), (a3, .inl (E.2.2 1, 1600, .inl f1))] 0 0
    refine mp_callV hF (As := [.int 0, .int z17, .int (-1)]) (rest := []) (wr := [(a1, .inr (7, [.int y0, .int y1, .int y2, .int y3, .int y4, .int y5, .ref a4, .ref a2, .ref a5, .ref a6, .ref a7, .ref a8, .ref a9, .ref a10, .ref a11, .ref a12, .ref a13, .ref a14])), (a2, .inl (E.2.2 2, 12, .inr (.inl f0)))]) (bX3_takeNumber_21 E a0 a3 a1 f1 y6 y7 y8 r4 r5 r6 r7 y13 z17 (-1) (by omega) (by omega) l_y6 u_y6 l11 u12 l13 u14) mp_lkX3_91 2 rfl [2, 3] [0, 1] rfl rfl rfl rfl rfl ⟨(Nat.le_of_ble_eq_true rfl), (Nat.le_of_ble_eq_true rfl), (Nat.le_of_ble_eq_true rfl), (Nat.le_of_ble_eq_true rfl)⟩ (Nat.le_of_ble_eq_true rfl) (by decide +kernel) (fun v20 w21 h22 => ?_)
    rcases h22 with ⟨r23, rfl, l24, u25, rfl⟩ | ⟨r26, r27, r28, r29, rfl, c30, c31, c32, c33, l34, u35, l36, u37, l38, u39, rfl⟩
    · skip
      show mp_W E X 2 24 [(0, .ref a0)] [.int 0] [(a1, .inr (7, [.int y0, .int y1, .int y2, .int y3, .int y4, .int y5, .ref a4, .ref a2, .ref a5, .ref a6, .ref a7, .ref a8, .ref a9, .ref a10, .ref a11, .ref a12, .ref a13, .ref a14])), (a2, .inl (E.2.2 2, 12, .inr (.inl f0))), (a0, .inr (3, [.ref a3, .int y6, .ref a1, .int r23, .int r5, .int r4, .int r5, .int r6, .int r7, .int y13])), (a3, .inl (E.2.2 1, 1600, .inl f1))] 0 0
      refine mp_run hF mp_tabX3_ok [mp_h (.ifCond .ne 5) [29]] (by decide +kernel) ?_
      refine And.intro (fun c40 => absurd c40 (by decide)) (fun _ => ?_)
      show mp_W E X 2 27 [(0, .ref a0)] [] [(a1, .inr (7, [.int y0, .int y1, .int y2, .int y3, .int y4, .int y5, .ref a4, .ref a2, .ref a5, .ref a6, .ref a7, .ref a8, .ref a9, .ref a10, .ref a11, .ref a12, .ref a13, .ref a14])), (a2, .inl (E.2.2 2, 12, .inr (.inl f0))), (a0, .inr (3, [.ref a3, .int y6, .ref a1, .int r23, .int r5, .int r4, .int r5, .int r6, .int r7, .int y13])), (a3, .inl (E.2.2 1, 1600, .inl f1))] 0 0
      refine mp_run hF mp_tabX3_ok [mp_c (.iconst 0) 0] (by decide +kernel) ?_
      show mp_W E X 2 28 [(0, .ref a0)] [.int 0] [(a1, .inr (7, [.int y0, .int y1, .int y2, .int y3, .int y4, .int y5, .ref a4, .ref a2, .ref a5, .ref a6, .ref a7, .ref a8, .ref a9, .ref a10, .ref a11, .ref a12, .ref a13, .ref a14])), (a2, .inl (E.2.2 2, 12, .inr (.inl f0))), (a0, .inr (3, [.ref a3, .int y6, .ref a1, .int r23, .int r5, .int r4, .int r5, .int r6, .int r7, .int y13])), (a3, .inl (E.2.2 1, 1600, .inl f1))] 0 0
      exact mp_iret hF hQ rfl (by decide) (Nat.le_of_ble_eq_true rfl) (Nat.le_of_ble_eq_true rfl) [0, 1, 2, 3] (w' := [(a1, .inr (7, [.int y0, .int y1, .int y2, .int y3, .int y4, .int y5, .ref a4, .ref a2, .ref a5, .ref a6, .ref a7, .ref a8, .ref a9, .ref a10, .ref a11, .ref a12, .ref a13, .ref a14])), (a2, .inl (E.2.2 2, 12, .inr (.inl f0))), (a0, .inr (3, [.ref a3, .int y6, .ref a1, .int r23, .int r5, .int r4, .int r5, .int r6, .int r7, .int y13])), (a3, .inl (E.2.2 1, 1600, .inl f1))]) rfl rfl (Or.inl ⟨r23, r5, r4, r5, r6, r7, y13, rfl, l24, u25, l11, u12, l11, u12, l13, u14, rfl⟩) (by decide +kernel)
    · skip
      have c30 : r4.toInt = 2 := c30
      have c31 : 0 ≤ r7.toInt := c31
      have c32 : r7.toInt ≤ z17.toInt := c32
      have c33 : r7.toInt ≠ (-1) := c33
      show mp_W E X 2 24 [(0, .ref a0)] [.int 1] [(a1, .inr (7, [.int y0, .int y1, .int y2, .int y3, .int y4, .int y5, .ref a4, .ref a2, .ref a5, .ref a6, .ref a7, .ref a8, .ref a9, .ref a10, .ref a11, .ref a12, .ref a13, .ref a14])), (a2, .inl (E.2.2 2, 12, .inr (.inl f0))), (a0, .inr (3, [.ref a3, .int y6, .ref a1, .int y7, .int y8, .int r26, .int r27, .int r28, .int r29, .int r7])), (a3, .inl (E.2.2 1, 1600, .inl f1))] 0 0
      refine mp_run hF mp_tabX3_ok [mp_h (.ifCond .ne 5) [29]] (by decide +kernel) ?_
      refine And.intro (fun _ => ?_) (fun c41 => absurd c41 (by decide))
      show mp_W E X 2 29 [(0, .ref a0)] [] [(a1, .inr (7, [.int y0, .int y1, .int y2, .int y3, .int y4, .int y5, .ref a4, .ref a2, .ref a5, .ref a6, .ref a7, .ref a8, .ref a9, .ref a10, .ref a11, .ref a12, .ref a13, .ref a14])), (a2, .inl (E.2.2 2, 12, .inr (.inl f0))), (a0, .inr (3, [.ref a3, .int y6, .ref a1, .int y7, .int y8, .int r26, .int r27, .int r28, .int r29, .int r7])), (a3, .inl (E.2.2 1, 1600, .inl f1))] 0 0
      refine mp_run hF mp_tabX3_ok [mp_i (.aload_n 0), mp_h (.getfield 95) [18, 2], mp_i (.istore_n 1), mp_i (.aload_n 0), mp_c (.iconst 0) 0, mp_c (.bipush 99) 99, mp_c (.iconst (-1)) (-1)] (by decide +kernel) ?_
      refine And.intro rfl (And.intro rfl ?_)
      show mp_W E X 2 39 [(1, .int r7), (0, .ref a0)] [.int (-1), .int 99, .int 0, .ref a0] [(a1, .inr (7, [.int y0, .int y1, .int y2, .int y3, .int y4, .int y5, .ref a4, .ref a2, .ref a5, .ref a6, .ref a7, .ref a8, .ref a9, .ref a10, .ref a11, .ref a12, .ref a13, .ref a14])), (a2, .inl (E.2.2 2, 12, .inr (.inl f0))), (a0, .inr (3, [.ref a3, .int y6, .ref a1, .int y7, .int y8, .int r26, .int r27, .int r28, .int r29, .int r7])), (a3, .inl (E.2.2 1, 1600, .inl f1))] 0 0
      refine mp_callV hF (As := [.int 0, .int 99, .int (-1)]) (rest := []) (wr := [(a1, .inr (7, [.int y0, .int y1, .int y2, .int y3, .int y4, .int y5, .ref a4, .ref a2, .ref a5, .ref a6, .ref a7, .ref a8, .ref a9, .ref a10, .ref a11, .ref a12, .ref a13, .ref a14])), (a2, .inl (E.2.2 2, 12, .inr (.inl f0)))]) (bX3_takeNumber_22 E a0 a3 a1 f1 y6 y7 y8 r26 r27 r28 r29 r7 (-1) l_y6 u_y6 l36 u37 l38 u39) mp_lkX3_91 2 rfl [2, 3] [0, 1] rfl rfl rfl rfl rfl ⟨(Nat.le_of_ble_eq_true rfl), (Nat.le_of_ble_eq_true rfl), (Nat.le_of_ble_eq_true rfl), (Nat.le_of_ble_eq_true rfl)⟩ (Nat.le_of_ble_eq_true rfl) (by decide +kernel) (fun v42 w43 h44 => ?_)
      rcases h44 with ⟨r45, rfl, l46, u47, rfl⟩ | ⟨r48, r49, r50, r51, rfl, c52, c53, c54, c55, l56, u57, l58, u59, l60, u61, rfl⟩
      · skip
        show mp_W E X 2 42 [(1, .int r7), (0, .ref a0)] [.int 0] [(a1, .inr (7, [.int y0, .int y1, .int y2, .int y3, .int y4, .int y5, .ref a4, .ref a2, .ref a5, .ref a6, .ref a7, .ref a8, .ref a9, .ref a10, .ref a11, .ref a12, .ref a13, .ref a14])), (a2, .inl (E.2.2 2, 12, .inr (.inl f0))), (a0, .inr (3, [.ref a3, .int y6, .ref a1, .int r45, .int r27, .int r26, .int r27, .int r28, .int r29, .int r7])), (a3, .inl (E.2.2 1, 1600, .inl f1))] 0 0
        refine mp_run hF mp_tabX3_ok [mp_h (.ifCond .ne 5) [47]] (by decide +kernel) ?_
        refine And.intro (fun c62 => absurd c62 (by decide)) (fun _ => ?_)
        show mp_W E X 2 45 [(1, .int r7), (0, .ref a0)] [] [(a1, .inr (7, [.int y0, .int y1, .int y2, .int y3, .int y4, .int y5, .ref a4, .ref a2, .ref a5, .ref a6, .ref a7, .ref a8, .ref a9, .ref a10, .ref a11, .ref a12, .ref a13, .ref a14])), (a2, .inl (E.2.2 2, 12, .inr (.inl f0))), (a0, .inr (3, [.ref a3, .int y6, .ref a1, .int r45, .int r27, .int r26, .int r27, .int r28, .int r29, .int r7])), (a3, .inl (E.2.2 1, 1600, .inl f1))] 0 0
        refine mp_run hF mp_tabX3_ok [mp_c (.iconst 0) 0] (by decide +kernel) ?_
        show mp_W E X 2 46 [(1, .int r7), (0, .ref a0)] [.int 0] [(a1, .inr (7, [.int y0, .int y1, .int y2, .int y3, .int y4, .int y5, .ref a4, .ref a2, .ref a5, .ref a6, .ref a7, .ref a8, .ref a9, .ref a10, .ref a11, .ref a12, .ref a13, .ref a14])), (a2, .inl (E.2.2 2, 12, .inr (.inl f0))), (a0, .inr (3, [.ref a3, .int y6, .ref a1, .int r45, .int r27, .int r26, .int r27, .int r28, .int r29, .int r7])), (a3, .inl (E.2.2 1, 1600, .inl f1))] 0 0
        exact mp_iret hF hQ rfl (by decide) (Nat.le_of_ble_eq_true rfl) (Nat.le_of_ble_eq_true rfl) [0, 1, 2, 3] (w' := [(a1, .inr (7, [.int y0, .int y1, .int y2, .int y3, .int y4, .int y5, .ref a4, .ref a2, .ref a5, .ref a6, .ref a7, .ref a8, .ref a9, .ref a10, .ref a11, .ref a12, .ref a13, .ref a14])), (a2, .inl (E.2.2 2, 12, .inr (.inl f0))), (a0, .inr (3, [.ref a3, .int y6, .ref a1, .int r45, .int r27, .int r26, .int r27, .int r28, .int r29, .int r7])), (a3, .inl (E.2.2 1, 1600, .inl f1))]) rfl rfl (Or.inl ⟨r45, r27, r26, r27, r28, r29, r7, rfl, l46, u47, l36, u37, l36, u37, l38, u39, rfl⟩) (by decide +kernel)
      · skip
        have c52 : r26.toInt = 2 := c52
        have c53 : 0 ≤ r29.toInt := c53
        have c54 : r29.toInt ≤ 99 := c54
        have c55 : r29.toInt ≠ (-1) := c55
        show mp_W E X 2 42 [(1, .int r7), (0, .ref a0)] [.int 1] [(a1, .inr (7, [.int y0, .int y1, .int y2, .int y3, .int y4, .int y5, .ref a4, .ref a2, .ref a5, .ref a6, .ref a7, .ref a8, .ref a9, .ref a10, .ref a11, .ref a12, .ref a13, .ref a14])), (a2, .inl (E.2.2 2, 12, .inr (.inl f0))), (a0, .inr (3, [.ref a3, .int y6, .ref a1, .int y7, .int y8, .int r48, .int r49, .int r50, .int r51, .int r29])), (a3, .inl (E.2.2 1, 1600, .inl f1))] 0 0
        refine mp_run hF mp_tabX3_ok [mp_h (.ifCond .ne 5) [47]] (by decide +kernel) ?_
        refine And.intro (fun _ => ?_) (fun c63 => absurd c63 (by decide))
        show mp_W E X 2 47 [(1, .int r7), (0, .ref a0)] [] [(a1, .inr (7, [.int y0, .int y1, .int y2, .int y3, .int y4, .int y5, .ref a4, .ref a2, .ref a5, .ref a6, .ref a7, .ref a8, .ref a9, .ref a10, .ref a11, .ref a12, .ref a13, .ref a14])), (a2, .inl (E.2.2 2, 12, .inr (.inl f0))), (a0, .inr (3, [.ref a3, .int y6, .ref a1, .int y7, .int y8, .int r48, .int r49, .int r50, .int r51, .int r29])), (a3, .inl (E.2.2 1, 1600, .inl f1))] 0 0
        refine mp_run hF mp_tabX3_ok [mp_i (.aload_n 0), mp_h (.getfield 18) [11, 2], mp_i (.iload_n 1), mp_i (.aload_n 0), mp_h (.getfield 95) [18, 2], mp_c (.iconst 1) 1] (by decide +kernel) ?_
        refine And.intro rfl (And.intro rfl ?_)
        refine And.intro rfl (And.intro rfl ?_)
        show mp_W E X 2 57 [(1, .int r7), (0, .ref a0)] [.int 1, .int r29, .int r7, .ref a1] [(a1, .inr (7, [.int y0, .int y1, .int y2, .int y3, .int y4, .int y5, .ref a4, .ref a2, .ref a5, .ref a6, .ref a7, .ref a8, .ref a9, .ref a10, .ref a11, .ref a12, .ref a13, .ref a14])), (a2, .inl (E.2.2 2, 12, .inr (.inl f0))), (a0, .inr (3, [.ref a3, .int y6, .ref a1, .int y7, .int y8, .int r48, .int r49, .int r50, .int r51, .int r29])), (a3, .inl (E.2.2 1, 1600, .inl f1))] 0 0
        refine mp_callV hF (As := [.int r7, .int r29, .int 1]) (rest := []) (wr := [(a0, .inr (3, [.ref a3, .int y6, .ref a1, .int y7, .int y8, .int r48, .int r49, .int r50, .int r51, .int r29])), (a3, .inl (E.2.2 1, 1600, .inl f1))]) (bX7_setShut_23 E a1 a2 a4 a5 a6 a7 a8 a9 a10 a11 a12 a13 a14 f0 y0 y1 y2 y3 y4 y5 r7 r29 1 (by omega) (by omega) (by omega) (by omega) l_y1 u_y1 l_y2 u_y2 l_y3 u_y3 l_y4 u_y4 l_y5 u_y5) mp_lkX3_154 0 rfl [0, 1] [2, 3] rfl rfl rfl rfl rfl ⟨(Nat.le_of_ble_eq_true rfl), (Nat.le_of_ble_eq_true rfl), (Nat.le_of_ble_eq_true rfl), (Nat.le_of_ble_eq_true rfl)⟩ (Nat.le_of_ble_eq_true rfl) (by decide +kernel) (fun v64 w65 h66 => ?_)
        obtain ⟨g67, rfl, rfl⟩ := h66
        show mp_W E X 2 60 [(1, .int r7), (0, .ref a0)] [] [(a0, .inr (3, [.ref a3, .int y6, .ref a1, .int y7, .int y8, .int r48, .int r49, .int r50, .int r51, .int r29])), (a3, .inl (E.2.2 1, 1600, .inl f1)), (a1, .inr (7, [.int y0, .int y1, .int y2, .int y3, .int y4, .int y5, .ref a4, .ref a2, .ref a5, .ref a6, .ref a7, .ref a8, .ref a9, .ref a10, .ref a11, .ref a12, .ref a13, .ref a14])), (a2, .inl (E.2.2 2, 12, .inr (.inl g67)))] 0 0
        refine mp_run hF mp_tabX3_ok [mp_c (.iconst 1) 1] (by decide +kernel) ?_
        show mp_W E X 2 61 [(1, .int r7), (0, .ref a0)] [.int 1] [(a0, .inr (3, [.ref a3, .int y6, .ref a1, .int y7, .int y8, .int r48, .int r49, .int r50, .int r51, .int r29])), (a3, .inl (E.2.2 1, 1600, .inl f1)), (a1, .inr (7, [.int y0, .int y1, .int y2, .int y3, .int y4, .int y5, .ref a4, .ref a2, .ref a5, .ref a6, .ref a7, .ref a8, .ref a9, .ref a10, .ref a11, .ref a12, .ref a13, .ref a14])), (a2, .inl (E.2.2 2, 12, .inr (.inl g67)))] 0 0
        exact mp_iret hF hQ rfl (by decide) (Nat.le_of_ble_eq_true rfl) (Nat.le_of_ble_eq_true rfl) [2, 3, 0, 1] (w' := [(a1, .inr (7, [.int y0, .int y1, .int y2, .int y3, .int y4, .int y5, .ref a4, .ref a2, .ref a5, .ref a6, .ref a7, .ref a8, .ref a9, .ref a10, .ref a11, .ref a12, .ref a13, .ref a14])), (a2, .inl (E.2.2 2, 12, .inr (.inl g67))), (a0, .inr (3, [.ref a3, .int y6, .ref a1, .int y7, .int y8, .int r48, .int r49, .int r50, .int r51, .int r29])), (a3, .inl (E.2.2 1, 1600, .inl f1))]) rfl rfl (Or.inr ⟨g67, r48, r49, r50, r51, r29, rfl, (by first | omega | decide), l56, u57, l58, u59, l60, u61, (by omega), (by omega), rfl⟩) (by decide +kernel)
set_option maxHeartbeats 4000000 in
set_option maxRecDepth 100000 in
theorem bX3_takeNumber_25 (E : mp_E) (a0 a1 a2 : Nat) (f0 : Nat → Int32) (y0 : Int32) (y1 : Int32) (y2 : Int32) (y3 : Int32) (y4 : Int32) (y5 : Int32) (y6 : Int32) (y7 : Int32) (x0 : Int32) (l_y0 : 0 ≤ y0.toInt) (u_y0 : y0.toInt ≤ 1600) (l_y4 : 0 ≤ y4.toInt) (u_y4 : y4.toInt ≤ 1600) (l_y5 : 0 ≤ y5.toInt) (u_y5 : y5.toInt ≤ 1600) : mp_Ct E yX3_takeNumber cX3_takeNumber 4 (some FieldType.boolean) 2 0 0 41 [.ref a0, .int 1, .int 1000000, .int x0] [(a0, .inr (3, [.ref a1, .int y0, .ref a2, .int y1, .int y2, .int y3, .int y4, .int y5, .int y6, .int y7])), (a1, .inl (E.2.2 1, 1600, .inl f0))] (fun v w' => (∃ r1 : Int32, v = some (.int 0) ∧ 1 ≤ r1.toInt ∧ r1.toInt ≤ 2 ∧ w' = [(a0, .inr (3, [.ref a1, .int y0, .ref a2, .int r1, .int y4, .int y3, .int y4, .int y5, .int y6, .int y7])), (a1, .inl (E.2.2 1, 1600, .inl f0))]) ∨ (∃ r1 : Int32, ∃ r2 : Int32, ∃ r3 : Int32, ∃ r4 : Int32, v = some (.int 1) ∧ y3.toInt = 2 ∧ 1 ≤ y6.toInt ∧ y6.toInt ≤ 1000000 ∧ y6.toInt ≠ x0.toInt ∧ 0 ≤ r1.toInt ∧ r1.toInt ≤ 4 ∧ 0 ≤ r2.toInt ∧ r2.toInt ≤ 1600 ∧ 0 ≤ r3.toInt ∧ r3.toInt ≤ 1600 ∧ w' = [(a0, .inr (3, [.ref a1, .int y0, .ref a2, .int y1, .int y2, .int r1, .int r2, .int r3, .int r4, .int y6])), (a1, .inl (E.2.2 1, 1600, .inl f0))])) := by
  refine mp_met false (by decide) (by decide) (Nat.le_of_ble_eq_true rfl) (fun X hF hQ => ?_)
  have hF : mp_F E X (RX3, cX3_takeNumber, 4, (2, 0, 0, 41), (some FieldType.boolean), false) := hF
  show mp_W E X 4 0 [(0, .ref a0), (1, .int 1), (2, .int 1000000), (3, .int x0)] [] [(a0, .inr (3, [.ref a1, .int y0, .ref a2, .int y1, .int y2, .int y3, .int y4, .int y5, .int y6, .int y7])), (a1, .inl (E.2.2 1, 1600, .inl f0))] 0 0
  refine mp_run hF mp_tabX3_ok [mp_i (.aload_n 0), mp_h (.getfield 41) [14, 0], mp_c (.iconst 2) 2, mp_h (.if_icmp .eq 9) [14]] (by decide +kernel) ?_
  refine And.intro rfl (And.intro rfl ?_)
  refine And.intro (fun c1 => ?_) (fun c1 => ?_)
  · have c1 : y3.toInt = 2 := (congrArg Int32.toInt c1)
    show mp_W E X 4 14 [(0, .ref a0), (1, .int 1), (2, .int 1000000), (3, .int x0)] [] [(a0, .inr (3, [.ref a1, .int y0, .ref a2, .int y1, .int y2, .int y3, .int y4, .int y5, .int y6, .int y7])), (a1, .inl (E.2.2 1, 1600, .inl f0))] 0 0
    refine mp_run hF mp_tabX3_ok [mp_i (.aload_n 0), mp_h (.getfield 158) [17, 0], mp_i (.iload_n 1), mp_h (.if_icmp .lt 19) [38]] (by decide +kernel) ?_
    refine And.intro rfl (And.intro rfl ?_)
    refine And.intro (fun c2 => ?_) (fun c2 => ?_)
    · have c2 : y6.toInt < 1 := c2
      show mp_W E X 4 38 [(0, .ref a0), (1, .int 1), (2, .int 1000000), (3, .int x0)] [] [(a0, .inr (3, [.ref a1, .int y0, .ref a2, .int y1, .int y2, .int y3, .int y4, .int y5, .int y6, .int y7])), (a1, .inl (E.2.2 1, 1600, .inl f0))] 0 0
      refine mp_run hF mp_tabX3_ok [mp_i (.aload_n 0), mp_c (.iconst 2) 2] (by decide +kernel) ?_
      show mp_W E X 4 40 [(0, .ref a0), (1, .int 1), (2, .int 1000000), (3, .int x0)] [.int 2, .ref a0] [(a0, .inr (3, [.ref a1, .int y0, .ref a2, .int y1, .int y2, .int y3, .int y4, .int y5, .int y6, .int y7])), (a1, .inl (E.2.2 1, 1600, .inl f0))] 0 0
      refine mp_callV hF (As := [.int 2]) (rest := []) (wr := [(a1, .inl (E.2.2 1, 1600, .inl f0))]) (bX3_fail_19 E a0 a1 a2 y0 y1 y2 y3 y4 y5 y6 y7 2 l_y0 u_y0 l_y4 u_y4 l_y5 u_y5) mp_lkX3_60 0 rfl [0] [1] rfl rfl rfl rfl rfl ⟨(Nat.le_of_ble_eq_true rfl), (Nat.le_of_ble_eq_true rfl), (Nat.le_of_ble_eq_true rfl), (Nat.le_of_ble_eq_true rfl)⟩ (Nat.le_of_ble_eq_true rfl) (by decide +kernel) (fun v3 w4 h5 => ?_)
      obtain ⟨rfl, rfl⟩ := h5
      show mp_W E X 4 43 [(0, .ref a0), (1, .int 1), (2, .int 1000000), (3, .int x0)] [.int 0] [(a1, .inl (E.2.2 1, 1600, .inl f0)), (a0, .inr (3, [.ref a1, .int y0, .ref a2, .int 2, .int y4, .int y3, .int y4, .int y5, .int y6, .int y7]))] 0 0
      exact mp_iret hF hQ rfl (by decide) (Nat.le_of_ble_eq_true rfl) (Nat.le_of_ble_eq_true rfl) [1, 0] (w' := [(a0, .inr (3, [.ref a1, .int y0, .ref a2, .int 2, .int y4, .int y3, .int y4, .int y5, .int y6, .int y7])), (a1, .inl (E.2.2 1, 1600, .inl f0))]) rfl rfl (Or.inl ⟨2, rfl, (by decide), (by decide), rfl⟩) (by decide +kernel)
    · have c2 : 1 ≤ y6.toInt := c2
      show mp_W E X 4 22 [(0, .ref a0), (1, .int 1), (2, .int 1000000), (3, .int x0)] [] [(a0, .inr (3, [.ref a1, .int y0, .ref a2, .int y1, .int y2, .int y3, .int y4, .int y5, .int y6, .int y7])), (a1, .inl (E.2.2 1, 1600, .inl f0))] 0 0
      refine mp_run hF mp_tabX3_ok [mp_i (.aload_n 0), mp_h (.getfield 158) [17, 0], mp_i (.iload_n 2), mp_h (.if_icmp .gt 11) [38]] (by decide +kernel) ?_
      refine And.intro rfl (And.intro rfl ?_)
      refine And.intro (fun c6 => ?_) (fun c6 => ?_)
      · have c6 : 1000000 < y6.toInt := c6
        show mp_W E X 4 38 [(0, .ref a0), (1, .int 1), (2, .int 1000000), (3, .int x0)] [] [(a0, .inr (3, [.ref a1, .int y0, .ref a2, .int y1, .int y2, .int y3, .int y4, .int y5, .int y6, .int y7])), (a1, .inl (E.2.2 1, 1600, .inl f0))] 0 0
        refine mp_run hF mp_tabX3_ok [mp_i (.aload_n 0), mp_c (.iconst 2) 2] (by decide +kernel) ?_
        show mp_W E X 4 40 [(0, .ref a0), (1, .int 1), (2, .int 1000000), (3, .int x0)] [.int 2, .ref a0] [(a0, .inr (3, [.ref a1, .int y0, .ref a2, .int y1, .int y2, .int y3, .int y4, .int y5, .int y6, .int y7])), (a1, .inl (E.2.2 1, 1600, .inl f0))] 0 0
        refine mp_callV hF (As := [.int 2]) (rest := []) (wr := [(a1, .inl (E.2.2 1, 1600, .inl f0))]) (bX3_fail_19 E a0 a1 a2 y0 y1 y2 y3 y4 y5 y6 y7 2 l_y0 u_y0 l_y4 u_y4 l_y5 u_y5) mp_lkX3_60 0 rfl [0] [1] rfl rfl rfl rfl rfl ⟨(Nat.le_of_ble_eq_true rfl), (Nat.le_of_ble_eq_true rfl), (Nat.le_of_ble_eq_true rfl), (Nat.le_of_ble_eq_true rfl)⟩ (Nat.le_of_ble_eq_true rfl) (by decide +kernel) (fun v7 w8 h9 => ?_)
        obtain ⟨rfl, rfl⟩ := h9
        show mp_W E X 4 43 [(0, .ref a0), (1, .int 1), (2, .int 1000000), (3, .int x0)] [.int 0] [(a1, .inl (E.2.2 1, 1600, .inl f0)), (a0, .inr (3, [.ref a1, .int y0, .ref a2, .int 2, .int y4, .int y3, .int y4, .int y5, .int y6, .int y7]))] 0 0
        exact mp_iret hF hQ rfl (by decide) (Nat.le_of_ble_eq_true rfl) (Nat.le_of_ble_eq_true rfl) [1, 0] (w' := [(a0, .inr (3, [.ref a1, .int y0, .ref a2, .int 2, .int y4, .int y3, .int y4, .int y5, .int y6, .int y7])), (a1, .inl (E.2.2 1, 1600, .inl f0))]) rfl rfl (Or.inl ⟨2, rfl, (by decide), (by decide), rfl⟩) (by decide +kernel)
      · have c6 : y6.toInt ≤ 1000000 := c6
        show mp_W E X 4 30 [(0, .ref a0), (1, .int 1), (2, .int 1000000), (3, .int x0)] [] [(a0, .inr (3, [.ref a1, .int y0, .ref a2, .int y1, .int y2, .int y3, .int y4, .int y5, .int y6, .int y7])), (a1, .inl (E.2.2 1, 1600, .inl f0))] 0 0
        refine mp_run hF mp_tabX3_ok [mp_i (.aload_n 0), mp_h (.getfield 158) [17, 0], mp_i (.iload_n 3), mp_h (.if_icmp .ne 9) [44]] (by decide +kernel) ?_
        refine And.intro rfl (And.intro rfl ?_)
        refine And.intro (fun c10 => ?_) (fun c10 => ?_)
        · have c10 : y6.toInt ≠ x0.toInt := c10
          show mp_W E X 4 44 [(0, .ref a0), (1, .int 1), (2, .int 1000000), (3, .int x0)] [] [(a0, .inr (3, [.ref a1, .int y0, .ref a2, .int y1, .int y2, .int y3, .int y4, .int y5, .int y6, .int y7])), (a1, .inl (E.2.2 1, 1600, .inl f0))] 0 0
          refine mp_run hF mp_tabX3_ok [mp_i (.aload_n 0), mp_i (.aload_n 0), mp_h (.getfield 158) [17, 0], mp_h (.putfield 95) [18, 0]] (by decide +kernel) ?_
          refine And.intro rfl (And.intro rfl ?_)
          refine And.intro rfl (And.intro rfl (And.intro rfl (And.intro rfl (And.intro (Nat.le_of_ble_eq_true rfl) ?_))))
          show mp_W E X 4 52 [(0, .ref a0), (1, .int 1), (2, .int 1000000), (3, .int x0)] [] [(a0, .inr (3, [.ref a1, .int y0, .ref a2, .int y1, .int y2, .int y3, .int y4, .int y5, .int y6, .int y6])), (a1, .inl (E.2.2 1, 1600, .inl f0))] 0 0
          refine mp_run hF mp_tabX3_ok [mp_i (.aload_n 0)] (by decide +kernel) ?_
          show mp_W E X 4 53 [(0, .ref a0), (1, .int 1), (2, .int 1000000), (3, .int x0)] [.ref a0] [(a0, .inr (3, [.ref a1, .int y0, .ref a2, .int y1, .int y2, .int y3, .int y4, .int y5, .int y6, .int y6])), (a1, .inl (E.2.2 1, 1600, .inl f0))] 0 0
          refine mp_callV hF (As := []) (rest := []) (wr := []) (bX3_step_9 E a0 a1 a2 f0 y0 y1 y2 y3 y4 y5 y6 y6 l_y0 u_y0 l_y4 u_y4 l_y5 u_y5) mp_lkX3_38 0 rfl [0, 1] [] rfl rfl rfl rfl rfl ⟨(Nat.le_of_ble_eq_true rfl), (Nat.le_of_ble_eq_true rfl), (Nat.le_of_ble_eq_true rfl), (Nat.le_of_ble_eq_true rfl)⟩ (Nat.le_of_ble_eq_true rfl) (by decide +kernel) (fun v11 w12 h13 => ?_)
          obtain ⟨r14, r15, r16, r17, rfl, l18, u19, l20, u21, l22, u23, rfl⟩ := h13
          show mp_W E X 4 56 [(0, .ref a0), (1, .int 1), (2, .int 1000000), (3, .int x0)] [] [(a0, .inr (3, [.ref a1, .int y0, .ref a2, .int y1, .int y2, .int r14, .int r15, .int r16, .int r17, .int y6])), (a1, .inl (E.2.2 1, 1600, .inl f0))] 0 0
          refine mp_run hF mp_tabX3_ok [mp_c (.iconst 1) 1] (by decide +kernel) ?_
          show mp_W E X 4 57 [(0, .ref a0), (1, .int 1), (2, .int 1000000), (3, .int x0)] [.int 1] [(a0, .inr (3, [.ref a1, .int y0, .ref a2, .int y1, .int y2, .int r14, .int r15, .int r16, .int r17, .int y6])), (a1, .inl (E.2.2 1, 1600, .inl f0))] 0 0
          exact mp_iret hF hQ rfl (by decide) (Nat.le_of_ble_eq_true rfl) (Nat.le_of_ble_eq_true rfl) [0, 1] (w' := [(a0, .inr (3, [.ref a1, .int y0, .ref a2, .int y1, .int y2, .int r14, .int r15, .int r16, .int r17, .int y6])), (a1, .inl (E.2.2 1, 1600, .inl f0))]) rfl rfl (Or.inr ⟨r14, r15, r16, r17, rfl, (by first | omega | decide), (by first | omega | decide), (by first | omega | decide), (by first | omega | decide), l18, u19, l20, u21, l22, u23, rfl⟩) (by decide +kernel)
        · have c10 : y6.toInt = x0.toInt := (congrArg Int32.toInt c10)
          show mp_W E X 4 38 [(0, .ref a0), (1, .int 1), (2, .int 1000000), (3, .int x0)] [] [(a0, .inr (3, [.ref a1, .int y0, .ref a2, .int y1, .int y2, .int y3, .int y4, .int y5, .int y6, .int y7])), (a1, .inl (E.2.2 1, 1600, .inl f0))] 0 0
          refine mp_run hF mp_tabX3_ok [mp_i (.aload_n 0), mp_c (.iconst 2) 2] (by decide +kernel) ?_
          show mp_W E X 4 40 [(0, .ref a0), (1, .int 1), (2, .int 1000000), (3, .int x0)] [.int 2, .ref a0] [(a0, .inr (3, [.ref a1, .int y0, .ref a2, .int y1, .int y2, .int y3, .int y4, .int y5, .int y6, .int y7])), (a1, .inl (E.2.2 1, 1600, .inl f0))] 0 0
          refine mp_callV hF (As := [.int 2]) (rest := []) (wr := [(a1, .inl (E.2.2 1, 1600, .inl f0))]) (bX3_fail_19 E a0 a1 a2 y0 y1 y2 y3 y4 y5 y6 y7 2 l_y0 u_y0 l_y4 u_y4 l_y5 u_y5) mp_lkX3_60 0 rfl [0] [1] rfl rfl rfl rfl rfl ⟨(Nat.le_of_ble_eq_true rfl), (Nat.le_of_ble_eq_true rfl), (Nat.le_of_ble_eq_true rfl), (Nat.le_of_ble_eq_true rfl)⟩ (Nat.le_of_ble_eq_true rfl) (by decide +kernel) (fun v24 w25 h26 => ?_)
          obtain ⟨rfl, rfl⟩ := h26
          show mp_W E X 4 43 [(0, .ref a0), (1, .int 1), (2, .int 1000000), (3, .int x0)] [.int 0] [(a1, .inl (E.2.2 1, 1600, .inl f0)), (a0, .inr (3, [.ref a1, .int y0, .ref a2, .int 2, .int y4, .int y3, .int y4, .int y5, .int y6, .int y7]))] 0 0
          exact mp_iret hF hQ rfl (by decide) (Nat.le_of_ble_eq_true rfl) (Nat.le_of_ble_eq_true rfl) [1, 0] (w' := [(a0, .inr (3, [.ref a1, .int y0, .ref a2, .int 2, .int y4, .int y3, .int y4, .int y5, .int y6, .int y7])), (a1, .inl (E.2.2 1, 1600, .inl f0))]) rfl rfl (Or.inl ⟨2, rfl, (by decide), (by decide), rfl⟩) (by decide +kernel)
  · have c1 : y3.toInt ≠ 2 := c1
    show mp_W E X 4 8 [(0, .ref a0), (1, .int 1), (2, .int 1000000), (3, .int x0)] [] [(a0, .inr (3, [.ref a1, .int y0, .ref a2, .int y1, .int y2, .int y3, .int y4, .int y5, .int y6, .int y7])), (a1, .inl (E.2.2 1, 1600, .inl f0))] 0 0
    refine mp_run hF mp_tabX3_ok [mp_i (.aload_n 0), mp_c (.iconst 1) 1] (by decide +kernel) ?_
    show mp_W E X 4 10 [(0, .ref a0), (1, .int 1), (2, .int 1000000), (3, .int x0)] [.int 1, .ref a0] [(a0, .inr (3, [.ref a1, .int y0, .ref a2, .int y1, .int y2, .int y3, .int y4, .int y5, .int y6, .int y7])), (a1, .inl (E.2.2 1, 1600, .inl f0))] 0 0
    refine mp_callV hF (As := [.int 1]) (rest := []) (wr := [(a1, .inl (E.2.2 1, 1600, .inl f0))]) (bX3_fail_19 E a0 a1 a2 y0 y1 y2 y3 y4 y5 y6 y7 1 l_y0 u_y0 l_y4 u_y4 l_y5 u_y5) mp_lkX3_60 0 rfl [0] [1] rfl rfl rfl rfl rfl ⟨(Nat.le_of_ble_eq_true rfl), (Nat.le_of_ble_eq_true rfl), (Nat.le_of_ble_eq_true rfl), (Nat.le_of_ble_eq_true rfl)⟩ (Nat.le_of_ble_eq_true rfl) (by decide +kernel) (fun v27 w28 h29 => ?_)
    obtain ⟨rfl, rfl⟩ := h29
    show mp_W E X 4 13 [(0, .ref a0), (1, .int 1), (2, .int 1000000), (3, .int x0)] [.int 0] [(a1, .inl (E.2.2 1, 1600, .inl f0)), (a0, .inr (3, [.ref a1, .int y0, .ref a2, .int 1, .int y4, .int y3, .int y4, .int y5, .int y6, .int y7]))] 0 0
    exact mp_iret hF hQ rfl (by decide) (Nat.le_of_ble_eq_true rfl) (Nat.le_of_ble_eq_true rfl) [1, 0] (w' := [(a0, .inr (3, [.ref a1, .int y0, .ref a2, .int 1, .int y4, .int y3, .int y4, .int y5, .int y6, .int y7])), (a1, .inl (E.2.2 1, 1600, .inl f0))]) rfl rfl (Or.inl ⟨1, rfl, (by decide), (by decide), rfl⟩) (by decide +kernel)
set_option maxHeartbeats 4000000 in
set_option maxRecDepth 100000 in
theorem bX3_takeNumber_26 (E : mp_E) (a0 a1 a2 : Nat) (f0 : Nat → Int32) (y0 : Int32) (y1 : Int32) (y2 : Int32) (y3 : Int32) (y4 : Int32) (y5 : Int32) (y6 : Int32) (y7 : Int32) (x0 : Int32) (x1 : Int32) (l_x0 : 0 ≤ x0.toInt) (u_x0 : x0.toInt ≤ 99) (l_y0 : 0 ≤ y0.toInt) (u_y0 : y0.toInt ≤ 1600) (l_y4 : 0 ≤ y4.toInt) (u_y4 : y4.toInt ≤ 1600) (l_y5 : 0 ≤ y5.toInt) (u_y5 : y5.toInt ≤ 1600) : mp_Ct E yX3_takeNumber cX3_takeNumber 4 (some FieldType.boolean) 2 0 0 41 [.ref a0, .int 0, .int x0, .int x1] [(a0, .inr (3, [.ref a1, .int y0, .ref a2, .int y1, .int y2, .int y3, .int y4, .int y5, .int y6, .int y7])), (a1, .inl (E.2.2 1, 1600, .inl f0))] (fun v w' => (∃ r1 : Int32, v = some (.int 0) ∧ 1 ≤ r1.toInt ∧ r1.toInt ≤ 2 ∧ w' = [(a0, .inr (3, [.ref a1, .int y0, .ref a2, .int r1, .int y4, .int y3, .int y4, .int y5, .int y6, .int y7])), (a1, .inl (E.2.2 1, 1600, .inl f0))]) ∨ (∃ r1 : Int32, ∃ r2 : Int32, ∃ r3 : Int32, ∃ r4 : Int32, v = some (.int 1) ∧ y3.toInt = 2 ∧ 0 ≤ y6.toInt ∧ y6.toInt ≤ x0.toInt ∧ y6.toInt ≠ x1.toInt ∧ 0 ≤ r1.toInt ∧ r1.toInt ≤ 4 ∧ 0 ≤ r2.toInt ∧ r2.toInt ≤ 1600 ∧ 0 ≤ r3.toInt ∧ r3.toInt ≤ 1600 ∧ w' = [(a0, .inr (3, [.ref a1, .int y0, .ref a2, .int y1, .int y2, .int r1, .int r2, .int r3, .int r4, .int y6])), (a1, .inl (E.2.2 1, 1600, .inl f0))])) := by
  refine mp_met false (by decide) (by decide) (Nat.le_of_ble_eq_true rfl) (fun X hF hQ => ?_)
  have hF : mp_F E X (RX3, cX3_takeNumber, 4, (2, 0, 0, 41), (some FieldType.boolean), false) := hF
  show mp_W E X 4 0 [(0, .ref a0), (1, .int 0), (2, .int x0), (3, .int x1)] [] [(a0, .inr (3, [.ref a1, .int y0, .ref a2, .int y1, .int y2, .int y3, .int y4, .int y5, .int y6, .int y7])), (a1, .inl (E.2.2 1, 1600, .inl f0))] 0 0
  refine mp_run hF mp_tabX3_ok [mp_i (.aload_n 0), mp_h (.getfield 41) [14, 0], mp_c (.iconst 2) 2, mp_h (.if_icmp .eq 9) [14]] (by decide +kernel) ?_
  refine And.intro rfl (And.intro rfl ?_)
  refine And.intro (fun c1 => ?_) (fun c1 => ?_)
  · have c1 : y3.toInt = 2 := (congrArg Int32.toInt c1)
    show mp_W E X 4 14 [(0, .ref a0), (1, .int 0), (2, .int x0), (3, .int x1)] [] [(a0, .inr (3, [.ref a1, .int y0, .ref a2, .int y1, .int y2, .int y3, .int y4, .int y5, .int y6, .int y7])), (a1, .inl (E.2.2 1, 1600, .inl f0))] 0 0
    refine mp_run hF mp_tabX3_ok [mp_i (.aload_n 0), mp_h (.getfield 158) [17, 0], mp_i (.iload_n 1), mp_h (.if_icmp .lt 19) [38]] (by decide +kernel) ?_
    refine And.intro rfl (And.intro rfl ?_)
    refine And.intro (fun c2 => ?_) (fun c2 => ?_)
    · have c2 : y6.toInt < 0 := c2
      show mp_W E X 4 38 [(0, .ref a0), (1, .int 0), (2, .int x0), (3, .int x1)] [] [(a0, .inr (3, [.ref a1, .int y0, .ref a2, .int y1, .int y2, .int y3, .int y4, .int y5, .int y6, .int y7])), (a1, .inl (E.2.2 1, 1600, .inl f0))] 0 0
      refine mp_run hF mp_tabX3_ok [mp_i (.aload_n 0), mp_c (.iconst 2) 2] (by decide +kernel) ?_
      show mp_W E X 4 40 [(0, .ref a0), (1, .int 0), (2, .int x0), (3, .int x1)] [.int 2, .ref a0] [(a0, .inr (3, [.ref a1, .int y0, .ref a2, .int y1, .int y2, .int y3, .int y4, .int y5, .int y6, .int y7])), (a1, .inl (E.2.2 1, 1600, .inl f0))] 0 0
      refine mp_callV hF (As := [.int 2]) (rest := []) (wr := [(a1, .inl (E.2.2 1, 1600, .inl f0))]) (bX3_fail_19 E a0 a1 a2 y0 y1 y2 y3 y4 y5 y6 y7 2 l_y0 u_y0 l_y4 u_y4 l_y5 u_y5) mp_lkX3_60 0 rfl [0] [1] rfl rfl rfl rfl rfl ⟨(Nat.le_of_ble_eq_true rfl), (Nat.le_of_ble_eq_true rfl), (Nat.le_of_ble_eq_true rfl), (Nat.le_of_ble_eq_true rfl)⟩ (Nat.le_of_ble_eq_true rfl) (by decide +kernel) (fun v3 w4 h5 => ?_)
      obtain ⟨rfl, rfl⟩ := h5
      show mp_W E X 4 43 [(0, .ref a0), (1, .int 0), (2, .int x0), (3, .int x1)] [.int 0] [(a1, .inl (E.2.2 1, 1600, .inl f0)), (a0, .inr (3, [.ref a1, .int y0, .ref a2, .int 2, .int y4, .int y3, .int y4, .int y5, .int y6, .int y7]))] 0 0
      exact mp_iret hF hQ rfl (by decide) (Nat.le_of_ble_eq_true rfl) (Nat.le_of_ble_eq_true rfl) [1, 0] (w' := [(a0, .inr (3, [.ref a1, .int y0, .ref a2, .int 2, .int y4, .int y3, .int y4, .int y5, .int y6, .int y7])), (a1, .inl (E.2.2 1, 1600, .inl f0))]) rfl rfl (Or.inl ⟨2, rfl, (by decide), (by decide), rfl⟩) (by decide +kernel)
    · have c2 : 0 ≤ y6.toInt := c2
      show mp_W E X 4 22 [(0, .ref a0), (1, .int 0), (2, .int x0), (3, .int x1)] [] [(a0, .inr (3, [.ref a1, .int y0, .ref a2, .int y1, .int y2, .int y3, .int y4, .int y5, .int y6, .int y7])), (a1, .inl (E.2.2 1, 1600, .inl f0))] 0 0
      refine mp_run hF mp_tabX3_ok [mp_i (.aload_n 0), mp_h (.getfield 158) [17, 0], mp_i (.iload_n 2), mp_h (.if_icmp .gt 11) [38]] (by decide +kernel) ?_
      refine And.intro rfl (And.intro rfl ?_)
      refine And.intro (fun c6 => ?_) (fun c6 => ?_)
      · have c6 : x0.toInt < y6.toInt := c6
        show mp_W E X 4 38 [(0, .ref a0), (1, .int 0), (2, .int x0), (3, .int x1)] [] [(a0, .inr (3, [.ref a1, .int y0, .ref a2, .int y1, .int y2, .int y3, .int y4, .int y5, .int y6, .int y7])), (a1, .inl (E.2.2 1, 1600, .inl f0))] 0 0
        refine mp_run hF mp_tabX3_ok [mp_i (.aload_n 0), mp_c (.iconst 2) 2] (by decide +kernel) ?_
        show mp_W E X 4 40 [(0, .ref a0), (1, .int 0), (2, .int x0), (3, .int x1)] [.int 2, .ref a0] [(a0, .inr (3, [.ref a1, .int y0, .ref a2, .int y1, .int y2, .int y3, .int y4, .int y5, .int y6, .int y7])), (a1, .inl (E.2.2 1, 1600, .inl f0))] 0 0
        refine mp_callV hF (As := [.int 2]) (rest := []) (wr := [(a1, .inl (E.2.2 1, 1600, .inl f0))]) (bX3_fail_19 E a0 a1 a2 y0 y1 y2 y3 y4 y5 y6 y7 2 l_y0 u_y0 l_y4 u_y4 l_y5 u_y5) mp_lkX3_60 0 rfl [0] [1] rfl rfl rfl rfl rfl ⟨(Nat.le_of_ble_eq_true rfl), (Nat.le_of_ble_eq_true rfl), (Nat.le_of_ble_eq_true rfl), (Nat.le_of_ble_eq_true rfl)⟩ (Nat.le_of_ble_eq_true rfl) (by decide +kernel) (fun v7 w8 h9 => ?_)
        obtain ⟨rfl, rfl⟩ := h9
        show mp_W E X 4 43 [(0, .ref a0), (1, .int 0), (2, .int x0), (3, .int x1)] [.int 0] [(a1, .inl (E.2.2 1, 1600, .inl f0)), (a0, .inr (3, [.ref a1, .int y0, .ref a2, .int 2, .int y4, .int y3, .int y4, .int y5, .int y6, .int y7]))] 0 0
        exact mp_iret hF hQ rfl (by decide) (Nat.le_of_ble_eq_true rfl) (Nat.le_of_ble_eq_true rfl) [1, 0] (w' := [(a0, .inr (3, [.ref a1, .int y0, .ref a2, .int 2, .int y4, .int y3, .int y4, .int y5, .int y6, .int y7])), (a1, .inl (E.2.2 1, 1600, .inl f0))]) rfl rfl (Or.inl ⟨2, rfl, (by decide), (by decide), rfl⟩) (by decide +kernel)
      · have c6 : y6.toInt ≤ x0.toInt := c6
        show mp_W E X 4 30 [(0, .ref a0), (1, .int 0), (2, .int x0), (3, .int x1)] [] [(a0, .inr (3, [.ref a1, .int y0, .ref a2, .int y1, .int y2, .int y3, .int y4, .int y5, .int y6, .int y7])), (a1, .inl (E.2.2 1, 1600, .inl f0))] 0 0
        refine mp_run hF mp_tabX3_ok [mp_i (.aload_n 0), mp_h (.getfield 158) [17, 0], mp_i (.iload_n 3), mp_h (.if_icmp .ne 9) [44]] (by decide +kernel) ?_
        refine And.intro rfl (And.intro rfl ?_)
        refine And.intro (fun c10 => ?_) (fun c10 => ?_)
        · have c10 : y6.toInt ≠ x1.toInt := c10
          show mp_W E X 4 44 [(0, .ref a0), (1, .int 0), (2, .int x0), (3, .int x1)] [] [(a0, .inr (3, [.ref a1, .int y0, .ref a2, .int y1, .int y2, .int y3, .int y4, .int y5, .int y6, .int y7])), (a1, .inl (E.2.2 1, 1600, .inl f0))] 0 0
          refine mp_run hF mp_tabX3_ok [mp_i (.aload_n 0), mp_i (.aload_n 0), mp_h (.getfield 158) [17, 0], mp_h (.putfield 95) [18, 0]] (by decide +kernel) ?_
          refine And.intro rfl (And.intro rfl ?_)
          refine And.intro rfl (And.intro rfl (And.intro rfl (And.intro rfl (And.intro (Nat.le_of_ble_eq_true rfl) ?_))))
          show mp_W E X 4 52 [(0, .ref a0), (1, .int 0), (2, .int x0), (3, .int x1)] [] [(a0, .inr (3, [.ref a1, .int y0, .ref a2, .int y1, .int y2, .int y3, .int y4, .int y5, .int y6, .int y6])), (a1, .inl (E.2.2 1, 1600, .inl f0))] 0 0
          refine mp_run hF mp_tabX3_ok [mp_i (.aload_n 0)] (by decide +kernel) ?_
          show mp_W E X 4 53 [(0, .ref a0), (1, .int 0), (2, .int x0), (3, .int x1)] [.ref a0] [(a0, .inr (3, [.ref a1, .int y0, .ref a2, .int y1, .int y2, .int y3, .int y4, .int y5, .int y6, .int y6])), (a1, .inl (E.2.2 1, 1600, .inl f0))] 0 0
          refine mp_callV hF (As := []) (rest := []) (wr := []) (bX3_step_9 E a0 a1 a2 f0 y0 y1 y2 y3 y4 y5 y6 y6 l_y0 u_y0 l_y4 u_y4 l_y5 u_y5) mp_lkX3_38 0 rfl [0, 1] [] rfl rfl rfl rfl rfl ⟨(Nat.le_of_ble_eq_true rfl), (Nat.le_of_ble_eq_true rfl), (Nat.le_of_ble_eq_true rfl), (Nat.le_of_ble_eq_true rfl)⟩ (Nat.le_of_ble_eq_true rfl) (by decide +kernel) (fun v11 w12 h13 => ?_)
          obtain ⟨r14, r15, r16, r17, rfl, l18, u19, l20, u21, l22, u23, rfl⟩ := h13
          show mp_W E X 4 56 [(0, .ref a0), (1, .int 0), (2, .int x0), (3, .int x1)] [] [(a0, .inr (3, [.ref a1, .int y0, .ref a2, .int y1, .int y2, .int r14, .int r15, .int r16, .int r17, .int y6])), (a1, .inl (E.2.2 1, 1600, .inl f0))] 0 0
          refine mp_run hF mp_tabX3_ok [mp_c (.iconst 1) 1] (by decide +kernel) ?_
          show mp_W E X 4 57 [(0, .ref a0), (1, .int 0), (2, .int x0), (3, .int x1)] [.int 1] [(a0, .inr (3, [.ref a1, .int y0, .ref a2, .int y1, .int y2, .int r14, .int r15, .int r16, .int r17, .int y6])), (a1, .inl (E.2.2 1, 1600, .inl f0))] 0 0
          exact mp_iret hF hQ rfl (by decide) (Nat.le_of_ble_eq_true rfl) (Nat.le_of_ble_eq_true rfl) [0, 1] (w' := [(a0, .inr (3, [.ref a1, .int y0, .ref a2, .int y1, .int y2, .int r14, .int r15, .int r16, .int r17, .int y6])), (a1, .inl (E.2.2 1, 1600, .inl f0))]) rfl rfl (Or.inr ⟨r14, r15, r16, r17, rfl, (by first | omega | decide), (by first | omega | decide), (by first | omega | decide), (by first | omega | decide), l18, u19, l20, u21, l22, u23, rfl⟩) (by decide +kernel)
        · have c10 : y6.toInt = x1.toInt := (congrArg Int32.toInt c10)
          show mp_W E X 4 38 [(0, .ref a0), (1, .int 0), (2, .int x0), (3, .int x1)] [] [(a0, .inr (3, [.ref a1, .int y0, .ref a2, .int y1, .int y2, .int y3, .int y4, .int y5, .int y6, .int y7])), (a1, .inl (E.2.2 1, 1600, .inl f0))] 0 0
          refine mp_run hF mp_tabX3_ok [mp_i (.aload_n 0), mp_c (.iconst 2) 2] (by decide +kernel) ?_
          show mp_W E X 4 40 [(0, .ref a0), (1, .int 0), (2, .int x0), (3, .int x1)] [.int 2, .ref a0] [(a0, .inr (3, [.ref a1, .int y0, .ref a2, .int y1, .int y2, .int y3, .int y4, .int y5, .int y6, .int y7])), (a1, .inl (E.2.2 1, 1600, .inl f0))] 0 0
          refine mp_callV hF (As := [.int 2]) (rest := []) (wr := [(a1, .inl (E.2.2 1, 1600, .inl f0))]) (bX3_fail_19 E a0 a1 a2 y0 y1 y2 y3 y4 y5 y6 y7 2 l_y0 u_y0 l_y4 u_y4 l_y5 u_y5) mp_lkX3_60 0 rfl [0] [1] rfl rfl rfl rfl rfl ⟨(Nat.le_of_ble_eq_true rfl), (Nat.le_of_ble_eq_true rfl), (Nat.le_of_ble_eq_true rfl), (Nat.le_of_ble_eq_true rfl)⟩ (Nat.le_of_ble_eq_true rfl) (by decide +kernel) (fun v24 w25 h26 => ?_)
          obtain ⟨rfl, rfl⟩ := h26
          show mp_W E X 4 43 [(0, .ref a0), (1, .int 0), (2, .int x0), (3, .int x1)] [.int 0] [(a1, .inl (E.2.2 1, 1600, .inl f0)), (a0, .inr (3, [.ref a1, .int y0, .ref a2, .int 2, .int y4, .int y3, .int y4, .int y5, .int y6, .int y7]))] 0 0
          exact mp_iret hF hQ rfl (by decide) (Nat.le_of_ble_eq_true rfl) (Nat.le_of_ble_eq_true rfl) [1, 0] (w' := [(a0, .inr (3, [.ref a1, .int y0, .ref a2, .int 2, .int y4, .int y3, .int y4, .int y5, .int y6, .int y7])), (a1, .inl (E.2.2 1, 1600, .inl f0))]) rfl rfl (Or.inl ⟨2, rfl, (by decide), (by decide), rfl⟩) (by decide +kernel)
  · have c1 : y3.toInt ≠ 2 := c1
    show mp_W E X 4 8 [(0, .ref a0), (1, .int 0), (2, .int x0), (3, .int x1)] [] [(a0, .inr (3, [.ref a1, .int y0, .ref a2, .int y1, .int y2, .int y3, .int y4, .int y5, .int y6, .int y7])), (a1, .inl (E.2.2 1, 1600, .inl f0))] 0 0
    refine mp_run hF mp_tabX3_ok [mp_i (.aload_n 0), mp_c (.iconst 1) 1] (by decide +kernel) ?_
    show mp_W E X 4 10 [(0, .ref a0), (1, .int 0), (2, .int x0), (3, .int x1)] [.int 1, .ref a0] [(a0, .inr (3, [.ref a1, .int y0, .ref a2, .int y1, .int y2, .int y3, .int y4, .int y5, .int y6, .int y7])), (a1, .inl (E.2.2 1, 1600, .inl f0))] 0 0
    refine mp_callV hF (As := [.int 1]) (rest := []) (wr := [(a1, .inl (E.2.2 1, 1600, .inl f0))]) (bX3_fail_19 E a0 a1 a2 y0 y1 y2 y3 y4 y5 y6 y7 1 l_y0 u_y0 l_y4 u_y4 l_y5 u_y5) mp_lkX3_60 0 rfl [0] [1] rfl rfl rfl rfl rfl ⟨(Nat.le_of_ble_eq_true rfl), (Nat.le_of_ble_eq_true rfl), (Nat.le_of_ble_eq_true rfl), (Nat.le_of_ble_eq_true rfl)⟩ (Nat.le_of_ble_eq_true rfl) (by decide +kernel) (fun v27 w28 h29 => ?_)
    obtain ⟨rfl, rfl⟩ := h29
    show mp_W E X 4 13 [(0, .ref a0), (1, .int 0), (2, .int x0), (3, .int x1)] [.int 0] [(a1, .inl (E.2.2 1, 1600, .inl f0)), (a0, .inr (3, [.ref a1, .int y0, .ref a2, .int 1, .int y4, .int y3, .int y4, .int y5, .int y6, .int y7]))] 0 0
    exact mp_iret hF hQ rfl (by decide) (Nat.le_of_ble_eq_true rfl) (Nat.le_of_ble_eq_true rfl) [1, 0] (w' := [(a0, .inr (3, [.ref a1, .int y0, .ref a2, .int 1, .int y4, .int y3, .int y4, .int y5, .int y6, .int y7])), (a1, .inl (E.2.2 1, 1600, .inl f0))]) rfl rfl (Or.inl ⟨1, rfl, (by decide), (by decide), rfl⟩) (by decide +kernel)
set_option maxHeartbeats 4000000 in
set_option maxRecDepth 100000 in
theorem bX7_addPromise_27 (E : mp_E) (a0 a1 a2 a3 a4 a5 a6 a7 a8 a9 a10 a11 a12 : Nat) (f0 : Nat → Int32) (f1 : Nat → Int32) (f2 : Nat → Int32) (f3 : Nat → Int32) (f4 : Nat → Int32) (f5 : Nat → Int32) (y0 : Int32) (y1 : Int32) (y2 : Int32) (y3 : Int32) (y4 : Int32) (y5 : Int32) (x0 : Int32) (x1 : Int32) (x2 : Int32) (x3 : Int32) (p0 : mp_all f0 10 0 5) (p1 : mp_all f1 10 0 5) (p2 : mp_all f3 10 0 99) (p3 : mp_all f4 10 0 1) (p4 : mp_all f5 10 (-1) 9) (l_x0 : 0 ≤ x0.toInt) (u_x0 : x0.toInt ≤ 5) (l_x1 : 0 ≤ x1.toInt) (u_x1 : x1.toInt ≤ 5) (l_x3 : 0 ≤ x3.toInt) (u_x3 : x3.toInt ≤ 99) (l_y1 : 0 ≤ y1.toInt) (u_y1 : y1.toInt ≤ 6) (l_y2 : 0 ≤ y2.toInt) (u_y2 : y2.toInt ≤ 99) (l_y3 : 0 ≤ y3.toInt) (u_y3 : y3.toInt ≤ 6) (l_y4 : 0 ≤ y4.toInt) (u_y4 : y4.toInt ≤ 9) (l_y5 : 0 ≤ y5.toInt) (u_y5 : y5.toInt ≤ 60) : mp_Ct E yX7_addPromise cX7_addPromise 5 none 0 0 0 0 [.ref a0, .int x0, .int x1, .int x2, .int x3] [(a1, .inl (E.2.2 0, 10, .inl f0)), (a2, .inl (E.2.2 0, 10, .inl f1)), (a3, .inl (E.2.2 0, 10, .inl f2)), (a4, .inl (E.2.2 0, 10, .inl f3)), (a5, .inl (E.2.2 0, 10, .inl f4)), (a6, .inl (E.2.2 0, 10, .inl f5)), (a0, .inr (7, [.int y0, .int y1, .int y2, .int y3, .int y4, .int y5, .ref a7, .ref a8, .ref a9, .ref a10, .ref a11, .ref a1, .ref a2, .ref a3, .ref a4, .ref a5, .ref a6, .ref a12]))] (fun v w' => ∃ h1 : Nat → Int32, ∃ h2 : Nat → Int32, ∃ h3 : Nat → Int32, ∃ h4 : Nat → Int32, ∃ h5 : Nat → Int32, ∃ h6 : Nat → Int32, ∃ r7 : Int32, v = none ∧ 1 ≤ r7.toInt ∧ r7.toInt ≤ 10 ∧ mp_all h1 10 0 5 ∧ mp_all h2 10 0 5 ∧ mp_all h4 10 0 99 ∧ mp_all h5 10 0 1 ∧ mp_all h6 10 (-1) 9 ∧ w' = [(a1, .inl (E.2.2 0, 10, .inl h1)), (a2, .inl (E.2.2 0, 10, .inl h2)), (a3, .inl (E.2.2 0, 10, .inl h3)), (a4, .inl (E.2.2 0, 10, .inl h4)), (a5, .inl (E.2.2 0, 10, .inl h5)), (a6, .inl (E.2.2 0, 10, .inl h6)), (a0, .inr (7, [.int y0, .int y1, .int y2, .int y3, .int r7, .int y5, .ref a7, .ref a8, .ref a9, .ref a10, .ref a11, .ref a1, .ref a2, .ref a3, .ref a4, .ref a5, .ref a6, .ref a12]))]) := by
  refine mp_met false (by decide) (by decide) (Nat.le_of_ble_eq_true rfl) (fun X hF hQ => ?_)
  have hF : mp_F E X (RX7, cX7_addPromise, 5, (0, 0, 0, 0), none, false) := hF
  show mp_W E X 5 0 [(0, .ref a0), (1, .int x0), (2, .int x1), (3, .int x2), (4, .int x3)] [] [(a1, .inl (E.2.2 0, 10, .inl f0)), (a2, .inl (E.2.2 0, 10, .inl f1)), (a3, .inl (E.2.2 0, 10, .inl f2)), (a4, .inl (E.2.2 0, 10, .inl f3)), (a5, .inl (E.2.2 0, 10, .inl f4)), (a6, .inl (E.2.2 0, 10, .inl f5)), (a0, .inr (7, [.int y0, .int y1, .int y2, .int y3, .int y4, .int y5, .ref a7, .ref a8, .ref a9, .ref a10, .ref a11, .ref a1, .ref a2, .ref a3, .ref a4, .ref a5, .ref a6, .ref a12]))] 0 0
  refine mp_run hF mp_tabX7_ok [mp_i (.aload_n 0), mp_h (.getfield 28) [11, 6], mp_i (.aload_n 0), mp_h (.getfield 62) [4, 6], mp_i (.iload_n 1), mp_h .iastore [0]] (by decide +kernel) ?_
  refine And.intro rfl (And.intro rfl ?_)
  refine And.intro rfl (And.intro rfl ?_)
  refine And.intro rfl (And.intro rfl (And.intro (vp_in_iff.mpr (by omega)) ?_))
  intro g1 h2
  have p3 : mp_all g1 10 0 5 := mp_all_st h2 p0 l_x0 u_x0
  show mp_W E X 5 10 [(0, .ref a0), (1, .int x0), (2, .int x1), (3, .int x2), (4, .int x3)] [] [(a1, .inl (E.2.2 0, 10, .inl g1)), (a2, .inl (E.2.2 0, 10, .inl f1)), (a3, .inl (E.2.2 0, 10, .inl f2)), (a4, .inl (E.2.2 0, 10, .inl f3)), (a5, .inl (E.2.2 0, 10, .inl f4)), (a6, .inl (E.2.2 0, 10, .inl f5)), (a0, .inr (7, [.int y0, .int y1, .int y2, .int y3, .int y4, .int y5, .ref a7, .ref a8, .ref a9, .ref a10, .ref a11, .ref a1, .ref a2, .ref a3, .ref a4, .ref a5, .ref a6, .ref a12]))] 0 0
  refine mp_run hF mp_tabX7_ok [mp_i (.aload_n 0), mp_h (.getfield 31) [12, 6], mp_i (.aload_n 0), mp_h (.getfield 62) [4, 6], mp_i (.iload_n 2), mp_h .iastore [1]] (by decide +kernel) ?_
  refine And.intro rfl (And.intro rfl ?_)
  refine And.intro rfl (And.intro rfl ?_)
  refine And.intro rfl (And.intro rfl (And.intro (vp_in_iff.mpr (by omega)) ?_))
  intro g4 h5
  have p6 : mp_all g4 10 0 5 := mp_all_st h5 p1 l_x1 u_x1
  show mp_W E X 5 20 [(0, .ref a0), (1, .int x0), (2, .int x1), (3, .int x2), (4, .int x3)] [] [(a1, .inl (E.2.2 0, 10, .inl g1)), (a2, .inl (E.2.2 0, 10, .inl g4)), (a3, .inl (E.2.2 0, 10, .inl f2)), (a4, .inl (E.2.2 0, 10, .inl f3)), (a5, .inl (E.2.2 0, 10, .inl f4)), (a6, .inl (E.2.2 0, 10, .inl f5)), (a0, .inr (7, [.int y0, .int y1, .int y2, .int y3, .int y4, .int y5, .ref a7, .ref a8, .ref a9, .ref a10, .ref a11, .ref a1, .ref a2, .ref a3, .ref a4, .ref a5, .ref a6, .ref a12]))] 0 0
  refine mp_run hF mp_tabX7_ok [mp_i (.aload_n 0), mp_h (.getfield 34) [13, 6], mp_i (.aload_n 0), mp_h (.getfield 62) [4, 6], mp_i (.iload_n 3), mp_h .iastore [2]] (by decide +kernel) ?_
  refine And.intro rfl (And.intro rfl ?_)
  refine And.intro rfl (And.intro rfl ?_)
  refine And.intro rfl (And.intro rfl (And.intro (vp_in_iff.mpr (by omega)) ?_))
  intro g7 h8
  show mp_W E X 5 30 [(0, .ref a0), (1, .int x0), (2, .int x1), (3, .int x2), (4, .int x3)] [] [(a1, .inl (E.2.2 0, 10, .inl g1)), (a2, .inl (E.2.2 0, 10, .inl g4)), (a3, .inl (E.2.2 0, 10, .inl g7)), (a4, .inl (E.2.2 0, 10, .inl f3)), (a5, .inl (E.2.2 0, 10, .inl f4)), (a6, .inl (E.2.2 0, 10, .inl f5)), (a0, .inr (7, [.int y0, .int y1, .int y2, .int y3, .int y4, .int y5, .ref a7, .ref a8, .ref a9, .ref a10, .ref a11, .ref a1, .ref a2, .ref a3, .ref a4, .ref a5, .ref a6, .ref a12]))] 0 0
  refine mp_run hF mp_tabX7_ok [mp_i (.aload_n 0), mp_h (.getfield 37) [14, 6], mp_i (.aload_n 0), mp_h (.getfield 62) [4, 6], mp_i (.iload 4), mp_h .iastore [3]] (by decide +kernel) ?_
  refine And.intro rfl (And.intro rfl ?_)
  refine And.intro rfl (And.intro rfl ?_)
  refine And.intro rfl (And.intro rfl (And.intro (vp_in_iff.mpr (by omega)) ?_))
  intro g9 h10
  have p11 : mp_all g9 10 0 99 := mp_all_st h10 p2 l_x3 u_x3
  show mp_W E X 5 41 [(0, .ref a0), (1, .int x0), (2, .int x1), (3, .int x2), (4, .int x3)] [] [(a1, .inl (E.2.2 0, 10, .inl g1)), (a2, .inl (E.2.2 0, 10, .inl g4)), (a3, .inl (E.2.2 0, 10, .inl g7)), (a4, .inl (E.2.2 0, 10, .inl g9)), (a5, .inl (E.2.2 0, 10, .inl f4)), (a6, .inl (E.2.2 0, 10, .inl f5)), (a0, .inr (7, [.int y0, .int y1, .int y2, .int y3, .int y4, .int y5, .ref a7, .ref a8, .ref a9, .ref a10, .ref a11, .ref a1, .ref a2, .ref a3, .ref a4, .ref a5, .ref a6, .ref a12]))] 0 0
  refine mp_run hF mp_tabX7_ok [mp_i (.aload_n 0), mp_h (.getfield 40) [15, 6], mp_i (.aload_n 0), mp_h (.getfield 62) [4, 6], mp_c (.iconst 0) 0, mp_h .iastore [4]] (by decide +kernel) ?_
  refine And.intro rfl (And.intro rfl ?_)
  refine And.intro rfl (And.intro rfl ?_)
  refine And.intro rfl (And.intro rfl (And.intro (vp_in_iff.mpr (by omega)) ?_))
  intro g12 h13
  have p14 : mp_all g12 10 0 1 := mp_all_st h13 p3 (by decide) (by decide)
  show mp_W E X 5 51 [(0, .ref a0), (1, .int x0), (2, .int x1), (3, .int x2), (4, .int x3)] [] [(a1, .inl (E.2.2 0, 10, .inl g1)), (a2, .inl (E.2.2 0, 10, .inl g4)), (a3, .inl (E.2.2 0, 10, .inl g7)), (a4, .inl (E.2.2 0, 10, .inl g9)), (a5, .inl (E.2.2 0, 10, .inl g12)), (a6, .inl (E.2.2 0, 10, .inl f5)), (a0, .inr (7, [.int y0, .int y1, .int y2, .int y3, .int y4, .int y5, .ref a7, .ref a8, .ref a9, .ref a10, .ref a11, .ref a1, .ref a2, .ref a3, .ref a4, .ref a5, .ref a6, .ref a12]))] 0 0
  refine mp_run hF mp_tabX7_ok [mp_i (.aload_n 0), mp_h (.getfield 43) [16, 6], mp_i (.aload_n 0), mp_h (.getfield 62) [4, 6], mp_c (.iconst (-1)) (-1), mp_h .iastore [5]] (by decide +kernel) ?_
  refine And.intro rfl (And.intro rfl ?_)
  refine And.intro rfl (And.intro rfl ?_)
  refine And.intro rfl (And.intro rfl (And.intro (vp_in_iff.mpr (by omega)) ?_))
  intro g15 h16
  have p17 : mp_all g15 10 (-1) 9 := mp_all_st h16 p4 (by decide) (by decide)
  show mp_W E X 5 61 [(0, .ref a0), (1, .int x0), (2, .int x1), (3, .int x2), (4, .int x3)] [] [(a1, .inl (E.2.2 0, 10, .inl g1)), (a2, .inl (E.2.2 0, 10, .inl g4)), (a3, .inl (E.2.2 0, 10, .inl g7)), (a4, .inl (E.2.2 0, 10, .inl g9)), (a5, .inl (E.2.2 0, 10, .inl g12)), (a6, .inl (E.2.2 0, 10, .inl g15)), (a0, .inr (7, [.int y0, .int y1, .int y2, .int y3, .int y4, .int y5, .ref a7, .ref a8, .ref a9, .ref a10, .ref a11, .ref a1, .ref a2, .ref a3, .ref a4, .ref a5, .ref a6, .ref a12]))] 0 0
  refine mp_run hF mp_tabX7_ok [mp_i (.aload_n 0), mp_i .dup, mp_h (.getfield 62) [4, 6], mp_c (.iconst 1) 1, mp_i .iadd, mp_h (.putfield 62) [4, 6]] (by decide +kernel) ?_
  refine And.intro rfl ?_
  refine And.intro rfl (And.intro rfl ?_)
  intro z18 h19
  have e20 : z18.toInt = y4.toInt + 1 := mp_add (a := y4.toInt) (b := 1) h19 rfl (by decide) (by omega) (by omega)
  refine And.intro rfl (And.intro rfl (And.intro rfl (And.intro rfl (And.intro (Nat.le_of_ble_eq_true rfl) ?_))))
  show mp_W E X 5 71 [(0, .ref a0), (1, .int x0), (2, .int x1), (3, .int x2), (4, .int x3)] [] [(a1, .inl (E.2.2 0, 10, .inl g1)), (a2, .inl (E.2.2 0, 10, .inl g4)), (a3, .inl (E.2.2 0, 10, .inl g7)), (a4, .inl (E.2.2 0, 10, .inl g9)), (a5, .inl (E.2.2 0, 10, .inl g12)), (a6, .inl (E.2.2 0, 10, .inl g15)), (a0, .inr (7, [.int y0, .int y1, .int y2, .int y3, .int z18, .int y5, .ref a7, .ref a8, .ref a9, .ref a10, .ref a11, .ref a1, .ref a2, .ref a3, .ref a4, .ref a5, .ref a6, .ref a12]))] 0 0
  exact mp_vret hF hQ rfl (Nat.le_of_ble_eq_true rfl) (Nat.le_of_ble_eq_true rfl) [0, 1, 2, 3, 4, 5, 6] (w' := [(a1, .inl (E.2.2 0, 10, .inl g1)), (a2, .inl (E.2.2 0, 10, .inl g4)), (a3, .inl (E.2.2 0, 10, .inl g7)), (a4, .inl (E.2.2 0, 10, .inl g9)), (a5, .inl (E.2.2 0, 10, .inl g12)), (a6, .inl (E.2.2 0, 10, .inl g15)), (a0, .inr (7, [.int y0, .int y1, .int y2, .int y3, .int z18, .int y5, .ref a7, .ref a8, .ref a9, .ref a10, .ref a11, .ref a1, .ref a2, .ref a3, .ref a4, .ref a5, .ref a6, .ref a12]))]) rfl rfl ⟨g1, g4, g7, g9, g12, g15, z18, rfl, (by omega), (by omega), p3, p6, p11, p14, p17, rfl⟩ (by decide +kernel)
set_option maxHeartbeats 4000000 in
set_option maxRecDepth 100000 in
theorem bX3_takePromise_28 (E : mp_E) (a0 a1 a2 a3 a4 a5 a6 a7 a8 a9 a10 a11 a12 a13 a14 : Nat) (f0 : Nat → Int32) (f1 : Nat → Int32) (f2 : Nat → Int32) (f3 : Nat → Int32) (f4 : Nat → Int32) (f5 : Nat → Int32) (f6 : Nat → Int32) (y0 : Int32) (y1 : Int32) (y2 : Int32) (y3 : Int32) (y4 : Int32) (y5 : Int32) (y6 : Int32) (y7 : Int32) (y8 : Int32) (y9 : Int32) (y10 : Int32) (y11 : Int32) (y12 : Int32) (y13 : Int32) (p0 : mp_all f0 10 0 5) (p1 : mp_all f1 10 0 5) (p2 : mp_all f3 10 0 99) (p3 : mp_all f4 10 0 1) (p4 : mp_all f5 10 (-1) 9) (l_y1 : 0 ≤ y1.toInt) (u_y1 : y1.toInt ≤ 6) (l_y2 : 0 ≤ y2.toInt) (u_y2 : y2.toInt ≤ 99) (l_y3 : 0 ≤ y3.toInt) (u_y3 : y3.toInt ≤ 6) (l_y4 : 0 ≤ y4.toInt) (u_y4 : y4.toInt ≤ 10) (l_y5 : 0 ≤ y5.toInt) (u_y5 : y5.toInt ≤ 60) (l_y6 : 0 ≤ y6.toInt) (u_y6 : y6.toInt ≤ 1600) (l_y10 : 0 ≤ y10.toInt) (u_y10 : y10.toInt ≤ 1600) (l_y11 : 0 ≤ y11.toInt) (u_y11 : y11.toInt ≤ 1600) : mp_Ct E yX3_takePromise cX3_takePromise 4 (some FieldType.boolean) 6 0 0 128 [.ref a0] [(a1, .inl (E.2.2 0, 10, .inl f0)), (a2, .inl (E.2.2 0, 10, .inl f1)), (a3, .inl (E.2.2 0, 10, .inl f2)), (a4, .inl (E.2.2 0, 10, .inl f3)), (a5, .inl (E.2.2 0, 10, .inl f4)), (a6, .inl (E.2.2 0, 10, .inl f5)), (a7, .inr (7, [.int y0, .int y1, .int y2, .int y3, .int y4, .int y5, .ref a9, .ref a10, .ref a11, .ref a12, .ref a13, .ref a1, .ref a2, .ref a3, .ref a4, .ref a5, .ref a6, .ref a14])), (a0, .inr (3, [.ref a8, .int y6, .ref a7, .int y7, .int y8, .int y9, .int y10, .int y11, .int y12, .int y13])), (a8, .inl (E.2.2 1, 1600, .inl f6))] (fun v w' => (∃ r1 : Int32, ∃ r2 : Int32, ∃ r3 : Int32, ∃ r4 : Int32, ∃ r5 : Int32, ∃ r6 : Int32, ∃ r7 : Int32, v = some (.int 0) ∧ 1 ≤ r1.toInt ∧ r1.toInt ≤ 3 ∧ 0 ≤ r2.toInt ∧ r2.toInt ≤ 1600 ∧ 0 ≤ r4.toInt ∧ r4.toInt ≤ 1600 ∧ 0 ≤ r5.toInt ∧ r5.toInt ≤ 1600 ∧ w' = [(a1, .inl (E.2.2 0, 10, .inl f0)), (a2, .inl (E.2.2 0, 10, .inl f1)), (a3, .inl (E.2.2 0, 10, .inl f2)), (a4, .inl (E.2.2 0, 10, .inl f3)), (a5, .inl (E.2.2 0, 10, .inl f4)), (a6, .inl (E.2.2 0, 10, .inl f5)), (a7, .inr (7, [.int y0, .int y1, .int y2, .int y3, .int y4, .int y5, .ref a9, .ref a10, .ref a11, .ref a12, .ref a13, .ref a1, .ref a2, .ref a3, .ref a4, .ref a5, .ref a6, .ref a14])), (a0, .inr (3, [.ref a8, .int y6, .ref a7, .int r1, .int r2, .int r3, .int r4, .int r5, .int r6, .int r7])), (a8, .inl (E.2.2 1, 1600, .inl f6))]) ∨ (∃ h1 : Nat → Int32, ∃ h2 : Nat → Int32, ∃ h3 : Nat → Int32, ∃ h4 : Nat → Int32, ∃ h5 : Nat → Int32, ∃ h6 : Nat → Int32, ∃ r7 : Int32, ∃ r8 : Int32, ∃ r9 : Int32, ∃ r10 : Int32, ∃ r11 : Int32, ∃ r12 : Int32, v = some (.int 1) ∧ y4.toInt < 10 ∧ 1 ≤ r7.toInt ∧ r7.toInt ≤ 10 ∧ 0 ≤ r8.toInt ∧ r8.toInt ≤ 4 ∧ 0 ≤ r9.toInt ∧ r9.toInt ≤ 1600 ∧ 0 ≤ r10.toInt ∧ r10.toInt ≤ 1600 ∧ 0 ≤ r12.toInt ∧ mp_all h1 10 0 5 ∧ mp_all h2 10 0 5 ∧ mp_all h4 10 0 99 ∧ mp_all h5 10 0 1 ∧ mp_all h6 10 (-1) 9 ∧ w' = [(a1, .inl (E.2.2 0, 10, .inl h1)), (a2, .inl (E.2.2 0, 10, .inl h2)), (a3, .inl (E.2.2 0, 10, .inl h3)), (a4, .inl (E.2.2 0, 10, .inl h4)), (a5, .inl (E.2.2 0, 10, .inl h5)), (a6, .inl (E.2.2 0, 10, .inl h6)), (a7, .inr (7, [.int y0, .int y1, .int y2, .int y3, .int r7, .int y5, .ref a9, .ref a10, .ref a11, .ref a12, .ref a13, .ref a1, .ref a2, .ref a3, .ref a4, .ref a5, .ref a6, .ref a14])), (a0, .inr (3, [.ref a8, .int y6, .ref a7, .int y7, .int y8, .int r8, .int r9, .int r10, .int r11, .int r12])), (a8, .inl (E.2.2 1, 1600, .inl f6))])) := by
  refine mp_met false (by decide) (by decide) (Nat.le_of_ble_eq_true rfl) (fun X hF hQ => ?_)
  have hF : mp_F E X (RX3, cX3_takePromise, 4, (6, 0, 0, 128), (some FieldType.boolean), false) := hF
  show mp_W E X 4 0 [(0, .ref a0)] [] [(a1, .inl (E.2.2 0, 10, .inl f0)), (a2, .inl (E.2.2 0, 10, .inl f1)), (a3, .inl (E.2.2 0, 10, .inl f2)), (a4, .inl (E.2.2 0, 10, .inl f3)), (a5, .inl (E.2.2 0, 10, .inl f4)), (a6, .inl (E.2.2 0, 10, .inl f5)), (a7, .inr (7, [.int y0, .int y1, .int y2, .int y3, .int y4, .int y5, .ref a9, .ref a10, .ref a11, .ref a12, .ref a13, .ref a1, .ref a2, .ref a3, .ref a4, .ref a5, .ref a6, .ref a14])), (a0, .inr (3, [.ref a8, .int y6, .ref a7, .int y7, .int y8, .int y9, .int y10, .int y11, .int y12, .int y13])), (a8, .inl (E.2.2 1, 1600, .inl f6))] 0 0
  refine mp_run hF mp_tabX3_ok [mp_i (.aload_n 0), mp_h (.getfield 18) [11, 7], mp_h (.getfield 82) [4, 6], mp_c (.bipush 10) 10, mp_h (.if_icmp .lt 9) [18]] (by decide +kernel) ?_
  refine And.intro rfl (And.intro rfl ?_)
  refine And.intro rfl (And.intro rfl ?_)
  refine And.intro (fun c1 => ?_) (fun c1 => ?_)
  · have c1 : y4.toInt < 10 := c1
    show mp_W E X 4 18 [(0, .ref a0)] [] [(a1, .inl (E.2.2 0, 10, .inl f0)), (a2, .inl (E.2.2 0, 10, .inl f1)), (a3, .inl (E.2.2 0, 10, .inl f2)), (a4, .inl (E.2.2 0, 10, .inl f3)), (a5, .inl (E.2.2 0, 10, .inl f4)), (a6, .inl (E.2.2 0, 10, .inl f5)), (a7, .inr (7, [.int y0, .int y1, .int y2, .int y3, .int y4, .int y5, .ref a9, .ref a10, .ref a11, .ref a12, .ref a13, .ref a1, .ref a2, .ref a3, .ref a4, .ref a5, .ref a6, .ref a14])), (a0, .inr (3, [.ref a8, .int y6, .ref a7, .int y7, .int y8, .int y9, .int y10, .int y11, .int y12, .int y13])), (a8, .inl (E.2.2 1, 1600, .inl f6))] 0 0
    refine mp_run hF mp_tabX3_ok [mp_i (.aload_n 0)] (by decide +kernel) ?_
    show mp_W E X 4 19 [(0, .ref a0)] [.ref a0] [(a1, .inl (E.2.2 0, 10, .inl f0)), (a2, .inl (E.2.2 0, 10, .inl f1)), (a3, .inl (E.2.2 0, 10, .inl f2)), (a4, .inl (E.2.2 0, 10, .inl f3)), (a5, .inl (E.2.2 0, 10, .inl f4)), (a6, .inl (E.2.2 0, 10, .inl f5)), (a7, .inr (7, [.int y0, .int y1, .int y2, .int y3, .int y4, .int y5, .ref a9, .ref a10, .ref a11, .ref a12, .ref a13, .ref a1, .ref a2, .ref a3, .ref a4, .ref a5, .ref a6, .ref a14])), (a0, .inr (3, [.ref a8, .int y6, .ref a7, .int y7, .int y8, .int y9, .int y10, .int y11, .int y12, .int y13])), (a8, .inl (E.2.2 1, 1600, .inl f6))] 0 0
    refine mp_callV hF (As := []) (rest := []) (wr := [(a1, .inl (E.2.2 0, 10, .inl f0)), (a2, .inl (E.2.2 0, 10, .inl f1)), (a3, .inl (E.2.2 0, 10, .inl f2)), (a4, .inl (E.2.2 0, 10, .inl f3)), (a5, .inl (E.2.2 0, 10, .inl f4)), (a6, .inl (E.2.2 0, 10, .inl f5)), (a7, .inr (7, [.int y0, .int y1, .int y2, .int y3, .int y4, .int y5, .ref a9, .ref a10, .ref a11, .ref a12, .ref a13, .ref a1, .ref a2, .ref a3, .ref a4, .ref a5, .ref a6, .ref a14]))]) (bX3_step_9 E a0 a8 a7 f6 y6 y7 y8 y9 y10 y11 y12 y13 l_y6 u_y6 l_y10 u_y10 l_y11 u_y11) mp_lkX3_38 7 rfl [7, 8] [0, 1, 2, 3, 4, 5, 6] rfl rfl rfl rfl rfl ⟨(Nat.le_of_ble_eq_true rfl), (Nat.le_of_ble_eq_true rfl), (Nat.le_of_ble_eq_true rfl), (Nat.le_of_ble_eq_true rfl)⟩ (Nat.le_of_ble_eq_true rfl) (by decide +kernel) (fun v2 w3 h4 => ?_)
    obtain ⟨r5, r6, r7, r8, rfl, l9, u10, l11, u12, l13, u14, rfl⟩ := h4
    show mp_W E X 4 22 [(0, .ref a0)] [] [(a1, .inl (E.2.2 0, 10, .inl f0)), (a2, .inl (E.2.2 0, 10, .inl f1)), (a3, .inl (E.2.2 0, 10, .inl f2)), (a4, .inl (E.2.2 0, 10, .inl f3)), (a5, .inl (E.2.2 0, 10, .inl f4)), (a6, .inl (E.2.2 0, 10, .inl f5)), (a7, .inr (7, [.int y0, .int y1, .int y2, .int y3, .int y4, .int y5, .ref a9, .ref a10, .ref a11, .ref a12, .ref a13, .ref a1, .ref a2, .ref a3, .ref a4, .ref a5, .ref a6, .ref a14])), (a0, .inr (3, [.ref a8, .int y6, .ref a7, .int y7, .int y8, .int r5, .int r6, .int r7, .int r8, .int y13])), (a8, .inl (E.2.2 1, 1600, .inl f6))] 0 0
    refine mp_run hF mp_tabX3_ok [mp_i (.aload_n 0), mp_c (.iconst 0) 0, mp_i (.aload_n 0), mp_h (.getfield 18) [11, 7], mp_h (.getfield 114) [3, 6], mp_c (.iconst 1) 1, mp_i .isub, mp_c (.iconst (-1)) (-1)] (by decide +kernel) ?_
    refine And.intro rfl (And.intro rfl ?_)
    refine And.intro rfl (And.intro rfl ?_)
    intro z15 h16
    have e17 : z15.toInt = y3.toInt - 1 := mp_subi (a := y3.toInt) (b := 1) h16 rfl (by decide) (by omega) (by omega)
    show mp_W E X 4 34 [(0, .ref a0)] [.int (-1), .int z15, .int 0, .ref a0] [(a1, .inl (E.2.2 0, 10, .inl f0)), (a2, .inl (E.2.2 0, 10, .inl f1)), (a3, .inl (E.2.2 0, 10, .inl f2)), (a4, .inl (E.2.2 0, 10, .inl f3)), (a5, .inl (E.2.2 0, 10, .inl f4)), (a6, .inl (E.2.2 0, 10, .inl f5)), (a7, .inr (7, [.int y0, .int y1, .int y2, .int y3, .int y4, .int y5, .ref a9, .ref a10, .ref a11, .ref a12, .ref a13, .ref a1, .ref a2, .ref a3, .ref a4, .ref a5, .ref a6, .ref a14])), (a0, .inr (3, [.ref a8, .int y6, .ref a7, .int y7, .int y8, .int r5, .int r6, .int r7, .int r8, .int y13])), (a8, .inl (E.2.2 1, 1600, .inl f6))] 0 0
    refine mp_callV hF (As := [.int 0, .int z15, .int (-1)]) (rest := []) (wr := [(a1, .inl (E.2.2 0, 10, .inl f0)), (a2, .inl (E.2.2 0, 10, .inl f1)), (a3, .inl (E.2.2 0, 10, .inl f2)), (a4, .inl (E.2.2 0, 10, .inl f3)), (a5, .inl (E.2.2 0, 10, .inl f4)), (a6, .inl (E.2.2 0, 10, .inl f5)), (a7, .inr (7, [.int y0, .int y1, .int y2, .int y3, .int y4, .int y5, .ref a9, .ref a10, .ref a11, .ref a12, .ref a13, .ref a1, .ref a2, .ref a3, .ref a4, .ref a5, .ref a6, .ref a14]))]) (bX3_takeNumber_21 E a0 a8 a7 f6 y6 y7 y8 r5 r6 r7 r8 y13 z15 (-1) (by omega) (by omega) l_y6 u_y6 l11 u12 l13 u14) mp_lkX3_91 7 rfl [7, 8] [0, 1, 2, 3, 4, 5, 6] rfl rfl rfl rfl rfl ⟨(Nat.le_of_ble_eq_true rfl), (Nat.le_of_ble_eq_true rfl), (Nat.le_of_ble_eq_true rfl), (Nat.le_of_ble_eq_true rfl)⟩ (Nat.le_of_ble_eq_true rfl) (by decide +kernel) (fun v18 w19 h20 => ?_)
    rcases h20 with ⟨r21, rfl, l22, u23, rfl⟩ | ⟨r24, r25, r26, r27, rfl, c28, c29, c30, c31, l32, u33, l34, u35, l36, u37, rfl⟩
    · skip
      show mp_W E X 4 37 [(0, .ref a0)] [.int 0] [(a1, .inl (E.2.2 0, 10, .inl f0)), (a2, .inl (E.2.2 0, 10, .inl f1)), (a3, .inl (E.2.2 0, 10, .inl f2)), (a4, .inl (E.2.2 0, 10, .inl f3)), (a5, .inl (E.2.2 0, 10, .inl f4)), (a6, .inl (E.2.2 0, 10, .inl f5)), (a7, .inr (7, [.int y0, .int y1, .int y2, .int y3, .int y4, .int y5, .ref a9, .ref a10, .ref a11, .ref a12, .ref a13, .ref a1, .ref a2, .ref a3, .ref a4, .ref a5, .ref a6, .ref a14])), (a0, .inr (3, [.ref a8, .int y6, .ref a7, .int r21, .int r6, .int r5, .int r6, .int r7, .int r8, .int y13])), (a8, .inl (E.2.2 1, 1600, .inl f6))] 0 0
      refine mp_run hF mp_tabX3_ok [mp_h (.ifCond .ne 5) [42]] (by decide +kernel) ?_
      refine And.intro (fun c38 => absurd c38 (by decide)) (fun _ => ?_)
      show mp_W E X 4 40 [(0, .ref a0)] [] [(a1, .inl (E.2.2 0, 10, .inl f0)), (a2, .inl (E.2.2 0, 10, .inl f1)), (a3, .inl (E.2.2 0, 10, .inl f2)), (a4, .inl (E.2.2 0, 10, .inl f3)), (a5, .inl (E.2.2 0, 10, .inl f4)), (a6, .inl (E.2.2 0, 10, .inl f5)), (a7, .inr (7, [.int y0, .int y1, .int y2, .int y3, .int y4, .int y5, .ref a9, .ref a10, .ref a11, .ref a12, .ref a13, .ref a1, .ref a2, .ref a3, .ref a4, .ref a5, .ref a6, .ref a14])), (a0, .inr (3, [.ref a8, .int y6, .ref a7, .int r21, .int r6, .int r5, .int r6, .int r7, .int r8, .int y13])), (a8, .inl (E.2.2 1, 1600, .inl f6))] 0 0
      refine mp_run hF mp_tabX3_ok [mp_c (.iconst 0) 0] (by decide +kernel) ?_
      show mp_W E X 4 41 [(0, .ref a0)] [.int 0] [(a1, .inl (E.2.2 0, 10, .inl f0)), (a2, .inl (E.2.2 0, 10, .inl f1)), (a3, .inl (E.2.2 0, 10, .inl f2)), (a4, .inl (E.2.2 0, 10, .inl f3)), (a5, .inl (E.2.2 0, 10, .inl f4)), (a6, .inl (E.2.2 0, 10, .inl f5)), (a7, .inr (7, [.int y0, .int y1, .int y2, .int y3, .int y4, .int y5, .ref a9, .ref a10, .ref a11, .ref a12, .ref a13, .ref a1, .ref a2, .ref a3, .ref a4, .ref a5, .ref a6, .ref a14])), (a0, .inr (3, [.ref a8, .int y6, .ref a7, .int r21, .int r6, .int r5, .int r6, .int r7, .int r8, .int y13])), (a8, .inl (E.2.2 1, 1600, .inl f6))] 0 0
      exact mp_iret hF hQ rfl (by decide) (Nat.le_of_ble_eq_true rfl) (Nat.le_of_ble_eq_true rfl) [0, 1, 2, 3, 4, 5, 6, 7, 8] (w' := [(a1, .inl (E.2.2 0, 10, .inl f0)), (a2, .inl (E.2.2 0, 10, .inl f1)), (a3, .inl (E.2.2 0, 10, .inl f2)), (a4, .inl (E.2.2 0, 10, .inl f3)), (a5, .inl (E.2.2 0, 10, .inl f4)), (a6, .inl (E.2.2 0, 10, .inl f5)), (a7, .inr (7, [.int y0, .int y1, .int y2, .int y3, .int y4, .int y5, .ref a9, .ref a10, .ref a11, .ref a12, .ref a13, .ref a1, .ref a2, .ref a3, .ref a4, .ref a5, .ref a6, .ref a14])), (a0, .inr (3, [.ref a8, .int y6, .ref a7, .int r21, .int r6, .int r5, .int r6, .int r7, .int r8, .int y13])), (a8, .inl (E.2.2 1, 1600, .inl f6))]) rfl rfl (Or.inl ⟨r21, r6, r5, r6, r7, r8, y13, rfl, l22, (by omega), l11, u12, l11, u12, l13, u14, rfl⟩) (by decide +kernel)
    · skip
      have c28 : r5.toInt = 2 := c28
      have c29 : 0 ≤ r8.toInt := c29
      have c30 : r8.toInt ≤ z15.toInt := c30
      have c31 : r8.toInt ≠ (-1) := c31
      show mp_W E X 4 37 [(0, .ref a0)] [.int 1] [(a1, .inl (E.2.2 0, 10, .inl f0)), (a2, .inl (E.2.2 0, 10, .inl f1)), (a3, .inl (E.2.2 0, 10, .inl f2)), (a4, .inl (E.2.2 0, 10, .inl f3)), (a5, .inl (E.2.2 0, 10, .inl f4)), (a6, .inl (E.2.2 0, 10, .inl f5)), (a7, .inr (7, [.int y0, .int y1, .int y2, .int y3, .int y4, .int y5, .ref a9, .ref a10, .ref a11, .ref a12, .ref a13, .ref a1, .ref a2, .ref a3, .ref a4, .ref a5, .ref a6, .ref a14])), (a0, .inr (3, [.ref a8, .int y6, .ref a7, .int y7, .int y8, .int r24, .int r25, .int r26, .int r27, .int r8])), (a8, .inl (E.2.2 1, 1600, .inl f6))] 0 0
      refine mp_run hF mp_tabX3_ok [mp_h (.ifCond .ne 5) [42]] (by decide +kernel) ?_
      refine And.intro (fun _ => ?_) (fun c39 => absurd c39 (by decide))
      show mp_W E X 4 42 [(0, .ref a0)] [] [(a1, .inl (E.2.2 0, 10, .inl f0)), (a2, .inl (E.2.2 0, 10, .inl f1)), (a3, .inl (E.2.2 0, 10, .inl f2)), (a4, .inl (E.2.2 0, 10, .inl f3)), (a5, .inl (E.2.2 0, 10, .inl f4)), (a6, .inl (E.2.2 0, 10, .inl f5)), (a7, .inr (7, [.int y0, .int y1, .int y2, .int y3, .int y4, .int y5, .ref a9, .ref a10, .ref a11, .ref a12, .ref a13, .ref a1, .ref a2, .ref a3, .ref a4, .ref a5, .ref a6, .ref a14])), (a0, .inr (3, [.ref a8, .int y6, .ref a7, .int y7, .int y8, .int r24, .int r25, .int r26, .int r27, .int r8])), (a8, .inl (E.2.2 1, 1600, .inl f6))] 0 0
      refine mp_run hF mp_tabX3_ok [mp_i (.aload_n 0), mp_h (.getfield 95) [18, 7], mp_i (.istore_n 1), mp_i (.aload_n 0)] (by decide +kernel) ?_
      refine And.intro rfl (And.intro rfl ?_)
      show mp_W E X 4 48 [(1, .int r8), (0, .ref a0)] [.ref a0] [(a1, .inl (E.2.2 0, 10, .inl f0)), (a2, .inl (E.2.2 0, 10, .inl f1)), (a3, .inl (E.2.2 0, 10, .inl f2)), (a4, .inl (E.2.2 0, 10, .inl f3)), (a5, .inl (E.2.2 0, 10, .inl f4)), (a6, .inl (E.2.2 0, 10, .inl f5)), (a7, .inr (7, [.int y0, .int y1, .int y2, .int y3, .int y4, .int y5, .ref a9, .ref a10, .ref a11, .ref a12, .ref a13, .ref a1, .ref a2, .ref a3, .ref a4, .ref a5, .ref a6, .ref a14])), (a0, .inr (3, [.ref a8, .int y6, .ref a7, .int y7, .int y8, .int r24, .int r25, .int r26, .int r27, .int r8])), (a8, .inl (E.2.2 1, 1600, .inl f6))] 0 0
      refine mp_ldcS hF 9 (q := (RX3, 134, "to", 9)) rfl rfl (by decide +kernel) ?_
      show mp_W E X 4 50 [(1, .int r8), (0, .ref a0)] [.ref (E.1.2.1 9), .ref a0] [(a1, .inl (E.2.2 0, 10, .inl f0)), (a2, .inl (E.2.2 0, 10, .inl f1)), (a3, .inl (E.2.2 0, 10, .inl f2)), (a4, .inl (E.2.2 0, 10, .inl f3)), (a5, .inl (E.2.2 0, 10, .inl f4)), (a6, .inl (E.2.2 0, 10, .inl f5)), (a7, .inr (7, [.int y0, .int y1, .int y2, .int y3, .int y4, .int y5, .ref a9, .ref a10, .ref a11, .ref a12, .ref a13, .ref a1, .ref a2, .ref a3, .ref a4, .ref a5, .ref a6, .ref a14])), (a0, .inr (3, [.ref a8, .int y6, .ref a7, .int y7, .int y8, .int r24, .int r25, .int r26, .int r27, .int r8])), (a8, .inl (E.2.2 1, 1600, .inl f6))] 0 0
      refine mp_callV hF (As := [.ref (E.1.2.1 9)]) (rest := []) (wr := [(a1, .inl (E.2.2 0, 10, .inl f0)), (a2, .inl (E.2.2 0, 10, .inl f1)), (a3, .inl (E.2.2 0, 10, .inl f2)), (a4, .inl (E.2.2 0, 10, .inl f3)), (a5, .inl (E.2.2 0, 10, .inl f4)), (a6, .inl (E.2.2 0, 10, .inl f5)), (a7, .inr (7, [.int y0, .int y1, .int y2, .int y3, .int y4, .int y5, .ref a9, .ref a10, .ref a11, .ref a12, .ref a13, .ref a1, .ref a2, .ref a3, .ref a4, .ref a5, .ref a6, .ref a14]))]) (bX3_takeWord_20 E 9 (by decide) a0 a8 a7 f6 y6 y7 y8 r24 r25 r26 r27 r8 l_y6 u_y6 l34 u35 l36 u37) mp_lkX3_102 7 rfl [7, 8] [0, 1, 2, 3, 4, 5, 6] rfl rfl rfl rfl rfl ⟨(Nat.le_of_ble_eq_true rfl), (Nat.le_of_ble_eq_true rfl), (Nat.le_of_ble_eq_true rfl), (Nat.le_of_ble_eq_true rfl)⟩ (Nat.le_of_ble_eq_true rfl) (by decide +kernel) (fun v40 w41 h42 => ?_)
      rcases h42 with ⟨rfl, rfl⟩ | ⟨r43, r44, r45, r46, rfl, c47, l48, u49, l50, u51, l52, u53, rfl⟩
      · skip
        show mp_W E X 4 53 [(1, .int r8), (0, .ref a0)] [.int 0] [(a1, .inl (E.2.2 0, 10, .inl f0)), (a2, .inl (E.2.2 0, 10, .inl f1)), (a3, .inl (E.2.2 0, 10, .inl f2)), (a4, .inl (E.2.2 0, 10, .inl f3)), (a5, .inl (E.2.2 0, 10, .inl f4)), (a6, .inl (E.2.2 0, 10, .inl f5)), (a7, .inr (7, [.int y0, .int y1, .int y2, .int y3, .int y4, .int y5, .ref a9, .ref a10, .ref a11, .ref a12, .ref a13, .ref a1, .ref a2, .ref a3, .ref a4, .ref a5, .ref a6, .ref a14])), (a0, .inr (3, [.ref a8, .int y6, .ref a7, .int 1, .int r25, .int r24, .int r25, .int r26, .int r27, .int r8])), (a8, .inl (E.2.2 1, 1600, .inl f6))] 0 0
        refine mp_run hF mp_tabX3_ok [mp_h (.ifCond .eq 21) [74]] (by decide +kernel) ?_
        refine And.intro (fun _ => ?_) (fun c54 => absurd c54 (by decide))
        show mp_W E X 4 74 [(1, .int r8), (0, .ref a0)] [] [(a1, .inl (E.2.2 0, 10, .inl f0)), (a2, .inl (E.2.2 0, 10, .inl f1)), (a3, .inl (E.2.2 0, 10, .inl f2)), (a4, .inl (E.2.2 0, 10, .inl f3)), (a5, .inl (E.2.2 0, 10, .inl f4)), (a6, .inl (E.2.2 0, 10, .inl f5)), (a7, .inr (7, [.int y0, .int y1, .int y2, .int y3, .int y4, .int y5, .ref a9, .ref a10, .ref a11, .ref a12, .ref a13, .ref a1, .ref a2, .ref a3, .ref a4, .ref a5, .ref a6, .ref a14])), (a0, .inr (3, [.ref a8, .int y6, .ref a7, .int 1, .int r25, .int r24, .int r25, .int r26, .int r27, .int r8])), (a8, .inl (E.2.2 1, 1600, .inl f6))] 0 0
        refine mp_run hF mp_tabX3_ok [mp_c (.iconst 0) 0] (by decide +kernel) ?_
        show mp_W E X 4 75 [(1, .int r8), (0, .ref a0)] [.int 0] [(a1, .inl (E.2.2 0, 10, .inl f0)), (a2, .inl (E.2.2 0, 10, .inl f1)), (a3, .inl (E.2.2 0, 10, .inl f2)), (a4, .inl (E.2.2 0, 10, .inl f3)), (a5, .inl (E.2.2 0, 10, .inl f4)), (a6, .inl (E.2.2 0, 10, .inl f5)), (a7, .inr (7, [.int y0, .int y1, .int y2, .int y3, .int y4, .int y5, .ref a9, .ref a10, .ref a11, .ref a12, .ref a13, .ref a1, .ref a2, .ref a3, .ref a4, .ref a5, .ref a6, .ref a14])), (a0, .inr (3, [.ref a8, .int y6, .ref a7, .int 1, .int r25, .int r24, .int r25, .int r26, .int r27, .int r8])), (a8, .inl (E.2.2 1, 1600, .inl f6))] 0 0
        exact mp_iret hF hQ rfl (by decide) (Nat.le_of_ble_eq_true rfl) (Nat.le_of_ble_eq_true rfl) [0, 1, 2, 3, 4, 5, 6, 7, 8] (w' := [(a1, .inl (E.2.2 0, 10, .inl f0)), (a2, .inl (E.2.2 0, 10, .inl f1)), (a3, .inl (E.2.2 0, 10, .inl f2)), (a4, .inl (E.2.2 0, 10, .inl f3)), (a5, .inl (E.2.2 0, 10, .inl f4)), (a6, .inl (E.2.2 0, 10, .inl f5)), (a7, .inr (7, [.int y0, .int y1, .int y2, .int y3, .int y4, .int y5, .ref a9, .ref a10, .ref a11, .ref a12, .ref a13, .ref a1, .ref a2, .ref a3, .ref a4, .ref a5, .ref a6, .ref a14])), (a0, .inr (3, [.ref a8, .int y6, .ref a7, .int 1, .int r25, .int r24, .int r25, .int r26, .int r27, .int r8])), (a8, .inl (E.2.2 1, 1600, .inl f6))]) rfl rfl (Or.inl ⟨1, r25, r24, r25, r26, r27, r8, rfl, (by decide), (by decide), l34, u35, l34, u35, l36, u37, rfl⟩) (by decide +kernel)
      · skip
        have c47 : r24.toInt = 1 := c47
        show mp_W E X 4 53 [(1, .int r8), (0, .ref a0)] [.int 1] [(a1, .inl (E.2.2 0, 10, .inl f0)), (a2, .inl (E.2.2 0, 10, .inl f1)), (a3, .inl (E.2.2 0, 10, .inl f2)), (a4, .inl (E.2.2 0, 10, .inl f3)), (a5, .inl (E.2.2 0, 10, .inl f4)), (a6, .inl (E.2.2 0, 10, .inl f5)), (a7, .inr (7, [.int y0, .int y1, .int y2, .int y3, .int y4, .int y5, .ref a9, .ref a10, .ref a11, .ref a12, .ref a13, .ref a1, .ref a2, .ref a3, .ref a4, .ref a5, .ref a6, .ref a14])), (a0, .inr (3, [.ref a8, .int y6, .ref a7, .int y7, .int y8, .int r43, .int r44, .int r45, .int r46, .int r8])), (a8, .inl (E.2.2 1, 1600, .inl f6))] 0 0
        refine mp_run hF mp_tabX3_ok [mp_h (.ifCond .eq 21) [74]] (by decide +kernel) ?_
        refine And.intro (fun c55 => absurd c55 (by decide)) (fun _ => ?_)
        show mp_W E X 4 56 [(1, .int r8), (0, .ref a0)] [] [(a1, .inl (E.2.2 0, 10, .inl f0)), (a2, .inl (E.2.2 0, 10, .inl f1)), (a3, .inl (E.2.2 0, 10, .inl f2)), (a4, .inl (E.2.2 0, 10, .inl f3)), (a5, .inl (E.2.2 0, 10, .inl f4)), (a6, .inl (E.2.2 0, 10, .inl f5)), (a7, .inr (7, [.int y0, .int y1, .int y2, .int y3, .int y4, .int y5, .ref a9, .ref a10, .ref a11, .ref a12, .ref a13, .ref a1, .ref a2, .ref a3, .ref a4, .ref a5, .ref a6, .ref a14])), (a0, .inr (3, [.ref a8, .int y6, .ref a7, .int y7, .int y8, .int r43, .int r44, .int r45, .int r46, .int r8])), (a8, .inl (E.2.2 1, 1600, .inl f6))] 0 0
        refine mp_run hF mp_tabX3_ok [mp_i (.aload_n 0), mp_c (.iconst 0) 0, mp_i (.aload_n 0), mp_h (.getfield 18) [11, 7], mp_h (.getfield 114) [3, 6], mp_c (.iconst 1) 1, mp_i .isub, mp_i (.iload_n 1)] (by decide +kernel) ?_
        refine And.intro rfl (And.intro rfl ?_)
        refine And.intro rfl (And.intro rfl ?_)
        intro z56 h57
        have e58 : z56.toInt = y3.toInt - 1 := mp_subi (a := y3.toInt) (b := 1) h57 rfl (by decide) (by omega) (by omega)
        show mp_W E X 4 68 [(1, .int r8), (0, .ref a0)] [.int r8, .int z56, .int 0, .ref a0] [(a1, .inl (E.2.2 0, 10, .inl f0)), (a2, .inl (E.2.2 0, 10, .inl f1)), (a3, .inl (E.2.2 0, 10, .inl f2)), (a4, .inl (E.2.2 0, 10, .inl f3)), (a5, .inl (E.2.2 0, 10, .inl f4)), (a6, .inl (E.2.2 0, 10, .inl f5)), (a7, .inr (7, [.int y0, .int y1, .int y2, .int y3, .int y4, .int y5, .ref a9, .ref a10, .ref a11, .ref a12, .ref a13, .ref a1, .ref a2, .ref a3, .ref a4, .ref a5, .ref a6, .ref a14])), (a0, .inr (3, [.ref a8, .int y6, .ref a7, .int y7, .int y8, .int r43, .int r44, .int r45, .int r46, .int r8])), (a8, .inl (E.2.2 1, 1600, .inl f6))] 0 0
        refine mp_callV hF (As := [.int 0, .int z56, .int r8]) (rest := []) (wr := [(a1, .inl (E.2.2 0, 10, .inl f0)), (a2, .inl (E.2.2 0, 10, .inl f1)), (a3, .inl (E.2.2 0, 10, .inl f2)), (a4, .inl (E.2.2 0, 10, .inl f3)), (a5, .inl (E.2.2 0, 10, .inl f4)), (a6, .inl (E.2.2 0, 10, .inl f5)), (a7, .inr (7, [.int y0, .int y1, .int y2, .int y3, .int y4, .int y5, .ref a9, .ref a10, .ref a11, .ref a12, .ref a13, .ref a1, .ref a2, .ref a3, .ref a4, .ref a5, .ref a6, .ref a14]))]) (bX3_takeNumber_21 E a0 a8 a7 f6 y6 y7 y8 r43 r44 r45 r46 r8 z56 r8 (by omega) (by omega) l_y6 u_y6 l50 u51 l52 u53) mp_lkX3_91 7 rfl [7, 8] [0, 1, 2, 3, 4, 5, 6] rfl rfl rfl rfl rfl ⟨(Nat.le_of_ble_eq_true rfl), (Nat.le_of_ble_eq_true rfl), (Nat.le_of_ble_eq_true rfl), (Nat.le_of_ble_eq_true rfl)⟩ (Nat.le_of_ble_eq_true rfl) (by decide +kernel) (fun v59 w60 h61 => ?_)
        rcases h61 with ⟨r62, rfl, l63, u64, rfl⟩ | ⟨r65, r66, r67, r68, rfl, c69, c70, c71, c72, l73, u74, l75, u76, l77, u78, rfl⟩
        · skip
          show mp_W E X 4 71 [(1, .int r8), (0, .ref a0)] [.int 0] [(a1, .inl (E.2.2 0, 10, .inl f0)), (a2, .inl (E.2.2 0, 10, .inl f1)), (a3, .inl (E.2.2 0, 10, .inl f2)), (a4, .inl (E.2.2 0, 10, .inl f3)), (a5, .inl (E.2.2 0, 10, .inl f4)), (a6, .inl (E.2.2 0, 10, .inl f5)), (a7, .inr (7, [.int y0, .int y1, .int y2, .int y3, .int y4, .int y5, .ref a9, .ref a10, .ref a11, .ref a12, .ref a13, .ref a1, .ref a2, .ref a3, .ref a4, .ref a5, .ref a6, .ref a14])), (a0, .inr (3, [.ref a8, .int y6, .ref a7, .int r62, .int r44, .int r43, .int r44, .int r45, .int r46, .int r8])), (a8, .inl (E.2.2 1, 1600, .inl f6))] 0 0
          refine mp_run hF mp_tabX3_ok [mp_h (.ifCond .ne 5) [76]] (by decide +kernel) ?_
          refine And.intro (fun c79 => absurd c79 (by decide)) (fun _ => ?_)
          show mp_W E X 4 74 [(1, .int r8), (0, .ref a0)] [] [(a1, .inl (E.2.2 0, 10, .inl f0)), (a2, .inl (E.2.2 0, 10, .inl f1)), (a3, .inl (E.2.2 0, 10, .inl f2)), (a4, .inl (E.2.2 0, 10, .inl f3)), (a5, .inl (E.2.2 0, 10, .inl f4)), (a6, .inl (E.2.2 0, 10, .inl f5)), (a7, .inr (7, [.int y0, .int y1, .int y2, .int y3, .int y4, .int y5, .ref a9, .ref a10, .ref a11, .ref a12, .ref a13, .ref a1, .ref a2, .ref a3, .ref a4, .ref a5, .ref a6, .ref a14])), (a0, .inr (3, [.ref a8, .int y6, .ref a7, .int r62, .int r44, .int r43, .int r44, .int r45, .int r46, .int r8])), (a8, .inl (E.2.2 1, 1600, .inl f6))] 0 0
          refine mp_run hF mp_tabX3_ok [mp_c (.iconst 0) 0] (by decide +kernel) ?_
          show mp_W E X 4 75 [(1, .int r8), (0, .ref a0)] [.int 0] [(a1, .inl (E.2.2 0, 10, .inl f0)), (a2, .inl (E.2.2 0, 10, .inl f1)), (a3, .inl (E.2.2 0, 10, .inl f2)), (a4, .inl (E.2.2 0, 10, .inl f3)), (a5, .inl (E.2.2 0, 10, .inl f4)), (a6, .inl (E.2.2 0, 10, .inl f5)), (a7, .inr (7, [.int y0, .int y1, .int y2, .int y3, .int y4, .int y5, .ref a9, .ref a10, .ref a11, .ref a12, .ref a13, .ref a1, .ref a2, .ref a3, .ref a4, .ref a5, .ref a6, .ref a14])), (a0, .inr (3, [.ref a8, .int y6, .ref a7, .int r62, .int r44, .int r43, .int r44, .int r45, .int r46, .int r8])), (a8, .inl (E.2.2 1, 1600, .inl f6))] 0 0
          exact mp_iret hF hQ rfl (by decide) (Nat.le_of_ble_eq_true rfl) (Nat.le_of_ble_eq_true rfl) [0, 1, 2, 3, 4, 5, 6, 7, 8] (w' := [(a1, .inl (E.2.2 0, 10, .inl f0)), (a2, .inl (E.2.2 0, 10, .inl f1)), (a3, .inl (E.2.2 0, 10, .inl f2)), (a4, .inl (E.2.2 0, 10, .inl f3)), (a5, .inl (E.2.2 0, 10, .inl f4)), (a6, .inl (E.2.2 0, 10, .inl f5)), (a7, .inr (7, [.int y0, .int y1, .int y2, .int y3, .int y4, .int y5, .ref a9, .ref a10, .ref a11, .ref a12, .ref a13, .ref a1, .ref a2, .ref a3, .ref a4, .ref a5, .ref a6, .ref a14])), (a0, .inr (3, [.ref a8, .int y6, .ref a7, .int r62, .int r44, .int r43, .int r44, .int r45, .int r46, .int r8])), (a8, .inl (E.2.2 1, 1600, .inl f6))]) rfl rfl (Or.inl ⟨r62, r44, r43, r44, r45, r46, r8, rfl, l63, (by omega), l50, u51, l50, u51, l52, u53, rfl⟩) (by decide +kernel)
        · skip
          have c69 : r43.toInt = 2 := c69
          have c70 : 0 ≤ r46.toInt := c70
          have c71 : r46.toInt ≤ z56.toInt := c71
          have c72 : r46.toInt ≠ r8.toInt := c72
          show mp_W E X 4 71 [(1, .int r8), (0, .ref a0)] [.int 1] [(a1, .inl (E.2.2 0, 10, .inl f0)), (a2, .inl (E.2.2 0, 10, .inl f1)), (a3, .inl (E.2.2 0, 10, .inl f2)), (a4, .inl (E.2.2 0, 10, .inl f3)), (a5, .inl (E.2.2 0, 10, .inl f4)), (a6, .inl (E.2.2 0, 10, .inl f5)), (a7, .inr (7, [.int y0, .int y1, .int y2, .int y3, .int y4, .int y5, .ref a9, .ref a10, .ref a11, .ref a12, .ref a13, .ref a1, .ref a2, .ref a3, .ref a4, .ref a5, .ref a6, .ref a14])), (a0, .inr (3, [.ref a8, .int y6, .ref a7, .int y7, .int y8, .int r65, .int r66, .int r67, .int r68, .int r46])), (a8, .inl (E.2.2 1, 1600, .inl f6))] 0 0
          refine mp_run hF mp_tabX3_ok [mp_h (.ifCond .ne 5) [76]] (by decide +kernel) ?_
          refine And.intro (fun _ => ?_) (fun c80 => absurd c80 (by decide))
          show mp_W E X 4 76 [(1, .int r8), (0, .ref a0)] [] [(a1, .inl (E.2.2 0, 10, .inl f0)), (a2, .inl (E.2.2 0, 10, .inl f1)), (a3, .inl (E.2.2 0, 10, .inl f2)), (a4, .inl (E.2.2 0, 10, .inl f3)), (a5, .inl (E.2.2 0, 10, .inl f4)), (a6, .inl (E.2.2 0, 10, .inl f5)), (a7, .inr (7, [.int y0, .int y1, .int y2, .int y3, .int y4, .int y5, .ref a9, .ref a10, .ref a11, .ref a12, .ref a13, .ref a1, .ref a2, .ref a3, .ref a4, .ref a5, .ref a6, .ref a14])), (a0, .inr (3, [.ref a8, .int y6, .ref a7, .int y7, .int y8, .int r65, .int r66, .int r67, .int r68, .int r46])), (a8, .inl (E.2.2 1, 1600, .inl f6))] 0 0
          refine mp_run hF mp_tabX3_ok [mp_i (.aload_n 0), mp_h (.getfield 95) [18, 7], mp_i (.istore_n 2), mp_i (.aload_n 0)] (by decide +kernel) ?_
          refine And.intro rfl (And.intro rfl ?_)
          show mp_W E X 4 82 [(2, .int r46), (1, .int r8), (0, .ref a0)] [.ref a0] [(a1, .inl (E.2.2 0, 10, .inl f0)), (a2, .inl (E.2.2 0, 10, .inl f1)), (a3, .inl (E.2.2 0, 10, .inl f2)), (a4, .inl (E.2.2 0, 10, .inl f3)), (a5, .inl (E.2.2 0, 10, .inl f4)), (a6, .inl (E.2.2 0, 10, .inl f5)), (a7, .inr (7, [.int y0, .int y1, .int y2, .int y3, .int y4, .int y5, .ref a9, .ref a10, .ref a11, .ref a12, .ref a13, .ref a1, .ref a2, .ref a3, .ref a4, .ref a5, .ref a6, .ref a14])), (a0, .inr (3, [.ref a8, .int y6, .ref a7, .int y7, .int y8, .int r65, .int r66, .int r67, .int r68, .int r46])), (a8, .inl (E.2.2 1, 1600, .inl f6))] 0 0
          refine mp_ldcS hF 10 (q := (RX3, 136, "worth", 10)) rfl rfl (by decide +kernel) ?_
          show mp_W E X 4 84 [(2, .int r46), (1, .int r8), (0, .ref a0)] [.ref (E.1.2.1 10), .ref a0] [(a1, .inl (E.2.2 0, 10, .inl f0)), (a2, .inl (E.2.2 0, 10, .inl f1)), (a3, .inl (E.2.2 0, 10, .inl f2)), (a4, .inl (E.2.2 0, 10, .inl f3)), (a5, .inl (E.2.2 0, 10, .inl f4)), (a6, .inl (E.2.2 0, 10, .inl f5)), (a7, .inr (7, [.int y0, .int y1, .int y2, .int y3, .int y4, .int y5, .ref a9, .ref a10, .ref a11, .ref a12, .ref a13, .ref a1, .ref a2, .ref a3, .ref a4, .ref a5, .ref a6, .ref a14])), (a0, .inr (3, [.ref a8, .int y6, .ref a7, .int y7, .int y8, .int r65, .int r66, .int r67, .int r68, .int r46])), (a8, .inl (E.2.2 1, 1600, .inl f6))] 0 0
          refine mp_callV hF (As := [.ref (E.1.2.1 10)]) (rest := []) (wr := [(a1, .inl (E.2.2 0, 10, .inl f0)), (a2, .inl (E.2.2 0, 10, .inl f1)), (a3, .inl (E.2.2 0, 10, .inl f2)), (a4, .inl (E.2.2 0, 10, .inl f3)), (a5, .inl (E.2.2 0, 10, .inl f4)), (a6, .inl (E.2.2 0, 10, .inl f5)), (a7, .inr (7, [.int y0, .int y1, .int y2, .int y3, .int y4, .int y5, .ref a9, .ref a10, .ref a11, .ref a12, .ref a13, .ref a1, .ref a2, .ref a3, .ref a4, .ref a5, .ref a6, .ref a14]))]) (bX3_takeWord_20 E 10 (by decide) a0 a8 a7 f6 y6 y7 y8 r65 r66 r67 r68 r46 l_y6 u_y6 l75 u76 l77 u78) mp_lkX3_102 7 rfl [7, 8] [0, 1, 2, 3, 4, 5, 6] rfl rfl rfl rfl rfl ⟨(Nat.le_of_ble_eq_true rfl), (Nat.le_of_ble_eq_true rfl), (Nat.le_of_ble_eq_true rfl), (Nat.le_of_ble_eq_true rfl)⟩ (Nat.le_of_ble_eq_true rfl) (by decide +kernel) (fun v81 w82 h83 => ?_)
          rcases h83 with ⟨rfl, rfl⟩ | ⟨r84, r85, r86, r87, rfl, c88, l89, u90, l91, u92, l93, u94, rfl⟩
          · skip
            show mp_W E X 4 87 [(2, .int r46), (1, .int r8), (0, .ref a0)] [.int 0] [(a1, .inl (E.2.2 0, 10, .inl f0)), (a2, .inl (E.2.2 0, 10, .inl f1)), (a3, .inl (E.2.2 0, 10, .inl f2)), (a4, .inl (E.2.2 0, 10, .inl f3)), (a5, .inl (E.2.2 0, 10, .inl f4)), (a6, .inl (E.2.2 0, 10, .inl f5)), (a7, .inr (7, [.int y0, .int y1, .int y2, .int y3, .int y4, .int y5, .ref a9, .ref a10, .ref a11, .ref a12, .ref a13, .ref a1, .ref a2, .ref a3, .ref a4, .ref a5, .ref a6, .ref a14])), (a0, .inr (3, [.ref a8, .int y6, .ref a7, .int 1, .int r66, .int r65, .int r66, .int r67, .int r68, .int r46])), (a8, .inl (E.2.2 1, 1600, .inl f6))] 0 0
            refine mp_run hF mp_tabX3_ok [mp_h (.ifCond .eq 14) [101]] (by decide +kernel) ?_
            refine And.intro (fun _ => ?_) (fun c95 => absurd c95 (by decide))
            show mp_W E X 4 101 [(2, .int r46), (1, .int r8), (0, .ref a0)] [] [(a1, .inl (E.2.2 0, 10, .inl f0)), (a2, .inl (E.2.2 0, 10, .inl f1)), (a3, .inl (E.2.2 0, 10, .inl f2)), (a4, .inl (E.2.2 0, 10, .inl f3)), (a5, .inl (E.2.2 0, 10, .inl f4)), (a6, .inl (E.2.2 0, 10, .inl f5)), (a7, .inr (7, [.int y0, .int y1, .int y2, .int y3, .int y4, .int y5, .ref a9, .ref a10, .ref a11, .ref a12, .ref a13, .ref a1, .ref a2, .ref a3, .ref a4, .ref a5, .ref a6, .ref a14])), (a0, .inr (3, [.ref a8, .int y6, .ref a7, .int 1, .int r66, .int r65, .int r66, .int r67, .int r68, .int r46])), (a8, .inl (E.2.2 1, 1600, .inl f6))] 0 0
            refine mp_run hF mp_tabX3_ok [mp_c (.iconst 0) 0] (by decide +kernel) ?_
            show mp_W E X 4 102 [(2, .int r46), (1, .int r8), (0, .ref a0)] [.int 0] [(a1, .inl (E.2.2 0, 10, .inl f0)), (a2, .inl (E.2.2 0, 10, .inl f1)), (a3, .inl (E.2.2 0, 10, .inl f2)), (a4, .inl (E.2.2 0, 10, .inl f3)), (a5, .inl (E.2.2 0, 10, .inl f4)), (a6, .inl (E.2.2 0, 10, .inl f5)), (a7, .inr (7, [.int y0, .int y1, .int y2, .int y3, .int y4, .int y5, .ref a9, .ref a10, .ref a11, .ref a12, .ref a13, .ref a1, .ref a2, .ref a3, .ref a4, .ref a5, .ref a6, .ref a14])), (a0, .inr (3, [.ref a8, .int y6, .ref a7, .int 1, .int r66, .int r65, .int r66, .int r67, .int r68, .int r46])), (a8, .inl (E.2.2 1, 1600, .inl f6))] 0 0
            exact mp_iret hF hQ rfl (by decide) (Nat.le_of_ble_eq_true rfl) (Nat.le_of_ble_eq_true rfl) [0, 1, 2, 3, 4, 5, 6, 7, 8] (w' := [(a1, .inl (E.2.2 0, 10, .inl f0)), (a2, .inl (E.2.2 0, 10, .inl f1)), (a3, .inl (E.2.2 0, 10, .inl f2)), (a4, .inl (E.2.2 0, 10, .inl f3)), (a5, .inl (E.2.2 0, 10, .inl f4)), (a6, .inl (E.2.2 0, 10, .inl f5)), (a7, .inr (7, [.int y0, .int y1, .int y2, .int y3, .int y4, .int y5, .ref a9, .ref a10, .ref a11, .ref a12, .ref a13, .ref a1, .ref a2, .ref a3, .ref a4, .ref a5, .ref a6, .ref a14])), (a0, .inr (3, [.ref a8, .int y6, .ref a7, .int 1, .int r66, .int r65, .int r66, .int r67, .int r68, .int r46])), (a8, .inl (E.2.2 1, 1600, .inl f6))]) rfl rfl (Or.inl ⟨1, r66, r65, r66, r67, r68, r46, rfl, (by decide), (by decide), l75, u76, l75, u76, l77, u78, rfl⟩) (by decide +kernel)
          · skip
            have c88 : r65.toInt = 1 := c88
            show mp_W E X 4 87 [(2, .int r46), (1, .int r8), (0, .ref a0)] [.int 1] [(a1, .inl (E.2.2 0, 10, .inl f0)), (a2, .inl (E.2.2 0, 10, .inl f1)), (a3, .inl (E.2.2 0, 10, .inl f2)), (a4, .inl (E.2.2 0, 10, .inl f3)), (a5, .inl (E.2.2 0, 10, .inl f4)), (a6, .inl (E.2.2 0, 10, .inl f5)), (a7, .inr (7, [.int y0, .int y1, .int y2, .int y3, .int y4, .int y5, .ref a9, .ref a10, .ref a11, .ref a12, .ref a13, .ref a1, .ref a2, .ref a3, .ref a4, .ref a5, .ref a6, .ref a14])), (a0, .inr (3, [.ref a8, .int y6, .ref a7, .int y7, .int y8, .int r84, .int r85, .int r86, .int r87, .int r46])), (a8, .inl (E.2.2 1, 1600, .inl f6))] 0 0
            refine mp_run hF mp_tabX3_ok [mp_h (.ifCond .eq 14) [101]] (by decide +kernel) ?_
            refine And.intro (fun c96 => absurd c96 (by decide)) (fun _ => ?_)
            show mp_W E X 4 90 [(2, .int r46), (1, .int r8), (0, .ref a0)] [] [(a1, .inl (E.2.2 0, 10, .inl f0)), (a2, .inl (E.2.2 0, 10, .inl f1)), (a3, .inl (E.2.2 0, 10, .inl f2)), (a4, .inl (E.2.2 0, 10, .inl f3)), (a5, .inl (E.2.2 0, 10, .inl f4)), (a6, .inl (E.2.2 0, 10, .inl f5)), (a7, .inr (7, [.int y0, .int y1, .int y2, .int y3, .int y4, .int y5, .ref a9, .ref a10, .ref a11, .ref a12, .ref a13, .ref a1, .ref a2, .ref a3, .ref a4, .ref a5, .ref a6, .ref a14])), (a0, .inr (3, [.ref a8, .int y6, .ref a7, .int y7, .int y8, .int r84, .int r85, .int r86, .int r87, .int r46])), (a8, .inl (E.2.2 1, 1600, .inl f6))] 0 0
            refine mp_run hF mp_tabX3_ok [mp_i (.aload_n 0), mp_c (.iconst 1) 1, mp_c (.ldc 138) 1000000, mp_c (.iconst (-1)) (-1)] (by decide +kernel) ?_
            show mp_W E X 4 95 [(2, .int r46), (1, .int r8), (0, .ref a0)] [.int (-1), .int 1000000, .int 1, .ref a0] [(a1, .inl (E.2.2 0, 10, .inl f0)), (a2, .inl (E.2.2 0, 10, .inl f1)), (a3, .inl (E.2.2 0, 10, .inl f2)), (a4, .inl (E.2.2 0, 10, .inl f3)), (a5, .inl (E.2.2 0, 10, .inl f4)), (a6, .inl (E.2.2 0, 10, .inl f5)), (a7, .inr (7, [.int y0, .int y1, .int y2, .int y3, .int y4, .int y5, .ref a9, .ref a10, .ref a11, .ref a12, .ref a13, .ref a1, .ref a2, .ref a3, .ref a4, .ref a5, .ref a6, .ref a14])), (a0, .inr (3, [.ref a8, .int y6, .ref a7, .int y7, .int y8, .int r84, .int r85, .int r86, .int r87, .int r46])), (a8, .inl (E.2.2 1, 1600, .inl f6))] 0 0
            refine mp_callV hF (As := [.int 1, .int 1000000, .int (-1)]) (rest := []) (wr := [(a1, .inl (E.2.2 0, 10, .inl f0)), (a2, .inl (E.2.2 0, 10, .inl f1)), (a3, .inl (E.2.2 0, 10, .inl f2)), (a4, .inl (E.2.2 0, 10, .inl f3)), (a5, .inl (E.2.2 0, 10, .inl f4)), (a6, .inl (E.2.2 0, 10, .inl f5)), (a7, .inr (7, [.int y0, .int y1, .int y2, .int y3, .int y4, .int y5, .ref a9, .ref a10, .ref a11, .ref a12, .ref a13, .ref a1, .ref a2, .ref a3, .ref a4, .ref a5, .ref a6, .ref a14]))]) (bX3_takeNumber_25 E a0 a8 a7 f6 y6 y7 y8 r84 r85 r86 r87 r46 (-1) l_y6 u_y6 l91 u92 l93 u94) mp_lkX3_91 7 rfl [7, 8] [0, 1, 2, 3, 4, 5, 6] rfl rfl rfl rfl rfl ⟨(Nat.le_of_ble_eq_true rfl), (Nat.le_of_ble_eq_true rfl), (Nat.le_of_ble_eq_true rfl), (Nat.le_of_ble_eq_true rfl)⟩ (Nat.le_of_ble_eq_true rfl) (by decide +kernel) (fun v97 w98 h99 => ?_)
            rcases h99 with ⟨r100, rfl, l101, u102, rfl⟩ | ⟨r103, r104, r105, r106, rfl, c107, c108, c109, c110, l111, u112, l113, u114, l115, u116, rfl⟩
            · skip
              show mp_W E X 4 98 [(2, .int r46), (1, .int r8), (0, .ref a0)] [.int 0] [(a1, .inl (E.2.2 0, 10, .inl f0)), (a2, .inl (E.2.2 0, 10, .inl f1)), (a3, .inl (E.2.2 0, 10, .inl f2)), (a4, .inl (E.2.2 0, 10, .inl f3)), (a5, .inl (E.2.2 0, 10, .inl f4)), (a6, .inl (E.2.2 0, 10, .inl f5)), (a7, .inr (7, [.int y0, .int y1, .int y2, .int y3, .int y4, .int y5, .ref a9, .ref a10, .ref a11, .ref a12, .ref a13, .ref a1, .ref a2, .ref a3, .ref a4, .ref a5, .ref a6, .ref a14])), (a0, .inr (3, [.ref a8, .int y6, .ref a7, .int r100, .int r85, .int r84, .int r85, .int r86, .int r87, .int r46])), (a8, .inl (E.2.2 1, 1600, .inl f6))] 0 0
              refine mp_run hF mp_tabX3_ok [mp_h (.ifCond .ne 5) [103]] (by decide +kernel) ?_
              refine And.intro (fun c117 => absurd c117 (by decide)) (fun _ => ?_)
              show mp_W E X 4 101 [(2, .int r46), (1, .int r8), (0, .ref a0)] [] [(a1, .inl (E.2.2 0, 10, .inl f0)), (a2, .inl (E.2.2 0, 10, .inl f1)), (a3, .inl (E.2.2 0, 10, .inl f2)), (a4, .inl (E.2.2 0, 10, .inl f3)), (a5, .inl (E.2.2 0, 10, .inl f4)), (a6, .inl (E.2.2 0, 10, .inl f5)), (a7, .inr (7, [.int y0, .int y1, .int y2, .int y3, .int y4, .int y5, .ref a9, .ref a10, .ref a11, .ref a12, .ref a13, .ref a1, .ref a2, .ref a3, .ref a4, .ref a5, .ref a6, .ref a14])), (a0, .inr (3, [.ref a8, .int y6, .ref a7, .int r100, .int r85, .int r84, .int r85, .int r86, .int r87, .int r46])), (a8, .inl (E.2.2 1, 1600, .inl f6))] 0 0
              refine mp_run hF mp_tabX3_ok [mp_c (.iconst 0) 0] (by decide +kernel) ?_
              show mp_W E X 4 102 [(2, .int r46), (1, .int r8), (0, .ref a0)] [.int 0] [(a1, .inl (E.2.2 0, 10, .inl f0)), (a2, .inl (E.2.2 0, 10, .inl f1)), (a3, .inl (E.2.2 0, 10, .inl f2)), (a4, .inl (E.2.2 0, 10, .inl f3)), (a5, .inl (E.2.2 0, 10, .inl f4)), (a6, .inl (E.2.2 0, 10, .inl f5)), (a7, .inr (7, [.int y0, .int y1, .int y2, .int y3, .int y4, .int y5, .ref a9, .ref a10, .ref a11, .ref a12, .ref a13, .ref a1, .ref a2, .ref a3, .ref a4, .ref a5, .ref a6, .ref a14])), (a0, .inr (3, [.ref a8, .int y6, .ref a7, .int r100, .int r85, .int r84, .int r85, .int r86, .int r87, .int r46])), (a8, .inl (E.2.2 1, 1600, .inl f6))] 0 0
              exact mp_iret hF hQ rfl (by decide) (Nat.le_of_ble_eq_true rfl) (Nat.le_of_ble_eq_true rfl) [0, 1, 2, 3, 4, 5, 6, 7, 8] (w' := [(a1, .inl (E.2.2 0, 10, .inl f0)), (a2, .inl (E.2.2 0, 10, .inl f1)), (a3, .inl (E.2.2 0, 10, .inl f2)), (a4, .inl (E.2.2 0, 10, .inl f3)), (a5, .inl (E.2.2 0, 10, .inl f4)), (a6, .inl (E.2.2 0, 10, .inl f5)), (a7, .inr (7, [.int y0, .int y1, .int y2, .int y3, .int y4, .int y5, .ref a9, .ref a10, .ref a11, .ref a12, .ref a13, .ref a1, .ref a2, .ref a3, .ref a4, .ref a5, .ref a6, .ref a14])), (a0, .inr (3, [.ref a8, .int y6, .ref a7, .int r100, .int r85, .int r84, .int r85, .int r86, .int r87, .int r46])), (a8, .inl (E.2.2 1, 1600, .inl f6))]) rfl rfl (Or.inl ⟨r100, r85, r84, r85, r86, r87, r46, rfl, l101, (by omega), l91, u92, l91, u92, l93, u94, rfl⟩) (by decide +kernel)
            · skip
              have c107 : r84.toInt = 2 := c107
              have c108 : 1 ≤ r87.toInt := c108
              have c109 : r87.toInt ≤ 1000000 := c109
              have c110 : r87.toInt ≠ (-1) := c110
              show mp_W E X 4 98 [(2, .int r46), (1, .int r8), (0, .ref a0)] [.int 1] [(a1, .inl (E.2.2 0, 10, .inl f0)), (a2, .inl (E.2.2 0, 10, .inl f1)), (a3, .inl (E.2.2 0, 10, .inl f2)), (a4, .inl (E.2.2 0, 10, .inl f3)), (a5, .inl (E.2.2 0, 10, .inl f4)), (a6, .inl (E.2.2 0, 10, .inl f5)), (a7, .inr (7, [.int y0, .int y1, .int y2, .int y3, .int y4, .int y5, .ref a9, .ref a10, .ref a11, .ref a12, .ref a13, .ref a1, .ref a2, .ref a3, .ref a4, .ref a5, .ref a6, .ref a14])), (a0, .inr (3, [.ref a8, .int y6, .ref a7, .int y7, .int y8, .int r103, .int r104, .int r105, .int r106, .int r87])), (a8, .inl (E.2.2 1, 1600, .inl f6))] 0 0
              refine mp_run hF mp_tabX3_ok [mp_h (.ifCond .ne 5) [103]] (by decide +kernel) ?_
              refine And.intro (fun _ => ?_) (fun c118 => absurd c118 (by decide))
              show mp_W E X 4 103 [(2, .int r46), (1, .int r8), (0, .ref a0)] [] [(a1, .inl (E.2.2 0, 10, .inl f0)), (a2, .inl (E.2.2 0, 10, .inl f1)), (a3, .inl (E.2.2 0, 10, .inl f2)), (a4, .inl (E.2.2 0, 10, .inl f3)), (a5, .inl (E.2.2 0, 10, .inl f4)), (a6, .inl (E.2.2 0, 10, .inl f5)), (a7, .inr (7, [.int y0, .int y1, .int y2, .int y3, .int y4, .int y5, .ref a9, .ref a10, .ref a11, .ref a12, .ref a13, .ref a1, .ref a2, .ref a3, .ref a4, .ref a5, .ref a6, .ref a14])), (a0, .inr (3, [.ref a8, .int y6, .ref a7, .int y7, .int y8, .int r103, .int r104, .int r105, .int r106, .int r87])), (a8, .inl (E.2.2 1, 1600, .inl f6))] 0 0
              refine mp_run hF mp_tabX3_ok [mp_i (.aload_n 0), mp_h (.getfield 95) [18, 7], mp_i (.istore_n 3), mp_i (.aload_n 0)] (by decide +kernel) ?_
              refine And.intro rfl (And.intro rfl ?_)
              show mp_W E X 4 109 [(3, .int r87), (2, .int r46), (1, .int r8), (0, .ref a0)] [.ref a0] [(a1, .inl (E.2.2 0, 10, .inl f0)), (a2, .inl (E.2.2 0, 10, .inl f1)), (a3, .inl (E.2.2 0, 10, .inl f2)), (a4, .inl (E.2.2 0, 10, .inl f3)), (a5, .inl (E.2.2 0, 10, .inl f4)), (a6, .inl (E.2.2 0, 10, .inl f5)), (a7, .inr (7, [.int y0, .int y1, .int y2, .int y3, .int y4, .int y5, .ref a9, .ref a10, .ref a11, .ref a12, .ref a13, .ref a1, .ref a2, .ref a3, .ref a4, .ref a5, .ref a6, .ref a14])), (a0, .inr (3, [.ref a8, .int y6, .ref a7, .int y7, .int y8, .int r103, .int r104, .int r105, .int r106, .int r87])), (a8, .inl (E.2.2 1, 1600, .inl f6))] 0 0
              refine mp_ldcS hF 11 (q := (RX3, 139, "said", 11)) rfl rfl (by decide +kernel) ?_
              show mp_W E X 4 111 [(3, .int r87), (2, .int r46), (1, .int r8), (0, .ref a0)] [.ref (E.1.2.1 11), .ref a0] [(a1, .inl (E.2.2 0, 10, .inl f0)), (a2, .inl (E.2.2 0, 10, .inl f1)), (a3, .inl (E.2.2 0, 10, .inl f2)), (a4, .inl (E.2.2 0, 10, .inl f3)), (a5, .inl (E.2.2 0, 10, .inl f4)), (a6, .inl (E.2.2 0, 10, .inl f5)), (a7, .inr (7, [.int y0, .int y1, .int y2, .int y3, .int y4, .int y5, .ref a9, .ref a10, .ref a11, .ref a12, .ref a13, .ref a1, .ref a2, .ref a3, .ref a4, .ref a5, .ref a6, .ref a14])), (a0, .inr (3, [.ref a8, .int y6, .ref a7, .int y7, .int y8, .int r103, .int r104, .int r105, .int r106, .int r87])), (a8, .inl (E.2.2 1, 1600, .inl f6))] 0 0
              refine mp_callV hF (As := [.ref (E.1.2.1 11)]) (rest := []) (wr := [(a1, .inl (E.2.2 0, 10, .inl f0)), (a2, .inl (E.2.2 0, 10, .inl f1)), (a3, .inl (E.2.2 0, 10, .inl f2)), (a4, .inl (E.2.2 0, 10, .inl f3)), (a5, .inl (E.2.2 0, 10, .inl f4)), (a6, .inl (E.2.2 0, 10, .inl f5)), (a7, .inr (7, [.int y0, .int y1, .int y2, .int y3, .int y4, .int y5, .ref a9, .ref a10, .ref a11, .ref a12, .ref a13, .ref a1, .ref a2, .ref a3, .ref a4, .ref a5, .ref a6, .ref a14]))]) (bX3_takeWord_20 E 11 (by decide) a0 a8 a7 f6 y6 y7 y8 r103 r104 r105 r106 r87 l_y6 u_y6 l113 u114 l115 u116) mp_lkX3_102 7 rfl [7, 8] [0, 1, 2, 3, 4, 5, 6] rfl rfl rfl rfl rfl ⟨(Nat.le_of_ble_eq_true rfl), (Nat.le_of_ble_eq_true rfl), (Nat.le_of_ble_eq_true rfl), (Nat.le_of_ble_eq_true rfl)⟩ (Nat.le_of_ble_eq_true rfl) (by decide +kernel) (fun v119 w120 h121 => ?_)
              rcases h121 with ⟨rfl, rfl⟩ | ⟨r122, r123, r124, r125, rfl, c126, l127, u128, l129, u130, l131, u132, rfl⟩
              · skip
                show mp_W E X 4 114 [(3, .int r87), (2, .int r46), (1, .int r8), (0, .ref a0)] [.int 0] [(a1, .inl (E.2.2 0, 10, .inl f0)), (a2, .inl (E.2.2 0, 10, .inl f1)), (a3, .inl (E.2.2 0, 10, .inl f2)), (a4, .inl (E.2.2 0, 10, .inl f3)), (a5, .inl (E.2.2 0, 10, .inl f4)), (a6, .inl (E.2.2 0, 10, .inl f5)), (a7, .inr (7, [.int y0, .int y1, .int y2, .int y3, .int y4, .int y5, .ref a9, .ref a10, .ref a11, .ref a12, .ref a13, .ref a1, .ref a2, .ref a3, .ref a4, .ref a5, .ref a6, .ref a14])), (a0, .inr (3, [.ref a8, .int y6, .ref a7, .int 1, .int r104, .int r103, .int r104, .int r105, .int r106, .int r87])), (a8, .inl (E.2.2 1, 1600, .inl f6))] 0 0
                refine mp_run hF mp_tabX3_ok [mp_h (.ifCond .eq 19) [133]] (by decide +kernel) ?_
                refine And.intro (fun _ => ?_) (fun c133 => absurd c133 (by decide))
                show mp_W E X 4 133 [(3, .int r87), (2, .int r46), (1, .int r8), (0, .ref a0)] [] [(a1, .inl (E.2.2 0, 10, .inl f0)), (a2, .inl (E.2.2 0, 10, .inl f1)), (a3, .inl (E.2.2 0, 10, .inl f2)), (a4, .inl (E.2.2 0, 10, .inl f3)), (a5, .inl (E.2.2 0, 10, .inl f4)), (a6, .inl (E.2.2 0, 10, .inl f5)), (a7, .inr (7, [.int y0, .int y1, .int y2, .int y3, .int y4, .int y5, .ref a9, .ref a10, .ref a11, .ref a12, .ref a13, .ref a1, .ref a2, .ref a3, .ref a4, .ref a5, .ref a6, .ref a14])), (a0, .inr (3, [.ref a8, .int y6, .ref a7, .int 1, .int r104, .int r103, .int r104, .int r105, .int r106, .int r87])), (a8, .inl (E.2.2 1, 1600, .inl f6))] 0 0
                refine mp_run hF mp_tabX3_ok [mp_c (.iconst 0) 0] (by decide +kernel) ?_
                show mp_W E X 4 134 [(3, .int r87), (2, .int r46), (1, .int r8), (0, .ref a0)] [.int 0] [(a1, .inl (E.2.2 0, 10, .inl f0)), (a2, .inl (E.2.2 0, 10, .inl f1)), (a3, .inl (E.2.2 0, 10, .inl f2)), (a4, .inl (E.2.2 0, 10, .inl f3)), (a5, .inl (E.2.2 0, 10, .inl f4)), (a6, .inl (E.2.2 0, 10, .inl f5)), (a7, .inr (7, [.int y0, .int y1, .int y2, .int y3, .int y4, .int y5, .ref a9, .ref a10, .ref a11, .ref a12, .ref a13, .ref a1, .ref a2, .ref a3, .ref a4, .ref a5, .ref a6, .ref a14])), (a0, .inr (3, [.ref a8, .int y6, .ref a7, .int 1, .int r104, .int r103, .int r104, .int r105, .int r106, .int r87])), (a8, .inl (E.2.2 1, 1600, .inl f6))] 0 0
                exact mp_iret hF hQ rfl (by decide) (Nat.le_of_ble_eq_true rfl) (Nat.le_of_ble_eq_true rfl) [0, 1, 2, 3, 4, 5, 6, 7, 8] (w' := [(a1, .inl (E.2.2 0, 10, .inl f0)), (a2, .inl (E.2.2 0, 10, .inl f1)), (a3, .inl (E.2.2 0, 10, .inl f2)), (a4, .inl (E.2.2 0, 10, .inl f3)), (a5, .inl (E.2.2 0, 10, .inl f4)), (a6, .inl (E.2.2 0, 10, .inl f5)), (a7, .inr (7, [.int y0, .int y1, .int y2, .int y3, .int y4, .int y5, .ref a9, .ref a10, .ref a11, .ref a12, .ref a13, .ref a1, .ref a2, .ref a3, .ref a4, .ref a5, .ref a6, .ref a14])), (a0, .inr (3, [.ref a8, .int y6, .ref a7, .int 1, .int r104, .int r103, .int r104, .int r105, .int r106, .int r87])), (a8, .inl (E.2.2 1, 1600, .inl f6))]) rfl rfl (Or.inl ⟨1, r104, r103, r104, r105, r106, r87, rfl, (by decide), (by decide), l113, u114, l113, u114, l115, u116, rfl⟩) (by decide +kernel)
              · skip
                have c126 : r103.toInt = 1 := c126
                show mp_W E X 4 114 [(3, .int r87), (2, .int r46), (1, .int r8), (0, .ref a0)] [.int 1] [(a1, .inl (E.2.2 0, 10, .inl f0)), (a2, .inl (E.2.2 0, 10, .inl f1)), (a3, .inl (E.2.2 0, 10, .inl f2)), (a4, .inl (E.2.2 0, 10, .inl f3)), (a5, .inl (E.2.2 0, 10, .inl f4)), (a6, .inl (E.2.2 0, 10, .inl f5)), (a7, .inr (7, [.int y0, .int y1, .int y2, .int y3, .int y4, .int y5, .ref a9, .ref a10, .ref a11, .ref a12, .ref a13, .ref a1, .ref a2, .ref a3, .ref a4, .ref a5, .ref a6, .ref a14])), (a0, .inr (3, [.ref a8, .int y6, .ref a7, .int y7, .int y8, .int r122, .int r123, .int r124, .int r125, .int r87])), (a8, .inl (E.2.2 1, 1600, .inl f6))] 0 0
                refine mp_run hF mp_tabX3_ok [mp_h (.ifCond .eq 19) [133]] (by decide +kernel) ?_
                refine And.intro (fun c134 => absurd c134 (by decide)) (fun _ => ?_)
                show mp_W E X 4 117 [(3, .int r87), (2, .int r46), (1, .int r8), (0, .ref a0)] [] [(a1, .inl (E.2.2 0, 10, .inl f0)), (a2, .inl (E.2.2 0, 10, .inl f1)), (a3, .inl (E.2.2 0, 10, .inl f2)), (a4, .inl (E.2.2 0, 10, .inl f3)), (a5, .inl (E.2.2 0, 10, .inl f4)), (a6, .inl (E.2.2 0, 10, .inl f5)), (a7, .inr (7, [.int y0, .int y1, .int y2, .int y3, .int y4, .int y5, .ref a9, .ref a10, .ref a11, .ref a12, .ref a13, .ref a1, .ref a2, .ref a3, .ref a4, .ref a5, .ref a6, .ref a14])), (a0, .inr (3, [.ref a8, .int y6, .ref a7, .int y7, .int y8, .int r122, .int r123, .int r124, .int r125, .int r87])), (a8, .inl (E.2.2 1, 1600, .inl f6))] 0 0
                refine mp_run hF mp_tabX3_ok [mp_i (.aload_n 0), mp_c (.iconst 0) 0, mp_i (.aload_n 0), mp_h (.getfield 18) [11, 7], mp_h (.getfield 105) [2, 6], mp_c (.iconst (-1)) (-1)] (by decide +kernel) ?_
                refine And.intro rfl (And.intro rfl ?_)
                refine And.intro rfl (And.intro rfl ?_)
                show mp_W E X 4 127 [(3, .int r87), (2, .int r46), (1, .int r8), (0, .ref a0)] [.int (-1), .int y2, .int 0, .ref a0] [(a1, .inl (E.2.2 0, 10, .inl f0)), (a2, .inl (E.2.2 0, 10, .inl f1)), (a3, .inl (E.2.2 0, 10, .inl f2)), (a4, .inl (E.2.2 0, 10, .inl f3)), (a5, .inl (E.2.2 0, 10, .inl f4)), (a6, .inl (E.2.2 0, 10, .inl f5)), (a7, .inr (7, [.int y0, .int y1, .int y2, .int y3, .int y4, .int y5, .ref a9, .ref a10, .ref a11, .ref a12, .ref a13, .ref a1, .ref a2, .ref a3, .ref a4, .ref a5, .ref a6, .ref a14])), (a0, .inr (3, [.ref a8, .int y6, .ref a7, .int y7, .int y8, .int r122, .int r123, .int r124, .int r125, .int r87])), (a8, .inl (E.2.2 1, 1600, .inl f6))] 0 0
                refine mp_callV hF (As := [.int 0, .int y2, .int (-1)]) (rest := []) (wr := [(a1, .inl (E.2.2 0, 10, .inl f0)), (a2, .inl (E.2.2 0, 10, .inl f1)), (a3, .inl (E.2.2 0, 10, .inl f2)), (a4, .inl (E.2.2 0, 10, .inl f3)), (a5, .inl (E.2.2 0, 10, .inl f4)), (a6, .inl (E.2.2 0, 10, .inl f5)), (a7, .inr (7, [.int y0, .int y1, .int y2, .int y3, .int y4, .int y5, .ref a9, .ref a10, .ref a11, .ref a12, .ref a13, .ref a1, .ref a2, .ref a3, .ref a4, .ref a5, .ref a6, .ref a14]))]) (bX3_takeNumber_26 E a0 a8 a7 f6 y6 y7 y8 r122 r123 r124 r125 r87 y2 (-1) l_y2 u_y2 l_y6 u_y6 l129 u130 l131 u132) mp_lkX3_91 7 rfl [7, 8] [0, 1, 2, 3, 4, 5, 6] rfl rfl rfl rfl rfl ⟨(Nat.le_of_ble_eq_true rfl), (Nat.le_of_ble_eq_true rfl), (Nat.le_of_ble_eq_true rfl), (Nat.le_of_ble_eq_true rfl)⟩ (Nat.le_of_ble_eq_true rfl) (by decide +kernel) (fun v135 w136 h137 => ?_)
                rcases h137 with ⟨r138, rfl, l139, u140, rfl⟩ | ⟨r141, r142, r143, r144, rfl, c145, c146, c147, c148, l149, u150, l151, u152, l153, u154, rfl⟩
                · skip
                  show mp_W E X 4 130 [(3, .int r87), (2, .int r46), (1, .int r8), (0, .ref a0)] [.int 0] [(a1, .inl (E.2.2 0, 10, .inl f0)), (a2, .inl (E.2.2 0, 10, .inl f1)), (a3, .inl (E.2.2 0, 10, .inl f2)), (a4, .inl (E.2.2 0, 10, .inl f3)), (a5, .inl (E.2.2 0, 10, .inl f4)), (a6, .inl (E.2.2 0, 10, .inl f5)), (a7, .inr (7, [.int y0, .int y1, .int y2, .int y3, .int y4, .int y5, .ref a9, .ref a10, .ref a11, .ref a12, .ref a13, .ref a1, .ref a2, .ref a3, .ref a4, .ref a5, .ref a6, .ref a14])), (a0, .inr (3, [.ref a8, .int y6, .ref a7, .int r138, .int r123, .int r122, .int r123, .int r124, .int r125, .int r87])), (a8, .inl (E.2.2 1, 1600, .inl f6))] 0 0
                  refine mp_run hF mp_tabX3_ok [mp_h (.ifCond .ne 5) [135]] (by decide +kernel) ?_
                  refine And.intro (fun c155 => absurd c155 (by decide)) (fun _ => ?_)
                  show mp_W E X 4 133 [(3, .int r87), (2, .int r46), (1, .int r8), (0, .ref a0)] [] [(a1, .inl (E.2.2 0, 10, .inl f0)), (a2, .inl (E.2.2 0, 10, .inl f1)), (a3, .inl (E.2.2 0, 10, .inl f2)), (a4, .inl (E.2.2 0, 10, .inl f3)), (a5, .inl (E.2.2 0, 10, .inl f4)), (a6, .inl (E.2.2 0, 10, .inl f5)), (a7, .inr (7, [.int y0, .int y1, .int y2, .int y3, .int y4, .int y5, .ref a9, .ref a10, .ref a11, .ref a12, .ref a13, .ref a1, .ref a2, .ref a3, .ref a4, .ref a5, .ref a6, .ref a14])), (a0, .inr (3, [.ref a8, .int y6, .ref a7, .int r138, .int r123, .int r122, .int r123, .int r124, .int r125, .int r87])), (a8, .inl (E.2.2 1, 1600, .inl f6))] 0 0
                  refine mp_run hF mp_tabX3_ok [mp_c (.iconst 0) 0] (by decide +kernel) ?_
                  show mp_W E X 4 134 [(3, .int r87), (2, .int r46), (1, .int r8), (0, .ref a0)] [.int 0] [(a1, .inl (E.2.2 0, 10, .inl f0)), (a2, .inl (E.2.2 0, 10, .inl f1)), (a3, .inl (E.2.2 0, 10, .inl f2)), (a4, .inl (E.2.2 0, 10, .inl f3)), (a5, .inl (E.2.2 0, 10, .inl f4)), (a6, .inl (E.2.2 0, 10, .inl f5)), (a7, .inr (7, [.int y0, .int y1, .int y2, .int y3, .int y4, .int y5, .ref a9, .ref a10, .ref a11, .ref a12, .ref a13, .ref a1, .ref a2, .ref a3, .ref a4, .ref a5, .ref a6, .ref a14])), (a0, .inr (3, [.ref a8, .int y6, .ref a7, .int r138, .int r123, .int r122, .int r123, .int r124, .int r125, .int r87])), (a8, .inl (E.2.2 1, 1600, .inl f6))] 0 0
                  exact mp_iret hF hQ rfl (by decide) (Nat.le_of_ble_eq_true rfl) (Nat.le_of_ble_eq_true rfl) [0, 1, 2, 3, 4, 5, 6, 7, 8] (w' := [(a1, .inl (E.2.2 0, 10, .inl f0)), (a2, .inl (E.2.2 0, 10, .inl f1)), (a3, .inl (E.2.2 0, 10, .inl f2)), (a4, .inl (E.2.2 0, 10, .inl f3)), (a5, .inl (E.2.2 0, 10, .inl f4)), (a6, .inl (E.2.2 0, 10, .inl f5)), (a7, .inr (7, [.int y0, .int y1, .int y2, .int y3, .int y4, .int y5, .ref a9, .ref a10, .ref a11, .ref a12, .ref a13, .ref a1, .ref a2, .ref a3, .ref a4, .ref a5, .ref a6, .ref a14])), (a0, .inr (3, [.ref a8, .int y6, .ref a7, .int r138, .int r123, .int r122, .int r123, .int r124, .int r125, .int r87])), (a8, .inl (E.2.2 1, 1600, .inl f6))]) rfl rfl (Or.inl ⟨r138, r123, r122, r123, r124, r125, r87, rfl, l139, (by omega), l129, u130, l129, u130, l131, u132, rfl⟩) (by decide +kernel)
                · skip
                  have c145 : r122.toInt = 2 := c145
                  have c146 : 0 ≤ r125.toInt := c146
                  have c147 : r125.toInt ≤ y2.toInt := c147
                  have c148 : r125.toInt ≠ (-1) := c148
                  show mp_W E X 4 130 [(3, .int r87), (2, .int r46), (1, .int r8), (0, .ref a0)] [.int 1] [(a1, .inl (E.2.2 0, 10, .inl f0)), (a2, .inl (E.2.2 0, 10, .inl f1)), (a3, .inl (E.2.2 0, 10, .inl f2)), (a4, .inl (E.2.2 0, 10, .inl f3)), (a5, .inl (E.2.2 0, 10, .inl f4)), (a6, .inl (E.2.2 0, 10, .inl f5)), (a7, .inr (7, [.int y0, .int y1, .int y2, .int y3, .int y4, .int y5, .ref a9, .ref a10, .ref a11, .ref a12, .ref a13, .ref a1, .ref a2, .ref a3, .ref a4, .ref a5, .ref a6, .ref a14])), (a0, .inr (3, [.ref a8, .int y6, .ref a7, .int y7, .int y8, .int r141, .int r142, .int r143, .int r144, .int r125])), (a8, .inl (E.2.2 1, 1600, .inl f6))] 0 0
                  refine mp_run hF mp_tabX3_ok [mp_h (.ifCond .ne 5) [135]] (by decide +kernel) ?_
                  refine And.intro (fun _ => ?_) (fun c156 => absurd c156 (by decide))
                  show mp_W E X 4 135 [(3, .int r87), (2, .int r46), (1, .int r8), (0, .ref a0)] [] [(a1, .inl (E.2.2 0, 10, .inl f0)), (a2, .inl (E.2.2 0, 10, .inl f1)), (a3, .inl (E.2.2 0, 10, .inl f2)), (a4, .inl (E.2.2 0, 10, .inl f3)), (a5, .inl (E.2.2 0, 10, .inl f4)), (a6, .inl (E.2.2 0, 10, .inl f5)), (a7, .inr (7, [.int y0, .int y1, .int y2, .int y3, .int y4, .int y5, .ref a9, .ref a10, .ref a11, .ref a12, .ref a13, .ref a1, .ref a2, .ref a3, .ref a4, .ref a5, .ref a6, .ref a14])), (a0, .inr (3, [.ref a8, .int y6, .ref a7, .int y7, .int y8, .int r141, .int r142, .int r143, .int r144, .int r125])), (a8, .inl (E.2.2 1, 1600, .inl f6))] 0 0
                  refine mp_run hF mp_tabX3_ok [mp_i (.aload_n 0), mp_h (.getfield 18) [11, 7], mp_i (.iload_n 1), mp_i (.iload_n 2), mp_i (.iload_n 3), mp_i (.aload_n 0), mp_h (.getfield 95) [18, 7]] (by decide +kernel) ?_
                  refine And.intro rfl (And.intro rfl ?_)
                  refine And.intro rfl (And.intro rfl ?_)
                  show mp_W E X 4 146 [(3, .int r87), (2, .int r46), (1, .int r8), (0, .ref a0)] [.int r125, .int r87, .int r46, .int r8, .ref a7] [(a1, .inl (E.2.2 0, 10, .inl f0)), (a2, .inl (E.2.2 0, 10, .inl f1)), (a3, .inl (E.2.2 0, 10, .inl f2)), (a4, .inl (E.2.2 0, 10, .inl f3)), (a5, .inl (E.2.2 0, 10, .inl f4)), (a6, .inl (E.2.2 0, 10, .inl f5)), (a7, .inr (7, [.int y0, .int y1, .int y2, .int y3, .int y4, .int y5, .ref a9, .ref a10, .ref a11, .ref a12, .ref a13, .ref a1, .ref a2, .ref a3, .ref a4, .ref a5, .ref a6, .ref a14])), (a0, .inr (3, [.ref a8, .int y6, .ref a7, .int y7, .int y8, .int r141, .int r142, .int r143, .int r144, .int r125])), (a8, .inl (E.2.2 1, 1600, .inl f6))] 0 0
                  refine mp_callV hF (As := [.int r8, .int r46, .int r87, .int r125]) (rest := []) (wr := [(a0, .inr (3, [.ref a8, .int y6, .ref a7, .int y7, .int y8, .int r141, .int r142, .int r143, .int r144, .int r125])), (a8, .inl (E.2.2 1, 1600, .inl f6))]) (bX7_addPromise_27 E a7 a1 a2 a3 a4 a5 a6 a9 a10 a11 a12 a13 a14 f0 f1 f2 f3 f4 f5 y0 y1 y2 y3 y4 y5 r8 r46 r87 r125 p0 p1 p2 p3 p4 (by omega) (by omega) (by omega) (by omega) (by omega) (by omega) l_y1 u_y1 l_y2 u_y2 l_y3 u_y3 l_y4 (by omega) l_y5 u_y5) mp_lkX3_141 6 rfl [0, 1, 2, 3, 4, 5, 6] [7, 8] rfl rfl rfl rfl rfl ⟨(Nat.le_of_ble_eq_true rfl), (Nat.le_of_ble_eq_true rfl), (Nat.le_of_ble_eq_true rfl), (Nat.le_of_ble_eq_true rfl)⟩ (Nat.le_of_ble_eq_true rfl) (by decide +kernel) (fun v157 w158 h159 => ?_)
                  obtain ⟨g160, g161, g162, g163, g164, g165, r166, rfl, l172, u173, p167, p168, p169, p170, p171, rfl⟩ := h159
                  show mp_W E X 4 149 [(3, .int r87), (2, .int r46), (1, .int r8), (0, .ref a0)] [] [(a0, .inr (3, [.ref a8, .int y6, .ref a7, .int y7, .int y8, .int r141, .int r142, .int r143, .int r144, .int r125])), (a8, .inl (E.2.2 1, 1600, .inl f6)), (a1, .inl (E.2.2 0, 10, .inl g160)), (a2, .inl (E.2.2 0, 10, .inl g161)), (a3, .inl (E.2.2 0, 10, .inl g162)), (a4, .inl (E.2.2 0, 10, .inl g163)), (a5, .inl (E.2.2 0, 10, .inl g164)), (a6, .inl (E.2.2 0, 10, .inl g165)), (a7, .inr (7, [.int y0, .int y1, .int y2, .int y3, .int r166, .int y5, .ref a9, .ref a10, .ref a11, .ref a12, .ref a13, .ref a1, .ref a2, .ref a3, .ref a4, .ref a5, .ref a6, .ref a14]))] 0 0
                  refine mp_run hF mp_tabX3_ok [mp_c (.iconst 1) 1] (by decide +kernel) ?_
                  show mp_W E X 4 150 [(3, .int r87), (2, .int r46), (1, .int r8), (0, .ref a0)] [.int 1] [(a0, .inr (3, [.ref a8, .int y6, .ref a7, .int y7, .int y8, .int r141, .int r142, .int r143, .int r144, .int r125])), (a8, .inl (E.2.2 1, 1600, .inl f6)), (a1, .inl (E.2.2 0, 10, .inl g160)), (a2, .inl (E.2.2 0, 10, .inl g161)), (a3, .inl (E.2.2 0, 10, .inl g162)), (a4, .inl (E.2.2 0, 10, .inl g163)), (a5, .inl (E.2.2 0, 10, .inl g164)), (a6, .inl (E.2.2 0, 10, .inl g165)), (a7, .inr (7, [.int y0, .int y1, .int y2, .int y3, .int r166, .int y5, .ref a9, .ref a10, .ref a11, .ref a12, .ref a13, .ref a1, .ref a2, .ref a3, .ref a4, .ref a5, .ref a6, .ref a14]))] 0 0
                  exact mp_iret hF hQ rfl (by decide) (Nat.le_of_ble_eq_true rfl) (Nat.le_of_ble_eq_true rfl) [2, 3, 4, 5, 6, 7, 8, 0, 1] (w' := [(a1, .inl (E.2.2 0, 10, .inl g160)), (a2, .inl (E.2.2 0, 10, .inl g161)), (a3, .inl (E.2.2 0, 10, .inl g162)), (a4, .inl (E.2.2 0, 10, .inl g163)), (a5, .inl (E.2.2 0, 10, .inl g164)), (a6, .inl (E.2.2 0, 10, .inl g165)), (a7, .inr (7, [.int y0, .int y1, .int y2, .int y3, .int r166, .int y5, .ref a9, .ref a10, .ref a11, .ref a12, .ref a13, .ref a1, .ref a2, .ref a3, .ref a4, .ref a5, .ref a6, .ref a14])), (a0, .inr (3, [.ref a8, .int y6, .ref a7, .int y7, .int y8, .int r141, .int r142, .int r143, .int r144, .int r125])), (a8, .inl (E.2.2 1, 1600, .inl f6))]) rfl rfl (Or.inr ⟨g160, g161, g162, g163, g164, g165, r166, r141, r142, r143, r144, r125, rfl, (by first | omega | decide), l172, u173, l149, u150, l151, u152, l153, u154, (by omega), p167, p168, p169, p170, p171, rfl⟩) (by decide +kernel)
  · have c1 : 10 ≤ y4.toInt := c1
    show mp_W E X 4 12 [(0, .ref a0)] [] [(a1, .inl (E.2.2 0, 10, .inl f0)), (a2, .inl (E.2.2 0, 10, .inl f1)), (a3, .inl (E.2.2 0, 10, .inl f2)), (a4, .inl (E.2.2 0, 10, .inl f3)), (a5, .inl (E.2.2 0, 10, .inl f4)), (a6, .inl (E.2.2 0, 10, .inl f5)), (a7, .inr (7, [.int y0, .int y1, .int y2, .int y3, .int y4, .int y5, .ref a9, .ref a10, .ref a11, .ref a12, .ref a13, .ref a1, .ref a2, .ref a3, .ref a4, .ref a5, .ref a6, .ref a14])), (a0, .inr (3, [.ref a8, .int y6, .ref a7, .int y7, .int y8, .int y9, .int y10, .int y11, .int y12, .int y13])), (a8, .inl (E.2.2 1, 1600, .inl f6))] 0 0
    refine mp_run hF mp_tabX3_ok [mp_i (.aload_n 0), mp_c (.iconst 3) 3] (by decide +kernel) ?_
    show mp_W E X 4 14 [(0, .ref a0)] [.int 3, .ref a0] [(a1, .inl (E.2.2 0, 10, .inl f0)), (a2, .inl (E.2.2 0, 10, .inl f1)), (a3, .inl (E.2.2 0, 10, .inl f2)), (a4, .inl (E.2.2 0, 10, .inl f3)), (a5, .inl (E.2.2 0, 10, .inl f4)), (a6, .inl (E.2.2 0, 10, .inl f5)), (a7, .inr (7, [.int y0, .int y1, .int y2, .int y3, .int y4, .int y5, .ref a9, .ref a10, .ref a11, .ref a12, .ref a13, .ref a1, .ref a2, .ref a3, .ref a4, .ref a5, .ref a6, .ref a14])), (a0, .inr (3, [.ref a8, .int y6, .ref a7, .int y7, .int y8, .int y9, .int y10, .int y11, .int y12, .int y13])), (a8, .inl (E.2.2 1, 1600, .inl f6))] 0 0
    refine mp_callV hF (As := [.int 3]) (rest := []) (wr := [(a1, .inl (E.2.2 0, 10, .inl f0)), (a2, .inl (E.2.2 0, 10, .inl f1)), (a3, .inl (E.2.2 0, 10, .inl f2)), (a4, .inl (E.2.2 0, 10, .inl f3)), (a5, .inl (E.2.2 0, 10, .inl f4)), (a6, .inl (E.2.2 0, 10, .inl f5)), (a7, .inr (7, [.int y0, .int y1, .int y2, .int y3, .int y4, .int y5, .ref a9, .ref a10, .ref a11, .ref a12, .ref a13, .ref a1, .ref a2, .ref a3, .ref a4, .ref a5, .ref a6, .ref a14])), (a8, .inl (E.2.2 1, 1600, .inl f6))]) (bX3_fail_19 E a0 a8 a7 y6 y7 y8 y9 y10 y11 y12 y13 3 l_y6 u_y6 l_y10 u_y10 l_y11 u_y11) mp_lkX3_60 7 rfl [7] [0, 1, 2, 3, 4, 5, 6, 8] rfl rfl rfl rfl rfl ⟨(Nat.le_of_ble_eq_true rfl), (Nat.le_of_ble_eq_true rfl), (Nat.le_of_ble_eq_true rfl), (Nat.le_of_ble_eq_true rfl)⟩ (Nat.le_of_ble_eq_true rfl) (by decide +kernel) (fun v174 w175 h176 => ?_)
    obtain ⟨rfl, rfl⟩ := h176
    show mp_W E X 4 17 [(0, .ref a0)] [.int 0] [(a1, .inl (E.2.2 0, 10, .inl f0)), (a2, .inl (E.2.2 0, 10, .inl f1)), (a3, .inl (E.2.2 0, 10, .inl f2)), (a4, .inl (E.2.2 0, 10, .inl f3)), (a5, .inl (E.2.2 0, 10, .inl f4)), (a6, .inl (E.2.2 0, 10, .inl f5)), (a7, .inr (7, [.int y0, .int y1, .int y2, .int y3, .int y4, .int y5, .ref a9, .ref a10, .ref a11, .ref a12, .ref a13, .ref a1, .ref a2, .ref a3, .ref a4, .ref a5, .ref a6, .ref a14])), (a8, .inl (E.2.2 1, 1600, .inl f6)), (a0, .inr (3, [.ref a8, .int y6, .ref a7, .int 3, .int y10, .int y9, .int y10, .int y11, .int y12, .int y13]))] 0 0
    exact mp_iret hF hQ rfl (by decide) (Nat.le_of_ble_eq_true rfl) (Nat.le_of_ble_eq_true rfl) [0, 1, 2, 3, 4, 5, 6, 8, 7] (w' := [(a1, .inl (E.2.2 0, 10, .inl f0)), (a2, .inl (E.2.2 0, 10, .inl f1)), (a3, .inl (E.2.2 0, 10, .inl f2)), (a4, .inl (E.2.2 0, 10, .inl f3)), (a5, .inl (E.2.2 0, 10, .inl f4)), (a6, .inl (E.2.2 0, 10, .inl f5)), (a7, .inr (7, [.int y0, .int y1, .int y2, .int y3, .int y4, .int y5, .ref a9, .ref a10, .ref a11, .ref a12, .ref a13, .ref a1, .ref a2, .ref a3, .ref a4, .ref a5, .ref a6, .ref a14])), (a0, .inr (3, [.ref a8, .int y6, .ref a7, .int 3, .int y10, .int y9, .int y10, .int y11, .int y12, .int y13])), (a8, .inl (E.2.2 1, 1600, .inl f6))]) rfl rfl (Or.inl ⟨3, y10, y9, y10, y11, y12, y13, rfl, (by decide), (by decide), l_y10, u_y10, l_y10, u_y10, l_y11, u_y11, rfl⟩) (by decide +kernel)
