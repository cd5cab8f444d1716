set_option maxHeartbeats 4000000 in
set_option maxRecDepth 100000 in
theorem bX9_isToldMoon_78 (E : mp_E) (a0 a1 a2 a3 a4 a5 a6 a7 a8 a9 a10 a11 a12 a13 a14 a15 a16 a17 a18 a19 a20 a21 a22 a23 a24 a25 a26 a27 a28 : Nat) (y0 : Int32) (y1 : Int32) (y2 : Int32) (y3 : Int32) (y4 : Int32) (y5 : Int32) (y6 : Int32) (x0 : Int32) (l_y0 : 0 ≤ y0.toInt) (u_y0 : y0.toInt ≤ 99) (l_y2 : 0 ≤ y2.toInt) (u_y2 : y2.toInt ≤ 6) (l_y3 : 0 ≤ y3.toInt) (u_y3 : y3.toInt ≤ 99) (l_y4 : 0 ≤ y4.toInt) (u_y4 : y4.toInt ≤ 6) (l_y5 : 0 ≤ y5.toInt) (u_y5 : y5.toInt ≤ 10) (l_y6 : 0 ≤ y6.toInt) (u_y6 : y6.toInt ≤ 60) : mp_Ct E yX9_isToldMoon cX9_isToldMoon 2 (some FieldType.boolean) 1 0 0 20 [.ref a0, .int x0] [(mp_ob9 a0 a3 a1 a4 a5 a6 a7 a8 a9 a10), (mp_ob0 a1 a2 y0 a11 a12 a13 a14 a15 a16), (mp_ob7 a2 y1 y2 y3 y4 y5 y6 a17 a18 a19 a20 a21 a22 a23 a24 a25 a26 a27 a28)] (fun v w' => (v = some (.int 0) ∧ w' = [(mp_ob9 a0 a3 a1 a4 a5 a6 a7 a8 a9 a10), (mp_ob0 a1 a2 y0 a11 a12 a13 a14 a15 a16), (mp_ob7 a2 y1 y2 y3 y4 y5 y6 a17 a18 a19 a20 a21 a22 a23 a24 a25 a26 a27 a28)]) ∨ (v = some (.int 1) ∧ 0 < y1.toInt ∧ 0 ≤ x0.toInt ∧ x0.toInt ≤ 99 ∧ w' = [(mp_ob9 a0 a3 a1 a4 a5 a6 a7 a8 a9 a10), (mp_ob0 a1 a2 y0 a11 a12 a13 a14 a15 a16), (mp_ob7 a2 y1 y2 y3 y4 y5 y6 a17 a18 a19 a20 a21 a22 a23 a24 a25 a26 a27 a28)])) := by
  refine mp_met false (by decide) (by decide) (Nat.le_of_ble_eq_true rfl) (fun X hF hQ => ?_)
  have hF : mp_F E X (RX9, cX9_isToldMoon, 2, (1, 0, 0, 20), (some FieldType.boolean), false) := hF
  let w1_ : va_W := [(mp_ob9 a0 a3 a1 a4 a5 a6 a7 a8 a9 a10), (mp_ob0 a1 a2 y0 a11 a12 a13 a14 a15 a16), (mp_ob7 a2 y1 y2 y3 y4 y5 y6 a17 a18 a19 a20 a21 a22 a23 a24 a25 a26 a27 a28)]
  show mp_W E X 2 0 [(0, .ref a0), (1, .int x0)] [] w1_ 0 0
  refine mp_run mp_k_cX9_isToldMoon_ok hF mp_tabX9_ok [mp_i (.aload_n 0), mp_h (.getfield 19) [37, 0], mp_h (.getfield 83) [20, 1], mp_h (.getfield 97) [0, 2], mp_h (.ifCond .le 14) [24]] (by decide +kernel) ?_
  refine And.intro rfl (And.intro rfl ?_)
  refine And.intro rfl (And.intro rfl ?_)
  refine And.intro rfl (And.intro rfl ?_)
  refine And.intro (fun c_1 => ?_) (fun c_1 => ?_)
  · have c_1 : y1.toInt ≤ 0 := c_1
    show mp_W E X 2 24 [(0, .ref a0), (1, .int x0)] [] w1_ 0 0
    refine mp_run mp_k_cX9_isToldMoon_ok hF mp_tabX9_ok [mp_c (.iconst 0) 0] (by decide +kernel) ?_
    show mp_W E X 2 25 [(0, .ref a0), (1, .int x0)] [.int 0] w1_ 0 0
    exact mp_iret hF hQ rfl (by decide) (Nat.le_of_ble_eq_true rfl) (Nat.le_of_ble_eq_true rfl) [0, 1, 2] (w' := w1_) rfl rfl (Or.inl ⟨rfl, rfl⟩) (by first | exact mp_fd_ok mp_k_cX9_isToldMoon_ok (by decide +kernel) | decide +kernel)
  · have c_1 : 0 < y1.toInt := c_1
    show mp_W E X 2 13 [(0, .ref a0), (1, .int x0)] [] w1_ 0 0
    refine mp_run mp_k_cX9_isToldMoon_ok hF mp_tabX9_ok [mp_i (.iload_n 1)] (by decide +kernel) ?_
    show mp_W E X 2 14 [(0, .ref a0), (1, .int x0)] [.int x0] w1_ 0 0
    refine mp_callS hF (As := [.int x0]) (rest := []) (wr := w1_) (bX9_isMoon_57 E x0) mp_lkX9_148 [] [0, 1, 2] rfl rfl rfl rfl rfl ⟨(Nat.le_of_ble_eq_true rfl), (Nat.le_of_ble_eq_true rfl), (Nat.le_of_ble_eq_true rfl), (Nat.le_of_ble_eq_true rfl)⟩ (Nat.le_of_ble_eq_true rfl) (by first | exact mp_fd_ok mp_k_cX9_isToldMoon_ok (by decide +kernel) | decide +kernel) (fun v_2 w_3 h_4 => ?_)
    rcases h_4 with ⟨rfl, x_5, rfl⟩ | ⟨rfl, c_6, c_7, x_8, rfl⟩
    · skip
      show mp_W E X 2 17 [(0, .ref a0), (1, .int x0)] [.int 0] w1_ 0 0
      refine mp_run mp_k_cX9_isToldMoon_ok hF mp_tabX9_ok [mp_h (.ifCond .eq 7) [24]] (by decide +kernel) ?_
      refine And.intro (fun _ => ?_) (fun c_9 => absurd c_9 (by decide))
      show mp_W E X 2 24 [(0, .ref a0), (1, .int x0)] [] w1_ 0 0
      refine mp_run mp_k_cX9_isToldMoon_ok hF mp_tabX9_ok [mp_c (.iconst 0) 0] (by decide +kernel) ?_
      show mp_W E X 2 25 [(0, .ref a0), (1, .int x0)] [.int 0] w1_ 0 0
      exact mp_iret hF hQ rfl (by decide) (Nat.le_of_ble_eq_true rfl) (Nat.le_of_ble_eq_true rfl) [0, 1, 2] (w' := w1_) rfl rfl (Or.inl ⟨rfl, rfl⟩) (by first | exact mp_fd_ok mp_k_cX9_isToldMoon_ok (by decide +kernel) | decide +kernel)
    · skip
      have c_6 : 0 ≤ x0.toInt := c_6
      have c_7 : x0.toInt ≤ 99 := c_7
      show mp_W E X 2 17 [(0, .ref a0), (1, .int x0)] [.int 1] w1_ 0 0
      refine mp_run mp_k_cX9_isToldMoon_ok hF mp_tabX9_ok [mp_h (.ifCond .eq 7) [24]] (by decide +kernel) ?_
      refine And.intro (fun c_10 => absurd c_10 (by decide)) (fun _ => ?_)
      show mp_W E X 2 20 [(0, .ref a0), (1, .int x0)] [] w1_ 0 0
      refine mp_run mp_k_cX9_isToldMoon_ok hF mp_tabX9_ok [mp_c (.iconst 1) 1, mp_h (.goto 4) [25]] (by decide +kernel) ?_
      show mp_W E X 2 25 [(0, .ref a0), (1, .int x0)] [.int 1] w1_ 0 0
      exact mp_iret hF hQ rfl (by decide) (Nat.le_of_ble_eq_true rfl) (Nat.le_of_ble_eq_true rfl) [0, 1, 2] (w' := w1_) rfl rfl (Or.inr ⟨rfl, (by first | (first | exact c_1 | omega) | decide), (by first | (first | exact c_6 | omega) | decide), (by first | (first | exact c_7 | omega) | decide), rfl⟩) (by first | exact mp_fd_ok mp_k_cX9_isToldMoon_ok (by decide +kernel) | decide +kernel)
set_option maxHeartbeats 4000000 in
set_option maxRecDepth 100000 in
theorem bX1_first_79 (E : mp_E) (a0 a1 a2 : Nat) (f0 : Nat → Int32) (y0 : Int32) (y1 : Int32) (l_y0 : 0 ≤ y0.toInt) (u_y0 : y0.toInt ≤ 6) : mp_Ct E yX1_first cX1_first 5 (some FieldType.int) 2 0 0 45 [.ref a0] [(mp_ob1 a0 a1 y0 y1 a2), (mp_arI E a1 0 36 f0)] (fun v w' => ∃ r1 : Int32, v = some (.int r1) ∧ (-1) ≤ r1.toInt ∧ r1.toInt ≤ 5 ∧ w' = [(mp_ob1 a0 a1 y0 y1 a2), (mp_arI E a1 0 36 f0)]) := by
  refine mp_met false (by decide) (by decide) (Nat.le_of_ble_eq_true rfl) (fun X hF hQ => ?_)
  have hF : mp_F E X (RX1, cX1_first, 5, (2, 0, 0, 45), (some FieldType.int), false) := hF
  show mp_W E X 5 0 [(0, .ref a0)] [] [(mp_ob1 a0 a1 y0 y1 a2), (mp_arI E a1 0 36 f0)] 0 0
  refine mp_run mp_k_cX1_first_ok hF mp_tabX1_ok [mp_c (.iconst (-1)) (-1), mp_i (.istore_n 1), mp_c (.iconst 0) 0, mp_i (.istore_n 2), mp_c (.iconst 0) 0, mp_i (.istore_n 3)] (by decide +kernel) ?_
  show mp_W E X 5 6 [(3, .int 0), (2, .int 0), (1, .int (-1)), (0, .ref a0)] [] [(mp_ob1 a0 a1 y0 y1 a2), (mp_arI E a1 0 36 f0)] 0 0
  have lp_8 : ∀ (d_9 : Nat) (i_1 : Int32) (i_2 : Int32) (i_3 : Int32), 0 ≤ i_1.toInt → i_1.toInt ≤ 6 → (-1) ≤ i_3.toInt → i_3.toInt ≤ 5 → y0.toInt - i_1.toInt ≤ (d_9 : Int) → mp_W E X 5 6 [(3, .int i_1), (2, .int i_2), (1, .int i_3), (0, .ref a0)] [] [(mp_ob1 a0 a1 y0 y1 a2), (mp_arI E a1 0 36 f0)] 0 0 := by
    intro d_9
    induction d_9 using Nat.strongRecOn with
    | ind d_9 ih_10 =>
      intro i_1 i_2 i_3 l_4 u_5 l_6 u_7 hm_11
      refine mp_run mp_k_cX1_first_ok hF mp_tabX1_ok [mp_i (.iload_n 3), mp_i (.aload_n 0), mp_h (.getfield 34) [6, 0], mp_h (.if_icmp .ge 38) [49]] (by decide +kernel) ?_
      refine And.intro rfl (And.intro rfl ?_)
      refine And.intro (fun c_12 => ?_) (fun c_12 => ?_)
      · have c_12 : y0.toInt ≤ i_1.toInt := c_12
        show mp_W E X 5 49 [(3, .int i_1), (2, .int i_2), (1, .int i_3), (0, .ref a0)] [] [(mp_ob1 a0 a1 y0 y1 a2), (mp_arI E a1 0 36 f0)] 0 0
        refine mp_run mp_k_cX1_first_ok hF mp_tabX1_ok [mp_i (.iload_n 1)] (by decide +kernel) ?_
        show mp_W E X 5 50 [(3, .int i_1), (2, .int i_2), (1, .int i_3), (0, .ref a0)] [.int i_3] [(mp_ob1 a0 a1 y0 y1 a2), (mp_arI E a1 0 36 f0)] 0 0
        exact mp_iret hF hQ rfl rfl (Nat.le_of_ble_eq_true rfl) (Nat.le_of_ble_eq_true rfl) [0, 1] (w' := [(mp_ob1 a0 a1 y0 y1 a2), (mp_arI E a1 0 36 f0)]) rfl rfl ⟨i_3, rfl, l_6, u_7, rfl⟩ (by first | exact mp_fd_ok mp_k_cX1_first_ok (by decide +kernel) | decide +kernel)
      · have c_12 : i_1.toInt < y0.toInt := c_12
        show mp_W E X 5 14 [(3, .int i_1), (2, .int i_2), (1, .int i_3), (0, .ref a0)] [] [(mp_ob1 a0 a1 y0 y1 a2), (mp_arI E a1 0 36 f0)] 0 0
        refine mp_run mp_k_cX1_first_ok hF mp_tabX1_ok [mp_i (.aload_n 0), mp_i (.iload_n 3)] (by decide +kernel) ?_
        show mp_W E X 5 16 [(3, .int i_1), (2, .int i_2), (1, .int i_3), (0, .ref a0)] [.int i_1, .ref a0] [(mp_ob1 a0 a1 y0 y1 a2), (mp_arI E a1 0 36 f0)] 0 0
        refine mp_callV hF (As := [.int i_1]) (rest := []) (wr := []) (bX1_due_75 E a0 a1 a2 f0 y0 y1 i_1 l_4 (by (first | exact mp_o398 u_y0 c_12 | omega)) l_y0 u_y0) mp_lkX1_54 0 rfl [0, 1] [] rfl rfl rfl rfl rfl ⟨(Nat.le_of_ble_eq_true rfl), (Nat.le_of_ble_eq_true rfl), (Nat.le_of_ble_eq_true rfl), (Nat.le_of_ble_eq_true rfl)⟩ (Nat.le_of_ble_eq_true rfl) (by first | exact mp_fd_ok mp_k_cX1_first_ok (by decide +kernel) | decide +kernel) (fun v_13 w_14 h_15 => ?_)
        obtain ⟨r_16, rfl, rfl⟩ := h_15
        show mp_W E X 5 19 [(3, .int i_1), (2, .int i_2), (1, .int i_3), (0, .ref a0)] [.int r_16] [(mp_ob1 a0 a1 y0 y1 a2), (mp_arI E a1 0 36 f0)] 0 0
        refine mp_run mp_k_cX1_first_ok hF mp_tabX1_ok [mp_i (.aload_n 0), mp_i (.iload_n 3)] (by decide +kernel) ?_
        show mp_W E X 5 21 [(3, .int i_1), (2, .int i_2), (1, .int i_3), (0, .ref a0)] [.int i_1, .ref a0, .int r_16] [(mp_ob1 a0 a1 y0 y1 a2), (mp_arI E a1 0 36 f0)] 0 0
        refine mp_callV hF (As := [.int i_1]) (rest := [.int r_16]) (wr := []) (bX1_owing_76 E a0 a1 a2 f0 y0 y1 i_1 l_4 (by (first | exact mp_o398 u_y0 c_12 | omega)) l_y0 u_y0) mp_lkX1_58 0 rfl [0, 1] [] rfl rfl rfl rfl rfl ⟨(Nat.le_of_ble_eq_true rfl), (Nat.le_of_ble_eq_true rfl), (Nat.le_of_ble_eq_true rfl), (Nat.le_of_ble_eq_true rfl)⟩ (Nat.le_of_ble_eq_true rfl) (by first | exact mp_fd_ok mp_k_cX1_first_ok (by decide +kernel) | decide +kernel) (fun v_17 w_18 h_19 => ?_)
        obtain ⟨r_20, rfl, rfl⟩ := h_19
        show mp_W E X 5 24 [(3, .int i_1), (2, .int i_2), (1, .int i_3), (0, .ref a0)] [.int r_20, .int r_16] [(mp_ob1 a0 a1 y0 y1 a2), (mp_arI E a1 0 36 f0)] 0 0
        refine mp_run mp_k_cX1_first_ok hF mp_tabX1_ok [mp_i .isub, mp_i (.istore 4), mp_i (.iload_n 1), mp_c (.iconst (-1)) (-1), mp_h (.if_icmp .eq 9) [38]] (by decide +kernel) ?_
        intro z_21 h_22
        refine And.intro (fun c_24 => ?_) (fun c_24 => ?_)
        · have c_24 : i_3.toInt = (-1) := (congrArg Int32.toInt c_24)
          show mp_W E X 5 38 [(4, .int z_21), (3, .int i_1), (2, .int i_2), (1, .int i_3), (0, .ref a0)] [] [(mp_ob1 a0 a1 y0 y1 a2), (mp_arI E a1 0 36 f0)] 0 0
          refine mp_run mp_k_cX1_first_ok hF mp_tabX1_ok [mp_i (.iload 4), mp_i (.istore_n 2), mp_i (.iload_n 3), mp_i (.istore_n 1), mp_c (.iinc 3 1) 1, mp_h (.goto (-40)) [6]] (by decide +kernel) ?_
          intro z_25 h_26
          have e_27 : z_25.toInt = i_1.toInt + 1 := mp_add (a := i_1.toInt) (b := 1) h_26 rfl (by decide) (by (first | exact mp_o2 l_4 | omega)) (by (first | exact mp_o351 u_5 | omega))
          show mp_W E X 5 6 [(3, .int z_25), (1, .int i_1), (2, .int z_21), (4, .int z_21), (0, .ref a0)] [] [(mp_ob1 a0 a1 y0 y1 a2), (mp_arI E a1 0 36 f0)] 0 0
          exact mp_sub [0, 2, 1, 4] rfl [0, 1] rfl rfl (ih_10 (d_9 - 1) (by (first | exact mp_o72 hm_11 c_12 | omega)) z_25 z_21 i_1 (by (first | exact mp_o51 l_4 e_27 | omega)) (by (first | exact mp_o352 u_y0 c_12 e_27 | omega)) (by (first | exact mp_o44 l_4 | omega)) (by (first | exact mp_o398 u_y0 c_12 | omega)) (by (first | exact mp_o77 hm_11 e_27 | omega)))
        · have c_24 : i_3.toInt ≠ (-1) := c_24
          show mp_W E X 5 32 [(4, .int z_21), (3, .int i_1), (2, .int i_2), (1, .int i_3), (0, .ref a0)] [] [(mp_ob1 a0 a1 y0 y1 a2), (mp_arI E a1 0 36 f0)] 0 0
          refine mp_run mp_k_cX1_first_ok hF mp_tabX1_ok [mp_i (.iload 4), mp_i (.iload_n 2), mp_h (.if_icmp .le 8) [43]] (by decide +kernel) ?_
          refine And.intro (fun c_28 => ?_) (fun c_28 => ?_)
          · have c_28 : z_21.toInt ≤ i_2.toInt := c_28
            show mp_W E X 5 43 [(4, .int z_21), (3, .int i_1), (2, .int i_2), (1, .int i_3), (0, .ref a0)] [] [(mp_ob1 a0 a1 y0 y1 a2), (mp_arI E a1 0 36 f0)] 0 0
            refine mp_run mp_k_cX1_first_ok hF mp_tabX1_ok [mp_c (.iinc 3 1) 1, mp_h (.goto (-40)) [6]] (by decide +kernel) ?_
            intro z_29 h_30
            have e_31 : z_29.toInt = i_1.toInt + 1 := mp_add (a := i_1.toInt) (b := 1) h_30 rfl (by decide) (by (first | exact mp_o2 l_4 | omega)) (by (first | exact mp_o351 u_5 | omega))
            show mp_W E X 5 6 [(3, .int z_29), (4, .int z_21), (2, .int i_2), (1, .int i_3), (0, .ref a0)] [] [(mp_ob1 a0 a1 y0 y1 a2), (mp_arI E a1 0 36 f0)] 0 0
            exact mp_sub [0, 2, 3, 4] rfl [0, 1] rfl rfl (ih_10 (d_9 - 1) (by (first | exact mp_o72 hm_11 c_12 | omega)) z_29 i_2 i_3 (by (first | exact mp_o51 l_4 e_31 | omega)) (by (first | exact mp_o352 u_y0 c_12 e_31 | omega)) l_6 u_7 (by (first | exact mp_o77 hm_11 e_31 | omega)))
          · have c_28 : i_2.toInt < z_21.toInt := c_28
            show mp_W E X 5 38 [(4, .int z_21), (3, .int i_1), (2, .int i_2), (1, .int i_3), (0, .ref a0)] [] [(mp_ob1 a0 a1 y0 y1 a2), (mp_arI E a1 0 36 f0)] 0 0
            refine mp_run mp_k_cX1_first_ok hF mp_tabX1_ok [mp_i (.iload 4), mp_i (.istore_n 2), mp_i (.iload_n 3), mp_i (.istore_n 1), mp_c (.iinc 3 1) 1, mp_h (.goto (-40)) [6]] (by decide +kernel) ?_
            intro z_32 h_33
            have e_34 : z_32.toInt = i_1.toInt + 1 := mp_add (a := i_1.toInt) (b := 1) h_33 rfl (by decide) (by (first | exact mp_o2 l_4 | omega)) (by (first | exact mp_o351 u_5 | omega))
            show mp_W E X 5 6 [(3, .int z_32), (1, .int i_1), (2, .int z_21), (4, .int z_21), (0, .ref a0)] [] [(mp_ob1 a0 a1 y0 y1 a2), (mp_arI E a1 0 36 f0)] 0 0
            exact mp_sub [0, 2, 1, 4] rfl [0, 1] rfl rfl (ih_10 (d_9 - 1) (by (first | exact mp_o44 hm_11 | omega)) z_32 z_21 i_1 (by (first | exact mp_o44 l_4 | omega)) (by (first | exact mp_o398 u_y0 c_12 | omega)) (by (first | exact mp_o44 l_4 | omega)) (by (first | exact mp_o398 u_y0 c_12 | omega)) (by (first | exact mp_o44 hm_11 | omega)))
  exact mp_sub [0, 1, 2, 3] rfl [0, 1] rfl rfl (lp_8 _ 0 0 (-1) (by decide) (by decide) (by decide) (by decide) (Int.self_le_toNat _))
set_option maxHeartbeats 4000000 in
set_option maxRecDepth 100000 in
theorem bX9_richest_80 (E : mp_E) (a0 a1 a2 a3 a4 a5 a6 a7 a8 a9 a10 a11 a12 a13 a14 a15 a16 a17 a18 a19 a20 a21 a22 a23 a24 a25 a26 a27 a28 a29 a30 : Nat) (f0 : Nat → Int32) (f1 : Nat → Int32) (f2 : Nat → Int32) (f3 : Nat → Int32) (f4 : Nat → Int32) (f5 : Nat → Int32) (f6 : Nat → Int32) (f7 : Nat → Int64) (f8 : Nat → Int32) (f9 : Nat → Int32) (f10 : Nat → Int32) (y0 : Int32) (y1 : Int32) (y2 : Int32) (y3 : Int32) (y4 : Int32) (y5 : Int32) (y6 : Int32) (y7 : Int32) (y8 : Int32) (x0 : Int32) (p0 : mp_all f1 10 0 5) (p1 : mp_all f2 10 0 5) (p2 : mp_all f4 10 0 99) (p3 : mp_all f5 10 0 1) (p4 : mp_all f6 10 (-1) 9) (l_y0 : 0 ≤ y0.toInt) (u_y0 : y0.toInt ≤ 99) (l_y2 : 0 ≤ y2.toInt) (u_y2 : y2.toInt ≤ 6) (l_y3 : 0 ≤ y3.toInt) (u_y3 : y3.toInt ≤ 99) (l_y4 : 0 ≤ y4.toInt) (u_y4 : y4.toInt ≤ 6) (l_y5 : 0 ≤ y5.toInt) (u_y5 : y5.toInt ≤ 10) (l_y6 : 0 ≤ y6.toInt) (u_y6 : y6.toInt ≤ 60) (l_y7 : 0 ≤ y7.toInt) (u_y7 : y7.toInt ≤ 6) : mp_Ct E yX9_richest cX9_richest 2 (some FieldType.int) 5 0 0 122 [.ref a0, .int x0] [(mp_ob9 a0 a15 a1 a16 a13 a17 a18 a19 a20 a21), (mp_ob0 a1 a2 y0 a22 a23 a24 a10 a11 a12), (mp_ob7 a2 y1 y2 y3 y4 y5 y6 a25 a26 a27 a3 a28 a4 a5 a6 a7 a8 a9 a29), (mp_arI E a3 0 6 f0), (mp_arI E a4 0 10 f1), (mp_arI E a5 0 10 f2), (mp_arI E a6 0 10 f3), (mp_arI E a7 0 10 f4), (mp_arI E a8 0 10 f5), (mp_arI E a9 0 10 f6), (mp_arL E a10 20 f7), (mp_arI E a11 0 10 f8), (mp_arI E a12 0 10 f9), (mp_ob1 a13 a14 y7 y8 a30), (mp_arI E a14 0 36 f10)] (fun v w' => ∃ h1 : Nat → Int32, ∃ h2 : Nat → Int32, ∃ r3 : Int32, ∃ h4 : Nat → Int32, ∃ r5 : Int32, v = some (.int r5) ∧ 0 ≤ r3.toInt ∧ r3.toInt ≤ 6 ∧ (-2) ≤ r5.toInt ∧ r5.toInt ≤ 5 ∧ w' = [(mp_ob9 a0 a15 a1 a16 a13 a17 a18 a19 a20 a21), (mp_ob0 a1 a2 y0 a22 a23 a24 a10 a11 a12), (mp_ob7 a2 y1 y2 y3 y4 y5 y6 a25 a26 a27 a3 a28 a4 a5 a6 a7 a8 a9 a29), (mp_arI E a3 0 6 f0), (mp_arI E a4 0 10 f1), (mp_arI E a5 0 10 f2), (mp_arI E a6 0 10 f3), (mp_arI E a7 0 10 f4), (mp_arI E a8 0 10 f5), (mp_arI E a9 0 10 f6), (mp_arL E a10 20 f7), (mp_arI E a11 0 10 h1), (mp_arI E a12 0 10 h2), (mp_ob1 a13 a14 r3 y8 a30), (mp_arI E a14 0 36 h4)]) := by
  refine mp_met false (by decide) (by decide) (Nat.le_of_ble_eq_true rfl) (fun X hF hQ => ?_)
  have hF : mp_F E X (RX9, cX9_richest, 2, (5, 0, 0, 122), (some FieldType.int), false) := hF
  let w1_ : va_W := [(mp_ob9 a0 a15 a1 a16 a13 a17 a18 a19 a20 a21), (mp_ob0 a1 a2 y0 a22 a23 a24 a10 a11 a12), (mp_ob7 a2 y1 y2 y3 y4 y5 y6 a25 a26 a27 a3 a28 a4 a5 a6 a7 a8 a9 a29), (mp_arI E a3 0 6 f0), (mp_arI E a4 0 10 f1), (mp_arI E a5 0 10 f2), (mp_arI E a6 0 10 f3), (mp_arI E a7 0 10 f4), (mp_arI E a8 0 10 f5), (mp_arI E a9 0 10 f6), (mp_arL E a10 20 f7), (mp_arI E a11 0 10 f8), (mp_arI E a12 0 10 f9), (mp_ob1 a13 a14 y7 y8 a30), (mp_arI E a14 0 36 f10)]
  show mp_W E X 2 0 [(0, .ref a0), (1, .int x0)] [] w1_ 0 0
  refine mp_run mp_k_cX9_richest_ok hF mp_tabX9_ok [mp_i (.aload_n 0), mp_i (.iload_n 1)] (by decide +kernel) ?_
  show mp_W E X 2 2 [(0, .ref a0), (1, .int x0)] [.int x0, .ref a0] w1_ 0 0
  refine mp_callV hF (As := [.int x0]) (rest := []) (wr := [(mp_arI E a3 0 6 f0), (mp_arI E a4 0 10 f1), (mp_arI E a5 0 10 f2), (mp_arI E a6 0 10 f3), (mp_arI E a7 0 10 f4), (mp_arI E a8 0 10 f5), (mp_arI E a9 0 10 f6), (mp_arL E a10 20 f7), (mp_arI E a11 0 10 f8), (mp_arI E a12 0 10 f9), (mp_ob1 a13 a14 y7 y8 a30), (mp_arI E a14 0 36 f10)]) (bX9_isToldMoon_78 E a0 a1 a2 a15 a16 a13 a17 a18 a19 a20 a21 a22 a23 a24 a10 a11 a12 a25 a26 a27 a3 a28 a4 a5 a6 a7 a8 a9 a29 y0 y1 y2 y3 y4 y5 y6 x0 l_y0 u_y0 l_y2 u_y2 l_y3 u_y3 l_y4 u_y4 l_y5 u_y5 l_y6 u_y6) mp_lkX9_187 0 rfl [0, 1, 2] [3, 4, 5, 6, 7, 8, 9, 10, 11, 12, 13, 14] rfl rfl rfl rfl rfl ⟨(Nat.le_of_ble_eq_true rfl), (Nat.le_of_ble_eq_true rfl), (Nat.le_of_ble_eq_true rfl), (Nat.le_of_ble_eq_true rfl)⟩ (Nat.le_of_ble_eq_true rfl) (by first | exact mp_fd_ok mp_k_cX9_richest_ok (by decide +kernel) | decide +kernel) (fun v_1 w_2 h_3 => ?_)
  rcases h_3 with ⟨rfl, rfl⟩ | ⟨rfl, c_4, c_5, c_6, rfl⟩
  · skip
    let w2_ : va_W := [(mp_arI E a3 0 6 f0), (mp_arI E a4 0 10 f1), (mp_arI E a5 0 10 f2), (mp_arI E a6 0 10 f3), (mp_arI E a7 0 10 f4), (mp_arI E a8 0 10 f5), (mp_arI E a9 0 10 f6), (mp_arL E a10 20 f7), (mp_arI E a11 0 10 f8), (mp_arI E a12 0 10 f9), (mp_ob1 a13 a14 y7 y8 a30), (mp_arI E a14 0 36 f10), (mp_ob9 a0 a15 a1 a16 a13 a17 a18 a19 a20 a21), (mp_ob0 a1 a2 y0 a22 a23 a24 a10 a11 a12), (mp_ob7 a2 y1 y2 y3 y4 y5 y6 a25 a26 a27 a3 a28 a4 a5 a6 a7 a8 a9 a29)]
    show mp_W E X 2 5 [(0, .ref a0), (1, .int x0)] [.int 0] w2_ 0 0
    refine mp_run mp_k_cX9_richest_ok hF mp_tabX9_ok [mp_h (.ifCond .ne 6) [11]] (by decide +kernel) ?_
    refine And.intro (fun c_7 => absurd c_7 (by decide)) (fun _ => ?_)
    show mp_W E X 2 8 [(0, .ref a0), (1, .int x0)] [] w2_ 0 0
    refine mp_run mp_k_cX9_richest_ok hF mp_tabX9_ok [mp_c (.bipush (-2)) (-2)] (by decide +kernel) ?_
    show mp_W E X 2 10 [(0, .ref a0), (1, .int x0)] [.int (-2)] w2_ 0 0
    exact mp_iret hF hQ rfl rfl (Nat.le_of_ble_eq_true rfl) (Nat.le_of_ble_eq_true rfl) [12, 13, 14, 0, 1, 2, 3, 4, 5, 6, 7, 8, 9, 10, 11] (w' := w1_) rfl rfl ⟨f8, f9, y7, f10, (-2), rfl, l_y7, u_y7, (by decide), (by decide), rfl⟩ (by first | exact mp_fd_ok mp_k_cX9_richest_ok (by decide +kernel) | decide +kernel)
  · skip
    have c_4 : 0 < y1.toInt := c_4
    have c_5 : 0 ≤ x0.toInt := c_5
    have c_6 : x0.toInt ≤ 99 := c_6
    let w3_ : va_W := [(mp_arI E a3 0 6 f0), (mp_arI E a4 0 10 f1), (mp_arI E a5 0 10 f2), (mp_arI E a6 0 10 f3), (mp_arI E a7 0 10 f4), (mp_arI E a8 0 10 f5), (mp_arI E a9 0 10 f6), (mp_arL E a10 20 f7), (mp_arI E a11 0 10 f8), (mp_arI E a12 0 10 f9), (mp_ob1 a13 a14 y7 y8 a30), (mp_arI E a14 0 36 f10), (mp_ob9 a0 a15 a1 a16 a13 a17 a18 a19 a20 a21), (mp_ob0 a1 a2 y0 a22 a23 a24 a10 a11 a12), (mp_ob7 a2 y1 y2 y3 y4 y5 y6 a25 a26 a27 a3 a28 a4 a5 a6 a7 a8 a9 a29)]
    show mp_W E X 2 5 [(0, .ref a0), (1, .int x0)] [.int 1] w3_ 0 0
    refine mp_run mp_k_cX9_richest_ok hF mp_tabX9_ok [mp_h (.ifCond .ne 6) [11]] (by decide +kernel) ?_
    refine And.intro (fun _ => ?_) (fun c_8 => absurd c_8 (by decide))
    show mp_W E X 2 11 [(0, .ref a0), (1, .int x0)] [] w3_ 0 0
    refine mp_run mp_k_cX9_richest_ok hF mp_tabX9_ok [mp_i (.aload_n 0), mp_h (.getfield 32) [39, 12], mp_i (.aload_n 0), mp_h (.getfield 19) [37, 12], mp_i (.iload_n 1)] (by decide +kernel) ?_
    refine And.intro rfl (And.intro rfl ?_)
    refine And.intro rfl (And.intro rfl ?_)
    show mp_W E X 2 20 [(0, .ref a0), (1, .int x0)] [.int x0, .ref a1, .ref a13] w3_ 0 0
    refine mp_callV hF (As := [.ref a1, .int x0]) (rest := []) (wr := [(mp_ob9 a0 a15 a1 a16 a13 a17 a18 a19 a20 a21)]) (bX1_fill_72 E a13 a1 a14 a2 a3 a4 a5 a6 a7 a8 a9 a10 a11 a12 a30 a22 a23 a24 a25 a26 a27 a28 a29 f10 f0 f1 f2 f3 f4 f5 f6 f7 f8 f9 y7 y8 y0 y1 y2 y3 y4 y5 y6 x0 p0 p1 p2 p3 p4 l_y7 u_y7 l_y0 u_y0 l_y2 u_y2 l_y3 u_y3 l_y4 u_y4 l_y5 u_y5 l_y6 u_y6) mp_lkX9_172 10 rfl [10, 11, 13, 14, 0, 1, 2, 3, 4, 5, 6, 7, 8, 9] [12] rfl rfl rfl rfl rfl ⟨(Nat.le_of_ble_eq_true rfl), (Nat.le_of_ble_eq_true rfl), (Nat.le_of_ble_eq_true rfl), (Nat.le_of_ble_eq_true rfl)⟩ (Nat.le_of_ble_eq_true rfl) (by first | exact mp_fd_ok mp_k_cX9_richest_ok (by decide +kernel) | decide +kernel) (fun v_9 w_10 h_11 => ?_)
    obtain ⟨g_12, g_13, g_14, rfl, rfl⟩ := h_11
    let w4_ : va_W := [(mp_ob9 a0 a15 a1 a16 a13 a17 a18 a19 a20 a21), (mp_ob1 a13 a14 y4 y8 a30), (mp_arI E a14 0 36 g_12), (mp_ob0 a1 a2 y0 a22 a23 a24 a10 a11 a12), (mp_ob7 a2 y1 y2 y3 y4 y5 y6 a25 a26 a27 a3 a28 a4 a5 a6 a7 a8 a9 a29), (mp_arI E a3 0 6 f0), (mp_arI E a4 0 10 f1), (mp_arI E a5 0 10 f2), (mp_arI E a6 0 10 f3), (mp_arI E a7 0 10 f4), (mp_arI E a8 0 10 f5), (mp_arI E a9 0 10 f6), (mp_arL E a10 20 f7), (mp_arI E a11 0 10 g_13), (mp_arI E a12 0 10 g_14)]
    show mp_W E X 2 23 [(0, .ref a0), (1, .int x0)] [] w4_ 0 0
    refine mp_run mp_k_cX9_richest_ok hF mp_tabX9_ok [mp_i (.aload_n 0), mp_h (.getfield 32) [39, 0]] (by decide +kernel) ?_
    refine And.intro rfl (And.intro rfl ?_)
    show mp_W E X 2 27 [(0, .ref a0), (1, .int x0)] [.ref a13] w4_ 0 0
    refine mp_callV hF (As := []) (rest := []) (wr := [(mp_ob9 a0 a15 a1 a16 a13 a17 a18 a19 a20 a21), (mp_ob0 a1 a2 y0 a22 a23 a24 a10 a11 a12), (mp_ob7 a2 y1 y2 y3 y4 y5 y6 a25 a26 a27 a3 a28 a4 a5 a6 a7 a8 a9 a29), (mp_arI E a3 0 6 f0), (mp_arI E a4 0 10 f1), (mp_arI E a5 0 10 f2), (mp_arI E a6 0 10 f3), (mp_arI E a7 0 10 f4), (mp_arI E a8 0 10 f5), (mp_arI E a9 0 10 f6), (mp_arL E a10 20 f7), (mp_arI E a11 0 10 g_13), (mp_arI E a12 0 10 g_14)]) (bX1_first_79 E a13 a14 a30 g_12 y4 y8 l_y4 u_y4) mp_lkX9_190 1 rfl [1, 2] [0, 3, 4, 5, 6, 7, 8, 9, 10, 11, 12, 13, 14] rfl rfl rfl rfl rfl ⟨(Nat.le_of_ble_eq_true rfl), (Nat.le_of_ble_eq_true rfl), (Nat.le_of_ble_eq_true rfl), (Nat.le_of_ble_eq_true rfl)⟩ (Nat.le_of_ble_eq_true rfl) (by first | exact mp_fd_ok mp_k_cX9_richest_ok (by decide +kernel) | decide +kernel) (fun v_15 w_16 h_17 => ?_)
    obtain ⟨r_18, rfl, l_19, u_20, rfl⟩ := h_17
    let w5_ : va_W := [(mp_ob9 a0 a15 a1 a16 a13 a17 a18 a19 a20 a21), (mp_ob0 a1 a2 y0 a22 a23 a24 a10 a11 a12), (mp_ob7 a2 y1 y2 y3 y4 y5 y6 a25 a26 a27 a3 a28 a4 a5 a6 a7 a8 a9 a29), (mp_arI E a3 0 6 f0), (mp_arI E a4 0 10 f1), (mp_arI E a5 0 10 f2), (mp_arI E a6 0 10 f3), (mp_arI E a7 0 10 f4), (mp_arI E a8 0 10 f5), (mp_arI E a9 0 10 f6), (mp_arL E a10 20 f7), (mp_arI E a11 0 10 g_13), (mp_arI E a12 0 10 g_14), (mp_ob1 a13 a14 y4 y8 a30), (mp_arI E a14 0 36 g_12)]
    show mp_W E X 2 30 [(0, .ref a0), (1, .int x0)] [.int r_18] w5_ 0 0
    exact mp_iret hF hQ rfl rfl (Nat.le_of_ble_eq_true rfl) (Nat.le_of_ble_eq_true rfl) [0, 1, 2, 3, 4, 5, 6, 7, 8, 9, 10, 11, 12, 13, 14] (w' := w5_) rfl rfl ⟨g_13, g_14, y4, g_12, r_18, rfl, l_y4, u_y4, (by (first | exact mp_o446 l_19 | omega)), u_20, rfl⟩ (by first | exact mp_fd_ok mp_k_cX9_richest_ok (by decide +kernel) | decide +kernel)
set_option maxHeartbeats 4000000 in
set_option maxRecDepth 100000 in
theorem bX9_greatest_81 (E : mp_E) (a0 a1 a2 a3 a4 a5 a6 a7 a8 a9 a10 a11 a12 a13 a14 a15 a16 a17 a18 a19 a20 a21 a22 a23 a24 a25 a26 a27 a28 : Nat) (f0 : Nat → Int32) (f1 : Nat → Int32) (f2 : Nat → Int32) (f3 : Nat → Int32) (f4 : Nat → Int32) (f5 : Nat → Int32) (f6 : Nat → Int64) (f7 : Nat → Int32) (f8 : Nat → Int32) (y0 : Int32) (y1 : Int32) (y2 : Int32) (y3 : Int32) (y4 : Int32) (y5 : Int32) (y6 : Int32) (x0 : Int32) (p0 : mp_all f1 10 0 5) (p1 : mp_all f3 10 0 99) (p2 : mp_all f4 10 0 1) (p3 : mp_all f5 10 (-1) 9) (l_y0 : 0 ≤ y0.toInt) (u_y0 : y0.toInt ≤ 99) (l_y2 : 0 ≤ y2.toInt) (u_y2 : y2.toInt ≤ 6) (l_y3 : 0 ≤ y3.toInt) (u_y3 : y3.toInt ≤ 99) (l_y4 : 0 ≤ y4.toInt) (u_y4 : y4.toInt ≤ 6) (l_y5 : 0 ≤ y5.toInt) (u_y5 : y5.toInt ≤ 10) (l_y6 : 0 ≤ y6.toInt) (u_y6 : y6.toInt ≤ 60) : mp_Ct E yX9_greatest cX9_greatest 6 (some FieldType.int) 4 0 0 97 [.ref a0, .int x0] [(mp_ob9 a0 a12 a1 a13 a14 a15 a16 a17 a18 a19), (mp_ob0 a1 a2 y0 a20 a21 a22 a9 a10 a11), (mp_ob7 a2 y1 y2 y3 y4 y5 y6 a23 a24 a25 a3 a26 a4 a27 a5 a6 a7 a8 a28), (mp_arI E a3 0 6 f0), (mp_arI E a4 0 10 f1), (mp_arI E a5 0 10 f2), (mp_arI E a6 0 10 f3), (mp_arI E a7 0 10 f4), (mp_arI E a8 0 10 f5), (mp_arL E a9 20 f6), (mp_arI E a10 0 10 f7), (mp_arI E a11 0 10 f8)] (fun v w' => ∃ h1 : Nat → Int32, ∃ h2 : Nat → Int32, ∃ r3 : Int32, v = some (.int r3) ∧ (-2) ≤ r3.toInt ∧ r3.toInt ≤ 9 ∧ w' = [(mp_ob9 a0 a12 a1 a13 a14 a15 a16 a17 a18 a19), (mp_ob0 a1 a2 y0 a20 a21 a22 a9 a10 a11), (mp_ob7 a2 y1 y2 y3 y4 y5 y6 a23 a24 a25 a3 a26 a4 a27 a5 a6 a7 a8 a28), (mp_arI E a3 0 6 f0), (mp_arI E a4 0 10 f1), (mp_arI E a5 0 10 f2), (mp_arI E a6 0 10 f3), (mp_arI E a7 0 10 f4), (mp_arI E a8 0 10 f5), (mp_arL E a9 20 f6), (mp_arI E a10 0 10 h1), (mp_arI E a11 0 10 h2)]) := by
  refine mp_met false (by decide) (by decide) (Nat.le_of_ble_eq_true rfl) (fun X hF hQ => ?_)
  have hF : mp_F E X (RX9, cX9_greatest, 6, (4, 0, 0, 97), (some FieldType.int), false) := hF
  let w1_ : va_W := [(mp_ob9 a0 a12 a1 a13 a14 a15 a16 a17 a18 a19), (mp_ob0 a1 a2 y0 a20 a21 a22 a9 a10 a11), (mp_ob7 a2 y1 y2 y3 y4 y5 y6 a23 a24 a25 a3 a26 a4 a27 a5 a6 a7 a8 a28), (mp_arI E a3 0 6 f0), (mp_arI E a4 0 10 f1), (mp_arI E a5 0 10 f2), (mp_arI E a6 0 10 f3), (mp_arI E a7 0 10 f4), (mp_arI E a8 0 10 f5), (mp_arL E a9 20 f6), (mp_arI E a10 0 10 f7), (mp_arI E a11 0 10 f8)]
  show mp_W E X 6 0 [(0, .ref a0), (1, .int x0)] [] w1_ 0 0
  refine mp_run mp_k_cX9_greatest_ok hF mp_tabX9_ok [mp_i (.aload_n 0), mp_i (.iload_n 1)] (by decide +kernel) ?_
  show mp_W E X 6 2 [(0, .ref a0), (1, .int x0)] [.int x0, .ref a0] w1_ 0 0
  refine mp_callV hF (As := [.int x0]) (rest := []) (wr := [(mp_arI E a3 0 6 f0), (mp_arI E a4 0 10 f1), (mp_arI E a5 0 10 f2), (mp_arI E a6 0 10 f3), (mp_arI E a7 0 10 f4), (mp_arI E a8 0 10 f5), (mp_arL E a9 20 f6), (mp_arI E a10 0 10 f7), (mp_arI E a11 0 10 f8)]) (bX9_isToldMoon_78 E a0 a1 a2 a12 a13 a14 a15 a16 a17 a18 a19 a20 a21 a22 a9 a10 a11 a23 a24 a25 a3 a26 a4 a27 a5 a6 a7 a8 a28 y0 y1 y2 y3 y4 y5 y6 x0 l_y0 u_y0 l_y2 u_y2 l_y3 u_y3 l_y4 u_y4 l_y5 u_y5 l_y6 u_y6) mp_lkX9_187 0 rfl [0, 1, 2] [3, 4, 5, 6, 7, 8, 9, 10, 11] rfl rfl rfl rfl rfl ⟨(Nat.le_of_ble_eq_true rfl), (Nat.le_of_ble_eq_true rfl), (Nat.le_of_ble_eq_true rfl), (Nat.le_of_ble_eq_true rfl)⟩ (Nat.le_of_ble_eq_true rfl) (by first | exact mp_fd_ok mp_k_cX9_greatest_ok (by decide +kernel) | decide +kernel) (fun v_1 w_2 h_3 => ?_)
  rcases h_3 with ⟨rfl, rfl⟩ | ⟨rfl, c_4, c_5, c_6, rfl⟩
  · skip
    let w2_ : va_W := [(mp_arI E a3 0 6 f0), (mp_arI E a4 0 10 f1), (mp_arI E a5 0 10 f2), (mp_arI E a6 0 10 f3), (mp_arI E a7 0 10 f4), (mp_arI E a8 0 10 f5), (mp_arL E a9 20 f6), (mp_arI E a10 0 10 f7), (mp_arI E a11 0 10 f8), (mp_ob9 a0 a12 a1 a13 a14 a15 a16 a17 a18 a19), (mp_ob0 a1 a2 y0 a20 a21 a22 a9 a10 a11), (mp_ob7 a2 y1 y2 y3 y4 y5 y6 a23 a24 a25 a3 a26 a4 a27 a5 a6 a7 a8 a28)]
    show mp_W E X 6 5 [(0, .ref a0), (1, .int x0)] [.int 0] w2_ 0 0
    refine mp_run mp_k_cX9_greatest_ok hF mp_tabX9_ok [mp_h (.ifCond .ne 6) [11]] (by decide +kernel) ?_
    refine And.intro (fun c_7 => absurd c_7 (by decide)) (fun _ => ?_)
    show mp_W E X 6 8 [(0, .ref a0), (1, .int x0)] [] w2_ 0 0
    refine mp_run mp_k_cX9_greatest_ok hF mp_tabX9_ok [mp_c (.bipush (-2)) (-2)] (by decide +kernel) ?_
    show mp_W E X 6 10 [(0, .ref a0), (1, .int x0)] [.int (-2)] w2_ 0 0
    exact mp_iret hF hQ rfl rfl (Nat.le_of_ble_eq_true rfl) (Nat.le_of_ble_eq_true rfl) [9, 10, 11, 0, 1, 2, 3, 4, 5, 6, 7, 8] (w' := w1_) rfl rfl ⟨f7, f8, (-2), rfl, (by decide), (by decide), rfl⟩ (by first | exact mp_fd_ok mp_k_cX9_greatest_ok (by decide +kernel) | decide +kernel)
  · skip
    have c_4 : 0 < y1.toInt := c_4
    have c_5 : 0 ≤ x0.toInt := c_5
    have c_6 : x0.toInt ≤ 99 := c_6
    let w3_ : va_W := [(mp_arI E a3 0 6 f0), (mp_arI E a4 0 10 f1), (mp_arI E a5 0 10 f2), (mp_arI E a6 0 10 f3), (mp_arI E a7 0 10 f4), (mp_arI E a8 0 10 f5), (mp_arL E a9 20 f6), (mp_arI E a10 0 10 f7), (mp_arI E a11 0 10 f8), (mp_ob9 a0 a12 a1 a13 a14 a15 a16 a17 a18 a19), (mp_ob0 a1 a2 y0 a20 a21 a22 a9 a10 a11), (mp_ob7 a2 y1 y2 y3 y4 y5 y6 a23 a24 a25 a3 a26 a4 a27 a5 a6 a7 a8 a28)]
    show mp_W E X 6 5 [(0, .ref a0), (1, .int x0)] [.int 1] w3_ 0 0
    refine mp_run mp_k_cX9_greatest_ok hF mp_tabX9_ok [mp_h (.ifCond .ne 6) [11]] (by decide +kernel) ?_
    refine And.intro (fun _ => ?_) (fun c_8 => absurd c_8 (by decide))
    show mp_W E X 6 11 [(0, .ref a0), (1, .int x0)] [] w3_ 0 0
    refine mp_run mp_k_cX9_greatest_ok hF mp_tabX9_ok [mp_i (.aload_n 0), mp_h (.getfield 19) [37, 9], mp_i (.iload_n 1)] (by decide +kernel) ?_
    refine And.intro rfl (And.intro rfl ?_)
    show mp_W E X 6 16 [(0, .ref a0), (1, .int x0)] [.int x0, .ref a1] w3_ 0 0
    refine mp_callV hF (As := [.int x0]) (rest := []) (wr := [(mp_ob9 a0 a12 a1 a13 a14 a15 a16 a17 a18 a19)]) (bX0_worthsAt_70 E a1 a2 a3 a4 a5 a6 a7 a8 a9 a10 a11 a20 a21 a22 a23 a24 a25 a26 a27 a28 f0 f1 f2 f3 f4 f5 f6 f7 f8 y0 y1 y2 y3 y4 y5 y6 x0 p0 p1 p2 p3 l_y0 u_y0 l_y2 u_y2 l_y3 u_y3 l_y4 u_y4 l_y5 u_y5 l_y6 u_y6) mp_lkX9_193 10 rfl [10, 11, 0, 1, 2, 3, 4, 5, 6, 7, 8] [9] rfl rfl rfl rfl rfl ⟨(Nat.le_of_ble_eq_true rfl), (Nat.le_of_ble_eq_true rfl), (Nat.le_of_ble_eq_true rfl), (Nat.le_of_ble_eq_true rfl)⟩ (Nat.le_of_ble_eq_true rfl) (by first | exact mp_fd_ok mp_k_cX9_greatest_ok (by decide +kernel) | decide +kernel) (fun v_9 w_10 h_11 => ?_)
    obtain ⟨g_12, g_13, rfl, rfl⟩ := h_11
    let w4_ : va_W := [(mp_ob9 a0 a12 a1 a13 a14 a15 a16 a17 a18 a19), (mp_ob0 a1 a2 y0 a20 a21 a22 a9 a10 a11), (mp_ob7 a2 y1 y2 y3 y4 y5 y6 a23 a24 a25 a3 a26 a4 a27 a5 a6 a7 a8 a28), (mp_arI E a3 0 6 f0), (mp_arI E a4 0 10 f1), (mp_arI E a5 0 10 f2), (mp_arI E a6 0 10 f3), (mp_arI E a7 0 10 f4), (mp_arI E a8 0 10 f5), (mp_arL E a9 20 f6), (mp_arI E a10 0 10 g_12), (mp_arI E a11 0 10 g_13)]
    show mp_W E X 6 19 [(0, .ref a0), (1, .int x0)] [.ref a11] w4_ 0 0
    refine mp_run mp_k_cX9_greatest_ok hF mp_tabX9_ok [mp_i (.astore_n 2), mp_c (.iconst (-1)) (-1), mp_i (.istore_n 3), mp_c (.iconst 0) 0, mp_i (.istore 4), mp_c (.iconst 0) 0, mp_i (.istore 5)] (by decide +kernel) ?_
    show mp_W E X 6 28 [(5, .int 0), (4, .int 0), (3, .int (-1)), (2, .ref a11), (0, .ref a0), (1, .int x0)] [] w4_ 0 0
    have lp_22 : ∀ (d_23 : Nat) (i_14 : Int32) (i_15 : Int32) (i_16 : Int32), 0 ≤ i_14.toInt → i_14.toInt ≤ 10 → 0 ≤ i_15.toInt → (-1) ≤ i_16.toInt → i_16.toInt ≤ 9 → y5.toInt - i_14.toInt ≤ (d_23 : Int) → mp_W E X 6 28 [(5, .int i_14), (4, .int i_15), (3, .int i_16), (2, .ref a11), (0, .ref a0), (1, .int x0)] [] [(mp_ob9 a0 a12 a1 a13 a14 a15 a16 a17 a18 a19), (mp_ob0 a1 a2 y0 a20 a21 a22 a9 a10 a11), (mp_ob7 a2 y1 y2 y3 y4 y5 y6 a23 a24 a25 a3 a26 a4 a27 a5 a6 a7 a8 a28), (mp_arI E a3 0 6 f0), (mp_arI E a4 0 10 f1), (mp_arI E a5 0 10 f2), (mp_arI E a6 0 10 f3), (mp_arI E a7 0 10 f4), (mp_arI E a8 0 10 f5), (mp_arL E a9 20 f6), (mp_arI E a10 0 10 g_12), (mp_arI E a11 0 10 g_13)] 0 0 := by
      intro d_23
      induction d_23 using Nat.strongRecOn with
      | ind d_23 ih_24 =>
        intro i_14 i_15 i_16 l_17 u_18 l_19 l_20 u_21 hm_25
        refine mp_run mp_k_cX9_greatest_ok hF mp_tabX9_ok [mp_i (.iload 5), mp_i (.aload_n 0), mp_h (.getfield 19) [37, 0], mp_h (.getfield 83) [20, 1], mp_h (.getfield 196) [4, 2], mp_h (.if_icmp .ge 27) [67]] (by decide +kernel) ?_
        refine And.intro rfl (And.intro rfl ?_)
        refine And.intro rfl (And.intro rfl ?_)
        refine And.intro rfl (And.intro rfl ?_)
        refine And.intro (fun c_26 => ?_) (fun c_26 => ?_)
        · have c_26 : y5.toInt ≤ i_14.toInt := c_26
          show mp_W E X 6 67 [(5, .int i_14), (4, .int i_15), (3, .int i_16), (2, .ref a11), (0, .ref a0), (1, .int x0)] [] w4_ 0 0
          refine mp_run mp_k_cX9_greatest_ok hF mp_tabX9_ok [mp_i (.iload_n 3)] (by decide +kernel) ?_
          show mp_W E X 6 68 [(5, .int i_14), (4, .int i_15), (3, .int i_16), (2, .ref a11), (0, .ref a0), (1, .int x0)] [.int i_16] w4_ 0 0
          exact mp_iret hF hQ rfl rfl (Nat.le_of_ble_eq_true rfl) (Nat.le_of_ble_eq_true rfl) [0, 1, 2, 3, 4, 5, 6, 7, 8, 9, 10, 11] (w' := w4_) rfl rfl ⟨g_12, g_13, i_16, rfl, (by (first | exact mp_o446 l_20 | omega)), u_21, rfl⟩ (by first | exact mp_fd_ok mp_k_cX9_greatest_ok (by decide +kernel) | decide +kernel)
        · have c_26 : i_14.toInt < y5.toInt := c_26
          show mp_W E X 6 43 [(5, .int i_14), (4, .int i_15), (3, .int i_16), (2, .ref a11), (0, .ref a0), (1, .int x0)] [] w4_ 0 0
          refine mp_run mp_k_cX9_greatest_ok hF mp_tabX9_ok [mp_i (.aload_n 2), mp_i (.iload 5), mp_h .iaload [11], mp_i (.iload 4), mp_h (.if_icmp .le 12) [61]] (by decide +kernel) ?_
          refine And.intro rfl (And.intro rfl (And.intro (vp_in_iff.mpr (by (first | exact mp_o381 l_17 u_y5 c_26 | omega))) ?_))
          intro z_27 h_28
          refine And.intro (fun c_29 => ?_) (fun c_29 => ?_)
          · have c_29 : z_27.toInt ≤ i_15.toInt := c_29
            show mp_W E X 6 61 [(5, .int i_14), (4, .int i_15), (3, .int i_16), (2, .ref a11), (0, .ref a0), (1, .int x0)] [] w4_ 0 0
            refine mp_run mp_k_cX9_greatest_ok hF mp_tabX9_ok [mp_c (.iinc 5 1) 1, mp_h (.goto (-36)) [28]] (by decide +kernel) ?_
            intro z_30 h_31
            have e_32 : z_30.toInt = i_14.toInt + 1 := mp_add (a := i_14.toInt) (b := 1) h_31 rfl (by decide) (by (first | exact mp_o2 l_17 | omega)) (by (first | exact mp_o420 u_18 | omega))
            show mp_W E X 6 28 [(5, .int z_30), (4, .int i_15), (3, .int i_16), (2, .ref a11), (0, .ref a0), (1, .int x0)] [] w4_ 0 0
            exact mp_sub [0, 1, 2, 3, 4, 5] rfl [0, 1, 2, 3, 4, 5, 6, 7, 8, 9, 10, 11] rfl rfl (ih_24 (d_23 - 1) (by (first | exact mp_o72 hm_25 c_26 | omega)) z_30 i_15 i_16 (by (first | exact mp_o51 l_17 e_32 | omega)) (by (first | exact mp_o421 u_y5 c_26 e_32 | omega)) l_19 l_20 u_21 (by (first | exact mp_o77 hm_25 e_32 | omega)))
          · have c_29 : i_15.toInt < z_27.toInt := c_29
            show mp_W E X 6 52 [(5, .int i_14), (4, .int i_15), (3, .int i_16), (2, .ref a11), (0, .ref a0), (1, .int x0)] [] w4_ 0 0
            refine mp_run mp_k_cX9_greatest_ok hF mp_tabX9_ok [mp_i (.aload_n 2), mp_i (.iload 5), mp_h .iaload [11], mp_i (.istore 4), mp_i (.iload 5), mp_i (.istore_n 3), mp_c (.iinc 5 1) 1, mp_h (.goto (-36)) [28]] (by decide +kernel) ?_
            refine And.intro rfl (And.intro rfl (And.intro (vp_in_iff.mpr (by (first | exact mp_o381 l_17 u_y5 c_26 | omega))) ?_))
            intro z_33 h_34
            have k_35 : z_27 = z_33 := h_28.trans h_34.symm
            subst k_35
            intro z_36 h_37
            have e_38 : z_36.toInt = i_14.toInt + 1 := mp_add (a := i_14.toInt) (b := 1) h_37 rfl (by decide) (by (first | exact mp_o2 l_17 | omega)) (by (first | exact mp_o420 u_18 | omega))
            show mp_W E X 6 28 [(5, .int z_36), (3, .int i_14), (4, .int z_27), (2, .ref a11), (0, .ref a0), (1, .int x0)] [] w4_ 0 0
            exact mp_sub [0, 2, 1, 3, 4, 5] rfl [0, 1, 2, 3, 4, 5, 6, 7, 8, 9, 10, 11] rfl rfl (ih_24 (d_23 - 1) (by (first | exact mp_o44 hm_25 | omega)) z_36 z_27 i_14 (by (first | exact mp_o44 l_17 | omega)) (by (first | exact mp_o419 u_y5 c_26 | omega)) (by (first | exact mp_o447 l_19 c_29 | omega)) (by (first | exact mp_o44 l_17 | omega)) (by (first | exact mp_o419 u_y5 c_26 | omega)) (by (first | exact mp_o44 hm_25 | omega)))
    exact mp_sub [0, 1, 2, 3, 4, 5] rfl [0, 1, 2, 3, 4, 5, 6, 7, 8, 9, 10, 11] rfl rfl (lp_22 _ 0 0 (-1) (by decide) (by decide) (by decide) (by decide) (by decide) (Int.self_le_toNat _))
set_option maxHeartbeats 4000000 in
set_option maxRecDepth 100000 in
theorem bX9_root_82 (E : mp_E) (a0 a1 a2 a3 a4 a5 a6 a7 a8 a9 a10 a11 a12 a13 a14 a15 a16 a17 a18 a19 a20 a21 a22 a23 a24 a25 a26 a27 a28 : Nat) (f0 : Nat → Int32) (y0 : Int32) (y1 : Int32) (y2 : Int32) (y3 : Int32) (y4 : Int32) (y5 : Int32) (y6 : Int32) (x0 : Int32) (p0 : mp_all f0 10 (-1) 9) (l_y0 : 0 ≤ y0.toInt) (u_y0 : y0.toInt ≤ 99) (l_y2 : 0 ≤ y2.toInt) (u_y2 : y2.toInt ≤ 6) (l_y3 : 0 ≤ y3.toInt) (u_y3 : y3.toInt ≤ 99) (l_y4 : 0 ≤ y4.toInt) (u_y4 : y4.toInt ≤ 6) (l_y5 : 0 ≤ y5.toInt) (u_y5 : y5.toInt ≤ 10) (l_y6 : 0 ≤ y6.toInt) (u_y6 : y6.toInt ≤ 60) : mp_Ct E yX9_root cX9_root 4 (some FieldType.int) 1 0 0 21 [.ref a0, .int x0] [(mp_ob9 a0 a4 a1 a5 a6 a7 a8 a9 a10 a11), (mp_ob0 a1 a2 y0 a12 a13 a14 a15 a16 a17), (mp_ob7 a2 y1 y2 y3 y4 y5 y6 a18 a19 a20 a21 a22 a23 a24 a25 a26 a27 a3 a28), (mp_arI E a3 0 10 f0)] (fun v w' => ∃ r1 : Int32, v = some (.int r1) ∧ (-2) ≤ r1.toInt ∧ r1.toInt ≤ 9 ∧ (((x0.toInt < 0 ∨ y5.toInt ≤ x0.toInt) ∧ r1.toInt = -2) ∨ ((0 ≤ x0.toInt ∧ x0.toInt < y5.toInt) ∧ r1.toInt = mp_it f0 x0.toInt 10)) ∧ w' = [(mp_ob9 a0 a4 a1 a5 a6 a7 a8 a9 a10 a11), (mp_ob0 a1 a2 y0 a12 a13 a14 a15 a16 a17), (mp_ob7 a2 y1 y2 y3 y4 y5 y6 a18 a19 a20 a21 a22 a23 a24 a25 a26 a27 a3 a28), (mp_arI E a3 0 10 f0)]) := by
  refine mp_met false (by decide) (by decide) (Nat.le_of_ble_eq_true rfl) (fun X hF hQ => ?_)
  have hF : mp_F E X (RX9, cX9_root, 4, (1, 0, 0, 21), (some FieldType.int), false) := hF
  let w1_ : va_W := [(mp_ob9 a0 a4 a1 a5 a6 a7 a8 a9 a10 a11), (mp_ob0 a1 a2 y0 a12 a13 a14 a15 a16 a17), (mp_ob7 a2 y1 y2 y3 y4 y5 y6 a18 a19 a20 a21 a22 a23 a24 a25 a26 a27 a3 a28), (mp_arI E a3 0 10 f0)]
  show mp_W E X 4 0 [(0, .ref a0), (1, .int x0)] [] w1_ 0 0
  refine mp_run mp_k_cX9_root_ok hF mp_tabX9_ok [mp_i (.aload_n 0), mp_h (.getfield 19) [37, 0], mp_h (.getfield 83) [20, 1], mp_i (.iload_n 1)] (by decide +kernel) ?_
  refine And.intro rfl (And.intro rfl ?_)
  refine And.intro rfl (And.intro rfl ?_)
  show mp_W E X 4 8 [(0, .ref a0), (1, .int x0)] [.int x0, .ref a2] w1_ 0 0
  refine mp_callV hF (As := [.int x0]) (rest := []) (wr := [(mp_ob9 a0 a4 a1 a5 a6 a7 a8 a9 a10 a11), (mp_ob0 a1 a2 y0 a12 a13 a14 a15 a16 a17), (mp_arI E a3 0 10 f0)]) (bX7_isPromise_53 E a2 a18 a19 a20 a21 a22 a23 a24 a25 a26 a27 a3 a28 y1 y2 y3 y4 y5 y6 x0 l_y2 u_y2 l_y3 u_y3 l_y4 u_y4 l_y5 u_y5 l_y6 u_y6) mp_lkX9_120 2 rfl [2] [0, 1, 3] rfl rfl rfl rfl rfl ⟨(Nat.le_of_ble_eq_true rfl), (Nat.le_of_ble_eq_true rfl), (Nat.le_of_ble_eq_true rfl), (Nat.le_of_ble_eq_true rfl)⟩ (Nat.le_of_ble_eq_true rfl) (by first | exact mp_fd_ok mp_k_cX9_root_ok (by decide +kernel) | decide +kernel) (fun v_1 w_2 h_3 => ?_)
  rcases h_3 with ⟨rfl, x_4, rfl⟩ | ⟨rfl, c_5, c_6, x_7, rfl⟩
  · skip
    let w2_ : va_W := [(mp_ob9 a0 a4 a1 a5 a6 a7 a8 a9 a10 a11), (mp_ob0 a1 a2 y0 a12 a13 a14 a15 a16 a17), (mp_arI E a3 0 10 f0), (mp_ob7 a2 y1 y2 y3 y4 y5 y6 a18 a19 a20 a21 a22 a23 a24 a25 a26 a27 a3 a28)]
    show mp_W E X 4 11 [(0, .ref a0), (1, .int x0)] [.int 0] w2_ 0 0
    refine mp_run mp_k_cX9_root_ok hF mp_tabX9_ok [mp_h (.ifCond .ne 6) [17]] (by decide +kernel) ?_
    refine And.intro (fun c_8 => absurd c_8 (by decide)) (fun _ => ?_)
    show mp_W E X 4 14 [(0, .ref a0), (1, .int x0)] [] w2_ 0 0
    refine mp_run mp_k_cX9_root_ok hF mp_tabX9_ok [mp_c (.bipush (-2)) (-2)] (by decide +kernel) ?_
    show mp_W E X 4 16 [(0, .ref a0), (1, .int x0)] [.int (-2)] w2_ 0 0
    exact mp_iret hF hQ rfl rfl (Nat.le_of_ble_eq_true rfl) (Nat.le_of_ble_eq_true rfl) [0, 1, 3, 2] (w' := w1_) rfl rfl ⟨(-2), rfl, (by decide), (by decide), (by first | fail | decide | (have h8 : (0 : Int64).toInt = 0 := rfl; have h9 : (-1 : Int32).toInt = -1 := rfl; have h10 : (-2 : Int32).toInt = -2 := rfl; have h11 : (0 : Int32).toInt = 0 := rfl; have h12 : (1 : Int32).toInt = 1 := rfl; have h13 : (-5 : Int32).toInt = -5 := rfl; have h14 : (-3 : Int32).toInt = -3 := rfl; (first | exact mp_o448 x_4 h10 | omega))), rfl⟩ (by first | exact mp_fd_ok mp_k_cX9_root_ok (by decide +kernel) | decide +kernel)
  · skip
    have c_5 : 0 ≤ x0.toInt := c_5
    have c_6 : x0.toInt < y5.toInt := c_6
    let w3_ : va_W := [(mp_ob9 a0 a4 a1 a5 a6 a7 a8 a9 a10 a11), (mp_ob0 a1 a2 y0 a12 a13 a14 a15 a16 a17), (mp_arI E a3 0 10 f0), (mp_ob7 a2 y1 y2 y3 y4 y5 y6 a18 a19 a20 a21 a22 a23 a24 a25 a26 a27 a3 a28)]
    show mp_W E X 4 11 [(0, .ref a0), (1, .int x0)] [.int 1] w3_ 0 0
    refine mp_run mp_k_cX9_root_ok hF mp_tabX9_ok [mp_h (.ifCond .ne 6) [17]] (by decide +kernel) ?_
    refine And.intro (fun _ => ?_) (fun c_9 => absurd c_9 (by decide))
    show mp_W E X 4 17 [(0, .ref a0), (1, .int x0)] [] w3_ 0 0
    refine mp_run mp_k_cX9_root_ok hF mp_tabX9_ok [mp_i (.iload_n 1), mp_i (.istore_n 2), mp_c (.iconst 0) 0, mp_i (.istore_n 3)] (by decide +kernel) ?_
    show mp_W E X 4 21 [(3, .int 0), (2, .int x0), (0, .ref a0), (1, .int x0)] [] w3_ 0 0
    have lp_19 : ∀ (d_20 : Nat) (i_10 : Int32) (i_11 : Int32), 0 ≤ i_10.toInt → i_10.toInt ≤ 10 → 0 ≤ i_11.toInt → i_11.toInt ≤ 9 → (i_11.toInt = mp_it f0 x0.toInt (i_10.toInt).toNat) → (0 ≤ i_10.toInt) → (i_10.toInt ≤ 10) → -(i_10.toInt) + 10 ≤ (d_20 : Int) → mp_W E X 4 21 [(3, .int i_10), (2, .int i_11), (0, .ref a0), (1, .int x0)] [] [(mp_ob9 a0 a4 a1 a5 a6 a7 a8 a9 a10 a11), (mp_ob0 a1 a2 y0 a12 a13 a14 a15 a16 a17), (mp_arI E a3 0 10 f0), (mp_ob7 a2 y1 y2 y3 y4 y5 y6 a18 a19 a20 a21 a22 a23 a24 a25 a26 a27 a3 a28)] 0 0 := by
      intro d_20
      induction d_20 using Nat.strongRecOn with
      | ind d_20 ih_21 =>
        intro i_10 i_11 l_12 u_13 l_14 u_15 x_16 x_17 x_18 hm_22
        refine mp_run mp_k_cX9_root_ok hF mp_tabX9_ok [mp_i (.iload_n 3), mp_c (.bipush 10) 10, mp_h (.if_icmp .ge 38) [62]] (by decide +kernel) ?_
        refine And.intro (fun c_23 => ?_) (fun c_23 => ?_)
        · have c_23 : 10 ≤ i_10.toInt := c_23
          show mp_W E X 4 62 [(3, .int i_10), (2, .int i_11), (0, .ref a0), (1, .int x0)] [] w3_ 0 0
          refine mp_run mp_k_cX9_root_ok hF mp_tabX9_ok [mp_i (.iload_n 2)] (by decide +kernel) ?_
          show mp_W E X 4 63 [(3, .int i_10), (2, .int i_11), (0, .ref a0), (1, .int x0)] [.int i_11] w3_ 0 0
          exact mp_iret hF hQ rfl rfl (Nat.le_of_ble_eq_true rfl) (Nat.le_of_ble_eq_true rfl) [0, 1, 3, 2] (w' := w1_) rfl rfl ⟨i_11, rfl, (by (first | exact mp_o399 l_14 | omega)), u_15, (Or.inr ⟨by (first | exact x_7 | omega), mp_it_end x_16 (by (first | exact mp_o449 u_13 | omega)) (by (first | exact mp_o450 c_23 u_13 | omega))⟩), rfl⟩ (by first | exact mp_fd_ok mp_k_cX9_root_ok (by decide +kernel) | decide +kernel)
        · have c_23 : i_10.toInt < 10 := c_23
          show mp_W E X 4 27 [(3, .int i_10), (2, .int i_11), (0, .ref a0), (1, .int x0)] [] w3_ 0 0
          refine mp_run mp_k_cX9_root_ok hF mp_tabX9_ok [mp_i (.aload_n 0), mp_h (.getfield 19) [37, 0], mp_h (.getfield 83) [20, 1], mp_h (.getfield 138) [14, 3], mp_i (.iload_n 2), mp_h .iaload [2], mp_c (.iconst (-1)) (-1), mp_h (.if_icmp .eq 22) [62]] (by decide +kernel) ?_
          refine And.intro rfl (And.intro rfl ?_)
          refine And.intro rfl (And.intro rfl ?_)
          refine And.intro rfl (And.intro rfl ?_)
          refine And.intro rfl (And.intro rfl (And.intro (vp_in_iff.mpr (by (first | exact mp_o181 l_14 u_15 | omega))) ?_))
          intro z_24 h_25
          have e_26 : (-1) ≤ z_24.toInt ∧ z_24.toInt ≤ 9 := mp_all_ld h_25 p0 (by (first | exact l_14 | omega)) (by (first | exact mp_o208 u_15 | omega))
          have e_27 : z_24.toInt = (f0 i_11.toInt.toNat).toInt := congrArg Int32.toInt h_25
          refine And.intro (fun c_28 => ?_) (fun c_28 => ?_)
          · have c_28 : z_24.toInt = (-1) := (congrArg Int32.toInt c_28)
            show mp_W E X 4 62 [(3, .int i_10), (2, .int i_11), (0, .ref a0), (1, .int x0)] [] w3_ 0 0
            refine mp_run mp_k_cX9_root_ok hF mp_tabX9_ok [mp_i (.iload_n 2)] (by decide +kernel) ?_
            show mp_W E X 4 63 [(3, .int i_10), (2, .int i_11), (0, .ref a0), (1, .int x0)] [.int i_11] w3_ 0 0
            exact mp_iret hF hQ rfl rfl (Nat.le_of_ble_eq_true rfl) (Nat.le_of_ble_eq_true rfl) [0, 1, 3, 2] (w' := w1_) rfl rfl ⟨i_11, rfl, (by (first | exact mp_o399 l_14 | omega)), u_15, (Or.inr ⟨by (first | exact x_7 | omega), mp_it_end x_16 (by (first | exact mp_o451 c_23 | omega)) (by (first | exact mp_o452 c_28 e_27 | omega))⟩), rfl⟩ (by first | exact mp_fd_ok mp_k_cX9_root_ok (by decide +kernel) | decide +kernel)
          · have c_28 : z_24.toInt ≠ (-1) := c_28
            show mp_W E X 4 43 [(3, .int i_10), (2, .int i_11), (0, .ref a0), (1, .int x0)] [] w3_ 0 0
            refine mp_run mp_k_cX9_root_ok hF mp_tabX9_ok [mp_i (.aload_n 0), mp_h (.getfield 19) [37, 0], mp_h (.getfield 83) [20, 1], mp_h (.getfield 138) [14, 3], mp_i (.iload_n 2), mp_h .iaload [2], mp_i (.istore_n 2), mp_c (.iinc 3 1) 1, mp_h (.goto (-38)) [21]] (by decide +kernel) ?_
            refine And.intro rfl (And.intro rfl ?_)
            refine And.intro rfl (And.intro rfl ?_)
            refine And.intro rfl (And.intro rfl ?_)
            refine And.intro rfl (And.intro rfl (And.intro (vp_in_iff.mpr (by (first | exact mp_o181 l_14 u_15 | omega))) ?_))
            intro z_29 h_30
            have k_31 : z_24 = z_29 := h_25.trans h_30.symm
            subst k_31
            intro z_32 h_33
            have e_34 : z_32.toInt = i_10.toInt + 1 := mp_add (a := i_10.toInt) (b := 1) h_33 rfl (by decide) (by (first | exact mp_o2 l_12 | omega)) (by (first | exact mp_o425 c_23 | omega))
            show mp_W E X 4 21 [(3, .int z_32), (2, .int z_24), (0, .ref a0), (1, .int x0)] [] w3_ 0 0
            exact mp_sub [0, 1, 2, 3] rfl [0, 1, 2, 3] rfl rfl (ih_21 (d_20 - 1) (by (first | exact mp_o426 hm_22 c_23 | omega)) z_32 z_24 (by (first | exact mp_o51 l_12 e_34 | omega)) (by (first | exact mp_o427 c_23 e_34 | omega)) (by (first | exact mp_o453 e_26 c_28 | omega)) e_26.2 (mp_it_s (d := i_10.toInt) x_16 (by (first | exact mp_o214 e_27 c_28 | omega)) (by (first | exact e_27 | omega)) (by (first | exact mp_o53 l_12 e_34 | omega))) (by (first | exact mp_o51 l_12 e_34 | omega)) (by (first | exact mp_o427 c_23 e_34 | omega)) (by (first | exact mp_o428 hm_22 e_34 | omega)))
    exact mp_sub [0, 1, 2, 3] rfl [0, 1, 2, 3] rfl rfl (lp_19 _ 0 x0 (by decide) (by decide) (by (first | exact c_5 | omega)) (by (first | exact mp_o419 u_y5 c_6 | omega)) rfl (by first | fail | decide) (by first | fail | decide) (Int.self_le_toNat _))
set_option maxHeartbeats 4000000 in
set_option maxRecDepth 100000 in
theorem bX9_upon_83 (E : mp_E) (a0 a1 a2 a3 a4 a5 a6 a7 a8 a9 a10 a11 a12 a13 a14 a15 a16 a17 a18 a19 a20 a21 a22 a23 a24 a25 a26 a27 a28 : Nat) (f0 : Nat → Int32) (y0 : Int32) (y1 : Int32) (y2 : Int32) (y3 : Int32) (y4 : Int32) (y5 : Int32) (y6 : Int32) (x0 : Int32) (p0 : mp_all f0 10 (-1) 9) (l_y0 : 0 ≤ y0.toInt) (u_y0 : y0.toInt ≤ 99) (l_y2 : 0 ≤ y2.toInt) (u_y2 : y2.toInt ≤ 6) (l_y3 : 0 ≤ y3.toInt) (u_y3 : y3.toInt ≤ 99) (l_y4 : 0 ≤ y4.toInt) (u_y4 : y4.toInt ≤ 6) (l_y5 : 0 ≤ y5.toInt) (u_y5 : y5.toInt ≤ 10) (l_y6 : 0 ≤ y6.toInt) (u_y6 : y6.toInt ≤ 60) : mp_Ct E yX9_upon cX9_upon 5 (some FieldType.int) 1 0 0 21 [.ref a0, .int x0] [(mp_ob9 a0 a4 a1 a5 a6 a7 a8 a9 a10 a11), (mp_ob0 a1 a2 y0 a12 a13 a14 a15 a16 a17), (mp_ob7 a2 y1 y2 y3 y4 y5 y6 a18 a19 a20 a21 a22 a23 a24 a25 a26 a27 a3 a28), (mp_arI E a3 0 10 f0)] (fun v w' => ∃ r1 : Int32, v = some (.int r1) ∧ (((x0.toInt < 0 ∨ y5.toInt ≤ x0.toInt) ∧ r1.toInt = -2) ∨ ((0 ≤ x0.toInt ∧ x0.toInt < y5.toInt) ∧ r1.toInt = (mp_up f0 x0.toInt.toNat (y5.toInt - x0.toInt - 1).toNat &&& ((1 <<< (x0 &&& 31)) ^^^ (-1))).toInt)) ∧ w' = [(mp_ob9 a0 a4 a1 a5 a6 a7 a8 a9 a10 a11), (mp_ob0 a1 a2 y0 a12 a13 a14 a15 a16 a17), (mp_ob7 a2 y1 y2 y3 y4 y5 y6 a18 a19 a20 a21 a22 a23 a24 a25 a26 a27 a3 a28), (mp_arI E a3 0 10 f0)]) := by
  refine mp_met false (by decide) (by decide) (Nat.le_of_ble_eq_true rfl) (fun X hF hQ => ?_)
  have hF : mp_F E X (RX9, cX9_upon, 5, (1, 0, 0, 21), (some FieldType.int), false) := hF
  let w1_ : va_W := [(mp_ob9 a0 a4 a1 a5 a6 a7 a8 a9 a10 a11), (mp_ob0 a1 a2 y0 a12 a13 a14 a15 a16 a17), (mp_ob7 a2 y1 y2 y3 y4 y5 y6 a18 a19 a20 a21 a22 a23 a24 a25 a26 a27 a3 a28), (mp_arI E a3 0 10 f0)]
  show mp_W E X 5 0 [(0, .ref a0), (1, .int x0)] [] w1_ 0 0
  refine mp_run mp_k_cX9_upon_ok hF mp_tabX9_ok [mp_i (.aload_n 0), mp_h (.getfield 19) [37, 0], mp_h (.getfield 83) [20, 1], mp_i (.astore_n 2), mp_i (.aload_n 2), mp_i (.iload_n 1)] (by decide +kernel) ?_
  refine And.intro rfl (And.intro rfl ?_)
  refine And.intro rfl (And.intro rfl ?_)
  show mp_W E X 5 10 [(2, .ref a2), (0, .ref a0), (1, .int x0)] [.int x0, .ref a2] w1_ 0 0
  refine mp_callV hF (As := [.int x0]) (rest := []) (wr := [(mp_ob9 a0 a4 a1 a5 a6 a7 a8 a9 a10 a11), (mp_ob0 a1 a2 y0 a12 a13 a14 a15 a16 a17), (mp_arI E a3 0 10 f0)]) (bX7_isPromise_53 E a2 a18 a19 a20 a21 a22 a23 a24 a25 a26 a27 a3 a28 y1 y2 y3 y4 y5 y6 x0 l_y2 u_y2 l_y3 u_y3 l_y4 u_y4 l_y5 u_y5 l_y6 u_y6) mp_lkX9_120 2 rfl [2] [0, 1, 3] rfl rfl rfl rfl rfl ⟨(Nat.le_of_ble_eq_true rfl), (Nat.le_of_ble_eq_true rfl), (Nat.le_of_ble_eq_true rfl), (Nat.le_of_ble_eq_true rfl)⟩ (Nat.le_of_ble_eq_true rfl) (by first | exact mp_fd_ok mp_k_cX9_upon_ok (by decide +kernel) | decide +kernel) (fun v_1 w_2 h_3 => ?_)
  rcases h_3 with ⟨rfl, x_4, rfl⟩ | ⟨rfl, c_5, c_6, x_7, rfl⟩
  · skip
    let w2_ : va_W := [(mp_ob9 a0 a4 a1 a5 a6 a7 a8 a9 a10 a11), (mp_ob0 a1 a2 y0 a12 a13 a14 a15 a16 a17), (mp_arI E a3 0 10 f0), (mp_ob7 a2 y1 y2 y3 y4 y5 y6 a18 a19 a20 a21 a22 a23 a24 a25 a26 a27 a3 a28)]
    show mp_W E X 5 13 [(2, .ref a2), (0, .ref a0), (1, .int x0)] [.int 0] w2_ 0 0
    refine mp_run mp_k_cX9_upon_ok hF mp_tabX9_ok [mp_h (.ifCond .ne 6) [19]] (by decide +kernel) ?_
    refine And.intro (fun c_8 => absurd c_8 (by decide)) (fun _ => ?_)
    show mp_W E X 5 16 [(2, .ref a2), (0, .ref a0), (1, .int x0)] [] w2_ 0 0
    refine mp_run mp_k_cX9_upon_ok hF mp_tabX9_ok [mp_c (.bipush (-2)) (-2)] (by decide +kernel) ?_
    show mp_W E X 5 18 [(2, .ref a2), (0, .ref a0), (1, .int x0)] [.int (-2)] w2_ 0 0
    exact mp_iret hF hQ rfl rfl (Nat.le_of_ble_eq_true rfl) (Nat.le_of_ble_eq_true rfl) [0, 1, 3, 2] (w' := w1_) rfl rfl ⟨(-2), rfl, (by first | fail | decide | (have h8 : (0 : Int64).toInt = 0 := rfl; have h9 : (-1 : Int32).toInt = -1 := rfl; have h10 : (-2 : Int32).toInt = -2 := rfl; have h11 : (0 : Int32).toInt = 0 := rfl; have h12 : (1 : Int32).toInt = 1 := rfl; have h13 : (-5 : Int32).toInt = -5 := rfl; have h14 : (-3 : Int32).toInt = -3 := rfl; (first | exact mp_o448 x_4 h10 | omega))), rfl⟩ (by first | exact mp_fd_ok mp_k_cX9_upon_ok (by decide +kernel) | decide +kernel)
  · skip
    have c_5 : 0 ≤ x0.toInt := c_5
    have c_6 : x0.toInt < y5.toInt := c_6
    let w3_ : va_W := [(mp_ob9 a0 a4 a1 a5 a6 a7 a8 a9 a10 a11), (mp_ob0 a1 a2 y0 a12 a13 a14 a15 a16 a17), (mp_arI E a3 0 10 f0), (mp_ob7 a2 y1 y2 y3 y4 y5 y6 a18 a19 a20 a21 a22 a23 a24 a25 a26 a27 a3 a28)]
    show mp_W E X 5 13 [(2, .ref a2), (0, .ref a0), (1, .int x0)] [.int 1] w3_ 0 0
    refine mp_run mp_k_cX9_upon_ok hF mp_tabX9_ok [mp_h (.ifCond .ne 6) [19]] (by decide +kernel) ?_
    refine And.intro (fun _ => ?_) (fun c_9 => absurd c_9 (by decide))
    show mp_W E X 5 19 [(2, .ref a2), (0, .ref a0), (1, .int x0)] [] w3_ 0 0
    refine mp_run mp_k_cX9_upon_ok hF mp_tabX9_ok [mp_c (.iconst 1) 1, mp_i (.iload_n 1), mp_i .ishl, mp_i (.istore_n 3), mp_i (.iload_n 1), mp_c (.iconst 1) 1, mp_i .iadd, mp_i (.istore 4)] (by decide +kernel) ?_
    intro z_10 h_11
    have e_13 : 1 ≤ z_10.toInt ∧ z_10.toInt ≤ 512 := mp_shl10 h_11 (by (first | exact c_5 | omega)) (by (first | exact mp_o419 u_y5 c_6 | omega))
    intro z_14 h_15
    have e_16 : z_14.toInt = x0.toInt + 1 := mp_add (a := x0.toInt) (b := 1) h_15 rfl (by decide) (by (first | exact mp_o2 c_5 | omega)) (by (first | exact mp_o454 u_y5 c_6 | omega))
    show mp_W E X 5 28 [(4, .int z_14), (3, .int z_10), (2, .ref a2), (0, .ref a0), (1, .int x0)] [] w3_ 0 0
    have lp_26 : ∀ (d_27 : Nat) (i_17 : Int32) (i_18 : Int32), 1 ≤ i_17.toInt → i_17.toInt ≤ 10 → 0 ≤ i_18.toInt → i_18.toInt ≤ 1023 → (i_18 = mp_up f0 x0.toInt.toNat (i_17.toInt - x0.toInt - 1).toNat) → (x0.toInt + 1 ≤ i_17.toInt) → (i_17.toInt ≤ y5.toInt) → y5.toInt - i_17.toInt ≤ (d_27 : Int) → mp_W E X 5 28 [(4, .int i_17), (3, .int i_18), (2, .ref a2), (0, .ref a0), (1, .int x0)] [] [(mp_ob9 a0 a4 a1 a5 a6 a7 a8 a9 a10 a11), (mp_ob0 a1 a2 y0 a12 a13 a14 a15 a16 a17), (mp_arI E a3 0 10 f0), (mp_ob7 a2 y1 y2 y3 y4 y5 y6 a18 a19 a20 a21 a22 a23 a24 a25 a26 a27 a3 a28)] 0 0 := by
      intro d_27
      induction d_27 using Nat.strongRecOn with
      | ind d_27 ih_28 =>
        intro i_17 i_18 l_19 u_20 l_21 u_22 x_23 x_24 x_25 hm_29
        refine mp_run mp_k_cX9_upon_ok hF mp_tabX9_ok [mp_i (.iload 4), mp_i (.aload_n 2), mp_h (.getfield 196) [4, 3], mp_h (.if_icmp .ge 41) [75]] (by decide +kernel) ?_
        refine And.intro rfl (And.intro rfl ?_)
        refine And.intro (fun c_30 => ?_) (fun c_30 => ?_)
        · have c_30 : y5.toInt ≤ i_17.toInt := c_30
          show mp_W E X 5 75 [(4, .int i_17), (3, .int i_18), (2, .ref a2), (0, .ref a0), (1, .int x0)] [] w3_ 0 0
          refine mp_run mp_k_cX9_upon_ok hF mp_tabX9_ok [mp_i (.iload_n 3), mp_c (.iconst 1) 1, mp_i (.iload_n 1), mp_i .ishl, mp_c (.iconst (-1)) (-1), mp_i .ixor, mp_i .iand] (by decide +kernel) ?_
          intro z_31 h_32
          have e_34 : 1 ≤ z_31.toInt ∧ z_31.toInt ≤ 512 := mp_shl10 h_32 (by (first | exact c_5 | omega)) (by (first | exact mp_o455 x_24 u_20 | omega))
          intro z_35 h_36
          intro z_38 h_39
          show mp_W E X 5 82 [(4, .int i_17), (3, .int i_18), (2, .ref a2), (0, .ref a0), (1, .int x0)] [.int z_38] w3_ 0 0
          exact mp_iret hF hQ rfl rfl (Nat.le_of_ble_eq_true rfl) (Nat.le_of_ble_eq_true rfl) [0, 1, 3, 2] (w' := w1_) rfl rfl ⟨z_38, rfl, (Or.inr ⟨by (first | exact x_7 | omega), congrArg Int32.toInt (by rw [h_39, h_36, h_32, x_23, show i_17.toInt = y5.toInt from by (first | exact mp_o334 x_25 c_30 | omega)])⟩), rfl⟩ (by first | exact mp_fd_ok mp_k_cX9_upon_ok (by decide +kernel) | decide +kernel)
        · have c_30 : i_17.toInt < y5.toInt := c_30
          show mp_W E X 5 37 [(4, .int i_17), (3, .int i_18), (2, .ref a2), (0, .ref a0), (1, .int x0)] [] w3_ 0 0
          refine mp_run mp_k_cX9_upon_ok hF mp_tabX9_ok [mp_i (.aload_n 2), mp_h (.getfield 138) [14, 3], mp_i (.iload 4), mp_h .iaload [2], mp_c (.iconst (-1)) (-1), mp_h (.if_icmp .eq 24) [69]] (by decide +kernel) ?_
          refine And.intro rfl (And.intro rfl ?_)
          refine And.intro rfl (And.intro rfl (And.intro (vp_in_iff.mpr (by (first | exact mp_o456 l_19 u_y5 c_30 | omega))) ?_))
          intro z_41 h_42
          have e_43 : (-1) ≤ z_41.toInt ∧ z_41.toInt ≤ 9 := mp_all_ld h_42 p0 (by (first | exact mp_o254 l_19 | omega)) (by (first | exact mp_o382 u_y5 c_30 | omega))
          have e_44 : z_41.toInt = (f0 i_17.toInt.toNat).toInt := congrArg Int32.toInt h_42
          refine And.intro (fun c_45 => ?_) (fun c_45 => ?_)
          · have c_45 : z_41.toInt = (-1) := (congrArg Int32.toInt c_45)
            show mp_W E X 5 69 [(4, .int i_17), (3, .int i_18), (2, .ref a2), (0, .ref a0), (1, .int x0)] [] w3_ 0 0
            refine mp_run mp_k_cX9_upon_ok hF mp_tabX9_ok [mp_c (.iinc 4 1) 1, mp_h (.goto (-44)) [28]] (by decide +kernel) ?_
            intro z_46 h_47
            have e_48 : z_46.toInt = i_17.toInt + 1 := mp_add (a := i_17.toInt) (b := 1) h_47 rfl (by decide) (by (first | exact mp_o457 l_19 | omega)) (by (first | exact mp_o420 u_20 | omega))
            show mp_W E X 5 28 [(4, .int z_46), (3, .int i_18), (2, .ref a2), (0, .ref a0), (1, .int x0)] [] w3_ 0 0
            exact mp_sub [0, 1, 2, 3, 4] rfl [0, 1, 2, 3] rfl rfl (ih_28 (d_27 - 1) (by (first | exact mp_o72 hm_29 c_30 | omega)) z_46 i_18 (by (first | exact mp_o458 l_19 e_48 | omega)) (by (first | exact mp_o421 u_y5 c_30 e_48 | omega)) l_21 u_22 (mp_up_f (k := i_17) x_23 (fun q => by have q1 := q.1; have i1 : (-1 : Int32).toInt = -1 := rfl; (first | exact mp_o459 c_45 q1 e_44 | omega)) (by (first | exact mp_o460 x_24 c_5 e_48 | omega))) (by (first | exact mp_o461 x_24 e_48 | omega)) (by (first | exact mp_o97 c_30 e_48 | omega)) (by (first | exact mp_o77 hm_29 e_48 | omega)))
          · have c_45 : z_41.toInt ≠ (-1) := c_45
            show mp_W E X 5 48 [(4, .int i_17), (3, .int i_18), (2, .ref a2), (0, .ref a0), (1, .int x0)] [] w3_ 0 0
            refine mp_run mp_k_cX9_upon_ok hF mp_tabX9_ok [mp_i (.iload_n 3), mp_i (.aload_n 2), mp_h (.getfield 138) [14, 3], mp_i (.iload 4), mp_h .iaload [2], mp_i .ishr, mp_c (.iconst 1) 1, mp_i .iand, mp_h (.ifCond .eq 10) [69]] (by decide +kernel) ?_
            refine And.intro rfl (And.intro rfl ?_)
            refine And.intro rfl (And.intro rfl (And.intro (vp_in_iff.mpr (by (first | exact mp_o456 l_19 u_y5 c_30 | omega))) ?_))
            intro z_49 h_50
            have k_51 : z_41 = z_49 := h_42.trans h_50.symm
            subst k_51
            intro z_52 h_53
            intro z_55 h_56
            refine And.intro (fun c_58 => ?_) (fun c_58 => ?_)
            · have c_58 : z_55.toInt = 0 := (congrArg Int32.toInt c_58)
              show mp_W E X 5 69 [(4, .int i_17), (3, .int i_18), (2, .ref a2), (0, .ref a0), (1, .int x0)] [] w3_ 0 0
              refine mp_run mp_k_cX9_upon_ok hF mp_tabX9_ok [mp_c (.iinc 4 1) 1, mp_h (.goto (-44)) [28]] (by decide +kernel) ?_
              intro z_59 h_60
              have e_61 : z_59.toInt = i_17.toInt + 1 := mp_add (a := i_17.toInt) (b := 1) h_60 rfl (by decide) (by (first | exact mp_o457 l_19 | omega)) (by (first | exact mp_o420 u_20 | omega))
              show mp_W E X 5 28 [(4, .int z_59), (3, .int i_18), (2, .ref a2), (0, .ref a0), (1, .int x0)] [] w3_ 0 0
              exact mp_sub [0, 1, 2, 3, 4] rfl [0, 1, 2, 3] rfl rfl (ih_28 (d_27 - 1) (by (first | exact mp_o72 hm_29 c_30 | omega)) z_59 i_18 (by (first | exact mp_o458 l_19 e_61 | omega)) (by (first | exact mp_o421 u_y5 c_30 e_61 | omega)) l_21 u_22 (mp_up_f (k := i_17) x_23 (fun q => q.2 (by rw [← (show z_41 = f0 i_17.toInt.toNat from h_42), ← h_53, ← h_56]; exact Int32.toInt_inj.mp (by have i0 : (0 : Int32).toInt = 0 := rfl; (first | exact mp_o462 c_58 i0 | omega)))) (by (first | exact mp_o460 x_24 c_5 e_61 | omega))) (by (first | exact mp_o461 x_24 e_61 | omega)) (by (first | exact mp_o97 c_30 e_61 | omega)) (by (first | exact mp_o77 hm_29 e_61 | omega)))
            · have c_58 : z_55.toInt ≠ 0 := c_58
              show mp_W E X 5 62 [(4, .int i_17), (3, .int i_18), (2, .ref a2), (0, .ref a0), (1, .int x0)] [] w3_ 0 0
              refine mp_run mp_k_cX9_upon_ok hF mp_tabX9_ok [mp_i (.iload_n 3), mp_c (.iconst 1) 1, mp_i (.iload 4), mp_i .ishl, mp_i .ior, mp_i (.istore_n 3), mp_c (.iinc 4 1) 1, mp_h (.goto (-44)) [28]] (by decide +kernel) ?_
              intro z_62 h_63
              have e_65 : 1 ≤ z_62.toInt ∧ z_62.toInt ≤ 512 := mp_shl10 h_63 (by (first | exact mp_o254 l_19 | omega)) (by (first | exact mp_o419 u_y5 c_30 | omega))
              intro z_66 h_67
              have e_69 : 0 ≤ z_66.toInt ∧ z_66.toInt ≤ 1023 := mp_or10 h_67 ⟨by (first | exact l_21 | omega), by (first | exact u_22 | omega)⟩ ⟨by (first | exact mp_o463 e_65 | omega), by (first | exact mp_o464 e_65 | omega)⟩
              intro z_70 h_71
              have e_72 : z_70.toInt = i_17.toInt + 1 := mp_add (a := i_17.toInt) (b := 1) h_71 rfl (by decide) (by (first | exact mp_o457 l_19 | omega)) (by (first | exact mp_o420 u_20 | omega))
              show mp_W E X 5 28 [(4, .int z_70), (3, .int z_66), (2, .ref a2), (0, .ref a0), (1, .int x0)] [] w3_ 0 0
              exact mp_sub [0, 1, 2, 3, 4] rfl [0, 1, 2, 3] rfl rfl (ih_28 (d_27 - 1) (by (first | exact mp_o72 hm_29 c_30 | omega)) z_70 z_66 (by (first | exact mp_o458 l_19 e_72 | omega)) (by (first | exact mp_o421 u_y5 c_30 e_72 | omega)) (by (first | exact mp_o465 e_69 | omega)) (by (first | exact mp_o466 e_69 | omega)) (mp_up_t (k := i_17) x_23 h_67 h_63 (by have i1 : (-1 : Int32).toInt = -1 := rfl; (first | exact mp_o214 e_44 c_45 | omega)) (by rw [← (show z_41 = f0 i_17.toInt.toNat from h_42)]; exact h_53) h_56 (fun h9 => absurd (congrArg Int32.toInt h9) (by have i0 : (0 : Int32).toInt = 0 := rfl; (first | exact mp_o467 c_58 i0 | omega))) (by (first | exact mp_o460 x_24 c_5 e_72 | omega))) (by (first | exact mp_o461 x_24 e_72 | omega)) (by (first | exact mp_o97 c_30 e_72 | omega)) (by (first | exact mp_o77 hm_29 e_72 | omega)))
    exact mp_sub [0, 1, 2, 3, 4] rfl [0, 1, 2, 3] rfl rfl (lp_26 _ z_14 z_10 (by (first | exact mp_o182 c_5 e_16 | omega)) (by (first | exact mp_o421 u_y5 c_6 e_16 | omega)) (by (first | exact mp_o463 e_13 | omega)) (by (first | exact mp_o464 e_13 | omega)) (by rw [show (z_14.toInt - x0.toInt - 1).toNat = 0 by (first | exact mp_o468 e_16 | omega)]; exact mp_up_0 h_11 (by (first | exact c_5 | omega))) (by (first | exact mp_o469 e_16 | omega)) (by (first | exact mp_o97 c_6 e_16 | omega)) (Int.self_le_toNat _))
set_option maxHeartbeats 4000000 in
set_option maxRecDepth 100000 in
theorem bX9_now_84 (E : mp_E) (a0 a1 a2 a3 a4 a5 a6 a7 a8 a9 a10 a11 a12 a13 a14 a15 a16 a17 a18 a19 a20 a21 a22 a23 a24 a25 a26 a27 a28 : Nat) (y0 : Int32) (y1 : Int32) (y2 : Int32) (y3 : Int32) (y4 : Int32) (y5 : Int32) (y6 : Int32) (l_y0 : 0 ≤ y0.toInt) (u_y0 : y0.toInt ≤ 99) (l_y2 : 0 ≤ y2.toInt) (u_y2 : y2.toInt ≤ 6) (l_y3 : 0 ≤ y3.toInt) (u_y3 : y3.toInt ≤ 99) (l_y4 : 0 ≤ y4.toInt) (u_y4 : y4.toInt ≤ 6) (l_y5 : 0 ≤ y5.toInt) (u_y5 : y5.toInt ≤ 10) (l_y6 : 0 ≤ y6.toInt) (u_y6 : y6.toInt ≤ 60) : mp_Ct E yX9_now cX9_now 1 (some FieldType.int) 0 0 0 0 [.ref a0] [(mp_ob9 a0 a3 a1 a4 a5 a6 a7 a8 a9 a10), (mp_ob0 a1 a2 y0 a11 a12 a13 a14 a15 a16), (mp_ob7 a2 y1 y2 y3 y4 y5 y6 a17 a18 a19 a20 a21 a22 a23 a24 a25 a26 a27 a28)] (fun v w' => ∃ r1 : Int32, v = some (.int r1) ∧ (-2) ≤ r1.toInt ∧ r1.toInt ≤ 99 ∧ ((y1.toInt = 0 ∧ r1.toInt = -2) ∨ (y1.toInt ≠ 0 ∧ r1.toInt = y0.toInt)) ∧ w' = [(mp_ob9 a0 a3 a1 a4 a5 a6 a7 a8 a9 a10), (mp_ob0 a1 a2 y0 a11 a12 a13 a14 a15 a16), (mp_ob7 a2 y1 y2 y3 y4 y5 y6 a17 a18 a19 a20 a21 a22 a23 a24 a25 a26 a27 a28)]) := by
  refine mp_met false (by decide) (by decide) (Nat.le_of_ble_eq_true rfl) (fun X hF hQ => ?_)
  have hF : mp_F E X (RX9, cX9_now, 1, (0, 0, 0, 0), (some FieldType.int), false) := hF
  let w1_ : va_W := [(mp_ob9 a0 a3 a1 a4 a5 a6 a7 a8 a9 a10), (mp_ob0 a1 a2 y0 a11 a12 a13 a14 a15 a16), (mp_ob7 a2 y1 y2 y3 y4 y5 y6 a17 a18 a19 a20 a21 a22 a23 a24 a25 a26 a27 a28)]
  show mp_W E X 1 0 [(0, .ref a0)] [] w1_ 0 0
  refine mp_run mp_k_cX9_now_ok hF mp_tabX9_ok [mp_i (.aload_n 0), mp_h (.getfield 19) [37, 0], mp_h (.getfield 83) [20, 1], mp_h (.getfield 97) [0, 2], mp_h (.ifCond .ne 8) [18]] (by decide +kernel) ?_
  refine And.intro rfl (And.intro rfl ?_)
  refine And.intro rfl (And.intro rfl ?_)
  refine And.intro rfl (And.intro rfl ?_)
  refine And.intro (fun c_1 => ?_) (fun c_1 => ?_)
  · have c_1 : y1.toInt ≠ 0 := c_1
    show mp_W E X 1 18 [(0, .ref a0)] [] w1_ 0 0
    refine mp_run mp_k_cX9_now_ok hF mp_tabX9_ok [mp_i (.aload_n 0), mp_h (.getfield 19) [37, 0], mp_h (.getfield 166) [21, 1]] (by decide +kernel) ?_
    refine And.intro rfl (And.intro rfl ?_)
    refine And.intro rfl (And.intro rfl ?_)
    show mp_W E X 1 25 [(0, .ref a0)] [.int y0] w1_ 0 0
    exact mp_iret hF hQ rfl rfl (Nat.le_of_ble_eq_true rfl) (Nat.le_of_ble_eq_true rfl) [0, 1, 2] (w' := w1_) rfl rfl ⟨y0, rfl, (by (first | exact mp_o399 l_y0 | omega)), u_y0, (by first | (first | exact mp_o470 c_1 | omega) | decide | (have h8 : (0 : Int64).toInt = 0 := rfl; have h9 : (-1 : Int32).toInt = -1 := rfl; have h10 : (-2 : Int32).toInt = -2 := rfl; have h11 : (0 : Int32).toInt = 0 := rfl; have h12 : (1 : Int32).toInt = 1 := rfl; have h13 : (-5 : Int32).toInt = -5 := rfl; have h14 : (-3 : Int32).toInt = -3 := rfl; omega)), rfl⟩ (by first | exact mp_fd_ok mp_k_cX9_now_ok (by decide +kernel) | decide +kernel)
  · have c_1 : y1.toInt = 0 := (congrArg Int32.toInt c_1)
    show mp_W E X 1 13 [(0, .ref a0)] [] w1_ 0 0
    refine mp_run mp_k_cX9_now_ok hF mp_tabX9_ok [mp_c (.bipush (-2)) (-2), mp_h (.goto 10) [25]] (by decide +kernel) ?_
    show mp_W E X 1 25 [(0, .ref a0)] [.int (-2)] w1_ 0 0
    exact mp_iret hF hQ rfl rfl (Nat.le_of_ble_eq_true rfl) (Nat.le_of_ble_eq_true rfl) [0, 1, 2] (w' := w1_) rfl rfl ⟨(-2), rfl, (by decide), (by decide), (by first | fail | decide | (have h8 : (0 : Int64).toInt = 0 := rfl; have h9 : (-1 : Int32).toInt = -1 := rfl; have h10 : (-2 : Int32).toInt = -2 := rfl; have h11 : (0 : Int32).toInt = 0 := rfl; have h12 : (1 : Int32).toInt = 1 := rfl; have h13 : (-5 : Int32).toInt = -5 := rfl; have h14 : (-3 : Int32).toInt = -3 := rfl; (first | exact mp_o471 c_1 h10 | omega))), rfl⟩ (by first | exact mp_fd_ok mp_k_cX9_now_ok (by decide +kernel) | decide +kernel)
set_option maxHeartbeats 4000000 in
set_option maxRecDepth 100000 in
theorem bX9_where_85 (E : mp_E) (a0 a1 a2 a3 a4 a5 a6 a7 a8 a9 a10 a11 a12 a13 a14 a15 a16 a17 a18 a19 a20 a21 a22 a23 a24 a25 a26 a27 a28 : Nat) (f0 : Nat → Int32) (f1 : Nat → Int32) (f2 : Nat → Int32) (f3 : Nat → Int32) (f4 : Nat → Int32) (f5 : Nat → Int32) (y0 : Int32) (y1 : Int32) (y2 : Int32) (y3 : Int32) (y4 : Int32) (y5 : Int32) (y6 : Int32) (x0 : Int32) (p0 : mp_all f0 36 0 20) (p1 : mp_all f1 6 0 5) (p2 : mp_acts f2) (p3 : mp_all f3 6 0 5) (l_y0 : 0 ≤ y0.toInt) (u_y0 : y0.toInt ≤ 99) (l_y2 : 0 ≤ y2.toInt) (u_y2 : y2.toInt ≤ 6) (l_y3 : 0 ≤ y3.toInt) (u_y3 : y3.toInt ≤ 99) (l_y4 : 0 ≤ y4.toInt) (u_y4 : y4.toInt ≤ 6) (l_y5 : 0 ≤ y5.toInt) (u_y5 : y5.toInt ≤ 10) (l_y6 : 0 ≤ y6.toInt) (u_y6 : y6.toInt ≤ 60) (q0 : y0.toInt = y3.toInt + mp_k200 f2 y6.toInt) (q1 : mp_CS f3 f4 f5 f0 f1 f2 y3.toInt y4.toInt (y6.toInt : Int).toNat) : mp_Ct E yX9_where cX9_where 2 (some FieldType.int) 1 0 0 21 [.ref a0, .int x0] [(mp_ob9 a0 a9 a1 a10 a11 a12 a13 a14 a15 a16), (mp_ob0 a1 a2 y0 a6 a7 a8 a17 a18 a19), (mp_ob7 a2 y1 y2 y3 y4 y5 y6 a3 a20 a4 a21 a22 a23 a24 a25 a26 a27 a28 a5), (mp_arI E a3 0 36 f0), (mp_arI E a4 0 6 f1), (mp_arI E a5 0 60 f2), (mp_arI E a6 0 6 f3), (mp_arI E a7 0 6 f4), (mp_arI E a8 0 6 f5)] (fun v w' => ∃ r1 : Int32, v = some (.int r1) ∧ (-2) ≤ r1.toInt ∧ r1.toInt ≤ 5 ∧ (((x0.toInt < 0 ∨ y4.toInt ≤ x0.toInt) ∧ r1.toInt = -2) ∨ ((0 ≤ x0.toInt ∧ x0.toInt < y4.toInt) ∧ r1.toInt = (mp_cs f0 f1 f2 y3.toInt x0.toInt.toNat (y6.toInt).toNat).1.toInt)) ∧ w' = [(mp_ob9 a0 a9 a1 a10 a11 a12 a13 a14 a15 a16), (mp_ob0 a1 a2 y0 a6 a7 a8 a17 a18 a19), (mp_ob7 a2 y1 y2 y3 y4 y5 y6 a3 a20 a4 a21 a22 a23 a24 a25 a26 a27 a28 a5), (mp_arI E a3 0 36 f0), (mp_arI E a4 0 6 f1), (mp_arI E a5 0 60 f2), (mp_arI E a6 0 6 f3), (mp_arI E a7 0 6 f4), (mp_arI E a8 0 6 f5)]) := by
  refine mp_met false (by decide) (by decide) (Nat.le_of_ble_eq_true rfl) (fun X hF hQ => ?_)
  have hF : mp_F E X (RX9, cX9_where, 2, (1, 0, 0, 21), (some FieldType.int), false) := hF
  let w1_ : va_W := [(mp_ob9 a0 a9 a1 a10 a11 a12 a13 a14 a15 a16), (mp_ob0 a1 a2 y0 a6 a7 a8 a17 a18 a19), (mp_ob7 a2 y1 y2 y3 y4 y5 y6 a3 a20 a4 a21 a22 a23 a24 a25 a26 a27 a28 a5), (mp_arI E a3 0 36 f0), (mp_arI E a4 0 6 f1), (mp_arI E a5 0 60 f2), (mp_arI E a6 0 6 f3), (mp_arI E a7 0 6 f4), (mp_arI E a8 0 6 f5)]
  show mp_W E X 2 0 [(0, .ref a0), (1, .int x0)] [] w1_ 0 0
  refine mp_run mp_k_cX9_where_ok hF mp_tabX9_ok [mp_i (.aload_n 0), mp_h (.getfield 19) [37, 0], mp_h (.getfield 83) [20, 1], mp_i (.iload_n 1)] (by decide +kernel) ?_
  refine And.intro rfl (And.intro rfl ?_)
  refine And.intro rfl (And.intro rfl ?_)
  show mp_W E X 2 8 [(0, .ref a0), (1, .int x0)] [.int x0, .ref a2] w1_ 0 0
  refine mp_callV hF (As := [.int x0]) (rest := []) (wr := [(mp_ob9 a0 a9 a1 a10 a11 a12 a13 a14 a15 a16), (mp_ob0 a1 a2 y0 a6 a7 a8 a17 a18 a19), (mp_arI E a3 0 36 f0), (mp_arI E a4 0 6 f1), (mp_arI E a5 0 60 f2), (mp_arI E a6 0 6 f3), (mp_arI E a7 0 6 f4), (mp_arI E a8 0 6 f5)]) (bX7_isPerson_51 E a2 a3 a20 a4 a21 a22 a23 a24 a25 a26 a27 a28 a5 y1 y2 y3 y4 y5 y6 x0 l_y2 u_y2 l_y3 u_y3 l_y4 u_y4 l_y5 u_y5 l_y6 u_y6) mp_lkX9_106 2 rfl [2] [0, 1, 3, 4, 5, 6, 7, 8] rfl rfl rfl rfl rfl ⟨(Nat.le_of_ble_eq_true rfl), (Nat.le_of_ble_eq_true rfl), (Nat.le_of_ble_eq_true rfl), (Nat.le_of_ble_eq_true rfl)⟩ (Nat.le_of_ble_eq_true rfl) (by first | exact mp_fd_ok mp_k_cX9_where_ok (by decide +kernel) | decide +kernel) (fun v_1 w_2 h_3 => ?_)
  rcases h_3 with ⟨rfl, x_4, rfl⟩ | ⟨rfl, c_5, c_6, x_7, rfl⟩
  · skip
    let w2_ : va_W := [(mp_ob9 a0 a9 a1 a10 a11 a12 a13 a14 a15 a16), (mp_ob0 a1 a2 y0 a6 a7 a8 a17 a18 a19), (mp_arI E a3 0 36 f0), (mp_arI E a4 0 6 f1), (mp_arI E a5 0 60 f2), (mp_arI E a6 0 6 f3), (mp_arI E a7 0 6 f4), (mp_arI E a8 0 6 f5), (mp_ob7 a2 y1 y2 y3 y4 y5 y6 a3 a20 a4 a21 a22 a23 a24 a25 a26 a27 a28 a5)]
    show mp_W E X 2 11 [(0, .ref a0), (1, .int x0)] [.int 0] w2_ 0 0
    refine mp_run mp_k_cX9_where_ok hF mp_tabX9_ok [mp_h (.ifCond .eq 15) [26]] (by decide +kernel) ?_
    refine And.intro (fun _ => ?_) (fun c_8 => absurd c_8 (by decide))
    show mp_W E X 2 26 [(0, .ref a0), (1, .int x0)] [] w2_ 0 0
    refine mp_run mp_k_cX9_where_ok hF mp_tabX9_ok [mp_c (.bipush (-2)) (-2)] (by decide +kernel) ?_
    show mp_W E X 2 28 [(0, .ref a0), (1, .int x0)] [.int (-2)] w2_ 0 0
    exact mp_iret hF hQ rfl rfl (Nat.le_of_ble_eq_true rfl) (Nat.le_of_ble_eq_true rfl) [0, 1, 8, 2, 3, 4, 5, 6, 7] (w' := w1_) rfl rfl ⟨(-2), rfl, (by decide), (by decide), (by first | fail | decide | (have h8 : (0 : Int64).toInt = 0 := rfl; have h9 : (-1 : Int32).toInt = -1 := rfl; have h10 : (-2 : Int32).toInt = -2 := rfl; have h11 : (0 : Int32).toInt = 0 := rfl; have h12 : (1 : Int32).toInt = 1 := rfl; have h13 : (-5 : Int32).toInt = -5 := rfl; have h14 : (-3 : Int32).toInt = -3 := rfl; (first | exact mp_o448 x_4 h10 | omega))), rfl⟩ (by first | exact mp_fd_ok mp_k_cX9_where_ok (by decide +kernel) | decide +kernel)
  · skip
    have c_5 : 0 ≤ x0.toInt := c_5
    have c_6 : x0.toInt < y4.toInt := c_6
    let w3_ : va_W := [(mp_ob9 a0 a9 a1 a10 a11 a12 a13 a14 a15 a16), (mp_ob0 a1 a2 y0 a6 a7 a8 a17 a18 a19), (mp_arI E a3 0 36 f0), (mp_arI E a4 0 6 f1), (mp_arI E a5 0 60 f2), (mp_arI E a6 0 6 f3), (mp_arI E a7 0 6 f4), (mp_arI E a8 0 6 f5), (mp_ob7 a2 y1 y2 y3 y4 y5 y6 a3 a20 a4 a21 a22 a23 a24 a25 a26 a27 a28 a5)]
    show mp_W E X 2 11 [(0, .ref a0), (1, .int x0)] [.int 1] w3_ 0 0
    refine mp_run mp_k_cX9_where_ok hF mp_tabX9_ok [mp_h (.ifCond .eq 15) [26]] (by decide +kernel) ?_
    refine And.intro (fun c_9 => absurd c_9 (by decide)) (fun _ => ?_)
    show mp_W E X 2 14 [(0, .ref a0), (1, .int x0)] [] w3_ 0 0
    refine mp_run mp_k_cX9_where_ok hF mp_tabX9_ok [mp_i (.aload_n 0), mp_h (.getfield 19) [37, 0], mp_h (.getfield 199) [22, 1], mp_i (.iload_n 1), mp_h .iaload [5], mp_h (.goto 5) [28]] (by decide +kernel) ?_
    refine And.intro rfl (And.intro rfl ?_)
    refine And.intro rfl (And.intro rfl ?_)
    refine And.intro rfl (And.intro rfl (And.intro (vp_in_iff.mpr (by (first | exact mp_o349 c_5 u_y4 c_6 | omega))) ?_))
    intro z_10 h_11
    have e_12 : 0 ≤ z_10.toInt ∧ z_10.toInt ≤ 5 := mp_all_ld h_11 p3 (by (first | exact c_5 | omega)) (by (first | exact mp_o350 u_y4 c_6 | omega))
    have e_13 : z_10.toInt = (f3 x0.toInt.toNat).toInt := congrArg Int32.toInt h_11
    show mp_W E X 2 28 [(0, .ref a0), (1, .int x0)] [.int z_10] w3_ 0 0
    exact mp_iret hF hQ rfl rfl (Nat.le_of_ble_eq_true rfl) (Nat.le_of_ble_eq_true rfl) [0, 1, 8, 2, 3, 4, 5, 6, 7] (w' := w1_) rfl rfl ⟨z_10, rfl, (by (first | exact mp_o472 e_12 | omega)), e_12.2, (Or.inr ⟨by (first | exact x_7 | omega), by have k8 := q1 x0.toInt.toNat (by (first | exact mp_o473 c_5 c_6 | omega)); rw [← k8.1]; (first | exact e_13 | omega)⟩), rfl⟩ (by first | exact mp_fd_ok mp_k_cX9_where_ok (by decide +kernel) | decide +kernel)
set_option maxHeartbeats 4000000 in
set_option maxRecDepth 100000 in
theorem bX9_rowed_86 (E : mp_E) (a0 a1 a2 a3 a4 a5 a6 a7 a8 a9 a10 a11 a12 a13 a14 a15 a16 a17 a18 a19 a20 a21 a22 a23 a24 a25 a26 a27 a28 : Nat) (f0 : Nat → Int32) (f1 : Nat → Int32) (f2 : Nat → Int32) (f3 : Nat → Int32) (f4 : Nat → Int32) (f5 : Nat → Int32) (y0 : Int32) (y1 : Int32) (y2 : Int32) (y3 : Int32) (y4 : Int32) (y5 : Int32) (y6 : Int32) (x0 : Int32) (p0 : mp_all f0 36 0 20) (p1 : mp_all f1 6 0 5) (p2 : mp_acts f2) (p3 : mp_all f3 6 0 5) (l_y0 : 0 ≤ y0.toInt) (u_y0 : y0.toInt ≤ 99) (l_y2 : 0 ≤ y2.toInt) (u_y2 : y2.toInt ≤ 6) (l_y3 : 0 ≤ y3.toInt) (u_y3 : y3.toInt ≤ 99) (l_y4 : 0 ≤ y4.toInt) (u_y4 : y4.toInt ≤ 6) (l_y5 : 0 ≤ y5.toInt) (u_y5 : y5.toInt ≤ 10) (l_y6 : 0 ≤ y6.toInt) (u_y6 : y6.toInt ≤ 60) (q0 : y0.toInt = y3.toInt + mp_k200 f2 y6.toInt) (q1 : mp_CS f3 f4 f5 f0 f1 f2 y3.toInt y4.toInt (y6.toInt : Int).toNat) : mp_Ct E yX9_rowed cX9_rowed 2 (some FieldType.int) 1 0 0 21 [.ref a0, .int x0] [(mp_ob9 a0 a9 a1 a10 a11 a12 a13 a14 a15 a16), (mp_ob0 a1 a2 y0 a6 a7 a8 a17 a18 a19), (mp_ob7 a2 y1 y2 y3 y4 y5 y6 a3 a20 a4 a21 a22 a23 a24 a25 a26 a27 a28 a5), (mp_arI E a3 0 36 f0), (mp_arI E a4 0 6 f1), (mp_arI E a5 0 60 f2), (mp_arI E a6 0 6 f3), (mp_arI E a7 0 6 f4), (mp_arI E a8 0 6 f5)] (fun v w' => ∃ r1 : Int32, v = some (.int r1) ∧ (((x0.toInt < 0 ∨ y4.toInt ≤ x0.toInt) ∧ r1.toInt = -2) ∨ ((0 ≤ x0.toInt ∧ x0.toInt < y4.toInt) ∧ r1.toInt = (mp_cs f0 f1 f2 y3.toInt x0.toInt.toNat (y6.toInt).toNat).2.1.toInt)) ∧ w' = [(mp_ob9 a0 a9 a1 a10 a11 a12 a13 a14 a15 a16), (mp_ob0 a1 a2 y0 a6 a7 a8 a17 a18 a19), (mp_ob7 a2 y1 y2 y3 y4 y5 y6 a3 a20 a4 a21 a22 a23 a24 a25 a26 a27 a28 a5), (mp_arI E a3 0 36 f0), (mp_arI E a4 0 6 f1), (mp_arI E a5 0 60 f2), (mp_arI E a6 0 6 f3), (mp_arI E a7 0 6 f4), (mp_arI E a8 0 6 f5)]) := by
  refine mp_met false (by decide) (by decide) (Nat.le_of_ble_eq_true rfl) (fun X hF hQ => ?_)
  have hF : mp_F E X (RX9, cX9_rowed, 2, (1, 0, 0, 21), (some FieldType.int), false) := hF
  let w1_ : va_W := [(mp_ob9 a0 a9 a1 a10 a11 a12 a13 a14 a15 a16), (mp_ob0 a1 a2 y0 a6 a7 a8 a17 a18 a19), (mp_ob7 a2 y1 y2 y3 y4 y5 y6 a3 a20 a4 a21 a22 a23 a24 a25 a26 a27 a28 a5), (mp_arI E a3 0 36 f0), (mp_arI E a4 0 6 f1), (mp_arI E a5 0 60 f2), (mp_arI E a6 0 6 f3), (mp_arI E a7 0 6 f4), (mp_arI E a8 0 6 f5)]
  show mp_W E X 2 0 [(0, .ref a0), (1, .int x0)] [] w1_ 0 0
  refine mp_run mp_k_cX9_rowed_ok hF mp_tabX9_ok [mp_i (.aload_n 0), mp_h (.getfield 19) [37, 0], mp_h (.getfield 83) [20, 1], mp_i (.iload_n 1)] (by decide +kernel) ?_
  refine And.intro rfl (And.intro rfl ?_)
  refine And.intro rfl (And.intro rfl ?_)
  show mp_W E X 2 8 [(0, .ref a0), (1, .int x0)] [.int x0, .ref a2] w1_ 0 0
  refine mp_callV hF (As := [.int x0]) (rest := []) (wr := [(mp_ob9 a0 a9 a1 a10 a11 a12 a13 a14 a15 a16), (mp_ob0 a1 a2 y0 a6 a7 a8 a17 a18 a19), (mp_arI E a3 0 36 f0), (mp_arI E a4 0 6 f1), (mp_arI E a5 0 60 f2), (mp_arI E a6 0 6 f3), (mp_arI E a7 0 6 f4), (mp_arI E a8 0 6 f5)]) (bX7_isPerson_51 E a2 a3 a20 a4 a21 a22 a23 a24 a25 a26 a27 a28 a5 y1 y2 y3 y4 y5 y6 x0 l_y2 u_y2 l_y3 u_y3 l_y4 u_y4 l_y5 u_y5 l_y6 u_y6) mp_lkX9_106 2 rfl [2] [0, 1, 3, 4, 5, 6, 7, 8] rfl rfl rfl rfl rfl ⟨(Nat.le_of_ble_eq_true rfl), (Nat.le_of_ble_eq_true rfl), (Nat.le_of_ble_eq_true rfl), (Nat.le_of_ble_eq_true rfl)⟩ (Nat.le_of_ble_eq_true rfl) (by first | exact mp_fd_ok mp_k_cX9_rowed_ok (by decide +kernel) | decide +kernel) (fun v_1 w_2 h_3 => ?_)
  rcases h_3 with ⟨rfl, x_4, rfl⟩ | ⟨rfl, c_5, c_6, x_7, rfl⟩
  · skip
    let w2_ : va_W := [(mp_ob9 a0 a9 a1 a10 a11 a12 a13 a14 a15 a16), (mp_ob0 a1 a2 y0 a6 a7 a8 a17 a18 a19), (mp_arI E a3 0 36 f0), (mp_arI E a4 0 6 f1), (mp_arI E a5 0 60 f2), (mp_arI E a6 0 6 f3), (mp_arI E a7 0 6 f4), (mp_arI E a8 0 6 f5), (mp_ob7 a2 y1 y2 y3 y4 y5 y6 a3 a20 a4 a21 a22 a23 a24 a25 a26 a27 a28 a5)]
    show mp_W E X 2 11 [(0, .ref a0), (1, .int x0)] [.int 0] w2_ 0 0
    refine mp_run mp_k_cX9_rowed_ok hF mp_tabX9_ok [mp_h (.ifCond .eq 15) [26]] (by decide +kernel) ?_
    refine And.intro (fun _ => ?_) (fun c_8 => absurd c_8 (by decide))
    show mp_W E X 2 26 [(0, .ref a0), (1, .int x0)] [] w2_ 0 0
    refine mp_run mp_k_cX9_rowed_ok hF mp_tabX9_ok [mp_c (.bipush (-2)) (-2)] (by decide +kernel) ?_
    show mp_W E X 2 28 [(0, .ref a0), (1, .int x0)] [.int (-2)] w2_ 0 0
    exact mp_iret hF hQ rfl rfl (Nat.le_of_ble_eq_true rfl) (Nat.le_of_ble_eq_true rfl) [0, 1, 8, 2, 3, 4, 5, 6, 7] (w' := w1_) rfl rfl ⟨(-2), rfl, (by first | fail | decide | (have h8 : (0 : Int64).toInt = 0 := rfl; have h9 : (-1 : Int32).toInt = -1 := rfl; have h10 : (-2 : Int32).toInt = -2 := rfl; have h11 : (0 : Int32).toInt = 0 := rfl; have h12 : (1 : Int32).toInt = 1 := rfl; have h13 : (-5 : Int32).toInt = -5 := rfl; have h14 : (-3 : Int32).toInt = -3 := rfl; (first | exact mp_o448 x_4 h10 | omega))), rfl⟩ (by first | exact mp_fd_ok mp_k_cX9_rowed_ok (by decide +kernel) | decide +kernel)
  · skip
    have c_5 : 0 ≤ x0.toInt := c_5
    have c_6 : x0.toInt < y4.toInt := c_6
    let w3_ : va_W := [(mp_ob9 a0 a9 a1 a10 a11 a12 a13 a14 a15 a16), (mp_ob0 a1 a2 y0 a6 a7 a8 a17 a18 a19), (mp_arI E a3 0 36 f0), (mp_arI E a4 0 6 f1), (mp_arI E a5 0 60 f2), (mp_arI E a6 0 6 f3), (mp_arI E a7 0 6 f4), (mp_arI E a8 0 6 f5), (mp_ob7 a2 y1 y2 y3 y4 y5 y6 a3 a20 a4 a21 a22 a23 a24 a25 a26 a27 a28 a5)]
    show mp_W E X 2 11 [(0, .ref a0), (1, .int x0)] [.int 1] w3_ 0 0
    refine mp_run mp_k_cX9_rowed_ok hF mp_tabX9_ok [mp_h (.ifCond .eq 15) [26]] (by decide +kernel) ?_
    refine And.intro (fun c_9 => absurd c_9 (by decide)) (fun _ => ?_)
    show mp_W E X 2 14 [(0, .ref a0), (1, .int x0)] [] w3_ 0 0
    refine mp_run mp_k_cX9_rowed_ok hF mp_tabX9_ok [mp_i (.aload_n 0), mp_h (.getfield 19) [37, 0], mp_h (.getfield 202) [23, 1], mp_i (.iload_n 1), mp_h .iaload [6], mp_h (.goto 5) [28]] (by decide +kernel) ?_
    refine And.intro rfl (And.intro rfl ?_)
    refine And.intro rfl (And.intro rfl ?_)
    refine And.intro rfl (And.intro rfl (And.intro (vp_in_iff.mpr (by (first | exact mp_o349 c_5 u_y4 c_6 | omega))) ?_))
    intro z_10 h_11
    have e_12 : z_10.toInt = (f4 x0.toInt.toNat).toInt := congrArg Int32.toInt h_11
    show mp_W E X 2 28 [(0, .ref a0), (1, .int x0)] [.int z_10] w3_ 0 0
    exact mp_iret hF hQ rfl rfl (Nat.le_of_ble_eq_true rfl) (Nat.le_of_ble_eq_true rfl) [0, 1, 8, 2, 3, 4, 5, 6, 7] (w' := w1_) rfl rfl ⟨z_10, rfl, (Or.inr ⟨by (first | exact x_7 | omega), by have k8 := q1 x0.toInt.toNat (by omega); rw [← k8.2.1]; (first | exact e_12 | omega)⟩), rfl⟩ (by first | exact mp_fd_ok mp_k_cX9_rowed_ok (by decide +kernel) | decide +kernel)
set_option maxHeartbeats 4000000 in
set_option maxRecDepth 100000 in
theorem bX7_lives_87 (E : mp_E) (a0 a1 a2 a3 a4 a5 a6 a7 a8 a9 a10 a11 a12 : Nat) (f0 : Nat → Int32) (y0 : Int32) (y1 : Int32) (y2 : Int32) (y3 : Int32) (y4 : Int32) (y5 : Int32) (x0 : Int32) (x1 : Int32) (l_x0 : 0 ≤ x0.toInt) (u_x0 : x0.toInt ≤ 5) (l_y1 : 0 ≤ y1.toInt) (u_y1 : y1.toInt ≤ 6) (l_y2 : 0 ≤ y2.toInt) (u_y2 : y2.toInt ≤ 99) (l_y3 : 0 ≤ y3.toInt) (u_y3 : y3.toInt ≤ 6) (l_y4 : 0 ≤ y4.toInt) (u_y4 : y4.toInt ≤ 10) (l_y5 : 0 ≤ y5.toInt) (u_y5 : y5.toInt ≤ 60) : mp_Ct E yX7_lives cX7_lives 3 (some FieldType.boolean) 0 0 0 0 [.ref a0, .int x0, .int x1] [(mp_ob7 a0 y0 y1 y2 y3 y4 y5 a2 a3 a4 a1 a5 a6 a7 a8 a9 a10 a11 a12), (mp_arI E a1 0 6 f0)] (fun v w' => (v = some (.int 1) ∧ (¬ mp_deadx (f0 x0.toInt.toNat).toInt x1.toInt) ∧ w' = [(mp_ob7 a0 y0 y1 y2 y3 y4 y5 a2 a3 a4 a1 a5 a6 a7 a8 a9 a10 a11 a12), (mp_arI E a1 0 6 f0)]) ∨ (v = some (.int 0) ∧ (mp_deadx (f0 x0.toInt.toNat).toInt x1.toInt) ∧ w' = [(mp_ob7 a0 y0 y1 y2 y3 y4 y5 a2 a3 a4 a1 a5 a6 a7 a8 a9 a10 a11 a12), (mp_arI E a1 0 6 f0)])) := by
  refine mp_met false (by decide) (by decide) (Nat.le_of_ble_eq_true rfl) (fun X hF hQ => ?_)
  have hF : mp_F E X (RX7, cX7_lives, 3, (0, 0, 0, 0), (some FieldType.boolean), false) := hF
  let w1_ : va_W := [(mp_ob7 a0 y0 y1 y2 y3 y4 y5 a2 a3 a4 a1 a5 a6 a7 a8 a9 a10 a11 a12), (mp_arI E a1 0 6 f0)]
  show mp_W E X 3 0 [(0, .ref a0), (1, .int x0), (2, .int x1)] [] w1_ 0 0
  refine mp_run mp_k_cX7_lives_ok hF mp_tabX7_ok [mp_i (.aload_n 0), mp_h (.getfield 22) [9, 0], mp_i (.iload_n 1), mp_h .iaload [1], mp_c (.iconst (-1)) (-1), mp_h (.if_icmp .eq 13) [20]] (by decide +kernel) ?_
  refine And.intro rfl (And.intro rfl ?_)
  refine And.intro rfl (And.intro rfl (And.intro (vp_in_iff.mpr (by (first | exact mp_o230 l_x0 u_x0 | omega))) ?_))
  intro z_1 h_2
  have e_3 : z_1.toInt = (f0 x0.toInt.toNat).toInt := congrArg Int32.toInt h_2
  refine And.intro (fun c_4 => ?_) (fun c_4 => ?_)
  · have c_4 : z_1.toInt = (-1) := (congrArg Int32.toInt c_4)
    show mp_W E X 3 20 [(0, .ref a0), (1, .int x0), (2, .int x1)] [] w1_ 0 0
    refine mp_run mp_k_cX7_lives_ok hF mp_tabX7_ok [mp_c (.iconst 1) 1, mp_h (.goto 4) [25]] (by decide +kernel) ?_
    show mp_W E X 3 25 [(0, .ref a0), (1, .int x0), (2, .int x1)] [.int 1] w1_ 0 0
    exact mp_iret hF hQ rfl (by decide) (Nat.le_of_ble_eq_true rfl) (Nat.le_of_ble_eq_true rfl) [0, 1] (w' := w1_) rfl rfl (Or.inl ⟨rfl, (by have h9 : (-1 : Int32).toInt = -1 := rfl; omega), rfl⟩) (by first | exact mp_fd_ok mp_k_cX7_lives_ok (by decide +kernel) | decide +kernel)
  · have c_4 : z_1.toInt ≠ (-1) := c_4
    show mp_W E X 3 10 [(0, .ref a0), (1, .int x0), (2, .int x1)] [] w1_ 0 0
    refine mp_run mp_k_cX7_lives_ok hF mp_tabX7_ok [mp_i (.iload_n 2), mp_i (.aload_n 0), mp_h (.getfield 22) [9, 0], mp_i (.iload_n 1), mp_h .iaload [1], mp_h (.if_icmp .ge 7) [24]] (by decide +kernel) ?_
    refine And.intro rfl (And.intro rfl ?_)
    refine And.intro rfl (And.intro rfl (And.intro (vp_in_iff.mpr (by (first | exact mp_o230 l_x0 u_x0 | omega))) ?_))
    intro z_5 h_6
    have k_7 : z_1 = z_5 := h_2.trans h_6.symm
    subst k_7
    refine And.intro (fun c_8 => ?_) (fun c_8 => ?_)
    · have c_8 : z_1.toInt ≤ x1.toInt := c_8
      show mp_W E X 3 24 [(0, .ref a0), (1, .int x0), (2, .int x1)] [] w1_ 0 0
      refine mp_run mp_k_cX7_lives_ok hF mp_tabX7_ok [mp_c (.iconst 0) 0] (by decide +kernel) ?_
      show mp_W E X 3 25 [(0, .ref a0), (1, .int x0), (2, .int x1)] [.int 0] w1_ 0 0
      exact mp_iret hF hQ rfl (by decide) (Nat.le_of_ble_eq_true rfl) (Nat.le_of_ble_eq_true rfl) [0, 1] (w' := w1_) rfl rfl (Or.inr ⟨rfl, (by have h9 : (-1 : Int32).toInt = -1 := rfl; omega), rfl⟩) (by first | exact mp_fd_ok mp_k_cX7_lives_ok (by decide +kernel) | decide +kernel)
    · have c_8 : x1.toInt < z_1.toInt := c_8
      show mp_W E X 3 20 [(0, .ref a0), (1, .int x0), (2, .int x1)] [] w1_ 0 0
      refine mp_run mp_k_cX7_lives_ok hF mp_tabX7_ok [mp_c (.iconst 1) 1, mp_h (.goto 4) [25]] (by decide +kernel) ?_
      show mp_W E X 3 25 [(0, .ref a0), (1, .int x0), (2, .int x1)] [.int 1] w1_ 0 0
      exact mp_iret hF hQ rfl (by decide) (Nat.le_of_ble_eq_true rfl) (Nat.le_of_ble_eq_true rfl) [0, 1] (w' := w1_) rfl rfl (Or.inl ⟨rfl, (by have h9 : (-1 : Int32).toInt = -1 := rfl; omega), rfl⟩) (by first | exact mp_fd_ok mp_k_cX7_lives_ok (by decide +kernel) | decide +kernel)
set_option maxHeartbeats 4000000 in
set_option maxRecDepth 100000 in
theorem bX7_oarsOfLeg_88 (E : mp_E) (a0 a1 a2 a3 a4 a5 a6 a7 a8 a9 a10 a11 a12 : Nat) (f0 : Nat → Int32) (f1 : Nat → Int64) (f2 : Nat → Int32) (y0 : Int32) (y1 : Int32) (y2 : Int32) (y3 : Int32) (y4 : Int32) (y5 : Int32) (x0 : Int32) (x1 : Int32) (x2 : Int32) (x3 : Int32) (p0 : mp_all f0 36 0 20) (l_x0 : 0 ≤ x0.toInt) (u_x0 : x0.toInt ≤ 5) (l_x1 : 0 ≤ x1.toInt) (u_x1 : x1.toInt ≤ 5) (l_x2 : 0 ≤ x2.toInt) (u_x2 : x2.toInt ≤ 5) (l_x3 : 0 ≤ x3.toInt) (u_x3 : x3.toInt ≤ 99) (l_y1 : 0 ≤ y1.toInt) (u_y1 : y1.toInt ≤ 6) (l_y2 : 0 ≤ y2.toInt) (u_y2 : y2.toInt ≤ 99) (l_y3 : 0 ≤ y3.toInt) (u_y3 : y3.toInt ≤ 6) (l_y4 : 0 ≤ y4.toInt) (u_y4 : y4.toInt ≤ 10) (l_y5 : 0 ≤ y5.toInt) (u_y5 : y5.toInt ≤ 60) : mp_Ct E yX7_oarsOfLeg cX7_oarsOfLeg 6 (some FieldType.int) 1 0 0 22 [.ref a0, .int x0, .int x1, .int x2, .int x3] [(mp_ob7 a0 y0 y1 y2 y3 y4 y5 a1 a2 a4 a3 a5 a6 a7 a8 a9 a10 a11 a12), (mp_arI E a1 0 36 f0), (mp_arL E a2 12 f1), (mp_arI E a3 0 6 f2)] (fun v w' => ∃ r1 : Int32, v = some (.int r1) ∧ (-1) ≤ r1.toInt ∧ r1.toInt ≤ 20 ∧ (mp_lgx x1.toInt x2.toInt (f0 (6 * x1.toInt + x2.toInt).toNat).toInt (f2 x0.toInt.toNat).toInt x3.toInt (mp_shb f1 (100 * x1.toInt + x3.toInt).toNat) (mp_shb f1 (100 * x2.toInt + x3.toInt).toNat) r1.toInt) ∧ w' = [(mp_ob7 a0 y0 y1 y2 y3 y4 y5 a1 a2 a4 a3 a5 a6 a7 a8 a9 a10 a11 a12), (mp_arI E a1 0 36 f0), (mp_arL E a2 12 f1), (mp_arI E a3 0 6 f2)]) := by
  refine mp_met false (by decide) (by decide) (Nat.le_of_ble_eq_true rfl) (fun X hF hQ => ?_)
  have hF : mp_F E X (RX7, cX7_oarsOfLeg, 6, (1, 0, 0, 22), (some FieldType.int), false) := hF
  let w1_ : va_W := [(mp_ob7 a0 y0 y1 y2 y3 y4 y5 a1 a2 a4 a3 a5 a6 a7 a8 a9 a10 a11 a12), (mp_arI E a1 0 36 f0), (mp_arL E a2 12 f1), (mp_arI E a3 0 6 f2)]
  show mp_W E X 6 0 [(0, .ref a0), (1, .int x0), (2, .int x1), (3, .int x2), (4, .int x3)] [] w1_ 0 0
  refine mp_run mp_k_cX7_oarsOfLeg_ok hF mp_tabX7_ok [mp_i (.iload_n 2), mp_i (.iload_n 3), mp_h (.if_icmp .ne 5) [7]] (by decide +kernel) ?_
  refine And.intro (fun c_1 => ?_) (fun c_1 => ?_)
  · have c_1 : x1.toInt ≠ x2.toInt := c_1
    show mp_W E X 6 7 [(0, .ref a0), (1, .int x0), (2, .int x1), (3, .int x2), (4, .int x3)] [] w1_ 0 0
    refine mp_run mp_k_cX7_oarsOfLeg_ok hF mp_tabX7_ok [mp_i (.aload_n 0), mp_i (.iload_n 2), mp_i (.iload_n 3)] (by decide +kernel) ?_
    show mp_W E X 6 10 [(0, .ref a0), (1, .int x0), (2, .int x1), (3, .int x2), (4, .int x3)] [.int x2, .int x1, .ref a0] w1_ 0 0
    refine mp_callV hF (As := [.int x1, .int x2]) (rest := []) (wr := [(mp_arL E a2 12 f1), (mp_arI E a3 0 6 f2)]) (bX7_oarsBetween_46 E a0 a1 a2 a4 a3 a5 a6 a7 a8 a9 a10 a11 a12 f0 y0 y1 y2 y3 y4 y5 x1 x2 p0 l_x1 u_x1 l_x2 u_x2 l_y1 u_y1 l_y2 u_y2 l_y3 u_y3 l_y4 u_y4 l_y5 u_y5) mp_lkX7_95 0 rfl [0, 1] [2, 3] rfl rfl rfl rfl rfl ⟨(Nat.le_of_ble_eq_true rfl), (Nat.le_of_ble_eq_true rfl), (Nat.le_of_ble_eq_true rfl), (Nat.le_of_ble_eq_true rfl)⟩ (Nat.le_of_ble_eq_true rfl) (by first | exact mp_fd_ok mp_k_cX7_oarsOfLeg_ok (by decide +kernel) | decide +kernel) (fun v_2 w_3 h_4 => ?_)
    refine h_4.elim fun r_5 q_9 => q_9.elim fun e_10 q_11 => q_11.elim fun l_6 q_12 => q_12.elim fun u_7 q_13 => q_13.elim fun x_8 e_14 => ?_
    clear h_4 q_9 q_11 q_12 q_13
    subst e_10
    subst e_14
    let w2_ : va_W := [(mp_arL E a2 12 f1), (mp_arI E a3 0 6 f2), (mp_ob7 a0 y0 y1 y2 y3 y4 y5 a1 a2 a4 a3 a5 a6 a7 a8 a9 a10 a11 a12), (mp_arI E a1 0 36 f0)]
    show mp_W E X 6 13 [(0, .ref a0), (1, .int x0), (2, .int x1), (3, .int x2), (4, .int x3)] [.int r_5] w2_ 0 0
    refine mp_run mp_k_cX7_oarsOfLeg_ok hF mp_tabX7_ok [mp_i (.istore 5), mp_i (.iload 5), mp_h (.ifCond .eq 33) [50]] (by decide +kernel) ?_
    refine And.intro (fun c_15 => ?_) (fun c_15 => ?_)
    · have c_15 : r_5.toInt = 0 := (congrArg Int32.toInt c_15)
      show mp_W E X 6 50 [(5, .int r_5), (0, .ref a0), (1, .int x0), (2, .int x1), (3, .int x2), (4, .int x3)] [] w2_ 0 0
      refine mp_run mp_k_cX7_oarsOfLeg_ok hF mp_tabX7_ok [mp_c (.iconst (-1)) (-1)] (by decide +kernel) ?_
      show mp_W E X 6 51 [(5, .int r_5), (0, .ref a0), (1, .int x0), (2, .int x1), (3, .int x2), (4, .int x3)] [.int (-1)] w2_ 0 0
      exact mp_iret hF hQ rfl rfl (Nat.le_of_ble_eq_true rfl) (Nat.le_of_ble_eq_true rfl) [2, 3, 0, 1] (w' := w1_) rfl rfl ⟨(-1), rfl, (by decide), (by decide), (Or.inr (Or.inr ⟨by (first | exact c_1 | omega), (fun q => by have := q.1; omega), by first | rfl | decide | omega⟩)), rfl⟩ (by first | exact mp_fd_ok mp_k_cX7_oarsOfLeg_ok (by decide +kernel) | decide +kernel)
    · have c_15 : r_5.toInt ≠ 0 := c_15
      show mp_W E X 6 20 [(5, .int r_5), (0, .ref a0), (1, .int x0), (2, .int x1), (3, .int x2), (4, .int x3)] [] w2_ 0 0
      refine mp_run mp_k_cX7_oarsOfLeg_ok hF mp_tabX7_ok [mp_i (.aload_n 0), mp_i (.iload_n 1), mp_i (.iload 4)] (by decide +kernel) ?_
      show mp_W E X 6 24 [(5, .int r_5), (0, .ref a0), (1, .int x0), (2, .int x1), (3, .int x2), (4, .int x3)] [.int x3, .int x0, .ref a0] w2_ 0 0
      refine mp_callV hF (As := [.int x0, .int x3]) (rest := []) (wr := [(mp_arL E a2 12 f1), (mp_arI E a1 0 36 f0)]) (bX7_lives_87 E a0 a3 a1 a2 a4 a5 a6 a7 a8 a9 a10 a11 a12 f2 y0 y1 y2 y3 y4 y5 x0 x3 l_x0 u_x0 l_y1 u_y1 l_y2 u_y2 l_y3 u_y3 l_y4 u_y4 l_y5 u_y5) mp_lkX7_91 2 rfl [2, 1] [0, 3] rfl rfl rfl rfl rfl ⟨(Nat.le_of_ble_eq_true rfl), (Nat.le_of_ble_eq_true rfl), (Nat.le_of_ble_eq_true rfl), (Nat.le_of_ble_eq_true rfl)⟩ (Nat.le_of_ble_eq_true rfl) (by first | exact mp_fd_ok mp_k_cX7_oarsOfLeg_ok (by decide +kernel) | decide +kernel) (fun v_16 w_17 h_18 => ?_)
      rcases h_18 with ⟨rfl, x_19, rfl⟩ | ⟨rfl, x_20, rfl⟩
      · skip
        let w3_ : va_W := [(mp_arL E a2 12 f1), (mp_arI E a1 0 36 f0), (mp_ob7 a0 y0 y1 y2 y3 y4 y5 a1 a2 a4 a3 a5 a6 a7 a8 a9 a10 a11 a12), (mp_arI E a3 0 6 f2)]
        show mp_W E X 6 27 [(5, .int r_5), (0, .ref a0), (1, .int x0), (2, .int x1), (3, .int x2), (4, .int x3)] [.int 1] w3_ 0 0
        refine mp_run mp_k_cX7_oarsOfLeg_ok hF mp_tabX7_ok [mp_h (.ifCond .eq 23) [50]] (by decide +kernel) ?_
        refine And.intro (fun c_21 => absurd c_21 (by decide)) (fun _ => ?_)
        show mp_W E X 6 30 [(5, .int r_5), (0, .ref a0), (1, .int x0), (2, .int x1), (3, .int x2), (4, .int x3)] [] w3_ 0 0
        refine mp_run mp_k_cX7_oarsOfLeg_ok hF mp_tabX7_ok [mp_i (.aload_n 0), mp_i (.iload_n 2), mp_i (.iload 4)] (by decide +kernel) ?_
        show mp_W E X 6 34 [(5, .int r_5), (0, .ref a0), (1, .int x0), (2, .int x1), (3, .int x2), (4, .int x3)] [.int x3, .int x1, .ref a0] w3_ 0 0
        refine mp_callV hF (As := [.int x1, .int x3]) (rest := []) (wr := [(mp_arI E a1 0 36 f0), (mp_arI E a3 0 6 f2)]) (bX7_isShut_58 E a0 a2 a1 a4 a3 a5 a6 a7 a8 a9 a10 a11 a12 f1 y0 y1 y2 y3 y4 y5 x1 x3 l_x1 u_x1 l_x3 u_x3 l_y1 u_y1 l_y2 u_y2 l_y3 u_y3 l_y4 u_y4 l_y5 u_y5) mp_lkX7_99 2 rfl [2, 0] [1, 3] rfl rfl rfl rfl rfl ⟨(Nat.le_of_ble_eq_true rfl), (Nat.le_of_ble_eq_true rfl), (Nat.le_of_ble_eq_true rfl), (Nat.le_of_ble_eq_true rfl)⟩ (Nat.le_of_ble_eq_true rfl) (by first | exact mp_fd_ok mp_k_cX7_oarsOfLeg_ok (by decide +kernel) | decide +kernel) (fun v_22 w_23 h_24 => ?_)
        rcases h_24 with ⟨rfl, x_25, rfl⟩ | ⟨rfl, x_26, rfl⟩
        · skip
          let w4_ : va_W := [(mp_arI E a1 0 36 f0), (mp_arI E a3 0 6 f2), (mp_ob7 a0 y0 y1 y2 y3 y4 y5 a1 a2 a4 a3 a5 a6 a7 a8 a9 a10 a11 a12), (mp_arL E a2 12 f1)]
          show mp_W E X 6 37 [(5, .int r_5), (0, .ref a0), (1, .int x0), (2, .int x1), (3, .int x2), (4, .int x3)] [.int 0] w4_ 0 0
          refine mp_run mp_k_cX7_oarsOfLeg_ok hF mp_tabX7_ok [mp_h (.ifCond .ne 13) [50]] (by decide +kernel) ?_
          refine And.intro (fun c_27 => absurd c_27 (by decide)) (fun _ => ?_)
          show mp_W E X 6 40 [(5, .int r_5), (0, .ref a0), (1, .int x0), (2, .int x1), (3, .int x2), (4, .int x3)] [] w4_ 0 0
          refine mp_run mp_k_cX7_oarsOfLeg_ok hF mp_tabX7_ok [mp_i (.aload_n 0), mp_i (.iload_n 3), mp_i (.iload 4)] (by decide +kernel) ?_
          show mp_W E X 6 44 [(5, .int r_5), (0, .ref a0), (1, .int x0), (2, .int x1), (3, .int x2), (4, .int x3)] [.int x3, .int x2, .ref a0] w4_ 0 0
          refine mp_callV hF (As := [.int x2, .int x3]) (rest := []) (wr := [(mp_arI E a1 0 36 f0), (mp_arI E a3 0 6 f2)]) (bX7_isShut_58 E a0 a2 a1 a4 a3 a5 a6 a7 a8 a9 a10 a11 a12 f1 y0 y1 y2 y3 y4 y5 x2 x3 l_x2 u_x2 l_x3 u_x3 l_y1 u_y1 l_y2 u_y2 l_y3 u_y3 l_y4 u_y4 l_y5 u_y5) mp_lkX7_99 2 rfl [2, 3] [0, 1] rfl rfl rfl rfl rfl ⟨(Nat.le_of_ble_eq_true rfl), (Nat.le_of_ble_eq_true rfl), (Nat.le_of_ble_eq_true rfl), (Nat.le_of_ble_eq_true rfl)⟩ (Nat.le_of_ble_eq_true rfl) (by first | exact mp_fd_ok mp_k_cX7_oarsOfLeg_ok (by decide +kernel) | decide +kernel) (fun v_28 w_29 h_30 => ?_)
          rcases h_30 with ⟨rfl, x_31, rfl⟩ | ⟨rfl, x_32, rfl⟩
          · skip
            show mp_W E X 6 47 [(5, .int r_5), (0, .ref a0), (1, .int x0), (2, .int x1), (3, .int x2), (4, .int x3)] [.int 0] w4_ 0 0
            refine mp_run mp_k_cX7_oarsOfLeg_ok hF mp_tabX7_ok [mp_h (.ifCond .eq 5) [52]] (by decide +kernel) ?_
            refine And.intro (fun _ => ?_) (fun c_33 => absurd c_33 (by decide))
            show mp_W E X 6 52 [(5, .int r_5), (0, .ref a0), (1, .int x0), (2, .int x1), (3, .int x2), (4, .int x3)] [] w4_ 0 0
            refine mp_run mp_k_cX7_oarsOfLeg_ok hF mp_tabX7_ok [mp_i (.iload 5)] (by decide +kernel) ?_
            show mp_W E X 6 54 [(5, .int r_5), (0, .ref a0), (1, .int x0), (2, .int x1), (3, .int x2), (4, .int x3)] [.int r_5] w4_ 0 0
            exact mp_iret hF hQ rfl rfl (Nat.le_of_ble_eq_true rfl) (Nat.le_of_ble_eq_true rfl) [2, 0, 3, 1] (w' := w1_) rfl rfl ⟨r_5, rfl, (by (first | exact mp_o44 l_6 | omega)), u_7, (Or.inr (Or.inl ⟨by (first | exact c_1 | omega), ⟨by omega, x_19, x_25, x_31⟩, by (first | exact x_8 | omega)⟩)), rfl⟩ (by first | exact mp_fd_ok mp_k_cX7_oarsOfLeg_ok (by decide +kernel) | decide +kernel)
          · skip
            show mp_W E X 6 47 [(5, .int r_5), (0, .ref a0), (1, .int x0), (2, .int x1), (3, .int x2), (4, .int x3)] [.int 1] w4_ 0 0
            refine mp_run mp_k_cX7_oarsOfLeg_ok hF mp_tabX7_ok [mp_h (.ifCond .eq 5) [52]] (by decide +kernel) ?_
            refine And.intro (fun c_34 => absurd c_34 (by decide)) (fun _ => ?_)
            show mp_W E X 6 50 [(5, .int r_5), (0, .ref a0), (1, .int x0), (2, .int x1), (3, .int x2), (4, .int x3)] [] w4_ 0 0
            refine mp_run mp_k_cX7_oarsOfLeg_ok hF mp_tabX7_ok [mp_c (.iconst (-1)) (-1)] (by decide +kernel) ?_
            show mp_W E X 6 51 [(5, .int r_5), (0, .ref a0), (1, .int x0), (2, .int x1), (3, .int x2), (4, .int x3)] [.int (-1)] w4_ 0 0
            exact mp_iret hF hQ rfl rfl (Nat.le_of_ble_eq_true rfl) (Nat.le_of_ble_eq_true rfl) [2, 0, 3, 1] (w' := w1_) rfl rfl ⟨(-1), rfl, (by decide), (by decide), (Or.inr (Or.inr ⟨by (first | exact c_1 | omega), (fun q => by rw [x_32] at q; cases q.2.2.2), by first | rfl | decide | omega⟩)), rfl⟩ (by first | exact mp_fd_ok mp_k_cX7_oarsOfLeg_ok (by decide +kernel) | decide +kernel)
        · skip
          let w5_ : va_W := [(mp_arI E a1 0 36 f0), (mp_arI E a3 0 6 f2), (mp_ob7 a0 y0 y1 y2 y3 y4 y5 a1 a2 a4 a3 a5 a6 a7 a8 a9 a10 a11 a12), (mp_arL E a2 12 f1)]
          show mp_W E X 6 37 [(5, .int r_5), (0, .ref a0), (1, .int x0), (2, .int x1), (3, .int x2), (4, .int x3)] [.int 1] w5_ 0 0
          refine mp_run mp_k_cX7_oarsOfLeg_ok hF mp_tabX7_ok [mp_h (.ifCond .ne 13) [50]] (by decide +kernel) ?_
          refine And.intro (fun _ => ?_) (fun c_35 => absurd c_35 (by decide))
          show mp_W E X 6 50 [(5, .int r_5), (0, .ref a0), (1, .int x0), (2, .int x1), (3, .int x2), (4, .int x3)] [] w5_ 0 0
          refine mp_run mp_k_cX7_oarsOfLeg_ok hF mp_tabX7_ok [mp_c (.iconst (-1)) (-1)] (by decide +kernel) ?_
          show mp_W E X 6 51 [(5, .int r_5), (0, .ref a0), (1, .int x0), (2, .int x1), (3, .int x2), (4, .int x3)] [.int (-1)] w5_ 0 0
          exact mp_iret hF hQ rfl rfl (Nat.le_of_ble_eq_true rfl) (Nat.le_of_ble_eq_true rfl) [2, 0, 3, 1] (w' := w1_) rfl rfl ⟨(-1), rfl, (by decide), (by decide), (Or.inr (Or.inr ⟨by (first | exact c_1 | omega), (fun q => by rw [x_26] at q; cases q.2.2.1), by first | rfl | decide | omega⟩)), rfl⟩ (by first | exact mp_fd_ok mp_k_cX7_oarsOfLeg_ok (by decide +kernel) | decide +kernel)
      · skip
        let w6_ : va_W := [(mp_arL E a2 12 f1), (mp_arI E a1 0 36 f0), (mp_ob7 a0 y0 y1 y2 y3 y4 y5 a1 a2 a4 a3 a5 a6 a7 a8 a9 a10 a11 a12), (mp_arI E a3 0 6 f2)]
        show mp_W E X 6 27 [(5, .int r_5), (0, .ref a0), (1, .int x0), (2, .int x1), (3, .int x2), (4, .int x3)] [.int 0] w6_ 0 0
        refine mp_run mp_k_cX7_oarsOfLeg_ok hF mp_tabX7_ok [mp_h (.ifCond .eq 23) [50]] (by decide +kernel) ?_
        refine And.intro (fun _ => ?_) (fun c_36 => absurd c_36 (by decide))
        show mp_W E X 6 50 [(5, .int r_5), (0, .ref a0), (1, .int x0), (2, .int x1), (3, .int x2), (4, .int x3)] [] w6_ 0 0
        refine mp_run mp_k_cX7_oarsOfLeg_ok hF mp_tabX7_ok [mp_c (.iconst (-1)) (-1)] (by decide +kernel) ?_
        show mp_W E X 6 51 [(5, .int r_5), (0, .ref a0), (1, .int x0), (2, .int x1), (3, .int x2), (4, .int x3)] [.int (-1)] w6_ 0 0
        exact mp_iret hF hQ rfl rfl (Nat.le_of_ble_eq_true rfl) (Nat.le_of_ble_eq_true rfl) [2, 1, 0, 3] (w' := w1_) rfl rfl ⟨(-1), rfl, (by decide), (by decide), (Or.inr (Or.inr ⟨by (first | exact c_1 | omega), (fun q => q.2.1 x_20), by first | rfl | decide | omega⟩)), rfl⟩ (by first | exact mp_fd_ok mp_k_cX7_oarsOfLeg_ok (by decide +kernel) | decide +kernel)
  · have c_1 : x1.toInt = x2.toInt := (congrArg Int32.toInt c_1)
    show mp_W E X 6 5 [(0, .ref a0), (1, .int x0), (2, .int x1), (3, .int x2), (4, .int x3)] [] w1_ 0 0
    refine mp_run mp_k_cX7_oarsOfLeg_ok hF mp_tabX7_ok [mp_c (.iconst 0) 0] (by decide +kernel) ?_
    show mp_W E X 6 6 [(0, .ref a0), (1, .int x0), (2, .int x1), (3, .int x2), (4, .int x3)] [.int 0] w1_ 0 0
    exact mp_iret hF hQ rfl rfl (Nat.le_of_ble_eq_true rfl) (Nat.le_of_ble_eq_true rfl) [0, 1, 2, 3] (w' := w1_) rfl rfl ⟨0, rfl, (by decide), (by decide), (Or.inl ⟨by (first | exact c_1 | omega), by first | rfl | decide | omega⟩), rfl⟩ (by first | exact mp_fd_ok mp_k_cX7_oarsOfLeg_ok (by decide +kernel) | decide +kernel)
set_option maxHeartbeats 4000000 in
set_option maxRecDepth 100000 in
theorem bX0_canRow_89 (E : mp_E) (a0 a1 a2 a3 a4 a5 a6 a7 a8 a9 a10 a11 a12 a13 a14 a15 a16 a17 a18 a19 : Nat) (f0 : Nat → Int32) (f1 : Nat → Int64) (f2 : Nat → Int32) (f3 : Nat → Int32) (f4 : Nat → Int32) (y0 : Int32) (y1 : Int32) (y2 : Int32) (y3 : Int32) (y4 : Int32) (y5 : Int32) (y6 : Int32) (x0 : Int32) (x1 : Int32) (p0 : mp_all f0 36 0 20) (p1 : mp_all f3 6 0 5) (l_x0 : 0 ≤ x0.toInt) (u_x0 : x0.toInt ≤ 5) (l_x1 : 0 ≤ x1.toInt) (u_x1 : x1.toInt ≤ 5) (l_y0 : 0 ≤ y0.toInt) (u_y0 : y0.toInt ≤ 99) (l_y2 : 0 ≤ y2.toInt) (u_y2 : y2.toInt ≤ 6) (l_y3 : 0 ≤ y3.toInt) (u_y3 : y3.toInt ≤ 99) (l_y4 : 0 ≤ y4.toInt) (u_y4 : y4.toInt ≤ 6) (l_y5 : 0 ≤ y5.toInt) (u_y5 : y5.toInt ≤ 10) (l_y6 : 0 ≤ y6.toInt) (u_y6 : y6.toInt ≤ 60) : mp_Ct E yX0_canRow cX0_canRow 3 (some FieldType.boolean) 2 0 0 47 [.ref a0, .int x0, .int x1] [(mp_ob0 a0 a1 y0 a5 a7 a6 a8 a9 a10), (mp_ob7 a1 y1 y2 y3 y4 y5 y6 a2 a3 a11 a4 a12 a13 a14 a15 a16 a17 a18 a19), (mp_arI E a2 0 36 f0), (mp_arL E a3 12 f1), (mp_arI E a4 0 6 f2), (mp_arI E a5 0 6 f3), (mp_arI E a6 0 6 f4)] (fun v w' => (v = some (.int 0) ∧ (¬ mp_crx (f4 x0.toInt.toNat).toInt y0.toInt x1.toInt (f3 x0.toInt.toNat).toInt (f0 (6 * (f3 x0.toInt.toNat).toInt + x1.toInt).toNat).toInt (f2 x0.toInt.toNat).toInt (mp_shb f1 (100 * (f3 x0.toInt.toNat).toInt + y0.toInt).toNat) (mp_shb f1 (100 * x1.toInt + y0.toInt).toNat)) ∧ w' = [(mp_ob0 a0 a1 y0 a5 a7 a6 a8 a9 a10), (mp_ob7 a1 y1 y2 y3 y4 y5 y6 a2 a3 a11 a4 a12 a13 a14 a15 a16 a17 a18 a19), (mp_arI E a2 0 36 f0), (mp_arL E a3 12 f1), (mp_arI E a4 0 6 f2), (mp_arI E a5 0 6 f3), (mp_arI E a6 0 6 f4)]) ∨ (v = some (.int 1) ∧ (mp_crx (f4 x0.toInt.toNat).toInt y0.toInt x1.toInt (f3 x0.toInt.toNat).toInt (f0 (6 * (f3 x0.toInt.toNat).toInt + x1.toInt).toNat).toInt (f2 x0.toInt.toNat).toInt (mp_shb f1 (100 * (f3 x0.toInt.toNat).toInt + y0.toInt).toNat) (mp_shb f1 (100 * x1.toInt + y0.toInt).toNat)) ∧ w' = [(mp_ob0 a0 a1 y0 a5 a7 a6 a8 a9 a10), (mp_ob7 a1 y1 y2 y3 y4 y5 y6 a2 a3 a11 a4 a12 a13 a14 a15 a16 a17 a18 a19), (mp_arI E a2 0 36 f0), (mp_arL E a3 12 f1), (mp_arI E a4 0 6 f2), (mp_arI E a5 0 6 f3), (mp_arI E a6 0 6 f4)])) := by
  refine mp_met false (by decide) (by decide) (Nat.le_of_ble_eq_true rfl) (fun X hF hQ => ?_)
  have hF : mp_F E X (RX0, cX0_canRow, 3, (2, 0, 0, 47), (some FieldType.boolean), false) := hF
  let w1_ : va_W := [(mp_ob0 a0 a1 y0 a5 a7 a6 a8 a9 a10), (mp_ob7 a1 y1 y2 y3 y4 y5 y6 a2 a3 a11 a4 a12 a13 a14 a15 a16 a17 a18 a19), (mp_arI E a2 0 36 f0), (mp_arL E a3 12 f1), (mp_arI E a4 0 6 f2), (mp_arI E a5 0 6 f3), (mp_arI E a6 0 6 f4)]
  show mp_W E X 3 0 [(0, .ref a0), (1, .int x0), (2, .int x1)] [] w1_ 0 0
  refine mp_run mp_k_cX0_canRow_ok hF mp_tabX0_ok [mp_i (.aload_n 0), mp_h (.getfield 25) [15, 0], mp_i (.iload_n 1), mp_h .iaload [6], mp_i (.aload_n 0), mp_h (.getfield 42) [12, 0], mp_h (.if_icmp .eq 40) [50]] (by decide +kernel) ?_
  refine And.intro rfl (And.intro rfl ?_)
  refine And.intro rfl (And.intro rfl (And.intro (vp_in_iff.mpr (by (first | exact mp_o230 l_x0 u_x0 | omega))) ?_))
  intro z_1 h_2
  have e_3 : z_1.toInt = (f4 x0.toInt.toNat).toInt := congrArg Int32.toInt h_2
  refine And.intro rfl (And.intro rfl ?_)
  refine And.intro (fun c_4 => ?_) (fun c_4 => ?_)
  · have c_4 : z_1.toInt = y0.toInt := (congrArg Int32.toInt c_4)
    show mp_W E X 3 50 [(0, .ref a0), (1, .int x0), (2, .int x1)] [] w1_ 0 0
    refine mp_run mp_k_cX0_canRow_ok hF mp_tabX0_ok [mp_c (.iconst 0) 0] (by decide +kernel) ?_
    show mp_W E X 3 51 [(0, .ref a0), (1, .int x0), (2, .int x1)] [.int 0] w1_ 0 0
    exact mp_iret hF hQ rfl (by decide) (Nat.le_of_ble_eq_true rfl) (Nat.le_of_ble_eq_true rfl) [0, 1, 2, 3, 4, 5, 6] (w' := w1_) rfl rfl (Or.inl ⟨rfl, (fun q => by have q1 := q.1; have q2 := q.2.1; (first | exact mp_o474 e_3 c_4 q1 | omega)), rfl⟩) (by first | exact mp_fd_ok mp_k_cX0_canRow_ok (by decide +kernel) | decide +kernel)
  · have c_4 : z_1.toInt ≠ y0.toInt := c_4
    show mp_W E X 3 13 [(0, .ref a0), (1, .int x0), (2, .int x1)] [] w1_ 0 0
    refine mp_run mp_k_cX0_canRow_ok hF mp_tabX0_ok [mp_i (.iload_n 2), mp_i (.aload_n 0), mp_h (.getfield 18) [13, 0], mp_i (.iload_n 1), mp_h .iaload [5], mp_h (.if_icmp .eq 30) [50]] (by decide +kernel) ?_
    refine And.intro rfl (And.intro rfl ?_)
    refine And.intro rfl (And.intro rfl (And.intro (vp_in_iff.mpr (by (first | exact mp_o230 l_x0 u_x0 | omega))) ?_))
    intro z_5 h_6
    have e_7 : 0 ≤ z_5.toInt ∧ z_5.toInt ≤ 5 := mp_all_ld h_6 p1 (by (first | exact l_x0 | omega)) (by (first | exact mp_o475 u_x0 | omega))
    have e_8 : z_5.toInt = (f3 x0.toInt.toNat).toInt := congrArg Int32.toInt h_6
    refine And.intro (fun c_9 => ?_) (fun c_9 => ?_)
    · have c_9 : x1.toInt = z_5.toInt := (congrArg Int32.toInt c_9)
      show mp_W E X 3 50 [(0, .ref a0), (1, .int x0), (2, .int x1)] [] w1_ 0 0
      refine mp_run mp_k_cX0_canRow_ok hF mp_tabX0_ok [mp_c (.iconst 0) 0] (by decide +kernel) ?_
      show mp_W E X 3 51 [(0, .ref a0), (1, .int x0), (2, .int x1)] [.int 0] w1_ 0 0
      exact mp_iret hF hQ rfl (by decide) (Nat.le_of_ble_eq_true rfl) (Nat.le_of_ble_eq_true rfl) [0, 1, 2, 3, 4, 5, 6] (w' := w1_) rfl rfl (Or.inl ⟨rfl, (fun q => by have q1 := q.1; have q2 := q.2.1; (first | exact mp_o476 e_8 c_9 q2 | omega)), rfl⟩) (by first | exact mp_fd_ok mp_k_cX0_canRow_ok (by decide +kernel) | decide +kernel)
    · have c_9 : x1.toInt ≠ z_5.toInt := c_9
      show mp_W E X 3 23 [(0, .ref a0), (1, .int x0), (2, .int x1)] [] w1_ 0 0
      refine mp_run mp_k_cX0_canRow_ok hF mp_tabX0_ok [mp_i (.aload_n 0), mp_h (.getfield 12) [11, 0], mp_i (.iload_n 1), mp_i (.aload_n 0), mp_h (.getfield 18) [13, 0], mp_i (.iload_n 1), mp_h .iaload [5], mp_i (.iload_n 2), mp_i (.aload_n 0), mp_h (.getfield 42) [12, 0]] (by decide +kernel) ?_
      refine And.intro rfl (And.intro rfl ?_)
      refine And.intro rfl (And.intro rfl ?_)
      refine And.intro rfl (And.intro rfl (And.intro (vp_in_iff.mpr (by (first | exact mp_o230 l_x0 u_x0 | omega))) ?_))
      intro z_10 h_11
      have k_12 : z_5 = z_10 := h_6.trans h_11.symm
      subst k_12
      refine And.intro rfl (And.intro rfl ?_)
      show mp_W E X 3 39 [(0, .ref a0), (1, .int x0), (2, .int x1)] [.int y0, .int x1, .int z_5, .int x0, .ref a1] w1_ 0 0
      refine mp_callV hF (As := [.int x0, .int z_5, .int x1, .int y0]) (rest := []) (wr := [(mp_ob0 a0 a1 y0 a5 a7 a6 a8 a9 a10), (mp_arI E a5 0 6 f3), (mp_arI E a6 0 6 f4)]) (bX7_oarsOfLeg_88 E a1 a2 a3 a4 a11 a12 a13 a14 a15 a16 a17 a18 a19 f0 f1 f2 y1 y2 y3 y4 y5 y6 x0 z_5 x1 y0 p0 l_x0 u_x0 e_7.1 e_7.2 l_x1 u_x1 l_y0 u_y0 l_y2 u_y2 l_y3 u_y3 l_y4 u_y4 l_y5 u_y5 l_y6 u_y6) mp_lkX0_69 1 rfl [1, 2, 3, 4] [0, 5, 6] rfl rfl rfl rfl rfl ⟨(Nat.le_of_ble_eq_true rfl), (Nat.le_of_ble_eq_true rfl), (Nat.le_of_ble_eq_true rfl), (Nat.le_of_ble_eq_true rfl)⟩ (Nat.le_of_ble_eq_true rfl) (by first | exact mp_fd_ok mp_k_cX0_canRow_ok (by decide +kernel) | decide +kernel) (fun v_13 w_14 h_15 => ?_)
      refine h_15.elim fun r_16 q_20 => q_20.elim fun e_21 q_22 => q_22.elim fun l_17 q_23 => q_23.elim fun u_18 q_24 => q_24.elim fun x_19 e_25 => ?_
      clear h_15 q_20 q_22 q_23 q_24
      subst e_21
      subst e_25
      let w2_ : va_W := [(mp_ob0 a0 a1 y0 a5 a7 a6 a8 a9 a10), (mp_arI E a5 0 6 f3), (mp_arI E a6 0 6 f4), (mp_ob7 a1 y1 y2 y3 y4 y5 y6 a2 a3 a11 a4 a12 a13 a14 a15 a16 a17 a18 a19), (mp_arI E a2 0 36 f0), (mp_arL E a3 12 f1), (mp_arI E a4 0 6 f2)]
      show mp_W E X 3 42 [(0, .ref a0), (1, .int x0), (2, .int x1)] [.int r_16] w2_ 0 0
      refine mp_run mp_k_cX0_canRow_ok hF mp_tabX0_ok [mp_c (.iconst (-1)) (-1), mp_h (.if_icmp .eq 7) [50]] (by decide +kernel) ?_
      refine And.intro (fun c_26 => ?_) (fun c_26 => ?_)
      · have c_26 : r_16.toInt = (-1) := (congrArg Int32.toInt c_26)
        show mp_W E X 3 50 [(0, .ref a0), (1, .int x0), (2, .int x1)] [] w2_ 0 0
        refine mp_run mp_k_cX0_canRow_ok hF mp_tabX0_ok [mp_c (.iconst 0) 0] (by decide +kernel) ?_
        show mp_W E X 3 51 [(0, .ref a0), (1, .int x0), (2, .int x1)] [.int 0] w2_ 0 0
        exact mp_iret hF hQ rfl (by decide) (Nat.le_of_ble_eq_true rfl) (Nat.le_of_ble_eq_true rfl) [0, 3, 4, 5, 6, 1, 2] (w' := w1_) rfl rfl (Or.inl ⟨rfl, (by have i1 : (-1 : Int32).toInt = -1 := rfl; have k8 := x_19; rw [show z_5.toInt = (f3 x0.toInt.toNat).toInt from by (first | exact e_8 | omega)] at k8; intro q; rcases k8 with k8 | k8 | k8; (exact absurd q.2.1 (by omega)); (have := q.2.2.1; omega); (exact k8.2.1 ⟨q.2.2.1, q.2.2.2.1, q.2.2.2.2.1, q.2.2.2.2.2⟩)), rfl⟩) (by first | exact mp_fd_ok mp_k_cX0_canRow_ok (by decide +kernel) | decide +kernel)
      · have c_26 : r_16.toInt ≠ (-1) := c_26
        show mp_W E X 3 46 [(0, .ref a0), (1, .int x0), (2, .int x1)] [] w2_ 0 0
        refine mp_run mp_k_cX0_canRow_ok hF mp_tabX0_ok [mp_c (.iconst 1) 1, mp_h (.goto 4) [51]] (by decide +kernel) ?_
        show mp_W E X 3 51 [(0, .ref a0), (1, .int x0), (2, .int x1)] [.int 1] w2_ 0 0
        exact mp_iret hF hQ rfl (by decide) (Nat.le_of_ble_eq_true rfl) (Nat.le_of_ble_eq_true rfl) [0, 3, 4, 5, 6, 1, 2] (w' := w1_) rfl rfl (Or.inr ⟨rfl, (by have i1 : (-1 : Int32).toInt = -1 := rfl; have k8 := x_19; rw [show z_5.toInt = (f3 x0.toInt.toNat).toInt from by (first | exact e_8 | omega)] at k8; rcases k8 with k8 | k8 | k8; (exfalso; (first | exact mp_o477 e_8 c_9 k8 | omega)); (exact ⟨by omega, by omega, k8.2.1.1, k8.2.1.2.1, k8.2.1.2.2.1, k8.2.1.2.2.2⟩); (exfalso; omega)), rfl⟩) (by first | exact mp_fd_ok mp_k_cX0_canRow_ok (by decide +kernel) | decide +kernel)
set_option maxHeartbeats 4000000 in
set_option maxRecDepth 100000 in
theorem bX0_addAct_90 (E : mp_E) (a0 a1 a2 a3 a4 a5 a6 a7 a8 a9 a10 a11 a12 a13 a14 a15 a16 a17 a18 a19 : Nat) (f0 : Nat → Int32) (f1 : Nat → Int32) (f2 : Nat → Int32) (f3 : Nat → Int32) (f4 : Nat → Int32) (f5 : Nat → Int64) (y0 : Int32) (y1 : Int32) (y2 : Int32) (y3 : Int32) (y4 : Int32) (y5 : Int32) (y6 : Int32) (x0 : Int32) (p0 : mp_all f0 36 0 20) (p1 : mp_acts f1) (p2 : mp_all f2 6 0 5) (l_x0 : 0 ≤ x0.toInt) (u_x0 : x0.toInt ≤ 200) (l_y0 : 0 ≤ y0.toInt) (u_y0 : y0.toInt ≤ 99) (l_y2 : 0 ≤ y2.toInt) (u_y2 : y2.toInt ≤ 6) (l_y3 : 0 ≤ y3.toInt) (u_y3 : y3.toInt ≤ 99) (l_y4 : 0 ≤ y4.toInt) (u_y4 : y4.toInt ≤ 6) (l_y5 : 0 ≤ y5.toInt) (u_y5 : y5.toInt ≤ 10) (l_y6 : 0 ≤ y6.toInt) (u_y6 : y6.toInt ≤ 60) (q0 : (x0.toInt = 200 ∧ y0.toInt ≤ 98) ∨ (100 ≤ x0.toInt ∧ x0.toInt ≤ 109) ∨ (0 ≤ x0.toInt ∧ x0.toInt ≤ 55 ∧ x0.toInt % 10 ≤ 5)) (q1 : y0.toInt = y3.toInt + mp_k200 f1 y6.toInt) : mp_Ct E yX0_addAct cX0_addAct 2 (some FieldType.boolean) 2 0 0 45 [.ref a0, .int x0] [(mp_ob0 a0 a1 y0 a4 a5 a6 a7 a8 a9), (mp_ob7 a1 y1 y2 y3 y4 y5 y6 a2 a10 a11 a12 a13 a14 a15 a16 a17 a18 a19 a3), (mp_arI E a2 0 36 f0), (mp_arI E a3 0 60 f1), (mp_arI E a4 0 6 f2), (mp_arI E a5 0 6 f3), (mp_arI E a6 0 6 f4), (mp_arL E a7 20 f5)] (fun v w' => (∃ r1 : Int32, ∃ r2 : Int32, ∃ h3 : Nat → Int32, ∃ h4 : Nat → Int32, ∃ h5 : Nat → Int32, ∃ h6 : Nat → Int32, ∃ h7 : Nat → Int64, v = some (.int 1) ∧ y6.toInt < 60 ∧ 0 ≤ r1.toInt ∧ r1.toInt ≤ 99 ∧ 1 ≤ r2.toInt ∧ r2.toInt ≤ 60 ∧ mp_acts h3 ∧ mp_all h4 6 0 5 ∧ (r1.toInt = y3.toInt + mp_k200 h3 r2.toInt) ∧ ((x0.toInt = 200 ∧ r1.toInt = y0.toInt + 1) ∨ (x0.toInt ≠ 200 ∧ r1.toInt = y0.toInt)) ∧ (y6.toInt ≤ 59) ∧ (r2.toInt = y6.toInt + 1) ∧ (h3 = upd f1 (y6.toInt).toNat x0) ∧ (mp_AP f2 f3 f4 h4 h5 h6 f0 x0.toInt y0.toInt) ∧ w' = [(mp_ob0 a0 a1 r1 a4 a5 a6 a7 a8 a9), (mp_ob7 a1 y1 y2 y3 y4 y5 r2 a2 a10 a11 a12 a13 a14 a15 a16 a17 a18 a19 a3), (mp_arI E a2 0 36 f0), (mp_arI E a3 0 60 h3), (mp_arI E a4 0 6 h4), (mp_arI E a5 0 6 h5), (mp_arI E a6 0 6 h6), (mp_arL E a7 20 h7)]) ∨ (v = some (.int 0) ∧ 60 ≤ y6.toInt ∧ (y0.toInt = y3.toInt + mp_k200 f1 y6.toInt) ∧ (60 ≤ y6.toInt) ∧ w' = [(mp_ob0 a0 a1 y0 a4 a5 a6 a7 a8 a9), (mp_ob7 a1 y1 y2 y3 y4 y5 y6 a2 a10 a11 a12 a13 a14 a15 a16 a17 a18 a19 a3), (mp_arI E a2 0 36 f0), (mp_arI E a3 0 60 f1), (mp_arI E a4 0 6 f2), (mp_arI E a5 0 6 f3), (mp_arI E a6 0 6 f4), (mp_arL E a7 20 f5)])) := by
  refine mp_met false (by decide) (by decide) (Nat.le_of_ble_eq_true rfl) (fun X hF hQ => ?_)
  have hF : mp_F E X (RX0, cX0_addAct, 2, (2, 0, 0, 45), (some FieldType.boolean), false) := hF
  let w1_ : va_W := [(mp_ob0 a0 a1 y0 a4 a5 a6 a7 a8 a9), (mp_ob7 a1 y1 y2 y3 y4 y5 y6 a2 a10 a11 a12 a13 a14 a15 a16 a17 a18 a19 a3), (mp_arI E a2 0 36 f0), (mp_arI E a3 0 60 f1), (mp_arI E a4 0 6 f2), (mp_arI E a5 0 6 f3), (mp_arI E a6 0 6 f4), (mp_arL E a7 20 f5)]
  show mp_W E X 2 0 [(0, .ref a0), (1, .int x0)] [] w1_ 0 0
  refine mp_run mp_k_cX0_addAct_ok hF mp_tabX0_ok [mp_i (.aload_n 0), mp_h (.getfield 12) [11, 0], mp_h (.getfield 55) [3, 1], mp_c (.bipush 60) 60, mp_h (.if_icmp .lt 5) [14]] (by decide +kernel) ?_
  refine And.intro rfl (And.intro rfl ?_)
  refine And.intro rfl (And.intro rfl ?_)
  refine And.intro (fun c_1 => ?_) (fun c_1 => ?_)
  · have c_1 : y6.toInt < 60 := c_1
    show mp_W E X 2 14 [(0, .ref a0), (1, .int x0)] [] w1_ 0 0
    refine mp_run mp_k_cX0_addAct_ok hF mp_tabX0_ok [mp_i (.aload_n 0), mp_h (.getfield 12) [11, 0], mp_h (.getfield 58) [10, 1], mp_i (.aload_n 0), mp_h (.getfield 12) [11, 0], mp_h (.getfield 55) [3, 1], mp_i (.iload_n 1), mp_h .iastore [3]] (by decide +kernel) ?_
    refine And.intro rfl (And.intro rfl ?_)
    refine And.intro rfl (And.intro rfl ?_)
    refine And.intro rfl (And.intro rfl ?_)
    refine And.intro rfl (And.intro rfl ?_)
    refine And.intro rfl (And.intro rfl (And.intro (vp_in_iff.mpr (by (first | exact mp_o478 l_y6 c_1 | omega))) ?_))
    intro g_2 h_3
    have p_4 : mp_acts g_2 := mp_acts_st h_3 p1 (by (first | exact mp_o479 q0 | omega))
    have e_5 := mp_k200_st h_3 (by (first | exact l_y6 | omega))
    let w2_ : va_W := [(mp_ob0 a0 a1 y0 a4 a5 a6 a7 a8 a9), (mp_ob7 a1 y1 y2 y3 y4 y5 y6 a2 a10 a11 a12 a13 a14 a15 a16 a17 a18 a19 a3), (mp_arI E a2 0 36 f0), (mp_arI E a3 0 60 g_2), (mp_arI E a4 0 6 f2), (mp_arI E a5 0 6 f3), (mp_arI E a6 0 6 f4), (mp_arL E a7 20 f5)]
    show mp_W E X 2 30 [(0, .ref a0), (1, .int x0)] [] w2_ 0 0
    refine mp_run mp_k_cX0_addAct_ok hF mp_tabX0_ok [mp_i (.aload_n 0), mp_h (.getfield 12) [11, 0], mp_i .dup, mp_h (.getfield 55) [3, 1], mp_c (.iconst 1) 1, mp_i .iadd, mp_h (.putfield 55) [3, 1]] (by decide +kernel) ?_
    refine And.intro rfl (And.intro rfl ?_)
    refine And.intro rfl ?_
    refine And.intro rfl (And.intro rfl ?_)
    intro z_6 h_7
    have e_8 : z_6.toInt = y6.toInt + 1 := mp_add (a := y6.toInt) (b := 1) h_7 rfl (by decide) (by (first | exact mp_o2 l_y6 | omega)) (by (first | exact mp_o480 c_1 | omega))
    refine And.intro rfl (And.intro rfl (And.intro rfl (And.intro rfl (And.intro (Nat.le_of_ble_eq_true rfl) ?_))))
    let w3_ : va_W := [(mp_ob0 a0 a1 y0 a4 a5 a6 a7 a8 a9), (mp_ob7 a1 y1 y2 y3 y4 y5 z_6 a2 a10 a11 a12 a13 a14 a15 a16 a17 a18 a19 a3), (mp_arI E a2 0 36 f0), (mp_arI E a3 0 60 g_2), (mp_arI E a4 0 6 f2), (mp_arI E a5 0 6 f3), (mp_arI E a6 0 6 f4), (mp_arL E a7 20 f5)]
    show mp_W E X 2 43 [(0, .ref a0), (1, .int x0)] [] w3_ 0 0
    refine mp_run mp_k_cX0_addAct_ok hF mp_tabX0_ok [mp_i (.aload_n 0), mp_i (.iload_n 1)] (by decide +kernel) ?_
    show mp_W E X 2 45 [(0, .ref a0), (1, .int x0)] [.int x0, .ref a0] w3_ 0 0
    refine mp_callV hF (As := [.int x0]) (rest := []) (wr := [(mp_arI E a3 0 60 g_2)]) (bX0_apply_47 E a0 a1 a2 a4 a5 a6 a7 a8 a9 a10 a11 a12 a13 a14 a15 a16 a17 a18 a19 a3 f0 f2 f3 f4 f5 y0 y1 y2 y3 y4 y5 z_6 x0 p0 p2 l_x0 u_x0 l_y0 u_y0 l_y2 u_y2 l_y3 u_y3 l_y4 u_y4 l_y5 u_y5 (by (first | exact mp_o51 l_y6 e_8 | omega)) (by (first | exact mp_o481 c_1 e_8 | omega)) (by (first | exact q0 | omega))) mp_lkX0_61 0 rfl [0, 1, 2, 4, 5, 6, 7] [3] rfl rfl rfl rfl rfl ⟨(Nat.le_of_ble_eq_true rfl), (Nat.le_of_ble_eq_true rfl), (Nat.le_of_ble_eq_true rfl), (Nat.le_of_ble_eq_true rfl)⟩ (Nat.le_of_ble_eq_true rfl) (by first | exact mp_fd_ok mp_k_cX0_addAct_ok (by decide +kernel) | decide +kernel) (fun v_9 w_10 h_11 => ?_)
    refine h_11.elim fun r_12 q_22 => q_22.elim fun g_13 q_23 => q_23.elim fun g_14 q_24 => q_24.elim fun g_15 q_25 => q_25.elim fun g_16 q_26 => q_26.elim fun e_27 q_28 => q_28.elim fun l_17 q_29 => q_29.elim fun u_18 q_30 => q_30.elim fun p_19 q_31 => q_31.elim fun x_20 q_32 => q_32.elim fun x_21 e_33 => ?_
    clear h_11 q_22 q_23 q_24 q_25 q_26 q_28 q_29 q_30 q_31 q_32
    subst e_27
    subst e_33
    let w4_ : va_W := [(mp_arI E a3 0 60 g_2), (mp_ob0 a0 a1 r_12 a4 a5 a6 a7 a8 a9), (mp_ob7 a1 y1 y2 y3 y4 y5 z_6 a2 a10 a11 a12 a13 a14 a15 a16 a17 a18 a19 a3), (mp_arI E a2 0 36 f0), (mp_arI E a4 0 6 g_13), (mp_arI E a5 0 6 g_14), (mp_arI E a6 0 6 g_15), (mp_arL E a7 20 g_16)]
    show mp_W E X 2 48 [(0, .ref a0), (1, .int x0)] [] w4_ 0 0
    refine mp_run mp_k_cX0_addAct_ok hF mp_tabX0_ok [mp_c (.iconst 1) 1] (by decide +kernel) ?_
    show mp_W E X 2 49 [(0, .ref a0), (1, .int x0)] [.int 1] w4_ 0 0
    exact mp_iret hF hQ rfl (by decide) (Nat.le_of_ble_eq_true rfl) (Nat.le_of_ble_eq_true rfl) [1, 2, 3, 0, 4, 5, 6, 7] (w' := [(mp_ob0 a0 a1 r_12 a4 a5 a6 a7 a8 a9), (mp_ob7 a1 y1 y2 y3 y4 y5 z_6 a2 a10 a11 a12 a13 a14 a15 a16 a17 a18 a19 a3), (mp_arI E a2 0 36 f0), (mp_arI E a3 0 60 g_2), (mp_arI E a4 0 6 g_13), (mp_arI E a5 0 6 g_14), (mp_arI E a6 0 6 g_15), (mp_arL E a7 20 g_16)]) rfl rfl (Or.inl ⟨r_12, z_6, g_2, g_13, g_14, g_15, g_16, rfl, (by first | (first | exact c_1 | omega) | decide), l_17, u_18, (by (first | exact mp_o182 l_y6 e_8 | omega)), (by (first | exact mp_o481 c_1 e_8 | omega)), p_4, p_19, (by first | fail | (rw [e_8]; (first | exact mp_o345 q1 x_20 e_5 | omega))), (by have k9 := x_20; (first | exact k9 | omega)), (by first | (first | exact mp_o482 c_1 | omega) | decide | (have h8 : (0 : Int64).toInt = 0 := rfl; have h9 : (-1 : Int32).toInt = -1 := rfl; have h10 : (-2 : Int32).toInt = -2 := rfl; have h11 : (0 : Int32).toInt = 0 := rfl; have h12 : (1 : Int32).toInt = 1 := rfl; have h13 : (-5 : Int32).toInt = -5 := rfl; have h14 : (-3 : Int32).toInt = -3 := rfl; omega)), (by first | (first | exact e_8 | omega) | decide | (have h8 : (0 : Int64).toInt = 0 := rfl; have h9 : (-1 : Int32).toInt = -1 := rfl; have h10 : (-2 : Int32).toInt = -2 := rfl; have h11 : (0 : Int32).toInt = 0 := rfl; have h12 : (1 : Int32).toInt = 1 := rfl; have h13 : (-5 : Int32).toInt = -5 := rfl; have h14 : (-3 : Int32).toInt = -3 := rfl; omega)), h_3, x_21, rfl⟩) (by first | exact mp_fd_ok mp_k_cX0_addAct_ok (by decide +kernel) | decide +kernel)
  · have c_1 : 60 ≤ y6.toInt := c_1
    show mp_W E X 2 12 [(0, .ref a0), (1, .int x0)] [] w1_ 0 0
    refine mp_run mp_k_cX0_addAct_ok hF mp_tabX0_ok [mp_c (.iconst 0) 0] (by decide +kernel) ?_
    show mp_W E X 2 13 [(0, .ref a0), (1, .int x0)] [.int 0] w1_ 0 0
    exact mp_iret hF hQ rfl (by decide) (Nat.le_of_ble_eq_true rfl) (Nat.le_of_ble_eq_true rfl) [0, 1, 2, 3, 4, 5, 6, 7] (w' := w1_) rfl rfl (Or.inr ⟨rfl, (by first | (first | exact c_1 | omega) | decide), (by first | (first | exact q1 | omega) | (rw [rfl]; omega)), (by first | (first | exact c_1 | omega) | decide | (have h8 : (0 : Int64).toInt = 0 := rfl; have h9 : (-1 : Int32).toInt = -1 := rfl; have h10 : (-2 : Int32).toInt = -2 := rfl; have h11 : (0 : Int32).toInt = 0 := rfl; have h12 : (1 : Int32).toInt = 1 := rfl; have h13 : (-5 : Int32).toInt = -5 := rfl; have h14 : (-3 : Int32).toInt = -3 := rfl; omega)), rfl⟩) (by first | exact mp_fd_ok mp_k_cX0_addAct_ok (by decide +kernel) | decide +kernel)
set_option maxHeartbeats 4000000 in
set_option maxRecDepth 100000 in
theorem bX9_rows_91 (E : mp_E) (a0 a1 a2 a3 a4 a5 a6 a7 a8 a9 a10 a11 a12 a13 a14 a15 a16 a17 a18 a19 a20 a21 a22 a23 a24 a25 a26 a27 a28 : Nat) (f0 : Nat → Int32) (f1 : Nat → Int64) (f2 : Nat → Int32) (f3 : Nat → Int32) (f4 : Nat → Int32) (f5 : Nat → Int32) (f6 : Nat → Int32) (f7 : Nat → Int32) (f8 : Nat → Int64) (y0 : Int32) (y1 : Int32) (y2 : Int32) (y3 : Int32) (y4 : Int32) (y5 : Int32) (y6 : Int32) (x0 : Int32) (x1 : Int32) (p0 : mp_all f0 36 0 20) (p1 : mp_all f2 6 0 5) (p2 : mp_acts f4) (p3 : mp_all f5 6 0 5) (l_y0 : 0 ≤ y0.toInt) (u_y0 : y0.toInt ≤ 99) (l_y2 : 0 ≤ y2.toInt) (u_y2 : y2.toInt ≤ 6) (l_y3 : 0 ≤ y3.toInt) (u_y3 : y3.toInt ≤ 99) (l_y4 : 0 ≤ y4.toInt) (u_y4 : y4.toInt ≤ 6) (l_y5 : 0 ≤ y5.toInt) (u_y5 : y5.toInt ≤ 10) (l_y6 : 0 ≤ y6.toInt) (u_y6 : y6.toInt ≤ 60) (q0 : y0.toInt = y3.toInt + mp_k200 f4 y6.toInt) (q1 : mp_CS f5 f6 f7 f0 f2 f4 y3.toInt y4.toInt (y6.toInt : Int).toNat) : mp_Ct E yX9_rows cX9_rows 4 (some FieldType.int) 3 0 0 69 [.ref a0, .int x0, .int x1] [(mp_ob9 a0 a12 a1 a13 a14 a15 a16 a17 a18 a19), (mp_ob0 a1 a2 y0 a8 a9 a10 a11 a20 a21), (mp_ob7 a2 y1 y2 y3 y4 y5 y6 a3 a4 a5 a6 a22 a23 a24 a25 a26 a27 a28 a7), (mp_arI E a3 0 36 f0), (mp_arL E a4 12 f1), (mp_arI E a5 0 6 f2), (mp_arI E a6 0 6 f3), (mp_arI E a7 0 60 f4), (mp_arI E a8 0 6 f5), (mp_arI E a9 0 6 f6), (mp_arI E a10 0 6 f7), (mp_arL E a11 20 f8)] (fun v w' => (v = some (.int (-2)) ∧ (y0.toInt = y3.toInt + mp_k200 f4 y6.toInt) ∧ (x0.toInt < 0 ∨ y4.toInt ≤ x0.toInt ∨ x1.toInt < 0 ∨ y2.toInt ≤ x1.toInt) ∧ (mp_CS f5 f6 f7 f0 f2 f4 y3.toInt y4.toInt (y6.toInt : Int).toNat) ∧ w' = [(mp_ob9 a0 a12 a1 a13 a14 a15 a16 a17 a18 a19), (mp_ob0 a1 a2 y0 a8 a9 a10 a11 a20 a21), (mp_ob7 a2 y1 y2 y3 y4 y5 y6 a3 a4 a5 a6 a22 a23 a24 a25 a26 a27 a28 a7), (mp_arI E a3 0 36 f0), (mp_arL E a4 12 f1), (mp_arI E a5 0 6 f2), (mp_arI E a6 0 6 f3), (mp_arI E a7 0 60 f4), (mp_arI E a8 0 6 f5), (mp_arI E a9 0 6 f6), (mp_arI E a10 0 6 f7), (mp_arL E a11 20 f8)]) ∨ (v = some (.int (-5)) ∧ 0 ≤ x0.toInt ∧ x0.toInt < y4.toInt ∧ 0 ≤ x1.toInt ∧ x1.toInt < y2.toInt ∧ (y0.toInt = y3.toInt + mp_k200 f4 y6.toInt) ∧ (0 ≤ x0.toInt ∧ x0.toInt < y4.toInt ∧ 0 ≤ x1.toInt ∧ x1.toInt < y2.toInt) ∧ (¬ mp_crx (mp_cs f0 f2 f4 y3.toInt x0.toInt.toNat (y6.toInt).toNat).2.2.toInt (y3.toInt + mp_k200 f4 y6.toInt) x1.toInt (mp_cs f0 f2 f4 y3.toInt x0.toInt.toNat (y6.toInt).toNat).1.toInt (f0 (6 * (mp_cs f0 f2 f4 y3.toInt x0.toInt.toNat (y6.toInt).toNat).1.toInt + x1.toInt).toNat).toInt (f3 x0.toInt.toNat).toInt (mp_shb f1 (100 * (mp_cs f0 f2 f4 y3.toInt x0.toInt.toNat (y6.toInt).toNat).1.toInt + (y3.toInt + mp_k200 f4 y6.toInt)).toNat) (mp_shb f1 (100 * x1.toInt + (y3.toInt + mp_k200 f4 y6.toInt)).toNat) ∨ 60 ≤ y6.toInt) ∧ (mp_CS f5 f6 f7 f0 f2 f4 y3.toInt y4.toInt (y6.toInt : Int).toNat) ∧ w' = [(mp_ob9 a0 a12 a1 a13 a14 a15 a16 a17 a18 a19), (mp_ob0 a1 a2 y0 a8 a9 a10 a11 a20 a21), (mp_ob7 a2 y1 y2 y3 y4 y5 y6 a3 a4 a5 a6 a22 a23 a24 a25 a26 a27 a28 a7), (mp_arI E a3 0 36 f0), (mp_arL E a4 12 f1), (mp_arI E a5 0 6 f2), (mp_arI E a6 0 6 f3), (mp_arI E a7 0 60 f4), (mp_arI E a8 0 6 f5), (mp_arI E a9 0 6 f6), (mp_arI E a10 0 6 f7), (mp_arL E a11 20 f8)]) ∨ (∃ r1 : Int32, ∃ r2 : Int32, ∃ h3 : Nat → Int32, ∃ h4 : Nat → Int32, ∃ h5 : Nat → Int32, ∃ h6 : Nat → Int32, ∃ h7 : Nat → Int64, ∃ r8 : Int32, v = some (.int r8) ∧ 0 ≤ x0.toInt ∧ x0.toInt < y4.toInt ∧ 0 ≤ x1.toInt ∧ x1.toInt < y2.toInt ∧ y6.toInt < 60 ∧ 0 ≤ r1.toInt ∧ r1.toInt ≤ 99 ∧ 1 ≤ r2.toInt ∧ r2.toInt ≤ 60 ∧ 0 ≤ r8.toInt ∧ r8.toInt ≤ 20 ∧ mp_acts h3 ∧ mp_all h4 6 0 5 ∧ (r1.toInt = y3.toInt + mp_k200 h3 r2.toInt) ∧ (0 ≤ x0.toInt ∧ x0.toInt < y4.toInt ∧ 0 ≤ x1.toInt ∧ x1.toInt < y2.toInt) ∧ (mp_crx (mp_cs f0 f2 f4 y3.toInt x0.toInt.toNat (y6.toInt).toNat).2.2.toInt (y3.toInt + mp_k200 f4 y6.toInt) x1.toInt (mp_cs f0 f2 f4 y3.toInt x0.toInt.toNat (y6.toInt).toNat).1.toInt (f0 (6 * (mp_cs f0 f2 f4 y3.toInt x0.toInt.toNat (y6.toInt).toNat).1.toInt + x1.toInt).toNat).toInt (f3 x0.toInt.toNat).toInt (mp_shb f1 (100 * (mp_cs f0 f2 f4 y3.toInt x0.toInt.toNat (y6.toInt).toNat).1.toInt + (y3.toInt + mp_k200 f4 y6.toInt)).toNat) (mp_shb f1 (100 * x1.toInt + (y3.toInt + mp_k200 f4 y6.toInt)).toNat)) ∧ (r8.toInt = (f0 (6 * (mp_cs f0 f2 f4 y3.toInt x0.toInt.toNat (y6.toInt).toNat).1.toInt + x1.toInt).toNat).toInt) ∧ (y6.toInt ≤ 59) ∧ (r2.toInt = y6.toInt + 1) ∧ (h3 = upd f4 (y6.toInt).toNat (Int32.ofInt (10 * x0.toInt + x1.toInt))) ∧ (mp_CS h4 h5 h6 f0 f2 h3 y3.toInt y4.toInt (r2.toInt : Int).toNat) ∧ w' = [(mp_ob9 a0 a12 a1 a13 a14 a15 a16 a17 a18 a19), (mp_ob0 a1 a2 r1 a8 a9 a10 a11 a20 a21), (mp_ob7 a2 y1 y2 y3 y4 y5 r2 a3 a4 a5 a6 a22 a23 a24 a25 a26 a27 a28 a7), (mp_arI E a3 0 36 f0), (mp_arL E a4 12 f1), (mp_arI E a5 0 6 f2), (mp_arI E a6 0 6 f3), (mp_arI E a7 0 60 h3), (mp_arI E a8 0 6 h4), (mp_arI E a9 0 6 h5), (mp_arI E a10 0 6 h6), (mp_arL E a11 20 h7)])) := by
  refine mp_met false (by decide) (by decide) (Nat.le_of_ble_eq_true rfl) (fun X hF hQ => ?_)
  have hF : mp_F E X (RX9, cX9_rows, 4, (3, 0, 0, 69), (some FieldType.int), false) := hF
  let w1_ : va_W := [(mp_ob9 a0 a12 a1 a13 a14 a15 a16 a17 a18 a19), (mp_ob0 a1 a2 y0 a8 a9 a10 a11 a20 a21), (mp_ob7 a2 y1 y2 y3 y4 y5 y6 a3 a4 a5 a6 a22 a23 a24 a25 a26 a27 a28 a7), (mp_arI E a3 0 36 f0), (mp_arL E a4 12 f1), (mp_arI E a5 0 6 f2), (mp_arI E a6 0 6 f3), (mp_arI E a7 0 60 f4), (mp_arI E a8 0 6 f5), (mp_arI E a9 0 6 f6), (mp_arI E a10 0 6 f7), (mp_arL E a11 20 f8)]
  show mp_W E X 4 0 [(0, .ref a0), (1, .int x0), (2, .int x1)] [] w1_ 0 0
  refine mp_run mp_k_cX9_rows_ok hF mp_tabX9_ok [mp_i (.aload_n 0), mp_h (.getfield 19) [37, 0], mp_h (.getfield 83) [20, 1], mp_i (.iload_n 1)] (by decide +kernel) ?_
  refine And.intro rfl (And.intro rfl ?_)
  refine And.intro rfl (And.intro rfl ?_)
  show mp_W E X 4 8 [(0, .ref a0), (1, .int x0), (2, .int x1)] [.int x0, .ref a2] w1_ 0 0
  refine mp_callV hF (As := [.int x0]) (rest := []) (wr := [(mp_ob9 a0 a12 a1 a13 a14 a15 a16 a17 a18 a19), (mp_ob0 a1 a2 y0 a8 a9 a10 a11 a20 a21), (mp_arI E a3 0 36 f0), (mp_arL E a4 12 f1), (mp_arI E a5 0 6 f2), (mp_arI E a6 0 6 f3), (mp_arI E a7 0 60 f4), (mp_arI E a8 0 6 f5), (mp_arI E a9 0 6 f6), (mp_arI E a10 0 6 f7), (mp_arL E a11 20 f8)]) (bX7_isPerson_51 E a2 a3 a4 a5 a6 a22 a23 a24 a25 a26 a27 a28 a7 y1 y2 y3 y4 y5 y6 x0 l_y2 u_y2 l_y3 u_y3 l_y4 u_y4 l_y5 u_y5 l_y6 u_y6) mp_lkX9_106 2 rfl [2] [0, 1, 3, 4, 5, 6, 7, 8, 9, 10, 11] rfl rfl rfl rfl rfl ⟨(Nat.le_of_ble_eq_true rfl), (Nat.le_of_ble_eq_true rfl), (Nat.le_of_ble_eq_true rfl), (Nat.le_of_ble_eq_true rfl)⟩ (Nat.le_of_ble_eq_true rfl) (by first | exact mp_fd_ok mp_k_cX9_rows_ok (by decide +kernel) | decide +kernel) (fun v_1 w_2 h_3 => ?_)
  rcases h_3 with ⟨rfl, x_4, rfl⟩ | ⟨rfl, c_5, c_6, x_7, rfl⟩
  · skip
    let w2_ : va_W := [(mp_ob9 a0 a12 a1 a13 a14 a15 a16 a17 a18 a19), (mp_ob0 a1 a2 y0 a8 a9 a10 a11 a20 a21), (mp_arI E a3 0 36 f0), (mp_arL E a4 12 f1), (mp_arI E a5 0 6 f2), (mp_arI E a6 0 6 f3), (mp_arI E a7 0 60 f4), (mp_arI E a8 0 6 f5), (mp_arI E a9 0 6 f6), (mp_arI E a10 0 6 f7), (mp_arL E a11 20 f8), (mp_ob7 a2 y1 y2 y3 y4 y5 y6 a3 a4 a5 a6 a22 a23 a24 a25 a26 a27 a28 a7)]
    show mp_W E X 4 11 [(0, .ref a0), (1, .int x0), (2, .int x1)] [.int 0] w2_ 0 0
    refine mp_run mp_k_cX9_rows_ok hF mp_tabX9_ok [mp_h (.ifCond .eq 17) [28]] (by decide +kernel) ?_
    refine And.intro (fun _ => ?_) (fun c_8 => absurd c_8 (by decide))
    show mp_W E X 4 28 [(0, .ref a0), (1, .int x0), (2, .int x1)] [] w2_ 0 0
    refine mp_run mp_k_cX9_rows_ok hF mp_tabX9_ok [mp_c (.bipush (-2)) (-2)] (by decide +kernel) ?_
    show mp_W E X 4 30 [(0, .ref a0), (1, .int x0), (2, .int x1)] [.int (-2)] w2_ 0 0
    exact mp_iret hF hQ rfl rfl (Nat.le_of_ble_eq_true rfl) (Nat.le_of_ble_eq_true rfl) [0, 1, 11, 2, 3, 4, 5, 6, 7, 8, 9, 10] (w' := w1_) rfl rfl (Or.inl ⟨rfl, (by first | (first | exact q0 | omega) | decide | (have h8 : (0 : Int64).toInt = 0 := rfl; have h9 : (-1 : Int32).toInt = -1 := rfl; have h10 : (-2 : Int32).toInt = -2 := rfl; have h11 : (0 : Int32).toInt = 0 := rfl; have h12 : (1 : Int32).toInt = 1 := rfl; have h13 : (-5 : Int32).toInt = -5 := rfl; have h14 : (-3 : Int32).toInt = -3 := rfl; omega)), (by first | (first | exact mp_o483 x_4 | omega) | decide | (have h8 : (0 : Int64).toInt = 0 := rfl; have h9 : (-1 : Int32).toInt = -1 := rfl; have h10 : (-2 : Int32).toInt = -2 := rfl; have h11 : (0 : Int32).toInt = 0 := rfl; have h12 : (1 : Int32).toInt = 1 := rfl; have h13 : (-5 : Int32).toInt = -5 := rfl; have h14 : (-3 : Int32).toInt = -3 := rfl; omega)), q1, rfl⟩) (by first | exact mp_fd_ok mp_k_cX9_rows_ok (by decide +kernel) | decide +kernel)
  · skip
    have c_5 : 0 ≤ x0.toInt := c_5
    have c_6 : x0.toInt < y4.toInt := c_6
    let w3_ : va_W := [(mp_ob9 a0 a12 a1 a13 a14 a15 a16 a17 a18 a19), (mp_ob0 a1 a2 y0 a8 a9 a10 a11 a20 a21), (mp_arI E a3 0 36 f0), (mp_arL E a4 12 f1), (mp_arI E a5 0 6 f2), (mp_arI E a6 0 6 f3), (mp_arI E a7 0 60 f4), (mp_arI E a8 0 6 f5), (mp_arI E a9 0 6 f6), (mp_arI E a10 0 6 f7), (mp_arL E a11 20 f8), (mp_ob7 a2 y1 y2 y3 y4 y5 y6 a3 a4 a5 a6 a22 a23 a24 a25 a26 a27 a28 a7)]
    show mp_W E X 4 11 [(0, .ref a0), (1, .int x0), (2, .int x1)] [.int 1] w3_ 0 0
    refine mp_run mp_k_cX9_rows_ok hF mp_tabX9_ok [mp_h (.ifCond .eq 17) [28]] (by decide +kernel) ?_
    refine And.intro (fun c_9 => absurd c_9 (by decide)) (fun _ => ?_)
    show mp_W E X 4 14 [(0, .ref a0), (1, .int x0), (2, .int x1)] [] w3_ 0 0
    refine mp_run mp_k_cX9_rows_ok hF mp_tabX9_ok [mp_i (.aload_n 0), mp_h (.getfield 19) [37, 0], mp_h (.getfield 83) [20, 1], mp_i (.iload_n 2)] (by decide +kernel) ?_
    refine And.intro rfl (And.intro rfl ?_)
    refine And.intro rfl (And.intro rfl ?_)
    show mp_W E X 4 22 [(0, .ref a0), (1, .int x0), (2, .int x1)] [.int x1, .ref a2] w3_ 0 0
    refine mp_callV hF (As := [.int x1]) (rest := []) (wr := [(mp_ob9 a0 a12 a1 a13 a14 a15 a16 a17 a18 a19), (mp_ob0 a1 a2 y0 a8 a9 a10 a11 a20 a21), (mp_arI E a3 0 36 f0), (mp_arL E a4 12 f1), (mp_arI E a5 0 6 f2), (mp_arI E a6 0 6 f3), (mp_arI E a7 0 60 f4), (mp_arI E a8 0 6 f5), (mp_arI E a9 0 6 f6), (mp_arI E a10 0 6 f7), (mp_arL E a11 20 f8)]) (bX7_isIsle_55 E a2 a3 a4 a5 a6 a22 a23 a24 a25 a26 a27 a28 a7 y1 y2 y3 y4 y5 y6 x1 l_y2 u_y2 l_y3 u_y3 l_y4 u_y4 l_y5 u_y5 l_y6 u_y6) mp_lkX9_141 11 rfl [11] [0, 1, 2, 3, 4, 5, 6, 7, 8, 9, 10] rfl rfl rfl rfl rfl ⟨(Nat.le_of_ble_eq_true rfl), (Nat.le_of_ble_eq_true rfl), (Nat.le_of_ble_eq_true rfl), (Nat.le_of_ble_eq_true rfl)⟩ (Nat.le_of_ble_eq_true rfl) (by first | exact mp_fd_ok mp_k_cX9_rows_ok (by decide +kernel) | decide +kernel) (fun v_10 w_11 h_12 => ?_)
    rcases h_12 with ⟨rfl, x_13, rfl⟩ | ⟨rfl, c_14, c_15, x_16, rfl⟩
    · skip
      show mp_W E X 4 25 [(0, .ref a0), (1, .int x0), (2, .int x1)] [.int 0] w3_ 0 0
      refine mp_run mp_k_cX9_rows_ok hF mp_tabX9_ok [mp_h (.ifCond .ne 6) [31]] (by decide +kernel) ?_
      refine And.intro (fun c_17 => absurd c_17 (by decide)) (fun _ => ?_)
      show mp_W E X 4 28 [(0, .ref a0), (1, .int x0), (2, .int x1)] [] w3_ 0 0
      refine mp_run mp_k_cX9_rows_ok hF mp_tabX9_ok [mp_c (.bipush (-2)) (-2)] (by decide +kernel) ?_
      show mp_W E X 4 30 [(0, .ref a0), (1, .int x0), (2, .int x1)] [.int (-2)] w3_ 0 0
      exact mp_iret hF hQ rfl rfl (Nat.le_of_ble_eq_true rfl) (Nat.le_of_ble_eq_true rfl) [0, 1, 11, 2, 3, 4, 5, 6, 7, 8, 9, 10] (w' := w1_) rfl rfl (Or.inl ⟨rfl, (by first | (first | exact q0 | omega) | decide | (have h8 : (0 : Int64).toInt = 0 := rfl; have h9 : (-1 : Int32).toInt = -1 := rfl; have h10 : (-2 : Int32).toInt = -2 := rfl; have h11 : (0 : Int32).toInt = 0 := rfl; have h12 : (1 : Int32).toInt = 1 := rfl; have h13 : (-5 : Int32).toInt = -5 := rfl; have h14 : (-3 : Int32).toInt = -3 := rfl; omega)), (by first | (first | exact mp_o484 x_13 | omega) | decide | (have h8 : (0 : Int64).toInt = 0 := rfl; have h9 : (-1 : Int32).toInt = -1 := rfl; have h10 : (-2 : Int32).toInt = -2 := rfl; have h11 : (0 : Int32).toInt = 0 := rfl; have h12 : (1 : Int32).toInt = 1 := rfl; have h13 : (-5 : Int32).toInt = -5 := rfl; have h14 : (-3 : Int32).toInt = -3 := rfl; omega)), q1, rfl⟩) (by first | exact mp_fd_ok mp_k_cX9_rows_ok (by decide +kernel) | decide +kernel)
    · skip
      have c_14 : 0 ≤ x1.toInt := c_14
      have c_15 : x1.toInt < y2.toInt := c_15
      show mp_W E X 4 25 [(0, .ref a0), (1, .int x0), (2, .int x1)] [.int 1] w3_ 0 0
      refine mp_run mp_k_cX9_rows_ok hF mp_tabX9_ok [mp_h (.ifCond .ne 6) [31]] (by decide +kernel) ?_
      refine And.intro (fun _ => ?_) (fun c_18 => absurd c_18 (by decide))
      show mp_W E X 4 31 [(0, .ref a0), (1, .int x0), (2, .int x1)] [] w3_ 0 0
      refine mp_run mp_k_cX9_rows_ok hF mp_tabX9_ok [mp_i (.aload_n 0), mp_h (.getfield 19) [37, 0], mp_i (.iload_n 1), mp_i (.iload_n 2)] (by decide +kernel) ?_
      refine And.intro rfl (And.intro rfl ?_)
      show mp_W E X 4 37 [(0, .ref a0), (1, .int x0), (2, .int x1)] [.int x1, .int x0, .ref a1] w3_ 0 0
      refine mp_callV hF (As := [.int x0, .int x1]) (rest := []) (wr := [(mp_ob9 a0 a12 a1 a13 a14 a15 a16 a17 a18 a19), (mp_arI E a5 0 6 f2), (mp_arI E a7 0 60 f4), (mp_arI E a9 0 6 f6), (mp_arL E a11 20 f8)]) (bX0_canRow_89 E a1 a2 a3 a4 a6 a8 a10 a9 a11 a20 a21 a5 a22 a23 a24 a25 a26 a27 a28 a7 f0 f1 f3 f5 f7 y0 y1 y2 y3 y4 y5 y6 x0 x1 p0 p3 (by (first | exact c_5 | omega)) (by (first | exact mp_o398 u_y4 c_6 | omega)) (by (first | exact c_14 | omega)) (by (first | exact mp_o398 u_y2 c_15 | omega)) l_y0 u_y0 l_y2 u_y2 l_y3 u_y3 l_y4 u_y4 l_y5 u_y5 l_y6 u_y6) mp_lkX9_205 1 rfl [1, 11, 2, 3, 5, 7, 9] [0, 4, 6, 8, 10] rfl rfl rfl rfl rfl ⟨(Nat.le_of_ble_eq_true rfl), (Nat.le_of_ble_eq_true rfl), (Nat.le_of_ble_eq_true rfl), (Nat.le_of_ble_eq_true rfl)⟩ (Nat.le_of_ble_eq_true rfl) (by first | exact mp_fd_ok mp_k_cX9_rows_ok (by decide +kernel) | decide +kernel) (fun v_19 w_20 h_21 => ?_)
      rcases h_21 with ⟨rfl, x_22, rfl⟩ | ⟨rfl, x_23, rfl⟩
      · skip
        let w4_ : va_W := [(mp_ob9 a0 a12 a1 a13 a14 a15 a16 a17 a18 a19), (mp_arI E a5 0 6 f2), (mp_arI E a7 0 60 f4), (mp_arI E a9 0 6 f6), (mp_arL E a11 20 f8), (mp_ob0 a1 a2 y0 a8 a9 a10 a11 a20 a21), (mp_ob7 a2 y1 y2 y3 y4 y5 y6 a3 a4 a5 a6 a22 a23 a24 a25 a26 a27 a28 a7), (mp_arI E a3 0 36 f0), (mp_arL E a4 12 f1), (mp_arI E a6 0 6 f3), (mp_arI E a8 0 6 f5), (mp_arI E a10 0 6 f7)]
        show mp_W E X 4 40 [(0, .ref a0), (1, .int x0), (2, .int x1)] [.int 0] w4_ 0 0
        refine mp_run mp_k_cX9_rows_ok hF mp_tabX9_ok [mp_h (.ifCond .ne 6) [46]] (by decide +kernel) ?_
        refine And.intro (fun c_24 => absurd c_24 (by decide)) (fun _ => ?_)
        show mp_W E X 4 43 [(0, .ref a0), (1, .int x0), (2, .int x1)] [] w4_ 0 0
        refine mp_run mp_k_cX9_rows_ok hF mp_tabX9_ok [mp_c (.bipush (-5)) (-5)] (by decide +kernel) ?_
        show mp_W E X 4 45 [(0, .ref a0), (1, .int x0), (2, .int x1)] [.int (-5)] w4_ 0 0
        exact mp_iret hF hQ rfl rfl (Nat.le_of_ble_eq_true rfl) (Nat.le_of_ble_eq_true rfl) [0, 5, 6, 7, 8, 1, 9, 2, 10, 3, 11, 4] (w' := w1_) rfl rfl (Or.inr (Or.inl ⟨rfl, (by first | (first | exact c_5 | omega) | decide), (by first | (first | exact c_6 | omega) | decide), (by first | (first | exact c_14 | omega) | decide), (by first | (first | exact c_15 | omega) | decide), (by first | (first | exact q0 | omega) | decide | (have h8 : (0 : Int64).toInt = 0 := rfl; have h9 : (-1 : Int32).toInt = -1 := rfl; have h10 : (-2 : Int32).toInt = -2 := rfl; have h11 : (0 : Int32).toInt = 0 := rfl; have h12 : (1 : Int32).toInt = 1 := rfl; have h13 : (-5 : Int32).toInt = -5 := rfl; have h14 : (-3 : Int32).toInt = -3 := rfl; omega)), (by first | (first | exact mp_o485 c_5 c_14 c_6 c_15 | omega) | decide | (have h8 : (0 : Int64).toInt = 0 := rfl; have h9 : (-1 : Int32).toInt = -1 := rfl; have h10 : (-2 : Int32).toInt = -2 := rfl; have h11 : (0 : Int32).toInt = 0 := rfl; have h12 : (1 : Int32).toInt = 1 := rfl; have h13 : (-5 : Int32).toInt = -5 := rfl; have h14 : (-3 : Int32).toInt = -3 := rfl; omega)), (Or.inl (by have k9 := x_22; have k8 := q1 x0.toInt.toNat (by (first | exact mp_o473 c_5 c_6 | omega)); rw [k8.1, k8.2.2, show y0.toInt = (y3.toInt + mp_k200 f4 y6.toInt) from by (first | exact q0 | omega)] at k9; exact k9)), q1, rfl⟩)) (by first | exact mp_fd_ok mp_k_cX9_rows_ok (by decide +kernel) | decide +kernel)
      · skip
        let w5_ : va_W := [(mp_ob9 a0 a12 a1 a13 a14 a15 a16 a17 a18 a19), (mp_arI E a5 0 6 f2), (mp_arI E a7 0 60 f4), (mp_arI E a9 0 6 f6), (mp_arL E a11 20 f8), (mp_ob0 a1 a2 y0 a8 a9 a10 a11 a20 a21), (mp_ob7 a2 y1 y2 y3 y4 y5 y6 a3 a4 a5 a6 a22 a23 a24 a25 a26 a27 a28 a7), (mp_arI E a3 0 36 f0), (mp_arL E a4 12 f1), (mp_arI E a6 0 6 f3), (mp_arI E a8 0 6 f5), (mp_arI E a10 0 6 f7)]
        show mp_W E X 4 40 [(0, .ref a0), (1, .int x0), (2, .int x1)] [.int 1] w5_ 0 0
        refine mp_run mp_k_cX9_rows_ok hF mp_tabX9_ok [mp_h (.ifCond .ne 6) [46]] (by decide +kernel) ?_
        refine And.intro (fun _ => ?_) (fun c_25 => absurd c_25 (by decide))
        show mp_W E X 4 46 [(0, .ref a0), (1, .int x0), (2, .int x1)] [] w5_ 0 0
        refine mp_run mp_k_cX9_rows_ok hF mp_tabX9_ok [mp_i (.aload_n 0), mp_h (.getfield 19) [37, 0], mp_h (.getfield 83) [20, 5], mp_i (.aload_n 0), mp_h (.getfield 19) [37, 0], mp_h (.getfield 199) [22, 5], mp_i (.iload_n 1), mp_h .iaload [10], mp_i (.iload_n 2)] (by decide +kernel) ?_
        refine And.intro rfl (And.intro rfl ?_)
        refine And.intro rfl (And.intro rfl ?_)
        refine And.intro rfl (And.intro rfl ?_)
        refine And.intro rfl (And.intro rfl ?_)
        refine And.intro rfl (And.intro rfl (And.intro (vp_in_iff.mpr (by (first | exact mp_o349 c_5 u_y4 c_6 | omega))) ?_))
        intro z_26 h_27
        have e_28 : 0 ≤ z_26.toInt ∧ z_26.toInt ≤ 5 := mp_all_ld h_27 p3 (by (first | exact c_5 | omega)) (by (first | exact mp_o350 u_y4 c_6 | omega))
        have e_29 : z_26.toInt = (f5 x0.toInt.toNat).toInt := congrArg Int32.toInt h_27
        show mp_W E X 4 63 [(0, .ref a0), (1, .int x0), (2, .int x1)] [.int x1, .int z_26, .ref a2] w5_ 0 0
        refine mp_callV hF (As := [.int z_26, .int x1]) (rest := []) (wr := [(mp_ob9 a0 a12 a1 a13 a14 a15 a16 a17 a18 a19), (mp_arI E a5 0 6 f2), (mp_arI E a7 0 60 f4), (mp_arI E a9 0 6 f6), (mp_arL E a11 20 f8), (mp_ob0 a1 a2 y0 a8 a9 a10 a11 a20 a21), (mp_arL E a4 12 f1), (mp_arI E a6 0 6 f3), (mp_arI E a8 0 6 f5), (mp_arI E a10 0 6 f7)]) (bX7_oarsBetween_46 E a2 a3 a4 a5 a6 a22 a23 a24 a25 a26 a27 a28 a7 f0 y1 y2 y3 y4 y5 y6 z_26 x1 p0 e_28.1 e_28.2 (by (first | exact c_14 | omega)) (by (first | exact mp_o398 u_y2 c_15 | omega)) l_y2 u_y2 l_y3 u_y3 l_y4 u_y4 l_y5 u_y5 l_y6 u_y6) mp_lkX9_144 6 rfl [6, 7] [0, 1, 2, 3, 4, 5, 8, 9, 10, 11] rfl rfl rfl rfl rfl ⟨(Nat.le_of_ble_eq_true rfl), (Nat.le_of_ble_eq_true rfl), (Nat.le_of_ble_eq_true rfl), (Nat.le_of_ble_eq_true rfl)⟩ (Nat.le_of_ble_eq_true rfl) (by first | exact mp_fd_ok mp_k_cX9_rows_ok (by decide +kernel) | decide +kernel) (fun v_30 w_31 h_32 => ?_)
        refine h_32.elim fun r_33 q_37 => q_37.elim fun e_38 q_39 => q_39.elim fun l_34 q_40 => q_40.elim fun u_35 q_41 => q_41.elim fun x_36 e_42 => ?_
        clear h_32 q_37 q_39 q_40 q_41
        subst e_38
        subst e_42
        let w6_ : va_W := [(mp_ob9 a0 a12 a1 a13 a14 a15 a16 a17 a18 a19), (mp_arI E a5 0 6 f2), (mp_arI E a7 0 60 f4), (mp_arI E a9 0 6 f6), (mp_arL E a11 20 f8), (mp_ob0 a1 a2 y0 a8 a9 a10 a11 a20 a21), (mp_arL E a4 12 f1), (mp_arI E a6 0 6 f3), (mp_arI E a8 0 6 f5), (mp_arI E a10 0 6 f7), (mp_ob7 a2 y1 y2 y3 y4 y5 y6 a3 a4 a5 a6 a22 a23 a24 a25 a26 a27 a28 a7), (mp_arI E a3 0 36 f0)]
        show mp_W E X 4 66 [(0, .ref a0), (1, .int x0), (2, .int x1)] [.int r_33] w6_ 0 0
        refine mp_run mp_k_cX9_rows_ok hF mp_tabX9_ok [mp_i (.istore_n 3), mp_i (.aload_n 0), mp_h (.getfield 19) [37, 0], mp_c (.bipush 10) 10, mp_i (.iload_n 1), mp_i .imul, mp_i (.iload_n 2), mp_i .iadd] (by decide +kernel) ?_
        refine And.intro rfl (And.intro rfl ?_)
        intro z_43 h_44
        have e_45 : z_43.toInt = 10 * x0.toInt := mp_mul (a := 10) (b := x0.toInt) h_44 (by decide) rfl (by (first | exact mp_o486 c_5 | omega)) (by (first | exact mp_o487 u_y4 c_6 | omega))
        intro z_46 h_47
        have e_48 : z_46.toInt = z_43.toInt + x1.toInt := mp_add (a := z_43.toInt) (b := x1.toInt) h_47 rfl rfl (by (first | exact mp_o488 c_14 c_5 e_45 | omega)) (by (first | exact mp_o489 u_y2 c_15 u_y4 c_6 e_45 | omega))
        show mp_W E X 4 77 [(3, .int r_33), (0, .ref a0), (1, .int x0), (2, .int x1)] [.int z_46, .ref a1] w6_ 0 0
        refine mp_callV hF (As := [.int z_46]) (rest := []) (wr := [(mp_ob9 a0 a12 a1 a13 a14 a15 a16 a17 a18 a19), (mp_arI E a5 0 6 f2), (mp_arL E a4 12 f1), (mp_arI E a6 0 6 f3)]) (bX0_addAct_90 E a1 a2 a3 a7 a8 a9 a10 a11 a20 a21 a4 a5 a6 a22 a23 a24 a25 a26 a27 a28 f0 f4 f5 f6 f7 f8 y0 y1 y2 y3 y4 y5 y6 z_46 p0 p2 p3 (by (first | exact mp_o490 c_5 c_14 e_45 e_48 | omega)) (by (first | exact mp_o491 u_y2 c_15 u_y4 c_6 e_45 e_48 | omega)) l_y0 u_y0 l_y2 u_y2 l_y3 u_y3 l_y4 u_y4 l_y5 u_y5 l_y6 u_y6 (by first | (first | exact mp_o492 l_y2 u_y2 l_y4 u_y4 c_5 c_6 c_14 c_15 e_45 e_48 | omega) | (show (((200 : Int) = 200 ∧ _ ≤ 98) ∨ _); omega) | decide) (by (first | exact q0 | omega))) mp_lkX9_208 5 rfl [5, 10, 11, 2, 8, 3, 9, 4] [0, 1, 6, 7] rfl rfl rfl rfl rfl ⟨(Nat.le_of_ble_eq_true rfl), (Nat.le_of_ble_eq_true rfl), (Nat.le_of_ble_eq_true rfl), (Nat.le_of_ble_eq_true rfl)⟩ (Nat.le_of_ble_eq_true rfl) (by first | exact mp_fd_ok mp_k_cX9_rows_ok (by decide +kernel) | decide +kernel) (fun v_49 w_50 h_51 => ?_)
        refine h_51.elim (fun q_75 => ?_) (fun q_76 => ?_)
        · skip
          refine q_75.elim fun r_52 q_77 => q_77.elim fun r_53 q_78 => q_78.elim fun g_54 q_79 => q_79.elim fun g_55 q_80 => q_80.elim fun g_56 q_81 => q_81.elim fun g_57 q_82 => q_82.elim fun g_58 q_83 => q_83.elim fun e_84 q_85 => q_85.elim fun c_59 q_86 => q_86.elim fun l_60 q_87 => q_87.elim fun u_61 q_88 => q_88.elim fun l_62 q_89 => q_89.elim fun u_63 q_90 => q_90.elim fun p_64 q_91 => q_91.elim fun p_65 q_92 => q_92.elim fun x_66 q_93 => q_93.elim fun x_67 q_94 => q_94.elim fun x_68 q_95 => q_95.elim fun x_69 q_96 => q_96.elim fun x_70 q_97 => q_97.elim fun x_71 e_98 => ?_
          clear h_51 q_75 q_77 q_78 q_79 q_80 q_81 q_82 q_83 q_85 q_86 q_87 q_88 q_89 q_90 q_91 q_92 q_93 q_94 q_95 q_96 q_97
          subst e_84
          subst e_98
          have c_59 : y6.toInt < 60 := c_59
          let w7_ : va_W := [(mp_ob9 a0 a12 a1 a13 a14 a15 a16 a17 a18 a19), (mp_arI E a5 0 6 f2), (mp_arL E a4 12 f1), (mp_arI E a6 0 6 f3), (mp_ob0 a1 a2 r_52 a8 a9 a10 a11 a20 a21), (mp_ob7 a2 y1 y2 y3 y4 y5 r_53 a3 a4 a5 a6 a22 a23 a24 a25 a26 a27 a28 a7), (mp_arI E a3 0 36 f0), (mp_arI E a7 0 60 g_54), (mp_arI E a8 0 6 g_55), (mp_arI E a9 0 6 g_56), (mp_arI E a10 0 6 g_57), (mp_arL E a11 20 g_58)]
          show mp_W E X 4 80 [(3, .int r_33), (0, .ref a0), (1, .int x0), (2, .int x1)] [.int 1] w7_ 0 0
          refine mp_run mp_k_cX9_rows_ok hF mp_tabX9_ok [mp_h (.ifCond .eq 7) [87]] (by decide +kernel) ?_
          refine And.intro (fun c_99 => absurd c_99 (by decide)) (fun _ => ?_)
          show mp_W E X 4 83 [(3, .int r_33), (0, .ref a0), (1, .int x0), (2, .int x1)] [] w7_ 0 0
          refine mp_run mp_k_cX9_rows_ok hF mp_tabX9_ok [mp_i (.iload_n 3), mp_h (.goto 5) [89]] (by decide +kernel) ?_
          show mp_W E X 4 89 [(3, .int r_33), (0, .ref a0), (1, .int x0), (2, .int x1)] [.int r_33] w7_ 0 0
          exact mp_iret hF hQ rfl rfl (Nat.le_of_ble_eq_true rfl) (Nat.le_of_ble_eq_true rfl) [0, 4, 5, 6, 2, 1, 3, 7, 8, 9, 10, 11] (w' := [(mp_ob9 a0 a12 a1 a13 a14 a15 a16 a17 a18 a19), (mp_ob0 a1 a2 r_52 a8 a9 a10 a11 a20 a21), (mp_ob7 a2 y1 y2 y3 y4 y5 r_53 a3 a4 a5 a6 a22 a23 a24 a25 a26 a27 a28 a7), (mp_arI E a3 0 36 f0), (mp_arL E a4 12 f1), (mp_arI E a5 0 6 f2), (mp_arI E a6 0 6 f3), (mp_arI E a7 0 60 g_54), (mp_arI E a8 0 6 g_55), (mp_arI E a9 0 6 g_56), (mp_arI E a10 0 6 g_57), (mp_arL E a11 20 g_58)]) rfl rfl (Or.inr (Or.inr ⟨r_52, r_53, g_54, g_55, g_56, g_57, g_58, r_33, rfl, (by first | (first | exact c_5 | omega) | decide), (by first | (first | exact c_6 | omega) | decide), (by first | (first | exact c_14 | omega) | decide), (by first | (first | exact c_15 | omega) | decide), (by first | (first | exact c_59 | omega) | decide), l_60, u_61, l_62, u_63, l_34, u_35, p_64, p_65, (by first | (first | exact x_66 | omega) | decide | (have h8 : (0 : Int64).toInt = 0 := rfl; have h9 : (-1 : Int32).toInt = -1 := rfl; have h10 : (-2 : Int32).toInt = -2 := rfl; have h11 : (0 : Int32).toInt = 0 := rfl; have h12 : (1 : Int32).toInt = 1 := rfl; have h13 : (-5 : Int32).toInt = -5 := rfl; have h14 : (-3 : Int32).toInt = -3 := rfl; omega)), (by first | (first | exact mp_o485 c_5 c_14 c_6 c_15 | omega) | decide | (have h8 : (0 : Int64).toInt = 0 := rfl; have h9 : (-1 : Int32).toInt = -1 := rfl; have h10 : (-2 : Int32).toInt = -2 := rfl; have h11 : (0 : Int32).toInt = 0 := rfl; have h12 : (1 : Int32).toInt = 1 := rfl; have h13 : (-5 : Int32).toInt = -5 := rfl; have h14 : (-3 : Int32).toInt = -3 := rfl; omega)), (by have k9 := x_23; have k8 := q1 x0.toInt.toNat (by (first | exact mp_o473 c_5 c_6 | omega)); rw [k8.1, k8.2.2, show y0.toInt = (y3.toInt + mp_k200 f4 y6.toInt) from by (first | exact q0 | omega)] at k9; exact k9), (by have k8 := q1 x0.toInt.toNat (by (first | exact mp_o473 c_5 c_6 | omega)); have k7 := x_36; rw [← k8.1]; rw [show z_26.toInt = (f5 x0.toInt.toNat).toInt from by (first | exact e_29 | omega)] at k7; exact k7), (by first | (first | exact x_68 | omega) | decide | (have h8 : (0 : Int64).toInt = 0 := rfl; have h9 : (-1 : Int32).toInt = -1 := rfl; have h10 : (-2 : Int32).toInt = -2 := rfl; have h11 : (0 : Int32).toInt = 0 := rfl; have h12 : (1 : Int32).toInt = 1 := rfl; have h13 : (-5 : Int32).toInt = -5 := rfl; have h14 : (-3 : Int32).toInt = -3 := rfl; omega)), (by first | (first | exact x_69 | omega) | decide | (have h8 : (0 : Int64).toInt = 0 := rfl; have h9 : (-1 : Int32).toInt = -1 := rfl; have h10 : (-2 : Int32).toInt = -2 := rfl; have h11 : (0 : Int32).toInt = 0 := rfl; have h12 : (1 : Int32).toInt = 1 := rfl; have h13 : (-5 : Int32).toInt = -5 := rfl; have h14 : (-3 : Int32).toInt = -3 := rfl; omega)), (by rw [x_70, mp_ofi (x := z_46) (v := 10 * x0.toInt + x1.toInt) (by first | (first | exact mp_o493 e_45 e_48 | omega) | decide)]), (mp_CS_to (mp_CS_add q1 x_71 x_70 ⟨by first | rfl | omega, by first | (first | exact mp_o490 c_5 c_14 e_45 e_48 | omega) | decide⟩ (show _ = _ + mp_k200 f4 y6.toInt by (first | exact q0 | omega))) (by (first | exact mp_o494 l_62 x_69 | omega))), rfl⟩)) (by first | exact mp_fd_ok mp_k_cX9_rows_ok (by decide +kernel) | decide +kernel)
        · skip
          refine q_76.elim fun e_100 q_101 => q_101.elim fun c_72 q_102 => q_102.elim fun x_73 q_103 => q_103.elim fun x_74 e_104 => ?_
          clear h_51 q_76 q_101 q_102 q_103
          subst e_100
          subst e_104
          have c_72 : 60 ≤ y6.toInt := c_72
          let w8_ : va_W := [(mp_ob9 a0 a12 a1 a13 a14 a15 a16 a17 a18 a19), (mp_arI E a5 0 6 f2), (mp_arL E a4 12 f1), (mp_arI E a6 0 6 f3), (mp_ob0 a1 a2 y0 a8 a9 a10 a11 a20 a21), (mp_ob7 a2 y1 y2 y3 y4 y5 y6 a3 a4 a5 a6 a22 a23 a24 a25 a26 a27 a28 a7), (mp_arI E a3 0 36 f0), (mp_arI E a7 0 60 f4), (mp_arI E a8 0 6 f5), (mp_arI E a9 0 6 f6), (mp_arI E a10 0 6 f7), (mp_arL E a11 20 f8)]
          show mp_W E X 4 80 [(3, .int r_33), (0, .ref a0), (1, .int x0), (2, .int x1)] [.int 0] w8_ 0 0
          refine mp_run mp_k_cX9_rows_ok hF mp_tabX9_ok [mp_h (.ifCond .eq 7) [87]] (by decide +kernel) ?_
          refine And.intro (fun _ => ?_) (fun c_105 => absurd c_105 (by decide))
          show mp_W E X 4 87 [(3, .int r_33), (0, .ref a0), (1, .int x0), (2, .int x1)] [] w8_ 0 0
          refine mp_run mp_k_cX9_rows_ok hF mp_tabX9_ok [mp_c (.bipush (-5)) (-5)] (by decide +kernel) ?_
          show mp_W E X 4 89 [(3, .int r_33), (0, .ref a0), (1, .int x0), (2, .int x1)] [.int (-5)] w8_ 0 0
          exact mp_iret hF hQ rfl rfl (Nat.le_of_ble_eq_true rfl) (Nat.le_of_ble_eq_true rfl) [0, 4, 5, 6, 2, 1, 3, 7, 8, 9, 10, 11] (w' := w1_) rfl rfl (Or.inr (Or.inl ⟨rfl, (by first | (first | exact c_5 | omega) | decide), (by first | (first | exact c_6 | omega) | decide), (by first | (first | exact c_14 | omega) | decide), (by first | (first | exact c_15 | omega) | decide), (by first | (first | exact x_73 | omega) | decide | (have h8 : (0 : Int64).toInt = 0 := rfl; have h9 : (-1 : Int32).toInt = -1 := rfl; have h10 : (-2 : Int32).toInt = -2 := rfl; have h11 : (0 : Int32).toInt = 0 := rfl; have h12 : (1 : Int32).toInt = 1 := rfl; have h13 : (-5 : Int32).toInt = -5 := rfl; have h14 : (-3 : Int32).toInt = -3 := rfl; omega)), (by first | (first | exact mp_o485 c_5 c_14 c_6 c_15 | omega) | decide | (have h8 : (0 : Int64).toInt = 0 := rfl; have h9 : (-1 : Int32).toInt = -1 := rfl; have h10 : (-2 : Int32).toInt = -2 := rfl; have h11 : (0 : Int32).toInt = 0 := rfl; have h12 : (1 : Int32).toInt = 1 := rfl; have h13 : (-5 : Int32).toInt = -5 := rfl; have h14 : (-3 : Int32).toInt = -3 := rfl; omega)), (Or.inr (by (first | exact c_72 | omega))), q1, rfl⟩)) (by first | exact mp_fd_ok mp_k_cX9_rows_ok (by decide +kernel) | decide +kernel)
set_option maxHeartbeats 4000000 in
set_option maxRecDepth 100000 in
theorem bX7_bothLive_92 (E : mp_E) (a0 a1 a2 a3 a4 a5 a6 a7 a8 a9 a10 a11 a12 : Nat) (f0 : Nat → Int32) (f1 : Nat → Int32) (f2 : Nat → Int32) (y0 : Int32) (y1 : Int32) (y2 : Int32) (y3 : Int32) (y4 : Int32) (y5 : Int32) (x0 : Int32) (x1 : Int32) (p0 : mp_all f1 10 0 5) (p1 : mp_all f2 10 0 5) (l_x0 : 0 ≤ x0.toInt) (u_x0 : x0.toInt ≤ 9) (l_y1 : 0 ≤ y1.toInt) (u_y1 : y1.toInt ≤ 6) (l_y2 : 0 ≤ y2.toInt) (u_y2 : y2.toInt ≤ 99) (l_y3 : 0 ≤ y3.toInt) (u_y3 : y3.toInt ≤ 6) (l_y4 : 0 ≤ y4.toInt) (u_y4 : y4.toInt ≤ 10) (l_y5 : 0 ≤ y5.toInt) (u_y5 : y5.toInt ≤ 60) : mp_Ct E yX7_bothLive cX7_bothLive 3 (some FieldType.boolean) 1 0 0 22 [.ref a0, .int x0, .int x1] [(mp_ob7 a0 y0 y1 y2 y3 y4 y5 a4 a5 a6 a1 a7 a2 a3 a8 a9 a10 a11 a12), (mp_arI E a1 0 6 f0), (mp_arI E a2 0 10 f1), (mp_arI E a3 0 10 f2)] (fun v w' => (v = some (.int 1) ∧ ((¬ mp_deadx (f0 (f1 x0.toInt.toNat).toInt.toNat).toInt x1.toInt ∧ ¬ mp_deadx (f0 (f2 x0.toInt.toNat).toInt.toNat).toInt x1.toInt)) ∧ w' = [(mp_ob7 a0 y0 y1 y2 y3 y4 y5 a4 a5 a6 a1 a7 a2 a3 a8 a9 a10 a11 a12), (mp_arI E a1 0 6 f0), (mp_arI E a2 0 10 f1), (mp_arI E a3 0 10 f2)]) ∨ (v = some (.int 0) ∧ (¬ (¬ mp_deadx (f0 (f1 x0.toInt.toNat).toInt.toNat).toInt x1.toInt ∧ ¬ mp_deadx (f0 (f2 x0.toInt.toNat).toInt.toNat).toInt x1.toInt)) ∧ w' = [(mp_ob7 a0 y0 y1 y2 y3 y4 y5 a4 a5 a6 a1 a7 a2 a3 a8 a9 a10 a11 a12), (mp_arI E a1 0 6 f0), (mp_arI E a2 0 10 f1), (mp_arI E a3 0 10 f2)])) := by
  refine mp_met false (by decide) (by decide) (Nat.le_of_ble_eq_true rfl) (fun X hF hQ => ?_)
  have hF : mp_F E X (RX7, cX7_bothLive, 3, (1, 0, 0, 22), (some FieldType.boolean), false) := hF
  let w1_ : va_W := [(mp_ob7 a0 y0 y1 y2 y3 y4 y5 a4 a5 a6 a1 a7 a2 a3 a8 a9 a10 a11 a12), (mp_arI E a1 0 6 f0), (mp_arI E a2 0 10 f1), (mp_arI E a3 0 10 f2)]
  show mp_W E X 3 0 [(0, .ref a0), (1, .int x0), (2, .int x1)] [] w1_ 0 0
  refine mp_run mp_k_cX7_bothLive_ok hF mp_tabX7_ok [mp_i (.aload_n 0), mp_i (.aload_n 0), mp_h (.getfield 28) [11, 0], mp_i (.iload_n 1), mp_h .iaload [2], mp_i (.iload_n 2)] (by decide +kernel) ?_
  refine And.intro rfl (And.intro rfl ?_)
  refine And.intro rfl (And.intro rfl (And.intro (vp_in_iff.mpr (by (first | exact mp_o181 l_x0 u_x0 | omega))) ?_))
  intro z_1 h_2
  have e_3 : 0 ≤ z_1.toInt ∧ z_1.toInt ≤ 5 := mp_all_ld h_2 p0 (by (first | exact l_x0 | omega)) (by (first | exact mp_o208 u_x0 | omega))
  have e_4 : z_1.toInt = (f1 x0.toInt.toNat).toInt := congrArg Int32.toInt h_2
  show mp_W E X 3 8 [(0, .ref a0), (1, .int x0), (2, .int x1)] [.int x1, .int z_1, .ref a0] w1_ 0 0
  refine mp_callV hF (As := [.int z_1, .int x1]) (rest := []) (wr := [(mp_arI E a2 0 10 f1), (mp_arI E a3 0 10 f2)]) (bX7_lives_87 E a0 a1 a4 a5 a6 a7 a2 a3 a8 a9 a10 a11 a12 f0 y0 y1 y2 y3 y4 y5 z_1 x1 e_3.1 e_3.2 l_y1 u_y1 l_y2 u_y2 l_y3 u_y3 l_y4 u_y4 l_y5 u_y5) mp_lkX7_91 0 rfl [0, 1] [2, 3] rfl rfl rfl rfl rfl ⟨(Nat.le_of_ble_eq_true rfl), (Nat.le_of_ble_eq_true rfl), (Nat.le_of_ble_eq_true rfl), (Nat.le_of_ble_eq_true rfl)⟩ (Nat.le_of_ble_eq_true rfl) (by first | exact mp_fd_ok mp_k_cX7_bothLive_ok (by decide +kernel) | decide +kernel) (fun v_5 w_6 h_7 => ?_)
  rcases h_7 with ⟨rfl, x_8, rfl⟩ | ⟨rfl, x_9, rfl⟩
  · skip
    let w2_ : va_W := [(mp_arI E a2 0 10 f1), (mp_arI E a3 0 10 f2), (mp_ob7 a0 y0 y1 y2 y3 y4 y5 a4 a5 a6 a1 a7 a2 a3 a8 a9 a10 a11 a12), (mp_arI E a1 0 6 f0)]
    show mp_W E X 3 11 [(0, .ref a0), (1, .int x0), (2, .int x1)] [.int 1] w2_ 0 0
    refine mp_run mp_k_cX7_bothLive_ok hF mp_tabX7_ok [mp_h (.ifCond .eq 21) [32]] (by decide +kernel) ?_
    refine And.intro (fun c_10 => absurd c_10 (by decide)) (fun _ => ?_)
    show mp_W E X 3 14 [(0, .ref a0), (1, .int x0), (2, .int x1)] [] w2_ 0 0
    refine mp_run mp_k_cX7_bothLive_ok hF mp_tabX7_ok [mp_i (.aload_n 0), mp_i (.aload_n 0), mp_h (.getfield 31) [12, 2], mp_i (.iload_n 1), mp_h .iaload [1], mp_i (.iload_n 2)] (by decide +kernel) ?_
    refine And.intro rfl (And.intro rfl ?_)
    refine And.intro rfl (And.intro rfl (And.intro (vp_in_iff.mpr (by (first | exact mp_o181 l_x0 u_x0 | omega))) ?_))
    intro z_11 h_12
    have e_13 : 0 ≤ z_11.toInt ∧ z_11.toInt ≤ 5 := mp_all_ld h_12 p1 (by (first | exact l_x0 | omega)) (by (first | exact mp_o208 u_x0 | omega))
    have e_14 : z_11.toInt = (f2 x0.toInt.toNat).toInt := congrArg Int32.toInt h_12
    show mp_W E X 3 22 [(0, .ref a0), (1, .int x0), (2, .int x1)] [.int x1, .int z_11, .ref a0] w2_ 0 0
    refine mp_callV hF (As := [.int z_11, .int x1]) (rest := []) (wr := [(mp_arI E a2 0 10 f1), (mp_arI E a3 0 10 f2)]) (bX7_lives_87 E a0 a1 a4 a5 a6 a7 a2 a3 a8 a9 a10 a11 a12 f0 y0 y1 y2 y3 y4 y5 z_11 x1 e_13.1 e_13.2 l_y1 u_y1 l_y2 u_y2 l_y3 u_y3 l_y4 u_y4 l_y5 u_y5) mp_lkX7_91 2 rfl [2, 3] [0, 1] rfl rfl rfl rfl rfl ⟨(Nat.le_of_ble_eq_true rfl), (Nat.le_of_ble_eq_true rfl), (Nat.le_of_ble_eq_true rfl), (Nat.le_of_ble_eq_true rfl)⟩ (Nat.le_of_ble_eq_true rfl) (by first | exact mp_fd_ok mp_k_cX7_bothLive_ok (by decide +kernel) | decide +kernel) (fun v_15 w_16 h_17 => ?_)
    rcases h_17 with ⟨rfl, x_18, rfl⟩ | ⟨rfl, x_19, rfl⟩
    · skip
      show mp_W E X 3 25 [(0, .ref a0), (1, .int x0), (2, .int x1)] [.int 1] w2_ 0 0
      refine mp_run mp_k_cX7_bothLive_ok hF mp_tabX7_ok [mp_h (.ifCond .eq 7) [32]] (by decide +kernel) ?_
      refine And.intro (fun c_20 => absurd c_20 (by decide)) (fun _ => ?_)
      show mp_W E X 3 28 [(0, .ref a0), (1, .int x0), (2, .int x1)] [] w2_ 0 0
      refine mp_run mp_k_cX7_bothLive_ok hF mp_tabX7_ok [mp_c (.iconst 1) 1, mp_h (.goto 4) [33]] (by decide +kernel) ?_
      show mp_W E X 3 33 [(0, .ref a0), (1, .int x0), (2, .int x1)] [.int 1] w2_ 0 0
      exact mp_iret hF hQ rfl (by decide) (Nat.le_of_ble_eq_true rfl) (Nat.le_of_ble_eq_true rfl) [2, 3, 0, 1] (w' := w1_) rfl rfl (Or.inl ⟨rfl, ⟨(by have k9 := x_8; (try rw [h_12] at k9); (try rw [h_2] at k9); exact k9), (by have k9 := x_18; (try rw [h_12] at k9); (try rw [h_2] at k9); exact k9)⟩, rfl⟩) (by first | exact mp_fd_ok mp_k_cX7_bothLive_ok (by decide +kernel) | decide +kernel)
    · skip
      show mp_W E X 3 25 [(0, .ref a0), (1, .int x0), (2, .int x1)] [.int 0] w2_ 0 0
      refine mp_run mp_k_cX7_bothLive_ok hF mp_tabX7_ok [mp_h (.ifCond .eq 7) [32]] (by decide +kernel) ?_
      refine And.intro (fun _ => ?_) (fun c_21 => absurd c_21 (by decide))
      show mp_W E X 3 32 [(0, .ref a0), (1, .int x0), (2, .int x1)] [] w2_ 0 0
      refine mp_run mp_k_cX7_bothLive_ok hF mp_tabX7_ok [mp_c (.iconst 0) 0] (by decide +kernel) ?_
      show mp_W E X 3 33 [(0, .ref a0), (1, .int x0), (2, .int x1)] [.int 0] w2_ 0 0
      exact mp_iret hF hQ rfl (by decide) (Nat.le_of_ble_eq_true rfl) (Nat.le_of_ble_eq_true rfl) [2, 3, 0, 1] (w' := w1_) rfl rfl (Or.inr ⟨rfl, (fun q => q.2 (by have k9 := x_19; (try rw [h_12] at k9); (try rw [h_2] at k9); exact k9)), rfl⟩) (by first | exact mp_fd_ok mp_k_cX7_bothLive_ok (by decide +kernel) | decide +kernel)
  · skip
    let w3_ : va_W := [(mp_arI E a2 0 10 f1), (mp_arI E a3 0 10 f2), (mp_ob7 a0 y0 y1 y2 y3 y4 y5 a4 a5 a6 a1 a7 a2 a3 a8 a9 a10 a11 a12), (mp_arI E a1 0 6 f0)]
    show mp_W E X 3 11 [(0, .ref a0), (1, .int x0), (2, .int x1)] [.int 0] w3_ 0 0
    refine mp_run mp_k_cX7_bothLive_ok hF mp_tabX7_ok [mp_h (.ifCond .eq 21) [32]] (by decide +kernel) ?_
    refine And.intro (fun _ => ?_) (fun c_22 => absurd c_22 (by decide))
    show mp_W E X 3 32 [(0, .ref a0), (1, .int x0), (2, .int x1)] [] w3_ 0 0
    refine mp_run mp_k_cX7_bothLive_ok hF mp_tabX7_ok [mp_c (.iconst 0) 0] (by decide +kernel) ?_
    show mp_W E X 3 33 [(0, .ref a0), (1, .int x0), (2, .int x1)] [.int 0] w3_ 0 0
    exact mp_iret hF hQ rfl (by decide) (Nat.le_of_ble_eq_true rfl) (Nat.le_of_ble_eq_true rfl) [2, 3, 0, 1] (w' := w1_) rfl rfl (Or.inr ⟨rfl, (fun q => q.1 (by have k9 := x_9; (try rw [h_2] at k9); exact k9)), rfl⟩) (by first | exact mp_fd_ok mp_k_cX7_bothLive_ok (by decide +kernel) | decide +kernel)
