set_option maxHeartbeats 4000000 in
set_option maxRecDepth 100000 in
theorem bX0_canSay_93 (E : mp_E) (a0 a1 a2 a3 a4 a5 a6 a7 a8 a9 a10 a11 a12 a13 a14 a15 a16 a17 a18 a19 : Nat) (f0 : Nat → Int32) (f1 : Nat → Int32) (f2 : Nat → Int32) (f3 : Nat → Int32) (y0 : Int32) (y1 : Int32) (y2 : Int32) (y3 : Int32) (y4 : Int32) (y5 : Int32) (y6 : Int32) (x0 : Int32) (p0 : mp_all f1 10 0 5) (p1 : mp_all f2 10 0 5) (p2 : mp_all f3 6 0 5) (l_x0 : 0 ≤ x0.toInt) (u_x0 : x0.toInt ≤ 9) (l_y0 : 0 ≤ y0.toInt) (u_y0 : y0.toInt ≤ 99) (l_y2 : 0 ≤ y2.toInt) (u_y2 : y2.toInt ≤ 6) (l_y3 : 0 ≤ y3.toInt) (u_y3 : y3.toInt ≤ 99) (l_y4 : 0 ≤ y4.toInt) (u_y4 : y4.toInt ≤ 6) (l_y5 : 0 ≤ y5.toInt) (u_y5 : y5.toInt ≤ 10) (l_y6 : 0 ≤ y6.toInt) (u_y6 : y6.toInt ≤ 60) : mp_Ct E yX0_canSay cX0_canSay 2 (some FieldType.boolean) 2 0 0 44 [.ref a0, .int x0] [(mp_ob0 a0 a1 y0 a5 a6 a7 a8 a9 a10), (mp_ob7 a1 y1 y2 y3 y4 y5 y6 a11 a12 a13 a2 a14 a3 a4 a15 a16 a17 a18 a19), (mp_arI E a2 0 6 f0), (mp_arI E a3 0 10 f1), (mp_arI E a4 0 10 f2), (mp_arI E a5 0 6 f3)] (fun v w' => (v = some (.int 0) ∧ (¬ ((f3 (f1 x0.toInt.toNat).toInt.toNat).toInt = (f3 (f2 x0.toInt.toNat).toInt.toNat).toInt ∧ ¬ mp_deadx (f0 (f1 x0.toInt.toNat).toInt.toNat).toInt y0.toInt ∧ ¬ mp_deadx (f0 (f2 x0.toInt.toNat).toInt.toNat).toInt y0.toInt)) ∧ w' = [(mp_ob0 a0 a1 y0 a5 a6 a7 a8 a9 a10), (mp_ob7 a1 y1 y2 y3 y4 y5 y6 a11 a12 a13 a2 a14 a3 a4 a15 a16 a17 a18 a19), (mp_arI E a2 0 6 f0), (mp_arI E a3 0 10 f1), (mp_arI E a4 0 10 f2), (mp_arI E a5 0 6 f3)]) ∨ (v = some (.int 1) ∧ (((f3 (f1 x0.toInt.toNat).toInt.toNat).toInt = (f3 (f2 x0.toInt.toNat).toInt.toNat).toInt ∧ ¬ mp_deadx (f0 (f1 x0.toInt.toNat).toInt.toNat).toInt y0.toInt ∧ ¬ mp_deadx (f0 (f2 x0.toInt.toNat).toInt.toNat).toInt y0.toInt)) ∧ w' = [(mp_ob0 a0 a1 y0 a5 a6 a7 a8 a9 a10), (mp_ob7 a1 y1 y2 y3 y4 y5 y6 a11 a12 a13 a2 a14 a3 a4 a15 a16 a17 a18 a19), (mp_arI E a2 0 6 f0), (mp_arI E a3 0 10 f1), (mp_arI E a4 0 10 f2), (mp_arI E a5 0 6 f3)])) := by
  refine mp_met false (by decide) (by decide) (Nat.le_of_ble_eq_true rfl) (fun X hF hQ => ?_)
  have hF : mp_F E X (RX0, cX0_canSay, 2, (2, 0, 0, 44), (some FieldType.boolean), false) := hF
  let w1_ : va_W := [(mp_ob0 a0 a1 y0 a5 a6 a7 a8 a9 a10), (mp_ob7 a1 y1 y2 y3 y4 y5 y6 a11 a12 a13 a2 a14 a3 a4 a15 a16 a17 a18 a19), (mp_arI E a2 0 6 f0), (mp_arI E a3 0 10 f1), (mp_arI E a4 0 10 f2), (mp_arI E a5 0 6 f3)]
  show mp_W E X 2 0 [(0, .ref a0), (1, .int x0)] [] w1_ 0 0
  refine mp_run mp_k_cX0_canSay_ok hF mp_tabX0_ok [mp_i (.aload_n 0), mp_h (.getfield 18) [13, 0], mp_i (.aload_n 0), mp_h (.getfield 12) [11, 0], mp_h (.getfield 73) [5, 1], mp_i (.iload_n 1), mp_h .iaload [3], mp_h .iaload [5], mp_i (.aload_n 0), mp_h (.getfield 18) [13, 0], mp_i (.aload_n 0), mp_h (.getfield 12) [11, 0], mp_h (.getfield 76) [6, 1], mp_i (.iload_n 1), mp_h .iaload [4], mp_h .iaload [5], mp_h (.if_icmp .ne 22) [50]] (by decide +kernel) ?_
  refine And.intro rfl (And.intro rfl ?_)
  refine And.intro rfl (And.intro rfl ?_)
  refine And.intro rfl (And.intro rfl ?_)
  refine And.intro rfl (And.intro rfl (And.intro (vp_in_iff.mpr (by (first | exact mp_o181 l_x0 u_x0 | omega))) ?_))
  intro z_1 h_2
  have e_3 : 0 ≤ z_1.toInt ∧ z_1.toInt ≤ 5 := mp_all_ld h_2 p0 (by (first | exact l_x0 | omega)) (by (first | exact mp_o208 u_x0 | omega))
  have e_4 : z_1.toInt = (f1 x0.toInt.toNat).toInt := congrArg Int32.toInt h_2
  refine And.intro rfl (And.intro rfl (And.intro (vp_in_iff.mpr (by (first | exact mp_o422 e_3 | omega))) ?_))
  intro z_5 h_6
  have e_7 : 0 ≤ z_5.toInt ∧ z_5.toInt ≤ 5 := mp_all_ld h_6 p2 (by (first | exact mp_o495 e_3 | omega)) (by (first | exact mp_o496 e_3 | omega))
  have e_8 : z_5.toInt = (f3 z_1.toInt.toNat).toInt := congrArg Int32.toInt h_6
  refine And.intro rfl (And.intro rfl ?_)
  refine And.intro rfl (And.intro rfl ?_)
  refine And.intro rfl (And.intro rfl ?_)
  refine And.intro rfl (And.intro rfl (And.intro (vp_in_iff.mpr (by (first | exact mp_o181 l_x0 u_x0 | omega))) ?_))
  intro z_9 h_10
  have e_11 : 0 ≤ z_9.toInt ∧ z_9.toInt ≤ 5 := mp_all_ld h_10 p1 (by (first | exact l_x0 | omega)) (by (first | exact mp_o208 u_x0 | omega))
  have e_12 : z_9.toInt = (f2 x0.toInt.toNat).toInt := congrArg Int32.toInt h_10
  refine And.intro rfl (And.intro rfl (And.intro (vp_in_iff.mpr (by (first | exact mp_o422 e_11 | omega))) ?_))
  intro z_13 h_14
  have e_15 : 0 ≤ z_13.toInt ∧ z_13.toInt ≤ 5 := mp_all_ld h_14 p2 (by (first | exact mp_o495 e_11 | omega)) (by (first | exact mp_o496 e_11 | omega))
  have e_16 : z_13.toInt = (f3 z_9.toInt.toNat).toInt := congrArg Int32.toInt h_14
  refine And.intro (fun c_17 => ?_) (fun c_17 => ?_)
  · have c_17 : z_5.toInt ≠ z_13.toInt := c_17
    show mp_W E X 2 50 [(0, .ref a0), (1, .int x0)] [] w1_ 0 0
    refine mp_run mp_k_cX0_canSay_ok hF mp_tabX0_ok [mp_c (.iconst 0) 0] (by decide +kernel) ?_
    show mp_W E X 2 51 [(0, .ref a0), (1, .int x0)] [.int 0] w1_ 0 0
    exact mp_iret hF hQ rfl (by decide) (Nat.le_of_ble_eq_true rfl) (Nat.le_of_ble_eq_true rfl) [0, 1, 2, 3, 4, 5] (w' := w1_) rfl rfl (Or.inl ⟨rfl, (fun q => by have k1 := (show z_5.toInt = (f3 (f1 x0.toInt.toNat).toInt.toNat).toInt from by have k9 := congrArg Int32.toInt h_6; (try rw [h_2] at k9); (try rw [h_10] at k9); exact k9); have k2 := (show z_13.toInt = (f3 (f2 x0.toInt.toNat).toInt.toNat).toInt from by have k9 := congrArg Int32.toInt h_14; (try rw [h_2] at k9); (try rw [h_10] at k9); exact k9); have k3 := q.1; omega), rfl⟩) (by first | exact mp_fd_ok mp_k_cX0_canSay_ok (by decide +kernel) | decide +kernel)
  · have c_17 : z_5.toInt = z_13.toInt := (congrArg Int32.toInt c_17)
    show mp_W E X 2 31 [(0, .ref a0), (1, .int x0)] [] w1_ 0 0
    refine mp_run mp_k_cX0_canSay_ok hF mp_tabX0_ok [mp_i (.aload_n 0), mp_h (.getfield 12) [11, 0], mp_i (.iload_n 1), mp_i (.aload_n 0), mp_h (.getfield 42) [12, 0]] (by decide +kernel) ?_
    refine And.intro rfl (And.intro rfl ?_)
    refine And.intro rfl (And.intro rfl ?_)
    show mp_W E X 2 40 [(0, .ref a0), (1, .int x0)] [.int y0, .int x0, .ref a1] w1_ 0 0
    refine mp_callV hF (As := [.int x0, .int y0]) (rest := []) (wr := [(mp_ob0 a0 a1 y0 a5 a6 a7 a8 a9 a10), (mp_arI E a5 0 6 f3)]) (bX7_bothLive_92 E a1 a2 a3 a4 a11 a12 a13 a14 a15 a16 a17 a18 a19 f0 f1 f2 y1 y2 y3 y4 y5 y6 x0 y0 p0 p1 l_x0 u_x0 l_y2 u_y2 l_y3 u_y3 l_y4 u_y4 l_y5 u_y5 l_y6 u_y6) mp_lkX0_79 1 rfl [1, 2, 3, 4] [0, 5] rfl rfl rfl rfl rfl ⟨(Nat.le_of_ble_eq_true rfl), (Nat.le_of_ble_eq_true rfl), (Nat.le_of_ble_eq_true rfl), (Nat.le_of_ble_eq_true rfl)⟩ (Nat.le_of_ble_eq_true rfl) (by first | exact mp_fd_ok mp_k_cX0_canSay_ok (by decide +kernel) | decide +kernel) (fun v_18 w_19 h_20 => ?_)
    rcases h_20 with ⟨rfl, x_21, rfl⟩ | ⟨rfl, x_22, rfl⟩
    · skip
      let w2_ : va_W := [(mp_ob0 a0 a1 y0 a5 a6 a7 a8 a9 a10), (mp_arI E a5 0 6 f3), (mp_ob7 a1 y1 y2 y3 y4 y5 y6 a11 a12 a13 a2 a14 a3 a4 a15 a16 a17 a18 a19), (mp_arI E a2 0 6 f0), (mp_arI E a3 0 10 f1), (mp_arI E a4 0 10 f2)]
      show mp_W E X 2 43 [(0, .ref a0), (1, .int x0)] [.int 1] w2_ 0 0
      refine mp_run mp_k_cX0_canSay_ok hF mp_tabX0_ok [mp_h (.ifCond .eq 7) [50]] (by decide +kernel) ?_
      refine And.intro (fun c_23 => absurd c_23 (by decide)) (fun _ => ?_)
      show mp_W E X 2 46 [(0, .ref a0), (1, .int x0)] [] w2_ 0 0
      refine mp_run mp_k_cX0_canSay_ok hF mp_tabX0_ok [mp_c (.iconst 1) 1, mp_h (.goto 4) [51]] (by decide +kernel) ?_
      show mp_W E X 2 51 [(0, .ref a0), (1, .int x0)] [.int 1] w2_ 0 0
      exact mp_iret hF hQ rfl (by decide) (Nat.le_of_ble_eq_true rfl) (Nat.le_of_ble_eq_true rfl) [0, 2, 3, 4, 5, 1] (w' := w1_) rfl rfl (Or.inr ⟨rfl, ⟨((show z_5.toInt = (f3 (f1 x0.toInt.toNat).toInt.toNat).toInt from by have k9 := congrArg Int32.toInt h_6; (try rw [h_2] at k9); (try rw [h_10] at k9); exact k9)).symm.trans ((show z_5.toInt = z_13.toInt by (first | exact c_17 | omega)).trans (show z_13.toInt = (f3 (f2 x0.toInt.toNat).toInt.toNat).toInt from by have k9 := congrArg Int32.toInt h_14; (try rw [h_2] at k9); (try rw [h_10] at k9); exact k9)), x_21⟩, rfl⟩) (by first | exact mp_fd_ok mp_k_cX0_canSay_ok (by decide +kernel) | decide +kernel)
    · skip
      let w3_ : va_W := [(mp_ob0 a0 a1 y0 a5 a6 a7 a8 a9 a10), (mp_arI E a5 0 6 f3), (mp_ob7 a1 y1 y2 y3 y4 y5 y6 a11 a12 a13 a2 a14 a3 a4 a15 a16 a17 a18 a19), (mp_arI E a2 0 6 f0), (mp_arI E a3 0 10 f1), (mp_arI E a4 0 10 f2)]
      show mp_W E X 2 43 [(0, .ref a0), (1, .int x0)] [.int 0] w3_ 0 0
      refine mp_run mp_k_cX0_canSay_ok hF mp_tabX0_ok [mp_h (.ifCond .eq 7) [50]] (by decide +kernel) ?_
      refine And.intro (fun _ => ?_) (fun c_24 => absurd c_24 (by decide))
      show mp_W E X 2 50 [(0, .ref a0), (1, .int x0)] [] w3_ 0 0
      refine mp_run mp_k_cX0_canSay_ok hF mp_tabX0_ok [mp_c (.iconst 0) 0] (by decide +kernel) ?_
      show mp_W E X 2 51 [(0, .ref a0), (1, .int x0)] [.int 0] w3_ 0 0
      exact mp_iret hF hQ rfl (by decide) (Nat.le_of_ble_eq_true rfl) (Nat.le_of_ble_eq_true rfl) [0, 2, 3, 4, 5, 1] (w' := w1_) rfl rfl (Or.inl ⟨rfl, (fun q => x_22 q.2), rfl⟩) (by first | exact mp_fd_ok mp_k_cX0_canSay_ok (by decide +kernel) | decide +kernel)
set_option maxHeartbeats 4000000 in
set_option maxRecDepth 100000 in
theorem bX9_says_94 (E : mp_E) (a0 a1 a2 a3 a4 a5 a6 a7 a8 a9 a10 a11 a12 a13 a14 a15 a16 a17 a18 a19 a20 a21 a22 a23 a24 a25 a26 a27 a28 : Nat) (f0 : Nat → Int32) (f1 : Nat → Int32) (f2 : Nat → Int32) (f3 : Nat → Int32) (f4 : Nat → Int32) (f5 : Nat → Int32) (f6 : Nat → Int32) (f7 : Nat → Int32) (f8 : Nat → Int32) (f9 : Nat → Int32) (f10 : Nat → Int32) (f11 : Nat → Int32) (f12 : Nat → Int32) (f13 : Nat → Int64) (f14 : Nat → Int32) (y0 : Int32) (y1 : Int32) (y2 : Int32) (y3 : Int32) (y4 : Int32) (y5 : Int32) (y6 : Int32) (x0 : Int32) (p0 : mp_all f0 36 0 20) (p1 : mp_all f1 6 0 5) (p2 : mp_all f3 10 0 5) (p3 : mp_all f4 10 0 5) (p4 : mp_all f6 10 0 99) (p5 : mp_all f7 10 0 1) (p6 : mp_all f8 10 (-1) 9) (p7 : mp_acts f9) (p8 : mp_all f10 6 0 5) (l_y0 : 0 ≤ y0.toInt) (u_y0 : y0.toInt ≤ 99) (l_y2 : 0 ≤ y2.toInt) (u_y2 : y2.toInt ≤ 6) (l_y3 : 0 ≤ y3.toInt) (u_y3 : y3.toInt ≤ 99) (l_y4 : 0 ≤ y4.toInt) (u_y4 : y4.toInt ≤ 6) (l_y5 : 0 ≤ y5.toInt) (u_y5 : y5.toInt ≤ 10) (l_y6 : 0 ≤ y6.toInt) (u_y6 : y6.toInt ≤ 60) (q0 : y0.toInt = y3.toInt + mp_k200 f9 y6.toInt) (q1 : mp_CS f10 f11 f12 f0 f1 f9 y3.toInt y4.toInt (y6.toInt : Int).toNat) (q2 : mp_wfC f3 f4 y5.toInt y4.toInt) : mp_Ct E yX9_says cX9_says 2 (some FieldType.int) 3 0 0 75 [.ref a0, .int x0] [(mp_ob9 a0 a18 a1 a19 a20 a21 a22 a23 a24 a25), (mp_ob0 a1 a2 y0 a13 a14 a15 a16 a17 a26), (mp_ob7 a2 y1 y2 y3 y4 y5 y6 a3 a27 a4 a5 a28 a6 a7 a8 a9 a10 a11 a12), (mp_arI E a3 0 36 f0), (mp_arI E a4 0 6 f1), (mp_arI E a5 0 6 f2), (mp_arI E a6 0 10 f3), (mp_arI E a7 0 10 f4), (mp_arI E a8 0 10 f5), (mp_arI E a9 0 10 f6), (mp_arI E a10 0 10 f7), (mp_arI E a11 0 10 f8), (mp_arI E a12 0 60 f9), (mp_arI E a13 0 6 f10), (mp_arI E a14 0 6 f11), (mp_arI E a15 0 6 f12), (mp_arL E a16 20 f13), (mp_arI E a17 0 10 f14)] (fun v w' => (v = some (.int (-2)) ∧ (y0.toInt = y3.toInt + mp_k200 f9 y6.toInt) ∧ (x0.toInt < 0 ∨ y5.toInt ≤ x0.toInt) ∧ (mp_CS f10 f11 f12 f0 f1 f9 y3.toInt y4.toInt (y6.toInt : Int).toNat) ∧ w' = [(mp_ob9 a0 a18 a1 a19 a20 a21 a22 a23 a24 a25), (mp_ob0 a1 a2 y0 a13 a14 a15 a16 a17 a26), (mp_ob7 a2 y1 y2 y3 y4 y5 y6 a3 a27 a4 a5 a28 a6 a7 a8 a9 a10 a11 a12), (mp_arI E a3 0 36 f0), (mp_arI E a4 0 6 f1), (mp_arI E a5 0 6 f2), (mp_arI E a6 0 10 f3), (mp_arI E a7 0 10 f4), (mp_arI E a8 0 10 f5), (mp_arI E a9 0 10 f6), (mp_arI E a10 0 10 f7), (mp_arI E a11 0 10 f8), (mp_arI E a12 0 60 f9), (mp_arI E a13 0 6 f10), (mp_arI E a14 0 6 f11), (mp_arI E a15 0 6 f12), (mp_arL E a16 20 f13), (mp_arI E a17 0 10 f14)]) ∨ (v = some (.int (-5)) ∧ 0 ≤ x0.toInt ∧ x0.toInt < y5.toInt ∧ (y0.toInt = y3.toInt + mp_k200 f9 y6.toInt) ∧ (0 ≤ x0.toInt ∧ x0.toInt < y5.toInt) ∧ (¬ ((mp_cs f0 f1 f9 y3.toInt (f3 x0.toInt.toNat).toInt.toNat (y6.toInt).toNat).1.toInt = (mp_cs f0 f1 f9 y3.toInt (f4 x0.toInt.toNat).toInt.toNat (y6.toInt).toNat).1.toInt ∧ ¬ mp_deadx (f2 (f3 x0.toInt.toNat).toInt.toNat).toInt (y3.toInt + mp_k200 f9 y6.toInt) ∧ ¬ mp_deadx (f2 (f4 x0.toInt.toNat).toInt.toNat).toInt (y3.toInt + mp_k200 f9 y6.toInt)) ∨ 60 ≤ y6.toInt) ∧ (mp_CS f10 f11 f12 f0 f1 f9 y3.toInt y4.toInt (y6.toInt : Int).toNat) ∧ w' = [(mp_ob9 a0 a18 a1 a19 a20 a21 a22 a23 a24 a25), (mp_ob0 a1 a2 y0 a13 a14 a15 a16 a17 a26), (mp_ob7 a2 y1 y2 y3 y4 y5 y6 a3 a27 a4 a5 a28 a6 a7 a8 a9 a10 a11 a12), (mp_arI E a3 0 36 f0), (mp_arI E a4 0 6 f1), (mp_arI E a5 0 6 f2), (mp_arI E a6 0 10 f3), (mp_arI E a7 0 10 f4), (mp_arI E a8 0 10 f5), (mp_arI E a9 0 10 f6), (mp_arI E a10 0 10 f7), (mp_arI E a11 0 10 f8), (mp_arI E a12 0 60 f9), (mp_arI E a13 0 6 f10), (mp_arI E a14 0 6 f11), (mp_arI E a15 0 6 f12), (mp_arL E a16 20 f13), (mp_arI E a17 0 10 f14)]) ∨ (∃ r1 : Int32, ∃ r2 : Int32, ∃ h3 : Nat → Int32, ∃ h4 : Nat → Int32, ∃ h5 : Nat → Int32, ∃ h6 : Nat → Int32, ∃ h7 : Nat → Int64, ∃ h8 : Nat → Int32, ∃ r9 : Int32, v = some (.int r9) ∧ 0 ≤ x0.toInt ∧ x0.toInt < y5.toInt ∧ y6.toInt < 60 ∧ 0 ≤ r1.toInt ∧ r1.toInt ≤ 99 ∧ 1 ≤ r2.toInt ∧ r2.toInt ≤ 60 ∧ mp_acts h3 ∧ mp_all h4 6 0 5 ∧ (r1.toInt = y3.toInt + mp_k200 h3 r2.toInt) ∧ (0 ≤ x0.toInt ∧ x0.toInt < y5.toInt) ∧ (((mp_cs f0 f1 f9 y3.toInt (f3 x0.toInt.toNat).toInt.toNat (y6.toInt).toNat).1.toInt = (mp_cs f0 f1 f9 y3.toInt (f4 x0.toInt.toNat).toInt.toNat (y6.toInt).toNat).1.toInt ∧ ¬ mp_deadx (f2 (f3 x0.toInt.toNat).toInt.toNat).toInt (y3.toInt + mp_k200 f9 y6.toInt) ∧ ¬ mp_deadx (f2 (f4 x0.toInt.toNat).toInt.toNat).toInt (y3.toInt + mp_k200 f9 y6.toInt))) ∧ (y6.toInt ≤ 59) ∧ (r2.toInt = y6.toInt + 1) ∧ (h3 = upd f9 (y6.toInt).toNat (Int32.ofInt (100 + x0.toInt))) ∧ (mp_CS h4 h5 h6 f0 f1 h3 y3.toInt y4.toInt (r2.toInt : Int).toNat) ∧ w' = [(mp_ob9 a0 a18 a1 a19 a20 a21 a22 a23 a24 a25), (mp_ob0 a1 a2 r1 a13 a14 a15 a16 a17 a26), (mp_ob7 a2 y1 y2 y3 y4 y5 r2 a3 a27 a4 a5 a28 a6 a7 a8 a9 a10 a11 a12), (mp_arI E a3 0 36 f0), (mp_arI E a4 0 6 f1), (mp_arI E a5 0 6 f2), (mp_arI E a6 0 10 f3), (mp_arI E a7 0 10 f4), (mp_arI E a8 0 10 f5), (mp_arI E a9 0 10 f6), (mp_arI E a10 0 10 f7), (mp_arI E a11 0 10 f8), (mp_arI E a12 0 60 h3), (mp_arI E a13 0 6 h4), (mp_arI E a14 0 6 h5), (mp_arI E a15 0 6 h6), (mp_arL E a16 20 h7), (mp_arI E a17 0 10 h8)])) := by
  refine mp_met false (by decide) (by decide) (Nat.le_of_ble_eq_true rfl) (fun X hF hQ => ?_)
  have hF : mp_F E X (RX9, cX9_says, 2, (3, 0, 0, 75), (some FieldType.int), false) := hF
  let w1_ : va_W := [(mp_ob9 a0 a18 a1 a19 a20 a21 a22 a23 a24 a25), (mp_ob0 a1 a2 y0 a13 a14 a15 a16 a17 a26), (mp_ob7 a2 y1 y2 y3 y4 y5 y6 a3 a27 a4 a5 a28 a6 a7 a8 a9 a10 a11 a12), (mp_arI E a3 0 36 f0), (mp_arI E a4 0 6 f1), (mp_arI E a5 0 6 f2), (mp_arI E a6 0 10 f3), (mp_arI E a7 0 10 f4), (mp_arI E a8 0 10 f5), (mp_arI E a9 0 10 f6), (mp_arI E a10 0 10 f7), (mp_arI E a11 0 10 f8), (mp_arI E a12 0 60 f9), (mp_arI E a13 0 6 f10), (mp_arI E a14 0 6 f11), (mp_arI E a15 0 6 f12), (mp_arL E a16 20 f13), (mp_arI E a17 0 10 f14)]
  show mp_W E X 2 0 [(0, .ref a0), (1, .int x0)] [] w1_ 0 0
  refine mp_run mp_k_cX9_says_ok hF mp_tabX9_ok [mp_i (.aload_n 0), mp_h (.getfield 19) [37, 0], mp_h (.getfield 83) [20, 1], mp_i (.iload_n 1)] (by decide +kernel) ?_
  refine And.intro rfl (And.intro rfl ?_)
  refine And.intro rfl (And.intro rfl ?_)
  show mp_W E X 2 8 [(0, .ref a0), (1, .int x0)] [.int x0, .ref a2] w1_ 0 0
  refine mp_callV hF (As := [.int x0]) (rest := []) (wr := [(mp_ob9 a0 a18 a1 a19 a20 a21 a22 a23 a24 a25), (mp_ob0 a1 a2 y0 a13 a14 a15 a16 a17 a26), (mp_arI E a3 0 36 f0), (mp_arI E a4 0 6 f1), (mp_arI E a5 0 6 f2), (mp_arI E a6 0 10 f3), (mp_arI E a7 0 10 f4), (mp_arI E a8 0 10 f5), (mp_arI E a9 0 10 f6), (mp_arI E a10 0 10 f7), (mp_arI E a11 0 10 f8), (mp_arI E a12 0 60 f9), (mp_arI E a13 0 6 f10), (mp_arI E a14 0 6 f11), (mp_arI E a15 0 6 f12), (mp_arL E a16 20 f13), (mp_arI E a17 0 10 f14)]) (bX7_isPromise_53 E a2 a3 a27 a4 a5 a28 a6 a7 a8 a9 a10 a11 a12 y1 y2 y3 y4 y5 y6 x0 l_y2 u_y2 l_y3 u_y3 l_y4 u_y4 l_y5 u_y5 l_y6 u_y6) mp_lkX9_120 2 rfl [2] [0, 1, 3, 4, 5, 6, 7, 8, 9, 10, 11, 12, 13, 14, 15, 16, 17] rfl rfl rfl rfl rfl ⟨(Nat.le_of_ble_eq_true rfl), (Nat.le_of_ble_eq_true rfl), (Nat.le_of_ble_eq_true rfl), (Nat.le_of_ble_eq_true rfl)⟩ (Nat.le_of_ble_eq_true rfl) (by first | exact mp_fd_ok mp_k_cX9_says_ok (by decide +kernel) | decide +kernel) (fun v_1 w_2 h_3 => ?_)
  rcases h_3 with ⟨rfl, x_4, rfl⟩ | ⟨rfl, c_5, c_6, x_7, rfl⟩
  · skip
    let w2_ : va_W := [(mp_ob9 a0 a18 a1 a19 a20 a21 a22 a23 a24 a25), (mp_ob0 a1 a2 y0 a13 a14 a15 a16 a17 a26), (mp_arI E a3 0 36 f0), (mp_arI E a4 0 6 f1), (mp_arI E a5 0 6 f2), (mp_arI E a6 0 10 f3), (mp_arI E a7 0 10 f4), (mp_arI E a8 0 10 f5), (mp_arI E a9 0 10 f6), (mp_arI E a10 0 10 f7), (mp_arI E a11 0 10 f8), (mp_arI E a12 0 60 f9), (mp_arI E a13 0 6 f10), (mp_arI E a14 0 6 f11), (mp_arI E a15 0 6 f12), (mp_arL E a16 20 f13), (mp_arI E a17 0 10 f14), (mp_ob7 a2 y1 y2 y3 y4 y5 y6 a3 a27 a4 a5 a28 a6 a7 a8 a9 a10 a11 a12)]
    show mp_W E X 2 11 [(0, .ref a0), (1, .int x0)] [.int 0] w2_ 0 0
    refine mp_run mp_k_cX9_says_ok hF mp_tabX9_ok [mp_h (.ifCond .ne 6) [17]] (by decide +kernel) ?_
    refine And.intro (fun c_8 => absurd c_8 (by decide)) (fun _ => ?_)
    show mp_W E X 2 14 [(0, .ref a0), (1, .int x0)] [] w2_ 0 0
    refine mp_run mp_k_cX9_says_ok hF mp_tabX9_ok [mp_c (.bipush (-2)) (-2)] (by decide +kernel) ?_
    show mp_W E X 2 16 [(0, .ref a0), (1, .int x0)] [.int (-2)] w2_ 0 0
    exact mp_iret hF hQ rfl rfl (Nat.le_of_ble_eq_true rfl) (Nat.le_of_ble_eq_true rfl) [0, 1, 17, 2, 3, 4, 5, 6, 7, 8, 9, 10, 11, 12, 13, 14, 15, 16] (w' := w1_) rfl rfl (Or.inl ⟨rfl, (by first | (first | exact q0 | omega) | decide | (have h8 : (0 : Int64).toInt = 0 := rfl; have h9 : (-1 : Int32).toInt = -1 := rfl; have h10 : (-2 : Int32).toInt = -2 := rfl; have h11 : (0 : Int32).toInt = 0 := rfl; have h12 : (1 : Int32).toInt = 1 := rfl; have h13 : (-5 : Int32).toInt = -5 := rfl; have h14 : (-3 : Int32).toInt = -3 := rfl; omega)), (by first | (first | exact x_4 | omega) | decide | (have h8 : (0 : Int64).toInt = 0 := rfl; have h9 : (-1 : Int32).toInt = -1 := rfl; have h10 : (-2 : Int32).toInt = -2 := rfl; have h11 : (0 : Int32).toInt = 0 := rfl; have h12 : (1 : Int32).toInt = 1 := rfl; have h13 : (-5 : Int32).toInt = -5 := rfl; have h14 : (-3 : Int32).toInt = -3 := rfl; omega)), q1, rfl⟩) (by first | exact mp_fd_ok mp_k_cX9_says_ok (by decide +kernel) | decide +kernel)
  · skip
    have c_5 : 0 ≤ x0.toInt := c_5
    have c_6 : x0.toInt < y5.toInt := c_6
    let w3_ : va_W := [(mp_ob9 a0 a18 a1 a19 a20 a21 a22 a23 a24 a25), (mp_ob0 a1 a2 y0 a13 a14 a15 a16 a17 a26), (mp_arI E a3 0 36 f0), (mp_arI E a4 0 6 f1), (mp_arI E a5 0 6 f2), (mp_arI E a6 0 10 f3), (mp_arI E a7 0 10 f4), (mp_arI E a8 0 10 f5), (mp_arI E a9 0 10 f6), (mp_arI E a10 0 10 f7), (mp_arI E a11 0 10 f8), (mp_arI E a12 0 60 f9), (mp_arI E a13 0 6 f10), (mp_arI E a14 0 6 f11), (mp_arI E a15 0 6 f12), (mp_arL E a16 20 f13), (mp_arI E a17 0 10 f14), (mp_ob7 a2 y1 y2 y3 y4 y5 y6 a3 a27 a4 a5 a28 a6 a7 a8 a9 a10 a11 a12)]
    show mp_W E X 2 11 [(0, .ref a0), (1, .int x0)] [.int 1] w3_ 0 0
    refine mp_run mp_k_cX9_says_ok hF mp_tabX9_ok [mp_h (.ifCond .ne 6) [17]] (by decide +kernel) ?_
    refine And.intro (fun _ => ?_) (fun c_9 => absurd c_9 (by decide))
    show mp_W E X 2 17 [(0, .ref a0), (1, .int x0)] [] w3_ 0 0
    refine mp_run mp_k_cX9_says_ok hF mp_tabX9_ok [mp_i (.aload_n 0), mp_h (.getfield 19) [37, 0], mp_i (.iload_n 1)] (by decide +kernel) ?_
    refine And.intro rfl (And.intro rfl ?_)
    show mp_W E X 2 22 [(0, .ref a0), (1, .int x0)] [.int x0, .ref a1] w3_ 0 0
    refine mp_callV hF (As := [.int x0]) (rest := []) (wr := [(mp_ob9 a0 a18 a1 a19 a20 a21 a22 a23 a24 a25), (mp_arI E a3 0 36 f0), (mp_arI E a4 0 6 f1), (mp_arI E a8 0 10 f5), (mp_arI E a9 0 10 f6), (mp_arI E a10 0 10 f7), (mp_arI E a11 0 10 f8), (mp_arI E a12 0 60 f9), (mp_arI E a14 0 6 f11), (mp_arI E a15 0 6 f12), (mp_arL E a16 20 f13), (mp_arI E a17 0 10 f14)]) (bX0_canSay_93 E a1 a2 a5 a6 a7 a13 a14 a15 a16 a17 a26 a3 a27 a4 a28 a8 a9 a10 a11 a12 f2 f3 f4 f10 y0 y1 y2 y3 y4 y5 y6 x0 p2 p3 p8 (by (first | exact c_5 | omega)) (by (first | exact mp_o419 u_y5 c_6 | omega)) l_y0 u_y0 l_y2 u_y2 l_y3 u_y3 l_y4 u_y4 l_y5 u_y5 l_y6 u_y6) mp_lkX9_211 1 rfl [1, 17, 4, 5, 6, 12] [0, 2, 3, 7, 8, 9, 10, 11, 13, 14, 15, 16] rfl rfl rfl rfl rfl ⟨(Nat.le_of_ble_eq_true rfl), (Nat.le_of_ble_eq_true rfl), (Nat.le_of_ble_eq_true rfl), (Nat.le_of_ble_eq_true rfl)⟩ (Nat.le_of_ble_eq_true rfl) (by first | exact mp_fd_ok mp_k_cX9_says_ok (by decide +kernel) | decide +kernel) (fun v_10 w_11 h_12 => ?_)
    rcases h_12 with ⟨rfl, x_13, rfl⟩ | ⟨rfl, x_14, rfl⟩
    · skip
      let w4_ : va_W := [(mp_ob9 a0 a18 a1 a19 a20 a21 a22 a23 a24 a25), (mp_arI E a3 0 36 f0), (mp_arI E a4 0 6 f1), (mp_arI E a8 0 10 f5), (mp_arI E a9 0 10 f6), (mp_arI E a10 0 10 f7), (mp_arI E a11 0 10 f8), (mp_arI E a12 0 60 f9), (mp_arI E a14 0 6 f11), (mp_arI E a15 0 6 f12), (mp_arL E a16 20 f13), (mp_arI E a17 0 10 f14), (mp_ob0 a1 a2 y0 a13 a14 a15 a16 a17 a26), (mp_ob7 a2 y1 y2 y3 y4 y5 y6 a3 a27 a4 a5 a28 a6 a7 a8 a9 a10 a11 a12), (mp_arI E a5 0 6 f2), (mp_arI E a6 0 10 f3), (mp_arI E a7 0 10 f4), (mp_arI E a13 0 6 f10)]
      show mp_W E X 2 25 [(0, .ref a0), (1, .int x0)] [.int 0] w4_ 0 0
      refine mp_run mp_k_cX9_says_ok hF mp_tabX9_ok [mp_h (.ifCond .eq 17) [42]] (by decide +kernel) ?_
      refine And.intro (fun _ => ?_) (fun c_15 => absurd c_15 (by decide))
      show mp_W E X 2 42 [(0, .ref a0), (1, .int x0)] [] w4_ 0 0
      refine mp_run mp_k_cX9_says_ok hF mp_tabX9_ok [mp_c (.bipush (-5)) (-5)] (by decide +kernel) ?_
      show mp_W E X 2 44 [(0, .ref a0), (1, .int x0)] [.int (-5)] w4_ 0 0
      exact mp_iret hF hQ rfl rfl (Nat.le_of_ble_eq_true rfl) (Nat.le_of_ble_eq_true rfl) [0, 12, 13, 1, 2, 14, 15, 16, 3, 4, 5, 6, 7, 17, 8, 9, 10, 11] (w' := w1_) rfl rfl (Or.inr (Or.inl ⟨rfl, (by first | (first | exact c_5 | omega) | decide), (by first | (first | exact c_6 | omega) | decide), (by first | (first | exact q0 | omega) | decide | (have h8 : (0 : Int64).toInt = 0 := rfl; have h9 : (-1 : Int32).toInt = -1 := rfl; have h10 : (-2 : Int32).toInt = -2 := rfl; have h11 : (0 : Int32).toInt = 0 := rfl; have h12 : (1 : Int32).toInt = 1 := rfl; have h13 : (-5 : Int32).toInt = -5 := rfl; have h14 : (-3 : Int32).toInt = -3 := rfl; omega)), (by first | (first | exact x_7 | omega) | decide | (have h8 : (0 : Int64).toInt = 0 := rfl; have h9 : (-1 : Int32).toInt = -1 := rfl; have h10 : (-2 : Int32).toInt = -2 := rfl; have h11 : (0 : Int32).toInt = 0 := rfl; have h12 : (1 : Int32).toInt = 1 := rfl; have h13 : (-5 : Int32).toInt = -5 := rfl; have h14 : (-3 : Int32).toInt = -3 := rfl; omega)), (Or.inl (by have k9 := x_13; have r9 := q2 x0.toInt.toNat (by (first | exact mp_o473 c_5 c_6 | omega)); have k8 := q1 (f3 x0.toInt.toNat).toInt.toNat (by (first | exact mp_o497 r9 | omega)); have k7 := q1 (f4 x0.toInt.toNat).toInt.toNat (by (first | exact mp_o498 r9 | omega)); rw [k8.1, k7.1, show y0.toInt = (y3.toInt + mp_k200 f9 y6.toInt) from by (first | exact q0 | omega)] at k9; exact k9)), q1, rfl⟩)) (by first | exact mp_fd_ok mp_k_cX9_says_ok (by decide +kernel) | decide +kernel)
    · skip
      let w5_ : va_W := [(mp_ob9 a0 a18 a1 a19 a20 a21 a22 a23 a24 a25), (mp_arI E a3 0 36 f0), (mp_arI E a4 0 6 f1), (mp_arI E a8 0 10 f5), (mp_arI E a9 0 10 f6), (mp_arI E a10 0 10 f7), (mp_arI E a11 0 10 f8), (mp_arI E a12 0 60 f9), (mp_arI E a14 0 6 f11), (mp_arI E a15 0 6 f12), (mp_arL E a16 20 f13), (mp_arI E a17 0 10 f14), (mp_ob0 a1 a2 y0 a13 a14 a15 a16 a17 a26), (mp_ob7 a2 y1 y2 y3 y4 y5 y6 a3 a27 a4 a5 a28 a6 a7 a8 a9 a10 a11 a12), (mp_arI E a5 0 6 f2), (mp_arI E a6 0 10 f3), (mp_arI E a7 0 10 f4), (mp_arI E a13 0 6 f10)]
      show mp_W E X 2 25 [(0, .ref a0), (1, .int x0)] [.int 1] w5_ 0 0
      refine mp_run mp_k_cX9_says_ok hF mp_tabX9_ok [mp_h (.ifCond .eq 17) [42]] (by decide +kernel) ?_
      refine And.intro (fun c_16 => absurd c_16 (by decide)) (fun _ => ?_)
      show mp_W E X 2 28 [(0, .ref a0), (1, .int x0)] [] w5_ 0 0
      refine mp_run mp_k_cX9_says_ok hF mp_tabX9_ok [mp_i (.aload_n 0), mp_h (.getfield 19) [37, 0], mp_c (.bipush 100) 100, mp_i (.iload_n 1), mp_i .iadd] (by decide +kernel) ?_
      refine And.intro rfl (And.intro rfl ?_)
      intro z_17 h_18
      have e_19 : z_17.toInt = 100 + x0.toInt := mp_add (a := 100) (b := x0.toInt) h_18 (by decide) rfl (by (first | exact mp_o499 c_5 | omega)) (by (first | exact mp_o500 u_y5 c_6 | omega))
      show mp_W E X 2 36 [(0, .ref a0), (1, .int x0)] [.int z_17, .ref a1] w5_ 0 0
      refine mp_callV hF (As := [.int z_17]) (rest := []) (wr := [(mp_ob9 a0 a18 a1 a19 a20 a21 a22 a23 a24 a25), (mp_arI E a4 0 6 f1), (mp_arI E a8 0 10 f5), (mp_arI E a9 0 10 f6), (mp_arI E a10 0 10 f7), (mp_arI E a11 0 10 f8), (mp_arI E a17 0 10 f14), (mp_arI E a5 0 6 f2), (mp_arI E a6 0 10 f3), (mp_arI E a7 0 10 f4)]) (bX0_addAct_90 E a1 a2 a3 a12 a13 a14 a15 a16 a17 a26 a27 a4 a5 a28 a6 a7 a8 a9 a10 a11 f0 f9 f10 f11 f12 f13 y0 y1 y2 y3 y4 y5 y6 z_17 p0 p7 p8 (by (first | exact mp_o501 c_5 e_19 | omega)) (by (first | exact mp_o502 u_y5 c_6 e_19 | omega)) l_y0 u_y0 l_y2 u_y2 l_y3 u_y3 l_y4 u_y4 l_y5 u_y5 l_y6 u_y6 (by first | (first | exact mp_o503 c_5 e_19 u_y5 c_6 | omega) | (show (((200 : Int) = 200 ∧ _ ≤ 98) ∨ _); omega) | decide) (by (first | exact q0 | omega))) mp_lkX9_208 12 rfl [12, 13, 1, 7, 17, 8, 9, 10] [0, 2, 3, 4, 5, 6, 11, 14, 15, 16] rfl rfl rfl rfl rfl ⟨(Nat.le_of_ble_eq_true rfl), (Nat.le_of_ble_eq_true rfl), (Nat.le_of_ble_eq_true rfl), (Nat.le_of_ble_eq_true rfl)⟩ (Nat.le_of_ble_eq_true rfl) (by first | exact mp_fd_ok mp_k_cX9_says_ok (by decide +kernel) | decide +kernel) (fun v_20 w_21 h_22 => ?_)
      refine h_22.elim (fun q_46 => ?_) (fun q_47 => ?_)
      · skip
        refine q_46.elim fun r_23 q_48 => q_48.elim fun r_24 q_49 => q_49.elim fun g_25 q_50 => q_50.elim fun g_26 q_51 => q_51.elim fun g_27 q_52 => q_52.elim fun g_28 q_53 => q_53.elim fun g_29 q_54 => q_54.elim fun e_55 q_56 => q_56.elim fun c_30 q_57 => q_57.elim fun l_31 q_58 => q_58.elim fun u_32 q_59 => q_59.elim fun l_33 q_60 => q_60.elim fun u_34 q_61 => q_61.elim fun p_35 q_62 => q_62.elim fun p_36 q_63 => q_63.elim fun x_37 q_64 => q_64.elim fun x_38 q_65 => q_65.elim fun x_39 q_66 => q_66.elim fun x_40 q_67 => q_67.elim fun x_41 q_68 => q_68.elim fun x_42 e_69 => ?_
        clear h_22 q_46 q_48 q_49 q_50 q_51 q_52 q_53 q_54 q_56 q_57 q_58 q_59 q_60 q_61 q_62 q_63 q_64 q_65 q_66 q_67 q_68
        subst e_55
        subst e_69
        have c_30 : y6.toInt < 60 := c_30
        let w6_ : va_W := [(mp_ob9 a0 a18 a1 a19 a20 a21 a22 a23 a24 a25), (mp_arI E a4 0 6 f1), (mp_arI E a8 0 10 f5), (mp_arI E a9 0 10 f6), (mp_arI E a10 0 10 f7), (mp_arI E a11 0 10 f8), (mp_arI E a17 0 10 f14), (mp_arI E a5 0 6 f2), (mp_arI E a6 0 10 f3), (mp_arI E a7 0 10 f4), (mp_ob0 a1 a2 r_23 a13 a14 a15 a16 a17 a26), (mp_ob7 a2 y1 y2 y3 y4 y5 r_24 a3 a27 a4 a5 a28 a6 a7 a8 a9 a10 a11 a12), (mp_arI E a3 0 36 f0), (mp_arI E a12 0 60 g_25), (mp_arI E a13 0 6 g_26), (mp_arI E a14 0 6 g_27), (mp_arI E a15 0 6 g_28), (mp_arL E a16 20 g_29)]
        show mp_W E X 2 39 [(0, .ref a0), (1, .int x0)] [.int 1] w6_ 0 0
        refine mp_run mp_k_cX9_says_ok hF mp_tabX9_ok [mp_h (.ifCond .ne 6) [45]] (by decide +kernel) ?_
        refine And.intro (fun _ => ?_) (fun c_70 => absurd c_70 (by decide))
        show mp_W E X 2 45 [(0, .ref a0), (1, .int x0)] [] w6_ 0 0
        refine mp_run mp_k_cX9_says_ok hF mp_tabX9_ok [mp_i (.aload_n 0), mp_h (.getfield 19) [37, 0], mp_h (.getfield 83) [20, 10], mp_i (.aload_n 0), mp_h (.getfield 19) [37, 0], mp_i (.aload_n 0), mp_h (.getfield 19) [37, 0], mp_h (.getfield 166) [21, 10]] (by decide +kernel) ?_
        refine And.intro rfl (And.intro rfl ?_)
        refine And.intro rfl (And.intro rfl ?_)
        refine And.intro rfl (And.intro rfl ?_)
        refine And.intro rfl (And.intro rfl ?_)
        refine And.intro rfl (And.intro rfl ?_)
        show mp_W E X 2 63 [(0, .ref a0), (1, .int x0)] [.int r_23, .ref a1, .ref a2] w6_ 0 0
        refine mp_callV hF (As := [.int r_23]) (rest := [.ref a2]) (wr := [(mp_ob9 a0 a18 a1 a19 a20 a21 a22 a23 a24 a25), (mp_arI E a4 0 6 f1), (mp_arI E a8 0 10 f5), (mp_arI E a10 0 10 f7), (mp_arI E a11 0 10 f8), (mp_arI E a5 0 6 f2), (mp_arI E a6 0 10 f3), (mp_arI E a7 0 10 f4), (mp_arI E a3 0 36 f0), (mp_arI E a12 0 60 g_25), (mp_arI E a13 0 6 g_26), (mp_arI E a14 0 6 g_27), (mp_arI E a15 0 6 g_28)]) (bX0_lastsAt_61 E a1 a2 a9 a16 a17 a13 a14 a15 a26 a3 a27 a4 a5 a28 a6 a7 a8 a10 a11 a12 f6 g_29 f14 r_23 y1 y2 y3 y4 y5 r_24 r_23 p4 l_31 u_32 l_y2 u_y2 l_y3 u_y3 l_y4 u_y4 l_y5 u_y5 (by (first | exact mp_o51 l_y6 x_40 | omega)) u_34) mp_lkX9_155 10 rfl [10, 11, 3, 17, 6] [0, 1, 2, 4, 5, 7, 8, 9, 12, 13, 14, 15, 16] rfl rfl rfl rfl rfl ⟨(Nat.le_of_ble_eq_true rfl), (Nat.le_of_ble_eq_true rfl), (Nat.le_of_ble_eq_true rfl), (Nat.le_of_ble_eq_true rfl)⟩ (Nat.le_of_ble_eq_true rfl) (by first | exact mp_fd_ok mp_k_cX9_says_ok (by decide +kernel) | decide +kernel) (fun v_71 w_72 h_73 => ?_)
        obtain ⟨g_74, rfl, rfl⟩ := h_73
        let w7_ : va_W := [(mp_ob9 a0 a18 a1 a19 a20 a21 a22 a23 a24 a25), (mp_arI E a4 0 6 f1), (mp_arI E a8 0 10 f5), (mp_arI E a10 0 10 f7), (mp_arI E a11 0 10 f8), (mp_arI E a5 0 6 f2), (mp_arI E a6 0 10 f3), (mp_arI E a7 0 10 f4), (mp_arI E a3 0 36 f0), (mp_arI E a12 0 60 g_25), (mp_arI E a13 0 6 g_26), (mp_arI E a14 0 6 g_27), (mp_arI E a15 0 6 g_28), (mp_ob0 a1 a2 r_23 a13 a14 a15 a16 a17 a26), (mp_ob7 a2 y1 y2 y3 y4 y5 r_24 a3 a27 a4 a5 a28 a6 a7 a8 a9 a10 a11 a12), (mp_arI E a9 0 10 f6), (mp_arL E a16 20 g_29), (mp_arI E a17 0 10 g_74)]
        show mp_W E X 2 66 [(0, .ref a0), (1, .int x0)] [.ref a17, .ref a2] w7_ 0 0
        refine mp_run mp_k_cX9_says_ok hF mp_tabX9_ok [mp_i (.iload_n 1), mp_i (.aload_n 0), mp_h (.getfield 19) [37, 0], mp_h (.getfield 166) [21, 13]] (by decide +kernel) ?_
        refine And.intro rfl (And.intro rfl ?_)
        refine And.intro rfl (And.intro rfl ?_)
        show mp_W E X 2 74 [(0, .ref a0), (1, .int x0)] [.int r_23, .int x0, .ref a17, .ref a2] w7_ 0 0
        refine mp_callV hF (As := [.ref a17, .int x0, .int r_23]) (rest := []) (wr := [(mp_ob9 a0 a18 a1 a19 a20 a21 a22 a23 a24 a25), (mp_arI E a4 0 6 f1), (mp_arI E a7 0 10 f4), (mp_arI E a3 0 36 f0), (mp_arI E a12 0 60 g_25), (mp_arI E a13 0 6 g_26), (mp_arI E a14 0 6 g_27), (mp_arI E a15 0 6 g_28), (mp_ob0 a1 a2 r_23 a13 a14 a15 a16 a17 a26), (mp_arL E a16 20 g_29)]) (bX7_worthBy_66 E a2 a17 a5 a6 a8 a9 a10 a11 a3 a27 a4 a28 a7 a12 f2 f3 f5 f6 f7 f8 g_74 y1 y2 y3 y4 y5 r_24 x0 r_23 p2 p4 p5 p6 (by (first | exact c_5 | omega)) (by (first | exact mp_o419 u_y5 c_6 | omega)) l_y2 u_y2 l_y3 u_y3 l_y4 u_y4 l_y5 u_y5 (by (first | exact mp_o51 l_y6 x_40 | omega)) u_34) mp_lkX9_163 14 rfl [14, 5, 6, 2, 15, 3, 4, 17] [0, 1, 7, 8, 9, 10, 11, 12, 13, 16] rfl rfl rfl rfl rfl ⟨(Nat.le_of_ble_eq_true rfl), (Nat.le_of_ble_eq_true rfl), (Nat.le_of_ble_eq_true rfl), (Nat.le_of_ble_eq_true rfl)⟩ (Nat.le_of_ble_eq_true rfl) (by first | exact mp_fd_ok mp_k_cX9_says_ok (by decide +kernel) | decide +kernel) (fun v_75 w_76 h_77 => ?_)
        obtain ⟨r_78, rfl, rfl⟩ := h_77
        let w8_ : va_W := [(mp_ob9 a0 a18 a1 a19 a20 a21 a22 a23 a24 a25), (mp_arI E a4 0 6 f1), (mp_arI E a7 0 10 f4), (mp_arI E a3 0 36 f0), (mp_arI E a12 0 60 g_25), (mp_arI E a13 0 6 g_26), (mp_arI E a14 0 6 g_27), (mp_arI E a15 0 6 g_28), (mp_ob0 a1 a2 r_23 a13 a14 a15 a16 a17 a26), (mp_arL E a16 20 g_29), (mp_ob7 a2 y1 y2 y3 y4 y5 r_24 a3 a27 a4 a5 a28 a6 a7 a8 a9 a10 a11 a12), (mp_arI E a5 0 6 f2), (mp_arI E a6 0 10 f3), (mp_arI E a8 0 10 f5), (mp_arI E a9 0 10 f6), (mp_arI E a10 0 10 f7), (mp_arI E a11 0 10 f8), (mp_arI E a17 0 10 g_74)]
        show mp_W E X 2 77 [(0, .ref a0), (1, .int x0)] [.int r_78] w8_ 0 0
        exact mp_iret hF hQ rfl rfl (Nat.le_of_ble_eq_true rfl) (Nat.le_of_ble_eq_true rfl) [0, 8, 10, 3, 1, 11, 12, 2, 13, 14, 15, 16, 4, 5, 6, 7, 9, 17] (w' := [(mp_ob9 a0 a18 a1 a19 a20 a21 a22 a23 a24 a25), (mp_ob0 a1 a2 r_23 a13 a14 a15 a16 a17 a26), (mp_ob7 a2 y1 y2 y3 y4 y5 r_24 a3 a27 a4 a5 a28 a6 a7 a8 a9 a10 a11 a12), (mp_arI E a3 0 36 f0), (mp_arI E a4 0 6 f1), (mp_arI E a5 0 6 f2), (mp_arI E a6 0 10 f3), (mp_arI E a7 0 10 f4), (mp_arI E a8 0 10 f5), (mp_arI E a9 0 10 f6), (mp_arI E a10 0 10 f7), (mp_arI E a11 0 10 f8), (mp_arI E a12 0 60 g_25), (mp_arI E a13 0 6 g_26), (mp_arI E a14 0 6 g_27), (mp_arI E a15 0 6 g_28), (mp_arL E a16 20 g_29), (mp_arI E a17 0 10 g_74)]) rfl rfl (Or.inr (Or.inr ⟨r_23, r_24, g_25, g_26, g_27, g_28, g_29, g_74, r_78, rfl, (by first | (first | exact c_5 | omega) | decide), (by first | (first | exact c_6 | omega) | decide), (by first | (first | exact c_30 | omega) | decide), l_31, u_32, l_33, u_34, p_35, p_36, (by first | (first | exact x_37 | omega) | decide | (have h8 : (0 : Int64).toInt = 0 := rfl; have h9 : (-1 : Int32).toInt = -1 := rfl; have h10 : (-2 : Int32).toInt = -2 := rfl; have h11 : (0 : Int32).toInt = 0 := rfl; have h12 : (1 : Int32).toInt = 1 := rfl; have h13 : (-5 : Int32).toInt = -5 := rfl; have h14 : (-3 : Int32).toInt = -3 := rfl; omega)), (by first | (first | exact x_7 | omega) | decide | (have h8 : (0 : Int64).toInt = 0 := rfl; have h9 : (-1 : Int32).toInt = -1 := rfl; have h10 : (-2 : Int32).toInt = -2 := rfl; have h11 : (0 : Int32).toInt = 0 := rfl; have h12 : (1 : Int32).toInt = 1 := rfl; have h13 : (-5 : Int32).toInt = -5 := rfl; have h14 : (-3 : Int32).toInt = -3 := rfl; omega)), (by have k9 := x_14; have r9 := q2 x0.toInt.toNat (by (first | exact mp_o473 c_5 c_6 | omega)); have k8 := q1 (f3 x0.toInt.toNat).toInt.toNat (by (first | exact mp_o497 r9 | omega)); have k7 := q1 (f4 x0.toInt.toNat).toInt.toNat (by (first | exact mp_o498 r9 | omega)); rw [k8.1, k7.1, show y0.toInt = (y3.toInt + mp_k200 f9 y6.toInt) from by (first | exact q0 | omega)] at k9; exact k9), (by first | (first | exact x_39 | omega) | decide | (have h8 : (0 : Int64).toInt = 0 := rfl; have h9 : (-1 : Int32).toInt = -1 := rfl; have h10 : (-2 : Int32).toInt = -2 := rfl; have h11 : (0 : Int32).toInt = 0 := rfl; have h12 : (1 : Int32).toInt = 1 := rfl; have h13 : (-5 : Int32).toInt = -5 := rfl; have h14 : (-3 : Int32).toInt = -3 := rfl; omega)), (by first | (first | exact x_40 | omega) | decide | (have h8 : (0 : Int64).toInt = 0 := rfl; have h9 : (-1 : Int32).toInt = -1 := rfl; have h10 : (-2 : Int32).toInt = -2 := rfl; have h11 : (0 : Int32).toInt = 0 := rfl; have h12 : (1 : Int32).toInt = 1 := rfl; have h13 : (-5 : Int32).toInt = -5 := rfl; have h14 : (-3 : Int32).toInt = -3 := rfl; omega)), (by rw [x_41, mp_ofi (x := z_17) (v := 100 + x0.toInt) (by first | (first | exact e_19 | omega) | decide)]), (mp_CS_to (mp_CS_add q1 x_42 x_41 ⟨by first | rfl | omega, by first | (first | exact mp_o501 c_5 e_19 | omega) | decide⟩ (show _ = _ + mp_k200 f9 y6.toInt by (first | exact q0 | omega))) (by (first | exact mp_o347 l_y6 x_40 | omega))), rfl⟩)) (by first | exact mp_fd_ok mp_k_cX9_says_ok (by decide +kernel) | decide +kernel)
      · skip
        refine q_47.elim fun e_79 q_80 => q_80.elim fun c_43 q_81 => q_81.elim fun x_44 q_82 => q_82.elim fun x_45 e_83 => ?_
        clear h_22 q_47 q_80 q_81 q_82
        subst e_79
        subst e_83
        have c_43 : 60 ≤ y6.toInt := c_43
        let w9_ : va_W := [(mp_ob9 a0 a18 a1 a19 a20 a21 a22 a23 a24 a25), (mp_arI E a4 0 6 f1), (mp_arI E a8 0 10 f5), (mp_arI E a9 0 10 f6), (mp_arI E a10 0 10 f7), (mp_arI E a11 0 10 f8), (mp_arI E a17 0 10 f14), (mp_arI E a5 0 6 f2), (mp_arI E a6 0 10 f3), (mp_arI E a7 0 10 f4), (mp_ob0 a1 a2 y0 a13 a14 a15 a16 a17 a26), (mp_ob7 a2 y1 y2 y3 y4 y5 y6 a3 a27 a4 a5 a28 a6 a7 a8 a9 a10 a11 a12), (mp_arI E a3 0 36 f0), (mp_arI E a12 0 60 f9), (mp_arI E a13 0 6 f10), (mp_arI E a14 0 6 f11), (mp_arI E a15 0 6 f12), (mp_arL E a16 20 f13)]
        show mp_W E X 2 39 [(0, .ref a0), (1, .int x0)] [.int 0] w9_ 0 0
        refine mp_run mp_k_cX9_says_ok hF mp_tabX9_ok [mp_h (.ifCond .ne 6) [45]] (by decide +kernel) ?_
        refine And.intro (fun c_84 => absurd c_84 (by decide)) (fun _ => ?_)
        show mp_W E X 2 42 [(0, .ref a0), (1, .int x0)] [] w9_ 0 0
        refine mp_run mp_k_cX9_says_ok hF mp_tabX9_ok [mp_c (.bipush (-5)) (-5)] (by decide +kernel) ?_
        show mp_W E X 2 44 [(0, .ref a0), (1, .int x0)] [.int (-5)] w9_ 0 0
        exact mp_iret hF hQ rfl rfl (Nat.le_of_ble_eq_true rfl) (Nat.le_of_ble_eq_true rfl) [0, 10, 11, 12, 1, 7, 8, 9, 2, 3, 4, 5, 13, 14, 15, 16, 17, 6] (w' := w1_) rfl rfl (Or.inr (Or.inl ⟨rfl, (by first | (first | exact c_5 | omega) | decide), (by first | (first | exact c_6 | omega) | decide), (by first | (first | exact x_44 | omega) | decide | (have h8 : (0 : Int64).toInt = 0 := rfl; have h9 : (-1 : Int32).toInt = -1 := rfl; have h10 : (-2 : Int32).toInt = -2 := rfl; have h11 : (0 : Int32).toInt = 0 := rfl; have h12 : (1 : Int32).toInt = 1 := rfl; have h13 : (-5 : Int32).toInt = -5 := rfl; have h14 : (-3 : Int32).toInt = -3 := rfl; omega)), (by first | (first | exact x_7 | omega) | decide | (have h8 : (0 : Int64).toInt = 0 := rfl; have h9 : (-1 : Int32).toInt = -1 := rfl; have h10 : (-2 : Int32).toInt = -2 := rfl; have h11 : (0 : Int32).toInt = 0 := rfl; have h12 : (1 : Int32).toInt = 1 := rfl; have h13 : (-5 : Int32).toInt = -5 := rfl; have h14 : (-3 : Int32).toInt = -3 := rfl; omega)), (Or.inr (by (first | exact c_43 | omega))), q1, rfl⟩)) (by first | exact mp_fd_ok mp_k_cX9_says_ok (by decide +kernel) | decide +kernel)
set_option maxHeartbeats 4000000 in
set_option maxRecDepth 100000 in
theorem bX9_passes_95 (E : mp_E) (a0 a1 a2 a3 a4 a5 a6 a7 a8 a9 a10 a11 a12 a13 a14 a15 a16 a17 a18 a19 a20 a21 a22 a23 a24 a25 a26 a27 a28 : Nat) (f0 : Nat → Int32) (f1 : Nat → Int32) (f2 : Nat → Int32) (f3 : Nat → Int32) (f4 : Nat → Int32) (f5 : Nat → Int32) (f6 : Nat → Int64) (y0 : Int32) (y1 : Int32) (y2 : Int32) (y3 : Int32) (y4 : Int32) (y5 : Int32) (y6 : Int32) (p0 : mp_all f0 36 0 20) (p1 : mp_all f1 6 0 5) (p2 : mp_acts f2) (p3 : mp_all f3 6 0 5) (l_y0 : 0 ≤ y0.toInt) (u_y0 : y0.toInt ≤ 99) (l_y2 : 0 ≤ y2.toInt) (u_y2 : y2.toInt ≤ 6) (l_y3 : 0 ≤ y3.toInt) (u_y3 : y3.toInt ≤ 99) (l_y4 : 0 ≤ y4.toInt) (u_y4 : y4.toInt ≤ 6) (l_y5 : 0 ≤ y5.toInt) (u_y5 : y5.toInt ≤ 10) (l_y6 : 0 ≤ y6.toInt) (u_y6 : y6.toInt ≤ 60) (q0 : y0.toInt = y3.toInt + mp_k200 f2 y6.toInt) (q1 : mp_CS f3 f4 f5 f0 f1 f2 y3.toInt y4.toInt (y6.toInt : Int).toNat) : mp_Ct E yX9_passes cX9_passes 1 (some FieldType.int) 3 0 0 66 [.ref a0] [(mp_ob9 a0 a10 a1 a11 a12 a13 a14 a15 a16 a17), (mp_ob0 a1 a2 y0 a6 a7 a8 a9 a18 a19), (mp_ob7 a2 y1 y2 y3 y4 y5 y6 a3 a20 a4 a21 a22 a23 a24 a25 a26 a27 a28 a5), (mp_arI E a3 0 36 f0), (mp_arI E a4 0 6 f1), (mp_arI E a5 0 60 f2), (mp_arI E a6 0 6 f3), (mp_arI E a7 0 6 f4), (mp_arI E a8 0 6 f5), (mp_arL E a9 20 f6)] (fun v w' => (v = some (.int (-5)) ∧ y1.toInt ≠ 0 ∧ (y0.toInt = y3.toInt + mp_k200 f2 y6.toInt) ∧ (y1.toInt ≠ 0) ∧ (99 ≤ (y3.toInt + mp_k200 f2 y6.toInt) ∨ 60 ≤ y6.toInt) ∧ (mp_CS f3 f4 f5 f0 f1 f2 y3.toInt y4.toInt (y6.toInt : Int).toNat) ∧ w' = [(mp_ob9 a0 a10 a1 a11 a12 a13 a14 a15 a16 a17), (mp_ob0 a1 a2 y0 a6 a7 a8 a9 a18 a19), (mp_ob7 a2 y1 y2 y3 y4 y5 y6 a3 a20 a4 a21 a22 a23 a24 a25 a26 a27 a28 a5), (mp_arI E a3 0 36 f0), (mp_arI E a4 0 6 f1), (mp_arI E a5 0 60 f2), (mp_arI E a6 0 6 f3), (mp_arI E a7 0 6 f4), (mp_arI E a8 0 6 f5), (mp_arL E a9 20 f6)]) ∨ (∃ r1 : Int32, ∃ r2 : Int32, ∃ h3 : Nat → Int32, ∃ h4 : Nat → Int32, ∃ h5 : Nat → Int32, ∃ h6 : Nat → Int32, ∃ h7 : Nat → Int64, ∃ r8 : Int32, v = some (.int r8) ∧ y1.toInt ≠ 0 ∧ y0.toInt < 99 ∧ y6.toInt < 60 ∧ 0 ≤ r1.toInt ∧ r1.toInt ≤ 99 ∧ 1 ≤ r2.toInt ∧ r2.toInt ≤ 60 ∧ 0 ≤ r8.toInt ∧ r8.toInt ≤ 99 ∧ mp_acts h3 ∧ mp_all h4 6 0 5 ∧ (r1.toInt = y3.toInt + mp_k200 h3 r2.toInt) ∧ (y1.toInt ≠ 0) ∧ ((y3.toInt + mp_k200 f2 y6.toInt) ≤ 98) ∧ (r8.toInt = (y3.toInt + mp_k200 f2 y6.toInt) + 1) ∧ (y6.toInt ≤ 59) ∧ (r2.toInt = y6.toInt + 1) ∧ (h3 = upd f2 (y6.toInt).toNat (Int32.ofInt (200))) ∧ (mp_CS h4 h5 h6 f0 f1 h3 y3.toInt y4.toInt (r2.toInt : Int).toNat) ∧ w' = [(mp_ob9 a0 a10 a1 a11 a12 a13 a14 a15 a16 a17), (mp_ob0 a1 a2 r1 a6 a7 a8 a9 a18 a19), (mp_ob7 a2 y1 y2 y3 y4 y5 r2 a3 a20 a4 a21 a22 a23 a24 a25 a26 a27 a28 a5), (mp_arI E a3 0 36 f0), (mp_arI E a4 0 6 f1), (mp_arI E a5 0 60 h3), (mp_arI E a6 0 6 h4), (mp_arI E a7 0 6 h5), (mp_arI E a8 0 6 h6), (mp_arL E a9 20 h7)]) ∨ (v = some (.int (-2)) ∧ y1.toInt = 0 ∧ (y0.toInt = y3.toInt + mp_k200 f2 y6.toInt) ∧ (y1.toInt = 0) ∧ (mp_CS f3 f4 f5 f0 f1 f2 y3.toInt y4.toInt (y6.toInt : Int).toNat) ∧ w' = [(mp_ob9 a0 a10 a1 a11 a12 a13 a14 a15 a16 a17), (mp_ob0 a1 a2 y0 a6 a7 a8 a9 a18 a19), (mp_ob7 a2 y1 y2 y3 y4 y5 y6 a3 a20 a4 a21 a22 a23 a24 a25 a26 a27 a28 a5), (mp_arI E a3 0 36 f0), (mp_arI E a4 0 6 f1), (mp_arI E a5 0 60 f2), (mp_arI E a6 0 6 f3), (mp_arI E a7 0 6 f4), (mp_arI E a8 0 6 f5), (mp_arL E a9 20 f6)])) := by
  refine mp_met false (by decide) (by decide) (Nat.le_of_ble_eq_true rfl) (fun X hF hQ => ?_)
  have hF : mp_F E X (RX9, cX9_passes, 1, (3, 0, 0, 66), (some FieldType.int), false) := hF
  let w1_ : va_W := [(mp_ob9 a0 a10 a1 a11 a12 a13 a14 a15 a16 a17), (mp_ob0 a1 a2 y0 a6 a7 a8 a9 a18 a19), (mp_ob7 a2 y1 y2 y3 y4 y5 y6 a3 a20 a4 a21 a22 a23 a24 a25 a26 a27 a28 a5), (mp_arI E a3 0 36 f0), (mp_arI E a4 0 6 f1), (mp_arI E a5 0 60 f2), (mp_arI E a6 0 6 f3), (mp_arI E a7 0 6 f4), (mp_arI E a8 0 6 f5), (mp_arL E a9 20 f6)]
  show mp_W E X 1 0 [(0, .ref a0)] [] w1_ 0 0
  refine mp_run mp_k_cX9_passes_ok hF mp_tabX9_ok [mp_i (.aload_n 0), mp_h (.getfield 19) [37, 0], mp_h (.getfield 83) [20, 1], mp_h (.getfield 97) [0, 2], mp_h (.ifCond .ne 6) [16]] (by decide +kernel) ?_
  refine And.intro rfl (And.intro rfl ?_)
  refine And.intro rfl (And.intro rfl ?_)
  refine And.intro rfl (And.intro rfl ?_)
  refine And.intro (fun c_1 => ?_) (fun c_1 => ?_)
  · have c_1 : y1.toInt ≠ 0 := c_1
    show mp_W E X 1 16 [(0, .ref a0)] [] w1_ 0 0
    refine mp_run mp_k_cX9_passes_ok hF mp_tabX9_ok [mp_i (.aload_n 0), mp_h (.getfield 19) [37, 0], mp_h (.getfield 166) [21, 1], mp_c (.bipush 99) 99, mp_h (.if_icmp .ge 16) [41]] (by decide +kernel) ?_
    refine And.intro rfl (And.intro rfl ?_)
    refine And.intro rfl (And.intro rfl ?_)
    refine And.intro (fun c_2 => ?_) (fun c_2 => ?_)
    · have c_2 : 99 ≤ y0.toInt := c_2
      show mp_W E X 1 41 [(0, .ref a0)] [] w1_ 0 0
      refine mp_run mp_k_cX9_passes_ok hF mp_tabX9_ok [mp_c (.bipush (-5)) (-5)] (by decide +kernel) ?_
      show mp_W E X 1 43 [(0, .ref a0)] [.int (-5)] w1_ 0 0
      exact mp_iret hF hQ rfl rfl (Nat.le_of_ble_eq_true rfl) (Nat.le_of_ble_eq_true rfl) [0, 1, 2, 3, 4, 5, 6, 7, 8, 9] (w' := w1_) rfl rfl (Or.inl ⟨rfl, (by first | (first | exact c_1 | omega) | decide), (by first | (first | exact q0 | omega) | decide | (have h8 : (0 : Int64).toInt = 0 := rfl; have h9 : (-1 : Int32).toInt = -1 := rfl; have h10 : (-2 : Int32).toInt = -2 := rfl; have h11 : (0 : Int32).toInt = 0 := rfl; have h12 : (1 : Int32).toInt = 1 := rfl; have h13 : (-5 : Int32).toInt = -5 := rfl; have h14 : (-3 : Int32).toInt = -3 := rfl; omega)), (by first | (first | exact c_1 | omega) | decide | (have h8 : (0 : Int64).toInt = 0 := rfl; have h9 : (-1 : Int32).toInt = -1 := rfl; have h10 : (-2 : Int32).toInt = -2 := rfl; have h11 : (0 : Int32).toInt = 0 := rfl; have h12 : (1 : Int32).toInt = 1 := rfl; have h13 : (-5 : Int32).toInt = -5 := rfl; have h14 : (-3 : Int32).toInt = -3 := rfl; omega)), (by first | (first | exact mp_o504 c_2 q0 | omega) | decide | (have h8 : (0 : Int64).toInt = 0 := rfl; have h9 : (-1 : Int32).toInt = -1 := rfl; have h10 : (-2 : Int32).toInt = -2 := rfl; have h11 : (0 : Int32).toInt = 0 := rfl; have h12 : (1 : Int32).toInt = 1 := rfl; have h13 : (-5 : Int32).toInt = -5 := rfl; have h14 : (-3 : Int32).toInt = -3 := rfl; omega)), q1, rfl⟩) (by first | exact mp_fd_ok mp_k_cX9_passes_ok (by decide +kernel) | decide +kernel)
    · have c_2 : y0.toInt < 99 := c_2
      show mp_W E X 1 28 [(0, .ref a0)] [] w1_ 0 0
      refine mp_run mp_k_cX9_passes_ok hF mp_tabX9_ok [mp_i (.aload_n 0), mp_h (.getfield 19) [37, 0], mp_c (.sipush 200) 200] (by decide +kernel) ?_
      refine And.intro rfl (And.intro rfl ?_)
      show mp_W E X 1 35 [(0, .ref a0)] [.int 200, .ref a1] w1_ 0 0
      refine mp_callV hF (As := [.int 200]) (rest := []) (wr := [(mp_ob9 a0 a10 a1 a11 a12 a13 a14 a15 a16 a17), (mp_arI E a4 0 6 f1)]) (bX0_addAct_90 E a1 a2 a3 a5 a6 a7 a8 a9 a18 a19 a20 a4 a21 a22 a23 a24 a25 a26 a27 a28 f0 f2 f3 f4 f5 f6 y0 y1 y2 y3 y4 y5 y6 200 p0 p2 p3 (by decide) (by decide) l_y0 u_y0 l_y2 u_y2 l_y3 u_y3 l_y4 u_y4 l_y5 u_y5 l_y6 u_y6 (by first | fail | (show (((200 : Int) = 200 ∧ _ ≤ 98) ∨ _); (first | exact mp_o505 c_2 | omega)) | decide) (by (first | exact q0 | omega))) mp_lkX9_208 1 rfl [1, 2, 3, 5, 6, 7, 8, 9] [0, 4] rfl rfl rfl rfl rfl ⟨(Nat.le_of_ble_eq_true rfl), (Nat.le_of_ble_eq_true rfl), (Nat.le_of_ble_eq_true rfl), (Nat.le_of_ble_eq_true rfl)⟩ (Nat.le_of_ble_eq_true rfl) (by first | exact mp_fd_ok mp_k_cX9_passes_ok (by decide +kernel) | decide +kernel) (fun v_3 w_4 h_5 => ?_)
      refine h_5.elim (fun q_29 => ?_) (fun q_30 => ?_)
      · skip
        refine q_29.elim fun r_6 q_31 => q_31.elim fun r_7 q_32 => q_32.elim fun g_8 q_33 => q_33.elim fun g_9 q_34 => q_34.elim fun g_10 q_35 => q_35.elim fun g_11 q_36 => q_36.elim fun g_12 q_37 => q_37.elim fun e_38 q_39 => q_39.elim fun c_13 q_40 => q_40.elim fun l_14 q_41 => q_41.elim fun u_15 q_42 => q_42.elim fun l_16 q_43 => q_43.elim fun u_17 q_44 => q_44.elim fun p_18 q_45 => q_45.elim fun p_19 q_46 => q_46.elim fun x_20 q_47 => q_47.elim fun x_21 q_48 => q_48.elim fun x_22 q_49 => q_49.elim fun x_23 q_50 => q_50.elim fun x_24 q_51 => q_51.elim fun x_25 e_52 => ?_
        clear h_5 q_29 q_31 q_32 q_33 q_34 q_35 q_36 q_37 q_39 q_40 q_41 q_42 q_43 q_44 q_45 q_46 q_47 q_48 q_49 q_50 q_51
        subst e_38
        subst e_52
        have c_13 : y6.toInt < 60 := c_13
        let w2_ : va_W := [(mp_ob9 a0 a10 a1 a11 a12 a13 a14 a15 a16 a17), (mp_arI E a4 0 6 f1), (mp_ob0 a1 a2 r_6 a6 a7 a8 a9 a18 a19), (mp_ob7 a2 y1 y2 y3 y4 y5 r_7 a3 a20 a4 a21 a22 a23 a24 a25 a26 a27 a28 a5), (mp_arI E a3 0 36 f0), (mp_arI E a5 0 60 g_8), (mp_arI E a6 0 6 g_9), (mp_arI E a7 0 6 g_10), (mp_arI E a8 0 6 g_11), (mp_arL E a9 20 g_12)]
        show mp_W E X 1 38 [(0, .ref a0)] [.int 1] w2_ 0 0
        refine mp_run mp_k_cX9_passes_ok hF mp_tabX9_ok [mp_h (.ifCond .ne 6) [44]] (by decide +kernel) ?_
        refine And.intro (fun _ => ?_) (fun c_53 => absurd c_53 (by decide))
        show mp_W E X 1 44 [(0, .ref a0)] [] w2_ 0 0
        refine mp_run mp_k_cX9_passes_ok hF mp_tabX9_ok [mp_i (.aload_n 0), mp_h (.getfield 19) [37, 0], mp_h (.getfield 166) [21, 2]] (by decide +kernel) ?_
        refine And.intro rfl (And.intro rfl ?_)
        refine And.intro rfl (And.intro rfl ?_)
        show mp_W E X 1 51 [(0, .ref a0)] [.int r_6] w2_ 0 0
        exact mp_iret hF hQ rfl rfl (Nat.le_of_ble_eq_true rfl) (Nat.le_of_ble_eq_true rfl) [0, 2, 3, 4, 1, 5, 6, 7, 8, 9] (w' := [(mp_ob9 a0 a10 a1 a11 a12 a13 a14 a15 a16 a17), (mp_ob0 a1 a2 r_6 a6 a7 a8 a9 a18 a19), (mp_ob7 a2 y1 y2 y3 y4 y5 r_7 a3 a20 a4 a21 a22 a23 a24 a25 a26 a27 a28 a5), (mp_arI E a3 0 36 f0), (mp_arI E a4 0 6 f1), (mp_arI E a5 0 60 g_8), (mp_arI E a6 0 6 g_9), (mp_arI E a7 0 6 g_10), (mp_arI E a8 0 6 g_11), (mp_arL E a9 20 g_12)]) rfl rfl (Or.inr (Or.inl ⟨r_6, r_7, g_8, g_9, g_10, g_11, g_12, r_6, rfl, (by first | (first | exact c_1 | omega) | decide), (by first | (first | exact c_2 | omega) | decide), (by first | (first | exact c_13 | omega) | decide), l_14, u_15, l_16, u_17, l_14, u_15, p_18, p_19, (by first | (first | exact x_20 | omega) | decide | (have h8 : (0 : Int64).toInt = 0 := rfl; have h9 : (-1 : Int32).toInt = -1 := rfl; have h10 : (-2 : Int32).toInt = -2 := rfl; have h11 : (0 : Int32).toInt = 0 := rfl; have h12 : (1 : Int32).toInt = 1 := rfl; have h13 : (-5 : Int32).toInt = -5 := rfl; have h14 : (-3 : Int32).toInt = -3 := rfl; omega)), (by first | (first | exact c_1 | omega) | decide | (have h8 : (0 : Int64).toInt = 0 := rfl; have h9 : (-1 : Int32).toInt = -1 := rfl; have h10 : (-2 : Int32).toInt = -2 := rfl; have h11 : (0 : Int32).toInt = 0 := rfl; have h12 : (1 : Int32).toInt = 1 := rfl; have h13 : (-5 : Int32).toInt = -5 := rfl; have h14 : (-3 : Int32).toInt = -3 := rfl; omega)), (by first | (first | exact mp_o506 c_2 q0 | omega) | decide | (have h8 : (0 : Int64).toInt = 0 := rfl; have h9 : (-1 : Int32).toInt = -1 := rfl; have h10 : (-2 : Int32).toInt = -2 := rfl; have h11 : (0 : Int32).toInt = 0 := rfl; have h12 : (1 : Int32).toInt = 1 := rfl; have h13 : (-5 : Int32).toInt = -5 := rfl; have h14 : (-3 : Int32).toInt = -3 := rfl; omega)), (by have h7 : (200 : Int32).toInt = 200 := (by decide); first | (first | exact mp_o507 q0 h7 x_21 | omega) | (first | fail | decide | (have h8 : (0 : Int64).toInt = 0 := rfl; have h9 : (-1 : Int32).toInt = -1 := rfl; have h10 : (-2 : Int32).toInt = -2 := rfl; have h11 : (0 : Int32).toInt = 0 := rfl; have h12 : (1 : Int32).toInt = 1 := rfl; have h13 : (-5 : Int32).toInt = -5 := rfl; have h14 : (-3 : Int32).toInt = -3 := rfl; omega))), (by first | (first | exact x_22 | omega) | decide | (have h8 : (0 : Int64).toInt = 0 := rfl; have h9 : (-1 : Int32).toInt = -1 := rfl; have h10 : (-2 : Int32).toInt = -2 := rfl; have h11 : (0 : Int32).toInt = 0 := rfl; have h12 : (1 : Int32).toInt = 1 := rfl; have h13 : (-5 : Int32).toInt = -5 := rfl; have h14 : (-3 : Int32).toInt = -3 := rfl; omega)), (by first | (first | exact x_23 | omega) | decide | (have h8 : (0 : Int64).toInt = 0 := rfl; have h9 : (-1 : Int32).toInt = -1 := rfl; have h10 : (-2 : Int32).toInt = -2 := rfl; have h11 : (0 : Int32).toInt = 0 := rfl; have h12 : (1 : Int32).toInt = 1 := rfl; have h13 : (-5 : Int32).toInt = -5 := rfl; have h14 : (-3 : Int32).toInt = -3 := rfl; omega)), (by rw [x_24, mp_ofi (x := 200) (v := 200) (by first | fail | decide)]), (mp_CS_to (mp_CS_add q1 x_25 x_24 ⟨by first | rfl | omega, by first | fail | decide⟩ (show _ = _ + mp_k200 f2 y6.toInt by (first | exact q0 | omega))) (by (first | exact mp_o494 l_16 x_23 | omega))), rfl⟩)) (by first | exact mp_fd_ok mp_k_cX9_passes_ok (by decide +kernel) | decide +kernel)
      · skip
        refine q_30.elim fun e_54 q_55 => q_55.elim fun c_26 q_56 => q_56.elim fun x_27 q_57 => q_57.elim fun x_28 e_58 => ?_
        clear h_5 q_30 q_55 q_56 q_57
        subst e_54
        subst e_58
        have c_26 : 60 ≤ y6.toInt := c_26
        let w3_ : va_W := [(mp_ob9 a0 a10 a1 a11 a12 a13 a14 a15 a16 a17), (mp_arI E a4 0 6 f1), (mp_ob0 a1 a2 y0 a6 a7 a8 a9 a18 a19), (mp_ob7 a2 y1 y2 y3 y4 y5 y6 a3 a20 a4 a21 a22 a23 a24 a25 a26 a27 a28 a5), (mp_arI E a3 0 36 f0), (mp_arI E a5 0 60 f2), (mp_arI E a6 0 6 f3), (mp_arI E a7 0 6 f4), (mp_arI E a8 0 6 f5), (mp_arL E a9 20 f6)]
        show mp_W E X 1 38 [(0, .ref a0)] [.int 0] w3_ 0 0
        refine mp_run mp_k_cX9_passes_ok hF mp_tabX9_ok [mp_h (.ifCond .ne 6) [44]] (by decide +kernel) ?_
        refine And.intro (fun c_59 => absurd c_59 (by decide)) (fun _ => ?_)
        show mp_W E X 1 41 [(0, .ref a0)] [] w3_ 0 0
        refine mp_run mp_k_cX9_passes_ok hF mp_tabX9_ok [mp_c (.bipush (-5)) (-5)] (by decide +kernel) ?_
        show mp_W E X 1 43 [(0, .ref a0)] [.int (-5)] w3_ 0 0
        exact mp_iret hF hQ rfl rfl (Nat.le_of_ble_eq_true rfl) (Nat.le_of_ble_eq_true rfl) [0, 2, 3, 4, 1, 5, 6, 7, 8, 9] (w' := w1_) rfl rfl (Or.inl ⟨rfl, (by first | (first | exact c_1 | omega) | decide), (by first | (first | exact x_27 | omega) | decide | (have h8 : (0 : Int64).toInt = 0 := rfl; have h9 : (-1 : Int32).toInt = -1 := rfl; have h10 : (-2 : Int32).toInt = -2 := rfl; have h11 : (0 : Int32).toInt = 0 := rfl; have h12 : (1 : Int32).toInt = 1 := rfl; have h13 : (-5 : Int32).toInt = -5 := rfl; have h14 : (-3 : Int32).toInt = -3 := rfl; omega)), (by first | (first | exact c_1 | omega) | decide | (have h8 : (0 : Int64).toInt = 0 := rfl; have h9 : (-1 : Int32).toInt = -1 := rfl; have h10 : (-2 : Int32).toInt = -2 := rfl; have h11 : (0 : Int32).toInt = 0 := rfl; have h12 : (1 : Int32).toInt = 1 := rfl; have h13 : (-5 : Int32).toInt = -5 := rfl; have h14 : (-3 : Int32).toInt = -3 := rfl; omega)), (by first | (first | exact mp_o508 c_26 | omega) | decide | (have h8 : (0 : Int64).toInt = 0 := rfl; have h9 : (-1 : Int32).toInt = -1 := rfl; have h10 : (-2 : Int32).toInt = -2 := rfl; have h11 : (0 : Int32).toInt = 0 := rfl; have h12 : (1 : Int32).toInt = 1 := rfl; have h13 : (-5 : Int32).toInt = -5 := rfl; have h14 : (-3 : Int32).toInt = -3 := rfl; omega)), q1, rfl⟩) (by first | exact mp_fd_ok mp_k_cX9_passes_ok (by decide +kernel) | decide +kernel)
  · have c_1 : y1.toInt = 0 := (congrArg Int32.toInt c_1)
    show mp_W E X 1 13 [(0, .ref a0)] [] w1_ 0 0
    refine mp_run mp_k_cX9_passes_ok hF mp_tabX9_ok [mp_c (.bipush (-2)) (-2)] (by decide +kernel) ?_
    show mp_W E X 1 15 [(0, .ref a0)] [.int (-2)] w1_ 0 0
    exact mp_iret hF hQ rfl rfl (Nat.le_of_ble_eq_true rfl) (Nat.le_of_ble_eq_true rfl) [0, 1, 2, 3, 4, 5, 6, 7, 8, 9] (w' := w1_) rfl rfl (Or.inr (Or.inr ⟨rfl, (by first | (first | exact c_1 | omega) | decide), (by first | (first | exact q0 | omega) | decide | (have h8 : (0 : Int64).toInt = 0 := rfl; have h9 : (-1 : Int32).toInt = -1 := rfl; have h10 : (-2 : Int32).toInt = -2 := rfl; have h11 : (0 : Int32).toInt = 0 := rfl; have h12 : (1 : Int32).toInt = 1 := rfl; have h13 : (-5 : Int32).toInt = -5 := rfl; have h14 : (-3 : Int32).toInt = -3 := rfl; omega)), (by first | (first | exact c_1 | omega) | decide | (have h8 : (0 : Int64).toInt = 0 := rfl; have h9 : (-1 : Int32).toInt = -1 := rfl; have h10 : (-2 : Int32).toInt = -2 := rfl; have h11 : (0 : Int32).toInt = 0 := rfl; have h12 : (1 : Int32).toInt = 1 := rfl; have h13 : (-5 : Int32).toInt = -5 := rfl; have h14 : (-3 : Int32).toInt = -3 := rfl; omega)), q1, rfl⟩)) (by first | exact mp_fd_ok mp_k_cX9_passes_ok (by decide +kernel) | decide +kernel)
set_option maxHeartbeats 4000000 in
set_option maxRecDepth 100000 in
theorem bX9_undo_96 (E : mp_E) (a0 a1 a2 a3 a4 a5 a6 a7 a8 a9 a10 a11 a12 a13 a14 a15 a16 a17 a18 a19 a20 a21 a22 a23 a24 a25 a26 a27 a28 : Nat) (f0 : Nat → Int32) (f1 : Nat → Int32) (f2 : Nat → Int32) (f3 : Nat → Int32) (f4 : Nat → Int32) (f5 : Nat → Int32) (f6 : Nat → Int64) (y0 : Int32) (y1 : Int32) (y2 : Int32) (y3 : Int32) (y4 : Int32) (y5 : Int32) (y6 : Int32) (p0 : mp_all f0 36 0 20) (p1 : mp_all f1 6 0 5) (p2 : mp_acts f2) (p3 : mp_all f3 6 0 5) (l_y0 : 0 ≤ y0.toInt) (u_y0 : y0.toInt ≤ 99) (l_y2 : 0 ≤ y2.toInt) (u_y2 : y2.toInt ≤ 6) (l_y3 : 0 ≤ y3.toInt) (u_y3 : y3.toInt ≤ 99) (l_y4 : 0 ≤ y4.toInt) (u_y4 : y4.toInt ≤ 6) (l_y5 : 0 ≤ y5.toInt) (u_y5 : y5.toInt ≤ 10) (l_y6 : 0 ≤ y6.toInt) (u_y6 : y6.toInt ≤ 60) (q0 : y0.toInt = y3.toInt + mp_k200 f2 y6.toInt) : mp_Ct E yX9_undo cX9_undo 2 (some FieldType.int) 3 0 0 66 [.ref a0] [(mp_ob9 a0 a10 a1 a11 a12 a13 a14 a15 a16 a17), (mp_ob0 a1 a2 y0 a6 a7 a8 a9 a18 a19), (mp_ob7 a2 y1 y2 y3 y4 y5 y6 a3 a20 a4 a21 a22 a23 a24 a25 a26 a27 a28 a5), (mp_arI E a3 0 36 f0), (mp_arI E a4 0 6 f1), (mp_arI E a5 0 60 f2), (mp_arI E a6 0 6 f3), (mp_arI E a7 0 6 f4), (mp_arI E a8 0 6 f5), (mp_arL E a9 20 f6)] (fun v w' => (∃ r1 : Int32, ∃ r2 : Int32, ∃ h3 : Nat → Int32, ∃ h4 : Nat → Int32, ∃ h5 : Nat → Int32, ∃ h6 : Nat → Int64, ∃ r7 : Int32, v = some (.int r7) ∧ y1.toInt ≠ 0 ∧ y6.toInt ≠ 0 ∧ 0 ≤ r1.toInt ∧ r1.toInt ≤ 99 ∧ 0 ≤ r2.toInt ∧ r2.toInt ≤ 59 ∧ 0 ≤ r7.toInt ∧ r7.toInt ≤ 59 ∧ mp_all h3 6 0 5 ∧ (r1.toInt = y3.toInt + mp_k200 f2 r2.toInt) ∧ (y1.toInt ≠ 0) ∧ (0 < y6.toInt) ∧ (r2.toInt = y6.toInt - 1) ∧ (r7.toInt = r2.toInt) ∧ (mp_CS h3 h4 h5 f0 f1 f2 y3.toInt y4.toInt (r2.toInt : Int).toNat) ∧ w' = [(mp_ob9 a0 a10 a1 a11 a12 a13 a14 a15 a16 a17), (mp_ob0 a1 a2 r1 a6 a7 a8 a9 a18 a19), (mp_ob7 a2 y1 y2 y3 y4 y5 r2 a3 a20 a4 a21 a22 a23 a24 a25 a26 a27 a28 a5), (mp_arI E a3 0 36 f0), (mp_arI E a4 0 6 f1), (mp_arI E a5 0 60 f2), (mp_arI E a6 0 6 h3), (mp_arI E a7 0 6 h4), (mp_arI E a8 0 6 h5), (mp_arL E a9 20 h6)]) ∨ (v = some (.int (-5)) ∧ y1.toInt ≠ 0 ∧ y6.toInt = 0 ∧ (y0.toInt = y3.toInt + mp_k200 f2 y6.toInt) ∧ (y1.toInt ≠ 0) ∧ (y6.toInt ≤ 0) ∧ w' = [(mp_ob9 a0 a10 a1 a11 a12 a13 a14 a15 a16 a17), (mp_ob0 a1 a2 y0 a6 a7 a8 a9 a18 a19), (mp_ob7 a2 y1 y2 y3 y4 y5 y6 a3 a20 a4 a21 a22 a23 a24 a25 a26 a27 a28 a5), (mp_arI E a3 0 36 f0), (mp_arI E a4 0 6 f1), (mp_arI E a5 0 60 f2), (mp_arI E a6 0 6 f3), (mp_arI E a7 0 6 f4), (mp_arI E a8 0 6 f5), (mp_arL E a9 20 f6)]) ∨ (v = some (.int (-2)) ∧ y1.toInt = 0 ∧ (y0.toInt = y3.toInt + mp_k200 f2 y6.toInt) ∧ (y1.toInt = 0) ∧ w' = [(mp_ob9 a0 a10 a1 a11 a12 a13 a14 a15 a16 a17), (mp_ob0 a1 a2 y0 a6 a7 a8 a9 a18 a19), (mp_ob7 a2 y1 y2 y3 y4 y5 y6 a3 a20 a4 a21 a22 a23 a24 a25 a26 a27 a28 a5), (mp_arI E a3 0 36 f0), (mp_arI E a4 0 6 f1), (mp_arI E a5 0 60 f2), (mp_arI E a6 0 6 f3), (mp_arI E a7 0 6 f4), (mp_arI E a8 0 6 f5), (mp_arL E a9 20 f6)])) := by
  refine mp_met false (by decide) (by decide) (Nat.le_of_ble_eq_true rfl) (fun X hF hQ => ?_)
  have hF : mp_F E X (RX9, cX9_undo, 2, (3, 0, 0, 66), (some FieldType.int), false) := hF
  let w1_ : va_W := [(mp_ob9 a0 a10 a1 a11 a12 a13 a14 a15 a16 a17), (mp_ob0 a1 a2 y0 a6 a7 a8 a9 a18 a19), (mp_ob7 a2 y1 y2 y3 y4 y5 y6 a3 a20 a4 a21 a22 a23 a24 a25 a26 a27 a28 a5), (mp_arI E a3 0 36 f0), (mp_arI E a4 0 6 f1), (mp_arI E a5 0 60 f2), (mp_arI E a6 0 6 f3), (mp_arI E a7 0 6 f4), (mp_arI E a8 0 6 f5), (mp_arL E a9 20 f6)]
  show mp_W E X 2 0 [(0, .ref a0)] [] w1_ 0 0
  refine mp_run mp_k_cX9_undo_ok hF mp_tabX9_ok [mp_i (.aload_n 0), mp_h (.getfield 19) [37, 0], mp_h (.getfield 83) [20, 1], mp_i (.astore_n 1), mp_i (.aload_n 1), mp_h (.getfield 97) [0, 2], mp_h (.ifCond .ne 6) [18]] (by decide +kernel) ?_
  refine And.intro rfl (And.intro rfl ?_)
  refine And.intro rfl (And.intro rfl ?_)
  refine And.intro rfl (And.intro rfl ?_)
  refine And.intro (fun c_1 => ?_) (fun c_1 => ?_)
  · have c_1 : y1.toInt ≠ 0 := c_1
    show mp_W E X 2 18 [(1, .ref a2), (0, .ref a0)] [] w1_ 0 0
    refine mp_run mp_k_cX9_undo_ok hF mp_tabX9_ok [mp_i (.aload_n 1), mp_h (.getfield 214) [5, 2], mp_h (.ifCond .ne 6) [28]] (by decide +kernel) ?_
    refine And.intro rfl (And.intro rfl ?_)
    refine And.intro (fun c_2 => ?_) (fun c_2 => ?_)
    · have c_2 : y6.toInt ≠ 0 := c_2
      show mp_W E X 2 28 [(1, .ref a2), (0, .ref a0)] [] w1_ 0 0
      refine mp_run mp_k_cX9_undo_ok hF mp_tabX9_ok [mp_i (.aload_n 1), mp_i .dup, mp_h (.getfield 214) [5, 2], mp_c (.iconst 1) 1, mp_i .isub, mp_h (.putfield 214) [5, 2]] (by decide +kernel) ?_
      refine And.intro rfl ?_
      refine And.intro rfl (And.intro rfl ?_)
      intro z_3 h_4
      have e_5 : z_3.toInt = y6.toInt - 1 := mp_subi (a := y6.toInt) (b := 1) h_4 rfl (by decide) (by (first | exact mp_o157 l_y6 | omega)) (by (first | exact mp_o509 u_y6 | omega))
      refine And.intro rfl (And.intro rfl (And.intro rfl (And.intro rfl (And.intro (Nat.le_of_ble_eq_true rfl) ?_))))
      let w2_ : va_W := [(mp_ob9 a0 a10 a1 a11 a12 a13 a14 a15 a16 a17), (mp_ob0 a1 a2 y0 a6 a7 a8 a9 a18 a19), (mp_ob7 a2 y1 y2 y3 y4 y5 z_3 a3 a20 a4 a21 a22 a23 a24 a25 a26 a27 a28 a5), (mp_arI E a3 0 36 f0), (mp_arI E a4 0 6 f1), (mp_arI E a5 0 60 f2), (mp_arI E a6 0 6 f3), (mp_arI E a7 0 6 f4), (mp_arI E a8 0 6 f5), (mp_arL E a9 20 f6)]
      show mp_W E X 2 38 [(1, .ref a2), (0, .ref a0)] [] w2_ 0 0
      refine mp_run mp_k_cX9_undo_ok hF mp_tabX9_ok [mp_i (.aload_n 0), mp_h (.getfield 19) [37, 0]] (by decide +kernel) ?_
      refine And.intro rfl (And.intro rfl ?_)
      show mp_W E X 2 42 [(1, .ref a2), (0, .ref a0)] [.ref a1] w2_ 0 0
      refine mp_callV hF (As := []) (rest := []) (wr := [(mp_ob9 a0 a10 a1 a11 a12 a13 a14 a15 a16 a17)]) (bX0_replay_48 E a1 a2 a3 a4 a5 a6 a7 a8 a9 a18 a19 a20 a21 a22 a23 a24 a25 a26 a27 a28 f0 f1 f2 f3 f4 f5 f6 y0 y1 y2 y3 y4 y5 z_3 p0 p1 p2 p3 l_y0 u_y0 l_y2 u_y2 l_y3 u_y3 l_y4 u_y4 l_y5 u_y5 (by (first | exact mp_o510 l_y6 e_5 c_2 | omega)) (by (first | exact mp_o511 u_y6 e_5 | omega)) (by first | fail | (rw [mp_k200_z]; omega) | exact mp_tinv_le q0 (by (first | exact u_y0 | omega)) (by (first | exact mp_o512 e_5 | omega)))) mp_lkX9_94 1 rfl [1, 2, 3, 4, 5, 6, 7, 8, 9] [0] rfl rfl rfl rfl rfl ⟨(Nat.le_of_ble_eq_true rfl), (Nat.le_of_ble_eq_true rfl), (Nat.le_of_ble_eq_true rfl), (Nat.le_of_ble_eq_true rfl)⟩ (Nat.le_of_ble_eq_true rfl) (by first | exact mp_fd_ok mp_k_cX9_undo_ok (by decide +kernel) | decide +kernel) (fun v_6 w_7 h_8 => ?_)
      refine h_8.elim fun r_9 q_19 => q_19.elim fun g_10 q_20 => q_20.elim fun g_11 q_21 => q_21.elim fun g_12 q_22 => q_22.elim fun g_13 q_23 => q_23.elim fun e_24 q_25 => q_25.elim fun l_14 q_26 => q_26.elim fun u_15 q_27 => q_27.elim fun p_16 q_28 => q_28.elim fun x_17 q_29 => q_29.elim fun x_18 e_30 => ?_
      clear h_8 q_19 q_20 q_21 q_22 q_23 q_25 q_26 q_27 q_28 q_29
      subst e_24
      subst e_30
      let w3_ : va_W := [(mp_ob9 a0 a10 a1 a11 a12 a13 a14 a15 a16 a17), (mp_ob0 a1 a2 r_9 a6 a7 a8 a9 a18 a19), (mp_ob7 a2 y1 y2 y3 y4 y5 z_3 a3 a20 a4 a21 a22 a23 a24 a25 a26 a27 a28 a5), (mp_arI E a3 0 36 f0), (mp_arI E a4 0 6 f1), (mp_arI E a5 0 60 f2), (mp_arI E a6 0 6 g_10), (mp_arI E a7 0 6 g_11), (mp_arI E a8 0 6 g_12), (mp_arL E a9 20 g_13)]
      show mp_W E X 2 45 [(1, .ref a2), (0, .ref a0)] [] w3_ 0 0
      refine mp_run mp_k_cX9_undo_ok hF mp_tabX9_ok [mp_i (.aload_n 1), mp_h (.getfield 214) [5, 2]] (by decide +kernel) ?_
      refine And.intro rfl (And.intro rfl ?_)
      show mp_W E X 2 49 [(1, .ref a2), (0, .ref a0)] [.int z_3] w3_ 0 0
      exact mp_iret hF hQ rfl rfl (Nat.le_of_ble_eq_true rfl) (Nat.le_of_ble_eq_true rfl) [0, 1, 2, 3, 4, 5, 6, 7, 8, 9] (w' := w3_) rfl rfl (Or.inl ⟨r_9, z_3, g_10, g_11, g_12, g_13, z_3, rfl, (by first | (first | exact c_1 | omega) | decide), (by first | (first | exact c_2 | omega) | decide), l_14, u_15, (by (first | exact mp_o510 l_y6 e_5 c_2 | omega)), (by (first | exact mp_o513 u_y6 e_5 | omega)), (by (first | exact mp_o510 l_y6 e_5 c_2 | omega)), (by (first | exact mp_o513 u_y6 e_5 | omega)), p_16, (by first | (first | exact x_17 | omega) | decide | (have h8 : (0 : Int64).toInt = 0 := rfl; have h9 : (-1 : Int32).toInt = -1 := rfl; have h10 : (-2 : Int32).toInt = -2 := rfl; have h11 : (0 : Int32).toInt = 0 := rfl; have h12 : (1 : Int32).toInt = 1 := rfl; have h13 : (-5 : Int32).toInt = -5 := rfl; have h14 : (-3 : Int32).toInt = -3 := rfl; omega)), (by first | (first | exact c_1 | omega) | decide | (have h8 : (0 : Int64).toInt = 0 := rfl; have h9 : (-1 : Int32).toInt = -1 := rfl; have h10 : (-2 : Int32).toInt = -2 := rfl; have h11 : (0 : Int32).toInt = 0 := rfl; have h12 : (1 : Int32).toInt = 1 := rfl; have h13 : (-5 : Int32).toInt = -5 := rfl; have h14 : (-3 : Int32).toInt = -3 := rfl; omega)), (by first | (first | exact mp_o514 l_y6 c_2 | omega) | decide | (have h8 : (0 : Int64).toInt = 0 := rfl; have h9 : (-1 : Int32).toInt = -1 := rfl; have h10 : (-2 : Int32).toInt = -2 := rfl; have h11 : (0 : Int32).toInt = 0 := rfl; have h12 : (1 : Int32).toInt = 1 := rfl; have h13 : (-5 : Int32).toInt = -5 := rfl; have h14 : (-3 : Int32).toInt = -3 := rfl; omega)), (by first | (first | exact e_5 | omega) | decide | (have h8 : (0 : Int64).toInt = 0 := rfl; have h9 : (-1 : Int32).toInt = -1 := rfl; have h10 : (-2 : Int32).toInt = -2 := rfl; have h11 : (0 : Int32).toInt = 0 := rfl; have h12 : (1 : Int32).toInt = 1 := rfl; have h13 : (-5 : Int32).toInt = -5 := rfl; have h14 : (-3 : Int32).toInt = -3 := rfl; omega)), (by first | (first | exact mp_o19 | omega) | decide | (have h8 : (0 : Int64).toInt = 0 := rfl; have h9 : (-1 : Int32).toInt = -1 := rfl; have h10 : (-2 : Int32).toInt = -2 := rfl; have h11 : (0 : Int32).toInt = 0 := rfl; have h12 : (1 : Int32).toInt = 1 := rfl; have h13 : (-5 : Int32).toInt = -5 := rfl; have h14 : (-3 : Int32).toInt = -3 := rfl; omega)), x_18, rfl⟩) (by first | exact mp_fd_ok mp_k_cX9_undo_ok (by decide +kernel) | decide +kernel)
    · have c_2 : y6.toInt = 0 := (congrArg Int32.toInt c_2)
      show mp_W E X 2 25 [(1, .ref a2), (0, .ref a0)] [] w1_ 0 0
      refine mp_run mp_k_cX9_undo_ok hF mp_tabX9_ok [mp_c (.bipush (-5)) (-5)] (by decide +kernel) ?_
      show mp_W E X 2 27 [(1, .ref a2), (0, .ref a0)] [.int (-5)] w1_ 0 0
      exact mp_iret hF hQ rfl rfl (Nat.le_of_ble_eq_true rfl) (Nat.le_of_ble_eq_true rfl) [0, 1, 2, 3, 4, 5, 6, 7, 8, 9] (w' := w1_) rfl rfl (Or.inr (Or.inl ⟨rfl, (by first | (first | exact c_1 | omega) | decide), (by first | (first | exact c_2 | omega) | decide), (by first | (first | exact q0 | omega) | decide | (have h8 : (0 : Int64).toInt = 0 := rfl; have h9 : (-1 : Int32).toInt = -1 := rfl; have h10 : (-2 : Int32).toInt = -2 := rfl; have h11 : (0 : Int32).toInt = 0 := rfl; have h12 : (1 : Int32).toInt = 1 := rfl; have h13 : (-5 : Int32).toInt = -5 := rfl; have h14 : (-3 : Int32).toInt = -3 := rfl; omega)), (by first | (first | exact c_1 | omega) | decide | (have h8 : (0 : Int64).toInt = 0 := rfl; have h9 : (-1 : Int32).toInt = -1 := rfl; have h10 : (-2 : Int32).toInt = -2 := rfl; have h11 : (0 : Int32).toInt = 0 := rfl; have h12 : (1 : Int32).toInt = 1 := rfl; have h13 : (-5 : Int32).toInt = -5 := rfl; have h14 : (-3 : Int32).toInt = -3 := rfl; omega)), (by first | (first | exact mp_o515 c_2 | omega) | decide | (have h8 : (0 : Int64).toInt = 0 := rfl; have h9 : (-1 : Int32).toInt = -1 := rfl; have h10 : (-2 : Int32).toInt = -2 := rfl; have h11 : (0 : Int32).toInt = 0 := rfl; have h12 : (1 : Int32).toInt = 1 := rfl; have h13 : (-5 : Int32).toInt = -5 := rfl; have h14 : (-3 : Int32).toInt = -3 := rfl; omega)), rfl⟩)) (by first | exact mp_fd_ok mp_k_cX9_undo_ok (by decide +kernel) | decide +kernel)
  · have c_1 : y1.toInt = 0 := (congrArg Int32.toInt c_1)
    show mp_W E X 2 15 [(1, .ref a2), (0, .ref a0)] [] w1_ 0 0
    refine mp_run mp_k_cX9_undo_ok hF mp_tabX9_ok [mp_c (.bipush (-2)) (-2)] (by decide +kernel) ?_
    show mp_W E X 2 17 [(1, .ref a2), (0, .ref a0)] [.int (-2)] w1_ 0 0
    exact mp_iret hF hQ rfl rfl (Nat.le_of_ble_eq_true rfl) (Nat.le_of_ble_eq_true rfl) [0, 1, 2, 3, 4, 5, 6, 7, 8, 9] (w' := w1_) rfl rfl (Or.inr (Or.inr ⟨rfl, (by first | (first | exact c_1 | omega) | decide), (by first | (first | exact q0 | omega) | decide | (have h8 : (0 : Int64).toInt = 0 := rfl; have h9 : (-1 : Int32).toInt = -1 := rfl; have h10 : (-2 : Int32).toInt = -2 := rfl; have h11 : (0 : Int32).toInt = 0 := rfl; have h12 : (1 : Int32).toInt = 1 := rfl; have h13 : (-5 : Int32).toInt = -5 := rfl; have h14 : (-3 : Int32).toInt = -3 := rfl; omega)), (by first | (first | exact c_1 | omega) | decide | (have h8 : (0 : Int64).toInt = 0 := rfl; have h9 : (-1 : Int32).toInt = -1 := rfl; have h10 : (-2 : Int32).toInt = -2 := rfl; have h11 : (0 : Int32).toInt = 0 := rfl; have h12 : (1 : Int32).toInt = 1 := rfl; have h13 : (-5 : Int32).toInt = -5 := rfl; have h14 : (-3 : Int32).toInt = -3 := rfl; omega)), rfl⟩)) (by first | exact mp_fd_ok mp_k_cX9_undo_ok (by decide +kernel) | decide +kernel)
set_option maxHeartbeats 4000000 in
set_option maxRecDepth 100000 in
theorem bX9_anew_97 (E : mp_E) (a0 a1 a2 a3 a4 a5 a6 a7 a8 a9 a10 a11 a12 a13 a14 a15 a16 a17 a18 a19 a20 a21 a22 a23 a24 a25 a26 a27 a28 : Nat) (f0 : Nat → Int32) (f1 : Nat → Int32) (f2 : Nat → Int32) (f3 : Nat → Int32) (f4 : Nat → Int32) (f5 : Nat → Int32) (f6 : Nat → Int64) (y0 : Int32) (y1 : Int32) (y2 : Int32) (y3 : Int32) (y4 : Int32) (y5 : Int32) (y6 : Int32) (p0 : mp_all f0 36 0 20) (p1 : mp_all f1 6 0 5) (p2 : mp_acts f2) (p3 : mp_all f3 6 0 5) (l_y0 : 0 ≤ y0.toInt) (u_y0 : y0.toInt ≤ 99) (l_y2 : 0 ≤ y2.toInt) (u_y2 : y2.toInt ≤ 6) (l_y3 : 0 ≤ y3.toInt) (u_y3 : y3.toInt ≤ 99) (l_y4 : 0 ≤ y4.toInt) (u_y4 : y4.toInt ≤ 6) (l_y5 : 0 ≤ y5.toInt) (u_y5 : y5.toInt ≤ 10) (l_y6 : 0 ≤ y6.toInt) (u_y6 : y6.toInt ≤ 60) (q0 : y0.toInt = y3.toInt + mp_k200 f2 y6.toInt) : mp_Ct E yX9_anew cX9_anew 3 (some FieldType.int) 3 0 0 66 [.ref a0] [(mp_ob9 a0 a10 a1 a11 a12 a13 a14 a15 a16 a17), (mp_ob0 a1 a2 y0 a6 a7 a8 a9 a18 a19), (mp_ob7 a2 y1 y2 y3 y4 y5 y6 a3 a20 a4 a21 a22 a23 a24 a25 a26 a27 a28 a5), (mp_arI E a3 0 36 f0), (mp_arI E a4 0 6 f1), (mp_arI E a5 0 60 f2), (mp_arI E a6 0 6 f3), (mp_arI E a7 0 6 f4), (mp_arI E a8 0 6 f5), (mp_arL E a9 20 f6)] (fun v w' => (∃ r1 : Int32, ∃ h2 : Nat → Int32, ∃ h3 : Nat → Int32, ∃ h4 : Nat → Int32, ∃ h5 : Nat → Int64, v = some (.int y6) ∧ y1.toInt ≠ 0 ∧ 0 ≤ r1.toInt ∧ r1.toInt ≤ 99 ∧ mp_all h2 6 0 5 ∧ (r1.toInt = y3.toInt + mp_k200 f2 0) ∧ (y1.toInt ≠ 0) ∧ (0 = 0) ∧ (y6.toInt = y6.toInt) ∧ (mp_CS h2 h3 h4 f0 f1 f2 y3.toInt y4.toInt (0 : Int).toNat) ∧ w' = [(mp_ob9 a0 a10 a1 a11 a12 a13 a14 a15 a16 a17), (mp_ob0 a1 a2 r1 a6 a7 a8 a9 a18 a19), (mp_ob7 a2 y1 y2 y3 y4 y5 0 a3 a20 a4 a21 a22 a23 a24 a25 a26 a27 a28 a5), (mp_arI E a3 0 36 f0), (mp_arI E a4 0 6 f1), (mp_arI E a5 0 60 f2), (mp_arI E a6 0 6 h2), (mp_arI E a7 0 6 h3), (mp_arI E a8 0 6 h4), (mp_arL E a9 20 h5)]) ∨ (v = some (.int (-2)) ∧ y1.toInt = 0 ∧ (y0.toInt = y3.toInt + mp_k200 f2 y6.toInt) ∧ (y1.toInt = 0) ∧ w' = [(mp_ob9 a0 a10 a1 a11 a12 a13 a14 a15 a16 a17), (mp_ob0 a1 a2 y0 a6 a7 a8 a9 a18 a19), (mp_ob7 a2 y1 y2 y3 y4 y5 y6 a3 a20 a4 a21 a22 a23 a24 a25 a26 a27 a28 a5), (mp_arI E a3 0 36 f0), (mp_arI E a4 0 6 f1), (mp_arI E a5 0 60 f2), (mp_arI E a6 0 6 f3), (mp_arI E a7 0 6 f4), (mp_arI E a8 0 6 f5), (mp_arL E a9 20 f6)])) := by
  refine mp_met false (by decide) (by decide) (Nat.le_of_ble_eq_true rfl) (fun X hF hQ => ?_)
  have hF : mp_F E X (RX9, cX9_anew, 3, (3, 0, 0, 66), (some FieldType.int), false) := hF
  let w1_ : va_W := [(mp_ob9 a0 a10 a1 a11 a12 a13 a14 a15 a16 a17), (mp_ob0 a1 a2 y0 a6 a7 a8 a9 a18 a19), (mp_ob7 a2 y1 y2 y3 y4 y5 y6 a3 a20 a4 a21 a22 a23 a24 a25 a26 a27 a28 a5), (mp_arI E a3 0 36 f0), (mp_arI E a4 0 6 f1), (mp_arI E a5 0 60 f2), (mp_arI E a6 0 6 f3), (mp_arI E a7 0 6 f4), (mp_arI E a8 0 6 f5), (mp_arL E a9 20 f6)]
  show mp_W E X 3 0 [(0, .ref a0)] [] w1_ 0 0
  refine mp_run mp_k_cX9_anew_ok hF mp_tabX9_ok [mp_i (.aload_n 0), mp_h (.getfield 19) [37, 0], mp_h (.getfield 83) [20, 1], mp_i (.astore_n 1), mp_i (.aload_n 1), mp_h (.getfield 97) [0, 2], mp_h (.ifCond .ne 6) [18]] (by decide +kernel) ?_
  refine And.intro rfl (And.intro rfl ?_)
  refine And.intro rfl (And.intro rfl ?_)
  refine And.intro rfl (And.intro rfl ?_)
  refine And.intro (fun c_1 => ?_) (fun c_1 => ?_)
  · have c_1 : y1.toInt ≠ 0 := c_1
    show mp_W E X 3 18 [(1, .ref a2), (0, .ref a0)] [] w1_ 0 0
    refine mp_run mp_k_cX9_anew_ok hF mp_tabX9_ok [mp_i (.aload_n 1), mp_h (.getfield 214) [5, 2], mp_i (.istore_n 2), mp_i (.aload_n 1), mp_c (.iconst 0) 0, mp_h (.putfield 214) [5, 2]] (by decide +kernel) ?_
    refine And.intro rfl (And.intro rfl ?_)
    refine And.intro rfl (And.intro rfl (And.intro rfl (And.intro rfl (And.intro (Nat.le_of_ble_eq_true rfl) ?_))))
    let w2_ : va_W := [(mp_ob9 a0 a10 a1 a11 a12 a13 a14 a15 a16 a17), (mp_ob0 a1 a2 y0 a6 a7 a8 a9 a18 a19), (mp_ob7 a2 y1 y2 y3 y4 y5 0 a3 a20 a4 a21 a22 a23 a24 a25 a26 a27 a28 a5), (mp_arI E a3 0 36 f0), (mp_arI E a4 0 6 f1), (mp_arI E a5 0 60 f2), (mp_arI E a6 0 6 f3), (mp_arI E a7 0 6 f4), (mp_arI E a8 0 6 f5), (mp_arL E a9 20 f6)]
    show mp_W E X 3 28 [(2, .int y6), (1, .ref a2), (0, .ref a0)] [] w2_ 0 0
    refine mp_run mp_k_cX9_anew_ok hF mp_tabX9_ok [mp_i (.aload_n 0), mp_h (.getfield 19) [37, 0]] (by decide +kernel) ?_
    refine And.intro rfl (And.intro rfl ?_)
    show mp_W E X 3 32 [(2, .int y6), (1, .ref a2), (0, .ref a0)] [.ref a1] w2_ 0 0
    refine mp_callV hF (As := []) (rest := []) (wr := [(mp_ob9 a0 a10 a1 a11 a12 a13 a14 a15 a16 a17)]) (bX0_replay_48 E a1 a2 a3 a4 a5 a6 a7 a8 a9 a18 a19 a20 a21 a22 a23 a24 a25 a26 a27 a28 f0 f1 f2 f3 f4 f5 f6 y0 y1 y2 y3 y4 y5 0 p0 p1 p2 p3 l_y0 u_y0 l_y2 u_y2 l_y3 u_y3 l_y4 u_y4 l_y5 u_y5 (by decide) (by decide) (by first | fail | (rw [mp_k200_z]; (first | exact mp_o354 u_y3 | omega)) | exact mp_tinv_le q0 (by omega) (by omega))) mp_lkX9_94 1 rfl [1, 2, 3, 4, 5, 6, 7, 8, 9] [0] rfl rfl rfl rfl rfl ⟨(Nat.le_of_ble_eq_true rfl), (Nat.le_of_ble_eq_true rfl), (Nat.le_of_ble_eq_true rfl), (Nat.le_of_ble_eq_true rfl)⟩ (Nat.le_of_ble_eq_true rfl) (by first | exact mp_fd_ok mp_k_cX9_anew_ok (by decide +kernel) | decide +kernel) (fun v_2 w_3 h_4 => ?_)
    refine h_4.elim fun r_5 q_15 => q_15.elim fun g_6 q_16 => q_16.elim fun g_7 q_17 => q_17.elim fun g_8 q_18 => q_18.elim fun g_9 q_19 => q_19.elim fun e_20 q_21 => q_21.elim fun l_10 q_22 => q_22.elim fun u_11 q_23 => q_23.elim fun p_12 q_24 => q_24.elim fun x_13 q_25 => q_25.elim fun x_14 e_26 => ?_
    clear h_4 q_15 q_16 q_17 q_18 q_19 q_21 q_22 q_23 q_24 q_25
    subst e_20
    subst e_26
    let w3_ : va_W := [(mp_ob9 a0 a10 a1 a11 a12 a13 a14 a15 a16 a17), (mp_ob0 a1 a2 r_5 a6 a7 a8 a9 a18 a19), (mp_ob7 a2 y1 y2 y3 y4 y5 0 a3 a20 a4 a21 a22 a23 a24 a25 a26 a27 a28 a5), (mp_arI E a3 0 36 f0), (mp_arI E a4 0 6 f1), (mp_arI E a5 0 60 f2), (mp_arI E a6 0 6 g_6), (mp_arI E a7 0 6 g_7), (mp_arI E a8 0 6 g_8), (mp_arL E a9 20 g_9)]
    show mp_W E X 3 35 [(2, .int y6), (1, .ref a2), (0, .ref a0)] [] w3_ 0 0
    refine mp_run mp_k_cX9_anew_ok hF mp_tabX9_ok [mp_i (.iload_n 2)] (by decide +kernel) ?_
    show mp_W E X 3 36 [(2, .int y6), (1, .ref a2), (0, .ref a0)] [.int y6] w3_ 0 0
    exact mp_iret hF hQ rfl rfl (Nat.le_of_ble_eq_true rfl) (Nat.le_of_ble_eq_true rfl) [0, 1, 2, 3, 4, 5, 6, 7, 8, 9] (w' := w3_) rfl rfl (Or.inl ⟨r_5, g_6, g_7, g_8, g_9, rfl, (by first | (first | exact c_1 | omega) | decide), l_10, u_11, p_12, (by first | fail | decide | (show _ = _ + mp_k200 _ ((0 : Int32).toInt); (first | exact x_13 | omega))), (by first | (first | exact c_1 | omega) | decide | (have h8 : (0 : Int64).toInt = 0 := rfl; have h9 : (-1 : Int32).toInt = -1 := rfl; have h10 : (-2 : Int32).toInt = -2 := rfl; have h11 : (0 : Int32).toInt = 0 := rfl; have h12 : (1 : Int32).toInt = 1 := rfl; have h13 : (-5 : Int32).toInt = -5 := rfl; have h14 : (-3 : Int32).toInt = -3 := rfl; omega)), (by first | (first | exact mp_o355 | omega) | decide | (have h8 : (0 : Int64).toInt = 0 := rfl; have h9 : (-1 : Int32).toInt = -1 := rfl; have h10 : (-2 : Int32).toInt = -2 := rfl; have h11 : (0 : Int32).toInt = 0 := rfl; have h12 : (1 : Int32).toInt = 1 := rfl; have h13 : (-5 : Int32).toInt = -5 := rfl; have h14 : (-3 : Int32).toInt = -3 := rfl; omega)), (by first | (first | exact mp_o19 | omega) | decide | (have h8 : (0 : Int64).toInt = 0 := rfl; have h9 : (-1 : Int32).toInt = -1 := rfl; have h10 : (-2 : Int32).toInt = -2 := rfl; have h11 : (0 : Int32).toInt = 0 := rfl; have h12 : (1 : Int32).toInt = 1 := rfl; have h13 : (-5 : Int32).toInt = -5 := rfl; have h14 : (-3 : Int32).toInt = -3 := rfl; omega)), (mp_CS_to x_14 (by first | rfl | decide)), rfl⟩) (by first | exact mp_fd_ok mp_k_cX9_anew_ok (by decide +kernel) | decide +kernel)
  · have c_1 : y1.toInt = 0 := (congrArg Int32.toInt c_1)
    show mp_W E X 3 15 [(1, .ref a2), (0, .ref a0)] [] w1_ 0 0
    refine mp_run mp_k_cX9_anew_ok hF mp_tabX9_ok [mp_c (.bipush (-2)) (-2)] (by decide +kernel) ?_
    show mp_W E X 3 17 [(1, .ref a2), (0, .ref a0)] [.int (-2)] w1_ 0 0
    exact mp_iret hF hQ rfl rfl (Nat.le_of_ble_eq_true rfl) (Nat.le_of_ble_eq_true rfl) [0, 1, 2, 3, 4, 5, 6, 7, 8, 9] (w' := w1_) rfl rfl (Or.inr ⟨rfl, (by first | (first | exact c_1 | omega) | decide), (by first | (first | exact q0 | omega) | decide | (show _ = _ + mp_k200 _ ((0 : Int32).toInt); omega)), (by first | (first | exact c_1 | omega) | decide | (have h8 : (0 : Int64).toInt = 0 := rfl; have h9 : (-1 : Int32).toInt = -1 := rfl; have h10 : (-2 : Int32).toInt = -2 := rfl; have h11 : (0 : Int32).toInt = 0 := rfl; have h12 : (1 : Int32).toInt = 1 := rfl; have h13 : (-5 : Int32).toInt = -5 := rfl; have h14 : (-3 : Int32).toInt = -3 := rfl; omega)), rfl⟩) (by first | exact mp_fd_ok mp_k_cX9_anew_ok (by decide +kernel) | decide +kernel)
set_option maxHeartbeats 4000000 in
set_option maxRecDepth 100000 in
theorem bX9_act_98 (E : mp_E) (a0 a1 a2 a3 a4 a5 a6 a7 a8 a9 a10 a11 a12 a13 a14 a15 a16 a17 a18 a19 a20 a21 a22 a23 a24 a25 a26 a27 a28 : Nat) (f0 : Nat → Int32) (y0 : Int32) (y1 : Int32) (y2 : Int32) (y3 : Int32) (y4 : Int32) (y5 : Int32) (y6 : Int32) (x0 : Int32) (p0 : mp_acts f0) (l_y0 : 0 ≤ y0.toInt) (u_y0 : y0.toInt ≤ 99) (l_y2 : 0 ≤ y2.toInt) (u_y2 : y2.toInt ≤ 6) (l_y3 : 0 ≤ y3.toInt) (u_y3 : y3.toInt ≤ 99) (l_y4 : 0 ≤ y4.toInt) (u_y4 : y4.toInt ≤ 6) (l_y5 : 0 ≤ y5.toInt) (u_y5 : y5.toInt ≤ 10) (l_y6 : 0 ≤ y6.toInt) (u_y6 : y6.toInt ≤ 60) : mp_Ct E yX9_act cX9_act 3 (some FieldType.int) 0 0 0 0 [.ref a0, .int x0] [(mp_ob9 a0 a4 a1 a5 a6 a7 a8 a9 a10 a11), (mp_ob0 a1 a2 y0 a12 a13 a14 a15 a16 a17), (mp_ob7 a2 y1 y2 y3 y4 y5 y6 a18 a19 a20 a21 a22 a23 a24 a25 a26 a27 a28 a3), (mp_arI E a3 0 60 f0)] (fun v w' => ∃ r1 : Int32, v = some (.int r1) ∧ (-2) ≤ r1.toInt ∧ r1.toInt ≤ 200 ∧ ((y1.toInt = 0 ∧ r1.toInt = -2) ∨ (y1.toInt ≠ 0 ∧ (x0.toInt < 0 ∨ y6.toInt ≤ x0.toInt) ∧ r1.toInt = -1) ∨ (y1.toInt ≠ 0 ∧ (0 ≤ x0.toInt ∧ x0.toInt < y6.toInt) ∧ r1.toInt = (f0 x0.toInt.toNat).toInt)) ∧ w' = [(mp_ob9 a0 a4 a1 a5 a6 a7 a8 a9 a10 a11), (mp_ob0 a1 a2 y0 a12 a13 a14 a15 a16 a17), (mp_ob7 a2 y1 y2 y3 y4 y5 y6 a18 a19 a20 a21 a22 a23 a24 a25 a26 a27 a28 a3), (mp_arI E a3 0 60 f0)]) := by
  refine mp_met false (by decide) (by decide) (Nat.le_of_ble_eq_true rfl) (fun X hF hQ => ?_)
  have hF : mp_F E X (RX9, cX9_act, 3, (0, 0, 0, 0), (some FieldType.int), false) := hF
  let w1_ : va_W := [(mp_ob9 a0 a4 a1 a5 a6 a7 a8 a9 a10 a11), (mp_ob0 a1 a2 y0 a12 a13 a14 a15 a16 a17), (mp_ob7 a2 y1 y2 y3 y4 y5 y6 a18 a19 a20 a21 a22 a23 a24 a25 a26 a27 a28 a3), (mp_arI E a3 0 60 f0)]
  show mp_W E X 3 0 [(0, .ref a0), (1, .int x0)] [] w1_ 0 0
  refine mp_run mp_k_cX9_act_ok hF mp_tabX9_ok [mp_i (.aload_n 0), mp_h (.getfield 19) [37, 0], mp_h (.getfield 83) [20, 1], mp_i (.astore_n 2), mp_i (.aload_n 2), mp_h (.getfield 97) [0, 2], mp_h (.ifCond .ne 6) [18]] (by decide +kernel) ?_
  refine And.intro rfl (And.intro rfl ?_)
  refine And.intro rfl (And.intro rfl ?_)
  refine And.intro rfl (And.intro rfl ?_)
  refine And.intro (fun c_1 => ?_) (fun c_1 => ?_)
  · have c_1 : y1.toInt ≠ 0 := c_1
    show mp_W E X 3 18 [(2, .ref a2), (0, .ref a0), (1, .int x0)] [] w1_ 0 0
    refine mp_run mp_k_cX9_act_ok hF mp_tabX9_ok [mp_i (.iload_n 1), mp_h (.ifCond .lt 11) [30]] (by decide +kernel) ?_
    refine And.intro (fun c_2 => ?_) (fun c_2 => ?_)
    · have c_2 : x0.toInt < 0 := c_2
      show mp_W E X 3 30 [(2, .ref a2), (0, .ref a0), (1, .int x0)] [] w1_ 0 0
      refine mp_run mp_k_cX9_act_ok hF mp_tabX9_ok [mp_c (.iconst (-1)) (-1), mp_h (.goto 9) [40]] (by decide +kernel) ?_
      show mp_W E X 3 40 [(2, .ref a2), (0, .ref a0), (1, .int x0)] [.int (-1)] w1_ 0 0
      exact mp_iret hF hQ rfl rfl (Nat.le_of_ble_eq_true rfl) (Nat.le_of_ble_eq_true rfl) [0, 1, 2, 3] (w' := w1_) rfl rfl ⟨(-1), rfl, (by decide), (by decide), (by first | fail | decide | (have h8 : (0 : Int64).toInt = 0 := rfl; have h9 : (-1 : Int32).toInt = -1 := rfl; have h10 : (-2 : Int32).toInt = -2 := rfl; have h11 : (0 : Int32).toInt = 0 := rfl; have h12 : (1 : Int32).toInt = 1 := rfl; have h13 : (-5 : Int32).toInt = -5 := rfl; have h14 : (-3 : Int32).toInt = -3 := rfl; (first | exact mp_o516 c_1 h9 c_2 | omega))), rfl⟩ (by first | exact mp_fd_ok mp_k_cX9_act_ok (by decide +kernel) | decide +kernel)
    · have c_2 : 0 ≤ x0.toInt := c_2
      show mp_W E X 3 22 [(2, .ref a2), (0, .ref a0), (1, .int x0)] [] w1_ 0 0
      refine mp_run mp_k_cX9_act_ok hF mp_tabX9_ok [mp_i (.iload_n 1), mp_i (.aload_n 2), mp_h (.getfield 214) [5, 2], mp_h (.if_icmp .lt 7) [34]] (by decide +kernel) ?_
      refine And.intro rfl (And.intro rfl ?_)
      refine And.intro (fun c_3 => ?_) (fun c_3 => ?_)
      · have c_3 : x0.toInt < y6.toInt := c_3
        show mp_W E X 3 34 [(2, .ref a2), (0, .ref a0), (1, .int x0)] [] w1_ 0 0
        refine mp_run mp_k_cX9_act_ok hF mp_tabX9_ok [mp_i (.aload_n 2), mp_h (.getfield 217) [15, 2], mp_i (.iload_n 1), mp_h .iaload [3]] (by decide +kernel) ?_
        refine And.intro rfl (And.intro rfl ?_)
        refine And.intro rfl (And.intro rfl (And.intro (vp_in_iff.mpr (by (first | exact mp_o337 c_2 u_y6 c_3 | omega))) ?_))
        intro z_4 h_5
        have e_6 := mp_acts_ld h_5 p0 (by (first | exact c_2 | omega)) (by (first | exact mp_o338 u_y6 c_3 | omega))
        have e_7 := mp_k200_ld h_5 (by (first | exact c_2 | omega))
        have e_8 := mp_k200_mono (f := f0) (a := x0.toInt + 1) (b := y6.toInt) (by (first | exact mp_o339 c_3 | omega))
        have e_9 : z_4.toInt = (f0 x0.toInt.toNat).toInt := congrArg Int32.toInt h_5
        show mp_W E X 3 40 [(2, .ref a2), (0, .ref a0), (1, .int x0)] [.int z_4] w1_ 0 0
        exact mp_iret hF hQ rfl rfl (Nat.le_of_ble_eq_true rfl) (Nat.le_of_ble_eq_true rfl) [0, 1, 2, 3] (w' := w1_) rfl rfl ⟨z_4, rfl, (by (first | exact mp_o517 e_6 | omega)), (by (first | exact mp_o341 e_6 | omega)), (by first | (first | exact mp_o518 c_2 c_1 e_9 c_3 | omega) | decide | (have h8 : (0 : Int64).toInt = 0 := rfl; have h9 : (-1 : Int32).toInt = -1 := rfl; have h10 : (-2 : Int32).toInt = -2 := rfl; have h11 : (0 : Int32).toInt = 0 := rfl; have h12 : (1 : Int32).toInt = 1 := rfl; have h13 : (-5 : Int32).toInt = -5 := rfl; have h14 : (-3 : Int32).toInt = -3 := rfl; omega)), rfl⟩ (by first | exact mp_fd_ok mp_k_cX9_act_ok (by decide +kernel) | decide +kernel)
      · have c_3 : y6.toInt ≤ x0.toInt := c_3
        show mp_W E X 3 30 [(2, .ref a2), (0, .ref a0), (1, .int x0)] [] w1_ 0 0
        refine mp_run mp_k_cX9_act_ok hF mp_tabX9_ok [mp_c (.iconst (-1)) (-1), mp_h (.goto 9) [40]] (by decide +kernel) ?_
        show mp_W E X 3 40 [(2, .ref a2), (0, .ref a0), (1, .int x0)] [.int (-1)] w1_ 0 0
        exact mp_iret hF hQ rfl rfl (Nat.le_of_ble_eq_true rfl) (Nat.le_of_ble_eq_true rfl) [0, 1, 2, 3] (w' := w1_) rfl rfl ⟨(-1), rfl, (by decide), (by decide), (by first | fail | decide | (have h8 : (0 : Int64).toInt = 0 := rfl; have h9 : (-1 : Int32).toInt = -1 := rfl; have h10 : (-2 : Int32).toInt = -2 := rfl; have h11 : (0 : Int32).toInt = 0 := rfl; have h12 : (1 : Int32).toInt = 1 := rfl; have h13 : (-5 : Int32).toInt = -5 := rfl; have h14 : (-3 : Int32).toInt = -3 := rfl; (first | exact mp_o519 c_1 h9 c_3 | omega))), rfl⟩ (by first | exact mp_fd_ok mp_k_cX9_act_ok (by decide +kernel) | decide +kernel)
  · have c_1 : y1.toInt = 0 := (congrArg Int32.toInt c_1)
    show mp_W E X 3 15 [(2, .ref a2), (0, .ref a0), (1, .int x0)] [] w1_ 0 0
    refine mp_run mp_k_cX9_act_ok hF mp_tabX9_ok [mp_c (.bipush (-2)) (-2)] (by decide +kernel) ?_
    show mp_W E X 3 17 [(2, .ref a2), (0, .ref a0), (1, .int x0)] [.int (-2)] w1_ 0 0
    exact mp_iret hF hQ rfl rfl (Nat.le_of_ble_eq_true rfl) (Nat.le_of_ble_eq_true rfl) [0, 1, 2, 3] (w' := w1_) rfl rfl ⟨(-2), rfl, (by decide), (by decide), (by first | fail | decide | (have h8 : (0 : Int64).toInt = 0 := rfl; have h9 : (-1 : Int32).toInt = -1 := rfl; have h10 : (-2 : Int32).toInt = -2 := rfl; have h11 : (0 : Int32).toInt = 0 := rfl; have h12 : (1 : Int32).toInt = 1 := rfl; have h13 : (-5 : Int32).toInt = -5 := rfl; have h14 : (-3 : Int32).toInt = -3 := rfl; (first | exact mp_o520 c_1 h10 | omega))), rfl⟩ (by first | exact mp_fd_ok mp_k_cX9_act_ok (by decide +kernel) | decide +kernel)
set_option maxHeartbeats 4000000 in
set_option maxRecDepth 100000 in
theorem bX9_can_99 (E : mp_E) (a0 a1 a2 a3 a4 a5 a6 a7 a8 a9 a10 a11 a12 a13 a14 a15 a16 a17 a18 a19 a20 a21 a22 a23 a24 a25 a26 a27 a28 : Nat) (f0 : Nat → Int32) (f1 : Nat → Int32) (f2 : Nat → Int32) (f3 : Nat → Int32) (f4 : Nat → Int32) (f5 : Nat → Int32) (f6 : Nat → Int32) (f7 : Nat → Int32) (f8 : Nat → Int32) (y0 : Int32) (y1 : Int32) (y2 : Int32) (y3 : Int32) (y4 : Int32) (y5 : Int32) (y6 : Int32) (p0 : mp_all f0 36 0 20) (p1 : mp_all f1 6 0 5) (p2 : mp_all f3 10 0 5) (p3 : mp_all f4 10 0 5) (p4 : mp_acts f5) (p5 : mp_all f6 6 0 5) (l_y0 : 0 ≤ y0.toInt) (u_y0 : y0.toInt ≤ 99) (l_y2 : 0 ≤ y2.toInt) (u_y2 : y2.toInt ≤ 6) (l_y3 : 0 ≤ y3.toInt) (u_y3 : y3.toInt ≤ 99) (l_y4 : 0 ≤ y4.toInt) (u_y4 : y4.toInt ≤ 6) (l_y5 : 0 ≤ y5.toInt) (u_y5 : y5.toInt ≤ 10) (l_y6 : 0 ≤ y6.toInt) (u_y6 : y6.toInt ≤ 60) (q0 : y0.toInt = y3.toInt + mp_k200 f5 y6.toInt) (q1 : mp_CS f6 f7 f8 f0 f1 f5 y3.toInt y4.toInt (y6.toInt : Int).toNat) (q2 : mp_wfC f3 f4 y5.toInt y4.toInt) : mp_Ct E yX9_can cX9_can 3 (some FieldType.int) 3 0 0 65 [.ref a0] [(mp_ob9 a0 a12 a1 a13 a14 a15 a16 a17 a18 a19), (mp_ob0 a1 a2 y0 a9 a10 a11 a20 a21 a22), (mp_ob7 a2 y1 y2 y3 y4 y5 y6 a3 a23 a4 a5 a24 a6 a7 a25 a26 a27 a28 a8), (mp_arI E a3 0 36 f0), (mp_arI E a4 0 6 f1), (mp_arI E a5 0 6 f2), (mp_arI E a6 0 10 f3), (mp_arI E a7 0 10 f4), (mp_arI E a8 0 60 f5), (mp_arI E a9 0 6 f6), (mp_arI E a10 0 6 f7), (mp_arI E a11 0 6 f8)] (fun v w' => ∃ r1 : Int32, v = some (.int r1) ∧ (-2) ≤ r1.toInt ∧ r1.toInt ≤ 1023 ∧ ((y1.toInt = 0 ∧ r1.toInt = -2) ∨ (y1.toInt ≠ 0 ∧ r1.toInt = (mp_bf (fun k : Nat => decide ((mp_cs f0 f1 f5 y3.toInt (f3 k).toInt.toNat (y6.toInt).toNat).1.toInt = (mp_cs f0 f1 f5 y3.toInt (f4 k).toInt.toNat (y6.toInt).toNat).1.toInt ∧ ¬ mp_deadx (f2 (f3 k).toInt.toNat).toInt (y3.toInt + mp_k200 f5 y6.toInt) ∧ ¬ mp_deadx (f2 (f4 k).toInt.toNat).toInt (y3.toInt + mp_k200 f5 y6.toInt))) (y5.toInt).toNat).toInt)) ∧ w' = [(mp_ob9 a0 a12 a1 a13 a14 a15 a16 a17 a18 a19), (mp_ob0 a1 a2 y0 a9 a10 a11 a20 a21 a22), (mp_ob7 a2 y1 y2 y3 y4 y5 y6 a3 a23 a4 a5 a24 a6 a7 a25 a26 a27 a28 a8), (mp_arI E a3 0 36 f0), (mp_arI E a4 0 6 f1), (mp_arI E a5 0 6 f2), (mp_arI E a6 0 10 f3), (mp_arI E a7 0 10 f4), (mp_arI E a8 0 60 f5), (mp_arI E a9 0 6 f6), (mp_arI E a10 0 6 f7), (mp_arI E a11 0 6 f8)]) := by
  refine mp_met false (by decide) (by decide) (Nat.le_of_ble_eq_true rfl) (fun X hF hQ => ?_)
  have hF : mp_F E X (RX9, cX9_can, 3, (3, 0, 0, 65), (some FieldType.int), false) := hF
  let w1_ : va_W := [(mp_ob9 a0 a12 a1 a13 a14 a15 a16 a17 a18 a19), (mp_ob0 a1 a2 y0 a9 a10 a11 a20 a21 a22), (mp_ob7 a2 y1 y2 y3 y4 y5 y6 a3 a23 a4 a5 a24 a6 a7 a25 a26 a27 a28 a8), (mp_arI E a3 0 36 f0), (mp_arI E a4 0 6 f1), (mp_arI E a5 0 6 f2), (mp_arI E a6 0 10 f3), (mp_arI E a7 0 10 f4), (mp_arI E a8 0 60 f5), (mp_arI E a9 0 6 f6), (mp_arI E a10 0 6 f7), (mp_arI E a11 0 6 f8)]
  show mp_W E X 3 0 [(0, .ref a0)] [] w1_ 0 0
  refine mp_run mp_k_cX9_can_ok hF mp_tabX9_ok [mp_i (.aload_n 0), mp_h (.getfield 19) [37, 0], mp_h (.getfield 83) [20, 1], mp_h (.getfield 97) [0, 2], mp_h (.ifCond .ne 6) [16]] (by decide +kernel) ?_
  refine And.intro rfl (And.intro rfl ?_)
  refine And.intro rfl (And.intro rfl ?_)
  refine And.intro rfl (And.intro rfl ?_)
  refine And.intro (fun c_1 => ?_) (fun c_1 => ?_)
  · have c_1 : y1.toInt ≠ 0 := c_1
    show mp_W E X 3 16 [(0, .ref a0)] [] w1_ 0 0
    refine mp_run mp_k_cX9_can_ok hF mp_tabX9_ok [mp_c (.iconst 0) 0, mp_i (.istore_n 1), mp_c (.iconst 0) 0, mp_i (.istore_n 2)] (by decide +kernel) ?_
    show mp_W E X 3 20 [(2, .int 0), (1, .int 0), (0, .ref a0)] [] w1_ 0 0
    have lp_11 : ∀ (d_12 : Nat) (i_2 : Int32) (i_3 : Int32), 0 ≤ i_2.toInt → i_2.toInt ≤ 10 → 0 ≤ i_3.toInt → i_3.toInt ≤ 1023 → (i_3 = mp_bf (fun k : Nat => decide ((mp_cs f0 f1 f5 y3.toInt (f3 k).toInt.toNat (y6.toInt).toNat).1.toInt = (mp_cs f0 f1 f5 y3.toInt (f4 k).toInt.toNat (y6.toInt).toNat).1.toInt ∧ ¬ mp_deadx (f2 (f3 k).toInt.toNat).toInt (y3.toInt + mp_k200 f5 y6.toInt) ∧ ¬ mp_deadx (f2 (f4 k).toInt.toNat).toInt (y3.toInt + mp_k200 f5 y6.toInt))) i_2.toInt.toNat) → (0 ≤ i_2.toInt) → (i_2.toInt = 0 ∨ i_2.toInt ≤ y5.toInt) → y5.toInt - i_2.toInt ≤ (d_12 : Int) → mp_W E X 3 20 [(2, .int i_2), (1, .int i_3), (0, .ref a0)] [] [(mp_ob9 a0 a12 a1 a13 a14 a15 a16 a17 a18 a19), (mp_ob0 a1 a2 y0 a9 a10 a11 a20 a21 a22), (mp_ob7 a2 y1 y2 y3 y4 y5 y6 a3 a23 a4 a5 a24 a6 a7 a25 a26 a27 a28 a8), (mp_arI E a3 0 36 f0), (mp_arI E a4 0 6 f1), (mp_arI E a5 0 6 f2), (mp_arI E a6 0 10 f3), (mp_arI E a7 0 10 f4), (mp_arI E a8 0 60 f5), (mp_arI E a9 0 6 f6), (mp_arI E a10 0 6 f7), (mp_arI E a11 0 6 f8)] 0 0 := by
      intro d_12
      induction d_12 using Nat.strongRecOn with
      | ind d_12 ih_13 =>
        intro i_2 i_3 l_4 u_5 l_6 u_7 x_8 x_9 x_10 hm_14
        refine mp_run mp_k_cX9_can_ok hF mp_tabX9_ok [mp_i (.iload_n 2), mp_i (.aload_n 0), mp_h (.getfield 19) [37, 0], mp_h (.getfield 83) [20, 1], mp_h (.getfield 196) [4, 2], mp_h (.if_icmp .ge 26) [57]] (by decide +kernel) ?_
        refine And.intro rfl (And.intro rfl ?_)
        refine And.intro rfl (And.intro rfl ?_)
        refine And.intro rfl (And.intro rfl ?_)
        refine And.intro (fun c_15 => ?_) (fun c_15 => ?_)
        · have c_15 : y5.toInt ≤ i_2.toInt := c_15
          show mp_W E X 3 57 [(2, .int i_2), (1, .int i_3), (0, .ref a0)] [] w1_ 0 0
          refine mp_run mp_k_cX9_can_ok hF mp_tabX9_ok [mp_i (.iload_n 1)] (by decide +kernel) ?_
          show mp_W E X 3 58 [(2, .int i_2), (1, .int i_3), (0, .ref a0)] [.int i_3] w1_ 0 0
          exact mp_iret hF hQ rfl rfl (Nat.le_of_ble_eq_true rfl) (Nat.le_of_ble_eq_true rfl) [0, 1, 2, 3, 4, 5, 6, 7, 8, 9, 10, 11] (w' := w1_) rfl rfl ⟨i_3, rfl, (by (first | exact mp_o399 l_6 | omega)), u_7, (Or.inr ⟨by (first | exact c_1 | omega), by rw [x_8, show i_2.toInt.toNat = (y5.toInt).toNat from by (first | exact mp_o521 x_10 c_15 | omega)]⟩), rfl⟩ (by first | exact mp_fd_ok mp_k_cX9_can_ok (by decide +kernel) | decide +kernel)
        · have c_15 : i_2.toInt < y5.toInt := c_15
          show mp_W E X 3 34 [(2, .int i_2), (1, .int i_3), (0, .ref a0)] [] w1_ 0 0
          refine mp_run mp_k_cX9_can_ok hF mp_tabX9_ok [mp_i (.aload_n 0), mp_h (.getfield 19) [37, 0], mp_i (.iload_n 2)] (by decide +kernel) ?_
          refine And.intro rfl (And.intro rfl ?_)
          show mp_W E X 3 39 [(2, .int i_2), (1, .int i_3), (0, .ref a0)] [.int i_2, .ref a1] w1_ 0 0
          refine mp_callV hF (As := [.int i_2]) (rest := []) (wr := [(mp_ob9 a0 a12 a1 a13 a14 a15 a16 a17 a18 a19), (mp_arI E a3 0 36 f0), (mp_arI E a4 0 6 f1), (mp_arI E a8 0 60 f5), (mp_arI E a10 0 6 f7), (mp_arI E a11 0 6 f8)]) (bX0_canSay_93 E a1 a2 a5 a6 a7 a9 a10 a11 a20 a21 a22 a3 a23 a4 a24 a25 a26 a27 a28 a8 f2 f3 f4 f6 y0 y1 y2 y3 y4 y5 y6 i_2 p2 p3 p5 l_4 (by (first | exact mp_o419 u_y5 c_15 | omega)) l_y0 u_y0 l_y2 u_y2 l_y3 u_y3 l_y4 u_y4 l_y5 u_y5 l_y6 u_y6) mp_lkX9_211 1 rfl [1, 2, 5, 6, 7, 9] [0, 3, 4, 8, 10, 11] rfl rfl rfl rfl rfl ⟨(Nat.le_of_ble_eq_true rfl), (Nat.le_of_ble_eq_true rfl), (Nat.le_of_ble_eq_true rfl), (Nat.le_of_ble_eq_true rfl)⟩ (Nat.le_of_ble_eq_true rfl) (by first | exact mp_fd_ok mp_k_cX9_can_ok (by decide +kernel) | decide +kernel) (fun v_16 w_17 h_18 => ?_)
          rcases h_18 with ⟨rfl, x_19, rfl⟩ | ⟨rfl, x_20, rfl⟩
          · skip
            let w2_ : va_W := [(mp_ob9 a0 a12 a1 a13 a14 a15 a16 a17 a18 a19), (mp_arI E a3 0 36 f0), (mp_arI E a4 0 6 f1), (mp_arI E a8 0 60 f5), (mp_arI E a10 0 6 f7), (mp_arI E a11 0 6 f8), (mp_ob0 a1 a2 y0 a9 a10 a11 a20 a21 a22), (mp_ob7 a2 y1 y2 y3 y4 y5 y6 a3 a23 a4 a5 a24 a6 a7 a25 a26 a27 a28 a8), (mp_arI E a5 0 6 f2), (mp_arI E a6 0 10 f3), (mp_arI E a7 0 10 f4), (mp_arI E a9 0 6 f6)]
            show mp_W E X 3 42 [(2, .int i_2), (1, .int i_3), (0, .ref a0)] [.int 0] w2_ 0 0
            refine mp_run mp_k_cX9_can_ok hF mp_tabX9_ok [mp_h (.ifCond .eq 9) [51]] (by decide +kernel) ?_
            refine And.intro (fun _ => ?_) (fun c_21 => absurd c_21 (by decide))
            show mp_W E X 3 51 [(2, .int i_2), (1, .int i_3), (0, .ref a0)] [] w2_ 0 0
            refine mp_run mp_k_cX9_can_ok hF mp_tabX9_ok [mp_c (.iinc 2 1) 1, mp_h (.goto (-34)) [20]] (by decide +kernel) ?_
            intro z_22 h_23
            have e_24 : z_22.toInt = i_2.toInt + 1 := mp_add (a := i_2.toInt) (b := 1) h_23 rfl (by decide) (by (first | exact mp_o2 l_4 | omega)) (by (first | exact mp_o420 u_5 | omega))
            show mp_W E X 3 20 [(2, .int z_22), (1, .int i_3), (0, .ref a0)] [] w2_ 0 0
            exact mp_sub [0, 1, 2] rfl [0, 6, 7, 1, 2, 8, 9, 10, 3, 11, 4, 5] rfl rfl (ih_13 (d_12 - 1) (by (first | exact mp_o72 hm_14 c_15 | omega)) z_22 i_3 (by (first | exact mp_o51 l_4 e_24 | omega)) (by (first | exact mp_o421 u_y5 c_15 e_24 | omega)) l_6 u_7 (mp_bf_f x_8 (decide_eq_false (by have k9 := x_19; have r9 := q2 i_2.toInt.toNat (by (first | exact mp_o473 l_4 c_15 | omega)); have k8 := q1 (f3 i_2.toInt.toNat).toInt.toNat (by (first | exact mp_o497 r9 | omega)); have k7 := q1 (f4 i_2.toInt.toNat).toInt.toNat (by (first | exact mp_o498 r9 | omega)); rw [k8.1, k7.1, show y0.toInt = (y3.toInt + mp_k200 f5 y6.toInt) from by (first | exact q0 | omega)] at k9; exact k9)) (by (first | exact mp_o53 l_4 e_24 | omega))) (by (first | exact mp_o51 l_4 e_24 | omega)) (by (first | exact mp_o522 c_15 e_24 | omega)) (by (first | exact mp_o77 hm_14 e_24 | omega)))
          · skip
            let w3_ : va_W := [(mp_ob9 a0 a12 a1 a13 a14 a15 a16 a17 a18 a19), (mp_arI E a3 0 36 f0), (mp_arI E a4 0 6 f1), (mp_arI E a8 0 60 f5), (mp_arI E a10 0 6 f7), (mp_arI E a11 0 6 f8), (mp_ob0 a1 a2 y0 a9 a10 a11 a20 a21 a22), (mp_ob7 a2 y1 y2 y3 y4 y5 y6 a3 a23 a4 a5 a24 a6 a7 a25 a26 a27 a28 a8), (mp_arI E a5 0 6 f2), (mp_arI E a6 0 10 f3), (mp_arI E a7 0 10 f4), (mp_arI E a9 0 6 f6)]
            show mp_W E X 3 42 [(2, .int i_2), (1, .int i_3), (0, .ref a0)] [.int 1] w3_ 0 0
            refine mp_run mp_k_cX9_can_ok hF mp_tabX9_ok [mp_h (.ifCond .eq 9) [51]] (by decide +kernel) ?_
            refine And.intro (fun c_25 => absurd c_25 (by decide)) (fun _ => ?_)
            show mp_W E X 3 45 [(2, .int i_2), (1, .int i_3), (0, .ref a0)] [] w3_ 0 0
            refine mp_run mp_k_cX9_can_ok hF mp_tabX9_ok [mp_i (.iload_n 1), mp_c (.iconst 1) 1, mp_i (.iload_n 2), mp_i .ishl, mp_i .ior, mp_i (.istore_n 1), mp_c (.iinc 2 1) 1, mp_h (.goto (-34)) [20]] (by decide +kernel) ?_
            intro z_26 h_27
            have e_29 : 1 ≤ z_26.toInt ∧ z_26.toInt ≤ 512 := mp_shl10 h_27 (by (first | exact x_9 | omega)) (by (first | exact mp_o419 u_y5 c_15 | omega))
            intro z_30 h_31
            have e_33 : 0 ≤ z_30.toInt ∧ z_30.toInt ≤ 1023 := mp_or10 h_31 ⟨by (first | exact l_6 | omega), by (first | exact u_7 | omega)⟩ ⟨by (first | exact mp_o463 e_29 | omega), by (first | exact mp_o464 e_29 | omega)⟩
            intro z_34 h_35
            have e_36 : z_34.toInt = i_2.toInt + 1 := mp_add (a := i_2.toInt) (b := 1) h_35 rfl (by decide) (by (first | exact mp_o2 l_4 | omega)) (by (first | exact mp_o420 u_5 | omega))
            show mp_W E X 3 20 [(2, .int z_34), (1, .int z_30), (0, .ref a0)] [] w3_ 0 0
            exact mp_sub [0, 1, 2] rfl [0, 6, 7, 1, 2, 8, 9, 10, 3, 11, 4, 5] rfl rfl (ih_13 (d_12 - 1) (by (first | exact mp_o72 hm_14 c_15 | omega)) z_34 z_30 (by (first | exact mp_o51 l_4 e_36 | omega)) (by (first | exact mp_o421 u_y5 c_15 e_36 | omega)) (by (first | exact mp_o465 e_33 | omega)) (by (first | exact mp_o466 e_33 | omega)) (mp_bf_t x_8 h_31 h_27 (decide_eq_true (by have k9 := x_20; have r9 := q2 i_2.toInt.toNat (by (first | exact mp_o473 l_4 c_15 | omega)); have k8 := q1 (f3 i_2.toInt.toNat).toInt.toNat (by (first | exact mp_o497 r9 | omega)); have k7 := q1 (f4 i_2.toInt.toNat).toInt.toNat (by (first | exact mp_o498 r9 | omega)); rw [k8.1, k7.1, show y0.toInt = (y3.toInt + mp_k200 f5 y6.toInt) from by (first | exact q0 | omega)] at k9; exact k9)) (by (first | exact mp_o53 l_4 e_36 | omega))) (by (first | exact mp_o51 l_4 e_36 | omega)) (by (first | exact mp_o522 c_15 e_36 | omega)) (by (first | exact mp_o77 hm_14 e_36 | omega)))
    exact mp_sub [0, 1, 2] rfl [0, 1, 2, 3, 4, 5, 6, 7, 8, 9, 10, 11] rfl rfl (lp_11 _ 0 0 (by decide) (by decide) (by decide) (by decide) rfl (by first | fail | decide) (Or.inl (by first | rfl | decide | omega)) (Int.self_le_toNat _))
  · have c_1 : y1.toInt = 0 := (congrArg Int32.toInt c_1)
    show mp_W E X 3 13 [(0, .ref a0)] [] w1_ 0 0
    refine mp_run mp_k_cX9_can_ok hF mp_tabX9_ok [mp_c (.bipush (-2)) (-2)] (by decide +kernel) ?_
    show mp_W E X 3 15 [(0, .ref a0)] [.int (-2)] w1_ 0 0
    exact mp_iret hF hQ rfl rfl (Nat.le_of_ble_eq_true rfl) (Nat.le_of_ble_eq_true rfl) [0, 1, 2, 3, 4, 5, 6, 7, 8, 9, 10, 11] (w' := w1_) rfl rfl ⟨(-2), rfl, (by decide), (by decide), (by first | fail | decide | (have h8 : (0 : Int64).toInt = 0 := rfl; have h9 : (-1 : Int32).toInt = -1 := rfl; have h10 : (-2 : Int32).toInt = -2 := rfl; have h11 : (0 : Int32).toInt = 0 := rfl; have h12 : (1 : Int32).toInt = 1 := rfl; have h13 : (-5 : Int32).toInt = -5 := rfl; have h14 : (-3 : Int32).toInt = -3 := rfl; (first | exact mp_o471 c_1 h10 | omega))), rfl⟩ (by first | exact mp_fd_ok mp_k_cX9_can_ok (by decide +kernel) | decide +kernel)
set_option maxHeartbeats 4000000 in
set_option maxRecDepth 100000 in
theorem bX9_sails_100 (E : mp_E) (a0 a1 a2 a3 a4 a5 a6 a7 a8 a9 a10 a11 a12 a13 a14 a15 a16 a17 a18 a19 a20 a21 a22 a23 a24 a25 a26 a27 a28 : Nat) (f0 : Nat → Int32) (f1 : Nat → Int64) (f2 : Nat → Int32) (f3 : Nat → Int32) (f4 : Nat → Int32) (f5 : Nat → Int32) (f6 : Nat → Int32) (f7 : Nat → Int32) (y0 : Int32) (y1 : Int32) (y2 : Int32) (y3 : Int32) (y4 : Int32) (y5 : Int32) (y6 : Int32) (x0 : Int32) (p0 : mp_all f0 36 0 20) (p1 : mp_all f2 6 0 5) (p2 : mp_acts f4) (p3 : mp_all f5 6 0 5) (l_y0 : 0 ≤ y0.toInt) (u_y0 : y0.toInt ≤ 99) (l_y2 : 0 ≤ y2.toInt) (u_y2 : y2.toInt ≤ 6) (l_y3 : 0 ≤ y3.toInt) (u_y3 : y3.toInt ≤ 99) (l_y4 : 0 ≤ y4.toInt) (u_y4 : y4.toInt ≤ 6) (l_y5 : 0 ≤ y5.toInt) (u_y5 : y5.toInt ≤ 10) (l_y6 : 0 ≤ y6.toInt) (u_y6 : y6.toInt ≤ 60) (q0 : y0.toInt = y3.toInt + mp_k200 f4 y6.toInt) (q1 : mp_CS f5 f6 f7 f0 f2 f4 y3.toInt y4.toInt (y6.toInt : Int).toNat) : mp_Ct E yX9_sails cX9_sails 4 (some FieldType.int) 3 0 0 69 [.ref a0, .int x0] [(mp_ob9 a0 a11 a1 a12 a13 a14 a15 a16 a17 a18), (mp_ob0 a1 a2 y0 a8 a9 a10 a19 a20 a21), (mp_ob7 a2 y1 y2 y3 y4 y5 y6 a3 a4 a5 a6 a22 a23 a24 a25 a26 a27 a28 a7), (mp_arI E a3 0 36 f0), (mp_arL E a4 12 f1), (mp_arI E a5 0 6 f2), (mp_arI E a6 0 6 f3), (mp_arI E a7 0 60 f4), (mp_arI E a8 0 6 f5), (mp_arI E a9 0 6 f6), (mp_arI E a10 0 6 f7)] (fun v w' => ∃ r1 : Int32, v = some (.int r1) ∧ (-2) ≤ r1.toInt ∧ r1.toInt ≤ 1023 ∧ (((x0.toInt < 0 ∨ y4.toInt ≤ x0.toInt) ∧ r1.toInt = -2) ∨ ((0 ≤ x0.toInt ∧ x0.toInt < y4.toInt) ∧ r1.toInt = (mp_bf (fun k : Nat => decide (mp_crx (mp_cs f0 f2 f4 y3.toInt x0.toInt.toNat (y6.toInt).toNat).2.2.toInt (y3.toInt + mp_k200 f4 y6.toInt) ((k : Nat) : Int) (mp_cs f0 f2 f4 y3.toInt x0.toInt.toNat (y6.toInt).toNat).1.toInt (f0 (6 * (mp_cs f0 f2 f4 y3.toInt x0.toInt.toNat (y6.toInt).toNat).1.toInt + ((k : Nat) : Int)).toNat).toInt (f3 x0.toInt.toNat).toInt (mp_shb f1 (100 * (mp_cs f0 f2 f4 y3.toInt x0.toInt.toNat (y6.toInt).toNat).1.toInt + (y3.toInt + mp_k200 f4 y6.toInt)).toNat) (mp_shb f1 (100 * ((k : Nat) : Int) + (y3.toInt + mp_k200 f4 y6.toInt)).toNat))) (y2.toInt).toNat).toInt)) ∧ w' = [(mp_ob9 a0 a11 a1 a12 a13 a14 a15 a16 a17 a18), (mp_ob0 a1 a2 y0 a8 a9 a10 a19 a20 a21), (mp_ob7 a2 y1 y2 y3 y4 y5 y6 a3 a4 a5 a6 a22 a23 a24 a25 a26 a27 a28 a7), (mp_arI E a3 0 36 f0), (mp_arL E a4 12 f1), (mp_arI E a5 0 6 f2), (mp_arI E a6 0 6 f3), (mp_arI E a7 0 60 f4), (mp_arI E a8 0 6 f5), (mp_arI E a9 0 6 f6), (mp_arI E a10 0 6 f7)]) := by
  refine mp_met false (by decide) (by decide) (Nat.le_of_ble_eq_true rfl) (fun X hF hQ => ?_)
  have hF : mp_F E X (RX9, cX9_sails, 4, (3, 0, 0, 69), (some FieldType.int), false) := hF
  let w1_ : va_W := [(mp_ob9 a0 a11 a1 a12 a13 a14 a15 a16 a17 a18), (mp_ob0 a1 a2 y0 a8 a9 a10 a19 a20 a21), (mp_ob7 a2 y1 y2 y3 y4 y5 y6 a3 a4 a5 a6 a22 a23 a24 a25 a26 a27 a28 a7), (mp_arI E a3 0 36 f0), (mp_arL E a4 12 f1), (mp_arI E a5 0 6 f2), (mp_arI E a6 0 6 f3), (mp_arI E a7 0 60 f4), (mp_arI E a8 0 6 f5), (mp_arI E a9 0 6 f6), (mp_arI E a10 0 6 f7)]
  show mp_W E X 4 0 [(0, .ref a0), (1, .int x0)] [] w1_ 0 0
  refine mp_run mp_k_cX9_sails_ok hF mp_tabX9_ok [mp_i (.aload_n 0), mp_h (.getfield 19) [37, 0], mp_h (.getfield 83) [20, 1], mp_i (.iload_n 1)] (by decide +kernel) ?_
  refine And.intro rfl (And.intro rfl ?_)
  refine And.intro rfl (And.intro rfl ?_)
  show mp_W E X 4 8 [(0, .ref a0), (1, .int x0)] [.int x0, .ref a2] w1_ 0 0
  refine mp_callV hF (As := [.int x0]) (rest := []) (wr := [(mp_ob9 a0 a11 a1 a12 a13 a14 a15 a16 a17 a18), (mp_ob0 a1 a2 y0 a8 a9 a10 a19 a20 a21), (mp_arI E a3 0 36 f0), (mp_arL E a4 12 f1), (mp_arI E a5 0 6 f2), (mp_arI E a6 0 6 f3), (mp_arI E a7 0 60 f4), (mp_arI E a8 0 6 f5), (mp_arI E a9 0 6 f6), (mp_arI E a10 0 6 f7)]) (bX7_isPerson_51 E a2 a3 a4 a5 a6 a22 a23 a24 a25 a26 a27 a28 a7 y1 y2 y3 y4 y5 y6 x0 l_y2 u_y2 l_y3 u_y3 l_y4 u_y4 l_y5 u_y5 l_y6 u_y6) mp_lkX9_106 2 rfl [2] [0, 1, 3, 4, 5, 6, 7, 8, 9, 10] rfl rfl rfl rfl rfl ⟨(Nat.le_of_ble_eq_true rfl), (Nat.le_of_ble_eq_true rfl), (Nat.le_of_ble_eq_true rfl), (Nat.le_of_ble_eq_true rfl)⟩ (Nat.le_of_ble_eq_true rfl) (by first | exact mp_fd_ok mp_k_cX9_sails_ok (by decide +kernel) | decide +kernel) (fun v_1 w_2 h_3 => ?_)
  rcases h_3 with ⟨rfl, x_4, rfl⟩ | ⟨rfl, c_5, c_6, x_7, rfl⟩
  · skip
    let w2_ : va_W := [(mp_ob9 a0 a11 a1 a12 a13 a14 a15 a16 a17 a18), (mp_ob0 a1 a2 y0 a8 a9 a10 a19 a20 a21), (mp_arI E a3 0 36 f0), (mp_arL E a4 12 f1), (mp_arI E a5 0 6 f2), (mp_arI E a6 0 6 f3), (mp_arI E a7 0 60 f4), (mp_arI E a8 0 6 f5), (mp_arI E a9 0 6 f6), (mp_arI E a10 0 6 f7), (mp_ob7 a2 y1 y2 y3 y4 y5 y6 a3 a4 a5 a6 a22 a23 a24 a25 a26 a27 a28 a7)]
    show mp_W E X 4 11 [(0, .ref a0), (1, .int x0)] [.int 0] w2_ 0 0
    refine mp_run mp_k_cX9_sails_ok hF mp_tabX9_ok [mp_h (.ifCond .ne 6) [17]] (by decide +kernel) ?_
    refine And.intro (fun c_8 => absurd c_8 (by decide)) (fun _ => ?_)
    show mp_W E X 4 14 [(0, .ref a0), (1, .int x0)] [] w2_ 0 0
    refine mp_run mp_k_cX9_sails_ok hF mp_tabX9_ok [mp_c (.bipush (-2)) (-2)] (by decide +kernel) ?_
    show mp_W E X 4 16 [(0, .ref a0), (1, .int x0)] [.int (-2)] w2_ 0 0
    exact mp_iret hF hQ rfl rfl (Nat.le_of_ble_eq_true rfl) (Nat.le_of_ble_eq_true rfl) [0, 1, 10, 2, 3, 4, 5, 6, 7, 8, 9] (w' := w1_) rfl rfl ⟨(-2), rfl, (by decide), (by decide), (by first | fail | decide | (have h8 : (0 : Int64).toInt = 0 := rfl; have h9 : (-1 : Int32).toInt = -1 := rfl; have h10 : (-2 : Int32).toInt = -2 := rfl; have h11 : (0 : Int32).toInt = 0 := rfl; have h12 : (1 : Int32).toInt = 1 := rfl; have h13 : (-5 : Int32).toInt = -5 := rfl; have h14 : (-3 : Int32).toInt = -3 := rfl; (first | exact mp_o448 x_4 h10 | omega))), rfl⟩ (by first | exact mp_fd_ok mp_k_cX9_sails_ok (by decide +kernel) | decide +kernel)
  · skip
    have c_5 : 0 ≤ x0.toInt := c_5
    have c_6 : x0.toInt < y4.toInt := c_6
    let w3_ : va_W := [(mp_ob9 a0 a11 a1 a12 a13 a14 a15 a16 a17 a18), (mp_ob0 a1 a2 y0 a8 a9 a10 a19 a20 a21), (mp_arI E a3 0 36 f0), (mp_arL E a4 12 f1), (mp_arI E a5 0 6 f2), (mp_arI E a6 0 6 f3), (mp_arI E a7 0 60 f4), (mp_arI E a8 0 6 f5), (mp_arI E a9 0 6 f6), (mp_arI E a10 0 6 f7), (mp_ob7 a2 y1 y2 y3 y4 y5 y6 a3 a4 a5 a6 a22 a23 a24 a25 a26 a27 a28 a7)]
    show mp_W E X 4 11 [(0, .ref a0), (1, .int x0)] [.int 1] w3_ 0 0
    refine mp_run mp_k_cX9_sails_ok hF mp_tabX9_ok [mp_h (.ifCond .ne 6) [17]] (by decide +kernel) ?_
    refine And.intro (fun _ => ?_) (fun c_9 => absurd c_9 (by decide))
    show mp_W E X 4 17 [(0, .ref a0), (1, .int x0)] [] w3_ 0 0
    refine mp_run mp_k_cX9_sails_ok hF mp_tabX9_ok [mp_c (.iconst 0) 0, mp_i (.istore_n 2), mp_c (.iconst 0) 0, mp_i (.istore_n 3)] (by decide +kernel) ?_
    show mp_W E X 4 21 [(3, .int 0), (2, .int 0), (0, .ref a0), (1, .int x0)] [] w3_ 0 0
    have lp_19 : ∀ (d_20 : Nat) (i_10 : Int32) (i_11 : Int32), 0 ≤ i_10.toInt → i_10.toInt ≤ 6 → 0 ≤ i_11.toInt → i_11.toInt ≤ 1023 → (i_11 = mp_bf (fun k : Nat => decide (mp_crx (mp_cs f0 f2 f4 y3.toInt x0.toInt.toNat (y6.toInt).toNat).2.2.toInt (y3.toInt + mp_k200 f4 y6.toInt) ((k : Nat) : Int) (mp_cs f0 f2 f4 y3.toInt x0.toInt.toNat (y6.toInt).toNat).1.toInt (f0 (6 * (mp_cs f0 f2 f4 y3.toInt x0.toInt.toNat (y6.toInt).toNat).1.toInt + ((k : Nat) : Int)).toNat).toInt (f3 x0.toInt.toNat).toInt (mp_shb f1 (100 * (mp_cs f0 f2 f4 y3.toInt x0.toInt.toNat (y6.toInt).toNat).1.toInt + (y3.toInt + mp_k200 f4 y6.toInt)).toNat) (mp_shb f1 (100 * ((k : Nat) : Int) + (y3.toInt + mp_k200 f4 y6.toInt)).toNat))) i_10.toInt.toNat) → (0 ≤ i_10.toInt) → (i_10.toInt = 0 ∨ i_10.toInt ≤ y2.toInt) → y2.toInt - i_10.toInt ≤ (d_20 : Int) → mp_W E X 4 21 [(3, .int i_10), (2, .int i_11), (0, .ref a0), (1, .int x0)] [] [(mp_ob9 a0 a11 a1 a12 a13 a14 a15 a16 a17 a18), (mp_ob0 a1 a2 y0 a8 a9 a10 a19 a20 a21), (mp_arI E a3 0 36 f0), (mp_arL E a4 12 f1), (mp_arI E a5 0 6 f2), (mp_arI E a6 0 6 f3), (mp_arI E a7 0 60 f4), (mp_arI E a8 0 6 f5), (mp_arI E a9 0 6 f6), (mp_arI E a10 0 6 f7), (mp_ob7 a2 y1 y2 y3 y4 y5 y6 a3 a4 a5 a6 a22 a23 a24 a25 a26 a27 a28 a7)] 0 0 := by
      intro d_20
      induction d_20 using Nat.strongRecOn with
      | ind d_20 ih_21 =>
        intro i_10 i_11 l_12 u_13 l_14 u_15 x_16 x_17 x_18 hm_22
        refine mp_run mp_k_cX9_sails_ok hF mp_tabX9_ok [mp_i (.iload_n 3), mp_i (.aload_n 0), mp_h (.getfield 19) [37, 0], mp_h (.getfield 83) [20, 1], mp_h (.getfield 220) [1, 10], mp_h (.if_icmp .ge 27) [59]] (by decide +kernel) ?_
        refine And.intro rfl (And.intro rfl ?_)
        refine And.intro rfl (And.intro rfl ?_)
        refine And.intro rfl (And.intro rfl ?_)
        refine And.intro (fun c_23 => ?_) (fun c_23 => ?_)
        · have c_23 : y2.toInt ≤ i_10.toInt := c_23
          show mp_W E X 4 59 [(3, .int i_10), (2, .int i_11), (0, .ref a0), (1, .int x0)] [] w3_ 0 0
          refine mp_run mp_k_cX9_sails_ok hF mp_tabX9_ok [mp_i (.iload_n 2)] (by decide +kernel) ?_
          show mp_W E X 4 60 [(3, .int i_10), (2, .int i_11), (0, .ref a0), (1, .int x0)] [.int i_11] w3_ 0 0
          exact mp_iret hF hQ rfl rfl (Nat.le_of_ble_eq_true rfl) (Nat.le_of_ble_eq_true rfl) [0, 1, 10, 2, 3, 4, 5, 6, 7, 8, 9] (w' := w1_) rfl rfl ⟨i_11, rfl, (by (first | exact mp_o399 l_14 | omega)), u_15, (Or.inr ⟨by (first | exact x_7 | omega), by rw [x_16, show i_10.toInt.toNat = (y2.toInt).toNat from by (first | exact mp_o521 x_18 c_23 | omega)]⟩), rfl⟩ (by first | exact mp_fd_ok mp_k_cX9_sails_ok (by decide +kernel) | decide +kernel)
        · have c_23 : i_10.toInt < y2.toInt := c_23
          show mp_W E X 4 35 [(3, .int i_10), (2, .int i_11), (0, .ref a0), (1, .int x0)] [] w3_ 0 0
          refine mp_run mp_k_cX9_sails_ok hF mp_tabX9_ok [mp_i (.aload_n 0), mp_h (.getfield 19) [37, 0], mp_i (.iload_n 1), mp_i (.iload_n 3)] (by decide +kernel) ?_
          refine And.intro rfl (And.intro rfl ?_)
          show mp_W E X 4 41 [(3, .int i_10), (2, .int i_11), (0, .ref a0), (1, .int x0)] [.int i_10, .int x0, .ref a1] w3_ 0 0
          refine mp_callV hF (As := [.int x0, .int i_10]) (rest := []) (wr := [(mp_ob9 a0 a11 a1 a12 a13 a14 a15 a16 a17 a18), (mp_arI E a5 0 6 f2), (mp_arI E a7 0 60 f4), (mp_arI E a9 0 6 f6)]) (bX0_canRow_89 E a1 a2 a3 a4 a6 a8 a10 a9 a19 a20 a21 a5 a22 a23 a24 a25 a26 a27 a28 a7 f0 f1 f3 f5 f7 y0 y1 y2 y3 y4 y5 y6 x0 i_10 p0 p3 (by (first | exact c_5 | omega)) (by (first | exact mp_o398 u_y4 c_6 | omega)) l_12 (by (first | exact mp_o398 u_y2 c_23 | omega)) l_y0 u_y0 l_y2 u_y2 l_y3 u_y3 l_y4 u_y4 l_y5 u_y5 l_y6 u_y6) mp_lkX9_205 1 rfl [1, 10, 2, 3, 5, 7, 9] [0, 4, 6, 8] rfl rfl rfl rfl rfl ⟨(Nat.le_of_ble_eq_true rfl), (Nat.le_of_ble_eq_true rfl), (Nat.le_of_ble_eq_true rfl), (Nat.le_of_ble_eq_true rfl)⟩ (Nat.le_of_ble_eq_true rfl) (by first | exact mp_fd_ok mp_k_cX9_sails_ok (by decide +kernel) | decide +kernel) (fun v_24 w_25 h_26 => ?_)
          rcases h_26 with ⟨rfl, x_27, rfl⟩ | ⟨rfl, x_28, rfl⟩
          · skip
            let w4_ : va_W := [(mp_ob9 a0 a11 a1 a12 a13 a14 a15 a16 a17 a18), (mp_arI E a5 0 6 f2), (mp_arI E a7 0 60 f4), (mp_arI E a9 0 6 f6), (mp_ob0 a1 a2 y0 a8 a9 a10 a19 a20 a21), (mp_ob7 a2 y1 y2 y3 y4 y5 y6 a3 a4 a5 a6 a22 a23 a24 a25 a26 a27 a28 a7), (mp_arI E a3 0 36 f0), (mp_arL E a4 12 f1), (mp_arI E a6 0 6 f3), (mp_arI E a8 0 6 f5), (mp_arI E a10 0 6 f7)]
            show mp_W E X 4 44 [(3, .int i_10), (2, .int i_11), (0, .ref a0), (1, .int x0)] [.int 0] w4_ 0 0
            refine mp_run mp_k_cX9_sails_ok hF mp_tabX9_ok [mp_h (.ifCond .eq 9) [53]] (by decide +kernel) ?_
            refine And.intro (fun _ => ?_) (fun c_29 => absurd c_29 (by decide))
            show mp_W E X 4 53 [(3, .int i_10), (2, .int i_11), (0, .ref a0), (1, .int x0)] [] w4_ 0 0
            refine mp_run mp_k_cX9_sails_ok hF mp_tabX9_ok [mp_c (.iinc 3 1) 1, mp_h (.goto (-35)) [21]] (by decide +kernel) ?_
            intro z_30 h_31
            have e_32 : z_30.toInt = i_10.toInt + 1 := mp_add (a := i_10.toInt) (b := 1) h_31 rfl (by decide) (by (first | exact mp_o2 l_12 | omega)) (by (first | exact mp_o351 u_13 | omega))
            show mp_W E X 4 21 [(3, .int z_30), (2, .int i_11), (0, .ref a0), (1, .int x0)] [] w4_ 0 0
            exact mp_sub [0, 1, 2, 3] rfl [0, 4, 6, 7, 1, 8, 2, 9, 3, 10, 5] rfl rfl (ih_21 (d_20 - 1) (by (first | exact mp_o72 hm_22 c_23 | omega)) z_30 i_11 (by (first | exact mp_o51 l_12 e_32 | omega)) (by (first | exact mp_o352 u_y2 c_23 e_32 | omega)) l_14 u_15 (mp_bf_f x_16 (decide_eq_false (by have k9 := x_27; have k8 := q1 x0.toInt.toNat (by (first | exact mp_o473 c_5 c_6 | omega)); rw [k8.1, k8.2.2, show y0.toInt = (y3.toInt + mp_k200 f4 y6.toInt) from by (first | exact q0 | omega), show i_10.toInt = ((i_10.toInt.toNat : Nat) : Int) from by (first | exact mp_o369 l_12 | omega)] at k9; exact k9)) (by (first | exact mp_o53 l_12 e_32 | omega))) (by (first | exact mp_o51 l_12 e_32 | omega)) (by (first | exact mp_o522 c_23 e_32 | omega)) (by (first | exact mp_o77 hm_22 e_32 | omega)))
          · skip
            let w5_ : va_W := [(mp_ob9 a0 a11 a1 a12 a13 a14 a15 a16 a17 a18), (mp_arI E a5 0 6 f2), (mp_arI E a7 0 60 f4), (mp_arI E a9 0 6 f6), (mp_ob0 a1 a2 y0 a8 a9 a10 a19 a20 a21), (mp_ob7 a2 y1 y2 y3 y4 y5 y6 a3 a4 a5 a6 a22 a23 a24 a25 a26 a27 a28 a7), (mp_arI E a3 0 36 f0), (mp_arL E a4 12 f1), (mp_arI E a6 0 6 f3), (mp_arI E a8 0 6 f5), (mp_arI E a10 0 6 f7)]
            show mp_W E X 4 44 [(3, .int i_10), (2, .int i_11), (0, .ref a0), (1, .int x0)] [.int 1] w5_ 0 0
            refine mp_run mp_k_cX9_sails_ok hF mp_tabX9_ok [mp_h (.ifCond .eq 9) [53]] (by decide +kernel) ?_
            refine And.intro (fun c_33 => absurd c_33 (by decide)) (fun _ => ?_)
            show mp_W E X 4 47 [(3, .int i_10), (2, .int i_11), (0, .ref a0), (1, .int x0)] [] w5_ 0 0
            refine mp_run mp_k_cX9_sails_ok hF mp_tabX9_ok [mp_i (.iload_n 2), mp_c (.iconst 1) 1, mp_i (.iload_n 3), mp_i .ishl, mp_i .ior, mp_i (.istore_n 2), mp_c (.iinc 3 1) 1, mp_h (.goto (-35)) [21]] (by decide +kernel) ?_
            intro z_34 h_35
            have e_37 : 1 ≤ z_34.toInt ∧ z_34.toInt ≤ 512 := mp_shl10 h_35 (by (first | exact x_17 | omega)) (by (first | exact mp_o523 u_13 | omega))
            intro z_38 h_39
            have e_41 : 0 ≤ z_38.toInt ∧ z_38.toInt ≤ 1023 := mp_or10 h_39 ⟨by (first | exact l_14 | omega), by (first | exact u_15 | omega)⟩ ⟨by (first | exact mp_o463 e_37 | omega), by (first | exact mp_o464 e_37 | omega)⟩
            intro z_42 h_43
            have e_44 : z_42.toInt = i_10.toInt + 1 := mp_add (a := i_10.toInt) (b := 1) h_43 rfl (by decide) (by (first | exact mp_o2 l_12 | omega)) (by (first | exact mp_o351 u_13 | omega))
            show mp_W E X 4 21 [(3, .int z_42), (2, .int z_38), (0, .ref a0), (1, .int x0)] [] w5_ 0 0
            exact mp_sub [0, 1, 2, 3] rfl [0, 4, 6, 7, 1, 8, 2, 9, 3, 10, 5] rfl rfl (ih_21 (d_20 - 1) (by (first | exact mp_o72 hm_22 c_23 | omega)) z_42 z_38 (by (first | exact mp_o51 l_12 e_44 | omega)) (by (first | exact mp_o352 u_y2 c_23 e_44 | omega)) (by (first | exact mp_o465 e_41 | omega)) (by (first | exact mp_o466 e_41 | omega)) (mp_bf_t x_16 h_39 h_35 (decide_eq_true (by have k9 := x_28; have k8 := q1 x0.toInt.toNat (by (first | exact mp_o473 c_5 c_6 | omega)); rw [k8.1, k8.2.2, show y0.toInt = (y3.toInt + mp_k200 f4 y6.toInt) from by (first | exact q0 | omega), show i_10.toInt = ((i_10.toInt.toNat : Nat) : Int) from by (first | exact mp_o369 l_12 | omega)] at k9; exact k9)) (by (first | exact mp_o53 l_12 e_44 | omega))) (by (first | exact mp_o51 l_12 e_44 | omega)) (by (first | exact mp_o522 c_23 e_44 | omega)) (by (first | exact mp_o77 hm_22 e_44 | omega)))
    exact mp_sub [0, 1, 2, 3] rfl [0, 1, 2, 3, 4, 5, 6, 7, 8, 9, 10] rfl rfl (lp_19 _ 0 0 (by decide) (by decide) (by decide) (by decide) rfl (by first | fail | decide) (Or.inl (by first | rfl | decide | omega)) (Int.self_le_toNat _))
set_option maxHeartbeats 4000000 in
set_option maxRecDepth 100000 in
theorem bX9_canPlan_101 (E : mp_E) (a0 a1 a2 a3 a4 a5 a6 a7 a8 a9 a10 a11 a12 a13 a14 a15 a16 a17 a18 a19 a20 a21 a22 a23 a24 a25 a26 a27 a28 : Nat) (y0 : Int32) (y1 : Int32) (y2 : Int32) (y3 : Int32) (y4 : Int32) (y5 : Int32) (y6 : Int32) (x0 : Int32) (x1 : Int32) (l_y0 : 0 ≤ y0.toInt) (u_y0 : y0.toInt ≤ 99) (l_y2 : 0 ≤ y2.toInt) (u_y2 : y2.toInt ≤ 6) (l_y3 : 0 ≤ y3.toInt) (u_y3 : y3.toInt ≤ 99) (l_y4 : 0 ≤ y4.toInt) (u_y4 : y4.toInt ≤ 6) (l_y5 : 0 ≤ y5.toInt) (u_y5 : y5.toInt ≤ 10) (l_y6 : 0 ≤ y6.toInt) (u_y6 : y6.toInt ≤ 60) : mp_Ct E yX9_canPlan cX9_canPlan 3 (some FieldType.boolean) 1 0 0 21 [.ref a0, .int x0, .int x1] [(mp_ob9 a0 a3 a1 a4 a5 a6 a7 a8 a9 a10), (mp_ob0 a1 a2 y0 a11 a12 a13 a14 a15 a16), (mp_ob7 a2 y1 y2 y3 y4 y5 y6 a17 a18 a19 a20 a21 a22 a23 a24 a25 a26 a27 a28)] (fun v w' => (v = some (.int 0) ∧ w' = [(mp_ob9 a0 a3 a1 a4 a5 a6 a7 a8 a9 a10), (mp_ob0 a1 a2 y0 a11 a12 a13 a14 a15 a16), (mp_ob7 a2 y1 y2 y3 y4 y5 y6 a17 a18 a19 a20 a21 a22 a23 a24 a25 a26 a27 a28)]) ∨ (v = some (.int 1) ∧ 0 ≤ x0.toInt ∧ x0.toInt < y4.toInt ∧ 1 ≤ x1.toInt ∧ x1.toInt ≤ 12 ∧ y0.toInt + x1.toInt ≤ 99 ∧ w' = [(mp_ob9 a0 a3 a1 a4 a5 a6 a7 a8 a9 a10), (mp_ob0 a1 a2 y0 a11 a12 a13 a14 a15 a16), (mp_ob7 a2 y1 y2 y3 y4 y5 y6 a17 a18 a19 a20 a21 a22 a23 a24 a25 a26 a27 a28)])) := by
  refine mp_met false (by decide) (by decide) (Nat.le_of_ble_eq_true rfl) (fun X hF hQ => ?_)
  have hF : mp_F E X (RX9, cX9_canPlan, 3, (1, 0, 0, 21), (some FieldType.boolean), false) := hF
  let w1_ : va_W := [(mp_ob9 a0 a3 a1 a4 a5 a6 a7 a8 a9 a10), (mp_ob0 a1 a2 y0 a11 a12 a13 a14 a15 a16), (mp_ob7 a2 y1 y2 y3 y4 y5 y6 a17 a18 a19 a20 a21 a22 a23 a24 a25 a26 a27 a28)]
  show mp_W E X 3 0 [(0, .ref a0), (1, .int x0), (2, .int x1)] [] w1_ 0 0
  refine mp_run mp_k_cX9_canPlan_ok hF mp_tabX9_ok [mp_i (.aload_n 0), mp_h (.getfield 19) [37, 0], mp_h (.getfield 83) [20, 1], mp_i (.iload_n 1)] (by decide +kernel) ?_
  refine And.intro rfl (And.intro rfl ?_)
  refine And.intro rfl (And.intro rfl ?_)
  show mp_W E X 3 8 [(0, .ref a0), (1, .int x0), (2, .int x1)] [.int x0, .ref a2] w1_ 0 0
  refine mp_callV hF (As := [.int x0]) (rest := []) (wr := [(mp_ob9 a0 a3 a1 a4 a5 a6 a7 a8 a9 a10), (mp_ob0 a1 a2 y0 a11 a12 a13 a14 a15 a16)]) (bX7_isPerson_51 E a2 a17 a18 a19 a20 a21 a22 a23 a24 a25 a26 a27 a28 y1 y2 y3 y4 y5 y6 x0 l_y2 u_y2 l_y3 u_y3 l_y4 u_y4 l_y5 u_y5 l_y6 u_y6) mp_lkX9_106 2 rfl [2] [0, 1] rfl rfl rfl rfl rfl ⟨(Nat.le_of_ble_eq_true rfl), (Nat.le_of_ble_eq_true rfl), (Nat.le_of_ble_eq_true rfl), (Nat.le_of_ble_eq_true rfl)⟩ (Nat.le_of_ble_eq_true rfl) (by first | exact mp_fd_ok mp_k_cX9_canPlan_ok (by decide +kernel) | decide +kernel) (fun v_1 w_2 h_3 => ?_)
  rcases h_3 with ⟨rfl, x_4, rfl⟩ | ⟨rfl, c_5, c_6, x_7, rfl⟩
  · skip
    show mp_W E X 3 11 [(0, .ref a0), (1, .int x0), (2, .int x1)] [.int 0] w1_ 0 0
    refine mp_run mp_k_cX9_canPlan_ok hF mp_tabX9_ok [mp_h (.ifCond .eq 32) [43]] (by decide +kernel) ?_
    refine And.intro (fun _ => ?_) (fun c_8 => absurd c_8 (by decide))
    show mp_W E X 3 43 [(0, .ref a0), (1, .int x0), (2, .int x1)] [] w1_ 0 0
    refine mp_run mp_k_cX9_canPlan_ok hF mp_tabX9_ok [mp_c (.iconst 0) 0] (by decide +kernel) ?_
    show mp_W E X 3 44 [(0, .ref a0), (1, .int x0), (2, .int x1)] [.int 0] w1_ 0 0
    exact mp_iret hF hQ rfl (by decide) (Nat.le_of_ble_eq_true rfl) (Nat.le_of_ble_eq_true rfl) [0, 1, 2] (w' := w1_) rfl rfl (Or.inl ⟨rfl, rfl⟩) (by first | exact mp_fd_ok mp_k_cX9_canPlan_ok (by decide +kernel) | decide +kernel)
  · skip
    have c_5 : 0 ≤ x0.toInt := c_5
    have c_6 : x0.toInt < y4.toInt := c_6
    show mp_W E X 3 11 [(0, .ref a0), (1, .int x0), (2, .int x1)] [.int 1] w1_ 0 0
    refine mp_run mp_k_cX9_canPlan_ok hF mp_tabX9_ok [mp_h (.ifCond .eq 32) [43]] (by decide +kernel) ?_
    refine And.intro (fun c_9 => absurd c_9 (by decide)) (fun _ => ?_)
    show mp_W E X 3 14 [(0, .ref a0), (1, .int x0), (2, .int x1)] [] w1_ 0 0
    refine mp_run mp_k_cX9_canPlan_ok hF mp_tabX9_ok [mp_i (.iload_n 2), mp_c (.iconst 1) 1, mp_h (.if_icmp .lt 27) [43]] (by decide +kernel) ?_
    refine And.intro (fun c_10 => ?_) (fun c_10 => ?_)
    · have c_10 : x1.toInt < 1 := c_10
      show mp_W E X 3 43 [(0, .ref a0), (1, .int x0), (2, .int x1)] [] w1_ 0 0
      refine mp_run mp_k_cX9_canPlan_ok hF mp_tabX9_ok [mp_c (.iconst 0) 0] (by decide +kernel) ?_
      show mp_W E X 3 44 [(0, .ref a0), (1, .int x0), (2, .int x1)] [.int 0] w1_ 0 0
      exact mp_iret hF hQ rfl (by decide) (Nat.le_of_ble_eq_true rfl) (Nat.le_of_ble_eq_true rfl) [0, 1, 2] (w' := w1_) rfl rfl (Or.inl ⟨rfl, rfl⟩) (by first | exact mp_fd_ok mp_k_cX9_canPlan_ok (by decide +kernel) | decide +kernel)
    · have c_10 : 1 ≤ x1.toInt := c_10
      show mp_W E X 3 19 [(0, .ref a0), (1, .int x0), (2, .int x1)] [] w1_ 0 0
      refine mp_run mp_k_cX9_canPlan_ok hF mp_tabX9_ok [mp_i (.iload_n 2), mp_c (.bipush 12) 12, mp_h (.if_icmp .gt 21) [43]] (by decide +kernel) ?_
      refine And.intro (fun c_11 => ?_) (fun c_11 => ?_)
      · have c_11 : 12 < x1.toInt := c_11
        show mp_W E X 3 43 [(0, .ref a0), (1, .int x0), (2, .int x1)] [] w1_ 0 0
        refine mp_run mp_k_cX9_canPlan_ok hF mp_tabX9_ok [mp_c (.iconst 0) 0] (by decide +kernel) ?_
        show mp_W E X 3 44 [(0, .ref a0), (1, .int x0), (2, .int x1)] [.int 0] w1_ 0 0
        exact mp_iret hF hQ rfl (by decide) (Nat.le_of_ble_eq_true rfl) (Nat.le_of_ble_eq_true rfl) [0, 1, 2] (w' := w1_) rfl rfl (Or.inl ⟨rfl, rfl⟩) (by first | exact mp_fd_ok mp_k_cX9_canPlan_ok (by decide +kernel) | decide +kernel)
      · have c_11 : x1.toInt ≤ 12 := c_11
        show mp_W E X 3 25 [(0, .ref a0), (1, .int x0), (2, .int x1)] [] w1_ 0 0
        refine mp_run mp_k_cX9_canPlan_ok hF mp_tabX9_ok [mp_i (.aload_n 0), mp_h (.getfield 19) [37, 0], mp_h (.getfield 166) [21, 1], mp_i (.iload_n 2), mp_i .iadd, mp_c (.bipush 99) 99, mp_h (.if_icmp .gt 7) [43]] (by decide +kernel) ?_
        refine And.intro rfl (And.intro rfl ?_)
        refine And.intro rfl (And.intro rfl ?_)
        intro z_12 h_13
        have e_14 : z_12.toInt = y0.toInt + x1.toInt := mp_add (a := y0.toInt) (b := x1.toInt) h_13 rfl rfl (by (first | exact mp_o524 l_y0 c_10 | omega)) (by (first | exact mp_o525 u_y0 c_11 | omega))
        refine And.intro (fun c_15 => ?_) (fun c_15 => ?_)
        · have c_15 : 99 < z_12.toInt := c_15
          show mp_W E X 3 43 [(0, .ref a0), (1, .int x0), (2, .int x1)] [] w1_ 0 0
          refine mp_run mp_k_cX9_canPlan_ok hF mp_tabX9_ok [mp_c (.iconst 0) 0] (by decide +kernel) ?_
          show mp_W E X 3 44 [(0, .ref a0), (1, .int x0), (2, .int x1)] [.int 0] w1_ 0 0
          exact mp_iret hF hQ rfl (by decide) (Nat.le_of_ble_eq_true rfl) (Nat.le_of_ble_eq_true rfl) [0, 1, 2] (w' := w1_) rfl rfl (Or.inl ⟨rfl, rfl⟩) (by first | exact mp_fd_ok mp_k_cX9_canPlan_ok (by decide +kernel) | decide +kernel)
        · have c_15 : z_12.toInt ≤ 99 := c_15
          show mp_W E X 3 39 [(0, .ref a0), (1, .int x0), (2, .int x1)] [] w1_ 0 0
          refine mp_run mp_k_cX9_canPlan_ok hF mp_tabX9_ok [mp_c (.iconst 1) 1, mp_h (.goto 4) [44]] (by decide +kernel) ?_
          show mp_W E X 3 44 [(0, .ref a0), (1, .int x0), (2, .int x1)] [.int 1] w1_ 0 0
          exact mp_iret hF hQ rfl (by decide) (Nat.le_of_ble_eq_true rfl) (Nat.le_of_ble_eq_true rfl) [0, 1, 2] (w' := w1_) rfl rfl (Or.inr ⟨rfl, (by first | (first | exact c_5 | omega) | decide), (by first | (first | exact c_6 | omega) | decide), (by first | (first | exact c_10 | omega) | decide), (by first | (first | exact c_11 | omega) | decide), (by first | (first | exact mp_o526 e_14 c_15 | omega) | decide), rfl⟩) (by first | exact mp_fd_ok mp_k_cX9_canPlan_ok (by decide +kernel) | decide +kernel)
set_option maxHeartbeats 4000000 in
set_option maxRecDepth 100000 in
theorem bX2_leg_102 (E : mp_E) (x0 : Int32) (x1 : Int32) (x2 : Int32) (l_x0 : 0 ≤ x0.toInt) (u_x0 : x0.toInt ≤ 11) (l_x1 : 0 ≤ x1.toInt) (u_x1 : x1.toInt ≤ 5) (l_x2 : 0 ≤ x2.toInt) (u_x2 : x2.toInt ≤ 5) : mp_Ct E yX2_leg cX2_leg 3 (some FieldType.int) 0 0 0 0 [.int x0, .int x1, .int x2] [] (fun v w' => ∃ r1 : Int32, v = some (.int r1) ∧ 0 ≤ r1.toInt ∧ r1.toInt ≤ 431 ∧ w' = []) := by
  refine mp_met false (by decide) (by decide) (Nat.le_of_ble_eq_true rfl) (fun X hF hQ => ?_)
  have hF : mp_F E X (RX2, cX2_leg, 3, (0, 0, 0, 0), (some FieldType.int), false) := hF
  show mp_W E X 3 0 [(0, .int x0), (1, .int x1), (2, .int x2)] [] [] 0 0
  refine mp_run mp_k_cX2_leg_ok hF mp_tabX2_ok [mp_i (.iload_n 0), mp_c (.bipush 36) 36, mp_i .imul, mp_i (.iload_n 1), mp_c (.bipush 6) 6, mp_i .imul, mp_i .iadd, mp_i (.iload_n 2), mp_i .iadd] (by decide +kernel) ?_
  intro z_1 h_2
  have e_3 : z_1.toInt = x0.toInt * 36 := mp_mul (a := x0.toInt) (b := 36) h_2 rfl (by decide) (by (first | exact mp_o527 l_x0 | omega)) (by (first | exact mp_o528 u_x0 | omega))
  intro z_4 h_5
  have e_6 : z_4.toInt = x1.toInt * 6 := mp_mul (a := x1.toInt) (b := 6) h_5 rfl (by decide) (by (first | exact mp_o249 l_x1 | omega)) (by (first | exact mp_o250 u_x1 | omega))
  intro z_7 h_8
  have e_9 : z_7.toInt = z_1.toInt + z_4.toInt := mp_add (a := z_1.toInt) (b := z_4.toInt) h_8 rfl rfl (by (first | exact mp_o529 l_x0 e_3 l_x1 e_6 | omega)) (by (first | exact mp_o530 u_x0 e_3 u_x1 e_6 | omega))
  intro z_10 h_11
  have e_12 : z_10.toInt = z_7.toInt + x2.toInt := mp_add (a := z_7.toInt) (b := x2.toInt) h_11 rfl rfl (by (first | exact mp_o531 l_x2 l_x0 l_x1 e_3 e_6 e_9 | omega)) (by (first | exact mp_o532 u_x2 u_x0 e_3 u_x1 e_6 e_9 | omega))
  show mp_W E X 3 11 [(0, .int x0), (1, .int x1), (2, .int x2)] [.int z_10] [] 0 0
  exact mp_iret hF hQ rfl rfl (Nat.le_of_ble_eq_true rfl) (Nat.le_of_ble_eq_true rfl) [] (w' := []) rfl rfl ⟨z_10, rfl, (by (first | exact mp_o533 l_x0 l_x1 l_x2 e_3 e_6 e_9 e_12 | omega)), (by (first | exact mp_o534 u_x0 e_3 u_x1 e_6 e_9 u_x2 e_12 | omega)), rfl⟩ (by first | exact mp_fd_ok mp_k_cX2_leg_ok (by decide +kernel) | decide +kernel)
set_option maxHeartbeats 4000000 in
set_option maxRecDepth 100000 in
theorem bX2_layLegs_103 (E : mp_E) (a0 a1 a2 a3 a4 a5 a6 a7 a8 a9 a10 a11 a12 a13 a14 a15 a16 a17 a18 a19 a20 a21 a22 a23 a24 a25 : Nat) (f0 : Nat → Int32) (f1 : Nat → Int32) (f2 : Nat → Int64) (f3 : Nat → Int32) (f4 : Nat → Int32) (y0 : Int32) (y1 : Int32) (y2 : Int32) (y3 : Int32) (y4 : Int32) (y5 : Int32) (y6 : Int32) (y7 : Int32) (y8 : Int32) (y9 : Int32) (y10 : Int32) (y11 : Int32) (y12 : Int32) (x0 : Int32) (x1 : Int32) (p0 : mp_all f1 36 0 20) (p1 : mp_all f4 6 0 5) (l_x0 : 0 ≤ x0.toInt) (u_x0 : x0.toInt ≤ 5) (l_x1 : 0 ≤ x1.toInt) (u_x1 : x1.toInt ≤ 12) (l_y0 : 0 ≤ y0.toInt) (u_y0 : y0.toInt ≤ 6) (l_y1 : 0 ≤ y1.toInt) (u_y1 : y1.toInt ≤ 12) (l_y2 : 0 ≤ y2.toInt) (u_y2 : y2.toInt ≤ 5) (l_y6 : 0 ≤ y6.toInt) (u_y6 : y6.toInt ≤ 99) (l_y8 : 0 ≤ y8.toInt) (u_y8 : y8.toInt ≤ 6) (l_y9 : 0 ≤ y9.toInt) (u_y9 : y9.toInt ≤ 99) (l_y10 : 0 ≤ y10.toInt) (u_y10 : y10.toInt ≤ 6) (l_y11 : 0 ≤ y11.toInt) (u_y11 : y11.toInt ≤ 10) (l_y12 : 0 ≤ y12.toInt) (u_y12 : y12.toInt ≤ 60) (q0 : y6.toInt + x1.toInt ≤ 99) : mp_Ct E yX2_layLegs cX2_layLegs 7 none 2 0 0 47 [.ref a0, .ref a1, .int x0, .int x1] [(mp_ob2 a0 y0 y1 y2 y3 a2 a8 a9 a10 a11 y4 y5), (mp_arI E a2 0 432 f0), (mp_ob0 a1 a3 y6 a7 a12 a13 a14 a15 a16), (mp_ob7 a3 y7 y8 y9 y10 y11 y12 a4 a5 a17 a6 a18 a19 a20 a21 a22 a23 a24 a25), (mp_arI E a4 0 36 f1), (mp_arL E a5 12 f2), (mp_arI E a6 0 6 f3), (mp_arI E a7 0 6 f4)] (fun v w' => ∃ r1 : Int32, ∃ h2 : Nat → Int32, v = none ∧ 0 ≤ r1.toInt ∧ r1.toInt ≤ 5 ∧ w' = [(mp_ob2 a0 y8 x1 r1 y3 a2 a8 a9 a10 a11 y4 y5), (mp_arI E a2 0 432 h2), (mp_ob0 a1 a3 y6 a7 a12 a13 a14 a15 a16), (mp_ob7 a3 y7 y8 y9 y10 y11 y12 a4 a5 a17 a6 a18 a19 a20 a21 a22 a23 a24 a25), (mp_arI E a4 0 36 f1), (mp_arL E a5 12 f2), (mp_arI E a6 0 6 f3), (mp_arI E a7 0 6 f4)]) := by
  refine mp_met false (by decide) (by decide) (Nat.le_of_ble_eq_true rfl) (fun X hF hQ => ?_)
  have hF : mp_F E X (RX2, cX2_layLegs, 7, (2, 0, 0, 47), none, false) := hF
  let w1_ : va_W := [(mp_ob2 a0 y0 y1 y2 y3 a2 a8 a9 a10 a11 y4 y5), (mp_arI E a2 0 432 f0), (mp_ob0 a1 a3 y6 a7 a12 a13 a14 a15 a16), (mp_ob7 a3 y7 y8 y9 y10 y11 y12 a4 a5 a17 a6 a18 a19 a20 a21 a22 a23 a24 a25), (mp_arI E a4 0 36 f1), (mp_arL E a5 12 f2), (mp_arI E a6 0 6 f3), (mp_arI E a7 0 6 f4)]
  show mp_W E X 7 0 [(0, .ref a0), (1, .ref a1), (2, .int x0), (3, .int x1)] [] w1_ 0 0
  refine mp_run mp_k_cX2_layLegs_ok hF mp_tabX2_ok [mp_i (.aload_n 0), mp_i (.aload_n 1), mp_h (.getfield 39) [4, 2], mp_h (.getfield 45) [0, 3], mp_h (.putfield 51) [7, 0]] (by decide +kernel) ?_
  refine And.intro rfl (And.intro rfl ?_)
  refine And.intro rfl (And.intro rfl ?_)
  refine And.intro rfl (And.intro rfl (And.intro rfl (And.intro rfl (And.intro (Nat.le_of_ble_eq_true rfl) ?_))))
  let w2_ : va_W := [(mp_ob2 a0 y8 y1 y2 y3 a2 a8 a9 a10 a11 y4 y5), (mp_arI E a2 0 432 f0), (mp_ob0 a1 a3 y6 a7 a12 a13 a14 a15 a16), (mp_ob7 a3 y7 y8 y9 y10 y11 y12 a4 a5 a17 a6 a18 a19 a20 a21 a22 a23 a24 a25), (mp_arI E a4 0 36 f1), (mp_arL E a5 12 f2), (mp_arI E a6 0 6 f3), (mp_arI E a7 0 6 f4)]
  show mp_W E X 7 11 [(0, .ref a0), (1, .ref a1), (2, .int x0), (3, .int x1)] [] w2_ 0 0
  refine mp_run mp_k_cX2_layLegs_ok hF mp_tabX2_ok [mp_i (.aload_n 0), mp_i (.iload_n 3), mp_h (.putfield 52) [8, 0]] (by decide +kernel) ?_
  refine And.intro rfl (And.intro rfl (And.intro rfl (And.intro rfl (And.intro (Nat.le_of_ble_eq_true rfl) ?_))))
  let w3_ : va_W := [(mp_ob2 a0 y8 x1 y2 y3 a2 a8 a9 a10 a11 y4 y5), (mp_arI E a2 0 432 f0), (mp_ob0 a1 a3 y6 a7 a12 a13 a14 a15 a16), (mp_ob7 a3 y7 y8 y9 y10 y11 y12 a4 a5 a17 a6 a18 a19 a20 a21 a22 a23 a24 a25), (mp_arI E a4 0 36 f1), (mp_arL E a5 12 f2), (mp_arI E a6 0 6 f3), (mp_arI E a7 0 6 f4)]
  show mp_W E X 7 16 [(0, .ref a0), (1, .ref a1), (2, .int x0), (3, .int x1)] [] w3_ 0 0
  refine mp_run mp_k_cX2_layLegs_ok hF mp_tabX2_ok [mp_i (.aload_n 0), mp_i (.aload_n 1), mp_h (.getfield 55) [6, 2], mp_i (.iload_n 2), mp_h .iaload [7], mp_h (.putfield 58) [9, 0]] (by decide +kernel) ?_
  refine And.intro rfl (And.intro rfl ?_)
  refine And.intro rfl (And.intro rfl (And.intro (vp_in_iff.mpr (by (first | exact mp_o230 l_x0 u_x0 | omega))) ?_))
  intro z_1 h_2
  have e_3 : 0 ≤ z_1.toInt ∧ z_1.toInt ≤ 5 := mp_all_ld h_2 p1 (by (first | exact l_x0 | omega)) (by (first | exact mp_o475 u_x0 | omega))
  refine And.intro rfl (And.intro rfl (And.intro rfl (And.intro rfl (And.intro (Nat.le_of_ble_eq_true rfl) ?_))))
  let w4_ : va_W := [(mp_ob2 a0 y8 x1 z_1 y3 a2 a8 a9 a10 a11 y4 y5), (mp_arI E a2 0 432 f0), (mp_ob0 a1 a3 y6 a7 a12 a13 a14 a15 a16), (mp_ob7 a3 y7 y8 y9 y10 y11 y12 a4 a5 a17 a6 a18 a19 a20 a21 a22 a23 a24 a25), (mp_arI E a4 0 36 f1), (mp_arL E a5 12 f2), (mp_arI E a6 0 6 f3), (mp_arI E a7 0 6 f4)]
  show mp_W E X 7 26 [(0, .ref a0), (1, .ref a1), (2, .int x0), (3, .int x1)] [] w4_ 0 0
  refine mp_run mp_k_cX2_layLegs_ok hF mp_tabX2_ok [mp_c (.iconst 0) 0, mp_i (.istore 4)] (by decide +kernel) ?_
  show mp_W E X 7 29 [(4, .int 0), (0, .ref a0), (1, .ref a1), (2, .int x0), (3, .int x1)] [] w4_ 0 0
  have lp_8 : ∀ (d_9 : Nat) (i_4 : Int32) (g_5 : Nat → Int32), 0 ≤ i_4.toInt → i_4.toInt ≤ 12 → x1.toInt - i_4.toInt ≤ (d_9 : Int) → mp_W E X 7 29 [(4, .int i_4), (0, .ref a0), (1, .ref a1), (2, .int x0), (3, .int x1)] [] [(mp_ob2 a0 y8 x1 z_1 y3 a2 a8 a9 a10 a11 y4 y5), (mp_arI E a2 0 432 g_5), (mp_ob0 a1 a3 y6 a7 a12 a13 a14 a15 a16), (mp_ob7 a3 y7 y8 y9 y10 y11 y12 a4 a5 a17 a6 a18 a19 a20 a21 a22 a23 a24 a25), (mp_arI E a4 0 36 f1), (mp_arL E a5 12 f2), (mp_arI E a6 0 6 f3), (mp_arI E a7 0 6 f4)] 0 0 := by
    intro d_9
    induction d_9 using Nat.strongRecOn with
    | ind d_9 ih_10 =>
      intro i_4 g_5 l_6 u_7 hm_11
      refine mp_run mp_k_cX2_layLegs_ok hF mp_tabX2_ok [mp_i (.iload 4), mp_i (.iload_n 3), mp_h (.if_icmp .ge 80) [112]] (by decide +kernel) ?_
      refine And.intro (fun c_12 => ?_) (fun c_12 => ?_)
      · have c_12 : x1.toInt ≤ i_4.toInt := c_12
        let w5_ : va_W := [(mp_ob2 a0 y8 x1 z_1 y3 a2 a8 a9 a10 a11 y4 y5), (mp_arI E a2 0 432 g_5), (mp_ob0 a1 a3 y6 a7 a12 a13 a14 a15 a16), (mp_ob7 a3 y7 y8 y9 y10 y11 y12 a4 a5 a17 a6 a18 a19 a20 a21 a22 a23 a24 a25), (mp_arI E a4 0 36 f1), (mp_arL E a5 12 f2), (mp_arI E a6 0 6 f3), (mp_arI E a7 0 6 f4)]
        show mp_W E X 7 112 [(4, .int i_4), (0, .ref a0), (1, .ref a1), (2, .int x0), (3, .int x1)] [] w5_ 0 0
        exact mp_vret hF hQ rfl (Nat.le_of_ble_eq_true rfl) (Nat.le_of_ble_eq_true rfl) [0, 1, 2, 3, 4, 5, 6, 7] (w' := w5_) rfl rfl ⟨z_1, g_5, rfl, e_3.1, e_3.2, rfl⟩ (by first | exact mp_fd_ok mp_k_cX2_layLegs_ok (by decide +kernel) | decide +kernel)
      · have c_12 : i_4.toInt < x1.toInt := c_12
        let w6_ : va_W := [(mp_ob2 a0 y8 x1 z_1 y3 a2 a8 a9 a10 a11 y4 y5), (mp_arI E a2 0 432 g_5), (mp_ob0 a1 a3 y6 a7 a12 a13 a14 a15 a16), (mp_ob7 a3 y7 y8 y9 y10 y11 y12 a4 a5 a17 a6 a18 a19 a20 a21 a22 a23 a24 a25), (mp_arI E a4 0 36 f1), (mp_arL E a5 12 f2), (mp_arI E a6 0 6 f3), (mp_arI E a7 0 6 f4)]
        show mp_W E X 7 35 [(4, .int i_4), (0, .ref a0), (1, .ref a1), (2, .int x0), (3, .int x1)] [] w6_ 0 0
        refine mp_run mp_k_cX2_layLegs_ok hF mp_tabX2_ok [mp_c (.iconst 0) 0, mp_i (.istore 5)] (by decide +kernel) ?_
        show mp_W E X 7 38 [(5, .int 0), (4, .int i_4), (0, .ref a0), (1, .ref a1), (2, .int x0), (3, .int x1)] [] w6_ 0 0
        have lp_17 : ∀ (d_18 : Nat) (i_13 : Int32) (g_14 : Nat → Int32), 0 ≤ i_13.toInt → i_13.toInt ≤ 6 → y8.toInt - i_13.toInt ≤ (d_18 : Int) → mp_W E X 7 38 [(5, .int i_13), (4, .int i_4), (0, .ref a0), (1, .ref a1), (2, .int x0), (3, .int x1)] [] [(mp_ob2 a0 y8 x1 z_1 y3 a2 a8 a9 a10 a11 y4 y5), (mp_arI E a2 0 432 g_14), (mp_ob0 a1 a3 y6 a7 a12 a13 a14 a15 a16), (mp_ob7 a3 y7 y8 y9 y10 y11 y12 a4 a5 a17 a6 a18 a19 a20 a21 a22 a23 a24 a25), (mp_arI E a4 0 36 f1), (mp_arL E a5 12 f2), (mp_arI E a6 0 6 f3), (mp_arI E a7 0 6 f4)] 0 0 := by
          intro d_18
          induction d_18 using Nat.strongRecOn with
          | ind d_18 ih_19 =>
            intro i_13 g_14 l_15 u_16 hm_20
            refine mp_run mp_k_cX2_layLegs_ok hF mp_tabX2_ok [mp_i (.iload 5), mp_i (.aload_n 0), mp_h (.getfield 51) [7, 0], mp_h (.if_icmp .ge 62) [106]] (by decide +kernel) ?_
            refine And.intro rfl (And.intro rfl ?_)
            refine And.intro (fun c_21 => ?_) (fun c_21 => ?_)
            · have c_21 : y8.toInt ≤ i_13.toInt := c_21
              let w7_ : va_W := [(mp_ob2 a0 y8 x1 z_1 y3 a2 a8 a9 a10 a11 y4 y5), (mp_arI E a2 0 432 g_14), (mp_ob0 a1 a3 y6 a7 a12 a13 a14 a15 a16), (mp_ob7 a3 y7 y8 y9 y10 y11 y12 a4 a5 a17 a6 a18 a19 a20 a21 a22 a23 a24 a25), (mp_arI E a4 0 36 f1), (mp_arL E a5 12 f2), (mp_arI E a6 0 6 f3), (mp_arI E a7 0 6 f4)]
              show mp_W E X 7 106 [(5, .int i_13), (4, .int i_4), (0, .ref a0), (1, .ref a1), (2, .int x0), (3, .int x1)] [] w7_ 0 0
              refine mp_run mp_k_cX2_layLegs_ok hF mp_tabX2_ok [mp_c (.iinc 4 1) 1, mp_h (.goto (-80)) [29]] (by decide +kernel) ?_
              intro z_22 h_23
              have e_24 : z_22.toInt = i_4.toInt + 1 := mp_add (a := i_4.toInt) (b := 1) h_23 rfl (by decide) (by (first | exact mp_o2 l_6 | omega)) (by (first | exact mp_o535 u_7 | omega))
              show mp_W E X 7 29 [(4, .int z_22), (5, .int i_13), (0, .ref a0), (1, .ref a1), (2, .int x0), (3, .int x1)] [] w7_ 0 0
              exact mp_sub [0, 2, 3, 4, 5] rfl [0, 1, 2, 3, 4, 5, 6, 7] rfl rfl (ih_10 (d_9 - 1) (by (first | exact mp_o72 hm_11 c_12 | omega)) z_22 g_14 (by (first | exact mp_o51 l_6 e_24 | omega)) (by (first | exact mp_o536 u_x1 c_12 e_24 | omega)) (by (first | exact mp_o77 hm_11 e_24 | omega)))
            · have c_21 : i_13.toInt < y8.toInt := c_21
              let w8_ : va_W := [(mp_ob2 a0 y8 x1 z_1 y3 a2 a8 a9 a10 a11 y4 y5), (mp_arI E a2 0 432 g_14), (mp_ob0 a1 a3 y6 a7 a12 a13 a14 a15 a16), (mp_ob7 a3 y7 y8 y9 y10 y11 y12 a4 a5 a17 a6 a18 a19 a20 a21 a22 a23 a24 a25), (mp_arI E a4 0 36 f1), (mp_arL E a5 12 f2), (mp_arI E a6 0 6 f3), (mp_arI E a7 0 6 f4)]
              show mp_W E X 7 47 [(5, .int i_13), (4, .int i_4), (0, .ref a0), (1, .ref a1), (2, .int x0), (3, .int x1)] [] w8_ 0 0
              refine mp_run mp_k_cX2_layLegs_ok hF mp_tabX2_ok [mp_c (.iconst 0) 0, mp_i (.istore 6)] (by decide +kernel) ?_
              show mp_W E X 7 50 [(6, .int 0), (5, .int i_13), (4, .int i_4), (0, .ref a0), (1, .ref a1), (2, .int x0), (3, .int x1)] [] w8_ 0 0
              have lp_29 : ∀ (d_30 : Nat) (i_25 : Int32) (g_26 : Nat → Int32), 0 ≤ i_25.toInt → i_25.toInt ≤ 6 → y8.toInt - i_25.toInt ≤ (d_30 : Int) → mp_W E X 7 50 [(6, .int i_25), (5, .int i_13), (4, .int i_4), (0, .ref a0), (1, .ref a1), (2, .int x0), (3, .int x1)] [] [(mp_ob2 a0 y8 x1 z_1 y3 a2 a8 a9 a10 a11 y4 y5), (mp_arI E a2 0 432 g_26), (mp_ob0 a1 a3 y6 a7 a12 a13 a14 a15 a16), (mp_ob7 a3 y7 y8 y9 y10 y11 y12 a4 a5 a17 a6 a18 a19 a20 a21 a22 a23 a24 a25), (mp_arI E a4 0 36 f1), (mp_arL E a5 12 f2), (mp_arI E a6 0 6 f3), (mp_arI E a7 0 6 f4)] 0 0 := by
                intro d_30
                induction d_30 using Nat.strongRecOn with
                | ind d_30 ih_31 =>
                  intro i_25 g_26 l_27 u_28 hm_32
                  refine mp_run mp_k_cX2_layLegs_ok hF mp_tabX2_ok [mp_i (.iload 6), mp_i (.aload_n 0), mp_h (.getfield 51) [7, 0], mp_h (.if_icmp .ge 44) [100]] (by decide +kernel) ?_
                  refine And.intro rfl (And.intro rfl ?_)
                  refine And.intro (fun c_33 => ?_) (fun c_33 => ?_)
                  · have c_33 : y8.toInt ≤ i_25.toInt := c_33
                    let w9_ : va_W := [(mp_ob2 a0 y8 x1 z_1 y3 a2 a8 a9 a10 a11 y4 y5), (mp_arI E a2 0 432 g_26), (mp_ob0 a1 a3 y6 a7 a12 a13 a14 a15 a16), (mp_ob7 a3 y7 y8 y9 y10 y11 y12 a4 a5 a17 a6 a18 a19 a20 a21 a22 a23 a24 a25), (mp_arI E a4 0 36 f1), (mp_arL E a5 12 f2), (mp_arI E a6 0 6 f3), (mp_arI E a7 0 6 f4)]
                    show mp_W E X 7 100 [(6, .int i_25), (5, .int i_13), (4, .int i_4), (0, .ref a0), (1, .ref a1), (2, .int x0), (3, .int x1)] [] w9_ 0 0
                    refine mp_run mp_k_cX2_layLegs_ok hF mp_tabX2_ok [mp_c (.iinc 5 1) 1, mp_h (.goto (-65)) [38]] (by decide +kernel) ?_
                    intro z_34 h_35
                    have e_36 : z_34.toInt = i_13.toInt + 1 := mp_add (a := i_13.toInt) (b := 1) h_35 rfl (by decide) (by (first | exact mp_o2 l_15 | omega)) (by (first | exact mp_o351 u_16 | omega))
                    show mp_W E X 7 38 [(5, .int z_34), (6, .int i_25), (4, .int i_4), (0, .ref a0), (1, .ref a1), (2, .int x0), (3, .int x1)] [] w9_ 0 0
                    exact mp_sub [0, 2, 3, 4, 5, 6] rfl [0, 1, 2, 3, 4, 5, 6, 7] rfl rfl (ih_19 (d_18 - 1) (by (first | exact mp_o72 hm_20 c_21 | omega)) z_34 g_26 (by (first | exact mp_o51 l_15 e_36 | omega)) (by (first | exact mp_o537 u_28 c_33 c_21 e_36 | omega)) (by (first | exact mp_o77 hm_20 e_36 | omega)))
                  · have c_33 : i_25.toInt < y8.toInt := c_33
                    let w10_ : va_W := [(mp_ob2 a0 y8 x1 z_1 y3 a2 a8 a9 a10 a11 y4 y5), (mp_arI E a2 0 432 g_26), (mp_ob0 a1 a3 y6 a7 a12 a13 a14 a15 a16), (mp_ob7 a3 y7 y8 y9 y10 y11 y12 a4 a5 a17 a6 a18 a19 a20 a21 a22 a23 a24 a25), (mp_arI E a4 0 36 f1), (mp_arL E a5 12 f2), (mp_arI E a6 0 6 f3), (mp_arI E a7 0 6 f4)]
                    show mp_W E X 7 59 [(6, .int i_25), (5, .int i_13), (4, .int i_4), (0, .ref a0), (1, .ref a1), (2, .int x0), (3, .int x1)] [] w10_ 0 0
                    refine mp_run mp_k_cX2_layLegs_ok hF mp_tabX2_ok [mp_i (.aload_n 0), mp_h (.getfield 11) [11, 0], mp_i (.iload 4), mp_i (.iload 5), mp_i (.iload 6)] (by decide +kernel) ?_
                    refine And.intro rfl (And.intro rfl ?_)
                    show mp_W E X 7 69 [(6, .int i_25), (5, .int i_13), (4, .int i_4), (0, .ref a0), (1, .ref a1), (2, .int x0), (3, .int x1)] [.int i_25, .int i_13, .int i_4, .ref a2] w10_ 0 0
                    refine mp_callS hF (As := [.int i_4, .int i_13, .int i_25]) (rest := [.ref a2]) (wr := w10_) (bX2_leg_102 E i_4 i_13 i_25 l_6 (by (first | exact mp_o538 u_x1 c_12 | omega)) l_15 (by (first | exact mp_o398 u_y8 c_21 | omega)) l_27 (by (first | exact mp_o398 u_y8 c_33 | omega))) mp_lkX2_61 [] [0, 1, 2, 3, 4, 5, 6, 7] rfl rfl rfl rfl rfl ⟨(Nat.le_of_ble_eq_true rfl), (Nat.le_of_ble_eq_true rfl), (Nat.le_of_ble_eq_true rfl), (Nat.le_of_ble_eq_true rfl)⟩ (Nat.le_of_ble_eq_true rfl) (by first | exact mp_fd_ok mp_k_cX2_layLegs_ok (by decide +kernel) | decide +kernel) (fun v_37 w_38 h_39 => ?_)
                    obtain ⟨r_40, rfl, l_41, u_42, rfl⟩ := h_39
                    show mp_W E X 7 72 [(6, .int i_25), (5, .int i_13), (4, .int i_4), (0, .ref a0), (1, .ref a1), (2, .int x0), (3, .int x1)] [.int r_40, .ref a2] w10_ 0 0
                    refine mp_run mp_k_cX2_layLegs_ok hF mp_tabX2_ok [mp_i (.aload_n 1), mp_h (.getfield 39) [4, 2], mp_i (.iload_n 2), mp_i (.iload 5), mp_i (.iload 6), mp_i (.aload_n 1), mp_h (.getfield 65) [5, 2], mp_c (.iconst 1) 1, mp_i .iadd, mp_i (.iload 4), mp_i .iadd] (by decide +kernel) ?_
                    refine And.intro rfl (And.intro rfl ?_)
                    refine And.intro rfl (And.intro rfl ?_)
                    intro z_43 h_44
                    have e_45 : z_43.toInt = y6.toInt + 1 := mp_add (a := y6.toInt) (b := 1) h_44 rfl (by decide) (by (first | exact mp_o2 l_y6 | omega)) (by (first | exact mp_o330 u_y6 | omega))
                    intro z_46 h_47
                    have e_48 : z_46.toInt = z_43.toInt + i_4.toInt := mp_add (a := z_43.toInt) (b := i_4.toInt) h_47 rfl rfl (by (first | exact mp_o539 l_6 l_y6 e_45 | omega)) (by (first | exact mp_o540 e_45 q0 c_12 | omega))
                    show mp_W E X 7 90 [(6, .int i_25), (5, .int i_13), (4, .int i_4), (0, .ref a0), (1, .ref a1), (2, .int x0), (3, .int x1)] [.int z_46, .int i_25, .int i_13, .int x0, .ref a3, .int r_40, .ref a2] w10_ 0 0
                    refine mp_callV hF (As := [.int x0, .int i_13, .int i_25, .int z_46]) (rest := [.int r_40, .ref a2]) (wr := [(mp_ob2 a0 y8 x1 z_1 y3 a2 a8 a9 a10 a11 y4 y5), (mp_arI E a2 0 432 g_26), (mp_ob0 a1 a3 y6 a7 a12 a13 a14 a15 a16), (mp_arI E a7 0 6 f4)]) (bX7_oarsOfLeg_88 E a3 a4 a5 a6 a17 a18 a19 a20 a21 a22 a23 a24 a25 f1 f2 f3 y7 y8 y9 y10 y11 y12 x0 i_13 i_25 z_46 p0 l_x0 u_x0 l_15 (by (first | exact mp_o398 u_y8 c_21 | omega)) l_27 (by (first | exact mp_o398 u_y8 c_33 | omega)) (by (first | exact mp_o541 l_y6 l_6 e_45 e_48 | omega)) (by (first | exact mp_o542 q0 c_12 e_45 e_48 | omega)) l_y8 u_y8 l_y9 u_y9 l_y10 u_y10 l_y11 u_y11 l_y12 u_y12) mp_lkX2_68 3 rfl [3, 4, 5, 6] [0, 1, 2, 7] rfl rfl rfl rfl rfl ⟨(Nat.le_of_ble_eq_true rfl), (Nat.le_of_ble_eq_true rfl), (Nat.le_of_ble_eq_true rfl), (Nat.le_of_ble_eq_true rfl)⟩ (Nat.le_of_ble_eq_true rfl) (by first | exact mp_fd_ok mp_k_cX2_layLegs_ok (by decide +kernel) | decide +kernel) (fun v_49 w_50 h_51 => ?_)
                    refine h_51.elim fun r_52 q_56 => q_56.elim fun e_57 q_58 => q_58.elim fun l_53 q_59 => q_59.elim fun u_54 q_60 => q_60.elim fun x_55 e_61 => ?_
                    clear h_51 q_56 q_58 q_59 q_60
                    subst e_57
                    subst e_61
                    let w11_ : va_W := [(mp_ob2 a0 y8 x1 z_1 y3 a2 a8 a9 a10 a11 y4 y5), (mp_arI E a2 0 432 g_26), (mp_ob0 a1 a3 y6 a7 a12 a13 a14 a15 a16), (mp_arI E a7 0 6 f4), (mp_ob7 a3 y7 y8 y9 y10 y11 y12 a4 a5 a17 a6 a18 a19 a20 a21 a22 a23 a24 a25), (mp_arI E a4 0 36 f1), (mp_arL E a5 12 f2), (mp_arI E a6 0 6 f3)]
                    show mp_W E X 7 93 [(6, .int i_25), (5, .int i_13), (4, .int i_4), (0, .ref a0), (1, .ref a1), (2, .int x0), (3, .int x1)] [.int r_52, .int r_40, .ref a2] w11_ 0 0
                    refine mp_run mp_k_cX2_layLegs_ok hF mp_tabX2_ok [mp_h .iastore [1]] (by decide +kernel) ?_
                    refine And.intro rfl (And.intro rfl (And.intro (vp_in_iff.mpr (by (first | exact mp_o543 l_41 u_42 | omega))) ?_))
                    intro g_62 h_63
                    let w12_ : va_W := [(mp_ob2 a0 y8 x1 z_1 y3 a2 a8 a9 a10 a11 y4 y5), (mp_arI E a2 0 432 g_62), (mp_ob0 a1 a3 y6 a7 a12 a13 a14 a15 a16), (mp_arI E a7 0 6 f4), (mp_ob7 a3 y7 y8 y9 y10 y11 y12 a4 a5 a17 a6 a18 a19 a20 a21 a22 a23 a24 a25), (mp_arI E a4 0 36 f1), (mp_arL E a5 12 f2), (mp_arI E a6 0 6 f3)]
                    show mp_W E X 7 94 [(6, .int i_25), (5, .int i_13), (4, .int i_4), (0, .ref a0), (1, .ref a1), (2, .int x0), (3, .int x1)] [] w12_ 0 0
                    refine mp_run mp_k_cX2_layLegs_ok hF mp_tabX2_ok [mp_c (.iinc 6 1) 1, mp_h (.goto (-47)) [50]] (by decide +kernel) ?_
                    intro z_64 h_65
                    have e_66 : z_64.toInt = i_25.toInt + 1 := mp_add (a := i_25.toInt) (b := 1) h_65 rfl (by decide) (by (first | exact mp_o2 l_27 | omega)) (by (first | exact mp_o351 u_28 | omega))
                    show mp_W E X 7 50 [(6, .int z_64), (5, .int i_13), (4, .int i_4), (0, .ref a0), (1, .ref a1), (2, .int x0), (3, .int x1)] [] w12_ 0 0
                    exact mp_sub [0, 1, 2, 3, 4, 5, 6] rfl [0, 1, 2, 4, 5, 6, 7, 3] rfl rfl (ih_31 (d_30 - 1) (by (first | exact mp_o72 hm_32 c_33 | omega)) z_64 g_62 (by (first | exact mp_o51 l_27 e_66 | omega)) (by (first | exact mp_o352 u_y8 c_33 e_66 | omega)) (by (first | exact mp_o77 hm_32 e_66 | omega)))
              exact mp_sub [0, 1, 2, 3, 4, 5, 6] rfl [0, 1, 2, 3, 4, 5, 6, 7] rfl rfl (lp_29 _ 0 g_14 (by decide) (by decide) (Int.self_le_toNat _))
        exact mp_sub [0, 1, 2, 3, 4, 5] rfl [0, 1, 2, 3, 4, 5, 6, 7] rfl rfl (lp_17 _ 0 g_5 (by decide) (by decide) (Int.self_le_toNat _))
  exact mp_sub [0, 1, 2, 3, 4] rfl [0, 1, 2, 3, 4, 5, 6, 7] rfl rfl (lp_8 _ 0 f0 (by decide) (by decide) (Int.self_le_toNat _))
set_option maxHeartbeats 4000000 in
set_option maxRecDepth 100000 in
theorem bJ7_fill_53178_104 (E : mp_E) (a0 : Nat) (f0 : Nat → Int32) : mp_Ct E yJ7_fill_53178 cJ7_fill_53178 4 none 0 0 0 0 [.ref a0, .int 0] [(mp_arI E a0 0 72 f0)] (fun v w' => ∃ h1 : Nat → Int32, v = none ∧ (∀ j : Nat, (j : Int) < 72 → h1 j = 0) ∧ w' = [(mp_arI E a0 0 72 h1)]) := by
  refine mp_met false (by decide) (by decide) (Nat.le_of_ble_eq_true rfl) (fun X hF hQ => ?_)
  have hF : mp_F E X (RJ7, cJ7_fill_53178, 4, (0, 0, 0, 0), none, false) := hF
  show mp_W E X 4 0 [(0, .ref a0), (1, .int 0)] [] [(mp_arI E a0 0 72 f0)] 0 0
  refine mp_run mp_k_cJ7_fill_53178_ok hF mp_tab0_ok [mp_c (.iconst 0) 0, mp_i (.istore_n 2), mp_i (.aload_n 0), mp_h .arraylength [0, 0], mp_i (.istore_n 3)] (by decide +kernel) ?_
  refine And.intro rfl (And.intro rfl (And.intro (by decide) ?_))
  intro z_1 h_2
  obtain rfl : z_1 = 72 := h_2.trans (show Int32.ofNat 72 = (72 : Int32) by decide)
  show mp_W E X 4 5 [(3, .int 72), (2, .int 0), (0, .ref a0), (1, .int 0)] [] [(mp_arI E a0 0 72 f0)] 0 0
  have lp_9 : ∀ (d_10 : Nat) (i_3 : Int32) (g_4 : Nat → Int32), 0 ≤ i_3.toInt → i_3.toInt ≤ 78 → (∀ j : Nat, (j : Int) < i_3.toInt → g_4 j = 0) → (0 ≤ i_3.toInt) → -(i_3.toInt) + 72 ≤ (d_10 : Int) → mp_W E X 4 5 [(3, .int 72), (2, .int i_3), (0, .ref a0), (1, .int 0)] [] [(mp_arI E a0 0 72 g_4)] 0 0 := by
    intro d_10
    induction d_10 using Nat.strongRecOn with
    | ind d_10 ih_11 =>
      intro i_3 g_4 l_5 u_6 x_7 x_8 hm_12
      refine mp_run mp_k_cJ7_fill_53178_ok hF mp_tab0_ok [mp_i (.iload_n 2), mp_i (.iload_n 3), mp_h (.if_icmp .ge 13) [20]] (by decide +kernel) ?_
      refine And.intro (fun c_13 => ?_) (fun c_13 => ?_)
      · have c_13 : 72 ≤ i_3.toInt := c_13
        show mp_W E X 4 20 [(3, .int 72), (2, .int i_3), (0, .ref a0), (1, .int 0)] [] [(mp_arI E a0 0 72 g_4)] 0 0
        exact mp_vret hF hQ rfl (Nat.le_of_ble_eq_true rfl) (Nat.le_of_ble_eq_true rfl) [0] (w' := [(mp_arI E a0 0 72 g_4)]) rfl rfl ⟨g_4, rfl, (fun j hj => x_7 j (by (first | exact mp_o544 hj c_13 | omega))), rfl⟩ (by first | exact mp_fd_ok mp_k_cJ7_fill_53178_ok (by decide +kernel) | decide +kernel)
      · have c_13 : i_3.toInt < 72 := c_13
        show mp_W E X 4 10 [(3, .int 72), (2, .int i_3), (0, .ref a0), (1, .int 0)] [] [(mp_arI E a0 0 72 g_4)] 0 0
        refine mp_run mp_k_cJ7_fill_53178_ok hF mp_tab0_ok [mp_i (.aload_n 0), mp_i (.iload_n 2), mp_i (.iload_n 1), mp_h .iastore [0]] (by decide +kernel) ?_
        refine And.intro rfl (And.intro rfl (And.intro (vp_in_iff.mpr (by (first | exact mp_o545 l_5 c_13 | omega))) ?_))
        intro g_14 h_15
        show mp_W E X 4 14 [(3, .int 72), (2, .int i_3), (0, .ref a0), (1, .int 0)] [] [(mp_arI E a0 0 72 g_14)] 0 0
        refine mp_run mp_k_cJ7_fill_53178_ok hF mp_tab0_ok [mp_c (.iinc 2 1) 1, mp_h (.goto (-12)) [5]] (by decide +kernel) ?_
        intro z_16 h_17
        have e_18 : z_16.toInt = i_3.toInt + 1 := mp_add (a := i_3.toInt) (b := 1) h_17 rfl (by decide) (by (first | exact mp_o2 l_5 | omega)) (by (first | exact mp_o546 c_13 | omega))
        show mp_W E X 4 5 [(2, .int z_16), (3, .int 72), (0, .ref a0), (1, .int 0)] [] [(mp_arI E a0 0 72 g_14)] 0 0
        exact mp_sub [1, 0, 2, 3] rfl [0] rfl rfl (ih_11 (d_10 - 1) (by (first | exact mp_o547 hm_12 c_13 | omega)) z_16 g_14 (by (first | exact mp_o51 l_5 e_18 | omega)) (by (first | exact mp_o548 c_13 e_18 | omega)) (mp_fill_s x_7 (by rw [h_15]; exact if_pos rfl) (fun j hj => by rw [h_15]; exact if_neg hj) (by (first | exact mp_o53 l_5 e_18 | omega))) (by (first | exact mp_o51 l_5 e_18 | omega)) (by (first | exact mp_o549 hm_12 e_18 | omega)))
  exact mp_sub [0, 1, 2, 3] rfl [0] rfl rfl (lp_9 _ 0 f0 (by decide) (by decide) (fun j hj => absurd hj (by have h8 : (0 : Int32).toInt = 0 := rfl; omega)) (by decide) (Int.self_le_toNat _))
set_option maxHeartbeats 4000000 in
set_option maxRecDepth 100000 in
theorem bX2_laySpoken_105 (E : mp_E) (a0 a1 a2 a3 a4 a5 a6 a7 a8 a9 a10 a11 a12 a13 a14 a15 a16 a17 a18 a19 a20 a21 a22 a23 a24 a25 : Nat) (f0 : Nat → Int32) (f1 : Nat → Int32) (f2 : Nat → Int32) (f3 : Nat → Int32) (f4 : Nat → Int32) (y0 : Int32) (y1 : Int32) (y2 : Int32) (y3 : Int32) (y4 : Int32) (y5 : Int32) (y6 : Int32) (y7 : Int32) (y8 : Int32) (y9 : Int32) (y10 : Int32) (y11 : Int32) (y12 : Int32) (x0 : Int32) (p0 : mp_all f2 10 0 5) (p1 : mp_all f3 10 0 5) (p2 : mp_all f4 6 0 5) (l_x0 : 0 ≤ x0.toInt) (u_x0 : x0.toInt ≤ 5) (l_y0 : 0 ≤ y0.toInt) (u_y0 : y0.toInt ≤ 6) (l_y1 : 0 ≤ y1.toInt) (u_y1 : y1.toInt ≤ 12) (l_y2 : 0 ≤ y2.toInt) (u_y2 : y2.toInt ≤ 5) (l_y6 : 0 ≤ y6.toInt) (u_y6 : y6.toInt ≤ 99) (l_y8 : 0 ≤ y8.toInt) (u_y8 : y8.toInt ≤ 6) (l_y9 : 0 ≤ y9.toInt) (u_y9 : y9.toInt ≤ 99) (l_y10 : 0 ≤ y10.toInt) (u_y10 : y10.toInt ≤ 6) (l_y11 : 0 ≤ y11.toInt) (u_y11 : y11.toInt ≤ 10) (l_y12 : 0 ≤ y12.toInt) (u_y12 : y12.toInt ≤ 60) : mp_Ct E yX2_laySpoken cX2_laySpoken 6 none 2 0 0 44 [.ref a0, .ref a1, .int x0] [(mp_ob2 a0 y0 y1 y2 y3 a8 a9 a2 a10 a11 y4 y5), (mp_arI E a2 0 72 f0), (mp_ob0 a1 a3 y6 a7 a12 a13 a14 a15 a16), (mp_ob7 a3 y7 y8 y9 y10 y11 y12 a17 a18 a19 a4 a20 a5 a6 a21 a22 a23 a24 a25), (mp_arI E a4 0 6 f1), (mp_arI E a5 0 10 f2), (mp_arI E a6 0 10 f3), (mp_arI E a7 0 6 f4)] (fun v w' => ∃ h1 : Nat → Int32, v = none ∧ w' = [(mp_ob2 a0 y0 y1 y2 y3 a8 a9 a2 a10 a11 y4 y5), (mp_arI E a2 0 72 h1), (mp_ob0 a1 a3 y6 a7 a12 a13 a14 a15 a16), (mp_ob7 a3 y7 y8 y9 y10 y11 y12 a17 a18 a19 a4 a20 a5 a6 a21 a22 a23 a24 a25), (mp_arI E a4 0 6 f1), (mp_arI E a5 0 10 f2), (mp_arI E a6 0 10 f3), (mp_arI E a7 0 6 f4)]) := by
  refine mp_met false (by decide) (by decide) (Nat.le_of_ble_eq_true rfl) (fun X hF hQ => ?_)
  have hF : mp_F E X (RX2, cX2_laySpoken, 6, (2, 0, 0, 44), none, false) := hF
  let w1_ : va_W := [(mp_ob2 a0 y0 y1 y2 y3 a8 a9 a2 a10 a11 y4 y5), (mp_arI E a2 0 72 f0), (mp_ob0 a1 a3 y6 a7 a12 a13 a14 a15 a16), (mp_ob7 a3 y7 y8 y9 y10 y11 y12 a17 a18 a19 a4 a20 a5 a6 a21 a22 a23 a24 a25), (mp_arI E a4 0 6 f1), (mp_arI E a5 0 10 f2), (mp_arI E a6 0 10 f3), (mp_arI E a7 0 6 f4)]
  show mp_W E X 6 0 [(0, .ref a0), (1, .ref a1), (2, .int x0)] [] w1_ 0 0
  refine mp_run mp_k_cX2_laySpoken_ok hF mp_tabX2_ok [mp_i (.aload_n 1), mp_h (.getfield 39) [4, 2], mp_i (.astore_n 3), mp_i (.aload_n 0), mp_h (.getfield 18) [13, 0], mp_c (.iconst 0) 0] (by decide +kernel) ?_
  refine And.intro rfl (And.intro rfl ?_)
  refine And.intro rfl (And.intro rfl ?_)
  show mp_W E X 6 10 [(3, .ref a3), (0, .ref a0), (1, .ref a1), (2, .int x0)] [.int 0, .ref a2] w1_ 0 0
  refine mp_callS hF (As := [.ref a2, .int 0]) (rest := []) (wr := [(mp_ob2 a0 y0 y1 y2 y3 a8 a9 a2 a10 a11 y4 y5), (mp_ob0 a1 a3 y6 a7 a12 a13 a14 a15 a16), (mp_ob7 a3 y7 y8 y9 y10 y11 y12 a17 a18 a19 a4 a20 a5 a6 a21 a22 a23 a24 a25), (mp_arI E a4 0 6 f1), (mp_arI E a5 0 10 f2), (mp_arI E a6 0 10 f3), (mp_arI E a7 0 6 f4)]) (bJ7_fill_53178_104 E a2 f0) mp_lkX2_72 [1] [0, 2, 3, 4, 5, 6, 7] rfl rfl rfl rfl rfl ⟨(Nat.le_of_ble_eq_true rfl), (Nat.le_of_ble_eq_true rfl), (Nat.le_of_ble_eq_true rfl), (Nat.le_of_ble_eq_true rfl)⟩ (Nat.le_of_ble_eq_true rfl) (by first | exact mp_fd_ok mp_k_cX2_laySpoken_ok (by decide +kernel) | decide +kernel) (fun v_1 w_2 h_3 => ?_)
  obtain ⟨g_4, rfl, x_5, rfl⟩ := h_3
  let w2_ : va_W := [(mp_ob2 a0 y0 y1 y2 y3 a8 a9 a2 a10 a11 y4 y5), (mp_ob0 a1 a3 y6 a7 a12 a13 a14 a15 a16), (mp_ob7 a3 y7 y8 y9 y10 y11 y12 a17 a18 a19 a4 a20 a5 a6 a21 a22 a23 a24 a25), (mp_arI E a4 0 6 f1), (mp_arI E a5 0 10 f2), (mp_arI E a6 0 10 f3), (mp_arI E a7 0 6 f4), (mp_arI E a2 0 72 g_4)]
  show mp_W E X 6 13 [(3, .ref a3), (0, .ref a0), (1, .ref a1), (2, .int x0)] [] w2_ 0 0
  refine mp_run mp_k_cX2_laySpoken_ok hF mp_tabX2_ok [mp_c (.iconst 0) 0, mp_i (.istore 4)] (by decide +kernel) ?_
  show mp_W E X 6 16 [(4, .int 0), (3, .ref a3), (0, .ref a0), (1, .ref a1), (2, .int x0)] [] w2_ 0 0
  have lp_10 : ∀ (d_11 : Nat) (i_6 : Int32) (g_7 : Nat → Int32), 0 ≤ i_6.toInt → i_6.toInt ≤ 10 → y11.toInt - i_6.toInt ≤ (d_11 : Int) → mp_W E X 6 16 [(4, .int i_6), (3, .ref a3), (0, .ref a0), (1, .ref a1), (2, .int x0)] [] [(mp_ob2 a0 y0 y1 y2 y3 a8 a9 a2 a10 a11 y4 y5), (mp_ob0 a1 a3 y6 a7 a12 a13 a14 a15 a16), (mp_ob7 a3 y7 y8 y9 y10 y11 y12 a17 a18 a19 a4 a20 a5 a6 a21 a22 a23 a24 a25), (mp_arI E a4 0 6 f1), (mp_arI E a5 0 10 f2), (mp_arI E a6 0 10 f3), (mp_arI E a7 0 6 f4), (mp_arI E a2 0 72 g_7)] 0 0 := by
    intro d_11
    induction d_11 using Nat.strongRecOn with
    | ind d_11 ih_12 =>
      intro i_6 g_7 l_8 u_9 hm_13
      refine mp_run mp_k_cX2_laySpoken_ok hF mp_tabX2_ok [mp_i (.iload 4), mp_i (.aload_n 3), mp_h (.getfield 78) [1, 2], mp_h (.if_icmp .ge 86) [108]] (by decide +kernel) ?_
      refine And.intro rfl (And.intro rfl ?_)
      refine And.intro (fun c_14 => ?_) (fun c_14 => ?_)
      · have c_14 : y11.toInt ≤ i_6.toInt := c_14
        let w3_ : va_W := [(mp_ob2 a0 y0 y1 y2 y3 a8 a9 a2 a10 a11 y4 y5), (mp_ob0 a1 a3 y6 a7 a12 a13 a14 a15 a16), (mp_ob7 a3 y7 y8 y9 y10 y11 y12 a17 a18 a19 a4 a20 a5 a6 a21 a22 a23 a24 a25), (mp_arI E a4 0 6 f1), (mp_arI E a5 0 10 f2), (mp_arI E a6 0 10 f3), (mp_arI E a7 0 6 f4), (mp_arI E a2 0 72 g_7)]
        show mp_W E X 6 108 [(4, .int i_6), (3, .ref a3), (0, .ref a0), (1, .ref a1), (2, .int x0)] [] w3_ 0 0
        exact mp_vret hF hQ rfl (Nat.le_of_ble_eq_true rfl) (Nat.le_of_ble_eq_true rfl) [0, 7, 1, 2, 3, 4, 5, 6] (w' := [(mp_ob2 a0 y0 y1 y2 y3 a8 a9 a2 a10 a11 y4 y5), (mp_arI E a2 0 72 g_7), (mp_ob0 a1 a3 y6 a7 a12 a13 a14 a15 a16), (mp_ob7 a3 y7 y8 y9 y10 y11 y12 a17 a18 a19 a4 a20 a5 a6 a21 a22 a23 a24 a25), (mp_arI E a4 0 6 f1), (mp_arI E a5 0 10 f2), (mp_arI E a6 0 10 f3), (mp_arI E a7 0 6 f4)]) rfl rfl ⟨g_7, rfl, rfl⟩ (by first | exact mp_fd_ok mp_k_cX2_laySpoken_ok (by decide +kernel) | decide +kernel)
      · have c_14 : i_6.toInt < y11.toInt := c_14
        let w4_ : va_W := [(mp_ob2 a0 y0 y1 y2 y3 a8 a9 a2 a10 a11 y4 y5), (mp_ob0 a1 a3 y6 a7 a12 a13 a14 a15 a16), (mp_ob7 a3 y7 y8 y9 y10 y11 y12 a17 a18 a19 a4 a20 a5 a6 a21 a22 a23 a24 a25), (mp_arI E a4 0 6 f1), (mp_arI E a5 0 10 f2), (mp_arI E a6 0 10 f3), (mp_arI E a7 0 6 f4), (mp_arI E a2 0 72 g_7)]
        show mp_W E X 6 25 [(4, .int i_6), (3, .ref a3), (0, .ref a0), (1, .ref a1), (2, .int x0)] [] w4_ 0 0
        refine mp_run mp_k_cX2_laySpoken_ok hF mp_tabX2_ok [mp_c (.iconst 0) 0, mp_i (.istore 5)] (by decide +kernel) ?_
        show mp_W E X 6 28 [(5, .int 0), (4, .int i_6), (3, .ref a3), (0, .ref a0), (1, .ref a1), (2, .int x0)] [] w4_ 0 0
        have lp_19 : ∀ (d_20 : Nat) (i_15 : Int32) (g_16 : Nat → Int32), 0 ≤ i_15.toInt → i_15.toInt ≤ 12 → y1.toInt - i_15.toInt ≤ (d_20 : Int) → mp_W E X 6 28 [(5, .int i_15), (4, .int i_6), (3, .ref a3), (0, .ref a0), (1, .ref a1), (2, .int x0)] [] [(mp_ob2 a0 y0 y1 y2 y3 a8 a9 a2 a10 a11 y4 y5), (mp_ob0 a1 a3 y6 a7 a12 a13 a14 a15 a16), (mp_ob7 a3 y7 y8 y9 y10 y11 y12 a17 a18 a19 a4 a20 a5 a6 a21 a22 a23 a24 a25), (mp_arI E a4 0 6 f1), (mp_arI E a5 0 10 f2), (mp_arI E a6 0 10 f3), (mp_arI E a7 0 6 f4), (mp_arI E a2 0 72 g_16)] 0 0 := by
          intro d_20
          induction d_20 using Nat.strongRecOn with
          | ind d_20 ih_21 =>
            intro i_15 g_16 l_17 u_18 hm_22
            refine mp_run mp_k_cX2_laySpoken_ok hF mp_tabX2_ok [mp_i (.iload 5), mp_i (.aload_n 0), mp_h (.getfield 52) [8, 0], mp_h (.if_icmp .ge 68) [102]] (by decide +kernel) ?_
            refine And.intro rfl (And.intro rfl ?_)
            refine And.intro (fun c_23 => ?_) (fun c_23 => ?_)
            · have c_23 : y1.toInt ≤ i_15.toInt := c_23
              let w5_ : va_W := [(mp_ob2 a0 y0 y1 y2 y3 a8 a9 a2 a10 a11 y4 y5), (mp_ob0 a1 a3 y6 a7 a12 a13 a14 a15 a16), (mp_ob7 a3 y7 y8 y9 y10 y11 y12 a17 a18 a19 a4 a20 a5 a6 a21 a22 a23 a24 a25), (mp_arI E a4 0 6 f1), (mp_arI E a5 0 10 f2), (mp_arI E a6 0 10 f3), (mp_arI E a7 0 6 f4), (mp_arI E a2 0 72 g_16)]
              show mp_W E X 6 102 [(5, .int i_15), (4, .int i_6), (3, .ref a3), (0, .ref a0), (1, .ref a1), (2, .int x0)] [] w5_ 0 0
              refine mp_run mp_k_cX2_laySpoken_ok hF mp_tabX2_ok [mp_c (.iinc 4 1) 1, mp_h (.goto (-89)) [16]] (by decide +kernel) ?_
              intro z_24 h_25
              have e_26 : z_24.toInt = i_6.toInt + 1 := mp_add (a := i_6.toInt) (b := 1) h_25 rfl (by decide) (by (first | exact mp_o2 l_8 | omega)) (by (first | exact mp_o420 u_9 | omega))
              show mp_W E X 6 16 [(4, .int z_24), (5, .int i_15), (3, .ref a3), (0, .ref a0), (1, .ref a1), (2, .int x0)] [] w5_ 0 0
              exact mp_sub [0, 2, 3, 4, 5] rfl [0, 1, 2, 3, 4, 5, 6, 7] rfl rfl (ih_12 (d_11 - 1) (by (first | exact mp_o72 hm_13 c_14 | omega)) z_24 g_16 (by (first | exact mp_o51 l_8 e_26 | omega)) (by (first | exact mp_o421 u_y11 c_14 e_26 | omega)) (by (first | exact mp_o77 hm_13 e_26 | omega)))
            · have c_23 : i_15.toInt < y1.toInt := c_23
              let w6_ : va_W := [(mp_ob2 a0 y0 y1 y2 y3 a8 a9 a2 a10 a11 y4 y5), (mp_ob0 a1 a3 y6 a7 a12 a13 a14 a15 a16), (mp_ob7 a3 y7 y8 y9 y10 y11 y12 a17 a18 a19 a4 a20 a5 a6 a21 a22 a23 a24 a25), (mp_arI E a4 0 6 f1), (mp_arI E a5 0 10 f2), (mp_arI E a6 0 10 f3), (mp_arI E a7 0 6 f4), (mp_arI E a2 0 72 g_16)]
              show mp_W E X 6 37 [(5, .int i_15), (4, .int i_6), (3, .ref a3), (0, .ref a0), (1, .ref a1), (2, .int x0)] [] w6_ 0 0
              refine mp_run mp_k_cX2_laySpoken_ok hF mp_tabX2_ok [mp_i (.aload_n 3), mp_h (.getfield 81) [2, 2], mp_i (.iload 4), mp_h .iaload [4], mp_i (.iload_n 2), mp_h (.if_icmp .ne 51) [96]] (by decide +kernel) ?_
              refine And.intro rfl (And.intro rfl ?_)
              refine And.intro rfl (And.intro rfl (And.intro (vp_in_iff.mpr (by (first | exact mp_o381 l_8 u_y11 c_14 | omega))) ?_))
              intro z_27 h_28
              have e_29 : 0 ≤ z_27.toInt ∧ z_27.toInt ≤ 5 := mp_all_ld h_28 p0 (by (first | exact l_8 | omega)) (by (first | exact mp_o382 u_y11 c_14 | omega))
              refine And.intro (fun c_30 => ?_) (fun c_30 => ?_)
              · have c_30 : z_27.toInt ≠ x0.toInt := c_30
                show mp_W E X 6 96 [(5, .int i_15), (4, .int i_6), (3, .ref a3), (0, .ref a0), (1, .ref a1), (2, .int x0)] [] w6_ 0 0
                refine mp_run mp_k_cX2_laySpoken_ok hF mp_tabX2_ok [mp_c (.iinc 5 1) 1, mp_h (.goto (-71)) [28]] (by decide +kernel) ?_
                intro z_31 h_32
                have e_33 : z_31.toInt = i_15.toInt + 1 := mp_add (a := i_15.toInt) (b := 1) h_32 rfl (by decide) (by (first | exact mp_o2 l_17 | omega)) (by (first | exact mp_o535 u_18 | omega))
                show mp_W E X 6 28 [(5, .int z_31), (4, .int i_6), (3, .ref a3), (0, .ref a0), (1, .ref a1), (2, .int x0)] [] w6_ 0 0
                exact mp_sub [0, 1, 2, 3, 4, 5] rfl [0, 1, 2, 3, 4, 5, 6, 7] rfl rfl (ih_21 (d_20 - 1) (by (first | exact mp_o72 hm_22 c_23 | omega)) z_31 g_16 (by (first | exact mp_o51 l_17 e_33 | omega)) (by (first | exact mp_o536 u_y1 c_23 e_33 | omega)) (by (first | exact mp_o77 hm_22 e_33 | omega)))
              · have c_30 : z_27.toInt = x0.toInt := (congrArg Int32.toInt c_30)
                show mp_W E X 6 48 [(5, .int i_15), (4, .int i_6), (3, .ref a3), (0, .ref a0), (1, .ref a1), (2, .int x0)] [] w6_ 0 0
                refine mp_run mp_k_cX2_laySpoken_ok hF mp_tabX2_ok [mp_i (.aload_n 3), mp_i (.iload 4), mp_i (.aload_n 1), mp_h (.getfield 65) [5, 1], mp_c (.iconst 1) 1, mp_i .iadd, mp_i (.iload 5), mp_i .iadd] (by decide +kernel) ?_
                refine And.intro rfl (And.intro rfl ?_)
                intro z_34 h_35
                have e_36 : z_34.toInt = y6.toInt + 1 := mp_add (a := y6.toInt) (b := 1) h_35 rfl (by decide) (by (first | exact mp_o2 l_y6 | omega)) (by (first | exact mp_o330 u_y6 | omega))
                intro z_37 h_38
                have e_39 : z_37.toInt = z_34.toInt + i_15.toInt := mp_add (a := z_34.toInt) (b := i_15.toInt) h_38 rfl rfl (by (first | exact mp_o539 l_17 l_y6 e_36 | omega)) (by (first | exact mp_o550 u_18 u_y6 e_36 | omega))
                show mp_W E X 6 60 [(5, .int i_15), (4, .int i_6), (3, .ref a3), (0, .ref a0), (1, .ref a1), (2, .int x0)] [.int z_37, .int i_6, .ref a3] w6_ 0 0
                refine mp_callV hF (As := [.int i_6, .int z_37]) (rest := []) (wr := [(mp_ob2 a0 y0 y1 y2 y3 a8 a9 a2 a10 a11 y4 y5), (mp_ob0 a1 a3 y6 a7 a12 a13 a14 a15 a16), (mp_arI E a7 0 6 f4), (mp_arI E a2 0 72 g_16)]) (bX7_bothLive_92 E a3 a4 a5 a6 a17 a18 a19 a20 a21 a22 a23 a24 a25 f1 f2 f3 y7 y8 y9 y10 y11 y12 i_6 z_37 p0 p1 l_8 (by (first | exact mp_o419 u_y11 c_14 | omega)) l_y8 u_y8 l_y9 u_y9 l_y10 u_y10 l_y11 u_y11 l_y12 u_y12) mp_lkX2_84 2 rfl [2, 3, 4, 5] [0, 1, 6, 7] rfl rfl rfl rfl rfl ⟨(Nat.le_of_ble_eq_true rfl), (Nat.le_of_ble_eq_true rfl), (Nat.le_of_ble_eq_true rfl), (Nat.le_of_ble_eq_true rfl)⟩ (Nat.le_of_ble_eq_true rfl) (by first | exact mp_fd_ok mp_k_cX2_laySpoken_ok (by decide +kernel) | decide +kernel) (fun v_40 w_41 h_42 => ?_)
                rcases h_42 with ⟨rfl, x_43, rfl⟩ | ⟨rfl, x_44, rfl⟩
                · skip
                  let w7_ : va_W := [(mp_ob2 a0 y0 y1 y2 y3 a8 a9 a2 a10 a11 y4 y5), (mp_ob0 a1 a3 y6 a7 a12 a13 a14 a15 a16), (mp_arI E a7 0 6 f4), (mp_arI E a2 0 72 g_16), (mp_ob7 a3 y7 y8 y9 y10 y11 y12 a17 a18 a19 a4 a20 a5 a6 a21 a22 a23 a24 a25), (mp_arI E a4 0 6 f1), (mp_arI E a5 0 10 f2), (mp_arI E a6 0 10 f3)]
                  show mp_W E X 6 63 [(5, .int i_15), (4, .int i_6), (3, .ref a3), (0, .ref a0), (1, .ref a1), (2, .int x0)] [.int 1] w7_ 0 0
                  refine mp_run mp_k_cX2_laySpoken_ok hF mp_tabX2_ok [mp_h (.ifCond .eq 33) [96]] (by decide +kernel) ?_
                  refine And.intro (fun c_45 => absurd c_45 (by decide)) (fun _ => ?_)
                  show mp_W E X 6 66 [(5, .int i_15), (4, .int i_6), (3, .ref a3), (0, .ref a0), (1, .ref a1), (2, .int x0)] [] w7_ 0 0
                  refine mp_run mp_k_cX2_laySpoken_ok hF mp_tabX2_ok [mp_i (.aload_n 0), mp_h (.getfield 18) [13, 0], mp_i (.iload 5), mp_c (.bipush 6) 6, mp_i .imul, mp_i (.aload_n 1), mp_h (.getfield 55) [6, 1], mp_i (.aload_n 3), mp_h (.getfield 88) [3, 4], mp_i (.iload 4), mp_h .iaload [7], mp_h .iaload [2], mp_i .iadd, mp_i .dup2, mp_h .iaload [3], mp_c (.iconst 1) 1, mp_i (.iload 4), mp_i .ishl, mp_i .ior, mp_h .iastore [3]] (by decide +kernel) ?_
                  refine And.intro rfl (And.intro rfl ?_)
                  intro z_46 h_47
                  have e_48 : z_46.toInt = i_15.toInt * 6 := mp_mul (a := i_15.toInt) (b := 6) h_47 rfl (by decide) (by (first | exact mp_o249 l_17 | omega)) (by (first | exact mp_o551 u_18 | omega))
                  refine And.intro rfl (And.intro rfl ?_)
                  refine And.intro rfl (And.intro rfl ?_)
                  refine And.intro rfl (And.intro rfl (And.intro (vp_in_iff.mpr (by (first | exact mp_o381 l_8 u_y11 c_14 | omega))) ?_))
                  intro z_49 h_50
                  have e_51 : 0 ≤ z_49.toInt ∧ z_49.toInt ≤ 5 := mp_all_ld h_50 p1 (by (first | exact l_8 | omega)) (by (first | exact mp_o382 u_y11 c_14 | omega))
                  refine And.intro rfl (And.intro rfl (And.intro (vp_in_iff.mpr (by (first | exact mp_o422 e_51 | omega))) ?_))
                  intro z_52 h_53
                  have e_54 : 0 ≤ z_52.toInt ∧ z_52.toInt ≤ 5 := mp_all_ld h_53 p2 (by (first | exact mp_o495 e_51 | omega)) (by (first | exact mp_o496 e_51 | omega))
                  intro z_55 h_56
                  have e_57 : z_55.toInt = z_46.toInt + z_52.toInt := mp_add (a := z_46.toInt) (b := z_52.toInt) h_56 rfl rfl (by (first | exact mp_o552 e_54 l_17 e_48 | omega)) (by (first | exact mp_o553 e_54 u_18 e_48 | omega))
                  refine And.intro rfl (And.intro rfl (And.intro (vp_in_iff.mpr (by (first | exact mp_o554 l_17 e_48 u_y1 c_23 e_57 e_54 | omega))) ?_))
                  intro z_58 h_59
                  intro z_60 h_61
                  have e_63 : 1 ≤ z_60.toInt ∧ z_60.toInt ≤ 512 := mp_shl10 h_61 (by (first | exact l_8 | omega)) (by (first | exact mp_o419 u_y11 c_14 | omega))
                  intro z_64 h_65
                  refine And.intro rfl (And.intro rfl (And.intro (vp_in_iff.mpr (by (first | exact mp_o554 l_17 e_48 u_y1 c_23 e_57 e_54 | omega))) ?_))
                  intro g_67 h_68
                  let w8_ : va_W := [(mp_ob2 a0 y0 y1 y2 y3 a8 a9 a2 a10 a11 y4 y5), (mp_ob0 a1 a3 y6 a7 a12 a13 a14 a15 a16), (mp_arI E a7 0 6 f4), (mp_arI E a2 0 72 g_67), (mp_ob7 a3 y7 y8 y9 y10 y11 y12 a17 a18 a19 a4 a20 a5 a6 a21 a22 a23 a24 a25), (mp_arI E a4 0 6 f1), (mp_arI E a5 0 10 f2), (mp_arI E a6 0 10 f3)]
                  show mp_W E X 6 96 [(5, .int i_15), (4, .int i_6), (3, .ref a3), (0, .ref a0), (1, .ref a1), (2, .int x0)] [] w8_ 0 0
                  refine mp_run mp_k_cX2_laySpoken_ok hF mp_tabX2_ok [mp_c (.iinc 5 1) 1, mp_h (.goto (-71)) [28]] (by decide +kernel) ?_
                  intro z_69 h_70
                  have e_71 : z_69.toInt = i_15.toInt + 1 := mp_add (a := i_15.toInt) (b := 1) h_70 rfl (by decide) (by (first | exact mp_o2 l_17 | omega)) (by (first | exact mp_o535 u_18 | omega))
                  show mp_W E X 6 28 [(5, .int z_69), (4, .int i_6), (3, .ref a3), (0, .ref a0), (1, .ref a1), (2, .int x0)] [] w8_ 0 0
                  exact mp_sub [0, 1, 2, 3, 4, 5] rfl [0, 1, 4, 5, 6, 7, 2, 3] rfl rfl (ih_21 (d_20 - 1) (by (first | exact mp_o72 hm_22 c_23 | omega)) z_69 g_67 (by (first | exact mp_o51 l_17 e_71 | omega)) (by (first | exact mp_o536 u_y1 c_23 e_71 | omega)) (by (first | exact mp_o77 hm_22 e_71 | omega)))
                · skip
                  let w9_ : va_W := [(mp_ob2 a0 y0 y1 y2 y3 a8 a9 a2 a10 a11 y4 y5), (mp_ob0 a1 a3 y6 a7 a12 a13 a14 a15 a16), (mp_arI E a7 0 6 f4), (mp_arI E a2 0 72 g_16), (mp_ob7 a3 y7 y8 y9 y10 y11 y12 a17 a18 a19 a4 a20 a5 a6 a21 a22 a23 a24 a25), (mp_arI E a4 0 6 f1), (mp_arI E a5 0 10 f2), (mp_arI E a6 0 10 f3)]
                  show mp_W E X 6 63 [(5, .int i_15), (4, .int i_6), (3, .ref a3), (0, .ref a0), (1, .ref a1), (2, .int x0)] [.int 0] w9_ 0 0
                  refine mp_run mp_k_cX2_laySpoken_ok hF mp_tabX2_ok [mp_h (.ifCond .eq 33) [96]] (by decide +kernel) ?_
                  refine And.intro (fun _ => ?_) (fun c_72 => absurd c_72 (by decide))
                  show mp_W E X 6 96 [(5, .int i_15), (4, .int i_6), (3, .ref a3), (0, .ref a0), (1, .ref a1), (2, .int x0)] [] w9_ 0 0
                  refine mp_run mp_k_cX2_laySpoken_ok hF mp_tabX2_ok [mp_c (.iinc 5 1) 1, mp_h (.goto (-71)) [28]] (by decide +kernel) ?_
                  intro z_73 h_74
                  have e_75 : z_73.toInt = i_15.toInt + 1 := mp_add (a := i_15.toInt) (b := 1) h_74 rfl (by decide) (by (first | exact mp_o2 l_17 | omega)) (by (first | exact mp_o535 u_18 | omega))
                  show mp_W E X 6 28 [(5, .int z_73), (4, .int i_6), (3, .ref a3), (0, .ref a0), (1, .ref a1), (2, .int x0)] [] w9_ 0 0
                  exact mp_sub [0, 1, 2, 3, 4, 5] rfl [0, 1, 4, 5, 6, 7, 2, 3] rfl rfl (ih_21 (d_20 - 1) (by (first | exact mp_o72 hm_22 c_23 | omega)) z_73 g_16 (by (first | exact mp_o51 l_17 e_75 | omega)) (by (first | exact mp_o536 u_y1 c_23 e_75 | omega)) (by (first | exact mp_o77 hm_22 e_75 | omega)))
        exact mp_sub [0, 1, 2, 3, 4, 5] rfl [0, 1, 2, 3, 4, 5, 6, 7] rfl rfl (lp_19 _ 0 g_7 (by decide) (by decide) (Int.self_le_toNat _))
  exact mp_sub [0, 1, 2, 3, 4] rfl [0, 1, 2, 3, 4, 5, 6, 7] rfl rfl (lp_10 _ 0 g_4 (by decide) (by decide) (Int.self_le_toNat _))
