set_option maxHeartbeats 4000000 in
set_option maxRecDepth 100000 in
theorem bX10_is_15 (E : mp_E) (a0 a1 a2 a3 a4 a5 a6 a7 a8 a9 a10 a11 a12 a13 a14 a15 a16 a17 a18 a19 a20 a21 a22 a23 a24 a25 : Nat) (f0 : Nat → Int32) (y0 : Int32) (y1 : Int32) (y2 : Int32) (y3 : Int32) (y4 : Int32) (y5 : Int32) (y6 : Int64) (y7 : Int32) (y8 : Int32) (y9 : Int32) (y10 : Int32) (y11 : Int32) (y12 : Int32) (y13 : Int32) (y14 : Int32) (y15 : Int32) (y16 : Int32) (y17 : Int32) (y18 : Int32) (y19 : Int32) (y20 : Int32) (y21 : Int32) (x0 : Int64) (l_y1 : 0 ≤ y1.toInt) (u_y1 : y1.toInt ≤ 1600) (l_y2 : 0 ≤ y2.toInt) (u_y2 : y2.toInt ≤ 1600) (l_y3 : 0 ≤ y3.toInt) (u_y3 : y3.toInt ≤ 4) (l_y4 : 0 ≤ y4.toInt) (u_y4 : y4.toInt ≤ 1600) (l_y11 : 0 ≤ y11.toInt) (u_y11 : y11.toInt ≤ 99) (l_y12 : 0 ≤ y12.toInt) (u_y12 : y12.toInt ≤ 5) (l_y13 : 0 ≤ y13.toInt) (u_y13 : y13.toInt ≤ 12) (q0 : mp_MT f0 y1.toInt y3.toInt y4.toInt y2.toInt y5.toInt y6.toInt) : mp_Ct E yX10_is cX10_is 3 (some FieldType.boolean) 0 0 0 0 [.ref a0, .long x0] [(mp_ob10 a0 y0 a2 a3 a4 a5 a1 y1 y2 y3 y4 y5 y6 y7 y8 y9 y10 a6 a7 a8 a9 a10 a11 a12 a13 y11 a14 a15 a16 a17 y12 y13 y14 a18 a19 y15 y16 a20 a21 a22 y17 y18 y19 y20 a23 a24 a25 y21), (mp_arI E a1 1 1600 f0)] (fun v w' => (v = some (.int 0) ∧ (y7.toInt ≠ 0 ∨ ¬ (mp_TK f0 (y1.toInt).toNat (y4.toInt).toNat = 1 ∧ mp_WD f0 (y1.toInt).toNat (y4.toInt).toNat = x0.toInt)) ∧ w' = [(mp_ob10 a0 y0 a2 a3 a4 a5 a1 y1 y2 y3 y4 y5 y6 y7 y8 y9 y10 a6 a7 a8 a9 a10 a11 a12 a13 y11 a14 a15 a16 a17 y12 y13 y14 a18 a19 y15 y16 a20 a21 a22 y17 y18 y19 y20 a23 a24 a25 y21), (mp_arI E a1 1 1600 f0)]) ∨ (v = some (.int 1) ∧ y7.toInt = 0 ∧ y3.toInt = 1 ∧ y6.toInt = x0.toInt ∧ (y7.toInt = 0 ∧ mp_TK f0 (y1.toInt).toNat (y4.toInt).toNat = 1 ∧ mp_WD f0 (y1.toInt).toNat (y4.toInt).toNat = x0.toInt) ∧ w' = [(mp_ob10 a0 y0 a2 a3 a4 a5 a1 y1 y2 y3 y4 y5 y6 y7 y8 y9 y10 a6 a7 a8 a9 a10 a11 a12 a13 y11 a14 a15 a16 a17 y12 y13 y14 a18 a19 y15 y16 a20 a21 a22 y17 y18 y19 y20 a23 a24 a25 y21), (mp_arI E a1 1 1600 f0)])) := by
  refine mp_met false (by decide) (by decide) (Nat.le_of_ble_eq_true rfl) (fun X hF hQ => ?_)
  have hF : mp_F E X (RX10, cX10_is, 3, (0, 0, 0, 0), (some FieldType.boolean), false) := hF
  let w1_ : va_W := [(mp_ob10 a0 y0 a2 a3 a4 a5 a1 y1 y2 y3 y4 y5 y6 y7 y8 y9 y10 a6 a7 a8 a9 a10 a11 a12 a13 y11 a14 a15 a16 a17 y12 y13 y14 a18 a19 y15 y16 a20 a21 a22 y17 y18 y19 y20 a23 a24 a25 y21), (mp_arI E a1 1 1600 f0)]
  show mp_W E X 3 0 [(0, .ref a0), (1, .long x0)] [] w1_ 0 0
  refine mp_run mp_k_cX10_is_ok hF mp_tabX10_ok [mp_i (.aload_n 0), mp_h (.getfield 144) [12, 0], mp_h (.ifCond .ne 24) [28]] (by decide +kernel) ?_
  refine And.intro rfl (And.intro rfl ?_)
  refine And.intro (fun c_1 => ?_) (fun c_1 => ?_)
  · have c_1 : y7.toInt ≠ 0 := c_1
    show mp_W E X 3 28 [(0, .ref a0), (1, .long x0)] [] w1_ 0 0
    refine mp_run mp_k_cX10_is_ok hF mp_tabX10_ok [mp_c (.iconst 0) 0] (by decide +kernel) ?_
    show mp_W E X 3 29 [(0, .ref a0), (1, .long x0)] [.int 0] w1_ 0 0
    exact mp_iret hF hQ rfl (by decide) (Nat.le_of_ble_eq_true rfl) (Nat.le_of_ble_eq_true rfl) [0, 1] (w' := w1_) rfl rfl (Or.inl ⟨rfl, (by have i0 : (0 : Int32).toInt = 0 := rfl; have i1 : (1 : Int32).toInt = 1 := rfl; have i8 : (2 : Int32).toInt = 2 := rfl; have i9 : (3 : Int32).toInt = 3 := rfl; have k7 := q0.2.1; have k8 := q0.2.2.2.2; omega), rfl⟩) (by first | exact mp_fd_ok mp_k_cX10_is_ok (by decide +kernel) | decide +kernel)
  · have c_1 : y7.toInt = 0 := (congrArg Int32.toInt c_1)
    show mp_W E X 3 7 [(0, .ref a0), (1, .long x0)] [] w1_ 0 0
    refine mp_run mp_k_cX10_is_ok hF mp_tabX10_ok [mp_i (.aload_n 0), mp_h (.getfield 133) [8, 0], mp_c (.iconst 1) 1, mp_h (.if_icmp .ne 16) [28]] (by decide +kernel) ?_
    refine And.intro rfl (And.intro rfl ?_)
    refine And.intro (fun c_2 => ?_) (fun c_2 => ?_)
    · have c_2 : y3.toInt ≠ 1 := c_2
      show mp_W E X 3 28 [(0, .ref a0), (1, .long x0)] [] w1_ 0 0
      refine mp_run mp_k_cX10_is_ok hF mp_tabX10_ok [mp_c (.iconst 0) 0] (by decide +kernel) ?_
      show mp_W E X 3 29 [(0, .ref a0), (1, .long x0)] [.int 0] w1_ 0 0
      exact mp_iret hF hQ rfl (by decide) (Nat.le_of_ble_eq_true rfl) (Nat.le_of_ble_eq_true rfl) [0, 1] (w' := w1_) rfl rfl (Or.inl ⟨rfl, (by have i0 : (0 : Int32).toInt = 0 := rfl; have i1 : (1 : Int32).toInt = 1 := rfl; have i8 : (2 : Int32).toInt = 2 := rfl; have i9 : (3 : Int32).toInt = 3 := rfl; have k7 := q0.2.1; have k8 := q0.2.2.2.2; omega), rfl⟩) (by first | exact mp_fd_ok mp_k_cX10_is_ok (by decide +kernel) | decide +kernel)
    · have c_2 : y3.toInt = 1 := (congrArg Int32.toInt c_2)
      show mp_W E X 3 15 [(0, .ref a0), (1, .long x0)] [] w1_ 0 0
      refine mp_run mp_k_cX10_is_ok hF mp_tabX10_ok [mp_i (.aload_n 0), mp_h (.getfield 129) [11, 0], mp_i (.lload_n 1), mp_i .lcmp, mp_h (.ifCond .ne 7) [28]] (by decide +kernel) ?_
      refine And.intro rfl (And.intro rfl ?_)
      intro z_3 h_4
      refine And.intro (fun c_5 => ?_) (fun c_5 => ?_)
      · have c_5 : y6.toInt ≠ x0.toInt := mp_lc_ne h_4 c_5
        show mp_W E X 3 28 [(0, .ref a0), (1, .long x0)] [] w1_ 0 0
        refine mp_run mp_k_cX10_is_ok hF mp_tabX10_ok [mp_c (.iconst 0) 0] (by decide +kernel) ?_
        show mp_W E X 3 29 [(0, .ref a0), (1, .long x0)] [.int 0] w1_ 0 0
        exact mp_iret hF hQ rfl (by decide) (Nat.le_of_ble_eq_true rfl) (Nat.le_of_ble_eq_true rfl) [0, 1] (w' := w1_) rfl rfl (Or.inl ⟨rfl, (by have i0 : (0 : Int32).toInt = 0 := rfl; have i1 : (1 : Int32).toInt = 1 := rfl; have i8 : (2 : Int32).toInt = 2 := rfl; have i9 : (3 : Int32).toInt = 3 := rfl; have k7 := q0.2.1; have k8 := q0.2.2.2.2; omega), rfl⟩) (by first | exact mp_fd_ok mp_k_cX10_is_ok (by decide +kernel) | decide +kernel)
      · have c_5 : y6.toInt = x0.toInt := mp_lc_eq h_4 c_5
        show mp_W E X 3 24 [(0, .ref a0), (1, .long x0)] [] w1_ 0 0
        refine mp_run mp_k_cX10_is_ok hF mp_tabX10_ok [mp_c (.iconst 1) 1, mp_h (.goto 4) [29]] (by decide +kernel) ?_
        show mp_W E X 3 29 [(0, .ref a0), (1, .long x0)] [.int 1] w1_ 0 0
        exact mp_iret hF hQ rfl (by decide) (Nat.le_of_ble_eq_true rfl) (Nat.le_of_ble_eq_true rfl) [0, 1] (w' := w1_) rfl rfl (Or.inr ⟨rfl, (by first | omega | decide), (by first | omega | decide), (by first | omega | decide), (by have i0 : (0 : Int32).toInt = 0 := rfl; have i1 : (1 : Int32).toInt = 1 := rfl; have i8 : (2 : Int32).toInt = 2 := rfl; have i9 : (3 : Int32).toInt = 3 := rfl; have k7 := q0.2.1; have k8 := q0.2.2.2.2; omega), rfl⟩) (by first | exact mp_fd_ok mp_k_cX10_is_ok (by decide +kernel) | decide +kernel)
