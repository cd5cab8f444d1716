set_option maxHeartbeats 4000000 in
set_option maxRecDepth 100000 in
theorem bX7_isShut_58 (E : mp_E) (a0 a1 a2 a3 a4 a5 a6 a7 a8 a9 a10 a11 a12 : Nat) (f0 : Nat → Int64) (y0 : Int32) (y1 : Int32) (y2 : Int32) (y3 : Int32) (y4 : Int32) (y5 : Int32) (x0 : Int32) (x1 : Int32) (l_x0 : 0 ≤ x0.toInt) (u_x0 : x0.toInt ≤ 5) (l_x1 : 0 ≤ x1.toInt) (u_x1 : x1.toInt ≤ 99) (l_y1 : 0 ≤ y1.toInt) (u_y1 : y1.toInt ≤ 6) (l_y2 : 0 ≤ y2.toInt) (u_y2 : y2.toInt ≤ 99) (l_y3 : 0 ≤ y3.toInt) (u_y3 : y3.toInt ≤ 6) (l_y4 : 0 ≤ y4.toInt) (u_y4 : y4.toInt ≤ 10) (l_y5 : 0 ≤ y5.toInt) (u_y5 : y5.toInt ≤ 60) : mp_Ct E yX7_isShut cX7_isShut 3 (some FieldType.boolean) 0 0 0 0 [.ref a0, .int x0, .int x1] [(mp_ob7 a0 y0 y1 y2 y3 y4 y5 a2 a1 a3 a4 a5 a6 a7 a8 a9 a10 a11 a12), (mp_arL E a1 12 f0)] (fun v w' => (v = some (.int 0) ∧ (mp_shb f0 (100 * x0.toInt + x1.toInt).toNat = false) ∧ w' = [(mp_ob7 a0 y0 y1 y2 y3 y4 y5 a2 a1 a3 a4 a5 a6 a7 a8 a9 a10 a11 a12), (mp_arL E a1 12 f0)]) ∨ (v = some (.int 1) ∧ (mp_shb f0 (100 * x0.toInt + x1.toInt).toNat = true) ∧ w' = [(mp_ob7 a0 y0 y1 y2 y3 y4 y5 a2 a1 a3 a4 a5 a6 a7 a8 a9 a10 a11 a12), (mp_arL E a1 12 f0)])) := by
  refine mp_met false (by decide) (by decide) (Nat.le_of_ble_eq_true rfl) (fun X hF hQ => ?_)
  have hF : mp_F E X (RX7, cX7_isShut, 3, (0, 0, 0, 0), (some FieldType.boolean), false) := hF
  let w1_ : va_W := [(mp_ob7 a0 y0 y1 y2 y3 y4 y5 a2 a1 a3 a4 a5 a6 a7 a8 a9 a10 a11 a12), (mp_arL E a1 12 f0)]
  show mp_W E X 3 0 [(0, .ref a0), (1, .int x0), (2, .int x1)] [] w1_ 0 0
  refine mp_run mp_k_cX7_isShut_ok hF mp_tabX7_ok [mp_i (.aload_n 0), mp_h (.getfield 15) [7, 0], mp_c (.iconst 2) 2, mp_i (.iload_n 1), mp_i .imul, mp_i (.iload_n 2), mp_c (.bipush 50) 50, mp_i .idiv, mp_i .iadd, mp_h .laload [1], mp_i (.iload_n 2), mp_c (.bipush 50) 50, mp_i .irem, mp_i .lshr, mp_cl (.lconst 1) 1, mp_i .land, mp_cl (.lconst 0) 0, mp_i .lcmp, mp_h (.ifCond .eq 7) [29]] (by decide +kernel) ?_
  refine And.intro rfl (And.intro rfl ?_)
  intro z_1 h_2
  have e_3 : z_1.toInt = 2 * x0.toInt := mp_mul (a := 2) (b := x0.toInt) h_2 (by decide) rfl (by (first | exact mp_o147 l_x0 | omega)) (by (first | exact mp_o148 u_x0 | omega))
  refine And.intro (by decide) ?_
  intro z_4 h_5
  have e_6 : z_4.toInt = x1.toInt / 50 := mp_div (a := x1.toInt) (b := 50) h_5 rfl (by decide) (by (first | exact l_x1 | omega)) (by decide)
  intro z_7 h_8
  have e_9 : z_7.toInt = z_1.toInt + z_4.toInt := mp_add (a := z_1.toInt) (b := z_4.toInt) h_8 rfl rfl (by (first | exact mp_o149 l_x0 e_3 l_x1 e_6 | omega)) (by (first | exact mp_o150 u_x0 e_3 u_x1 e_6 | omega))
  refine And.intro rfl (And.intro rfl (And.intro (vp_in_iff.mpr (by (first | exact mp_o151 l_x0 u_x0 l_x1 u_x1 e_3 e_6 e_9 | omega))) ?_))
  intro z_10 h_11
  refine And.intro (by decide) ?_
  intro z_12 h_13
  have e_14 : z_12.toInt = x1.toInt % 50 := mp_rem (a := x1.toInt) (b := 50) h_13 rfl (by decide) (by (first | exact l_x1 | omega)) (by decide)
  intro z_15 h_16
  intro z_17 h_18
  intro z_19 h_20
  refine And.intro (fun c_21 => ?_) (fun c_21 => ?_)
  · have c_21 : z_17.toInt = 0 := mp_lc_eq h_20 c_21
    show mp_W E X 3 29 [(0, .ref a0), (1, .int x0), (2, .int x1)] [] w1_ 0 0
    refine mp_run mp_k_cX7_isShut_ok hF mp_tabX7_ok [mp_c (.iconst 0) 0] (by decide +kernel) ?_
    show mp_W E X 3 30 [(0, .ref a0), (1, .int x0), (2, .int x1)] [.int 0] w1_ 0 0
    exact mp_iret hF hQ rfl (by decide) (Nat.le_of_ble_eq_true rfl) (Nat.le_of_ble_eq_true rfl) [0, 1] (w' := w1_) rfl rfl (Or.inl ⟨rfl, ((mp_shb_rd (a := x0.toInt) (m := x1.toInt) h_11 h_16 h_18 (by (first | exact mp_o405 e_3 e_6 e_9 | omega)) (by (first | exact e_14 | omega)) (by (first | exact l_x0 | omega)) (by (first | exact mp_o154 l_x1 u_x1 | omega))).trans (decide_eq_false (fun q => q (mp_l_eq (by (first | exact c_21 | omega)))))), rfl⟩) (by first | exact mp_fd_ok mp_k_cX7_isShut_ok (by decide +kernel) | decide +kernel)
  · have c_21 : z_17.toInt ≠ 0 := mp_lc_ne h_20 c_21
    show mp_W E X 3 25 [(0, .ref a0), (1, .int x0), (2, .int x1)] [] w1_ 0 0
    refine mp_run mp_k_cX7_isShut_ok hF mp_tabX7_ok [mp_c (.iconst 1) 1, mp_h (.goto 4) [30]] (by decide +kernel) ?_
    show mp_W E X 3 30 [(0, .ref a0), (1, .int x0), (2, .int x1)] [.int 1] w1_ 0 0
    exact mp_iret hF hQ rfl (by decide) (Nat.le_of_ble_eq_true rfl) (Nat.le_of_ble_eq_true rfl) [0, 1] (w' := w1_) rfl rfl (Or.inr ⟨rfl, ((mp_shb_rd (a := x0.toInt) (m := x1.toInt) h_11 h_16 h_18 (by (first | exact mp_o405 e_3 e_6 e_9 | omega)) (by (first | exact e_14 | omega)) (by (first | exact l_x0 | omega)) (by (first | exact mp_o154 l_x1 u_x1 | omega))).trans (decide_eq_true (mp_l_ne (by (first | exact c_21 | omega))))), rfl⟩) (by first | exact mp_fd_ok mp_k_cX7_isShut_ok (by decide +kernel) | decide +kernel)
