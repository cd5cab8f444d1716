set_option maxHeartbeats 4000000 in
set_option maxRecDepth 100000 in
theorem bX7_oarsBetween_46 (E : mp_E) (a0 a1 a2 a3 a4 a5 a6 a7 a8 a9 a10 a11 a12 : Nat) (f0 : Nat → Int32) (y0 : Int32) (y1 : Int32) (y2 : Int32) (y3 : Int32) (y4 : Int32) (y5 : Int32) (x0 : Int32) (x1 : Int32) (p0 : mp_all f0 36 0 20) (l_x0 : 0 ≤ x0.toInt) (u_x0 : x0.toInt ≤ 5) (l_x1 : 0 ≤ x1.toInt) (u_x1 : x1.toInt ≤ 5) (l_y1 : 0 ≤ y1.toInt) (u_y1 : y1.toInt ≤ 6) (l_y2 : 0 ≤ y2.toInt) (u_y2 : y2.toInt ≤ 99) (l_y3 : 0 ≤ y3.toInt) (u_y3 : y3.toInt ≤ 6) (l_y4 : 0 ≤ y4.toInt) (u_y4 : y4.toInt ≤ 10) (l_y5 : 0 ≤ y5.toInt) (u_y5 : y5.toInt ≤ 60) : mp_Ct E yX7_oarsBetween cX7_oarsBetween 3 (some FieldType.int) 0 0 0 0 [.ref a0, .int x0, .int x1] [(mp_ob7 a0 y0 y1 y2 y3 y4 y5 a1 a2 a3 a4 a5 a6 a7 a8 a9 a10 a11 a12), (mp_arI E a1 0 36 f0)] (fun v w' => ∃ r1 : Int32, v = some (.int r1) ∧ 0 ≤ r1.toInt ∧ r1.toInt ≤ 20 ∧ (r1.toInt = (f0 (6 * x0.toInt + x1.toInt).toNat).toInt) ∧ w' = [(mp_ob7 a0 y0 y1 y2 y3 y4 y5 a1 a2 a3 a4 a5 a6 a7 a8 a9 a10 a11 a12), (mp_arI E a1 0 36 f0)]) := by
  refine mp_met false (by decide) (by decide) (Nat.le_of_ble_eq_true rfl) (fun X hF hQ => ?_)
  have hF : mp_F E X (RX7, cX7_oarsBetween, 3, (0, 0, 0, 0), (some FieldType.int), false) := hF
  let w1_ : va_W := [(mp_ob7 a0 y0 y1 y2 y3 y4 y5 a1 a2 a3 a4 a5 a6 a7 a8 a9 a10 a11 a12), (mp_arI E a1 0 36 f0)]
  show mp_W E X 3 0 [(0, .ref a0), (1, .int x0), (2, .int x1)] [] w1_ 0 0
  refine mp_run mp_k_cX7_oarsBetween_ok hF mp_tabX7_ok [mp_i (.aload_n 0), mp_h (.getfield 9) [6, 0], mp_i (.iload_n 1), mp_c (.bipush 6) 6, mp_i .imul, mp_i (.iload_n 2), mp_i .iadd, mp_h .iaload [1]] (by decide +kernel) ?_
  refine And.intro rfl (And.intro rfl ?_)
  intro z_1 h_2
  have e_3 : z_1.toInt = x0.toInt * 6 := mp_mul (a := x0.toInt) (b := 6) h_2 rfl (by decide) (by (first | exact mp_o249 l_x0 | omega)) (by (first | exact mp_o250 u_x0 | omega))
  intro z_4 h_5
  have e_6 : z_4.toInt = z_1.toInt + x1.toInt := mp_add (a := z_1.toInt) (b := x1.toInt) h_5 rfl rfl (by (first | exact mp_o251 l_x1 l_x0 e_3 | omega)) (by (first | exact mp_o252 u_x1 u_x0 e_3 | omega))
  refine And.intro rfl (And.intro rfl (And.intro (vp_in_iff.mpr (by (first | exact mp_o253 l_x0 u_x0 l_x1 u_x1 e_3 e_6 | omega))) ?_))
  intro z_7 h_8
  have e_9 : 0 ≤ z_7.toInt ∧ z_7.toInt ≤ 20 := mp_all_ld h_8 p0 (by (first | exact mp_o311 l_x0 l_x1 e_3 e_6 | omega)) (by (first | exact mp_o312 u_x0 e_3 u_x1 e_6 | omega))
  have e_10 : z_7.toInt = (f0 (6 * x0.toInt + x1.toInt).toNat).toInt := mp_at_i h_8 (by (first | exact mp_o313 l_x0 l_x1 e_3 e_6 | omega))
  show mp_W E X 3 11 [(0, .ref a0), (1, .int x0), (2, .int x1)] [.int z_7] w1_ 0 0
  exact mp_iret hF hQ rfl rfl (Nat.le_of_ble_eq_true rfl) (Nat.le_of_ble_eq_true rfl) [0, 1] (w' := w1_) rfl rfl ⟨z_7, rfl, e_9.1, e_9.2, (by first | (first | exact e_10 | omega) | decide | (have h8 : (0 : Int64).toInt = 0 := rfl; have h9 : (-1 : Int32).toInt = -1 := rfl; have h10 : (-2 : Int32).toInt = -2 := rfl; have h11 : (0 : Int32).toInt = 0 := rfl; have h12 : (1 : Int32).toInt = 1 := rfl; have h13 : (-5 : Int32).toInt = -5 := rfl; have h14 : (-3 : Int32).toInt = -3 := rfl; omega)), rfl⟩ (by first | exact mp_fd_ok mp_k_cX7_oarsBetween_ok (by decide +kernel) | decide +kernel)
