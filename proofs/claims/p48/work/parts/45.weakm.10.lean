set_option maxHeartbeats 4000000 in
set_option maxRecDepth 100000 in
theorem bX10_of_65 (E : mp_E) (a0 a1 a2 a3 a4 a5 a6 a7 a8 a9 a10 a11 a12 a13 a14 a15 a16 a17 a18 a19 a20 a21 a22 a23 a24 a25 : Nat) (f0 : Nat → Int32) (y0 : Int32) (y1 : Int32) (y2 : Int32) (y3 : Int32) (y4 : Int32) (y5 : Int32) (y6 : Int64) (y7 : Int32) (y8 : Int32) (y9 : Int32) (y10 : Int32) (y11 : Int32) (y12 : Int32) (y13 : Int32) (y14 : Int32) (y15 : Int32) (y16 : Int32) (y17 : Int32) (y18 : Int32) (y19 : Int32) (y20 : Int32) (y21 : Int32) (x0 : Int32) (p0 : mp_res f0 300 6 0 0 5) (p1 : mp_res f0 300 6 1 0 5) (p2 : mp_res f0 300 6 3 0 99) (p3 : mp_res f0 300 6 4 0 1) (l_x0 : 0 ≤ x0.toInt) (u_x0 : x0.toInt ≤ 9) (l_y1 : 0 ≤ y1.toInt) (u_y1 : y1.toInt ≤ 1600) (l_y2 : 0 ≤ y2.toInt) (u_y2 : y2.toInt ≤ 1600) (l_y3 : 0 ≤ y3.toInt) (u_y3 : y3.toInt ≤ 4) (l_y4 : 0 ≤ y4.toInt) (u_y4 : y4.toInt ≤ 1600) (l_y11 : 0 ≤ y11.toInt) (u_y11 : y11.toInt ≤ 99) (l_y12 : 0 ≤ y12.toInt) (u_y12 : y12.toInt ≤ 5) (l_y13 : 0 ≤ y13.toInt) (u_y13 : y13.toInt ≤ 12) : mp_Ct E yX10_of cX10_of 3 (some FieldType.int) 0 0 0 0 [.ref a0, .int x0, .int 4] [(mp_ob10 a0 y0 a2 a3 a4 a5 a6 y1 y2 y3 y4 y5 y6 y7 y8 y9 y10 a7 a8 a9 a10 a11 a1 a12 a13 y11 a14 a15 a16 a17 y12 y13 y14 a18 a19 y15 y16 a20 a21 a22 y17 y18 y19 y20 a23 a24 a25 y21), (mp_arI E a1 0 300 f0)] (fun v w' => ∃ r1 : Int32, v = some (.int r1) ∧ 0 ≤ r1.toInt ∧ r1.toInt ≤ 1 ∧ (r1.toInt = (f0 (6 * x0.toInt.toNat + 4)).toInt) ∧ w' = [(mp_ob10 a0 y0 a2 a3 a4 a5 a6 y1 y2 y3 y4 y5 y6 y7 y8 y9 y10 a7 a8 a9 a10 a11 a1 a12 a13 y11 a14 a15 a16 a17 y12 y13 y14 a18 a19 y15 y16 a20 a21 a22 y17 y18 y19 y20 a23 a24 a25 y21), (mp_arI E a1 0 300 f0)]) := by
  refine mp_met false (by decide) (by decide) (Nat.le_of_ble_eq_true rfl) (fun X hF hQ => ?_)
  have hF : mp_F E X (RX10, cX10_of, 3, (0, 0, 0, 0), (some FieldType.int), false) := hF
  let w1_ : va_W := [(mp_ob10 a0 y0 a2 a3 a4 a5 a6 y1 y2 y3 y4 y5 y6 y7 y8 y9 y10 a7 a8 a9 a10 a11 a1 a12 a13 y11 a14 a15 a16 a17 y12 y13 y14 a18 a19 y15 y16 a20 a21 a22 y17 y18 y19 y20 a23 a24 a25 y21), (mp_arI E a1 0 300 f0)]
  show mp_W E X 3 0 [(0, .ref a0), (1, .int x0), (2, .int 4)] [] w1_ 0 0
  refine mp_run mp_k_cX10_of_ok hF mp_tabX10_ok [mp_i (.aload_n 0), mp_h (.getfield 47) [21, 0], mp_c (.bipush 6) 6, mp_i (.iload_n 1), mp_i .imul, mp_i (.iload_n 2), mp_i .iadd, mp_h .iaload [1]] (by decide +kernel) ?_
  refine And.intro rfl (And.intro rfl ?_)
  intro z_1 h_2
  have e_3 : z_1.toInt = 6 * x0.toInt := mp_mul (a := 6) (b := x0.toInt) h_2 (by decide) rfl (by omega) (by omega)
  intro z_4 h_5
  have e_6 : z_4.toInt = z_1.toInt + 4 := mp_add (a := z_1.toInt) (b := 4) h_5 rfl (by decide) (by omega) (by omega)
  refine And.intro rfl (And.intro rfl (And.intro (vp_in_iff.mpr (by omega)) ?_))
  intro z_7 h_8
  have e_9 : 0 ≤ z_7.toInt ∧ z_7.toInt ≤ 1 := mp_res_ld h_8 p3 (by omega) (by omega) (by omega)
  have e_10 : z_7.toInt = (f0 (6 * x0.toInt + 4).toNat).toInt := mp_at_i h_8 (by omega)
  show mp_W E X 3 11 [(0, .ref a0), (1, .int x0), (2, .int 4)] [.int z_7] w1_ 0 0
  exact mp_iret hF hQ rfl rfl (Nat.le_of_ble_eq_true rfl) (Nat.le_of_ble_eq_true rfl) [0, 1] (w' := w1_) rfl rfl ⟨z_7, rfl, e_9.1, e_9.2, (mp_of_at h_8 (by omega) (by omega)), rfl⟩ (by first | exact mp_fd_ok mp_k_cX10_of_ok (by decide +kernel) | decide +kernel)
