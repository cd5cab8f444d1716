set_option maxHeartbeats 4000000 in
set_option maxRecDepth 100000 in
theorem bX9_person_52 (E : mp_E) (a0 a1 a2 a3 a4 a5 a6 a7 a8 a9 a10 a11 a12 a13 a14 a15 a16 a17 a18 a19 a20 a21 a22 a23 a24 a25 a26 a27 a28 : Nat) (f0 : Nat → Int32) (f1 : Nat → Int32) (f2 : Nat → Int32) (y0 : Int32) (y1 : Int32) (y2 : Int32) (y3 : Int32) (y4 : Int32) (y5 : Int32) (y6 : Int32) (x0 : Int32) (x1 : Int32) (p0 : mp_all f0 6 0 5) (l_y0 : 0 ≤ y0.toInt) (u_y0 : y0.toInt ≤ 99) (l_y2 : 0 ≤ y2.toInt) (u_y2 : y2.toInt ≤ 6) (l_y3 : 0 ≤ y3.toInt) (u_y3 : y3.toInt ≤ 99) (l_y4 : 0 ≤ y4.toInt) (u_y4 : y4.toInt ≤ 6) (l_y5 : 0 ≤ y5.toInt) (u_y5 : y5.toInt ≤ 10) (l_y6 : 0 ≤ y6.toInt) (u_y6 : y6.toInt ≤ 60) : mp_Ct E yX9_person cX9_person 4 (some FieldType.int) 1 0 0 21 [.ref a0, .int x0, .int x1] [(mp_ob9 a0 a6 a1 a7 a8 a9 a10 a11 a12 a13), (mp_ob0 a1 a2 y0 a14 a15 a16 a17 a18 a19), (mp_ob7 a2 y1 y2 y3 y4 y5 y6 a20 a21 a3 a4 a5 a22 a23 a24 a25 a26 a27 a28), (mp_arI E a3 0 6 f0), (mp_arI E a4 0 6 f1), (mp_arI E a5 0 6 f2)] (fun v w' => ∃ r1 : Int32, v = some (.int r1) ∧ (((x0.toInt < 0 ∨ y4.toInt ≤ x0.toInt ∨ x1.toInt < 0 ∨ 2 < x1.toInt) ∧ r1.toInt = -2) ∨ ((0 ≤ x0.toInt ∧ x0.toInt < y4.toInt) ∧ ((x1.toInt = 0 ∧ r1.toInt = (f0 x0.toInt.toNat).toInt) ∨ (x1.toInt = 1 ∧ r1.toInt = (f1 x0.toInt.toNat).toInt) ∨ (x1.toInt = 2 ∧ r1.toInt = (f2 x0.toInt.toNat).toInt)))) ∧ w' = [(mp_ob9 a0 a6 a1 a7 a8 a9 a10 a11 a12 a13), (mp_ob0 a1 a2 y0 a14 a15 a16 a17 a18 a19), (mp_ob7 a2 y1 y2 y3 y4 y5 y6 a20 a21 a3 a4 a5 a22 a23 a24 a25 a26 a27 a28), (mp_arI E a3 0 6 f0), (mp_arI E a4 0 6 f1), (mp_arI E a5 0 6 f2)]) := by
  refine mp_met false (by decide) (by decide) (Nat.le_of_ble_eq_true rfl) (fun X hF hQ => ?_)
  have hF : mp_F E X (RX9, cX9_person, 4, (1, 0, 0, 21), (some FieldType.int), false) := hF
  let w1_ : va_W := [(mp_ob9 a0 a6 a1 a7 a8 a9 a10 a11 a12 a13), (mp_ob0 a1 a2 y0 a14 a15 a16 a17 a18 a19), (mp_ob7 a2 y1 y2 y3 y4 y5 y6 a20 a21 a3 a4 a5 a22 a23 a24 a25 a26 a27 a28), (mp_arI E a3 0 6 f0), (mp_arI E a4 0 6 f1), (mp_arI E a5 0 6 f2)]
  show mp_W E X 4 0 [(0, .ref a0), (1, .int x0), (2, .int x1)] [] w1_ 0 0
  refine mp_run mp_k_cX9_person_ok hF mp_tabX9_ok [mp_i (.aload_n 0), mp_h (.getfield 19) [37, 0], mp_h (.getfield 83) [20, 1], mp_i (.astore_n 3), mp_i (.aload_n 3), mp_i (.iload_n 1)] (by decide +kernel) ?_
  refine And.intro rfl (And.intro rfl ?_)
  refine And.intro rfl (And.intro rfl ?_)
  show mp_W E X 4 10 [(3, .ref a2), (0, .ref a0), (1, .int x0), (2, .int x1)] [.int x0, .ref a2] w1_ 0 0
  refine mp_callV hF (As := [.int x0]) (rest := []) (wr := [(mp_ob9 a0 a6 a1 a7 a8 a9 a10 a11 a12 a13), (mp_ob0 a1 a2 y0 a14 a15 a16 a17 a18 a19), (mp_arI E a3 0 6 f0), (mp_arI E a4 0 6 f1), (mp_arI E a5 0 6 f2)]) (bX7_isPerson_51 E a2 a20 a21 a3 a4 a5 a22 a23 a24 a25 a26 a27 a28 y1 y2 y3 y4 y5 y6 x0 l_y2 u_y2 l_y3 u_y3 l_y4 u_y4 l_y5 u_y5 l_y6 u_y6) mp_lkX9_106 2 rfl [2] [0, 1, 3, 4, 5] rfl rfl rfl rfl rfl ⟨(Nat.le_of_ble_eq_true rfl), (Nat.le_of_ble_eq_true rfl), (Nat.le_of_ble_eq_true rfl), (Nat.le_of_ble_eq_true rfl)⟩ (Nat.le_of_ble_eq_true rfl) (by first | exact mp_fd_ok mp_k_cX9_person_ok (by decide +kernel) | decide +kernel) (fun v_1 w_2 h_3 => ?_)
  rcases h_3 with ⟨rfl, x_4, rfl⟩ | ⟨rfl, c_5, c_6, x_7, rfl⟩
  · skip
    let w2_ : va_W := [(mp_ob9 a0 a6 a1 a7 a8 a9 a10 a11 a12 a13), (mp_ob0 a1 a2 y0 a14 a15 a16 a17 a18 a19), (mp_arI E a3 0 6 f0), (mp_arI E a4 0 6 f1), (mp_arI E a5 0 6 f2), (mp_ob7 a2 y1 y2 y3 y4 y5 y6 a20 a21 a3 a4 a5 a22 a23 a24 a25 a26 a27 a28)]
    show mp_W E X 4 13 [(3, .ref a2), (0, .ref a0), (1, .int x0), (2, .int x1)] [.int 0] w2_ 0 0
    refine mp_run mp_k_cX9_person_ok hF mp_tabX9_ok [mp_h (.ifCond .ne 6) [19]] (by decide +kernel) ?_
    refine And.intro (fun c_8 => absurd c_8 (by decide)) (fun _ => ?_)
    show mp_W E X 4 16 [(3, .ref a2), (0, .ref a0), (1, .int x0), (2, .int x1)] [] w2_ 0 0
    refine mp_run mp_k_cX9_person_ok hF mp_tabX9_ok [mp_c (.bipush (-2)) (-2)] (by decide +kernel) ?_
    show mp_W E X 4 18 [(3, .ref a2), (0, .ref a0), (1, .int x0), (2, .int x1)] [.int (-2)] w2_ 0 0
    exact mp_iret hF hQ rfl rfl (Nat.le_of_ble_eq_true rfl) (Nat.le_of_ble_eq_true rfl) [0, 1, 5, 2, 3, 4] (w' := w1_) rfl rfl ⟨(-2), rfl, (by first | omega | decide | (have h8 : (0 : Int64).toInt = 0 := rfl; have h9 : (-1 : Int32).toInt = -1 := rfl; have h10 : (-2 : Int32).toInt = -2 := rfl; have h11 : (0 : Int32).toInt = 0 := rfl; have h12 : (1 : Int32).toInt = 1 := rfl; have h13 : (-5 : Int32).toInt = -5 := rfl; have h14 : (-3 : Int32).toInt = -3 := rfl; omega)), rfl⟩ (by first | exact mp_fd_ok mp_k_cX9_person_ok (by decide +kernel) | decide +kernel)
  · skip
    have c_5 : 0 ≤ x0.toInt := c_5
    have c_6 : x0.toInt < y4.toInt := c_6
    let w3_ : va_W := [(mp_ob9 a0 a6 a1 a7 a8 a9 a10 a11 a12 a13), (mp_ob0 a1 a2 y0 a14 a15 a16 a17 a18 a19), (mp_arI E a3 0 6 f0), (mp_arI E a4 0 6 f1), (mp_arI E a5 0 6 f2), (mp_ob7 a2 y1 y2 y3 y4 y5 y6 a20 a21 a3 a4 a5 a22 a23 a24 a25 a26 a27 a28)]
    show mp_W E X 4 13 [(3, .ref a2), (0, .ref a0), (1, .int x0), (2, .int x1)] [.int 1] w3_ 0 0
    refine mp_run mp_k_cX9_person_ok hF mp_tabX9_ok [mp_h (.ifCond .ne 6) [19]] (by decide +kernel) ?_
    refine And.intro (fun _ => ?_) (fun c_9 => absurd c_9 (by decide))
    show mp_W E X 4 19 [(3, .ref a2), (0, .ref a0), (1, .int x0), (2, .int x1)] [] w3_ 0 0
    refine mp_run mp_k_cX9_person_ok hF mp_tabX9_ok [mp_i (.iload_n 2)] (by decide +kernel) ?_
    show mp_W E X 4 20 [(3, .ref a2), (0, .ref a0), (1, .int x0), (2, .int x1)] [.int x1] w3_ 0 0
    rcases (mp_swc_0_2 x1.toInt) with c_10 | c_10 | c_10 | c_10 | c_10
    · refine mp_tabOut hF (dflt := 49) (lo := 0) (hi := 2) (offs := #[28, 35, 42]) (len := 28) (by first | exact mp_fd_ok mp_k_cX9_person_ok (by decide +kernel) | decide +kernel) (Or.inl c_10) (tgt := 69) (by decide) ?_
      show mp_W E X 4 69 [(3, .ref a2), (0, .ref a0), (1, .int x0), (2, .int x1)] [] w3_ 0 0
      refine mp_run mp_k_cX9_person_ok hF mp_tabX9_ok [mp_c (.bipush (-2)) (-2)] (by decide +kernel) ?_
      show mp_W E X 4 71 [(3, .ref a2), (0, .ref a0), (1, .int x0), (2, .int x1)] [.int (-2)] w3_ 0 0
      exact mp_iret hF hQ rfl rfl (Nat.le_of_ble_eq_true rfl) (Nat.le_of_ble_eq_true rfl) [0, 1, 5, 2, 3, 4] (w' := w1_) rfl rfl ⟨(-2), rfl, (by first | omega | decide | (have h8 : (0 : Int64).toInt = 0 := rfl; have h9 : (-1 : Int32).toInt = -1 := rfl; have h10 : (-2 : Int32).toInt = -2 := rfl; have h11 : (0 : Int32).toInt = 0 := rfl; have h12 : (1 : Int32).toInt = 1 := rfl; have h13 : (-5 : Int32).toInt = -5 := rfl; have h14 : (-3 : Int32).toInt = -3 := rfl; omega)), rfl⟩ (by first | exact mp_fd_ok mp_k_cX9_person_ok (by decide +kernel) | decide +kernel)
    · refine mp_tabOut hF (dflt := 49) (lo := 0) (hi := 2) (offs := #[28, 35, 42]) (len := 28) (by first | exact mp_fd_ok mp_k_cX9_person_ok (by decide +kernel) | decide +kernel) (Or.inr c_10) (tgt := 69) (by decide) ?_
      show mp_W E X 4 69 [(3, .ref a2), (0, .ref a0), (1, .int x0), (2, .int x1)] [] w3_ 0 0
      refine mp_run mp_k_cX9_person_ok hF mp_tabX9_ok [mp_c (.bipush (-2)) (-2)] (by decide +kernel) ?_
      show mp_W E X 4 71 [(3, .ref a2), (0, .ref a0), (1, .int x0), (2, .int x1)] [.int (-2)] w3_ 0 0
      exact mp_iret hF hQ rfl rfl (Nat.le_of_ble_eq_true rfl) (Nat.le_of_ble_eq_true rfl) [0, 1, 5, 2, 3, 4] (w' := w1_) rfl rfl ⟨(-2), rfl, (by first | omega | decide | (have h8 : (0 : Int64).toInt = 0 := rfl; have h9 : (-1 : Int32).toInt = -1 := rfl; have h10 : (-2 : Int32).toInt = -2 := rfl; have h11 : (0 : Int32).toInt = 0 := rfl; have h12 : (1 : Int32).toInt = 1 := rfl; have h13 : (-5 : Int32).toInt = -5 := rfl; have h14 : (-3 : Int32).toInt = -3 := rfl; omega)), rfl⟩ (by first | exact mp_fd_ok mp_k_cX9_person_ok (by decide +kernel) | decide +kernel)
    · refine mp_tabIn hF (dflt := 49) (lo := 0) (hi := 2) (offs := #[28, 35, 42]) (len := 28) (off := 28) (tgt := 48) (by first | exact mp_fd_ok mp_k_cX9_person_ok (by decide +kernel) | decide +kernel) (by omega) (by omega) (by rw [c_10]; rfl) (by decide) ?_
      show mp_W E X 4 48 [(3, .ref a2), (0, .ref a0), (1, .int x0), (2, .int x1)] [] w3_ 0 0
      refine mp_run mp_k_cX9_person_ok hF mp_tabX9_ok [mp_i (.aload_n 3), mp_h (.getfield 110) [6, 5], mp_i (.iload_n 1), mp_h .iaload [2]] (by decide +kernel) ?_
      refine And.intro rfl (And.intro rfl ?_)
      refine And.intro rfl (And.intro rfl (And.intro (vp_in_iff.mpr (by omega)) ?_))
      intro z_11 h_12
      have e_13 : 0 ≤ z_11.toInt ∧ z_11.toInt ≤ 5 := mp_all_ld h_12 p0 (by omega) (by omega)
      have e_14 : z_11.toInt = (f0 (x0.toInt).toNat).toInt := mp_at_i h_12 (by omega)
      show mp_W E X 4 54 [(3, .ref a2), (0, .ref a0), (1, .int x0), (2, .int x1)] [.int z_11] w3_ 0 0
      exact mp_iret hF hQ rfl rfl (Nat.le_of_ble_eq_true rfl) (Nat.le_of_ble_eq_true rfl) [0, 1, 5, 2, 3, 4] (w' := w1_) rfl rfl ⟨z_11, rfl, (by first | omega | decide | (have h8 : (0 : Int64).toInt = 0 := rfl; have h9 : (-1 : Int32).toInt = -1 := rfl; have h10 : (-2 : Int32).toInt = -2 := rfl; have h11 : (0 : Int32).toInt = 0 := rfl; have h12 : (1 : Int32).toInt = 1 := rfl; have h13 : (-5 : Int32).toInt = -5 := rfl; have h14 : (-3 : Int32).toInt = -3 := rfl; omega)), rfl⟩ (by first | exact mp_fd_ok mp_k_cX9_person_ok (by decide +kernel) | decide +kernel)
    · refine mp_tabIn hF (dflt := 49) (lo := 0) (hi := 2) (offs := #[28, 35, 42]) (len := 28) (off := 35) (tgt := 55) (by first | exact mp_fd_ok mp_k_cX9_person_ok (by decide +kernel) | decide +kernel) (by omega) (by omega) (by rw [c_10]; rfl) (by decide) ?_
      show mp_W E X 4 55 [(3, .ref a2), (0, .ref a0), (1, .int x0), (2, .int x1)] [] w3_ 0 0
      refine mp_run mp_k_cX9_person_ok hF mp_tabX9_ok [mp_i (.aload_n 3), mp_h (.getfield 114) [7, 5], mp_i (.iload_n 1), mp_h .iaload [3]] (by decide +kernel) ?_
      refine And.intro rfl (And.intro rfl ?_)
      refine And.intro rfl (And.intro rfl (And.intro (vp_in_iff.mpr (by omega)) ?_))
      intro z_15 h_16
      have e_17 : z_15.toInt = (f1 (x0.toInt).toNat).toInt := mp_at_i h_16 (by omega)
      show mp_W E X 4 61 [(3, .ref a2), (0, .ref a0), (1, .int x0), (2, .int x1)] [.int z_15] w3_ 0 0
      exact mp_iret hF hQ rfl rfl (Nat.le_of_ble_eq_true rfl) (Nat.le_of_ble_eq_true rfl) [0, 1, 5, 2, 3, 4] (w' := w1_) rfl rfl ⟨z_15, rfl, (by first | omega | decide | (have h8 : (0 : Int64).toInt = 0 := rfl; have h9 : (-1 : Int32).toInt = -1 := rfl; have h10 : (-2 : Int32).toInt = -2 := rfl; have h11 : (0 : Int32).toInt = 0 := rfl; have h12 : (1 : Int32).toInt = 1 := rfl; have h13 : (-5 : Int32).toInt = -5 := rfl; have h14 : (-3 : Int32).toInt = -3 := rfl; omega)), rfl⟩ (by first | exact mp_fd_ok mp_k_cX9_person_ok (by decide +kernel) | decide +kernel)
    · refine mp_tabIn hF (dflt := 49) (lo := 0) (hi := 2) (offs := #[28, 35, 42]) (len := 28) (off := 42) (tgt := 62) (by first | exact mp_fd_ok mp_k_cX9_person_ok (by decide +kernel) | decide +kernel) (by omega) (by omega) (by rw [c_10]; rfl) (by decide) ?_
      show mp_W E X 4 62 [(3, .ref a2), (0, .ref a0), (1, .int x0), (2, .int x1)] [] w3_ 0 0
      refine mp_run mp_k_cX9_person_ok hF mp_tabX9_ok [mp_i (.aload_n 3), mp_h (.getfield 117) [8, 5], mp_i (.iload_n 1), mp_h .iaload [4]] (by decide +kernel) ?_
      refine And.intro rfl (And.intro rfl ?_)
      refine And.intro rfl (And.intro rfl (And.intro (vp_in_iff.mpr (by omega)) ?_))
      intro z_18 h_19
      have e_20 : z_18.toInt = (f2 (x0.toInt).toNat).toInt := mp_at_i h_19 (by omega)
      show mp_W E X 4 68 [(3, .ref a2), (0, .ref a0), (1, .int x0), (2, .int x1)] [.int z_18] w3_ 0 0
      exact mp_iret hF hQ rfl rfl (Nat.le_of_ble_eq_true rfl) (Nat.le_of_ble_eq_true rfl) [0, 1, 5, 2, 3, 4] (w' := w1_) rfl rfl ⟨z_18, rfl, (by first | omega | decide | (have h8 : (0 : Int64).toInt = 0 := rfl; have h9 : (-1 : Int32).toInt = -1 := rfl; have h10 : (-2 : Int32).toInt = -2 := rfl; have h11 : (0 : Int32).toInt = 0 := rfl; have h12 : (1 : Int32).toInt = 1 := rfl; have h13 : (-5 : Int32).toInt = -5 := rfl; have h14 : (-3 : Int32).toInt = -3 := rfl; omega)), rfl⟩ (by first | exact mp_fd_ok mp_k_cX9_person_ok (by decide +kernel) | decide +kernel)
