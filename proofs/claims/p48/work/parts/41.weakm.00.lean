set_option maxHeartbeats 4000000 in
set_option maxRecDepth 100000 in
theorem bX10_next_12 (E : mp_E) (a0 a1 a2 a3 a4 a5 a6 a7 a8 a9 a10 a11 a12 a13 a14 a15 a16 a17 a18 a19 a20 a21 a22 a23 a24 a25 : Nat) (f0 : Nat → Int32) (y0 : Int32) (y1 : Int32) (y2 : Int32) (y3 : Int32) (y4 : Int32) (y5 : Int32) (y6 : Int64) (y7 : Int32) (y8 : Int32) (y9 : Int32) (y10 : Int32) (y11 : Int32) (y12 : Int32) (y13 : Int32) (y14 : Int32) (y15 : Int32) (y16 : Int32) (y17 : Int32) (y18 : Int32) (y19 : Int32) (y20 : Int32) (y21 : Int32) (l_y1 : 0 ≤ y1.toInt) (u_y1 : y1.toInt ≤ 1600) (l_y2 : 0 ≤ y2.toInt) (u_y2 : y2.toInt ≤ 1600) (l_y3 : 0 ≤ y3.toInt) (u_y3 : y3.toInt ≤ 4) (l_y4 : 0 ≤ y4.toInt) (u_y4 : y4.toInt ≤ 1600) (l_y11 : 0 ≤ y11.toInt) (u_y11 : y11.toInt ≤ 99) (l_y12 : 0 ≤ y12.toInt) (u_y12 : y12.toInt ≤ 5) (l_y13 : 0 ≤ y13.toInt) (u_y13 : y13.toInt ≤ 12) (q0 : y2.toInt ≤ y1.toInt) : mp_Ct E yX10_next cX10_next 2 none 1 0 0 23 [.ref a0] [(mp_ob10 a0 y0 a2 a3 a4 a5 a1 y1 y2 y3 y4 y5 y6 y7 y8 y9 y10 a6 a7 a8 a9 a10 a11 a12 a13 y11 a14 a15 a16 a17 y12 y13 y14 a18 a19 y15 y16 a20 a21 a22 y17 y18 y19 y20 a23 a24 a25 y21), (mp_arI E a1 1 1600 f0)] (fun v w' => ∃ r1 : Int32, ∃ r2 : Int32, ∃ r3 : Int32, ∃ r4 : Int32, ∃ r5 : Int64, v = none ∧ 0 ≤ r1.toInt ∧ r1.toInt ≤ 1600 ∧ 0 ≤ r2.toInt ∧ r2.toInt ≤ 4 ∧ 0 ≤ r3.toInt ∧ r3.toInt ≤ 1600 ∧ 0 ≤ r4.toInt ∧ r4.toInt ≤ 10000009 ∧ (-1) ≤ r5.toInt ∧ r5.toInt ≤ 150094635296999121 ∧ (r1.toInt ≤ y1.toInt) ∧ ((r2.toInt = 0 ∧ y2.toInt ≤ r1.toInt) ∨ y2.toInt + 1 ≤ r1.toInt) ∧ (r3.toInt = ((mp_TS f0 (y1.toInt).toNat (y2.toInt).toNat : Nat) : Int)) ∧ (mp_MT f0 y1.toInt r2.toInt r3.toInt r1.toInt r4.toInt r5.toInt) ∧ w' = [(mp_ob10 a0 y0 a2 a3 a4 a5 a1 y1 r1 r2 r3 r4 r5 y7 y8 y9 y10 a6 a7 a8 a9 a10 a11 a12 a13 y11 a14 a15 a16 a17 y12 y13 y14 a18 a19 y15 y16 a20 a21 a22 y17 y18 y19 y20 a23 a24 a25 y21), (mp_arI E a1 1 1600 f0)]) := by
  refine mp_met false (by decide) (by decide) (Nat.le_of_ble_eq_true rfl) (fun X hF hQ => ?_)
  have hF : mp_F E X (RX10, cX10_next, 2, (1, 0, 0, 23), none, false) := hF
  have i_1 : (0 : Int32).toInt = 0 := by decide
  have i_2 : (1 : Int32).toInt = 1 := by decide
  have i_3 : (2 : Int32).toInt = 2 := by decide
  have i_4 : (3 : Int32).toInt = 3 := by decide
  have i_5 : (4 : Int32).toInt = 4 := by decide
  have i_6 : (10 : Int32).toInt = 10 := by decide
  have i_7 : (32 : Int32).toInt = 32 := by decide
  have i_8 : (48 : Int32).toInt = 48 := by decide
  have i_9 : (57 : Int32).toInt = 57 := by decide
  have i_10 : (59 : Int32).toInt = 59 := by decide
  have i_11 : (97 : Int32).toInt = 97 := by decide
  have i_12 : (122 : Int32).toInt = 122 := by decide
  have i_13 : (1000000 : Int32).toInt = 1000000 := by decide
  have i_14 : (10000000 : Int32).toInt = 10000000 := by decide
  let w1_ : va_W := [(mp_ob10 a0 y0 a2 a3 a4 a5 a1 y1 y2 y3 y4 y5 y6 y7 y8 y9 y10 a6 a7 a8 a9 a10 a11 a12 a13 y11 a14 a15 a16 a17 y12 y13 y14 a18 a19 y15 y16 a20 a21 a22 y17 y18 y19 y20 a23 a24 a25 y21), (mp_arI E a1 1 1600 f0)]
  show mp_W E X 2 0 [(0, .ref a0)] [] w1_ 0 0
  have jp_22 : ∀ (i_15 : Int32), 0 ≤ i_15.toInt → i_15.toInt ≤ 1600 → (i_15.toInt ≤ y1.toInt) → (y2.toInt ≤ i_15.toInt) → (mp_TS f0 (y1.toInt).toNat (y2.toInt).toNat = (i_15.toInt).toNat) → (mp_TS f0 (y1.toInt).toNat (i_15.toInt).toNat = (i_15.toInt).toNat) → mp_W E X 2 43 [(0, .ref a0)] [] [(mp_ob10 a0 y0 a2 a3 a4 a5 a1 y1 i_15 y3 y4 y5 y6 y7 y8 y9 y10 a6 a7 a8 a9 a10 a11 a12 a13 y11 a14 a15 a16 a17 y12 y13 y14 a18 a19 y15 y16 a20 a21 a22 y17 y18 y19 y20 a23 a24 a25 y21), (mp_arI E a1 1 1600 f0)] 0 0 := by
    intro i_15 l_16 u_17 x_18 x_19 x_20 x_21
    refine mp_run mp_k_cX10_next_ok hF mp_tabX10_ok [mp_i (.aload_n 0), mp_i (.aload_n 0), mp_h (.getfield 116) [7, 0], mp_h (.putfield 123) [9, 0]] (by decide +kernel) ?_
    refine And.intro rfl (And.intro rfl ?_)
    refine And.intro rfl (And.intro rfl (And.intro rfl (And.intro rfl (And.intro (Nat.le_of_ble_eq_true rfl) ?_))))
    let w2_ : va_W := [(mp_ob10 a0 y0 a2 a3 a4 a5 a1 y1 i_15 y3 i_15 y5 y6 y7 y8 y9 y10 a6 a7 a8 a9 a10 a11 a12 a13 y11 a14 a15 a16 a17 y12 y13 y14 a18 a19 y15 y16 a20 a21 a22 y17 y18 y19 y20 a23 a24 a25 y21), (mp_arI E a1 1 1600 f0)]
    show mp_W E X 2 51 [(0, .ref a0)] [] w2_ 0 0
    refine mp_run mp_k_cX10_next_ok hF mp_tabX10_ok [mp_i (.aload_n 0), mp_c (.iconst 0) 0, mp_h (.putfield 126) [10, 0]] (by decide +kernel) ?_
    refine And.intro rfl (And.intro rfl (And.intro rfl (And.intro rfl (And.intro (Nat.le_of_ble_eq_true rfl) ?_))))
    let w3_ : va_W := [(mp_ob10 a0 y0 a2 a3 a4 a5 a1 y1 i_15 y3 i_15 0 y6 y7 y8 y9 y10 a6 a7 a8 a9 a10 a11 a12 a13 y11 a14 a15 a16 a17 y12 y13 y14 a18 a19 y15 y16 a20 a21 a22 y17 y18 y19 y20 a23 a24 a25 y21), (mp_arI E a1 1 1600 f0)]
    show mp_W E X 2 56 [(0, .ref a0)] [] w3_ 0 0
    refine mp_run mp_k_cX10_next_ok hF mp_tabX10_ok [mp_i (.aload_n 0), mp_cl (.lconst 0) 0, mp_h (.putfield 129) [11, 0]] (by decide +kernel) ?_
    refine And.intro rfl (And.intro rfl (And.intro rfl (And.intro rfl (And.intro (Nat.le_of_ble_eq_true rfl) ?_))))
    let w4_ : va_W := [(mp_ob10 a0 y0 a2 a3 a4 a5 a1 y1 i_15 y3 i_15 0 0 y7 y8 y9 y10 a6 a7 a8 a9 a10 a11 a12 a13 y11 a14 a15 a16 a17 y12 y13 y14 a18 a19 y15 y16 a20 a21 a22 y17 y18 y19 y20 a23 a24 a25 y21), (mp_arI E a1 1 1600 f0)]
    show mp_W E X 2 61 [(0, .ref a0)] [] w4_ 0 0
    refine mp_run mp_k_cX10_next_ok hF mp_tabX10_ok [mp_i (.aload_n 0), mp_h (.getfield 116) [7, 0], mp_i (.aload_n 0), mp_h (.getfield 109) [6, 0], mp_h (.if_icmp .ne 11) [80]] (by decide +kernel) ?_
    refine And.intro rfl (And.intro rfl ?_)
    refine And.intro rfl (And.intro rfl ?_)
    refine And.intro (fun c_23 => ?_) (fun c_23 => ?_)
    · have c_23 : i_15.toInt ≠ y1.toInt := c_23
      show mp_W E X 2 80 [(0, .ref a0)] [] w4_ 0 0
      refine mp_run mp_k_cX10_next_ok hF mp_tabX10_ok [mp_i (.aload_n 0), mp_i (.aload_n 0), mp_h (.getfield 116) [7, 0], mp_c (.bipush 97) 97, mp_c (.bipush 122) 122] (by decide +kernel) ?_
      refine And.intro rfl (And.intro rfl ?_)
      show mp_W E X 2 89 [(0, .ref a0)] [.int 122, .int 97, .int i_15, .ref a0] w4_ 0 0
      refine mp_callV hF (As := [.int i_15, .int 97, .int 122]) (rest := []) (wr := []) (bX10_isByte_11 E a0 a1 a2 a3 a4 a5 a6 a7 a8 a9 a10 a11 a12 a13 a14 a15 a16 a17 a18 a19 a20 a21 a22 a23 a24 a25 f0 y0 y1 i_15 y3 i_15 0 0 y7 y8 y9 y10 y11 y12 y13 y14 y15 y16 y17 y18 y19 y20 y21 i_15 97 122 l_16 u_17 l_y1 u_y1 l_16 u_17 l_y3 u_y3 l_16 u_17 l_y11 u_y11 l_y12 u_y12 l_y13 u_y13) mp_lkX10_119 0 rfl [0, 1] [] rfl rfl rfl rfl rfl ⟨(Nat.le_of_ble_eq_true rfl), (Nat.le_of_ble_eq_true rfl), (Nat.le_of_ble_eq_true rfl), (Nat.le_of_ble_eq_true rfl)⟩ (Nat.le_of_ble_eq_true rfl) (by first | exact mp_fd_ok mp_k_cX10_next_ok (by decide +kernel) | decide +kernel) (fun v_24 w_25 h_26 => ?_)
      rcases h_26 with ⟨rfl, x_27, rfl⟩ | ⟨rfl, c_28, x_29, rfl⟩
      · skip
        show mp_W E X 2 92 [(0, .ref a0)] [.int 0] w4_ 0 0
        refine mp_run mp_k_cX10_next_ok hF mp_tabX10_ok [mp_h (.ifCond .eq 96) [188]] (by decide +kernel) ?_
        refine And.intro (fun _ => ?_) (fun c_30 => absurd c_30 (by decide))
        show mp_W E X 2 188 [(0, .ref a0)] [] w4_ 0 0
        refine mp_run mp_k_cX10_next_ok hF mp_tabX10_ok [mp_i (.aload_n 0), mp_i (.aload_n 0), mp_h (.getfield 116) [7, 0], mp_c (.bipush 48) 48, mp_c (.bipush 57) 57] (by decide +kernel) ?_
        refine And.intro rfl (And.intro rfl ?_)
        show mp_W E X 2 197 [(0, .ref a0)] [.int 57, .int 48, .int i_15, .ref a0] w4_ 0 0
        refine mp_callV hF (As := [.int i_15, .int 48, .int 57]) (rest := []) (wr := []) (bX10_isByte_11 E a0 a1 a2 a3 a4 a5 a6 a7 a8 a9 a10 a11 a12 a13 a14 a15 a16 a17 a18 a19 a20 a21 a22 a23 a24 a25 f0 y0 y1 i_15 y3 i_15 0 0 y7 y8 y9 y10 y11 y12 y13 y14 y15 y16 y17 y18 y19 y20 y21 i_15 48 57 l_16 u_17 l_y1 u_y1 l_16 u_17 l_y3 u_y3 l_16 u_17 l_y11 u_y11 l_y12 u_y12 l_y13 u_y13) mp_lkX10_119 0 rfl [0, 1] [] rfl rfl rfl rfl rfl ⟨(Nat.le_of_ble_eq_true rfl), (Nat.le_of_ble_eq_true rfl), (Nat.le_of_ble_eq_true rfl), (Nat.le_of_ble_eq_true rfl)⟩ (Nat.le_of_ble_eq_true rfl) (by first | exact mp_fd_ok mp_k_cX10_next_ok (by decide +kernel) | decide +kernel) (fun v_31 w_32 h_33 => ?_)
        rcases h_33 with ⟨rfl, x_34, rfl⟩ | ⟨rfl, c_35, x_36, rfl⟩
        · skip
          show mp_W E X 2 200 [(0, .ref a0)] [.int 0] w4_ 0 0
          refine mp_run mp_k_cX10_next_ok hF mp_tabX10_ok [mp_h (.ifCond .eq 74) [274]] (by decide +kernel) ?_
          refine And.intro (fun _ => ?_) (fun c_37 => absurd c_37 (by decide))
          show mp_W E X 2 274 [(0, .ref a0)] [] w4_ 0 0
          refine mp_run mp_k_cX10_next_ok hF mp_tabX10_ok [mp_i (.aload_n 0), mp_i (.aload_n 0), mp_h (.getfield 23) [5, 0], mp_i (.aload_n 0), mp_h (.getfield 116) [7, 0], mp_h .baload [1], mp_c (.bipush 59) 59, mp_h (.if_icmp .ne 7) [293]] (by decide +kernel) ?_
          refine And.intro rfl (And.intro rfl ?_)
          refine And.intro rfl (And.intro rfl ?_)
          refine And.intro rfl (And.intro rfl (And.intro (vp_in_iff.mpr (by omega)) ?_))
          intro z_38 h_39
          have e_40 : z_38.toInt = (f0 i_15.toInt.toNat).toInt := congrArg Int32.toInt h_39
          refine And.intro (fun c_41 => ?_) (fun c_41 => ?_)
          · have c_41 : z_38.toInt ≠ 59 := c_41
            show mp_W E X 2 293 [(0, .ref a0)] [.ref a0] w4_ 0 0
            refine mp_run mp_k_cX10_next_ok hF mp_tabX10_ok [mp_c (.iconst 4) 4, mp_h (.putfield 133) [8, 0]] (by decide +kernel) ?_
            refine And.intro rfl (And.intro rfl (And.intro rfl (And.intro rfl (And.intro (Nat.le_of_ble_eq_true rfl) ?_))))
            let w5_ : va_W := [(mp_ob10 a0 y0 a2 a3 a4 a5 a1 y1 i_15 4 i_15 0 0 y7 y8 y9 y10 a6 a7 a8 a9 a10 a11 a12 a13 y11 a14 a15 a16 a17 y12 y13 y14 a18 a19 y15 y16 a20 a21 a22 y17 y18 y19 y20 a23 a24 a25 y21), (mp_arI E a1 1 1600 f0)]
            show mp_W E X 2 297 [(0, .ref a0)] [] w5_ 0 0
            refine mp_run mp_k_cX10_next_ok hF mp_tabX10_ok [mp_i (.aload_n 0), mp_i .dup, mp_h (.getfield 116) [7, 0], mp_c (.iconst 1) 1, mp_i .iadd, mp_h (.putfield 116) [7, 0]] (by decide +kernel) ?_
            refine And.intro rfl ?_
            refine And.intro rfl (And.intro rfl ?_)
            intro z_42 h_43
            have e_44 : z_42.toInt = i_15.toInt + 1 := mp_add (a := i_15.toInt) (b := 1) h_43 rfl (by decide) (by omega) (by omega)
            refine And.intro rfl (And.intro rfl (And.intro rfl (And.intro rfl (And.intro (Nat.le_of_ble_eq_true rfl) ?_))))
            let w6_ : va_W := [(mp_ob10 a0 y0 a2 a3 a4 a5 a1 y1 z_42 4 i_15 0 0 y7 y8 y9 y10 a6 a7 a8 a9 a10 a11 a12 a13 y11 a14 a15 a16 a17 y12 y13 y14 a18 a19 y15 y16 a20 a21 a22 y17 y18 y19 y20 a23 a24 a25 y21), (mp_arI E a1 1 1600 f0)]
            show mp_W E X 2 307 [(0, .ref a0)] [] w6_ 0 0
            exact mp_vret hF hQ rfl (Nat.le_of_ble_eq_true rfl) (Nat.le_of_ble_eq_true rfl) [0, 1] (w' := w6_) rfl rfl ⟨z_42, 4, i_15, 0, 0, rfl, (by omega), (by omega), (by decide), (by decide), l_16, u_17, (by decide), (by decide), (by decide), (by decide), (by first | omega | decide | (have h8 : (0 : Int32).toInt = 0 := rfl; omega)), (by first | omega | decide | (have h8 : (0 : Int32).toInt = 0 := rfl; omega)), (by have t9 := x_20; omega), ⟨x_21, (by have t9 := (mp_tok3 (k := 4) x_21 (by omega) (mp_lef (by omega)) (mp_dif (by omega)) (by omega)); rw [t9.1]; first | rfl | decide), (by have t9 := (mp_tok3 (k := 4) x_21 (by omega) (mp_lef (by omega)) (mp_dif (by omega)) (by omega)); omega), (Or.inl (by decide)), (Or.inl (by decide))⟩, rfl⟩ (by first | exact mp_fd_ok mp_k_cX10_next_ok (by decide +kernel) | decide +kernel)
          · have c_41 : z_38.toInt = 59 := (congrArg Int32.toInt c_41)
            show mp_W E X 2 289 [(0, .ref a0)] [.ref a0] w4_ 0 0
            refine mp_run mp_k_cX10_next_ok hF mp_tabX10_ok [mp_c (.iconst 3) 3, mp_h (.goto 4) [294], mp_h (.putfield 133) [8, 0]] (by decide +kernel) ?_
            refine And.intro rfl (And.intro rfl (And.intro rfl (And.intro rfl (And.intro (Nat.le_of_ble_eq_true rfl) ?_))))
            let w7_ : va_W := [(mp_ob10 a0 y0 a2 a3 a4 a5 a1 y1 i_15 3 i_15 0 0 y7 y8 y9 y10 a6 a7 a8 a9 a10 a11 a12 a13 y11 a14 a15 a16 a17 y12 y13 y14 a18 a19 y15 y16 a20 a21 a22 y17 y18 y19 y20 a23 a24 a25 y21), (mp_arI E a1 1 1600 f0)]
            show mp_W E X 2 297 [(0, .ref a0)] [] w7_ 0 0
            refine mp_run mp_k_cX10_next_ok hF mp_tabX10_ok [mp_i (.aload_n 0), mp_i .dup, mp_h (.getfield 116) [7, 0], mp_c (.iconst 1) 1, mp_i .iadd, mp_h (.putfield 116) [7, 0]] (by decide +kernel) ?_
            refine And.intro rfl ?_
            refine And.intro rfl (And.intro rfl ?_)
            intro z_45 h_46
            have e_47 : z_45.toInt = i_15.toInt + 1 := mp_add (a := i_15.toInt) (b := 1) h_46 rfl (by decide) (by omega) (by omega)
            refine And.intro rfl (And.intro rfl (And.intro rfl (And.intro rfl (And.intro (Nat.le_of_ble_eq_true rfl) ?_))))
            let w8_ : va_W := [(mp_ob10 a0 y0 a2 a3 a4 a5 a1 y1 z_45 3 i_15 0 0 y7 y8 y9 y10 a6 a7 a8 a9 a10 a11 a12 a13 y11 a14 a15 a16 a17 y12 y13 y14 a18 a19 y15 y16 a20 a21 a22 y17 y18 y19 y20 a23 a24 a25 y21), (mp_arI E a1 1 1600 f0)]
            show mp_W E X 2 307 [(0, .ref a0)] [] w8_ 0 0
            exact mp_vret hF hQ rfl (Nat.le_of_ble_eq_true rfl) (Nat.le_of_ble_eq_true rfl) [0, 1] (w' := w8_) rfl rfl ⟨z_45, 3, i_15, 0, 0, rfl, (by omega), (by omega), (by decide), (by decide), l_16, u_17, (by decide), (by decide), (by decide), (by decide), (by first | omega | decide | (have h8 : (0 : Int32).toInt = 0 := rfl; omega)), (by first | omega | decide | (have h8 : (0 : Int32).toInt = 0 := rfl; omega)), (by have t9 := x_20; omega), ⟨x_21, (by have t9 := (mp_tok3 (k := 3) x_21 (by omega) (mp_lef (by omega)) (mp_dif (by omega)) (by omega)); rw [t9.1]; first | rfl | decide), (by have t9 := (mp_tok3 (k := 3) x_21 (by omega) (mp_lef (by omega)) (mp_dif (by omega)) (by omega)); omega), (Or.inl (by decide)), (Or.inl (by decide))⟩, rfl⟩ (by first | exact mp_fd_ok mp_k_cX10_next_ok (by decide +kernel) | decide +kernel)
        · skip
          have c_35 : i_15.toInt < y1.toInt := c_35
          show mp_W E X 2 200 [(0, .ref a0)] [.int 1] w4_ 0 0
          refine mp_run mp_k_cX10_next_ok hF mp_tabX10_ok [mp_h (.ifCond .eq 74) [274]] (by decide +kernel) ?_
          refine And.intro (fun c_48 => absurd c_48 (by decide)) (fun _ => ?_)
          show mp_W E X 2 203 [(0, .ref a0)] [] w4_ 0 0
          refine mp_run mp_k_cX10_next_ok hF mp_tabX10_ok [mp_i (.aload_n 0), mp_c (.iconst 2) 2, mp_h (.putfield 133) [8, 0]] (by decide +kernel) ?_
          refine And.intro rfl (And.intro rfl (And.intro rfl (And.intro rfl (And.intro (Nat.le_of_ble_eq_true rfl) ?_))))
          let w9_ : va_W := [(mp_ob10 a0 y0 a2 a3 a4 a5 a1 y1 i_15 2 i_15 0 0 y7 y8 y9 y10 a6 a7 a8 a9 a10 a11 a12 a13 y11 a14 a15 a16 a17 y12 y13 y14 a18 a19 y15 y16 a20 a21 a22 y17 y18 y19 y20 a23 a24 a25 y21), (mp_arI E a1 1 1600 f0)]
          show mp_W E X 2 208 [(0, .ref a0)] [] w9_ 0 0
          refine mp_run mp_k_cX10_next_ok hF mp_tabX10_ok [mp_i (.aload_n 0), mp_i (.aload_n 0), mp_h (.getfield 116) [7, 0], mp_c (.bipush 48) 48, mp_c (.bipush 57) 57] (by decide +kernel) ?_
          refine And.intro rfl (And.intro rfl ?_)
          show mp_W E X 2 217 [(0, .ref a0)] [.int 57, .int 48, .int i_15, .ref a0] w9_ 0 0
          refine mp_callV hF (As := [.int i_15, .int 48, .int 57]) (rest := []) (wr := []) (bX10_isByte_11 E a0 a1 a2 a3 a4 a5 a6 a7 a8 a9 a10 a11 a12 a13 a14 a15 a16 a17 a18 a19 a20 a21 a22 a23 a24 a25 f0 y0 y1 i_15 2 i_15 0 0 y7 y8 y9 y10 y11 y12 y13 y14 y15 y16 y17 y18 y19 y20 y21 i_15 48 57 l_16 u_17 l_y1 u_y1 l_16 u_17 (by decide) (by decide) l_16 u_17 l_y11 u_y11 l_y12 u_y12 l_y13 u_y13) mp_lkX10_119 0 rfl [0, 1] [] rfl rfl rfl rfl rfl ⟨(Nat.le_of_ble_eq_true rfl), (Nat.le_of_ble_eq_true rfl), (Nat.le_of_ble_eq_true rfl), (Nat.le_of_ble_eq_true rfl)⟩ (Nat.le_of_ble_eq_true rfl) (by first | exact mp_fd_ok mp_k_cX10_next_ok (by decide +kernel) | decide +kernel) (fun v_49 w_50 h_51 => ?_)
          rcases h_51 with ⟨rfl, x_52, rfl⟩ | ⟨rfl, c_53, x_54, rfl⟩
          · skip
            exfalso; omega
          · skip
            have c_53 : i_15.toInt < y1.toInt := c_53
            show mp_W E X 2 220 [(0, .ref a0)] [.int 1] w9_ 0 0
            refine mp_run mp_k_cX10_next_ok hF mp_tabX10_ok [mp_h (.ifCond .eq 87) [307]] (by decide +kernel) ?_
            refine And.intro (fun c_55 => absurd c_55 (by decide)) (fun _ => ?_)
            show mp_W E X 2 223 [(0, .ref a0)] [] w9_ 0 0
            refine mp_run mp_k_cX10_next_ok hF mp_tabX10_ok [mp_i (.aload_n 0), mp_i (.aload_n 0), mp_h (.getfield 126) [10, 0], mp_c (.ldc 142) 1000000, mp_h (.if_icmp .le 8) [238]] (by decide +kernel) ?_
            refine And.intro rfl (And.intro rfl ?_)
            refine And.intro (fun _ => ?_) (fun c_56 => absurd c_56 (by decide))
            show mp_W E X 2 238 [(0, .ref a0)] [.ref a0] w9_ 0 0
            refine mp_run mp_k_cX10_next_ok hF mp_tabX10_ok [mp_c (.bipush 10) 10, mp_i (.aload_n 0), mp_h (.getfield 126) [10, 0], mp_i .imul, mp_i (.aload_n 0), mp_h (.getfield 23) [5, 0], mp_i (.aload_n 0), mp_h (.getfield 116) [7, 0], mp_h .baload [1], mp_i .iadd, mp_c (.bipush 48) 48, mp_i .isub, mp_h (.putfield 126) [10, 0]] (by decide +kernel) ?_
            refine And.intro rfl (And.intro rfl ?_)
            intro z_57 h_58
            obtain rfl : z_57 = 0 := h_58.trans (by decide)
            refine And.intro rfl (And.intro rfl ?_)
            refine And.intro rfl (And.intro rfl ?_)
            refine And.intro rfl (And.intro rfl (And.intro (vp_in_iff.mpr (by omega)) ?_))
            intro z_59 h_60
            have e_61 : z_59.toInt = (f0 i_15.toInt.toNat).toInt := congrArg Int32.toInt h_60
            intro z_62 h_63
            have e_64 : z_62.toInt = 0 + z_59.toInt := mp_add (a := 0) (b := z_59.toInt) h_63 (by decide) rfl (by omega) (by omega)
            intro z_65 h_66
            have e_67 : z_65.toInt = z_62.toInt - 48 := mp_subi (a := z_62.toInt) (b := 48) h_66 rfl (by decide) (by omega) (by omega)
            refine And.intro rfl (And.intro rfl (And.intro rfl (And.intro rfl (And.intro (Nat.le_of_ble_eq_true rfl) ?_))))
            let w10_ : va_W := [(mp_ob10 a0 y0 a2 a3 a4 a5 a1 y1 i_15 2 i_15 z_65 0 y7 y8 y9 y10 a6 a7 a8 a9 a10 a11 a12 a13 y11 a14 a15 a16 a17 y12 y13 y14 a18 a19 y15 y16 a20 a21 a22 y17 y18 y19 y20 a23 a24 a25 y21), (mp_arI E a1 1 1600 f0)]
            show mp_W E X 2 261 [(0, .ref a0)] [] w10_ 0 0
            refine mp_run mp_k_cX10_next_ok hF mp_tabX10_ok [mp_i (.aload_n 0), mp_i .dup, mp_h (.getfield 116) [7, 0], mp_c (.iconst 1) 1, mp_i .iadd, mp_h (.putfield 116) [7, 0]] (by decide +kernel) ?_
            refine And.intro rfl ?_
            refine And.intro rfl (And.intro rfl ?_)
            intro z_68 h_69
            have e_70 : z_68.toInt = i_15.toInt + 1 := mp_add (a := i_15.toInt) (b := 1) h_69 rfl (by decide) (by omega) (by omega)
            refine And.intro rfl (And.intro rfl (And.intro rfl (And.intro rfl (And.intro (Nat.le_of_ble_eq_true rfl) ?_))))
            let w11_ : va_W := [(mp_ob10 a0 y0 a2 a3 a4 a5 a1 y1 z_68 2 i_15 z_65 0 y7 y8 y9 y10 a6 a7 a8 a9 a10 a11 a12 a13 y11 a14 a15 a16 a17 y12 y13 y14 a18 a19 y15 y16 a20 a21 a22 y17 y18 y19 y20 a23 a24 a25 y21), (mp_arI E a1 1 1600 f0)]
            show mp_W E X 2 271 [(0, .ref a0)] [] w11_ 0 0
            refine mp_run mp_k_cX10_next_ok hF mp_tabX10_ok [mp_h (.goto (-63)) [208]] (by decide +kernel) ?_
            show mp_W E X 2 208 [(0, .ref a0)] [] w11_ 0 0
            have lp_82 : ∀ (d_83 : Nat) (i_71 : Int32) (i_72 : Int32), 0 ≤ i_71.toInt → i_71.toInt ≤ 1600 → 0 ≤ i_72.toInt → (i_71.toInt ≤ y1.toInt) → (y2.toInt + 1 ≤ i_71.toInt) → (∀ j : Nat, (i_15.toInt).toNat ≤ j → (j : Int) < i_71.toInt → mp_isDi (f0 j).toInt = true) → (i_15.toInt + 1 ≤ i_71.toInt) → (mp_capR i_72.toInt (mp_VV f0 (i_15.toInt).toNat (i_71.toInt - i_15.toInt).toNat)) → (0 ≤ i_72.toInt ∧ i_72.toInt ≤ 10000009) → y1.toInt - i_71.toInt ≤ (d_83 : Int) → mp_W E X 2 208 [(0, .ref a0)] [] [(mp_ob10 a0 y0 a2 a3 a4 a5 a1 y1 i_71 2 i_15 i_72 0 y7 y8 y9 y10 a6 a7 a8 a9 a10 a11 a12 a13 y11 a14 a15 a16 a17 y12 y13 y14 a18 a19 y15 y16 a20 a21 a22 y17 y18 y19 y20 a23 a24 a25 y21), (mp_arI E a1 1 1600 f0)] 0 0 := by
              intro d_83
              induction d_83 using Nat.strongRecOn with
              | ind d_83 ih_84 =>
                intro i_71 i_72 l_73 u_74 l_75 x_76 x_77 x_78 x_79 x_80 x_81 hm_85
                refine mp_run mp_k_cX10_next_ok hF mp_tabX10_ok [mp_i (.aload_n 0), mp_i (.aload_n 0), mp_h (.getfield 116) [7, 0], mp_c (.bipush 48) 48, mp_c (.bipush 57) 57] (by decide +kernel) ?_
                refine And.intro rfl (And.intro rfl ?_)
                let w12_ : va_W := [(mp_ob10 a0 y0 a2 a3 a4 a5 a1 y1 i_71 2 i_15 i_72 0 y7 y8 y9 y10 a6 a7 a8 a9 a10 a11 a12 a13 y11 a14 a15 a16 a17 y12 y13 y14 a18 a19 y15 y16 a20 a21 a22 y17 y18 y19 y20 a23 a24 a25 y21), (mp_arI E a1 1 1600 f0)]
                show mp_W E X 2 217 [(0, .ref a0)] [.int 57, .int 48, .int i_71, .ref a0] w12_ 0 0
                refine mp_callV hF (As := [.int i_71, .int 48, .int 57]) (rest := []) (wr := []) (bX10_isByte_11 E a0 a1 a2 a3 a4 a5 a6 a7 a8 a9 a10 a11 a12 a13 a14 a15 a16 a17 a18 a19 a20 a21 a22 a23 a24 a25 f0 y0 y1 i_71 2 i_15 i_72 0 y7 y8 y9 y10 y11 y12 y13 y14 y15 y16 y17 y18 y19 y20 y21 i_71 48 57 l_73 u_74 l_y1 u_y1 l_73 u_74 (by decide) (by decide) l_16 u_17 l_y11 u_y11 l_y12 u_y12 l_y13 u_y13) mp_lkX10_119 0 rfl [0, 1] [] rfl rfl rfl rfl rfl ⟨(Nat.le_of_ble_eq_true rfl), (Nat.le_of_ble_eq_true rfl), (Nat.le_of_ble_eq_true rfl), (Nat.le_of_ble_eq_true rfl)⟩ (Nat.le_of_ble_eq_true rfl) (by first | exact mp_fd_ok mp_k_cX10_next_ok (by decide +kernel) | decide +kernel) (fun v_86 w_87 h_88 => ?_)
                rcases h_88 with ⟨rfl, x_89, rfl⟩ | ⟨rfl, c_90, x_91, rfl⟩
                · skip
                  show mp_W E X 2 220 [(0, .ref a0)] [.int 0] w12_ 0 0
                  refine mp_run mp_k_cX10_next_ok hF mp_tabX10_ok [mp_h (.ifCond .eq 87) [307]] (by decide +kernel) ?_
                  refine And.intro (fun _ => ?_) (fun c_92 => absurd c_92 (by decide))
                  show mp_W E X 2 307 [(0, .ref a0)] [] w12_ 0 0
                  exact mp_vret hF hQ rfl (Nat.le_of_ble_eq_true rfl) (Nat.le_of_ble_eq_true rfl) [0, 1] (w' := w12_) rfl rfl ⟨i_71, 2, i_15, i_72, 0, rfl, l_73, u_74, (by decide), (by decide), l_16, u_17, l_75, (by omega), (by decide), (by decide), (by first | omega | decide | (have h8 : (0 : Int32).toInt = 0 := rfl; omega)), (by first | omega | decide | (have h8 : (0 : Int32).toInt = 0 := rfl; omega)), (by have t9 := x_20; omega), ⟨x_21, (by have t9 := (mp_tok2 x_21 (by omega) (mp_lef (by have q8 := (of_decide_eq_true (x_78 i_15.toInt.toNat (Nat.le_refl _) (by omega)) : 48 ≤ (f0 (i_15.toInt).toNat).toInt ∧ (f0 (i_15.toInt).toNat).toInt ≤ 57); omega)) (x_78 i_15.toInt.toNat (Nat.le_refl _) (by omega)) (mp_end_i (by omega) (by omega) (by omega) x_78 (if q9 : y1.toInt ≤ i_71.toInt then Or.inl q9 else Or.inr (mp_dif (by omega))))); rw [t9.1]; first | rfl | decide), (by have t9 := (mp_tok2 x_21 (by omega) (mp_lef (by have q8 := (of_decide_eq_true (x_78 i_15.toInt.toNat (Nat.le_refl _) (by omega)) : 48 ≤ (f0 (i_15.toInt).toNat).toInt ∧ (f0 (i_15.toInt).toNat).toInt ≤ 57); omega)) (x_78 i_15.toInt.toNat (Nat.le_refl _) (by omega)) (mp_end_i (by omega) (by omega) (by omega) x_78 (if q9 : y1.toInt ≤ i_71.toInt then Or.inl q9 else Or.inr (mp_dif (by omega))))); omega), (Or.inr (by have t9 := (mp_tok2 x_21 (by omega) (mp_lef (by have q8 := (of_decide_eq_true (x_78 i_15.toInt.toNat (Nat.le_refl _) (by omega)) : 48 ≤ (f0 (i_15.toInt).toNat).toInt ∧ (f0 (i_15.toInt).toNat).toInt ≤ 57); omega)) (x_78 i_15.toInt.toNat (Nat.le_refl _) (by omega)) (mp_end_i (by omega) (by omega) (by omega) x_78 (if q9 : y1.toInt ≤ i_71.toInt then Or.inl q9 else Or.inr (mp_dif (by omega))))); rw [mp_TV_eq x_21 t9.2 (by omega)]; exact x_80)), (Or.inl (by decide))⟩, rfl⟩ (by first | exact mp_fd_ok mp_k_cX10_next_ok (by decide +kernel) | decide +kernel)
                · skip
                  have c_90 : i_71.toInt < y1.toInt := c_90
                  show mp_W E X 2 220 [(0, .ref a0)] [.int 1] w12_ 0 0
                  refine mp_run mp_k_cX10_next_ok hF mp_tabX10_ok [mp_h (.ifCond .eq 87) [307]] (by decide +kernel) ?_
                  refine And.intro (fun c_93 => absurd c_93 (by decide)) (fun _ => ?_)
                  show mp_W E X 2 223 [(0, .ref a0)] [] w12_ 0 0
                  refine mp_run mp_k_cX10_next_ok hF mp_tabX10_ok [mp_i (.aload_n 0), mp_i (.aload_n 0), mp_h (.getfield 126) [10, 0], mp_c (.ldc 142) 1000000, mp_h (.if_icmp .le 8) [238]] (by decide +kernel) ?_
                  refine And.intro rfl (And.intro rfl ?_)
                  refine And.intro (fun c_94 => ?_) (fun c_94 => ?_)
                  · have c_94 : i_72.toInt ≤ 1000000 := c_94
                    show mp_W E X 2 238 [(0, .ref a0)] [.ref a0] w12_ 0 0
                    refine mp_run mp_k_cX10_next_ok hF mp_tabX10_ok [mp_c (.bipush 10) 10, mp_i (.aload_n 0), mp_h (.getfield 126) [10, 0], mp_i .imul, mp_i (.aload_n 0), mp_h (.getfield 23) [5, 0], mp_i (.aload_n 0), mp_h (.getfield 116) [7, 0], mp_h .baload [1], mp_i .iadd, mp_c (.bipush 48) 48, mp_i .isub, mp_h (.putfield 126) [10, 0]] (by decide +kernel) ?_
                    refine And.intro rfl (And.intro rfl ?_)
                    intro z_95 h_96
                    have e_97 : z_95.toInt = 10 * i_72.toInt := mp_mul (a := 10) (b := i_72.toInt) h_96 (by decide) rfl (by omega) (by omega)
                    refine And.intro rfl (And.intro rfl ?_)
                    refine And.intro rfl (And.intro rfl ?_)
                    refine And.intro rfl (And.intro rfl (And.intro (vp_in_iff.mpr (by omega)) ?_))
                    intro z_98 h_99
                    have e_100 : z_98.toInt = (f0 i_71.toInt.toNat).toInt := congrArg Int32.toInt h_99
                    intro z_101 h_102
                    have e_103 : z_101.toInt = z_95.toInt + z_98.toInt := mp_add (a := z_95.toInt) (b := z_98.toInt) h_102 rfl rfl (by omega) (by omega)
                    intro z_104 h_105
                    have e_106 : z_104.toInt = z_101.toInt - 48 := mp_subi (a := z_101.toInt) (b := 48) h_105 rfl (by decide) (by omega) (by omega)
                    refine And.intro rfl (And.intro rfl (And.intro rfl (And.intro rfl (And.intro (Nat.le_of_ble_eq_true rfl) ?_))))
                    let w13_ : va_W := [(mp_ob10 a0 y0 a2 a3 a4 a5 a1 y1 i_71 2 i_15 z_104 0 y7 y8 y9 y10 a6 a7 a8 a9 a10 a11 a12 a13 y11 a14 a15 a16 a17 y12 y13 y14 a18 a19 y15 y16 a20 a21 a22 y17 y18 y19 y20 a23 a24 a25 y21), (mp_arI E a1 1 1600 f0)]
                    show mp_W E X 2 261 [(0, .ref a0)] [] w13_ 0 0
                    refine mp_run mp_k_cX10_next_ok hF mp_tabX10_ok [mp_i (.aload_n 0), mp_i .dup, mp_h (.getfield 116) [7, 0], mp_c (.iconst 1) 1, mp_i .iadd, mp_h (.putfield 116) [7, 0]] (by decide +kernel) ?_
                    refine And.intro rfl ?_
                    refine And.intro rfl (And.intro rfl ?_)
                    intro z_107 h_108
                    have e_109 : z_107.toInt = i_71.toInt + 1 := mp_add (a := i_71.toInt) (b := 1) h_108 rfl (by decide) (by omega) (by omega)
                    refine And.intro rfl (And.intro rfl (And.intro rfl (And.intro rfl (And.intro (Nat.le_of_ble_eq_true rfl) ?_))))
                    let w14_ : va_W := [(mp_ob10 a0 y0 a2 a3 a4 a5 a1 y1 z_107 2 i_15 z_104 0 y7 y8 y9 y10 a6 a7 a8 a9 a10 a11 a12 a13 y11 a14 a15 a16 a17 y12 y13 y14 a18 a19 y15 y16 a20 a21 a22 y17 y18 y19 y20 a23 a24 a25 y21), (mp_arI E a1 1 1600 f0)]
                    show mp_W E X 2 271 [(0, .ref a0)] [] w14_ 0 0
                    refine mp_run mp_k_cX10_next_ok hF mp_tabX10_ok [mp_h (.goto (-63)) [208]] (by decide +kernel) ?_
                    show mp_W E X 2 208 [(0, .ref a0)] [] w14_ 0 0
                    exact mp_sub [0] rfl [0, 1] rfl rfl (ih_84 (d_83 - 1) (by omega) z_107 z_104 (by omega) (by omega) (by omega) (by omega) (by omega) (mp_all_s x_78 (mp_dit (by omega)) (by omega)) (by omega) (by rw [mp_VV_s (c := i_71.toInt) (by omega)]; exact mp_capR_s x_80 (by omega) (mp_VV_i (by omega) x_78) (by first | omega | exact Or.inl ⟨by omega, by decide⟩)) (by first | omega | decide) (by omega))
                  · have c_94 : 1000000 < i_72.toInt := c_94
                    show mp_W E X 2 233 [(0, .ref a0)] [.ref a0] w12_ 0 0
                    refine mp_run mp_k_cX10_next_ok hF mp_tabX10_ok [mp_c (.ldc 143) 10000000, mp_h (.goto 23) [258], mp_h (.putfield 126) [10, 0]] (by decide +kernel) ?_
                    refine And.intro rfl (And.intro rfl (And.intro rfl (And.intro rfl (And.intro (Nat.le_of_ble_eq_true rfl) ?_))))
                    let w15_ : va_W := [(mp_ob10 a0 y0 a2 a3 a4 a5 a1 y1 i_71 2 i_15 10000000 0 y7 y8 y9 y10 a6 a7 a8 a9 a10 a11 a12 a13 y11 a14 a15 a16 a17 y12 y13 y14 a18 a19 y15 y16 a20 a21 a22 y17 y18 y19 y20 a23 a24 a25 y21), (mp_arI E a1 1 1600 f0)]
                    show mp_W E X 2 261 [(0, .ref a0)] [] w15_ 0 0
                    refine mp_run mp_k_cX10_next_ok hF mp_tabX10_ok [mp_i (.aload_n 0), mp_i .dup, mp_h (.getfield 116) [7, 0], mp_c (.iconst 1) 1, mp_i .iadd, mp_h (.putfield 116) [7, 0]] (by decide +kernel) ?_
                    refine And.intro rfl ?_
                    refine And.intro rfl (And.intro rfl ?_)
                    intro z_110 h_111
                    have e_112 : z_110.toInt = i_71.toInt + 1 := mp_add (a := i_71.toInt) (b := 1) h_111 rfl (by decide) (by omega) (by omega)
                    refine And.intro rfl (And.intro rfl (And.intro rfl (And.intro rfl (And.intro (Nat.le_of_ble_eq_true rfl) ?_))))
                    let w16_ : va_W := [(mp_ob10 a0 y0 a2 a3 a4 a5 a1 y1 z_110 2 i_15 10000000 0 y7 y8 y9 y10 a6 a7 a8 a9 a10 a11 a12 a13 y11 a14 a15 a16 a17 y12 y13 y14 a18 a19 y15 y16 a20 a21 a22 y17 y18 y19 y20 a23 a24 a25 y21), (mp_arI E a1 1 1600 f0)]
                    show mp_W E X 2 271 [(0, .ref a0)] [] w16_ 0 0
                    refine mp_run mp_k_cX10_next_ok hF mp_tabX10_ok [mp_h (.goto (-63)) [208]] (by decide +kernel) ?_
                    show mp_W E X 2 208 [(0, .ref a0)] [] w16_ 0 0
                    exact mp_sub [0] rfl [0, 1] rfl rfl (ih_84 (d_83 - 1) (by omega) z_110 10000000 (by omega) (by omega) (by decide) (by omega) (by omega) (mp_all_s x_78 (mp_dit (by omega)) (by omega)) (by omega) (by rw [mp_VV_s (c := i_71.toInt) (by omega)]; exact mp_capR_s x_80 (by omega) (mp_VV_i (by omega) x_78) (by first | omega | exact Or.inl ⟨by omega, by decide⟩)) (by first | omega | decide) (by omega))
            exact mp_sub [0] rfl [0, 1] rfl rfl (lp_82 _ z_68 z_65 (by omega) (by omega) (by omega) (by omega) (by omega) (mp_all_s (i := i_15.toInt) (mp_all_0 (Int.le_refl _)) (mp_dit (by omega)) (by omega)) (by omega) (Or.inl (by rw [mp_VV_1 (by omega)]; omega)) (by omega) (Int.self_le_toNat _))
      · skip
        have c_28 : i_15.toInt < y1.toInt := c_28
        show mp_W E X 2 92 [(0, .ref a0)] [.int 1] w4_ 0 0
        refine mp_run mp_k_cX10_next_ok hF mp_tabX10_ok [mp_h (.ifCond .eq 96) [188]] (by decide +kernel) ?_
        refine And.intro (fun c_113 => absurd c_113 (by decide)) (fun _ => ?_)
        show mp_W E X 2 95 [(0, .ref a0)] [] w4_ 0 0
        refine mp_run mp_k_cX10_next_ok hF mp_tabX10_ok [mp_i (.aload_n 0), mp_c (.iconst 1) 1, mp_h (.putfield 133) [8, 0]] (by decide +kernel) ?_
        refine And.intro rfl (And.intro rfl (And.intro rfl (And.intro rfl (And.intro (Nat.le_of_ble_eq_true rfl) ?_))))
        let w17_ : va_W := [(mp_ob10 a0 y0 a2 a3 a4 a5 a1 y1 i_15 1 i_15 0 0 y7 y8 y9 y10 a6 a7 a8 a9 a10 a11 a12 a13 y11 a14 a15 a16 a17 y12 y13 y14 a18 a19 y15 y16 a20 a21 a22 y17 y18 y19 y20 a23 a24 a25 y21), (mp_arI E a1 1 1600 f0)]
        show mp_W E X 2 100 [(0, .ref a0)] [] w17_ 0 0
        refine mp_run mp_k_cX10_next_ok hF mp_tabX10_ok [mp_c (.iconst 0) 0, mp_i (.istore_n 1)] (by decide +kernel) ?_
        show mp_W E X 2 102 [(1, .int 0), (0, .ref a0)] [] w17_ 0 0
        refine mp_run mp_k_cX10_next_ok hF mp_tabX10_ok [mp_i (.aload_n 0), mp_i (.aload_n 0), mp_h (.getfield 116) [7, 0], mp_c (.bipush 97) 97, mp_c (.bipush 122) 122] (by decide +kernel) ?_
        refine And.intro rfl (And.intro rfl ?_)
        show mp_W E X 2 111 [(1, .int 0), (0, .ref a0)] [.int 122, .int 97, .int i_15, .ref a0] w17_ 0 0
        refine mp_callV hF (As := [.int i_15, .int 97, .int 122]) (rest := []) (wr := []) (bX10_isByte_11 E a0 a1 a2 a3 a4 a5 a6 a7 a8 a9 a10 a11 a12 a13 a14 a15 a16 a17 a18 a19 a20 a21 a22 a23 a24 a25 f0 y0 y1 i_15 1 i_15 0 0 y7 y8 y9 y10 y11 y12 y13 y14 y15 y16 y17 y18 y19 y20 y21 i_15 97 122 l_16 u_17 l_y1 u_y1 l_16 u_17 (by decide) (by decide) l_16 u_17 l_y11 u_y11 l_y12 u_y12 l_y13 u_y13) mp_lkX10_119 0 rfl [0, 1] [] rfl rfl rfl rfl rfl ⟨(Nat.le_of_ble_eq_true rfl), (Nat.le_of_ble_eq_true rfl), (Nat.le_of_ble_eq_true rfl), (Nat.le_of_ble_eq_true rfl)⟩ (Nat.le_of_ble_eq_true rfl) (by first | exact mp_fd_ok mp_k_cX10_next_ok (by decide +kernel) | decide +kernel) (fun v_114 w_115 h_116 => ?_)
        rcases h_116 with ⟨rfl, x_117, rfl⟩ | ⟨rfl, c_118, x_119, rfl⟩
        · skip
          exfalso; omega
        · skip
          have c_118 : i_15.toInt < y1.toInt := c_118
          show mp_W E X 2 114 [(1, .int 0), (0, .ref a0)] [.int 1] w17_ 0 0
          refine mp_run mp_k_cX10_next_ok hF mp_tabX10_ok [mp_h (.ifCond .eq 71) [185]] (by decide +kernel) ?_
          refine And.intro (fun c_120 => absurd c_120 (by decide)) (fun _ => ?_)
          show mp_W E X 2 117 [(1, .int 0), (0, .ref a0)] [] w17_ 0 0
          refine mp_run mp_k_cX10_next_ok hF mp_tabX10_ok [mp_i (.aload_n 0), mp_i (.iload_n 1), mp_c (.bipush 11) 11, mp_h (.if_icmp .le 9) [130]] (by decide +kernel) ?_
          refine And.intro (fun _ => ?_) (fun c_121 => absurd c_121 (by decide))
          show mp_W E X 2 130 [(1, .int 0), (0, .ref a0)] [.ref a0] w17_ 0 0
          refine mp_run mp_k_cX10_next_ok hF mp_tabX10_ok [mp_cl (.ldc2_w 138) 27, mp_i (.aload_n 0), mp_h (.getfield 129) [11, 0], mp_i .lmul, mp_i (.aload_n 0), mp_h (.getfield 23) [5, 0], mp_i (.aload_n 0), mp_h (.getfield 116) [7, 0], mp_h .baload [1], mp_i .i2l, mp_i .ladd, mp_cl (.ldc2_w 140) 96, mp_i .lsub, mp_h (.putfield 129) [11, 0]] (by decide +kernel) ?_
          refine And.intro rfl (And.intro rfl ?_)
          intro z_122 h_123
          obtain rfl : z_122 = 0 := h_123.trans (by first | exact mp_fd_ok mp_k_cX10_next_ok (by decide +kernel) | decide +kernel)
          refine And.intro rfl (And.intro rfl ?_)
          refine And.intro rfl (And.intro rfl ?_)
          refine And.intro rfl (And.intro rfl (And.intro (vp_in_iff.mpr (by omega)) ?_))
          intro z_124 h_125
          have e_126 : z_124.toInt = (f0 i_15.toInt.toNat).toInt := congrArg Int32.toInt h_125
          intro z_127 h_128
          have e_129 : z_127.toInt = z_124.toInt := mp_i2l h_128
          intro z_130 h_131
          have e_132 := mp_bnd z_124
          have e_133 : z_130.toInt = 0 + z_127.toInt := mp_ladd (a := 0) (b := z_127.toInt) h_131 (by decide) rfl (by omega) (by omega)
          intro z_134 h_135
          have e_136 : z_134.toInt = z_130.toInt - 96 := mp_lsub (a := z_130.toInt) (b := 96) h_135 rfl (by decide) (by omega) (by omega)
          refine And.intro rfl (And.intro rfl (And.intro rfl (And.intro rfl (And.intro (Nat.le_of_ble_eq_true rfl) ?_))))
          let w18_ : va_W := [(mp_ob10 a0 y0 a2 a3 a4 a5 a1 y1 i_15 1 i_15 0 z_134 y7 y8 y9 y10 a6 a7 a8 a9 a10 a11 a12 a13 y11 a14 a15 a16 a17 y12 y13 y14 a18 a19 y15 y16 a20 a21 a22 y17 y18 y19 y20 a23 a24 a25 y21), (mp_arI E a1 1 1600 f0)]
          show mp_W E X 2 156 [(1, .int 0), (0, .ref a0)] [] w18_ 0 0
          refine mp_run mp_k_cX10_next_ok hF mp_tabX10_ok [mp_i (.iload_n 1), mp_c (.bipush 11) 11, mp_h (.if_icmp .le 10) [169]] (by decide +kernel) ?_
          refine And.intro (fun _ => ?_) (fun c_137 => absurd c_137 (by decide))
          show mp_W E X 2 169 [(1, .int 0), (0, .ref a0)] [] w18_ 0 0
          refine mp_run mp_k_cX10_next_ok hF mp_tabX10_ok [mp_i (.aload_n 0), mp_i .dup, mp_h (.getfield 116) [7, 0], mp_c (.iconst 1) 1, mp_i .iadd, mp_h (.putfield 116) [7, 0]] (by decide +kernel) ?_
          refine And.intro rfl ?_
          refine And.intro rfl (And.intro rfl ?_)
          intro z_138 h_139
          have e_140 : z_138.toInt = i_15.toInt + 1 := mp_add (a := i_15.toInt) (b := 1) h_139 rfl (by decide) (by omega) (by omega)
          refine And.intro rfl (And.intro rfl (And.intro rfl (And.intro rfl (And.intro (Nat.le_of_ble_eq_true rfl) ?_))))
          let w19_ : va_W := [(mp_ob10 a0 y0 a2 a3 a4 a5 a1 y1 z_138 1 i_15 0 z_134 y7 y8 y9 y10 a6 a7 a8 a9 a10 a11 a12 a13 y11 a14 a15 a16 a17 y12 y13 y14 a18 a19 y15 y16 a20 a21 a22 y17 y18 y19 y20 a23 a24 a25 y21), (mp_arI E a1 1 1600 f0)]
          show mp_W E X 2 179 [(1, .int 0), (0, .ref a0)] [] w19_ 0 0
          refine mp_run mp_k_cX10_next_ok hF mp_tabX10_ok [mp_c (.iinc 1 1) 1, mp_h (.goto (-80)) [102]] (by decide +kernel) ?_
          intro z_141 h_142
          obtain rfl : z_141 = 1 := h_142.trans (by decide)
          show mp_W E X 2 102 [(1, .int 1), (0, .ref a0)] [] w19_ 0 0
          have lp_154 : ∀ (d_155 : Nat) (i_143 : Int32) (i_144 : Int32) (i_145 : Int64), 0 ≤ i_144.toInt → i_144.toInt ≤ 1600 → (i_144.toInt ≤ y1.toInt) → (y2.toInt + 1 ≤ i_144.toInt) → (∀ j : Nat, (i_15.toInt).toNat ≤ j → (j : Int) < i_144.toInt → mp_isLe (f0 j).toInt = true) → (i_15.toInt + 1 ≤ i_144.toInt ∧ i_143.toInt = i_144.toInt - i_15.toInt) → ((i_143.toInt ≤ 12 ∧ i_145.toInt = mp_PK f0 (i_15.toInt).toNat (i_144.toInt - i_15.toInt).toNat) ∨ (12 < i_143.toInt ∧ i_145.toInt = -1)) → (0 ≤ i_145.toInt + 1 ∧ i_145.toInt ≤ 150094635296999121) → y1.toInt - i_144.toInt ≤ (d_155 : Int) → mp_W E X 2 102 [(1, .int i_143), (0, .ref a0)] [] [(mp_ob10 a0 y0 a2 a3 a4 a5 a1 y1 i_144 1 i_15 0 i_145 y7 y8 y9 y10 a6 a7 a8 a9 a10 a11 a12 a13 y11 a14 a15 a16 a17 y12 y13 y14 a18 a19 y15 y16 a20 a21 a22 y17 y18 y19 y20 a23 a24 a25 y21), (mp_arI E a1 1 1600 f0)] 0 0 := by
            intro d_155
            induction d_155 using Nat.strongRecOn with
            | ind d_155 ih_156 =>
              intro i_143 i_144 i_145 l_146 u_147 x_148 x_149 x_150 x_151 x_152 x_153 hm_157
              refine mp_run mp_k_cX10_next_ok hF mp_tabX10_ok [mp_i (.aload_n 0), mp_i (.aload_n 0), mp_h (.getfield 116) [7, 0], mp_c (.bipush 97) 97, mp_c (.bipush 122) 122] (by decide +kernel) ?_
              refine And.intro rfl (And.intro rfl ?_)
              let w20_ : va_W := [(mp_ob10 a0 y0 a2 a3 a4 a5 a1 y1 i_144 1 i_15 0 i_145 y7 y8 y9 y10 a6 a7 a8 a9 a10 a11 a12 a13 y11 a14 a15 a16 a17 y12 y13 y14 a18 a19 y15 y16 a20 a21 a22 y17 y18 y19 y20 a23 a24 a25 y21), (mp_arI E a1 1 1600 f0)]
              show mp_W E X 2 111 [(1, .int i_143), (0, .ref a0)] [.int 122, .int 97, .int i_144, .ref a0] w20_ 0 0
              refine mp_callV hF (As := [.int i_144, .int 97, .int 122]) (rest := []) (wr := []) (bX10_isByte_11 E a0 a1 a2 a3 a4 a5 a6 a7 a8 a9 a10 a11 a12 a13 a14 a15 a16 a17 a18 a19 a20 a21 a22 a23 a24 a25 f0 y0 y1 i_144 1 i_15 0 i_145 y7 y8 y9 y10 y11 y12 y13 y14 y15 y16 y17 y18 y19 y20 y21 i_144 97 122 l_146 u_147 l_y1 u_y1 l_146 u_147 (by decide) (by decide) l_16 u_17 l_y11 u_y11 l_y12 u_y12 l_y13 u_y13) mp_lkX10_119 0 rfl [0, 1] [] rfl rfl rfl rfl rfl ⟨(Nat.le_of_ble_eq_true rfl), (Nat.le_of_ble_eq_true rfl), (Nat.le_of_ble_eq_true rfl), (Nat.le_of_ble_eq_true rfl)⟩ (Nat.le_of_ble_eq_true rfl) (by first | exact mp_fd_ok mp_k_cX10_next_ok (by decide +kernel) | decide +kernel) (fun v_158 w_159 h_160 => ?_)
              rcases h_160 with ⟨rfl, x_161, rfl⟩ | ⟨rfl, c_162, x_163, rfl⟩
              · skip
                show mp_W E X 2 114 [(1, .int i_143), (0, .ref a0)] [.int 0] w20_ 0 0
                refine mp_run mp_k_cX10_next_ok hF mp_tabX10_ok [mp_h (.ifCond .eq 71) [185]] (by decide +kernel) ?_
                refine And.intro (fun _ => ?_) (fun c_164 => absurd c_164 (by decide))
                show mp_W E X 2 185 [(1, .int i_143), (0, .ref a0)] [] w20_ 0 0
                refine mp_run mp_k_cX10_next_ok hF mp_tabX10_ok [mp_h (.goto 122) [307]] (by decide +kernel) ?_
                show mp_W E X 2 307 [(1, .int i_143), (0, .ref a0)] [] w20_ 0 0
                exact mp_vret hF hQ rfl (Nat.le_of_ble_eq_true rfl) (Nat.le_of_ble_eq_true rfl) [0, 1] (w' := w20_) rfl rfl ⟨i_144, 1, i_15, 0, i_145, rfl, l_146, u_147, (by decide), (by decide), l_16, u_17, (by decide), (by decide), (by omega), (by omega), (by first | omega | decide | (have h8 : (0 : Int32).toInt = 0 := rfl; omega)), (by first | omega | decide | (have h8 : (0 : Int32).toInt = 0 := rfl; omega)), (by have t9 := x_20; omega), ⟨x_21, (by have t9 := (mp_tok1 x_21 (by omega) (x_150 i_15.toInt.toNat (Nat.le_refl _) (by omega)) (mp_end_i (by omega) (by omega) (by omega) x_150 (if q9 : y1.toInt ≤ i_144.toInt then Or.inl q9 else Or.inr (mp_lef (by omega))))); rw [t9.1]; first | rfl | decide), (by have t9 := (mp_tok1 x_21 (by omega) (x_150 i_15.toInt.toNat (Nat.le_refl _) (by omega)) (mp_end_i (by omega) (by omega) (by omega) x_150 (if q9 : y1.toInt ≤ i_144.toInt then Or.inl q9 else Or.inr (mp_lef (by omega))))); omega), (Or.inl (by decide)), (Or.inr (by have t9 := (mp_tok1 x_21 (by omega) (x_150 i_15.toInt.toNat (Nat.le_refl _) (by omega)) (mp_end_i (by omega) (by omega) (by omega) x_150 (if q9 : y1.toInt ≤ i_144.toInt then Or.inl q9 else Or.inr (mp_lef (by omega))))); exact mp_WD_eq x_21 t9.2 (by omega) (by have q7 := x_152; omega)))⟩, rfl⟩ (by first | exact mp_fd_ok mp_k_cX10_next_ok (by decide +kernel) | decide +kernel)
              · skip
                have c_162 : i_144.toInt < y1.toInt := c_162
                show mp_W E X 2 114 [(1, .int i_143), (0, .ref a0)] [.int 1] w20_ 0 0
                refine mp_run mp_k_cX10_next_ok hF mp_tabX10_ok [mp_h (.ifCond .eq 71) [185]] (by decide +kernel) ?_
                refine And.intro (fun c_165 => absurd c_165 (by decide)) (fun _ => ?_)
                show mp_W E X 2 117 [(1, .int i_143), (0, .ref a0)] [] w20_ 0 0
                refine mp_run mp_k_cX10_next_ok hF mp_tabX10_ok [mp_i (.aload_n 0), mp_i (.iload_n 1), mp_c (.bipush 11) 11, mp_h (.if_icmp .le 9) [130]] (by decide +kernel) ?_
                refine And.intro (fun c_166 => ?_) (fun c_166 => ?_)
                · have c_166 : i_143.toInt ≤ 11 := c_166
                  show mp_W E X 2 130 [(1, .int i_143), (0, .ref a0)] [.ref a0] w20_ 0 0
                  refine mp_run mp_k_cX10_next_ok hF mp_tabX10_ok [mp_cl (.ldc2_w 138) 27, mp_i (.aload_n 0), mp_h (.getfield 129) [11, 0], mp_i .lmul, mp_i (.aload_n 0), mp_h (.getfield 23) [5, 0], mp_i (.aload_n 0), mp_h (.getfield 116) [7, 0], mp_h .baload [1], mp_i .i2l, mp_i .ladd, mp_cl (.ldc2_w 140) 96, mp_i .lsub, mp_h (.putfield 129) [11, 0]] (by decide +kernel) ?_
                  refine And.intro rfl (And.intro rfl ?_)
                  intro z_167 h_168
                  have e_169 : z_167.toInt = 27 * i_145.toInt := mp_lmul (a := 27) (b := i_145.toInt) h_168 (by decide) rfl (by omega) (by omega)
                  refine And.intro rfl (And.intro rfl ?_)
                  refine And.intro rfl (And.intro rfl ?_)
                  refine And.intro rfl (And.intro rfl (And.intro (vp_in_iff.mpr (by omega)) ?_))
                  intro z_170 h_171
                  have e_172 : z_170.toInt = (f0 i_144.toInt.toNat).toInt := congrArg Int32.toInt h_171
                  intro z_173 h_174
                  have e_175 : z_173.toInt = z_170.toInt := mp_i2l h_174
                  intro z_176 h_177
                  have e_178 := mp_bnd z_170
                  have e_179 : z_176.toInt = z_167.toInt + z_173.toInt := mp_ladd (a := z_167.toInt) (b := z_173.toInt) h_177 rfl rfl (by omega) (by omega)
                  intro z_180 h_181
                  have e_182 : z_180.toInt = z_176.toInt - 96 := mp_lsub (a := z_176.toInt) (b := 96) h_181 rfl (by decide) (by omega) (by omega)
                  refine And.intro rfl (And.intro rfl (And.intro rfl (And.intro rfl (And.intro (Nat.le_of_ble_eq_true rfl) ?_))))
                  let w21_ : va_W := [(mp_ob10 a0 y0 a2 a3 a4 a5 a1 y1 i_144 1 i_15 0 z_180 y7 y8 y9 y10 a6 a7 a8 a9 a10 a11 a12 a13 y11 a14 a15 a16 a17 y12 y13 y14 a18 a19 y15 y16 a20 a21 a22 y17 y18 y19 y20 a23 a24 a25 y21), (mp_arI E a1 1 1600 f0)]
                  show mp_W E X 2 156 [(1, .int i_143), (0, .ref a0)] [] w21_ 0 0
                  refine mp_run mp_k_cX10_next_ok hF mp_tabX10_ok [mp_i (.iload_n 1), mp_c (.bipush 11) 11, mp_h (.if_icmp .le 10) [169]] (by decide +kernel) ?_
                  refine And.intro (fun c_183 => ?_) (fun c_183 => ?_)
                  · have c_183 : i_143.toInt ≤ 11 := c_183
                    show mp_W E X 2 169 [(1, .int i_143), (0, .ref a0)] [] w21_ 0 0
                    refine mp_run mp_k_cX10_next_ok hF mp_tabX10_ok [mp_i (.aload_n 0), mp_i .dup, mp_h (.getfield 116) [7, 0], mp_c (.iconst 1) 1, mp_i .iadd, mp_h (.putfield 116) [7, 0]] (by decide +kernel) ?_
                    refine And.intro rfl ?_
                    refine And.intro rfl (And.intro rfl ?_)
                    intro z_184 h_185
                    have e_186 : z_184.toInt = i_144.toInt + 1 := mp_add (a := i_144.toInt) (b := 1) h_185 rfl (by decide) (by omega) (by omega)
                    refine And.intro rfl (And.intro rfl (And.intro rfl (And.intro rfl (And.intro (Nat.le_of_ble_eq_true rfl) ?_))))
                    let w22_ : va_W := [(mp_ob10 a0 y0 a2 a3 a4 a5 a1 y1 z_184 1 i_15 0 z_180 y7 y8 y9 y10 a6 a7 a8 a9 a10 a11 a12 a13 y11 a14 a15 a16 a17 y12 y13 y14 a18 a19 y15 y16 a20 a21 a22 y17 y18 y19 y20 a23 a24 a25 y21), (mp_arI E a1 1 1600 f0)]
                    show mp_W E X 2 179 [(1, .int i_143), (0, .ref a0)] [] w22_ 0 0
                    refine mp_run mp_k_cX10_next_ok hF mp_tabX10_ok [mp_c (.iinc 1 1) 1, mp_h (.goto (-80)) [102]] (by decide +kernel) ?_
                    intro z_187 h_188
                    have e_189 : z_187.toInt = i_143.toInt + 1 := mp_add (a := i_143.toInt) (b := 1) h_188 rfl (by decide) (by omega) (by omega)
                    show mp_W E X 2 102 [(1, .int z_187), (0, .ref a0)] [] w22_ 0 0
                    exact mp_sub [0, 1] rfl [0, 1] rfl rfl (ih_156 (d_155 - 1) (by omega) z_187 z_184 z_180 (by omega) (by omega) (by omega) (by omega) (mp_all_s x_150 (mp_let (by omega)) (by omega)) (by omega) (Or.inl ⟨by omega, by rw [mp_PK_s (c := i_144.toInt) (by omega)]; omega⟩) (by have k8 := mp_PK_i (f := f0) (s := i_15.toInt) (c := z_184.toInt) (by omega) (mp_all_s x_150 (mp_let (by omega)) (by omega)); rw [mp_PK_s (c := i_144.toInt) (by omega)] at k8; omega) (by omega))
                  · have c_183 : 11 < i_143.toInt := c_183
                    exfalso; omega
                · have c_166 : 11 < i_143.toInt := c_166
                  show mp_W E X 2 124 [(1, .int i_143), (0, .ref a0)] [.ref a0] w20_ 0 0
                  refine mp_run mp_k_cX10_next_ok hF mp_tabX10_ok [mp_cl (.ldc2_w 136) (-1), mp_h (.goto 26) [153], mp_h (.putfield 129) [11, 0]] (by decide +kernel) ?_
                  refine And.intro rfl (And.intro rfl (And.intro rfl (And.intro rfl (And.intro (Nat.le_of_ble_eq_true rfl) ?_))))
                  let w23_ : va_W := [(mp_ob10 a0 y0 a2 a3 a4 a5 a1 y1 i_144 1 i_15 0 (-1) y7 y8 y9 y10 a6 a7 a8 a9 a10 a11 a12 a13 y11 a14 a15 a16 a17 y12 y13 y14 a18 a19 y15 y16 a20 a21 a22 y17 y18 y19 y20 a23 a24 a25 y21), (mp_arI E a1 1 1600 f0)]
                  show mp_W E X 2 156 [(1, .int i_143), (0, .ref a0)] [] w23_ 0 0
                  refine mp_run mp_k_cX10_next_ok hF mp_tabX10_ok [mp_i (.iload_n 1), mp_c (.bipush 11) 11, mp_h (.if_icmp .le 10) [169]] (by decide +kernel) ?_
                  refine And.intro (fun c_190 => ?_) (fun c_190 => ?_)
                  · have c_190 : i_143.toInt ≤ 11 := c_190
                    exfalso; omega
                  · have c_190 : 11 < i_143.toInt := c_190
                    show mp_W E X 2 162 [(1, .int i_143), (0, .ref a0)] [] w23_ 0 0
                    refine mp_run mp_k_cX10_next_ok hF mp_tabX10_ok [mp_i (.aload_n 0), mp_cl (.ldc2_w 136) (-1), mp_h (.putfield 129) [11, 0]] (by decide +kernel) ?_
                    refine And.intro rfl (And.intro rfl (And.intro rfl (And.intro rfl (And.intro (Nat.le_of_ble_eq_true rfl) ?_))))
                    show mp_W E X 2 169 [(1, .int i_143), (0, .ref a0)] [] w23_ 0 0
                    refine mp_run mp_k_cX10_next_ok hF mp_tabX10_ok [mp_i (.aload_n 0), mp_i .dup, mp_h (.getfield 116) [7, 0], mp_c (.iconst 1) 1, mp_i .iadd, mp_h (.putfield 116) [7, 0]] (by decide +kernel) ?_
                    refine And.intro rfl ?_
                    refine And.intro rfl (And.intro rfl ?_)
                    intro z_191 h_192
                    have e_193 : z_191.toInt = i_144.toInt + 1 := mp_add (a := i_144.toInt) (b := 1) h_192 rfl (by decide) (by omega) (by omega)
                    refine And.intro rfl (And.intro rfl (And.intro rfl (And.intro rfl (And.intro (Nat.le_of_ble_eq_true rfl) ?_))))
                    let w24_ : va_W := [(mp_ob10 a0 y0 a2 a3 a4 a5 a1 y1 z_191 1 i_15 0 (-1) y7 y8 y9 y10 a6 a7 a8 a9 a10 a11 a12 a13 y11 a14 a15 a16 a17 y12 y13 y14 a18 a19 y15 y16 a20 a21 a22 y17 y18 y19 y20 a23 a24 a25 y21), (mp_arI E a1 1 1600 f0)]
                    show mp_W E X 2 179 [(1, .int i_143), (0, .ref a0)] [] w24_ 0 0
                    refine mp_run mp_k_cX10_next_ok hF mp_tabX10_ok [mp_c (.iinc 1 1) 1, mp_h (.goto (-80)) [102]] (by decide +kernel) ?_
                    intro z_194 h_195
                    have e_196 : z_194.toInt = i_143.toInt + 1 := mp_add (a := i_143.toInt) (b := 1) h_195 rfl (by decide) (by omega) (by omega)
                    show mp_W E X 2 102 [(1, .int z_194), (0, .ref a0)] [] w24_ 0 0
                    exact mp_sub [0, 1] rfl [0, 1] rfl rfl (ih_156 (d_155 - 1) (by omega) z_194 z_191 (-1) (by omega) (by omega) (by omega) (by omega) (mp_all_s x_150 (mp_let (by omega)) (by omega)) (by omega) (Or.inr ⟨by omega, by decide⟩) (by decide) (by omega))
          exact mp_sub [0, 1] rfl [0, 1] rfl rfl (lp_154 _ 1 z_138 z_134 (by omega) (by omega) (by omega) (by omega) (mp_all_s (i := i_15.toInt) (mp_all_0 (Int.le_refl _)) (mp_let (by omega)) (by omega)) (by omega) (Or.inl ⟨by omega, by rw [mp_PK_1 (by omega)]; omega⟩) (by omega) (Int.self_le_toNat _))
    · have c_23 : i_15.toInt = y1.toInt := (congrArg Int32.toInt c_23)
      show mp_W E X 2 72 [(0, .ref a0)] [] w4_ 0 0
      refine mp_run mp_k_cX10_next_ok hF mp_tabX10_ok [mp_i (.aload_n 0), mp_c (.iconst 0) 0, mp_h (.putfield 133) [8, 0]] (by decide +kernel) ?_
      refine And.intro rfl (And.intro rfl (And.intro rfl (And.intro rfl (And.intro (Nat.le_of_ble_eq_true rfl) ?_))))
      let w25_ : va_W := [(mp_ob10 a0 y0 a2 a3 a4 a5 a1 y1 i_15 0 i_15 0 0 y7 y8 y9 y10 a6 a7 a8 a9 a10 a11 a12 a13 y11 a14 a15 a16 a17 y12 y13 y14 a18 a19 y15 y16 a20 a21 a22 y17 y18 y19 y20 a23 a24 a25 y21), (mp_arI E a1 1 1600 f0)]
      show mp_W E X 2 77 [(0, .ref a0)] [] w25_ 0 0
      refine mp_run mp_k_cX10_next_ok hF mp_tabX10_ok [mp_h (.goto 230) [307]] (by decide +kernel) ?_
      show mp_W E X 2 307 [(0, .ref a0)] [] w25_ 0 0
      exact mp_vret hF hQ rfl (Nat.le_of_ble_eq_true rfl) (Nat.le_of_ble_eq_true rfl) [0, 1] (w' := w25_) rfl rfl ⟨i_15, 0, i_15, 0, 0, rfl, l_16, u_17, (by decide), (by decide), l_16, u_17, (by decide), (by decide), (by decide), (by decide), (by first | omega | decide | (have h8 : (0 : Int32).toInt = 0 := rfl; omega)), (by first | omega | decide | (have h8 : (0 : Int32).toInt = 0 := rfl; omega)), (by have t9 := x_20; omega), ⟨x_21, (by have t9 := (mp_tok0 x_21 (by omega)); rw [t9.1]; first | rfl | decide), (by have t9 := (mp_tok0 x_21 (by omega)); omega), (Or.inl (by decide)), (Or.inl (by decide))⟩, rfl⟩ (by first | exact mp_fd_ok mp_k_cX10_next_ok (by decide +kernel) | decide +kernel)
  have lp_203 : ∀ (d_204 : Nat) (i_197 : Int32), 0 ≤ i_197.toInt → i_197.toInt ≤ 1600 → (i_197.toInt ≤ y1.toInt) → (y2.toInt ≤ i_197.toInt) → (∀ j : Nat, (y2.toInt).toNat ≤ j → (j : Int) < i_197.toInt → mp_isSp (f0 j).toInt = true) → y1.toInt - i_197.toInt ≤ (d_204 : Int) → mp_W E X 2 0 [(0, .ref a0)] [] [(mp_ob10 a0 y0 a2 a3 a4 a5 a1 y1 i_197 y3 y4 y5 y6 y7 y8 y9 y10 a6 a7 a8 a9 a10 a11 a12 a13 y11 a14 a15 a16 a17 y12 y13 y14 a18 a19 y15 y16 a20 a21 a22 y17 y18 y19 y20 a23 a24 a25 y21), (mp_arI E a1 1 1600 f0)] 0 0 := by
    intro d_204
    induction d_204 using Nat.strongRecOn with
    | ind d_204 ih_205 =>
      intro i_197 l_198 u_199 x_200 x_201 x_202 hm_206
      refine mp_run mp_k_cX10_next_ok hF mp_tabX10_ok [mp_i (.aload_n 0), mp_i (.aload_n 0), mp_h (.getfield 116) [7, 0], mp_c (.bipush 32) 32, mp_c (.bipush 32) 32] (by decide +kernel) ?_
      refine And.intro rfl (And.intro rfl ?_)
      let w26_ : va_W := [(mp_ob10 a0 y0 a2 a3 a4 a5 a1 y1 i_197 y3 y4 y5 y6 y7 y8 y9 y10 a6 a7 a8 a9 a10 a11 a12 a13 y11 a14 a15 a16 a17 y12 y13 y14 a18 a19 y15 y16 a20 a21 a22 y17 y18 y19 y20 a23 a24 a25 y21), (mp_arI E a1 1 1600 f0)]
      show mp_W E X 2 9 [(0, .ref a0)] [.int 32, .int 32, .int i_197, .ref a0] w26_ 0 0
      refine mp_callV hF (As := [.int i_197, .int 32, .int 32]) (rest := []) (wr := []) (bX10_isByte_11 E a0 a1 a2 a3 a4 a5 a6 a7 a8 a9 a10 a11 a12 a13 a14 a15 a16 a17 a18 a19 a20 a21 a22 a23 a24 a25 f0 y0 y1 i_197 y3 y4 y5 y6 y7 y8 y9 y10 y11 y12 y13 y14 y15 y16 y17 y18 y19 y20 y21 i_197 32 32 l_198 u_199 l_y1 u_y1 l_198 u_199 l_y3 u_y3 l_y4 u_y4 l_y11 u_y11 l_y12 u_y12 l_y13 u_y13) mp_lkX10_119 0 rfl [0, 1] [] rfl rfl rfl rfl rfl ⟨(Nat.le_of_ble_eq_true rfl), (Nat.le_of_ble_eq_true rfl), (Nat.le_of_ble_eq_true rfl), (Nat.le_of_ble_eq_true rfl)⟩ (Nat.le_of_ble_eq_true rfl) (by first | exact mp_fd_ok mp_k_cX10_next_ok (by decide +kernel) | decide +kernel) (fun v_207 w_208 h_209 => ?_)
      rcases h_209 with ⟨rfl, x_210, rfl⟩ | ⟨rfl, c_211, x_212, rfl⟩
      · skip
        show mp_W E X 2 12 [(0, .ref a0)] [.int 0] w26_ 0 0
        refine mp_run mp_k_cX10_next_ok hF mp_tabX10_ok [mp_h (.ifCond .ne 18) [30]] (by decide +kernel) ?_
        refine And.intro (fun c_213 => absurd c_213 (by decide)) (fun _ => ?_)
        show mp_W E X 2 15 [(0, .ref a0)] [] w26_ 0 0
        refine mp_run mp_k_cX10_next_ok hF mp_tabX10_ok [mp_i (.aload_n 0), mp_i (.aload_n 0), mp_h (.getfield 116) [7, 0], mp_c (.bipush 10) 10, mp_c (.bipush 10) 10] (by decide +kernel) ?_
        refine And.intro rfl (And.intro rfl ?_)
        show mp_W E X 2 24 [(0, .ref a0)] [.int 10, .int 10, .int i_197, .ref a0] w26_ 0 0
        refine mp_callV hF (As := [.int i_197, .int 10, .int 10]) (rest := []) (wr := []) (bX10_isByte_11 E a0 a1 a2 a3 a4 a5 a6 a7 a8 a9 a10 a11 a12 a13 a14 a15 a16 a17 a18 a19 a20 a21 a22 a23 a24 a25 f0 y0 y1 i_197 y3 y4 y5 y6 y7 y8 y9 y10 y11 y12 y13 y14 y15 y16 y17 y18 y19 y20 y21 i_197 10 10 l_198 u_199 l_y1 u_y1 l_198 u_199 l_y3 u_y3 l_y4 u_y4 l_y11 u_y11 l_y12 u_y12 l_y13 u_y13) mp_lkX10_119 0 rfl [0, 1] [] rfl rfl rfl rfl rfl ⟨(Nat.le_of_ble_eq_true rfl), (Nat.le_of_ble_eq_true rfl), (Nat.le_of_ble_eq_true rfl), (Nat.le_of_ble_eq_true rfl)⟩ (Nat.le_of_ble_eq_true rfl) (by first | exact mp_fd_ok mp_k_cX10_next_ok (by decide +kernel) | decide +kernel) (fun v_214 w_215 h_216 => ?_)
        rcases h_216 with ⟨rfl, x_217, rfl⟩ | ⟨rfl, c_218, x_219, rfl⟩
        · skip
          show mp_W E X 2 27 [(0, .ref a0)] [.int 0] w26_ 0 0
          refine mp_run mp_k_cX10_next_ok hF mp_tabX10_ok [mp_h (.ifCond .eq 16) [43]] (by decide +kernel) ?_
          refine And.intro (fun _ => ?_) (fun c_220 => absurd c_220 (by decide))
          show mp_W E X 2 43 [(0, .ref a0)] [] w26_ 0 0
          exact mp_sub [0] rfl [0, 1] rfl rfl (jp_22 i_197 l_198 u_199 (by omega) (by omega) (mp_end_i (by omega) (by omega) (by omega) x_202 (if q9 : y1.toInt ≤ i_197.toInt then Or.inl q9 else Or.inr (mp_spf (by omega)))) (mp_TS_self (by omega) (if q9 : y1.toInt ≤ i_197.toInt then Or.inl q9 else Or.inr (mp_spf (by omega)))))
        · skip
          have c_218 : i_197.toInt < y1.toInt := c_218
          show mp_W E X 2 27 [(0, .ref a0)] [.int 1] w26_ 0 0
          refine mp_run mp_k_cX10_next_ok hF mp_tabX10_ok [mp_h (.ifCond .eq 16) [43]] (by decide +kernel) ?_
          refine And.intro (fun c_221 => absurd c_221 (by decide)) (fun _ => ?_)
          show mp_W E X 2 30 [(0, .ref a0)] [] w26_ 0 0
          refine mp_run mp_k_cX10_next_ok hF mp_tabX10_ok [mp_i (.aload_n 0), mp_i .dup, mp_h (.getfield 116) [7, 0], mp_c (.iconst 1) 1, mp_i .iadd, mp_h (.putfield 116) [7, 0]] (by decide +kernel) ?_
          refine And.intro rfl ?_
          refine And.intro rfl (And.intro rfl ?_)
          intro z_222 h_223
          have e_224 : z_222.toInt = i_197.toInt + 1 := mp_add (a := i_197.toInt) (b := 1) h_223 rfl (by decide) (by omega) (by omega)
          refine And.intro rfl (And.intro rfl (And.intro rfl (And.intro rfl (And.intro (Nat.le_of_ble_eq_true rfl) ?_))))
          let w27_ : va_W := [(mp_ob10 a0 y0 a2 a3 a4 a5 a1 y1 z_222 y3 y4 y5 y6 y7 y8 y9 y10 a6 a7 a8 a9 a10 a11 a12 a13 y11 a14 a15 a16 a17 y12 y13 y14 a18 a19 y15 y16 a20 a21 a22 y17 y18 y19 y20 a23 a24 a25 y21), (mp_arI E a1 1 1600 f0)]
          show mp_W E X 2 40 [(0, .ref a0)] [] w27_ 0 0
          refine mp_run mp_k_cX10_next_ok hF mp_tabX10_ok [mp_h (.goto (-40)) [0]] (by decide +kernel) ?_
          show mp_W E X 2 0 [(0, .ref a0)] [] w27_ 0 0
          exact mp_sub [0] rfl [0, 1] rfl rfl (ih_205 (d_204 - 1) (by omega) z_222 (by omega) (by omega) (by omega) (by omega) (mp_all_s x_202 (mp_spt (by omega)) (by omega)) (by omega))
      · skip
        have c_211 : i_197.toInt < y1.toInt := c_211
        show mp_W E X 2 12 [(0, .ref a0)] [.int 1] w26_ 0 0
        refine mp_run mp_k_cX10_next_ok hF mp_tabX10_ok [mp_h (.ifCond .ne 18) [30]] (by decide +kernel) ?_
        refine And.intro (fun _ => ?_) (fun c_225 => absurd c_225 (by decide))
        show mp_W E X 2 30 [(0, .ref a0)] [] w26_ 0 0
        refine mp_run mp_k_cX10_next_ok hF mp_tabX10_ok [mp_i (.aload_n 0), mp_i .dup, mp_h (.getfield 116) [7, 0], mp_c (.iconst 1) 1, mp_i .iadd, mp_h (.putfield 116) [7, 0]] (by decide +kernel) ?_
        refine And.intro rfl ?_
        refine And.intro rfl (And.intro rfl ?_)
        intro z_226 h_227
        have e_228 : z_226.toInt = i_197.toInt + 1 := mp_add (a := i_197.toInt) (b := 1) h_227 rfl (by decide) (by omega) (by omega)
        refine And.intro rfl (And.intro rfl (And.intro rfl (And.intro rfl (And.intro (Nat.le_of_ble_eq_true rfl) ?_))))
        let w28_ : va_W := [(mp_ob10 a0 y0 a2 a3 a4 a5 a1 y1 z_226 y3 y4 y5 y6 y7 y8 y9 y10 a6 a7 a8 a9 a10 a11 a12 a13 y11 a14 a15 a16 a17 y12 y13 y14 a18 a19 y15 y16 a20 a21 a22 y17 y18 y19 y20 a23 a24 a25 y21), (mp_arI E a1 1 1600 f0)]
        show mp_W E X 2 40 [(0, .ref a0)] [] w28_ 0 0
        refine mp_run mp_k_cX10_next_ok hF mp_tabX10_ok [mp_h (.goto (-40)) [0]] (by decide +kernel) ?_
        show mp_W E X 2 0 [(0, .ref a0)] [] w28_ 0 0
        exact mp_sub [0] rfl [0, 1] rfl rfl (ih_205 (d_204 - 1) (by omega) z_226 (by omega) (by omega) (by omega) (by omega) (mp_all_s x_202 (mp_spt (by omega)) (by omega)) (by omega))
  exact mp_sub [0] rfl [0, 1] rfl rfl (lp_203 _ y2 l_y2 u_y2 (by omega) (by omega) (mp_all_0 (by omega)) (Int.self_le_toNat _))
