set_option maxHeartbeats 4000000 in
set_option maxRecDepth 100000 in
theorem bX10_next_12 (E : mp_E) (a0 a1 a2 a3 a4 a5 a6 a7 a8 a9 a10 a11 a12 a13 a14 a15 a16 a17 a18 a19 a20 a21 a22 a23 a24 a25 : Nat) (f0 : Nat → Int32) (y0 : Int32) (y1 : Int32) (y2 : Int32) (y3 : Int32) (y4 : Int32) (y5 : Int32) (y6 : Int64) (y7 : Int32) (y8 : Int32) (y9 : Int32) (y10 : Int32) (y11 : Int32) (y12 : Int32) (y13 : Int32) (y14 : Int32) (y15 : Int32) (y16 : Int32) (y17 : Int32) (y18 : Int32) (y19 : Int32) (y20 : Int32) (y21 : Int32) (l_y1 : 0 ≤ y1.toInt) (u_y1 : y1.toInt ≤ 1600) (l_y2 : 0 ≤ y2.toInt) (u_y2 : y2.toInt ≤ 1600) (l_y3 : 0 ≤ y3.toInt) (u_y3 : y3.toInt ≤ 4) (l_y4 : 0 ≤ y4.toInt) (u_y4 : y4.toInt ≤ 1600) (l_y11 : 0 ≤ y11.toInt) (u_y11 : y11.toInt ≤ 99) (l_y12 : 0 ≤ y12.toInt) (u_y12 : y12.toInt ≤ 5) (l_y13 : 0 ≤ y13.toInt) (u_y13 : y13.toInt ≤ 12) (q0 : y2.toInt ≤ y1.toInt) : mp_Ct E yX10_next cX10_next 2 none 1 0 0 23 [.ref a0] [(mp_ob10 a0 y0 a2 a3 a4 a5 a1 y1 y2 y3 y4 y5 y6 y7 y8 y9 y10 a6 a7 a8 a9 a10 a11 a12 a13 y11 a14 a15 a16 a17 y12 y13 y14 a18 a19 y15 y16 a20 a21 a22 y17 y18 y19 y20 a23 a24 a25 y21), (mp_arI E a1 1 1600 f0)] (fun v w' => ∃ r1 : Int32, ∃ r2 : Int32, ∃ r3 : Int32, ∃ r4 : Int32, ∃ r5 : Int64, v = none ∧ 0 ≤ r1.toInt ∧ r1.toInt ≤ 1600 ∧ 0 ≤ r2.toInt ∧ r2.toInt ≤ 4 ∧ 0 ≤ r3.toInt ∧ r3.toInt ≤ 1600 ∧ 0 ≤ r4.toInt ∧ r4.toInt ≤ 10000009 ∧ (-1) ≤ r5.toInt ∧ r5.toInt ≤ 150094635296999121 ∧ (r1.toInt ≤ y1.toInt) ∧ ((r2.toInt = 0 ∧ y2.toInt ≤ r1.toInt) ∨ y2.toInt + 1 ≤ r1.toInt) ∧ (r3.toInt = ((mp_TS f0 (y1.toInt).toNat (y2.toInt).toNat : Nat) : Int)) ∧ (mp_MT f0 y1.toInt r2.toInt r3.toInt r1.toInt r4.toInt r5.toInt) ∧ w' = [(mp_ob10 a0 y0 a2 a3 a4 a5 a1 y1 r1 r2 r3 r4 r5 y7 y8 y9 y10 a6 a7 a8 a9 a10 a11 a12 a13 y11 a14 a15 a16 a17 y12 y13 y14 a18 a19 y15 y16 a20 a21 a22 y17 y18 y19 y20 a23 a24 a25 y21), (mp_arI E a1 1 1600 f0)]) := by
  refine mp_met false (by decide) (by decide) (Nat.le_of_ble_eq_true rfl) (fun X hF hQ => ?_)
  have hF : mp_F E X (RX10, cX10_next, 2, (1, 0, 0, 23), none, false) := hF
  have i_1 : (0 : Int32).toInt = 0 := by decide
  have i_2 : (1 : Int32).toInt = 1 := by decide
  have i_3 : (2 : Int32).toInt = 2 := by decide
  have i_4 : (3 : Int32).toInt = 3 := by decide
  have i_5 : (4 : Int32).toInt = 4 := by decide
  have i_6 : (10 : Int32).toInt = 10 := by decide
  have i_7 : (32 : Int32).toInt = 32 := by decide
  have i_8 : (48 : Int32).toInt = 48 := by decide
  have i_9 : (57 : Int32).toInt = 57 := by decide
  have i_10 : (59 : Int32).toInt = 59 := by decide
  have i_11 : (97 : Int32).toInt = 97 := by decide
  have i_12 : (122 : Int32).toInt = 122 := by decide
  have i_13 : (1000000 : Int32).toInt = 1000000 := by decide
  have i_14 : (10000000 : Int32).toInt = 10000000 := by decide
  let w1_ : va_W := [(mp_ob10 a0 y0 a2 a3 a4 a5 a1 y1 y2 y3 y4 y5 y6 y7 y8 y9 y10 a6 a7 a8 a9 a10 a11 a12 a13 y11 a14 a15 a16 a17 y12 y13 y14 a18 a19 y15 y16 a20 a21 a22 y17 y18 y19 y20 a23 a24 a25 y21), (mp_arI E a1 1 1600 f0)]
  show mp_W E X 2 0 [(0, .ref a0)] [] w1_ 0 0
  have jp_22 : ∀ (i_15 : Int32), 0 ≤ i_15.toInt → i_15.toInt ≤ 1600 → (i_15.toInt ≤ y1.toInt) → (y2.toInt ≤ i_15.toInt) → (mp_TS f0 (y1.toInt).toNat (y2.toInt).toNat = (i_15.toInt).toNat) → (mp_TS f0 (y1.toInt).toNat (i_15.toInt).toNat = (i_15.toInt).toNat) → mp_W E X 2 43 [(0, .ref a0)] [] [(mp_ob10 a0 y0 a2 a3 a4 a5 a1 y1 i_15 y3 y4 y5 y6 y7 y8 y9 y10 a6 a7 a8 a9 a10 a11 a12 a13 y11 a14 a15 a16 a17 y12 y13 y14 a18 a19 y15 y16 a20 a21 a22 y17 y18 y19 y20 a23 a24 a25 y21), (mp_arI E a1 1 1600 f0)] 0 0 := by
    intro i_15 l_16 u_17 x_18 x_19 x_20 x_21
    refine mp_run mp_k_cX10_next_ok hF mp_tabX10_ok [mp_i (.aload_n 0), mp_i (.aload_n 0), mp_h (.getfield 116) [7, 0], mp_h (.putfield 123) [9, 0]] (by decide +kernel) ?_
    refine And.intro rfl (And.intro rfl ?_)
    refine And.intro rfl (And.intro rfl (And.intro rfl (And.intro rfl (And.intro (Nat.le_of_ble_eq_true rfl) ?_))))
    let w2_ : va_W := [(mp_ob10 a0 y0 a2 a3 a4 a5 a1 y1 i_15 y3 i_15 y5 y6 y7 y8 y9 y10 a6 a7 a8 a9 a10 a11 a12 a13 y11 a14 a15 a16 a17 y12 y13 y14 a18 a19 y15 y16 a20 a21 a22 y17 y18 y19 y20 a23 a24 a25 y21), (mp_arI E a1 1 1600 f0)]
    show mp_W E X 2 51 [(0, .ref a0)] [] w2_ 0 0
    refine mp_run mp_k_cX10_next_ok hF mp_tabX10_ok [mp_i (.aload_n 0), mp_c (.iconst 0) 0, mp_h (.putfield 126) [10, 0]] (by decide +kernel) ?_
    refine And.intro rfl (And.intro rfl (And.intro rfl (And.intro rfl (And.intro (Nat.le_of_ble_eq_true rfl) ?_))))
    let w3_ : va_W := [(mp_ob10 a0 y0 a2 a3 a4 a5 a1 y1 i_15 y3 i_15 0 y6 y7 y8 y9 y10 a6 a7 a8 a9 a10 a11 a12 a13 y11 a14 a15 a16 a17 y12 y13 y14 a18 a19 y15 y16 a20 a21 a22 y17 y18 y19 y20 a23 a24 a25 y21), (mp_arI E a1 1 1600 f0)]
    show mp_W E X 2 56 [(0, .ref a0)] [] w3_ 0 0
    refine mp_run mp_k_cX10_next_ok hF mp_tabX10_ok [mp_i (.aload_n 0), mp_cl (.lconst 0) 0, mp_h (.putfield 129) [11, 0]] (by decide +kernel) ?_
    refine And.intro rfl (And.intro rfl (And.intro rfl (And.intro rfl (And.intro (Nat.le_of_ble_eq_true rfl) ?_))))
    let w4_ : va_W := [(mp_ob10 a0 y0 a2 a3 a4 a5 a1 y1 i_15 y3 i_15 0 0 y7 y8 y9 y10 a6 a7 a8 a9 a10 a11 a12 a13 y11 a14 a15 a16 a17 y12 y13 y14 a18 a19 y15 y16 a20 a21 a22 y17 y18 y19 y20 a23 a24 a25 y21), (mp_arI E a1 1 1600 f0)]
    show mp_W E X 2 61 [(0, .ref a0)] [] w4_ 0 0
    refine mp_run mp_k_cX10_next_ok hF mp_tabX10_ok [mp_i (.aload_n 0), mp_h (.getfield 116) [7, 0], mp_i (.aload_n 0), mp_h (.getfield 109) [6, 0], mp_h (.if_icmp .ne 11) [80]] (by decide +kernel) ?_
    refine And.intro rfl (And.intro rfl ?_)
    refine And.intro rfl (And.intro rfl ?_)
    refine And.intro (fun c_23 => ?_) (fun c_23 => ?_)
    · have c_23 : i_15.toInt ≠ y1.toInt := c_23
      show mp_W E X 2 80 [(0, .ref a0)] [] w4_ 0 0
      refine mp_run mp_k_cX10_next_ok hF mp_tabX10_ok [mp_i (.aload_n 0), mp_i (.aload_n 0), mp_h (.getfield 116) [7, 0], mp_c (.bipush 97) 97, mp_c (.bipush 122) 122] (by decide +kernel) ?_
      refine And.intro rfl (And.intro rfl ?_)
      show mp_W E X 2 89 [(0, .ref a0)] [.int 122, .int 97, .int i_15, .ref a0] w4_ 0 0
      refine mp_callV hF (As := [.int i_15, .int 97, .int 122]) (rest := []) (wr := []) (bX10_isByte_11 E a0 a1 a2 a3 a4 a5 a6 a7 a8 a9 a10 a11 a12 a13 a14 a15 a16 a17 a18 a19 a20 a21 a22 a23 a24 a25 f0 y0 y1 i_15 y3 i_15 0 0 y7 y8 y9 y10 y11 y12 y13 y14 y15 y16 y17 y18 y19 y20 y21 i_15 97 122 l_16 u_17 l_y1 u_y1 l_16 u_17 l_y3 u_y3 l_16 u_17 l_y11 u_y11 l_y12 u_y12 l_y13 u_y13) mp_lkX10_119 0 rfl [0, 1] [] rfl rfl rfl rfl rfl ⟨(Nat.le_of_ble_eq_true rfl), (Nat.le_of_ble_eq_true rfl), (Nat.le_of_ble_eq_true rfl), (Nat.le_of_ble_eq_true rfl)⟩ (Nat.le_of_ble_eq_true rfl) (by first | exact mp_fd_ok mp_k_cX10_next_ok (by decide +kernel) | decide +kernel) (fun v_24 w_25 h_26 => ?_)
      rcases h_26 with ⟨rfl, x_27, rfl⟩ | ⟨rfl, c_28, x_29, rfl⟩
      · skip
        show mp_W E X 2 92 [(0, .ref a0)] [.int 0] w4_ 0 0
        refine mp_run mp_k_cX10_next_ok hF mp_tabX10_ok [mp_h (.ifCond .eq 96) [188]] (by decide +kernel) ?_
        refine And.intro (fun _ => ?_) (fun c_30 => absurd c_30 (by decide))
        show mp_W E X 2 188 [(0, .ref a0)] [] w4_ 0 0
        refine mp_run mp_k_cX10_next_ok hF mp_tabX10_ok [mp_i (.aload_n 0), mp_i (.aload_n 0), mp_h (.getfield 116) [7, 0], mp_c (.bipush 48) 48, mp_c (.bipush 57) 57] (by decide +kernel) ?_
        refine And.intro rfl (And.intro rfl ?_)
        show mp_W E X 2 197 [(0, .ref a0)] [.int 57, .int 48, .int i_15, .ref a0] w4_ 0 0
        refine mp_callV hF (As := [.int i_15, .int 48, .int 57]) (rest := []) (wr := []) (bX10_isByte_11 E a0 a1 a2 a3 a4 a5 a6 a7 a8 a9 a10 a11 a12 a13 a14 a15 a16 a17 a18 a19 a20 a21 a22 a23 a24 a25 f0 y0 y1 i_15 y3 i_15 0 0 y7 y8 y9 y10 y11 y12 y13 y14 y15 y16 y17 y18 y19 y20 y21 i_15 48 57 l_16 u_17 l_y1 u_y1 l_16 u_17 l_y3 u_y3 l_16 u_17 l_y11 u_y11 l_y12 u_y12 l_y13 u_y13) mp_lkX10_119 0 rfl [0, 1] [] rfl rfl rfl rfl rfl ⟨(Nat.le_of_ble_eq_true rfl), (Nat.le_of_ble_eq_true rfl), (Nat.le_of_ble_eq_true rfl), (Nat.le_of_ble_eq_true rfl)⟩ (Nat.le_of_ble_eq_true rfl) (by first | exact mp_fd_ok mp_k_cX10_next_ok (by decide +kernel) | decide +kernel) (fun v_31 w_32 h_33 => ?_)
        rcases h_33 with ⟨rfl, x_34, rfl⟩ | ⟨rfl, c_35, x_36, rfl⟩
        · skip
          show mp_W E X 2 200 [(0, .ref a0)] [.int 0] w4_ 0 0
          refine mp_run mp_k_cX10_next_ok hF mp_tabX10_ok [mp_h (.ifCond .eq 74) [274]] (by decide +kernel) ?_
          refine And.intro (fun _ => ?_) (fun c_37 => absurd c_37 (by decide))
          show mp_W E X 2 274 [(0, .ref a0)] [] w4_ 0 0
          refine mp_run mp_k_cX10_next_ok hF mp_tabX10_ok [mp_i (.aload_n 0), mp_i (.aload_n 0), mp_h (.getfield 23) [5, 0], mp_i (.aload_n 0), mp_h (.getfield 116) [7, 0], mp_h .baload [1], mp_c (.bipush 59) 59, mp_h (.if_icmp .ne 7) [293]] (by decide +kernel) ?_
          refine And.intro rfl (And.intro rfl ?_)
          refine And.intro rfl (And.intro rfl ?_)
          refine And.intro rfl (And.intro rfl (And.intro (vp_in_iff.mpr (by (first | exact mp_o988 l_16 u_y1 c_23 x_18 | omega))) ?_))
          intro z_38 h_39
          have e_40 : z_38.toInt = (f0 i_15.toInt.toNat).toInt := congrArg Int32.toInt h_39
          refine And.intro (fun c_41 => ?_) (fun c_41 => ?_)
          · have c_41 : z_38.toInt ≠ 59 := c_41
            show mp_W E X 2 293 [(0, .ref a0)] [.ref a0] w4_ 0 0
            refine mp_run mp_k_cX10_next_ok hF mp_tabX10_ok [mp_c (.iconst 4) 4, mp_h (.putfield 133) [8, 0]] (by decide +kernel) ?_
            refine And.intro rfl (And.intro rfl (And.intro rfl (And.intro rfl (And.intro (Nat.le_of_ble_eq_true rfl) ?_))))
            let w5_ : va_W := [(mp_ob10 a0 y0 a2 a3 a4 a5 a1 y1 i_15 4 i_15 0 0 y7 y8 y9 y10 a6 a7 a8 a9 a10 a11 a12 a13 y11 a14 a15 a16 a17 y12 y13 y14 a18 a19 y15 y16 a20 a21 a22 y17 y18 y19 y20 a23 a24 a25 y21), (mp_arI E a1 1 1600 f0)]
            show mp_W E X 2 297 [(0, .ref a0)] [] w5_ 0 0
            refine mp_run mp_k_cX10_next_ok hF mp_tabX10_ok [mp_i (.aload_n 0), mp_i .dup, mp_h (.getfield 116) [7, 0], mp_c (.iconst 1) 1, mp_i .iadd, mp_h (.putfield 116) [7, 0]] (by decide +kernel) ?_
            refine And.intro rfl ?_
            refine And.intro rfl (And.intro rfl ?_)
            intro z_42 h_43
            have e_44 : z_42.toInt = i_15.toInt + 1 := mp_add (a := i_15.toInt) (b := 1) h_43 rfl (by decide) (by (first | exact mp_o2 l_16 | omega)) (by (first | exact mp_o71 u_17 | omega))
            refine And.intro rfl (And.intro rfl (And.intro rfl (And.intro rfl (And.intro (Nat.le_of_ble_eq_true rfl) ?_))))
            let w6_ : va_W := [(mp_ob10 a0 y0 a2 a3 a4 a5 a1 y1 z_42 4 i_15 0 0 y7 y8 y9 y10 a6 a7 a8 a9 a10 a11 a12 a13 y11 a14 a15 a16 a17 y12 y13 y14 a18 a19 y15 y16 a20 a21 a22 y17 y18 y19 y20 a23 a24 a25 y21), (mp_arI E a1 1 1600 f0)]
            show mp_W E X 2 307 [(0, .ref a0)] [] w6_ 0 0
            exact mp_vret hF hQ rfl (Nat.le_of_ble_eq_true rfl) (Nat.le_of_ble_eq_true rfl) [0, 1] (w' := w6_) rfl rfl ⟨z_42, 4, i_15, 0, 0, rfl, (by (first | exact mp_o51 l_16 e_44 | omega)), (by (first | exact mp_o989 u_y1 c_23 e_44 x_18 | omega)), (by decide), (by decide), l_16, u_17, (by decide), (by decide), (by decide), (by decide), (by first | (first | exact mp_o990 c_23 e_44 x_18 | omega) | decide | (have h8 : (0 : Int32).toInt = 0 := rfl; omega)), (by first | (first | exact mp_o991 x_19 e_44 | omega) | decide | (have h8 : (0 : Int32).toInt = 0 := rfl; omega)), (by have t9 := x_20; (first | exact mp_o68 l_16 x_20 | omega)), ⟨x_21, (by have t9 := (mp_tok3 (k := 4) x_21 (by (first | exact mp_o992 l_16 c_23 x_18 | omega)) (mp_lef (by (first | exact mp_o993 i_12 i_11 x_27 c_23 x_18 | omega))) (mp_dif (by (first | exact mp_o994 i_8 i_9 x_34 c_23 x_18 | omega))) (by (first | exact mp_o81 e_40 c_41 | omega))); rw [t9.1]; first | rfl | decide), (by have t9 := (mp_tok3 (k := 4) x_21 (by (first | exact mp_o992 l_16 c_23 x_18 | omega)) (mp_lef (by (first | exact mp_o993 i_12 i_11 x_27 c_23 x_18 | omega))) (mp_dif (by (first | exact mp_o994 i_8 i_9 x_34 c_23 x_18 | omega))) (by (first | exact mp_o81 e_40 c_41 | omega))); (first | exact mp_o82 l_16 e_44 t9 | omega)), (Or.inl (by decide)), (Or.inl (by decide))⟩, rfl⟩ (by first | exact mp_fd_ok mp_k_cX10_next_ok (by decide +kernel) | decide +kernel)
          · have c_41 : z_38.toInt = 59 := (congrArg Int32.toInt c_41)
            show mp_W E X 2 289 [(0, .ref a0)] [.ref a0] w4_ 0 0
            refine mp_run mp_k_cX10_next_ok hF mp_tabX10_ok [mp_c (.iconst 3) 3, mp_h (.goto 4) [294], mp_h (.putfield 133) [8, 0]] (by decide +kernel) ?_
            refine And.intro rfl (And.intro rfl (And.intro rfl (And.intro rfl (And.intro (Nat.le_of_ble_eq_true rfl) ?_))))
            let w7_ : va_W := [(mp_ob10 a0 y0 a2 a3 a4 a5 a1 y1 i_15 3 i_15 0 0 y7 y8 y9 y10 a6 a7 a8 a9 a10 a11 a12 a13 y11 a14 a15 a16 a17 y12 y13 y14 a18 a19 y15 y16 a20 a21 a22 y17 y18 y19 y20 a23 a24 a25 y21), (mp_arI E a1 1 1600 f0)]
            show mp_W E X 2 297 [(0, .ref a0)] [] w7_ 0 0
            refine mp_run mp_k_cX10_next_ok hF mp_tabX10_ok [mp_i (.aload_n 0), mp_i .dup, mp_h (.getfield 116) [7, 0], mp_c (.iconst 1) 1, mp_i .iadd, mp_h (.putfield 116) [7, 0]] (by decide +kernel) ?_
            refine And.intro rfl ?_
            refine And.intro rfl (And.intro rfl ?_)
            intro z_45 h_46
            have e_47 : z_45.toInt = i_15.toInt + 1 := mp_add (a := i_15.toInt) (b := 1) h_46 rfl (by decide) (by (first | exact mp_o2 l_16 | omega)) (by (first | exact mp_o71 u_17 | omega))
            refine And.intro rfl (And.intro rfl (And.intro rfl (And.intro rfl (And.intro (Nat.le_of_ble_eq_true rfl) ?_))))
            let w8_ : va_W := [(mp_ob10 a0 y0 a2 a3 a4 a5 a1 y1 z_45 3 i_15 0 0 y7 y8 y9 y10 a6 a7 a8 a9 a10 a11 a12 a13 y11 a14 a15 a16 a17 y12 y13 y14 a18 a19 y15 y16 a20 a21 a22 y17 y18 y19 y20 a23 a24 a25 y21), (mp_arI E a1 1 1600 f0)]
            show mp_W E X 2 307 [(0, .ref a0)] [] w8_ 0 0
            exact mp_vret hF hQ rfl (Nat.le_of_ble_eq_true rfl) (Nat.le_of_ble_eq_true rfl) [0, 1] (w' := w8_) rfl rfl ⟨z_45, 3, i_15, 0, 0, rfl, (by omega), (by (first | exact mp_o989 u_y1 c_23 e_47 x_18 | omega)), (by decide), (by decide), l_16, u_17, (by decide), (by decide), (by decide), (by decide), (by first | (first | exact mp_o990 c_23 e_47 x_18 | omega) | decide | (have h8 : (0 : Int32).toInt = 0 := rfl; omega)), (by first | (first | exact mp_o991 x_19 e_47 | omega) | decide | (have h8 : (0 : Int32).toInt = 0 := rfl; omega)), (by have t9 := x_20; (first | exact mp_o68 l_16 x_20 | omega)), ⟨x_21, (by have t9 := (mp_tok3 (k := 3) x_21 (by (first | exact mp_o992 l_16 c_23 x_18 | omega)) (mp_lef (by (first | exact mp_o995 c_41 e_40 | omega))) (mp_dif (by (first | exact mp_o996 c_41 e_40 | omega))) (by (first | exact mp_o83 c_41 e_40 | omega))); rw [t9.1]; first | rfl | decide), (by have t9 := (mp_tok3 (k := 3) x_21 (by (first | exact mp_o992 l_16 c_23 x_18 | omega)) (mp_lef (by (first | exact mp_o995 c_41 e_40 | omega))) (mp_dif (by (first | exact mp_o996 c_41 e_40 | omega))) (by (first | exact mp_o83 c_41 e_40 | omega))); (first | exact mp_o84 l_16 e_47 t9 | omega)), (Or.inl (by decide)), (Or.inl (by decide))⟩, rfl⟩ (by first | exact mp_fd_ok mp_k_cX10_next_ok (by decide +kernel) | decide +kernel)
        · skip
          have c_35 : i_15.toInt < y1.toInt := c_35
          show mp_W E X 2 200 [(0, .ref a0)] [.int 1] w4_ 0 0
          refine mp_run mp_k_cX10_next_ok hF mp_tabX10_ok [mp_h (.ifCond .eq 74) [274]] (by decide +kernel) ?_
          refine And.intro (fun c_48 => absurd c_48 (by decide)) (fun _ => ?_)
          show mp_W E X 2 203 [(0, .ref a0)] [] w4_ 0 0
          refine mp_run mp_k_cX10_next_ok hF mp_tabX10_ok [mp_i (.aload_n 0), mp_c (.iconst 2) 2, mp_h (.putfield 133) [8, 0]] (by decide +kernel) ?_
          refine And.intro rfl (And.intro rfl (And.intro rfl (And.intro rfl (And.intro (Nat.le_of_ble_eq_true rfl) ?_))))
          let w9_ : va_W := [(mp_ob10 a0 y0 a2 a3 a4 a5 a1 y1 i_15 2 i_15 0 0 y7 y8 y9 y10 a6 a7 a8 a9 a10 a11 a12 a13 y11 a14 a15 a16 a17 y12 y13 y14 a18 a19 y15 y16 a20 a21 a22 y17 y18 y19 y20 a23 a24 a25 y21), (mp_arI E a1 1 1600 f0)]
          show mp_W E X 2 208 [(0, .ref a0)] [] w9_ 0 0
          refine mp_run mp_k_cX10_next_ok hF mp_tabX10_ok [mp_i (.aload_n 0), mp_i (.aload_n 0), mp_h (.getfield 116) [7, 0], mp_c (.bipush 48) 48, mp_c (.bipush 57) 57] (by decide +kernel) ?_
          refine And.intro rfl (And.intro rfl ?_)
          show mp_W E X 2 217 [(0, .ref a0)] [.int 57, .int 48, .int i_15, .ref a0] w9_ 0 0
          refine mp_callV hF (As := [.int i_15, .int 48, .int 57]) (rest := []) (wr := []) (bX10_isByte_11 E a0 a1 a2 a3 a4 a5 a6 a7 a8 a9 a10 a11 a12 a13 a14 a15 a16 a17 a18 a19 a20 a21 a22 a23 a24 a25 f0 y0 y1 i_15 2 i_15 0 0 y7 y8 y9 y10 y11 y12 y13 y14 y15 y16 y17 y18 y19 y20 y21 i_15 48 57 l_16 u_17 l_y1 u_y1 l_16 u_17 (by decide) (by decide) l_16 u_17 l_y11 u_y11 l_y12 u_y12 l_y13 u_y13) mp_lkX10_119 0 rfl [0, 1] [] rfl rfl rfl rfl rfl ⟨(Nat.le_of_ble_eq_true rfl), (Nat.le_of_ble_eq_true rfl), (Nat.le_of_ble_eq_true rfl), (Nat.le_of_ble_eq_true rfl)⟩ (Nat.le_of_ble_eq_true rfl) (by first | exact mp_fd_ok mp_k_cX10_next_ok (by decide +kernel) | decide +kernel) (fun v_49 w_50 h_51 => ?_)
          rcases h_51 with ⟨rfl, x_52, rfl⟩ | ⟨rfl, c_53, x_54, rfl⟩
          · skip
            exfalso; (first | exact mp_o997 c_35 x_36 x_52 | omega)
          · skip
            have c_53 : i_15.toInt < y1.toInt := c_53
            show mp_W E X 2 220 [(0, .ref a0)] [.int 1] w9_ 0 0
            refine mp_run mp_k_cX10_next_ok hF mp_tabX10_ok [mp_h (.ifCond .eq 87) [307]] (by decide +kernel) ?_
            refine And.intro (fun c_55 => absurd c_55 (by decide)) (fun _ => ?_)
            show mp_W E X 2 223 [(0, .ref a0)] [] w9_ 0 0
            refine mp_run mp_k_cX10_next_ok hF mp_tabX10_ok [mp_i (.aload_n 0), mp_i (.aload_n 0), mp_h (.getfield 126) [10, 0], mp_c (.ldc 142) 1000000, mp_h (.if_icmp .le 8) [238]] (by decide +kernel) ?_
            refine And.intro rfl (And.intro rfl ?_)
            refine And.intro (fun _ => ?_) (fun c_56 => absurd c_56 (by decide))
            show mp_W E X 2 238 [(0, .ref a0)] [.ref a0] w9_ 0 0
            refine mp_run mp_k_cX10_next_ok hF mp_tabX10_ok [mp_c (.bipush 10) 10, mp_i (.aload_n 0), mp_h (.getfield 126) [10, 0], mp_i .imul, mp_i (.aload_n 0), mp_h (.getfield 23) [5, 0], mp_i (.aload_n 0), mp_h (.getfield 116) [7, 0], mp_h .baload [1], mp_i .iadd, mp_c (.bipush 48) 48, mp_i .isub, mp_h (.putfield 126) [10, 0]] (by decide +kernel) ?_
            refine And.intro rfl (And.intro rfl ?_)
            intro z_57 h_58
            obtain rfl : z_57 = 0 := h_58.trans (by decide)
            refine And.intro rfl (And.intro rfl ?_)
            refine And.intro rfl (And.intro rfl ?_)
            refine And.intro rfl (And.intro rfl (And.intro (vp_in_iff.mpr (by (first | exact mp_o70 l_16 u_y1 c_35 | omega))) ?_))
            intro z_59 h_60
            have e_61 : z_59.toInt = (f0 i_15.toInt.toNat).toInt := congrArg Int32.toInt h_60
            intro z_62 h_63
            have e_64 : z_62.toInt = 0 + z_59.toInt := mp_add (a := 0) (b := z_59.toInt) h_63 (by decide) rfl (by (first | exact mp_o998 i_8 e_61 x_36 | omega)) (by (first | exact mp_o999 i_9 e_61 x_36 | omega))
            intro z_65 h_66
            have e_67 : z_65.toInt = z_62.toInt - 48 := mp_subi (a := z_62.toInt) (b := 48) h_66 rfl (by decide) (by (first | exact mp_o1000 i_8 e_64 e_61 x_36 | omega)) (by (first | exact mp_o1001 i_9 e_64 e_61 x_36 | omega))
            refine And.intro rfl (And.intro rfl (And.intro rfl (And.intro rfl (And.intro (Nat.le_of_ble_eq_true rfl) ?_))))
            let w10_ : va_W := [(mp_ob10 a0 y0 a2 a3 a4 a5 a1 y1 i_15 2 i_15 z_65 0 y7 y8 y9 y10 a6 a7 a8 a9 a10 a11 a12 a13 y11 a14 a15 a16 a17 y12 y13 y14 a18 a19 y15 y16 a20 a21 a22 y17 y18 y19 y20 a23 a24 a25 y21), (mp_arI E a1 1 1600 f0)]
            show mp_W E X 2 261 [(0, .ref a0)] [] w10_ 0 0
            refine mp_run mp_k_cX10_next_ok hF mp_tabX10_ok [mp_i (.aload_n 0), mp_i .dup, mp_h (.getfield 116) [7, 0], mp_c (.iconst 1) 1, mp_i .iadd, mp_h (.putfield 116) [7, 0]] (by decide +kernel) ?_
            refine And.intro rfl ?_
            refine And.intro rfl (And.intro rfl ?_)
            intro z_68 h_69
            have e_70 : z_68.toInt = i_15.toInt + 1 := mp_add (a := i_15.toInt) (b := 1) h_69 rfl (by decide) (by (first | exact mp_o2 l_16 | omega)) (by (first | exact mp_o71 u_17 | omega))
            refine And.intro rfl (And.intro rfl (And.intro rfl (And.intro rfl (And.intro (Nat.le_of_ble_eq_true rfl) ?_))))
            let w11_ : va_W := [(mp_ob10 a0 y0 a2 a3 a4 a5 a1 y1 z_68 2 i_15 z_65 0 y7 y8 y9 y10 a6 a7 a8 a9 a10 a11 a12 a13 y11 a14 a15 a16 a17 y12 y13 y14 a18 a19 y15 y16 a20 a21 a22 y17 y18 y19 y20 a23 a24 a25 y21), (mp_arI E a1 1 1600 f0)]
            show mp_W E X 2 271 [(0, .ref a0)] [] w11_ 0 0
            refine mp_run mp_k_cX10_next_ok hF mp_tabX10_ok [mp_h (.goto (-63)) [208]] (by decide +kernel) ?_
            show mp_W E X 2 208 [(0, .ref a0)] [] w11_ 0 0
            have lp_82 : ∀ (d_83 : Nat) (i_71 : Int32) (i_72 : Int32), 0 ≤ i_71.toInt → i_71.toInt ≤ 1600 → 0 ≤ i_72.toInt → (i_71.toInt ≤ y1.toInt) → (y2.toInt + 1 ≤ i_71.toInt) → (∀ j : Nat, (i_15.toInt).toNat ≤ j → (j : Int) < i_71.toInt → mp_isDi (f0 j).toInt = true) → (i_15.toInt + 1 ≤ i_71.toInt) → (mp_capR i_72.toInt (mp_VV f0 (i_15.toInt).toNat (i_71.toInt - i_15.toInt).toNat)) → (0 ≤ i_72.toInt ∧ i_72.toInt ≤ 10000009) → y1.toInt - i_71.toInt ≤ (d_83 : Int) → mp_W E X 2 208 [(0, .ref a0)] [] [(mp_ob10 a0 y0 a2 a3 a4 a5 a1 y1 i_71 2 i_15 i_72 0 y7 y8 y9 y10 a6 a7 a8 a9 a10 a11 a12 a13 y11 a14 a15 a16 a17 y12 y13 y14 a18 a19 y15 y16 a20 a21 a22 y17 y18 y19 y20 a23 a24 a25 y21), (mp_arI E a1 1 1600 f0)] 0 0 := by
              intro d_83
              induction d_83 using Nat.strongRecOn with
              | ind d_83 ih_84 =>
                intro i_71 i_72 l_73 u_74 l_75 x_76 x_77 x_78 x_79 x_80 x_81 hm_85
                refine mp_run mp_k_cX10_next_ok hF mp_tabX10_ok [mp_i (.aload_n 0), mp_i (.aload_n 0), mp_h (.getfield 116) [7, 0], mp_c (.bipush 48) 48, mp_c (.bipush 57) 57] (by decide +kernel) ?_
                refine And.intro rfl (And.intro rfl ?_)
                let w12_ : va_W := [(mp_ob10 a0 y0 a2 a3 a4 a5 a1 y1 i_71 2 i_15 i_72 0 y7 y8 y9 y10 a6 a7 a8 a9 a10 a11 a12 a13 y11 a14 a15 a16 a17 y12 y13 y14 a18 a19 y15 y16 a20 a21 a22 y17 y18 y19 y20 a23 a24 a25 y21), (mp_arI E a1 1 1600 f0)]
                show mp_W E X 2 217 [(0, .ref a0)] [.int 57, .int 48, .int i_71, .ref a0] w12_ 0 0
                refine mp_callV hF (As := [.int i_71, .int 48, .int 57]) (rest := []) (wr := []) (bX10_isByte_11 E a0 a1 a2 a3 a4 a5 a6 a7 a8 a9 a10 a11 a12 a13 a14 a15 a16 a17 a18 a19 a20 a21 a22 a23 a24 a25 f0 y0 y1 i_71 2 i_15 i_72 0 y7 y8 y9 y10 y11 y12 y13 y14 y15 y16 y17 y18 y19 y20 y21 i_71 48 57 l_73 u_74 l_y1 u_y1 l_73 u_74 (by decide) (by decide) l_16 u_17 l_y11 u_y11 l_y12 u_y12 l_y13 u_y13) mp_lkX10_119 0 rfl [0, 1] [] rfl rfl rfl rfl rfl ⟨(Nat.le_of_ble_eq_true rfl), (Nat.le_of_ble_eq_true rfl), (Nat.le_of_ble_eq_true rfl), (Nat.le_of_ble_eq_true rfl)⟩ (Nat.le_of_ble_eq_true rfl) (by first | exact mp_fd_ok mp_k_cX10_next_ok (by decide +kernel) | decide +kernel) (fun v_86 w_87 h_88 => ?_)
                rcases h_88 with ⟨rfl, x_89, rfl⟩ | ⟨rfl, c_90, x_91, rfl⟩
                · skip
                  show mp_W E X 2 220 [(0, .ref a0)] [.int 0] w12_ 0 0
                  refine mp_run mp_k_cX10_next_ok hF mp_tabX10_ok [mp_h (.ifCond .eq 87) [307]] (by decide +kernel) ?_
                  refine And.intro (fun _ => ?_) (fun c_92 => absurd c_92 (by decide))
                  show mp_W E X 2 307 [(0, .ref a0)] [] w12_ 0 0
                  exact mp_vret hF hQ rfl (Nat.le_of_ble_eq_true rfl) (Nat.le_of_ble_eq_true rfl) [0, 1] (w' := w12_) rfl rfl ⟨i_71, 2, i_15, i_72, 0, rfl, l_73, u_74, (by decide), (by decide), l_16, u_17, l_75, (by (first | exact mp_o1002 x_81 | omega)), (by decide), (by decide), (by first | (first | exact x_76 | omega) | decide | (have h8 : (0 : Int32).toInt = 0 := rfl; omega)), (by first | (first | exact mp_o1003 x_77 | omega) | decide | (have h8 : (0 : Int32).toInt = 0 := rfl; omega)), (by have t9 := x_20; (first | exact mp_o68 l_16 x_20 | omega)), ⟨x_21, (by have t9 := (mp_tok2 x_21 (by (first | exact mp_o80 l_16 c_35 | omega)) (mp_lef (by have q8 := (of_decide_eq_true (x_78 i_15.toInt.toNat (Nat.le_refl _) (by (first | exact mp_o1004 x_79 l_16 | omega))) : 48 ≤ (f0 (i_15.toInt).toNat).toInt ∧ (f0 (i_15.toInt).toNat).toInt ≤ 57); (first | exact mp_o1005 i_9 x_36 | omega))) (x_78 i_15.toInt.toNat (Nat.le_refl _) (by (first | exact mp_o1004 x_79 l_16 | omega))) (mp_end_i (by (first | exact mp_o1006 x_79 | omega)) (by (first | exact l_16 | omega)) (by (first | exact mp_o86 x_76 | omega)) x_78 (if q9 : y1.toInt ≤ i_71.toInt then Or.inl q9 else Or.inr (mp_dif (by (first | exact mp_o1007 i_8 i_9 x_89 q9 | omega)))))); rw [t9.1]; first | rfl | decide), (by have t9 := (mp_tok2 x_21 (by (first | exact mp_o80 l_16 c_35 | omega)) (mp_lef (by have q8 := (of_decide_eq_true (x_78 i_15.toInt.toNat (Nat.le_refl _) (by (first | exact mp_o1004 x_79 l_16 | omega))) : 48 ≤ (f0 (i_15.toInt).toNat).toInt ∧ (f0 (i_15.toInt).toNat).toInt ≤ 57); (first | exact mp_o1005 i_9 x_36 | omega))) (x_78 i_15.toInt.toNat (Nat.le_refl _) (by (first | exact mp_o1004 x_79 l_16 | omega))) (mp_end_i (by (first | exact mp_o1006 x_79 | omega)) (by (first | exact l_16 | omega)) (by (first | exact mp_o86 x_76 | omega)) x_78 (if q9 : y1.toInt ≤ i_71.toInt then Or.inl q9 else Or.inr (mp_dif (by (first | exact mp_o1007 i_8 i_9 x_89 q9 | omega)))))); (first | exact mp_o87 l_73 t9 | omega)), (Or.inr (by have t9 := (mp_tok2 x_21 (by (first | exact mp_o80 l_16 c_35 | omega)) (mp_lef (by have q8 := (of_decide_eq_true (x_78 i_15.toInt.toNat (Nat.le_refl _) (by (first | exact mp_o1004 x_79 l_16 | omega))) : 48 ≤ (f0 (i_15.toInt).toNat).toInt ∧ (f0 (i_15.toInt).toNat).toInt ≤ 57); (first | exact mp_o1005 i_9 x_36 | omega))) (x_78 i_15.toInt.toNat (Nat.le_refl _) (by (first | exact mp_o1004 x_79 l_16 | omega))) (mp_end_i (by (first | exact mp_o1006 x_79 | omega)) (by (first | exact l_16 | omega)) (by (first | exact mp_o86 x_76 | omega)) x_78 (if q9 : y1.toInt ≤ i_71.toInt then Or.inl q9 else Or.inr (mp_dif (by (first | exact mp_o1007 i_8 i_9 x_89 q9 | omega)))))); rw [mp_TV_eq x_21 t9.2 (by (first | exact mp_o1008 x_79 l_16 | omega))]; exact x_80)), (Or.inl (by decide))⟩, rfl⟩ (by first | exact mp_fd_ok mp_k_cX10_next_ok (by decide +kernel) | decide +kernel)
                · skip
                  have c_90 : i_71.toInt < y1.toInt := c_90
                  show mp_W E X 2 220 [(0, .ref a0)] [.int 1] w12_ 0 0
                  refine mp_run mp_k_cX10_next_ok hF mp_tabX10_ok [mp_h (.ifCond .eq 87) [307]] (by decide +kernel) ?_
                  refine And.intro (fun c_93 => absurd c_93 (by decide)) (fun _ => ?_)
                  show mp_W E X 2 223 [(0, .ref a0)] [] w12_ 0 0
                  refine mp_run mp_k_cX10_next_ok hF mp_tabX10_ok [mp_i (.aload_n 0), mp_i (.aload_n 0), mp_h (.getfield 126) [10, 0], mp_c (.ldc 142) 1000000, mp_h (.if_icmp .le 8) [238]] (by decide +kernel) ?_
                  refine And.intro rfl (And.intro rfl ?_)
                  refine And.intro (fun c_94 => ?_) (fun c_94 => ?_)
                  · have c_94 : i_72.toInt ≤ 1000000 := c_94
                    show mp_W E X 2 238 [(0, .ref a0)] [.ref a0] w12_ 0 0
                    refine mp_run mp_k_cX10_next_ok hF mp_tabX10_ok [mp_c (.bipush 10) 10, mp_i (.aload_n 0), mp_h (.getfield 126) [10, 0], mp_i .imul, mp_i (.aload_n 0), mp_h (.getfield 23) [5, 0], mp_i (.aload_n 0), mp_h (.getfield 116) [7, 0], mp_h .baload [1], mp_i .iadd, mp_c (.bipush 48) 48, mp_i .isub, mp_h (.putfield 126) [10, 0]] (by decide +kernel) ?_
                    refine And.intro rfl (And.intro rfl ?_)
                    intro z_95 h_96
                    have e_97 : z_95.toInt = 10 * i_72.toInt := mp_mul (a := 10) (b := i_72.toInt) h_96 (by decide) rfl (by (first | exact mp_o486 l_75 | omega)) (by (first | exact mp_o1009 c_94 | omega))
                    refine And.intro rfl (And.intro rfl ?_)
                    refine And.intro rfl (And.intro rfl ?_)
                    refine And.intro rfl (And.intro rfl (And.intro (vp_in_iff.mpr (by (first | exact mp_o70 l_73 u_y1 c_90 | omega))) ?_))
                    intro z_98 h_99
                    have e_100 : z_98.toInt = (f0 i_71.toInt.toNat).toInt := congrArg Int32.toInt h_99
                    intro z_101 h_102
                    have e_103 : z_101.toInt = z_95.toInt + z_98.toInt := mp_add (a := z_95.toInt) (b := z_98.toInt) h_102 rfl rfl (by (first | exact mp_o1010 l_75 e_97 i_8 e_100 x_91 | omega)) (by (first | exact mp_o1011 i_9 c_94 e_97 e_100 x_91 | omega))
                    intro z_104 h_105
                    have e_106 : z_104.toInt = z_101.toInt - 48 := mp_subi (a := z_101.toInt) (b := 48) h_105 rfl (by decide) (by (first | exact mp_o1012 l_75 e_97 i_8 e_103 e_100 x_91 | omega)) (by (first | exact mp_o1013 i_9 c_94 e_97 e_103 e_100 x_91 | omega))
                    refine And.intro rfl (And.intro rfl (And.intro rfl (And.intro rfl (And.intro (Nat.le_of_ble_eq_true rfl) ?_))))
                    let w13_ : va_W := [(mp_ob10 a0 y0 a2 a3 a4 a5 a1 y1 i_71 2 i_15 z_104 0 y7 y8 y9 y10 a6 a7 a8 a9 a10 a11 a12 a13 y11 a14 a15 a16 a17 y12 y13 y14 a18 a19 y15 y16 a20 a21 a22 y17 y18 y19 y20 a23 a24 a25 y21), (mp_arI E a1 1 1600 f0)]
                    show mp_W E X 2 261 [(0, .ref a0)] [] w13_ 0 0
                    refine mp_run mp_k_cX10_next_ok hF mp_tabX10_ok [mp_i (.aload_n 0), mp_i .dup, mp_h (.getfield 116) [7, 0], mp_c (.iconst 1) 1, mp_i .iadd, mp_h (.putfield 116) [7, 0]] (by decide +kernel) ?_
                    refine And.intro rfl ?_
                    refine And.intro rfl (And.intro rfl ?_)
                    intro z_107 h_108
                    have e_109 : z_107.toInt = i_71.toInt + 1 := mp_add (a := i_71.toInt) (b := 1) h_108 rfl (by decide) (by (first | exact mp_o2 l_73 | omega)) (by (first | exact mp_o71 u_74 | omega))
                    refine And.intro rfl (And.intro rfl (And.intro rfl (And.intro rfl (And.intro (Nat.le_of_ble_eq_true rfl) ?_))))
                    let w14_ : va_W := [(mp_ob10 a0 y0 a2 a3 a4 a5 a1 y1 z_107 2 i_15 z_104 0 y7 y8 y9 y10 a6 a7 a8 a9 a10 a11 a12 a13 y11 a14 a15 a16 a17 y12 y13 y14 a18 a19 y15 y16 a20 a21 a22 y17 y18 y19 y20 a23 a24 a25 y21), (mp_arI E a1 1 1600 f0)]
                    show mp_W E X 2 271 [(0, .ref a0)] [] w14_ 0 0
                    refine mp_run mp_k_cX10_next_ok hF mp_tabX10_ok [mp_h (.goto (-63)) [208]] (by decide +kernel) ?_
                    show mp_W E X 2 208 [(0, .ref a0)] [] w14_ 0 0
                    exact mp_sub [0] rfl [0, 1] rfl rfl (ih_84 (d_83 - 1) (by (first | exact mp_o72 hm_85 c_90 | omega)) z_107 z_104 (by (first | exact mp_o51 l_73 e_109 | omega)) (by (first | exact mp_o73 u_y1 c_90 e_109 | omega)) (by (first | exact mp_o1014 l_75 e_97 i_8 e_106 e_103 e_100 x_91 | omega)) (by (first | exact mp_o97 c_90 e_109 | omega)) (by (first | exact mp_o461 x_77 e_109 | omega)) (mp_all_s x_78 (mp_dit (by (first | exact mp_o1015 i_8 x_91 i_9 | omega))) (by (first | exact mp_o53 l_73 e_109 | omega))) (by (first | exact mp_o461 x_79 e_109 | omega)) (by rw [mp_VV_s (c := i_71.toInt) (by (first | exact mp_o1016 x_79 l_16 e_109 | omega))]; exact mp_capR_s x_80 (by (first | exact mp_o1017 i_8 x_91 i_9 | omega)) (mp_VV_i (by (first | exact mp_o1008 x_79 l_16 | omega)) x_78) (by first | (first | exact mp_o1018 c_94 e_97 e_100 e_103 e_106 | omega) | exact Or.inl ⟨by omega, by decide⟩)) (by first | (first | exact mp_o1019 l_75 c_94 e_97 i_8 i_9 e_106 e_103 e_100 x_91 | omega) | decide) (by (first | exact mp_o77 hm_85 e_109 | omega)))
                  · have c_94 : 1000000 < i_72.toInt := c_94
                    show mp_W E X 2 233 [(0, .ref a0)] [.ref a0] w12_ 0 0
                    refine mp_run mp_k_cX10_next_ok hF mp_tabX10_ok [mp_c (.ldc 143) 10000000, mp_h (.goto 23) [258], mp_h (.putfield 126) [10, 0]] (by decide +kernel) ?_
                    refine And.intro rfl (And.intro rfl (And.intro rfl (And.intro rfl (And.intro (Nat.le_of_ble_eq_true rfl) ?_))))
                    let w15_ : va_W := [(mp_ob10 a0 y0 a2 a3 a4 a5 a1 y1 i_71 2 i_15 10000000 0 y7 y8 y9 y10 a6 a7 a8 a9 a10 a11 a12 a13 y11 a14 a15 a16 a17 y12 y13 y14 a18 a19 y15 y16 a20 a21 a22 y17 y18 y19 y20 a23 a24 a25 y21), (mp_arI E a1 1 1600 f0)]
                    show mp_W E X 2 261 [(0, .ref a0)] [] w15_ 0 0
                    refine mp_run mp_k_cX10_next_ok hF mp_tabX10_ok [mp_i (.aload_n 0), mp_i .dup, mp_h (.getfield 116) [7, 0], mp_c (.iconst 1) 1, mp_i .iadd, mp_h (.putfield 116) [7, 0]] (by decide +kernel) ?_
                    refine And.intro rfl ?_
                    refine And.intro rfl (And.intro rfl ?_)
                    intro z_110 h_111
                    have e_112 : z_110.toInt = i_71.toInt + 1 := mp_add (a := i_71.toInt) (b := 1) h_111 rfl (by decide) (by (first | exact mp_o2 l_73 | omega)) (by (first | exact mp_o71 u_74 | omega))
                    refine And.intro rfl (And.intro rfl (And.intro rfl (And.intro rfl (And.intro (Nat.le_of_ble_eq_true rfl) ?_))))
                    let w16_ : va_W := [(mp_ob10 a0 y0 a2 a3 a4 a5 a1 y1 z_110 2 i_15 10000000 0 y7 y8 y9 y10 a6 a7 a8 a9 a10 a11 a12 a13 y11 a14 a15 a16 a17 y12 y13 y14 a18 a19 y15 y16 a20 a21 a22 y17 y18 y19 y20 a23 a24 a25 y21), (mp_arI E a1 1 1600 f0)]
                    show mp_W E X 2 271 [(0, .ref a0)] [] w16_ 0 0
                    refine mp_run mp_k_cX10_next_ok hF mp_tabX10_ok [mp_h (.goto (-63)) [208]] (by decide +kernel) ?_
                    show mp_W E X 2 208 [(0, .ref a0)] [] w16_ 0 0
                    exact mp_sub [0] rfl [0, 1] rfl rfl (ih_84 (d_83 - 1) (by (first | exact mp_o72 hm_85 c_90 | omega)) z_110 10000000 (by (first | exact mp_o51 l_73 e_112 | omega)) (by (first | exact mp_o73 u_y1 c_90 e_112 | omega)) (by decide) (by (first | exact mp_o97 c_90 e_112 | omega)) (by (first | exact mp_o461 x_77 e_112 | omega)) (mp_all_s x_78 (mp_dit (by (first | exact mp_o1015 i_8 x_91 i_9 | omega))) (by (first | exact mp_o53 l_73 e_112 | omega))) (by (first | exact mp_o461 x_79 e_112 | omega)) (by rw [mp_VV_s (c := i_71.toInt) (by (first | exact mp_o1016 x_79 l_16 e_112 | omega))]; exact mp_capR_s x_80 (by (first | exact mp_o1017 i_8 x_91 i_9 | omega)) (mp_VV_i (by (first | exact mp_o1008 x_79 l_16 | omega)) x_78) (by first | (first | exact mp_o1020 c_94 i_14 | omega) | exact Or.inl ⟨by omega, by decide⟩)) (by first | (first | exact mp_o1021 i_14 | omega) | decide) (by (first | exact mp_o77 hm_85 e_112 | omega)))
            exact mp_sub [0] rfl [0, 1] rfl rfl (lp_82 _ z_68 z_65 (by (first | exact mp_o51 l_16 e_70 | omega)) (by (first | exact mp_o73 u_y1 c_35 e_70 | omega)) (by (first | exact mp_o1022 i_8 e_67 e_64 e_61 x_36 | omega)) (by (first | exact mp_o97 c_35 e_70 | omega)) (by (first | exact mp_o1023 x_19 e_70 | omega)) (mp_all_s (i := i_15.toInt) (mp_all_0 (Int.le_refl _)) (mp_dit (by (first | exact mp_o1015 i_8 x_36 i_9 | omega))) (by (first | exact mp_o53 l_16 e_70 | omega))) (by (first | exact mp_o469 e_70 | omega)) (Or.inl (by rw [mp_VV_1 (by (first | exact mp_o53 l_16 e_70 | omega))]; (first | exact mp_o1024 i_9 x_36 e_61 e_64 e_67 | omega))) (by (first | exact mp_o1025 i_8 i_9 e_67 e_64 e_61 x_36 | omega)) (Int.self_le_toNat _))
      · skip
        have c_28 : i_15.toInt < y1.toInt := c_28
        show mp_W E X 2 92 [(0, .ref a0)] [.int 1] w4_ 0 0
        refine mp_run mp_k_cX10_next_ok hF mp_tabX10_ok [mp_h (.ifCond .eq 96) [188]] (by decide +kernel) ?_
        refine And.intro (fun c_113 => absurd c_113 (by decide)) (fun _ => ?_)
        show mp_W E X 2 95 [(0, .ref a0)] [] w4_ 0 0
        refine mp_run mp_k_cX10_next_ok hF mp_tabX10_ok [mp_i (.aload_n 0), mp_c (.iconst 1) 1, mp_h (.putfield 133) [8, 0]] (by decide +kernel) ?_
        refine And.intro rfl (And.intro rfl (And.intro rfl (And.intro rfl (And.intro (Nat.le_of_ble_eq_true rfl) ?_))))
        let w17_ : va_W := [(mp_ob10 a0 y0 a2 a3 a4 a5 a1 y1 i_15 1 i_15 0 0 y7 y8 y9 y10 a6 a7 a8 a9 a10 a11 a12 a13 y11 a14 a15 a16 a17 y12 y13 y14 a18 a19 y15 y16 a20 a21 a22 y17 y18 y19 y20 a23 a24 a25 y21), (mp_arI E a1 1 1600 f0)]
        show mp_W E X 2 100 [(0, .ref a0)] [] w17_ 0 0
        refine mp_run mp_k_cX10_next_ok hF mp_tabX10_ok [mp_c (.iconst 0) 0, mp_i (.istore_n 1)] (by decide +kernel) ?_
        show mp_W E X 2 102 [(1, .int 0), (0, .ref a0)] [] w17_ 0 0
        refine mp_run mp_k_cX10_next_ok hF mp_tabX10_ok [mp_i (.aload_n 0), mp_i (.aload_n 0), mp_h (.getfield 116) [7, 0], mp_c (.bipush 97) 97, mp_c (.bipush 122) 122] (by decide +kernel) ?_
        refine And.intro rfl (And.intro rfl ?_)
        show mp_W E X 2 111 [(1, .int 0), (0, .ref a0)] [.int 122, .int 97, .int i_15, .ref a0] w17_ 0 0
        refine mp_callV hF (As := [.int i_15, .int 97, .int 122]) (rest := []) (wr := []) (bX10_isByte_11 E a0 a1 a2 a3 a4 a5 a6 a7 a8 a9 a10 a11 a12 a13 a14 a15 a16 a17 a18 a19 a20 a21 a22 a23 a24 a25 f0 y0 y1 i_15 1 i_15 0 0 y7 y8 y9 y10 y11 y12 y13 y14 y15 y16 y17 y18 y19 y20 y21 i_15 97 122 l_16 u_17 l_y1 u_y1 l_16 u_17 (by decide) (by decide) l_16 u_17 l_y11 u_y11 l_y12 u_y12 l_y13 u_y13) mp_lkX10_119 0 rfl [0, 1] [] rfl rfl rfl rfl rfl ⟨(Nat.le_of_ble_eq_true rfl), (Nat.le_of_ble_eq_true rfl), (Nat.le_of_ble_eq_true rfl), (Nat.le_of_ble_eq_true rfl)⟩ (Nat.le_of_ble_eq_true rfl) (by first | exact mp_fd_ok mp_k_cX10_next_ok (by decide +kernel) | decide +kernel) (fun v_114 w_115 h_116 => ?_)
        rcases h_116 with ⟨rfl, x_117, rfl⟩ | ⟨rfl, c_118, x_119, rfl⟩
        · skip
          exfalso; (first | exact mp_o997 c_28 x_29 x_117 | omega)
        · skip
          have c_118 : i_15.toInt < y1.toInt := c_118
          show mp_W E X 2 114 [(1, .int 0), (0, .ref a0)] [.int 1] w17_ 0 0
          refine mp_run mp_k_cX10_next_ok hF mp_tabX10_ok [mp_h (.ifCond .eq 71) [185]] (by decide +kernel) ?_
          refine And.intro (fun c_120 => absurd c_120 (by decide)) (fun _ => ?_)
          show mp_W E X 2 117 [(1, .int 0), (0, .ref a0)] [] w17_ 0 0
          refine mp_run mp_k_cX10_next_ok hF mp_tabX10_ok [mp_i (.aload_n 0), mp_i (.iload_n 1), mp_c (.bipush 11) 11, mp_h (.if_icmp .le 9) [130]] (by decide +kernel) ?_
          refine And.intro (fun _ => ?_) (fun c_121 => absurd c_121 (by decide))
          show mp_W E X 2 130 [(1, .int 0), (0, .ref a0)] [.ref a0] w17_ 0 0
          refine mp_run mp_k_cX10_next_ok hF mp_tabX10_ok [mp_cl (.ldc2_w 138) 27, mp_i (.aload_n 0), mp_h (.getfield 129) [11, 0], mp_i .lmul, mp_i (.aload_n 0), mp_h (.getfield 23) [5, 0], mp_i (.aload_n 0), mp_h (.getfield 116) [7, 0], mp_h .baload [1], mp_i .i2l, mp_i .ladd, mp_cl (.ldc2_w 140) 96, mp_i .lsub, mp_h (.putfield 129) [11, 0]] (by decide +kernel) ?_
          refine And.intro rfl (And.intro rfl ?_)
          intro z_122 h_123
          obtain rfl : z_122 = 0 := h_123.trans (by first | exact mp_fd_ok mp_k_cX10_next_ok (by decide +kernel) | decide +kernel)
          refine And.intro rfl (And.intro rfl ?_)
          refine And.intro rfl (And.intro rfl ?_)
          refine And.intro rfl (And.intro rfl (And.intro (vp_in_iff.mpr (by (first | exact mp_o70 l_16 u_y1 c_28 | omega))) ?_))
          intro z_124 h_125
          have e_126 : z_124.toInt = (f0 i_15.toInt.toNat).toInt := congrArg Int32.toInt h_125
          intro z_127 h_128
          have e_129 : z_127.toInt = z_124.toInt := mp_i2l h_128
          intro z_130 h_131
          have e_132 := mp_bnd z_124
          have e_133 : z_130.toInt = 0 + z_127.toInt := mp_ladd (a := 0) (b := z_127.toInt) h_131 (by decide) rfl (by (first | exact mp_o1026 i_11 e_129 e_126 x_29 | omega)) (by (first | exact mp_o1027 i_12 e_129 e_126 x_29 | omega))
          intro z_134 h_135
          have e_136 : z_134.toInt = z_130.toInt - 96 := mp_lsub (a := z_130.toInt) (b := 96) h_135 rfl (by decide) (by (first | exact mp_o1028 i_11 e_133 e_129 e_126 x_29 | omega)) (by (first | exact mp_o1029 i_12 e_133 e_129 e_126 x_29 | omega))
          refine And.intro rfl (And.intro rfl (And.intro rfl (And.intro rfl (And.intro (Nat.le_of_ble_eq_true rfl) ?_))))
          let w18_ : va_W := [(mp_ob10 a0 y0 a2 a3 a4 a5 a1 y1 i_15 1 i_15 0 z_134 y7 y8 y9 y10 a6 a7 a8 a9 a10 a11 a12 a13 y11 a14 a15 a16 a17 y12 y13 y14 a18 a19 y15 y16 a20 a21 a22 y17 y18 y19 y20 a23 a24 a25 y21), (mp_arI E a1 1 1600 f0)]
          show mp_W E X 2 156 [(1, .int 0), (0, .ref a0)] [] w18_ 0 0
          refine mp_run mp_k_cX10_next_ok hF mp_tabX10_ok [mp_i (.iload_n 1), mp_c (.bipush 11) 11, mp_h (.if_icmp .le 10) [169]] (by decide +kernel) ?_
          refine And.intro (fun _ => ?_) (fun c_137 => absurd c_137 (by decide))
          show mp_W E X 2 169 [(1, .int 0), (0, .ref a0)] [] w18_ 0 0
          refine mp_run mp_k_cX10_next_ok hF mp_tabX10_ok [mp_i (.aload_n 0), mp_i .dup, mp_h (.getfield 116) [7, 0], mp_c (.iconst 1) 1, mp_i .iadd, mp_h (.putfield 116) [7, 0]] (by decide +kernel) ?_
          refine And.intro rfl ?_
          refine And.intro rfl (And.intro rfl ?_)
          intro z_138 h_139
          have e_140 : z_138.toInt = i_15.toInt + 1 := mp_add (a := i_15.toInt) (b := 1) h_139 rfl (by decide) (by (first | exact mp_o2 l_16 | omega)) (by (first | exact mp_o71 u_17 | omega))
          refine And.intro rfl (And.intro rfl (And.intro rfl (And.intro rfl (And.intro (Nat.le_of_ble_eq_true rfl) ?_))))
          let w19_ : va_W := [(mp_ob10 a0 y0 a2 a3 a4 a5 a1 y1 z_138 1 i_15 0 z_134 y7 y8 y9 y10 a6 a7 a8 a9 a10 a11 a12 a13 y11 a14 a15 a16 a17 y12 y13 y14 a18 a19 y15 y16 a20 a21 a22 y17 y18 y19 y20 a23 a24 a25 y21), (mp_arI E a1 1 1600 f0)]
          show mp_W E X 2 179 [(1, .int 0), (0, .ref a0)] [] w19_ 0 0
          refine mp_run mp_k_cX10_next_ok hF mp_tabX10_ok [mp_c (.iinc 1 1) 1, mp_h (.goto (-80)) [102]] (by decide +kernel) ?_
          intro z_141 h_142
          obtain rfl : z_141 = 1 := h_142.trans (by decide)
          show mp_W E X 2 102 [(1, .int 1), (0, .ref a0)] [] w19_ 0 0
          have lp_154 : ∀ (d_155 : Nat) (i_143 : Int32) (i_144 : Int32) (i_145 : Int64), 0 ≤ i_144.toInt → i_144.toInt ≤ 1600 → (i_144.toInt ≤ y1.toInt) → (y2.toInt + 1 ≤ i_144.toInt) → (∀ j : Nat, (i_15.toInt).toNat ≤ j → (j : Int) < i_144.toInt → mp_isLe (f0 j).toInt = true) → (i_15.toInt + 1 ≤ i_144.toInt ∧ i_143.toInt = i_144.toInt - i_15.toInt) → ((i_143.toInt ≤ 12 ∧ i_145.toInt = mp_PK f0 (i_15.toInt).toNat (i_144.toInt - i_15.toInt).toNat) ∨ (12 < i_143.toInt ∧ i_145.toInt = -1)) → (0 ≤ i_145.toInt + 1 ∧ i_145.toInt ≤ 150094635296999121) → y1.toInt - i_144.toInt ≤ (d_155 : Int) → mp_W E X 2 102 [(1, .int i_143), (0, .ref a0)] [] [(mp_ob10 a0 y0 a2 a3 a4 a5 a1 y1 i_144 1 i_15 0 i_145 y7 y8 y9 y10 a6 a7 a8 a9 a10 a11 a12 a13 y11 a14 a15 a16 a17 y12 y13 y14 a18 a19 y15 y16 a20 a21 a22 y17 y18 y19 y20 a23 a24 a25 y21), (mp_arI E a1 1 1600 f0)] 0 0 := by
            intro d_155
            induction d_155 using Nat.strongRecOn with
            | ind d_155 ih_156 =>
              intro i_143 i_144 i_145 l_146 u_147 x_148 x_149 x_150 x_151 x_152 x_153 hm_157
              refine mp_run mp_k_cX10_next_ok hF mp_tabX10_ok [mp_i (.aload_n 0), mp_i (.aload_n 0), mp_h (.getfield 116) [7, 0], mp_c (.bipush 97) 97, mp_c (.bipush 122) 122] (by decide +kernel) ?_
              refine And.intro rfl (And.intro rfl ?_)
              let w20_ : va_W := [(mp_ob10 a0 y0 a2 a3 a4 a5 a1 y1 i_144 1 i_15 0 i_145 y7 y8 y9 y10 a6 a7 a8 a9 a10 a11 a12 a13 y11 a14 a15 a16 a17 y12 y13 y14 a18 a19 y15 y16 a20 a21 a22 y17 y18 y19 y20 a23 a24 a25 y21), (mp_arI E a1 1 1600 f0)]
              show mp_W E X 2 111 [(1, .int i_143), (0, .ref a0)] [.int 122, .int 97, .int i_144, .ref a0] w20_ 0 0
              refine mp_callV hF (As := [.int i_144, .int 97, .int 122]) (rest := []) (wr := []) (bX10_isByte_11 E a0 a1 a2 a3 a4 a5 a6 a7 a8 a9 a10 a11 a12 a13 a14 a15 a16 a17 a18 a19 a20 a21 a22 a23 a24 a25 f0 y0 y1 i_144 1 i_15 0 i_145 y7 y8 y9 y10 y11 y12 y13 y14 y15 y16 y17 y18 y19 y20 y21 i_144 97 122 l_146 u_147 l_y1 u_y1 l_146 u_147 (by decide) (by decide) l_16 u_17 l_y11 u_y11 l_y12 u_y12 l_y13 u_y13) mp_lkX10_119 0 rfl [0, 1] [] rfl rfl rfl rfl rfl ⟨(Nat.le_of_ble_eq_true rfl), (Nat.le_of_ble_eq_true rfl), (Nat.le_of_ble_eq_true rfl), (Nat.le_of_ble_eq_true rfl)⟩ (Nat.le_of_ble_eq_true rfl) (by first | exact mp_fd_ok mp_k_cX10_next_ok (by decide +kernel) | decide +kernel) (fun v_158 w_159 h_160 => ?_)
              rcases h_160 with ⟨rfl, x_161, rfl⟩ | ⟨rfl, c_162, x_163, rfl⟩
              · skip
                show mp_W E X 2 114 [(1, .int i_143), (0, .ref a0)] [.int 0] w20_ 0 0
                refine mp_run mp_k_cX10_next_ok hF mp_tabX10_ok [mp_h (.ifCond .eq 71) [185]] (by decide +kernel) ?_
                refine And.intro (fun _ => ?_) (fun c_164 => absurd c_164 (by decide))
                show mp_W E X 2 185 [(1, .int i_143), (0, .ref a0)] [] w20_ 0 0
                refine mp_run mp_k_cX10_next_ok hF mp_tabX10_ok [mp_h (.goto 122) [307]] (by decide +kernel) ?_
                show mp_W E X 2 307 [(1, .int i_143), (0, .ref a0)] [] w20_ 0 0
                exact mp_vret hF hQ rfl (Nat.le_of_ble_eq_true rfl) (Nat.le_of_ble_eq_true rfl) [0, 1] (w' := w20_) rfl rfl ⟨i_144, 1, i_15, 0, i_145, rfl, l_146, u_147, (by decide), (by decide), l_16, u_17, (by decide), (by decide), (by (first | exact mp_o1030 x_153 | omega)), (by (first | exact mp_o1031 x_153 | omega)), (by first | (first | exact x_148 | omega) | decide | (have h8 : (0 : Int32).toInt = 0 := rfl; omega)), (by first | (first | exact mp_o1003 x_149 | omega) | decide | (have h8 : (0 : Int32).toInt = 0 := rfl; omega)), (by have t9 := x_20; (first | exact mp_o68 l_16 x_20 | omega)), ⟨x_21, (by have t9 := (mp_tok1 x_21 (by (first | exact mp_o80 l_16 c_28 | omega)) (x_150 i_15.toInt.toNat (Nat.le_refl _) (by (first | exact mp_o1032 l_16 x_151 | omega))) (mp_end_i (by (first | exact mp_o1033 x_151 | omega)) (by (first | exact l_16 | omega)) (by (first | exact mp_o86 x_148 | omega)) x_150 (if q9 : y1.toInt ≤ i_144.toInt then Or.inl q9 else Or.inr (mp_lef (by (first | exact mp_o1034 i_12 i_11 x_161 q9 | omega)))))); rw [t9.1]; first | rfl | decide), (by have t9 := (mp_tok1 x_21 (by (first | exact mp_o80 l_16 c_28 | omega)) (x_150 i_15.toInt.toNat (Nat.le_refl _) (by (first | exact mp_o1032 l_16 x_151 | omega))) (mp_end_i (by (first | exact mp_o1033 x_151 | omega)) (by (first | exact l_16 | omega)) (by (first | exact mp_o86 x_148 | omega)) x_150 (if q9 : y1.toInt ≤ i_144.toInt then Or.inl q9 else Or.inr (mp_lef (by (first | exact mp_o1034 i_12 i_11 x_161 q9 | omega)))))); (first | exact mp_o105 l_146 t9 | omega)), (Or.inl (by decide)), (Or.inr (by have t9 := (mp_tok1 x_21 (by (first | exact mp_o80 l_16 c_28 | omega)) (x_150 i_15.toInt.toNat (Nat.le_refl _) (by (first | exact mp_o1032 l_16 x_151 | omega))) (mp_end_i (by (first | exact mp_o1033 x_151 | omega)) (by (first | exact l_16 | omega)) (by (first | exact mp_o86 x_148 | omega)) x_150 (if q9 : y1.toInt ≤ i_144.toInt then Or.inl q9 else Or.inr (mp_lef (by (first | exact mp_o1034 i_12 i_11 x_161 q9 | omega)))))); exact mp_WD_eq x_21 t9.2 (by (first | exact mp_o1035 l_16 x_151 | omega)) (by have q7 := x_152; (first | exact mp_o1036 x_151 q7 | omega))))⟩, rfl⟩ (by first | exact mp_fd_ok mp_k_cX10_next_ok (by decide +kernel) | decide +kernel)
              · skip
                have c_162 : i_144.toInt < y1.toInt := c_162
                show mp_W E X 2 114 [(1, .int i_143), (0, .ref a0)] [.int 1] w20_ 0 0
                refine mp_run mp_k_cX10_next_ok hF mp_tabX10_ok [mp_h (.ifCond .eq 71) [185]] (by decide +kernel) ?_
                refine And.intro (fun c_165 => absurd c_165 (by decide)) (fun _ => ?_)
                show mp_W E X 2 117 [(1, .int i_143), (0, .ref a0)] [] w20_ 0 0
                refine mp_run mp_k_cX10_next_ok hF mp_tabX10_ok [mp_i (.aload_n 0), mp_i (.iload_n 1), mp_c (.bipush 11) 11, mp_h (.if_icmp .le 9) [130]] (by decide +kernel) ?_
                refine And.intro (fun c_166 => ?_) (fun c_166 => ?_)
                · have c_166 : i_143.toInt ≤ 11 := c_166
                  show mp_W E X 2 130 [(1, .int i_143), (0, .ref a0)] [.ref a0] w20_ 0 0
                  refine mp_run mp_k_cX10_next_ok hF mp_tabX10_ok [mp_cl (.ldc2_w 138) 27, mp_i (.aload_n 0), mp_h (.getfield 129) [11, 0], mp_i .lmul, mp_i (.aload_n 0), mp_h (.getfield 23) [5, 0], mp_i (.aload_n 0), mp_h (.getfield 116) [7, 0], mp_h .baload [1], mp_i .i2l, mp_i .ladd, mp_cl (.ldc2_w 140) 96, mp_i .lsub, mp_h (.putfield 129) [11, 0]] (by decide +kernel) ?_
                  refine And.intro rfl (And.intro rfl ?_)
                  intro z_167 h_168
                  have e_169 : z_167.toInt = 27 * i_145.toInt := mp_lmul (a := 27) (b := i_145.toInt) h_168 (by decide) rfl (by (first | exact mp_o1037 x_153 | omega)) (by (first | exact mp_o1038 x_153 | omega))
                  refine And.intro rfl (And.intro rfl ?_)
                  refine And.intro rfl (And.intro rfl ?_)
                  refine And.intro rfl (And.intro rfl (And.intro (vp_in_iff.mpr (by (first | exact mp_o70 l_146 u_y1 c_162 | omega))) ?_))
                  intro z_170 h_171
                  have e_172 : z_170.toInt = (f0 i_144.toInt.toNat).toInt := congrArg Int32.toInt h_171
                  intro z_173 h_174
                  have e_175 : z_173.toInt = z_170.toInt := mp_i2l h_174
                  intro z_176 h_177
                  have e_178 := mp_bnd z_170
                  have e_179 : z_176.toInt = z_167.toInt + z_173.toInt := mp_ladd (a := z_167.toInt) (b := z_173.toInt) h_177 rfl rfl (by (first | exact mp_o1039 i_11 e_169 x_153 e_175 e_172 x_163 | omega)) (by (first | exact mp_o1040 i_12 e_169 x_153 e_175 e_172 x_163 | omega))
                  intro z_180 h_181
                  have e_182 : z_180.toInt = z_176.toInt - 96 := mp_lsub (a := z_176.toInt) (b := 96) h_181 rfl (by decide) (by (first | exact mp_o1041 i_11 x_153 e_169 e_179 e_175 e_172 x_163 | omega)) (by (first | exact mp_o1042 i_12 x_153 e_169 e_179 e_175 e_172 x_163 | omega))
                  refine And.intro rfl (And.intro rfl (And.intro rfl (And.intro rfl (And.intro (Nat.le_of_ble_eq_true rfl) ?_))))
                  let w21_ : va_W := [(mp_ob10 a0 y0 a2 a3 a4 a5 a1 y1 i_144 1 i_15 0 z_180 y7 y8 y9 y10 a6 a7 a8 a9 a10 a11 a12 a13 y11 a14 a15 a16 a17 y12 y13 y14 a18 a19 y15 y16 a20 a21 a22 y17 y18 y19 y20 a23 a24 a25 y21), (mp_arI E a1 1 1600 f0)]
                  show mp_W E X 2 156 [(1, .int i_143), (0, .ref a0)] [] w21_ 0 0
                  refine mp_run mp_k_cX10_next_ok hF mp_tabX10_ok [mp_i (.iload_n 1), mp_c (.bipush 11) 11, mp_h (.if_icmp .le 10) [169]] (by decide +kernel) ?_
                  refine And.intro (fun c_183 => ?_) (fun c_183 => ?_)
                  · have c_183 : i_143.toInt ≤ 11 := c_183
                    show mp_W E X 2 169 [(1, .int i_143), (0, .ref a0)] [] w21_ 0 0
                    refine mp_run mp_k_cX10_next_ok hF mp_tabX10_ok [mp_i (.aload_n 0), mp_i .dup, mp_h (.getfield 116) [7, 0], mp_c (.iconst 1) 1, mp_i .iadd, mp_h (.putfield 116) [7, 0]] (by decide +kernel) ?_
                    refine And.intro rfl ?_
                    refine And.intro rfl (And.intro rfl ?_)
                    intro z_184 h_185
                    have e_186 : z_184.toInt = i_144.toInt + 1 := mp_add (a := i_144.toInt) (b := 1) h_185 rfl (by decide) (by (first | exact mp_o2 l_146 | omega)) (by (first | exact mp_o71 u_147 | omega))
                    refine And.intro rfl (And.intro rfl (And.intro rfl (And.intro rfl (And.intro (Nat.le_of_ble_eq_true rfl) ?_))))
                    let w22_ : va_W := [(mp_ob10 a0 y0 a2 a3 a4 a5 a1 y1 z_184 1 i_15 0 z_180 y7 y8 y9 y10 a6 a7 a8 a9 a10 a11 a12 a13 y11 a14 a15 a16 a17 y12 y13 y14 a18 a19 y15 y16 a20 a21 a22 y17 y18 y19 y20 a23 a24 a25 y21), (mp_arI E a1 1 1600 f0)]
                    show mp_W E X 2 179 [(1, .int i_143), (0, .ref a0)] [] w22_ 0 0
                    refine mp_run mp_k_cX10_next_ok hF mp_tabX10_ok [mp_c (.iinc 1 1) 1, mp_h (.goto (-80)) [102]] (by decide +kernel) ?_
                    intro z_187 h_188
                    have e_189 : z_187.toInt = i_143.toInt + 1 := mp_add (a := i_143.toInt) (b := 1) h_188 rfl (by decide) (by (first | exact mp_o1043 x_151 | omega)) (by (first | exact mp_o569 c_166 | omega))
                    show mp_W E X 2 102 [(1, .int z_187), (0, .ref a0)] [] w22_ 0 0
                    exact mp_sub [0, 1] rfl [0, 1] rfl rfl (ih_156 (d_155 - 1) (by (first | exact mp_o72 hm_157 c_162 | omega)) z_187 z_184 z_180 (by (first | exact mp_o51 l_146 e_186 | omega)) (by (first | exact mp_o73 u_y1 c_162 e_186 | omega)) (by (first | exact mp_o97 c_162 e_186 | omega)) (by (first | exact mp_o461 x_149 e_186 | omega)) (mp_all_s x_150 (mp_let (by (first | exact mp_o1044 i_12 x_163 i_11 | omega))) (by (first | exact mp_o53 l_146 e_186 | omega))) (by (first | exact mp_o1045 e_186 x_151 e_189 | omega)) (Or.inl ⟨by (first | exact mp_o1046 c_166 e_189 | omega), by rw [mp_PK_s (c := i_144.toInt) (by (first | exact mp_o1047 l_16 e_186 x_151 | omega))]; (first | exact mp_o1048 e_172 e_175 c_166 e_182 e_179 e_169 x_152 | omega)⟩) (by have k8 := mp_PK_i (f := f0) (s := i_15.toInt) (c := z_184.toInt) (by (first | exact mp_o1049 l_16 c_166 e_186 x_151 | omega)) (mp_all_s x_150 (mp_let (by (first | exact mp_o1044 i_12 x_163 i_11 | omega))) (by (first | exact mp_o53 l_146 e_186 | omega))); rw [mp_PK_s (c := i_144.toInt) (by (first | exact mp_o1047 l_16 e_186 x_151 | omega))] at k8; (first | exact mp_o1050 c_166 e_182 e_169 x_152 e_179 e_175 e_172 k8 | omega)) (by (first | exact mp_o77 hm_157 e_186 | omega)))
                  · have c_183 : 11 < i_143.toInt := c_183
                    exfalso; (first | exact mp_o111 c_183 c_166 | omega)
                · have c_166 : 11 < i_143.toInt := c_166
                  show mp_W E X 2 124 [(1, .int i_143), (0, .ref a0)] [.ref a0] w20_ 0 0
                  refine mp_run mp_k_cX10_next_ok hF mp_tabX10_ok [mp_cl (.ldc2_w 136) (-1), mp_h (.goto 26) [153], mp_h (.putfield 129) [11, 0]] (by decide +kernel) ?_
                  refine And.intro rfl (And.intro rfl (And.intro rfl (And.intro rfl (And.intro (Nat.le_of_ble_eq_true rfl) ?_))))
                  let w23_ : va_W := [(mp_ob10 a0 y0 a2 a3 a4 a5 a1 y1 i_144 1 i_15 0 (-1) y7 y8 y9 y10 a6 a7 a8 a9 a10 a11 a12 a13 y11 a14 a15 a16 a17 y12 y13 y14 a18 a19 y15 y16 a20 a21 a22 y17 y18 y19 y20 a23 a24 a25 y21), (mp_arI E a1 1 1600 f0)]
                  show mp_W E X 2 156 [(1, .int i_143), (0, .ref a0)] [] w23_ 0 0
                  refine mp_run mp_k_cX10_next_ok hF mp_tabX10_ok [mp_i (.iload_n 1), mp_c (.bipush 11) 11, mp_h (.if_icmp .le 10) [169]] (by decide +kernel) ?_
                  refine And.intro (fun c_190 => ?_) (fun c_190 => ?_)
                  · have c_190 : i_143.toInt ≤ 11 := c_190
                    exfalso; (first | exact mp_o111 c_166 c_190 | omega)
                  · have c_190 : 11 < i_143.toInt := c_190
                    show mp_W E X 2 162 [(1, .int i_143), (0, .ref a0)] [] w23_ 0 0
                    refine mp_run mp_k_cX10_next_ok hF mp_tabX10_ok [mp_i (.aload_n 0), mp_cl (.ldc2_w 136) (-1), mp_h (.putfield 129) [11, 0]] (by decide +kernel) ?_
                    refine And.intro rfl (And.intro rfl (And.intro rfl (And.intro rfl (And.intro (Nat.le_of_ble_eq_true rfl) ?_))))
                    show mp_W E X 2 169 [(1, .int i_143), (0, .ref a0)] [] w23_ 0 0
                    refine mp_run mp_k_cX10_next_ok hF mp_tabX10_ok [mp_i (.aload_n 0), mp_i .dup, mp_h (.getfield 116) [7, 0], mp_c (.iconst 1) 1, mp_i .iadd, mp_h (.putfield 116) [7, 0]] (by decide +kernel) ?_
                    refine And.intro rfl ?_
                    refine And.intro rfl (And.intro rfl ?_)
                    intro z_191 h_192
                    have e_193 : z_191.toInt = i_144.toInt + 1 := mp_add (a := i_144.toInt) (b := 1) h_192 rfl (by decide) (by (first | exact mp_o2 l_146 | omega)) (by (first | exact mp_o71 u_147 | omega))
                    refine And.intro rfl (And.intro rfl (And.intro rfl (And.intro rfl (And.intro (Nat.le_of_ble_eq_true rfl) ?_))))
                    let w24_ : va_W := [(mp_ob10 a0 y0 a2 a3 a4 a5 a1 y1 z_191 1 i_15 0 (-1) y7 y8 y9 y10 a6 a7 a8 a9 a10 a11 a12 a13 y11 a14 a15 a16 a17 y12 y13 y14 a18 a19 y15 y16 a20 a21 a22 y17 y18 y19 y20 a23 a24 a25 y21), (mp_arI E a1 1 1600 f0)]
                    show mp_W E X 2 179 [(1, .int i_143), (0, .ref a0)] [] w24_ 0 0
                    refine mp_run mp_k_cX10_next_ok hF mp_tabX10_ok [mp_c (.iinc 1 1) 1, mp_h (.goto (-80)) [102]] (by decide +kernel) ?_
                    intro z_194 h_195
                    have e_196 : z_194.toInt = i_143.toInt + 1 := mp_add (a := i_143.toInt) (b := 1) h_195 rfl (by decide) (by (first | exact mp_o1051 c_166 | omega)) (by (first | exact mp_o1052 l_16 u_147 x_151 | omega))
                    show mp_W E X 2 102 [(1, .int z_194), (0, .ref a0)] [] w24_ 0 0
                    exact mp_sub [0, 1] rfl [0, 1] rfl rfl (ih_156 (d_155 - 1) (by (first | exact mp_o72 hm_157 c_162 | omega)) z_194 z_191 (-1) (by (first | exact mp_o51 l_146 e_193 | omega)) (by (first | exact mp_o73 u_y1 c_162 e_193 | omega)) (by (first | exact mp_o97 c_162 e_193 | omega)) (by (first | exact mp_o461 x_149 e_193 | omega)) (mp_all_s x_150 (mp_let (by (first | exact mp_o1044 i_12 x_163 i_11 | omega))) (by (first | exact mp_o53 l_146 e_193 | omega))) (by (first | exact mp_o1045 e_193 x_151 e_196 | omega)) (Or.inr ⟨by (first | exact mp_o1053 c_166 e_196 | omega), by decide⟩) (by decide) (by (first | exact mp_o77 hm_157 e_193 | omega)))
          exact mp_sub [0, 1] rfl [0, 1] rfl rfl (lp_154 _ 1 z_138 z_134 (by (first | exact mp_o51 l_16 e_140 | omega)) (by (first | exact mp_o73 u_y1 c_28 e_140 | omega)) (by (first | exact mp_o97 c_28 e_140 | omega)) (by (first | exact mp_o1023 x_19 e_140 | omega)) (mp_all_s (i := i_15.toInt) (mp_all_0 (Int.le_refl _)) (mp_let (by (first | exact mp_o1044 i_12 x_29 i_11 | omega))) (by (first | exact mp_o53 l_16 e_140 | omega))) (by (first | exact mp_o1054 e_140 i_2 | omega)) (Or.inl ⟨by (first | exact mp_o1055 i_2 | omega), by rw [mp_PK_1 (by (first | exact mp_o53 l_16 e_140 | omega))]; (first | exact mp_o1056 e_126 e_129 e_133 e_136 | omega)⟩) (by (first | exact mp_o1057 i_12 i_11 e_136 e_133 e_129 e_126 x_29 | omega)) (Int.self_le_toNat _))
    · have c_23 : i_15.toInt = y1.toInt := (congrArg Int32.toInt c_23)
      show mp_W E X 2 72 [(0, .ref a0)] [] w4_ 0 0
      refine mp_run mp_k_cX10_next_ok hF mp_tabX10_ok [mp_i (.aload_n 0), mp_c (.iconst 0) 0, mp_h (.putfield 133) [8, 0]] (by decide +kernel) ?_
      refine And.intro rfl (And.intro rfl (And.intro rfl (And.intro rfl (And.intro (Nat.le_of_ble_eq_true rfl) ?_))))
      let w25_ : va_W := [(mp_ob10 a0 y0 a2 a3 a4 a5 a1 y1 i_15 0 i_15 0 0 y7 y8 y9 y10 a6 a7 a8 a9 a10 a11 a12 a13 y11 a14 a15 a16 a17 y12 y13 y14 a18 a19 y15 y16 a20 a21 a22 y17 y18 y19 y20 a23 a24 a25 y21), (mp_arI E a1 1 1600 f0)]
      show mp_W E X 2 77 [(0, .ref a0)] [] w25_ 0 0
      refine mp_run mp_k_cX10_next_ok hF mp_tabX10_ok [mp_h (.goto 230) [307]] (by decide +kernel) ?_
      show mp_W E X 2 307 [(0, .ref a0)] [] w25_ 0 0
      exact mp_vret hF hQ rfl (Nat.le_of_ble_eq_true rfl) (Nat.le_of_ble_eq_true rfl) [0, 1] (w' := w25_) rfl rfl ⟨i_15, 0, i_15, 0, 0, rfl, l_16, u_17, (by decide), (by decide), l_16, u_17, (by decide), (by decide), (by decide), (by decide), (by first | (first | exact x_18 | omega) | decide | (have h8 : (0 : Int32).toInt = 0 := rfl; omega)), (by first | (first | exact mp_o1058 i_1 q0 c_23 | omega) | decide | (have h8 : (0 : Int32).toInt = 0 := rfl; omega)), (by have t9 := x_20; (first | exact mp_o68 l_16 x_20 | omega)), ⟨x_21, (by have t9 := (mp_tok0 x_21 (by (first | exact mp_o1059 c_23 | omega))); rw [t9.1]; first | rfl | decide), (by have t9 := (mp_tok0 x_21 (by (first | exact mp_o1059 c_23 | omega))); (first | exact mp_o69 l_16 t9 | omega)), (Or.inl (by decide)), (Or.inl (by decide))⟩, rfl⟩ (by first | exact mp_fd_ok mp_k_cX10_next_ok (by decide +kernel) | decide +kernel)
  have lp_203 : ∀ (d_204 : Nat) (i_197 : Int32), 0 ≤ i_197.toInt → i_197.toInt ≤ 1600 → (i_197.toInt ≤ y1.toInt) → (y2.toInt ≤ i_197.toInt) → (∀ j : Nat, (y2.toInt).toNat ≤ j → (j : Int) < i_197.toInt → mp_isSp (f0 j).toInt = true) → y1.toInt - i_197.toInt ≤ (d_204 : Int) → mp_W E X 2 0 [(0, .ref a0)] [] [(mp_ob10 a0 y0 a2 a3 a4 a5 a1 y1 i_197 y3 y4 y5 y6 y7 y8 y9 y10 a6 a7 a8 a9 a10 a11 a12 a13 y11 a14 a15 a16 a17 y12 y13 y14 a18 a19 y15 y16 a20 a21 a22 y17 y18 y19 y20 a23 a24 a25 y21), (mp_arI E a1 1 1600 f0)] 0 0 := by
    intro d_204
    induction d_204 using Nat.strongRecOn with
    | ind d_204 ih_205 =>
      intro i_197 l_198 u_199 x_200 x_201 x_202 hm_206
      refine mp_run mp_k_cX10_next_ok hF mp_tabX10_ok [mp_i (.aload_n 0), mp_i (.aload_n 0), mp_h (.getfield 116) [7, 0], mp_c (.bipush 32) 32, mp_c (.bipush 32) 32] (by decide +kernel) ?_
      refine And.intro rfl (And.intro rfl ?_)
      let w26_ : va_W := [(mp_ob10 a0 y0 a2 a3 a4 a5 a1 y1 i_197 y3 y4 y5 y6 y7 y8 y9 y10 a6 a7 a8 a9 a10 a11 a12 a13 y11 a14 a15 a16 a17 y12 y13 y14 a18 a19 y15 y16 a20 a21 a22 y17 y18 y19 y20 a23 a24 a25 y21), (mp_arI E a1 1 1600 f0)]
      show mp_W E X 2 9 [(0, .ref a0)] [.int 32, .int 32, .int i_197, .ref a0] w26_ 0 0
      refine mp_callV hF (As := [.int i_197, .int 32, .int 32]) (rest := []) (wr := []) (bX10_isByte_11 E a0 a1 a2 a3 a4 a5 a6 a7 a8 a9 a10 a11 a12 a13 a14 a15 a16 a17 a18 a19 a20 a21 a22 a23 a24 a25 f0 y0 y1 i_197 y3 y4 y5 y6 y7 y8 y9 y10 y11 y12 y13 y14 y15 y16 y17 y18 y19 y20 y21 i_197 32 32 l_198 u_199 l_y1 u_y1 l_198 u_199 l_y3 u_y3 l_y4 u_y4 l_y11 u_y11 l_y12 u_y12 l_y13 u_y13) mp_lkX10_119 0 rfl [0, 1] [] rfl rfl rfl rfl rfl ⟨(Nat.le_of_ble_eq_true rfl), (Nat.le_of_ble_eq_true rfl), (Nat.le_of_ble_eq_true rfl), (Nat.le_of_ble_eq_true rfl)⟩ (Nat.le_of_ble_eq_true rfl) (by first | exact mp_fd_ok mp_k_cX10_next_ok (by decide +kernel) | decide +kernel) (fun v_207 w_208 h_209 => ?_)
      rcases h_209 with ⟨rfl, x_210, rfl⟩ | ⟨rfl, c_211, x_212, rfl⟩
      · skip
        show mp_W E X 2 12 [(0, .ref a0)] [.int 0] w26_ 0 0
        refine mp_run mp_k_cX10_next_ok hF mp_tabX10_ok [mp_h (.ifCond .ne 18) [30]] (by decide +kernel) ?_
        refine And.intro (fun c_213 => absurd c_213 (by decide)) (fun _ => ?_)
        show mp_W E X 2 15 [(0, .ref a0)] [] w26_ 0 0
        refine mp_run mp_k_cX10_next_ok hF mp_tabX10_ok [mp_i (.aload_n 0), mp_i (.aload_n 0), mp_h (.getfield 116) [7, 0], mp_c (.bipush 10) 10, mp_c (.bipush 10) 10] (by decide +kernel) ?_
        refine And.intro rfl (And.intro rfl ?_)
        show mp_W E X 2 24 [(0, .ref a0)] [.int 10, .int 10, .int i_197, .ref a0] w26_ 0 0
        refine mp_callV hF (As := [.int i_197, .int 10, .int 10]) (rest := []) (wr := []) (bX10_isByte_11 E a0 a1 a2 a3 a4 a5 a6 a7 a8 a9 a10 a11 a12 a13 a14 a15 a16 a17 a18 a19 a20 a21 a22 a23 a24 a25 f0 y0 y1 i_197 y3 y4 y5 y6 y7 y8 y9 y10 y11 y12 y13 y14 y15 y16 y17 y18 y19 y20 y21 i_197 10 10 l_198 u_199 l_y1 u_y1 l_198 u_199 l_y3 u_y3 l_y4 u_y4 l_y11 u_y11 l_y12 u_y12 l_y13 u_y13) mp_lkX10_119 0 rfl [0, 1] [] rfl rfl rfl rfl rfl ⟨(Nat.le_of_ble_eq_true rfl), (Nat.le_of_ble_eq_true rfl), (Nat.le_of_ble_eq_true rfl), (Nat.le_of_ble_eq_true rfl)⟩ (Nat.le_of_ble_eq_true rfl) (by first | exact mp_fd_ok mp_k_cX10_next_ok (by decide +kernel) | decide +kernel) (fun v_214 w_215 h_216 => ?_)
        rcases h_216 with ⟨rfl, x_217, rfl⟩ | ⟨rfl, c_218, x_219, rfl⟩
        · skip
          show mp_W E X 2 27 [(0, .ref a0)] [.int 0] w26_ 0 0
          refine mp_run mp_k_cX10_next_ok hF mp_tabX10_ok [mp_h (.ifCond .eq 16) [43]] (by decide +kernel) ?_
          refine And.intro (fun _ => ?_) (fun c_220 => absurd c_220 (by decide))
          show mp_W E X 2 43 [(0, .ref a0)] [] w26_ 0 0
          exact mp_sub [0] rfl [0, 1] rfl rfl (jp_22 i_197 l_198 u_199 (by (first | exact x_200 | omega)) (by (first | exact x_201 | omega)) (mp_end_i (by (first | exact x_201 | omega)) (by (first | exact l_y2 | omega)) (by (first | exact mp_o86 x_200 | omega)) x_202 (if q9 : y1.toInt ≤ i_197.toInt then Or.inl q9 else Or.inr (mp_spf (by (first | exact mp_o1060 i_6 i_7 x_217 x_210 q9 | omega))))) (mp_TS_self (by (first | exact l_198 | omega)) (if q9 : y1.toInt ≤ i_197.toInt then Or.inl q9 else Or.inr (mp_spf (by (first | exact mp_o1060 i_6 i_7 x_217 x_210 q9 | omega))))))
        · skip
          have c_218 : i_197.toInt < y1.toInt := c_218
          show mp_W E X 2 27 [(0, .ref a0)] [.int 1] w26_ 0 0
          refine mp_run mp_k_cX10_next_ok hF mp_tabX10_ok [mp_h (.ifCond .eq 16) [43]] (by decide +kernel) ?_
          refine And.intro (fun c_221 => absurd c_221 (by decide)) (fun _ => ?_)
          show mp_W E X 2 30 [(0, .ref a0)] [] w26_ 0 0
          refine mp_run mp_k_cX10_next_ok hF mp_tabX10_ok [mp_i (.aload_n 0), mp_i .dup, mp_h (.getfield 116) [7, 0], mp_c (.iconst 1) 1, mp_i .iadd, mp_h (.putfield 116) [7, 0]] (by decide +kernel) ?_
          refine And.intro rfl ?_
          refine And.intro rfl (And.intro rfl ?_)
          intro z_222 h_223
          have e_224 : z_222.toInt = i_197.toInt + 1 := mp_add (a := i_197.toInt) (b := 1) h_223 rfl (by decide) (by (first | exact mp_o2 l_198 | omega)) (by (first | exact mp_o71 u_199 | omega))
          refine And.intro rfl (And.intro rfl (And.intro rfl (And.intro rfl (And.intro (Nat.le_of_ble_eq_true rfl) ?_))))
          let w27_ : va_W := [(mp_ob10 a0 y0 a2 a3 a4 a5 a1 y1 z_222 y3 y4 y5 y6 y7 y8 y9 y10 a6 a7 a8 a9 a10 a11 a12 a13 y11 a14 a15 a16 a17 y12 y13 y14 a18 a19 y15 y16 a20 a21 a22 y17 y18 y19 y20 a23 a24 a25 y21), (mp_arI E a1 1 1600 f0)]
          show mp_W E X 2 40 [(0, .ref a0)] [] w27_ 0 0
          refine mp_run mp_k_cX10_next_ok hF mp_tabX10_ok [mp_h (.goto (-40)) [0]] (by decide +kernel) ?_
          show mp_W E X 2 0 [(0, .ref a0)] [] w27_ 0 0
          exact mp_sub [0] rfl [0, 1] rfl rfl (ih_205 (d_204 - 1) (by (first | exact mp_o72 hm_206 c_218 | omega)) z_222 (by (first | exact mp_o51 l_198 e_224 | omega)) (by (first | exact mp_o73 u_y1 c_218 e_224 | omega)) (by (first | exact mp_o97 c_218 e_224 | omega)) (by (first | exact mp_o75 x_201 e_224 | omega)) (mp_all_s x_202 (mp_spt (by (first | exact mp_o1061 i_6 x_219 | omega))) (by (first | exact mp_o53 l_198 e_224 | omega))) (by (first | exact mp_o77 hm_206 e_224 | omega)))
      · skip
        have c_211 : i_197.toInt < y1.toInt := c_211
        show mp_W E X 2 12 [(0, .ref a0)] [.int 1] w26_ 0 0
        refine mp_run mp_k_cX10_next_ok hF mp_tabX10_ok [mp_h (.ifCond .ne 18) [30]] (by decide +kernel) ?_
        refine And.intro (fun _ => ?_) (fun c_225 => absurd c_225 (by decide))
        show mp_W E X 2 30 [(0, .ref a0)] [] w26_ 0 0
        refine mp_run mp_k_cX10_next_ok hF mp_tabX10_ok [mp_i (.aload_n 0), mp_i .dup, mp_h (.getfield 116) [7, 0], mp_c (.iconst 1) 1, mp_i .iadd, mp_h (.putfield 116) [7, 0]] (by decide +kernel) ?_
        refine And.intro rfl ?_
        refine And.intro rfl (And.intro rfl ?_)
        intro z_226 h_227
        have e_228 : z_226.toInt = i_197.toInt + 1 := mp_add (a := i_197.toInt) (b := 1) h_227 rfl (by decide) (by (first | exact mp_o2 l_198 | omega)) (by (first | exact mp_o71 u_199 | omega))
        refine And.intro rfl (And.intro rfl (And.intro rfl (And.intro rfl (And.intro (Nat.le_of_ble_eq_true rfl) ?_))))
        let w28_ : va_W := [(mp_ob10 a0 y0 a2 a3 a4 a5 a1 y1 z_226 y3 y4 y5 y6 y7 y8 y9 y10 a6 a7 a8 a9 a10 a11 a12 a13 y11 a14 a15 a16 a17 y12 y13 y14 a18 a19 y15 y16 a20 a21 a22 y17 y18 y19 y20 a23 a24 a25 y21), (mp_arI E a1 1 1600 f0)]
        show mp_W E X 2 40 [(0, .ref a0)] [] w28_ 0 0
        refine mp_run mp_k_cX10_next_ok hF mp_tabX10_ok [mp_h (.goto (-40)) [0]] (by decide +kernel) ?_
        show mp_W E X 2 0 [(0, .ref a0)] [] w28_ 0 0
        exact mp_sub [0] rfl [0, 1] rfl rfl (ih_205 (d_204 - 1) (by omega) z_226 (by omega) (by omega) (by omega) (by omega) (mp_all_s x_202 (mp_spt (by (first | exact mp_o1062 i_7 x_212 | omega))) (by omega)) (by omega))
  exact mp_sub [0] rfl [0, 1] rfl rfl (lp_203 _ y2 l_y2 u_y2 (by (first | exact q0 | omega)) (by (first | exact mp_o102 | omega)) (mp_all_0 (by (first | exact mp_o102 | omega))) (Int.self_le_toNat _))
set_option maxHeartbeats 4000000 in
set_option maxRecDepth 100000 in
theorem bX10_begins_13 (E : mp_E) (a0 a1 a2 a3 a4 a5 a6 a7 a8 a9 a10 a11 a12 a13 a14 a15 a16 a17 a18 a19 a20 a21 a22 a23 a24 a25 : Nat) (f0 : Nat → Int32) (y0 : Int32) (y1 : Int32) (y2 : Int32) (y3 : Int32) (y4 : Int32) (y5 : Int32) (y6 : Int64) (y7 : Int32) (y8 : Int32) (y9 : Int32) (y10 : Int32) (y11 : Int32) (y12 : Int32) (y13 : Int32) (y14 : Int32) (y15 : Int32) (y16 : Int32) (y17 : Int32) (y18 : Int32) (y19 : Int32) (y20 : Int32) (y21 : Int32) (l_y1 : 0 ≤ y1.toInt) (u_y1 : y1.toInt ≤ 1600) (l_y2 : 0 ≤ y2.toInt) (u_y2 : y2.toInt ≤ 1600) (l_y3 : 0 ≤ y3.toInt) (u_y3 : y3.toInt ≤ 4) (l_y4 : 0 ≤ y4.toInt) (u_y4 : y4.toInt ≤ 1600) (l_y11 : 0 ≤ y11.toInt) (u_y11 : y11.toInt ≤ 99) (l_y12 : 0 ≤ y12.toInt) (u_y12 : y12.toInt ≤ 5) (l_y13 : 0 ≤ y13.toInt) (u_y13 : y13.toInt ≤ 12) : mp_Ct E yX10_begins cX10_begins 1 none 2 0 0 44 [.ref a0] [(mp_ob10 a0 y0 a2 a3 a4 a5 a1 y1 y2 y3 y4 y5 y6 y7 y8 y9 y10 a6 a7 a8 a9 a10 a11 a12 a13 y11 a14 a15 a16 a17 y12 y13 y14 a18 a19 y15 y16 a20 a21 a22 y17 y18 y19 y20 a23 a24 a25 y21), (mp_arI E a1 1 1600 f0)] (fun v w' => ∃ r1 : Int32, ∃ r2 : Int32, ∃ r3 : Int32, ∃ r4 : Int32, ∃ r5 : Int64, v = none ∧ 0 ≤ r1.toInt ∧ r1.toInt ≤ 1600 ∧ 0 ≤ r2.toInt ∧ r2.toInt ≤ 4 ∧ 0 ≤ r3.toInt ∧ r3.toInt ≤ 1600 ∧ 0 ≤ r4.toInt ∧ r4.toInt ≤ 10000009 ∧ (-1) ≤ r5.toInt ∧ r5.toInt ≤ 150094635296999121 ∧ (r1.toInt ≤ y1.toInt) ∧ (0 = 0) ∧ (r3.toInt = ((mp_TS f0 (y1.toInt).toNat 0 : Nat) : Int)) ∧ (mp_MT f0 y1.toInt r2.toInt r3.toInt r1.toInt r4.toInt r5.toInt) ∧ w' = [(mp_ob10 a0 y0 a2 a3 a4 a5 a1 y1 r1 r2 r3 r4 r5 0 (-1) y9 y10 a6 a7 a8 a9 a10 a11 a12 a13 y11 a14 a15 a16 a17 y12 y13 y14 a18 a19 y15 y16 a20 a21 a22 y17 y18 y19 y20 a23 a24 a25 y21), (mp_arI E a1 1 1600 f0)]) := by
  refine mp_met false (by decide) (by decide) (Nat.le_of_ble_eq_true rfl) (fun X hF hQ => ?_)
  have hF : mp_F E X (RX10, cX10_begins, 1, (2, 0, 0, 44), none, false) := hF
  let w1_ : va_W := [(mp_ob10 a0 y0 a2 a3 a4 a5 a1 y1 y2 y3 y4 y5 y6 y7 y8 y9 y10 a6 a7 a8 a9 a10 a11 a12 a13 y11 a14 a15 a16 a17 y12 y13 y14 a18 a19 y15 y16 a20 a21 a22 y17 y18 y19 y20 a23 a24 a25 y21), (mp_arI E a1 1 1600 f0)]
  show mp_W E X 1 0 [(0, .ref a0)] [] w1_ 0 0
  refine mp_run mp_k_cX10_begins_ok hF mp_tabX10_ok [mp_i (.aload_n 0), mp_c (.iconst 0) 0, mp_h (.putfield 144) [12, 0]] (by decide +kernel) ?_
  refine And.intro rfl (And.intro rfl (And.intro rfl (And.intro rfl (And.intro (Nat.le_of_ble_eq_true rfl) ?_))))
  let w2_ : va_W := [(mp_ob10 a0 y0 a2 a3 a4 a5 a1 y1 y2 y3 y4 y5 y6 0 y8 y9 y10 a6 a7 a8 a9 a10 a11 a12 a13 y11 a14 a15 a16 a17 y12 y13 y14 a18 a19 y15 y16 a20 a21 a22 y17 y18 y19 y20 a23 a24 a25 y21), (mp_arI E a1 1 1600 f0)]
  show mp_W E X 1 5 [(0, .ref a0)] [] w2_ 0 0
  refine mp_run mp_k_cX10_begins_ok hF mp_tabX10_ok [mp_i (.aload_n 0), mp_c (.iconst (-1)) (-1), mp_h (.putfield 147) [13, 0]] (by decide +kernel) ?_
  refine And.intro rfl (And.intro rfl (And.intro rfl (And.intro rfl (And.intro (Nat.le_of_ble_eq_true rfl) ?_))))
  let w3_ : va_W := [(mp_ob10 a0 y0 a2 a3 a4 a5 a1 y1 y2 y3 y4 y5 y6 0 (-1) y9 y10 a6 a7 a8 a9 a10 a11 a12 a13 y11 a14 a15 a16 a17 y12 y13 y14 a18 a19 y15 y16 a20 a21 a22 y17 y18 y19 y20 a23 a24 a25 y21), (mp_arI E a1 1 1600 f0)]
  show mp_W E X 1 10 [(0, .ref a0)] [] w3_ 0 0
  refine mp_run mp_k_cX10_begins_ok hF mp_tabX10_ok [mp_i (.aload_n 0), mp_c (.iconst 0) 0, mp_h (.putfield 116) [7, 0]] (by decide +kernel) ?_
  refine And.intro rfl (And.intro rfl (And.intro rfl (And.intro rfl (And.intro (Nat.le_of_ble_eq_true rfl) ?_))))
  let w4_ : va_W := [(mp_ob10 a0 y0 a2 a3 a4 a5 a1 y1 0 y3 y4 y5 y6 0 (-1) y9 y10 a6 a7 a8 a9 a10 a11 a12 a13 y11 a14 a15 a16 a17 y12 y13 y14 a18 a19 y15 y16 a20 a21 a22 y17 y18 y19 y20 a23 a24 a25 y21), (mp_arI E a1 1 1600 f0)]
  show mp_W E X 1 15 [(0, .ref a0)] [] w4_ 0 0
  refine mp_run mp_k_cX10_begins_ok hF mp_tabX10_ok [mp_i (.aload_n 0)] (by decide +kernel) ?_
  show mp_W E X 1 16 [(0, .ref a0)] [.ref a0] w4_ 0 0
  refine mp_callV hF (As := []) (rest := []) (wr := []) (bX10_next_12 E a0 a1 a2 a3 a4 a5 a6 a7 a8 a9 a10 a11 a12 a13 a14 a15 a16 a17 a18 a19 a20 a21 a22 a23 a24 a25 f0 y0 y1 0 y3 y4 y5 y6 0 (-1) y9 y10 y11 y12 y13 y14 y15 y16 y17 y18 y19 y20 y21 l_y1 u_y1 (by decide) (by decide) l_y3 u_y3 l_y4 u_y4 l_y11 u_y11 l_y12 u_y12 l_y13 u_y13 (by first | fail | (show 0 ≤ y1.toInt; (first | exact l_y1 | omega)))) mp_lkX10_154 0 rfl [0, 1] [] rfl rfl rfl rfl rfl ⟨(Nat.le_of_ble_eq_true rfl), (Nat.le_of_ble_eq_true rfl), (Nat.le_of_ble_eq_true rfl), (Nat.le_of_ble_eq_true rfl)⟩ (Nat.le_of_ble_eq_true rfl) (by first | exact mp_fd_ok mp_k_cX10_begins_ok (by decide +kernel) | decide +kernel) (fun v_1 w_2 h_3 => ?_)
  refine h_3.elim fun r_4 q_23 => q_23.elim fun r_5 q_24 => q_24.elim fun r_6 q_25 => q_25.elim fun r_7 q_26 => q_26.elim fun r_8 q_27 => q_27.elim fun e_28 q_29 => q_29.elim fun l_9 q_30 => q_30.elim fun u_10 q_31 => q_31.elim fun l_11 q_32 => q_32.elim fun u_12 q_33 => q_33.elim fun l_13 q_34 => q_34.elim fun u_14 q_35 => q_35.elim fun l_15 q_36 => q_36.elim fun u_16 q_37 => q_37.elim fun l_17 q_38 => q_38.elim fun u_18 q_39 => q_39.elim fun x_19 q_40 => q_40.elim fun x_20 q_41 => q_41.elim fun x_21 q_42 => q_42.elim fun x_22 e_43 => ?_
  clear h_3 q_23 q_24 q_25 q_26 q_27 q_29 q_30 q_31 q_32 q_33 q_34 q_35 q_36 q_37 q_38 q_39 q_40 q_41 q_42
  subst e_28
  subst e_43
  let w5_ : va_W := [(mp_ob10 a0 y0 a2 a3 a4 a5 a1 y1 r_4 r_5 r_6 r_7 r_8 0 (-1) y9 y10 a6 a7 a8 a9 a10 a11 a12 a13 y11 a14 a15 a16 a17 y12 y13 y14 a18 a19 y15 y16 a20 a21 a22 y17 y18 y19 y20 a23 a24 a25 y21), (mp_arI E a1 1 1600 f0)]
  show mp_W E X 1 19 [(0, .ref a0)] [] w5_ 0 0
  exact mp_vret hF hQ rfl (Nat.le_of_ble_eq_true rfl) (Nat.le_of_ble_eq_true rfl) [0, 1] (w' := w5_) rfl rfl ⟨r_4, r_5, r_6, r_7, r_8, rfl, l_9, u_10, l_11, u_12, l_13, u_14, l_15, u_16, l_17, u_18, (by first | (first | exact x_19 | omega) | decide), (by first | (first | exact mp_o355 | omega) | decide), x_21, x_22, rfl⟩ (by first | exact mp_fd_ok mp_k_cX10_begins_ok (by decide +kernel) | decide +kernel)
set_option maxHeartbeats 4000000 in
set_option maxRecDepth 100000 in
theorem bX10_isGood_14 (E : mp_E) (a0 a1 a2 a3 a4 a5 a6 a7 a8 a9 a10 a11 a12 a13 a14 a15 a16 a17 a18 a19 a20 a21 a22 a23 a24 a25 : Nat) (y0 : Int32) (y1 : Int32) (y2 : Int32) (y3 : Int32) (y4 : Int32) (y5 : Int32) (y6 : Int64) (y7 : Int32) (y8 : Int32) (y9 : Int32) (y10 : Int32) (y11 : Int32) (y12 : Int32) (y13 : Int32) (y14 : Int32) (y15 : Int32) (y16 : Int32) (y17 : Int32) (y18 : Int32) (y19 : Int32) (y20 : Int32) (y21 : Int32) (l_y1 : 0 ≤ y1.toInt) (u_y1 : y1.toInt ≤ 1600) (l_y2 : 0 ≤ y2.toInt) (u_y2 : y2.toInt ≤ 1600) (l_y3 : 0 ≤ y3.toInt) (u_y3 : y3.toInt ≤ 4) (l_y4 : 0 ≤ y4.toInt) (u_y4 : y4.toInt ≤ 1600) (l_y11 : 0 ≤ y11.toInt) (u_y11 : y11.toInt ≤ 99) (l_y12 : 0 ≤ y12.toInt) (u_y12 : y12.toInt ≤ 5) (l_y13 : 0 ≤ y13.toInt) (u_y13 : y13.toInt ≤ 12) : mp_Ct E yX10_isGood cX10_isGood 1 (some FieldType.boolean) 0 0 0 0 [.ref a0] [(mp_ob10 a0 y0 a1 a2 a3 a4 a5 y1 y2 y3 y4 y5 y6 y7 y8 y9 y10 a6 a7 a8 a9 a10 a11 a12 a13 y11 a14 a15 a16 a17 y12 y13 y14 a18 a19 y15 y16 a20 a21 a22 y17 y18 y19 y20 a23 a24 a25 y21)] (fun v w' => (v = some (.int 0) ∧ y7.toInt ≠ 0 ∧ (y7.toInt ≠ 0) ∧ w' = [(mp_ob10 a0 y0 a1 a2 a3 a4 a5 y1 y2 y3 y4 y5 y6 y7 y8 y9 y10 a6 a7 a8 a9 a10 a11 a12 a13 y11 a14 a15 a16 a17 y12 y13 y14 a18 a19 y15 y16 a20 a21 a22 y17 y18 y19 y20 a23 a24 a25 y21)]) ∨ (v = some (.int 1) ∧ y7.toInt = 0 ∧ (y7.toInt = 0) ∧ w' = [(mp_ob10 a0 y0 a1 a2 a3 a4 a5 y1 y2 y3 y4 y5 y6 y7 y8 y9 y10 a6 a7 a8 a9 a10 a11 a12 a13 y11 a14 a15 a16 a17 y12 y13 y14 a18 a19 y15 y16 a20 a21 a22 y17 y18 y19 y20 a23 a24 a25 y21)])) := by
  refine mp_met false (by decide) (by decide) (Nat.le_of_ble_eq_true rfl) (fun X hF hQ => ?_)
  have hF : mp_F E X (RX10, cX10_isGood, 1, (0, 0, 0, 0), (some FieldType.boolean), false) := hF
  let w1_ : va_W := [(mp_ob10 a0 y0 a1 a2 a3 a4 a5 y1 y2 y3 y4 y5 y6 y7 y8 y9 y10 a6 a7 a8 a9 a10 a11 a12 a13 y11 a14 a15 a16 a17 y12 y13 y14 a18 a19 y15 y16 a20 a21 a22 y17 y18 y19 y20 a23 a24 a25 y21)]
  show mp_W E X 1 0 [(0, .ref a0)] [] w1_ 0 0
  refine mp_run mp_k_cX10_isGood_ok hF mp_tabX10_ok [mp_i (.aload_n 0), mp_h (.getfield 144) [12, 0], mp_h (.ifCond .ne 7) [11]] (by decide +kernel) ?_
  refine And.intro rfl (And.intro rfl ?_)
  refine And.intro (fun c_1 => ?_) (fun c_1 => ?_)
  · have c_1 : y7.toInt ≠ 0 := c_1
    show mp_W E X 1 11 [(0, .ref a0)] [] w1_ 0 0
    refine mp_run mp_k_cX10_isGood_ok hF mp_tabX10_ok [mp_c (.iconst 0) 0] (by decide +kernel) ?_
    show mp_W E X 1 12 [(0, .ref a0)] [.int 0] w1_ 0 0
    exact mp_iret hF hQ rfl (by decide) (Nat.le_of_ble_eq_true rfl) (Nat.le_of_ble_eq_true rfl) [0] (w' := w1_) rfl rfl (Or.inl ⟨rfl, (by first | (first | exact c_1 | omega) | decide), (by first | (first | exact c_1 | omega) | decide), rfl⟩) (by first | exact mp_fd_ok mp_k_cX10_isGood_ok (by decide +kernel) | decide +kernel)
  · have c_1 : y7.toInt = 0 := (congrArg Int32.toInt c_1)
    show mp_W E X 1 7 [(0, .ref a0)] [] w1_ 0 0
    refine mp_run mp_k_cX10_isGood_ok hF mp_tabX10_ok [mp_c (.iconst 1) 1, mp_h (.goto 4) [12]] (by decide +kernel) ?_
    show mp_W E X 1 12 [(0, .ref a0)] [.int 1] w1_ 0 0
    exact mp_iret hF hQ rfl (by decide) (Nat.le_of_ble_eq_true rfl) (Nat.le_of_ble_eq_true rfl) [0] (w' := w1_) rfl rfl (Or.inr ⟨rfl, (by first | (first | exact c_1 | omega) | decide), (by first | (first | exact c_1 | omega) | decide), rfl⟩) (by first | exact mp_fd_ok mp_k_cX10_isGood_ok (by decide +kernel) | decide +kernel)
set_option maxHeartbeats 4000000 in
set_option maxRecDepth 100000 in
theorem bX10_is_15 (E : mp_E) (a0 a1 a2 a3 a4 a5 a6 a7 a8 a9 a10 a11 a12 a13 a14 a15 a16 a17 a18 a19 a20 a21 a22 a23 a24 a25 : Nat) (f0 : Nat → Int32) (y0 : Int32) (y1 : Int32) (y2 : Int32) (y3 : Int32) (y4 : Int32) (y5 : Int32) (y6 : Int64) (y7 : Int32) (y8 : Int32) (y9 : Int32) (y10 : Int32) (y11 : Int32) (y12 : Int32) (y13 : Int32) (y14 : Int32) (y15 : Int32) (y16 : Int32) (y17 : Int32) (y18 : Int32) (y19 : Int32) (y20 : Int32) (y21 : Int32) (x0 : Int64) (l_y1 : 0 ≤ y1.toInt) (u_y1 : y1.toInt ≤ 1600) (l_y2 : 0 ≤ y2.toInt) (u_y2 : y2.toInt ≤ 1600) (l_y3 : 0 ≤ y3.toInt) (u_y3 : y3.toInt ≤ 4) (l_y4 : 0 ≤ y4.toInt) (u_y4 : y4.toInt ≤ 1600) (l_y11 : 0 ≤ y11.toInt) (u_y11 : y11.toInt ≤ 99) (l_y12 : 0 ≤ y12.toInt) (u_y12 : y12.toInt ≤ 5) (l_y13 : 0 ≤ y13.toInt) (u_y13 : y13.toInt ≤ 12) (q0 : mp_MT f0 y1.toInt y3.toInt y4.toInt y2.toInt y5.toInt y6.toInt) : mp_Ct E yX10_is cX10_is 3 (some FieldType.boolean) 0 0 0 0 [.ref a0, .long x0] [(mp_ob10 a0 y0 a2 a3 a4 a5 a1 y1 y2 y3 y4 y5 y6 y7 y8 y9 y10 a6 a7 a8 a9 a10 a11 a12 a13 y11 a14 a15 a16 a17 y12 y13 y14 a18 a19 y15 y16 a20 a21 a22 y17 y18 y19 y20 a23 a24 a25 y21), (mp_arI E a1 1 1600 f0)] (fun v w' => (v = some (.int 0) ∧ (y7.toInt ≠ 0 ∨ ¬ (mp_TK f0 (y1.toInt).toNat (y4.toInt).toNat = 1 ∧ mp_WD f0 (y1.toInt).toNat (y4.toInt).toNat = x0.toInt)) ∧ w' = [(mp_ob10 a0 y0 a2 a3 a4 a5 a1 y1 y2 y3 y4 y5 y6 y7 y8 y9 y10 a6 a7 a8 a9 a10 a11 a12 a13 y11 a14 a15 a16 a17 y12 y13 y14 a18 a19 y15 y16 a20 a21 a22 y17 y18 y19 y20 a23 a24 a25 y21), (mp_arI E a1 1 1600 f0)]) ∨ (v = some (.int 1) ∧ y7.toInt = 0 ∧ y3.toInt = 1 ∧ y6.toInt = x0.toInt ∧ (y7.toInt = 0 ∧ mp_TK f0 (y1.toInt).toNat (y4.toInt).toNat = 1 ∧ mp_WD f0 (y1.toInt).toNat (y4.toInt).toNat = x0.toInt) ∧ w' = [(mp_ob10 a0 y0 a2 a3 a4 a5 a1 y1 y2 y3 y4 y5 y6 y7 y8 y9 y10 a6 a7 a8 a9 a10 a11 a12 a13 y11 a14 a15 a16 a17 y12 y13 y14 a18 a19 y15 y16 a20 a21 a22 y17 y18 y19 y20 a23 a24 a25 y21), (mp_arI E a1 1 1600 f0)])) := by
  refine mp_met false (by decide) (by decide) (Nat.le_of_ble_eq_true rfl) (fun X hF hQ => ?_)
  have hF : mp_F E X (RX10, cX10_is, 3, (0, 0, 0, 0), (some FieldType.boolean), false) := hF
  let w1_ : va_W := [(mp_ob10 a0 y0 a2 a3 a4 a5 a1 y1 y2 y3 y4 y5 y6 y7 y8 y9 y10 a6 a7 a8 a9 a10 a11 a12 a13 y11 a14 a15 a16 a17 y12 y13 y14 a18 a19 y15 y16 a20 a21 a22 y17 y18 y19 y20 a23 a24 a25 y21), (mp_arI E a1 1 1600 f0)]
  show mp_W E X 3 0 [(0, .ref a0), (1, .long x0)] [] w1_ 0 0
  refine mp_run mp_k_cX10_is_ok hF mp_tabX10_ok [mp_i (.aload_n 0), mp_h (.getfield 144) [12, 0], mp_h (.ifCond .ne 24) [28]] (by decide +kernel) ?_
  refine And.intro rfl (And.intro rfl ?_)
  refine And.intro (fun c_1 => ?_) (fun c_1 => ?_)
  · have c_1 : y7.toInt ≠ 0 := c_1
    show mp_W E X 3 28 [(0, .ref a0), (1, .long x0)] [] w1_ 0 0
    refine mp_run mp_k_cX10_is_ok hF mp_tabX10_ok [mp_c (.iconst 0) 0] (by decide +kernel) ?_
    show mp_W E X 3 29 [(0, .ref a0), (1, .long x0)] [.int 0] w1_ 0 0
    exact mp_iret hF hQ rfl (by decide) (Nat.le_of_ble_eq_true rfl) (Nat.le_of_ble_eq_true rfl) [0, 1] (w' := w1_) rfl rfl (Or.inl ⟨rfl, (by have i0 : (0 : Int32).toInt = 0 := rfl; have i1 : (1 : Int32).toInt = 1 := rfl; have i8 : (2 : Int32).toInt = 2 := rfl; have i9 : (3 : Int32).toInt = 3 := rfl; have k7 := q0.2.1; have k8 := q0.2.2.2.2; (first | exact mp_o1063 c_1 | omega)), rfl⟩) (by first | exact mp_fd_ok mp_k_cX10_is_ok (by decide +kernel) | decide +kernel)
  · have c_1 : y7.toInt = 0 := (congrArg Int32.toInt c_1)
    show mp_W E X 3 7 [(0, .ref a0), (1, .long x0)] [] w1_ 0 0
    refine mp_run mp_k_cX10_is_ok hF mp_tabX10_ok [mp_i (.aload_n 0), mp_h (.getfield 133) [8, 0], mp_c (.iconst 1) 1, mp_h (.if_icmp .ne 16) [28]] (by decide +kernel) ?_
    refine And.intro rfl (And.intro rfl ?_)
    refine And.intro (fun c_2 => ?_) (fun c_2 => ?_)
    · have c_2 : y3.toInt ≠ 1 := c_2
      show mp_W E X 3 28 [(0, .ref a0), (1, .long x0)] [] w1_ 0 0
      refine mp_run mp_k_cX10_is_ok hF mp_tabX10_ok [mp_c (.iconst 0) 0] (by decide +kernel) ?_
      show mp_W E X 3 29 [(0, .ref a0), (1, .long x0)] [.int 0] w1_ 0 0
      exact mp_iret hF hQ rfl (by decide) (Nat.le_of_ble_eq_true rfl) (Nat.le_of_ble_eq_true rfl) [0, 1] (w' := w1_) rfl rfl (Or.inl ⟨rfl, (by have i0 : (0 : Int32).toInt = 0 := rfl; have i1 : (1 : Int32).toInt = 1 := rfl; have i8 : (2 : Int32).toInt = 2 := rfl; have i9 : (3 : Int32).toInt = 3 := rfl; have k7 := q0.2.1; have k8 := q0.2.2.2.2; (first | exact mp_o1064 k7 c_2 | omega)), rfl⟩) (by first | exact mp_fd_ok mp_k_cX10_is_ok (by decide +kernel) | decide +kernel)
    · have c_2 : y3.toInt = 1 := (congrArg Int32.toInt c_2)
      show mp_W E X 3 15 [(0, .ref a0), (1, .long x0)] [] w1_ 0 0
      refine mp_run mp_k_cX10_is_ok hF mp_tabX10_ok [mp_i (.aload_n 0), mp_h (.getfield 129) [11, 0], mp_i (.lload_n 1), mp_i .lcmp, mp_h (.ifCond .ne 7) [28]] (by decide +kernel) ?_
      refine And.intro rfl (And.intro rfl ?_)
      intro z_3 h_4
      refine And.intro (fun c_5 => ?_) (fun c_5 => ?_)
      · have c_5 : y6.toInt ≠ x0.toInt := mp_lc_ne h_4 c_5
        show mp_W E X 3 28 [(0, .ref a0), (1, .long x0)] [] w1_ 0 0
        refine mp_run mp_k_cX10_is_ok hF mp_tabX10_ok [mp_c (.iconst 0) 0] (by decide +kernel) ?_
        show mp_W E X 3 29 [(0, .ref a0), (1, .long x0)] [.int 0] w1_ 0 0
        exact mp_iret hF hQ rfl (by decide) (Nat.le_of_ble_eq_true rfl) (Nat.le_of_ble_eq_true rfl) [0, 1] (w' := w1_) rfl rfl (Or.inl ⟨rfl, (by have i0 : (0 : Int32).toInt = 0 := rfl; have i1 : (1 : Int32).toInt = 1 := rfl; have i8 : (2 : Int32).toInt = 2 := rfl; have i9 : (3 : Int32).toInt = 3 := rfl; have k7 := q0.2.1; have k8 := q0.2.2.2.2; (first | exact mp_o1065 c_2 k8 c_5 | omega)), rfl⟩) (by first | exact mp_fd_ok mp_k_cX10_is_ok (by decide +kernel) | decide +kernel)
      · have c_5 : y6.toInt = x0.toInt := mp_lc_eq h_4 c_5
        show mp_W E X 3 24 [(0, .ref a0), (1, .long x0)] [] w1_ 0 0
        refine mp_run mp_k_cX10_is_ok hF mp_tabX10_ok [mp_c (.iconst 1) 1, mp_h (.goto 4) [29]] (by decide +kernel) ?_
        show mp_W E X 3 29 [(0, .ref a0), (1, .long x0)] [.int 1] w1_ 0 0
        exact mp_iret hF hQ rfl (by decide) (Nat.le_of_ble_eq_true rfl) (Nat.le_of_ble_eq_true rfl) [0, 1] (w' := w1_) rfl rfl (Or.inr ⟨rfl, (by first | (first | exact c_1 | omega) | decide), (by first | (first | exact c_2 | omega) | decide), (by first | (first | exact c_5 | omega) | decide), (by have i0 : (0 : Int32).toInt = 0 := rfl; have i1 : (1 : Int32).toInt = 1 := rfl; have i8 : (2 : Int32).toInt = 2 := rfl; have i9 : (3 : Int32).toInt = 3 := rfl; have k7 := q0.2.1; have k8 := q0.2.2.2.2; (first | exact mp_o1066 c_1 c_2 k7 k8 c_5 | omega)), rfl⟩) (by first | exact mp_fd_ok mp_k_cX10_is_ok (by decide +kernel) | decide +kernel)
set_option maxHeartbeats 4000000 in
set_option maxRecDepth 100000 in
theorem bX10_hasRead_16 (E : mp_E) (a0 a1 a2 a3 a4 a5 a6 a7 a8 a9 a10 a11 a12 a13 a14 a15 a16 a17 a18 a19 a20 a21 a22 a23 a24 a25 : Nat) (f0 : Nat → Int32) (y0 : Int32) (y1 : Int32) (y2 : Int32) (y3 : Int32) (y4 : Int32) (y5 : Int32) (y6 : Int64) (y7 : Int32) (y8 : Int32) (y9 : Int32) (y10 : Int32) (y11 : Int32) (y12 : Int32) (y13 : Int32) (y14 : Int32) (y15 : Int32) (y16 : Int32) (y17 : Int32) (y18 : Int32) (y19 : Int32) (y20 : Int32) (y21 : Int32) (p0 : mp_res f0 25 5 0 0 6) (p1 : mp_res f0 25 5 1 0 99) (p2 : mp_res f0 25 5 2 0 6) (p3 : mp_res f0 25 5 3 0 10) (p4 : mp_res f0 25 5 4 0 60) (l_y1 : 0 ≤ y1.toInt) (u_y1 : y1.toInt ≤ 1600) (l_y2 : 0 ≤ y2.toInt) (u_y2 : y2.toInt ≤ 1600) (l_y3 : 0 ≤ y3.toInt) (u_y3 : y3.toInt ≤ 4) (l_y4 : 0 ≤ y4.toInt) (u_y4 : y4.toInt ≤ 1600) (l_y11 : 0 ≤ y11.toInt) (u_y11 : y11.toInt ≤ 99) (l_y12 : 0 ≤ y12.toInt) (u_y12 : y12.toInt ≤ 5) (l_y13 : 0 ≤ y13.toInt) (u_y13 : y13.toInt ≤ 12) : mp_Ct E yX10_hasRead cX10_hasRead 2 (some FieldType.int) 0 0 0 0 [.ref a0, .int 3] [(mp_ob10 a0 y0 a2 a3 a4 a5 a6 y1 y2 y3 y4 y5 y6 y7 y8 y9 y10 a7 a1 a8 a9 a10 a11 a12 a13 y11 a14 a15 a16 a17 y12 y13 y14 a18 a19 y15 y16 a20 a21 a22 y17 y18 y19 y20 a23 a24 a25 y21), (mp_arI E a1 0 25 f0)] (fun v w' => ∃ r1 : Int32, v = some (.int r1) ∧ 0 ≤ r1.toInt ∧ r1.toInt ≤ 10 ∧ (r1.toInt = (f0 23).toInt) ∧ w' = [(mp_ob10 a0 y0 a2 a3 a4 a5 a6 y1 y2 y3 y4 y5 y6 y7 y8 y9 y10 a7 a1 a8 a9 a10 a11 a12 a13 y11 a14 a15 a16 a17 y12 y13 y14 a18 a19 y15 y16 a20 a21 a22 y17 y18 y19 y20 a23 a24 a25 y21), (mp_arI E a1 0 25 f0)]) := by
  refine mp_met false (by decide) (by decide) (Nat.le_of_ble_eq_true rfl) (fun X hF hQ => ?_)
  have hF : mp_F E X (RX10, cX10_hasRead, 2, (0, 0, 0, 0), (some FieldType.int), false) := hF
  let w1_ : va_W := [(mp_ob10 a0 y0 a2 a3 a4 a5 a6 y1 y2 y3 y4 y5 y6 y7 y8 y9 y10 a7 a1 a8 a9 a10 a11 a12 a13 y11 a14 a15 a16 a17 y12 y13 y14 a18 a19 y15 y16 a20 a21 a22 y17 y18 y19 y20 a23 a24 a25 y21), (mp_arI E a1 0 25 f0)]
  show mp_W E X 2 0 [(0, .ref a0), (1, .int 3)] [] w1_ 0 0
  refine mp_run mp_k_cX10_hasRead_ok hF mp_tabX10_ok [mp_i (.aload_n 0), mp_h (.getfield 34) [17, 0], mp_c (.bipush 20) 20, mp_i (.iload_n 1), mp_i .iadd, mp_h .iaload [1]] (by decide +kernel) ?_
  refine And.intro rfl (And.intro rfl ?_)
  intro z_1 h_2
  obtain rfl : z_1 = 23 := h_2.trans (by decide)
  refine And.intro rfl (And.intro rfl (And.intro (vp_in_iff.mpr (by decide)) ?_))
  intro z_3 h_4
  have e_5 : 0 ≤ z_3.toInt ∧ z_3.toInt ≤ 10 := mp_res_ld h_4 p3 (by decide) (by decide) (by decide)
  have e_6 : z_3.toInt = (f0 23).toInt := congrArg Int32.toInt (mp_at h_4 (by decide) rfl)
  show mp_W E X 2 9 [(0, .ref a0), (1, .int 3)] [.int z_3] w1_ 0 0
  exact mp_iret hF hQ rfl rfl (Nat.le_of_ble_eq_true rfl) (Nat.le_of_ble_eq_true rfl) [0, 1] (w' := w1_) rfl rfl ⟨z_3, rfl, e_5.1, e_5.2, (by first | (first | exact e_6 | omega) | decide | (have h8 : (0 : Int32).toInt = 0 := rfl; have h9 : (1 : Int32).toInt = 1 := rfl; have h10 : (-1 : Int32).toInt = -1 := rfl; omega)), rfl⟩ (by first | exact mp_fd_ok mp_k_cX10_hasRead_ok (by decide +kernel) | decide +kernel)
set_option maxHeartbeats 4000000 in
set_option maxRecDepth 100000 in
theorem bX10_fails_17 (E : mp_E) (a0 a1 a2 a3 a4 a5 a6 a7 a8 a9 a10 a11 a12 a13 a14 a15 a16 a17 a18 a19 a20 a21 a22 a23 a24 a25 : Nat) (y0 : Int32) (y1 : Int32) (y2 : Int32) (y3 : Int32) (y4 : Int32) (y5 : Int32) (y6 : Int64) (y7 : Int32) (y8 : Int32) (y9 : Int32) (y10 : Int32) (y11 : Int32) (y12 : Int32) (y13 : Int32) (y14 : Int32) (y15 : Int32) (y16 : Int32) (y17 : Int32) (y18 : Int32) (y19 : Int32) (y20 : Int32) (y21 : Int32) (l_y1 : 0 ≤ y1.toInt) (u_y1 : y1.toInt ≤ 1600) (l_y2 : 0 ≤ y2.toInt) (u_y2 : y2.toInt ≤ 1600) (l_y3 : 0 ≤ y3.toInt) (u_y3 : y3.toInt ≤ 4) (l_y4 : 0 ≤ y4.toInt) (u_y4 : y4.toInt ≤ 1600) (l_y11 : 0 ≤ y11.toInt) (u_y11 : y11.toInt ≤ 99) (l_y12 : 0 ≤ y12.toInt) (u_y12 : y12.toInt ≤ 5) (l_y13 : 0 ≤ y13.toInt) (u_y13 : y13.toInt ≤ 12) : mp_Ct E yX10_fails cX10_fails 2 none 0 0 0 0 [.ref a0, .int 3] [(mp_ob10 a0 y0 a1 a2 a3 a4 a5 y1 y2 y3 y4 y5 y6 y7 y8 y9 y10 a6 a7 a8 a9 a10 a11 a12 a13 y11 a14 a15 a16 a17 y12 y13 y14 a18 a19 y15 y16 a20 a21 a22 y17 y18 y19 y20 a23 a24 a25 y21)] (fun v w' => ∃ r1 : Int32, ∃ r2 : Int32, v = none ∧ (r1.toInt ≠ 0) ∧ ((y7.toInt = 0 ∧ r1.toInt = 3 ∧ r2.toInt = y4.toInt) ∨ (y7.toInt ≠ 0 ∧ r1.toInt = y7.toInt ∧ r2.toInt = y8.toInt)) ∧ w' = [(mp_ob10 a0 y0 a1 a2 a3 a4 a5 y1 y2 y3 y4 y5 y6 r1 r2 y9 y10 a6 a7 a8 a9 a10 a11 a12 a13 y11 a14 a15 a16 a17 y12 y13 y14 a18 a19 y15 y16 a20 a21 a22 y17 y18 y19 y20 a23 a24 a25 y21)]) := by
  refine mp_met false (by decide) (by decide) (Nat.le_of_ble_eq_true rfl) (fun X hF hQ => ?_)
  have hF : mp_F E X (RX10, cX10_fails, 2, (0, 0, 0, 0), none, false) := hF
  let w1_ : va_W := [(mp_ob10 a0 y0 a1 a2 a3 a4 a5 y1 y2 y3 y4 y5 y6 y7 y8 y9 y10 a6 a7 a8 a9 a10 a11 a12 a13 y11 a14 a15 a16 a17 y12 y13 y14 a18 a19 y15 y16 a20 a21 a22 y17 y18 y19 y20 a23 a24 a25 y21)]
  show mp_W E X 2 0 [(0, .ref a0), (1, .int 3)] [] w1_ 0 0
  refine mp_run mp_k_cX10_fails_ok hF mp_tabX10_ok [mp_i (.aload_n 0), mp_h (.getfield 144) [12, 0], mp_h (.ifCond .eq 4) [8]] (by decide +kernel) ?_
  refine And.intro rfl (And.intro rfl ?_)
  refine And.intro (fun c_1 => ?_) (fun c_1 => ?_)
  · have c_1 : y7.toInt = 0 := (congrArg Int32.toInt c_1)
    show mp_W E X 2 8 [(0, .ref a0), (1, .int 3)] [] w1_ 0 0
    refine mp_run mp_k_cX10_fails_ok hF mp_tabX10_ok [mp_i (.aload_n 0), mp_i (.iload_n 1), mp_h (.putfield 144) [12, 0]] (by decide +kernel) ?_
    refine And.intro rfl (And.intro rfl (And.intro rfl (And.intro rfl (And.intro (Nat.le_of_ble_eq_true rfl) ?_))))
    let w2_ : va_W := [(mp_ob10 a0 y0 a1 a2 a3 a4 a5 y1 y2 y3 y4 y5 y6 3 y8 y9 y10 a6 a7 a8 a9 a10 a11 a12 a13 y11 a14 a15 a16 a17 y12 y13 y14 a18 a19 y15 y16 a20 a21 a22 y17 y18 y19 y20 a23 a24 a25 y21)]
    show mp_W E X 2 13 [(0, .ref a0), (1, .int 3)] [] w2_ 0 0
    refine mp_run mp_k_cX10_fails_ok hF mp_tabX10_ok [mp_i (.aload_n 0), mp_i (.aload_n 0), mp_h (.getfield 123) [9, 0], mp_h (.putfield 147) [13, 0]] (by decide +kernel) ?_
    refine And.intro rfl (And.intro rfl ?_)
    refine And.intro rfl (And.intro rfl (And.intro rfl (And.intro rfl (And.intro (Nat.le_of_ble_eq_true rfl) ?_))))
    let w3_ : va_W := [(mp_ob10 a0 y0 a1 a2 a3 a4 a5 y1 y2 y3 y4 y5 y6 3 y4 y9 y10 a6 a7 a8 a9 a10 a11 a12 a13 y11 a14 a15 a16 a17 y12 y13 y14 a18 a19 y15 y16 a20 a21 a22 y17 y18 y19 y20 a23 a24 a25 y21)]
    show mp_W E X 2 21 [(0, .ref a0), (1, .int 3)] [] w3_ 0 0
    exact mp_vret hF hQ rfl (Nat.le_of_ble_eq_true rfl) (Nat.le_of_ble_eq_true rfl) [0] (w' := w3_) rfl rfl ⟨3, y4, rfl, (by first | fail | decide), (by have i0 : (0 : Int32).toInt = 0 := rfl; have i1 : (1 : Int32).toInt = 1 := rfl; have i8 : (2 : Int32).toInt = 2 := rfl; have i9 : (3 : Int32).toInt = 3 := rfl; (first | exact mp_o1067 c_1 i9 | omega)), rfl⟩ (by first | exact mp_fd_ok mp_k_cX10_fails_ok (by decide +kernel) | decide +kernel)
  · have c_1 : y7.toInt ≠ 0 := c_1
    show mp_W E X 2 7 [(0, .ref a0), (1, .int 3)] [] w1_ 0 0
    exact mp_vret hF hQ rfl (Nat.le_of_ble_eq_true rfl) (Nat.le_of_ble_eq_true rfl) [0] (w' := w1_) rfl rfl ⟨y7, y8, rfl, (by first | (first | exact c_1 | omega) | decide), (by have i0 : (0 : Int32).toInt = 0 := rfl; have i1 : (1 : Int32).toInt = 1 := rfl; have i8 : (2 : Int32).toInt = 2 := rfl; have i9 : (3 : Int32).toInt = 3 := rfl; (first | exact mp_o1068 c_1 | omega)), rfl⟩ (by first | exact mp_fd_ok mp_k_cX10_fails_ok (by decide +kernel) | decide +kernel)
set_option maxHeartbeats 4000000 in
set_option maxRecDepth 100000 in
theorem bX10_hasRead_18 (E : mp_E) (a0 a1 a2 a3 a4 a5 a6 a7 a8 a9 a10 a11 a12 a13 a14 a15 a16 a17 a18 a19 a20 a21 a22 a23 a24 a25 : Nat) (f0 : Nat → Int32) (y0 : Int32) (y1 : Int32) (y2 : Int32) (y3 : Int32) (y4 : Int32) (y5 : Int32) (y6 : Int64) (y7 : Int32) (y8 : Int32) (y9 : Int32) (y10 : Int32) (y11 : Int32) (y12 : Int32) (y13 : Int32) (y14 : Int32) (y15 : Int32) (y16 : Int32) (y17 : Int32) (y18 : Int32) (y19 : Int32) (y20 : Int32) (y21 : Int32) (p0 : mp_res f0 25 5 0 0 6) (p1 : mp_res f0 25 5 1 0 99) (p2 : mp_res f0 25 5 2 0 6) (p3 : mp_res f0 25 5 3 0 10) (p4 : mp_res f0 25 5 4 0 60) (l_y1 : 0 ≤ y1.toInt) (u_y1 : y1.toInt ≤ 1600) (l_y2 : 0 ≤ y2.toInt) (u_y2 : y2.toInt ≤ 1600) (l_y3 : 0 ≤ y3.toInt) (u_y3 : y3.toInt ≤ 4) (l_y4 : 0 ≤ y4.toInt) (u_y4 : y4.toInt ≤ 1600) (l_y11 : 0 ≤ y11.toInt) (u_y11 : y11.toInt ≤ 99) (l_y12 : 0 ≤ y12.toInt) (u_y12 : y12.toInt ≤ 5) (l_y13 : 0 ≤ y13.toInt) (u_y13 : y13.toInt ≤ 12) : mp_Ct E yX10_hasRead cX10_hasRead 2 (some FieldType.int) 0 0 0 0 [.ref a0, .int 2] [(mp_ob10 a0 y0 a2 a3 a4 a5 a6 y1 y2 y3 y4 y5 y6 y7 y8 y9 y10 a7 a1 a8 a9 a10 a11 a12 a13 y11 a14 a15 a16 a17 y12 y13 y14 a18 a19 y15 y16 a20 a21 a22 y17 y18 y19 y20 a23 a24 a25 y21), (mp_arI E a1 0 25 f0)] (fun v w' => ∃ r1 : Int32, v = some (.int r1) ∧ 0 ≤ r1.toInt ∧ r1.toInt ≤ 6 ∧ (r1.toInt = (f0 22).toInt) ∧ w' = [(mp_ob10 a0 y0 a2 a3 a4 a5 a6 y1 y2 y3 y4 y5 y6 y7 y8 y9 y10 a7 a1 a8 a9 a10 a11 a12 a13 y11 a14 a15 a16 a17 y12 y13 y14 a18 a19 y15 y16 a20 a21 a22 y17 y18 y19 y20 a23 a24 a25 y21), (mp_arI E a1 0 25 f0)]) := by
  refine mp_met false (by decide) (by decide) (Nat.le_of_ble_eq_true rfl) (fun X hF hQ => ?_)
  have hF : mp_F E X (RX10, cX10_hasRead, 2, (0, 0, 0, 0), (some FieldType.int), false) := hF
  let w1_ : va_W := [(mp_ob10 a0 y0 a2 a3 a4 a5 a6 y1 y2 y3 y4 y5 y6 y7 y8 y9 y10 a7 a1 a8 a9 a10 a11 a12 a13 y11 a14 a15 a16 a17 y12 y13 y14 a18 a19 y15 y16 a20 a21 a22 y17 y18 y19 y20 a23 a24 a25 y21), (mp_arI E a1 0 25 f0)]
  show mp_W E X 2 0 [(0, .ref a0), (1, .int 2)] [] w1_ 0 0
  refine mp_run mp_k_cX10_hasRead_ok hF mp_tabX10_ok [mp_i (.aload_n 0), mp_h (.getfield 34) [17, 0], mp_c (.bipush 20) 20, mp_i (.iload_n 1), mp_i .iadd, mp_h .iaload [1]] (by decide +kernel) ?_
  refine And.intro rfl (And.intro rfl ?_)
  intro z_1 h_2
  obtain rfl : z_1 = 22 := h_2.trans (by decide)
  refine And.intro rfl (And.intro rfl (And.intro (vp_in_iff.mpr (by decide)) ?_))
  intro z_3 h_4
  have e_5 : 0 ≤ z_3.toInt ∧ z_3.toInt ≤ 6 := mp_res_ld h_4 p2 (by decide) (by decide) (by decide)
  have e_6 : z_3.toInt = (f0 22).toInt := congrArg Int32.toInt (mp_at h_4 (by decide) rfl)
  show mp_W E X 2 9 [(0, .ref a0), (1, .int 2)] [.int z_3] w1_ 0 0
  exact mp_iret hF hQ rfl rfl (Nat.le_of_ble_eq_true rfl) (Nat.le_of_ble_eq_true rfl) [0, 1] (w' := w1_) rfl rfl ⟨z_3, rfl, e_5.1, e_5.2, (by first | (first | exact e_6 | omega) | decide | (have h8 : (0 : Int32).toInt = 0 := rfl; have h9 : (1 : Int32).toInt = 1 := rfl; have h10 : (-1 : Int32).toInt = -1 := rfl; omega)), rfl⟩ (by first | exact mp_fd_ok mp_k_cX10_hasRead_ok (by decide +kernel) | decide +kernel)
set_option maxHeartbeats 4000000 in
set_option maxRecDepth 100000 in
theorem bX10_takes_19 (E : mp_E) (a0 a1 a2 a3 a4 a5 a6 a7 a8 a9 a10 a11 a12 a13 a14 a15 a16 a17 a18 a19 a20 a21 a22 a23 a24 a25 : Nat) (f0 : Nat → Int32) (y0 : Int32) (y1 : Int32) (y2 : Int32) (y3 : Int32) (y4 : Int32) (y5 : Int32) (y6 : Int64) (y7 : Int32) (y8 : Int32) (y9 : Int32) (y10 : Int32) (y11 : Int32) (y12 : Int32) (y13 : Int32) (y14 : Int32) (y15 : Int32) (y16 : Int32) (y17 : Int32) (y18 : Int32) (y19 : Int32) (y20 : Int32) (y21 : Int32) (x0 : Int64) (l_y1 : 0 ≤ y1.toInt) (u_y1 : y1.toInt ≤ 1600) (l_y2 : 0 ≤ y2.toInt) (u_y2 : y2.toInt ≤ 1600) (l_y3 : 0 ≤ y3.toInt) (u_y3 : y3.toInt ≤ 4) (l_y4 : 0 ≤ y4.toInt) (u_y4 : y4.toInt ≤ 1600) (l_y11 : 0 ≤ y11.toInt) (u_y11 : y11.toInt ≤ 99) (l_y12 : 0 ≤ y12.toInt) (u_y12 : y12.toInt ≤ 5) (l_y13 : 0 ≤ y13.toInt) (u_y13 : y13.toInt ≤ 12) (q0 : y2.toInt ≤ y1.toInt) (q1 : mp_MT f0 y1.toInt y3.toInt y4.toInt y2.toInt y5.toInt y6.toInt) : mp_Ct E yX10_takes cX10_takes 3 (some FieldType.boolean) 2 0 0 44 [.ref a0, .long x0] [(mp_ob10 a0 y0 a2 a3 a4 a5 a1 y1 y2 y3 y4 y5 y6 y7 y8 y9 y10 a6 a7 a8 a9 a10 a11 a12 a13 y11 a14 a15 a16 a17 y12 y13 y14 a18 a19 y15 y16 a20 a21 a22 y17 y18 y19 y20 a23 a24 a25 y21), (mp_arI E a1 1 1600 f0)] (fun v w' => (v = some (.int 0) ∧ (y2.toInt ≤ y1.toInt) ∧ ((5 * (y1.toInt - y2.toInt) + y3.toInt) ≤ (5 * (y1.toInt - y2.toInt) + y3.toInt)) ∧ (y7.toInt ≠ 0 ∨ ¬ (mp_TK f0 (y1.toInt).toNat (y4.toInt).toNat = 1 ∧ mp_WD f0 (y1.toInt).toNat (y4.toInt).toNat = x0.toInt)) ∧ (mp_MT f0 y1.toInt y3.toInt y4.toInt y2.toInt y5.toInt y6.toInt) ∧ w' = [(mp_ob10 a0 y0 a2 a3 a4 a5 a1 y1 y2 y3 y4 y5 y6 y7 y8 y9 y10 a6 a7 a8 a9 a10 a11 a12 a13 y11 a14 a15 a16 a17 y12 y13 y14 a18 a19 y15 y16 a20 a21 a22 y17 y18 y19 y20 a23 a24 a25 y21), (mp_arI E a1 1 1600 f0)]) ∨ (∃ r1 : Int32, ∃ r2 : Int32, ∃ r3 : Int32, ∃ r4 : Int32, ∃ r5 : Int64, v = some (.int 1) ∧ y7.toInt = 0 ∧ y3.toInt = 1 ∧ y6.toInt = x0.toInt ∧ 0 ≤ r1.toInt ∧ r1.toInt ≤ 1600 ∧ 0 ≤ r2.toInt ∧ r2.toInt ≤ 4 ∧ 0 ≤ r3.toInt ∧ r3.toInt ≤ 1600 ∧ 0 ≤ r4.toInt ∧ r4.toInt ≤ 10000009 ∧ (-1) ≤ r5.toInt ∧ r5.toInt ≤ 150094635296999121 ∧ (r1.toInt ≤ y1.toInt) ∧ ((5 * (y1.toInt - r1.toInt) + r2.toInt) ≤ (5 * (y1.toInt - y2.toInt) + y3.toInt)) ∧ (y7.toInt = 0 ∧ mp_TK f0 (y1.toInt).toNat (y4.toInt).toNat = 1 ∧ mp_WD f0 (y1.toInt).toNat (y4.toInt).toNat = x0.toInt) ∧ (r3.toInt = ((mp_NX f0 (y1.toInt).toNat (y4.toInt).toNat : Nat) : Int)) ∧ (mp_MT f0 y1.toInt r2.toInt r3.toInt r1.toInt r4.toInt r5.toInt) ∧ w' = [(mp_ob10 a0 y0 a2 a3 a4 a5 a1 y1 r1 r2 r3 r4 r5 y7 y8 y9 y10 a6 a7 a8 a9 a10 a11 a12 a13 y11 a14 a15 a16 a17 y12 y13 y14 a18 a19 y15 y16 a20 a21 a22 y17 y18 y19 y20 a23 a24 a25 y21), (mp_arI E a1 1 1600 f0)])) := by
  refine mp_met false (by decide) (by decide) (Nat.le_of_ble_eq_true rfl) (fun X hF hQ => ?_)
  have hF : mp_F E X (RX10, cX10_takes, 3, (2, 0, 0, 44), (some FieldType.boolean), false) := hF
  let w1_ : va_W := [(mp_ob10 a0 y0 a2 a3 a4 a5 a1 y1 y2 y3 y4 y5 y6 y7 y8 y9 y10 a6 a7 a8 a9 a10 a11 a12 a13 y11 a14 a15 a16 a17 y12 y13 y14 a18 a19 y15 y16 a20 a21 a22 y17 y18 y19 y20 a23 a24 a25 y21), (mp_arI E a1 1 1600 f0)]
  show mp_W E X 3 0 [(0, .ref a0), (1, .long x0)] [] w1_ 0 0
  refine mp_run mp_k_cX10_takes_ok hF mp_tabX10_ok [mp_i (.aload_n 0), mp_i (.lload_n 1)] (by decide +kernel) ?_
  show mp_W E X 3 2 [(0, .ref a0), (1, .long x0)] [.long x0, .ref a0] w1_ 0 0
  refine mp_callV hF (As := [.long x0]) (rest := []) (wr := []) (bX10_is_15 E a0 a1 a2 a3 a4 a5 a6 a7 a8 a9 a10 a11 a12 a13 a14 a15 a16 a17 a18 a19 a20 a21 a22 a23 a24 a25 f0 y0 y1 y2 y3 y4 y5 y6 y7 y8 y9 y10 y11 y12 y13 y14 y15 y16 y17 y18 y19 y20 y21 x0 l_y1 u_y1 l_y2 u_y2 l_y3 u_y3 l_y4 u_y4 l_y11 u_y11 l_y12 u_y12 l_y13 u_y13 (by assumption)) mp_lkX10_150 0 rfl [0, 1] [] rfl rfl rfl rfl rfl ⟨(Nat.le_of_ble_eq_true rfl), (Nat.le_of_ble_eq_true rfl), (Nat.le_of_ble_eq_true rfl), (Nat.le_of_ble_eq_true rfl)⟩ (Nat.le_of_ble_eq_true rfl) (by first | exact mp_fd_ok mp_k_cX10_takes_ok (by decide +kernel) | decide +kernel) (fun v_1 w_2 h_3 => ?_)
  refine h_3.elim (fun q_9 => ?_) (fun q_10 => ?_)
  · skip
    refine q_9.elim fun e_11 q_12 => q_12.elim fun x_4 e_13 => ?_
    clear h_3 q_9 q_12
    subst e_11
    subst e_13
    show mp_W E X 3 5 [(0, .ref a0), (1, .long x0)] [.int 0] w1_ 0 0
    refine mp_run mp_k_cX10_takes_ok hF mp_tabX10_ok [mp_h (.ifCond .ne 5) [10]] (by decide +kernel) ?_
    refine And.intro (fun c_14 => absurd c_14 (by decide)) (fun _ => ?_)
    show mp_W E X 3 8 [(0, .ref a0), (1, .long x0)] [] w1_ 0 0
    refine mp_run mp_k_cX10_takes_ok hF mp_tabX10_ok [mp_c (.iconst 0) 0] (by decide +kernel) ?_
    show mp_W E X 3 9 [(0, .ref a0), (1, .long x0)] [.int 0] w1_ 0 0
    exact mp_iret hF hQ rfl (by decide) (Nat.le_of_ble_eq_true rfl) (Nat.le_of_ble_eq_true rfl) [0, 1] (w' := w1_) rfl rfl (Or.inl ⟨rfl, (by first | (first | exact q0 | omega) | decide), (by first | (first | exact mp_o1069 | omega) | decide), x_4, q1, rfl⟩) (by first | exact mp_fd_ok mp_k_cX10_takes_ok (by decide +kernel) | decide +kernel)
  · skip
    refine q_10.elim fun e_15 q_16 => q_16.elim fun c_5 q_17 => q_17.elim fun c_6 q_18 => q_18.elim fun c_7 q_19 => q_19.elim fun x_8 e_20 => ?_
    clear h_3 q_10 q_16 q_17 q_18 q_19
    subst e_15
    subst e_20
    have c_5 : y7.toInt = 0 := c_5
    have c_6 : y3.toInt = 1 := c_6
    have c_7 : y6.toInt = x0.toInt := c_7
    show mp_W E X 3 5 [(0, .ref a0), (1, .long x0)] [.int 1] w1_ 0 0
    refine mp_run mp_k_cX10_takes_ok hF mp_tabX10_ok [mp_h (.ifCond .ne 5) [10]] (by decide +kernel) ?_
    refine And.intro (fun _ => ?_) (fun c_21 => absurd c_21 (by decide))
    show mp_W E X 3 10 [(0, .ref a0), (1, .long x0)] [] w1_ 0 0
    refine mp_run mp_k_cX10_takes_ok hF mp_tabX10_ok [mp_i (.aload_n 0)] (by decide +kernel) ?_
    show mp_W E X 3 11 [(0, .ref a0), (1, .long x0)] [.ref a0] w1_ 0 0
    refine mp_callV hF (As := []) (rest := []) (wr := []) (bX10_next_12 E a0 a1 a2 a3 a4 a5 a6 a7 a8 a9 a10 a11 a12 a13 a14 a15 a16 a17 a18 a19 a20 a21 a22 a23 a24 a25 f0 y0 y1 y2 y3 y4 y5 y6 y7 y8 y9 y10 y11 y12 y13 y14 y15 y16 y17 y18 y19 y20 y21 l_y1 u_y1 l_y2 u_y2 l_y3 u_y3 l_y4 u_y4 l_y11 u_y11 l_y12 u_y12 l_y13 u_y13 (by first | (first | exact q0 | omega) | (show y2.toInt ≤ y1.toInt; omega))) mp_lkX10_154 0 rfl [0, 1] [] rfl rfl rfl rfl rfl ⟨(Nat.le_of_ble_eq_true rfl), (Nat.le_of_ble_eq_true rfl), (Nat.le_of_ble_eq_true rfl), (Nat.le_of_ble_eq_true rfl)⟩ (Nat.le_of_ble_eq_true rfl) (by first | exact mp_fd_ok mp_k_cX10_takes_ok (by decide +kernel) | decide +kernel) (fun v_22 w_23 h_24 => ?_)
    refine h_24.elim fun r_25 q_44 => q_44.elim fun r_26 q_45 => q_45.elim fun r_27 q_46 => q_46.elim fun r_28 q_47 => q_47.elim fun r_29 q_48 => q_48.elim fun e_49 q_50 => q_50.elim fun l_30 q_51 => q_51.elim fun u_31 q_52 => q_52.elim fun l_32 q_53 => q_53.elim fun u_33 q_54 => q_54.elim fun l_34 q_55 => q_55.elim fun u_35 q_56 => q_56.elim fun l_36 q_57 => q_57.elim fun u_37 q_58 => q_58.elim fun l_38 q_59 => q_59.elim fun u_39 q_60 => q_60.elim fun x_40 q_61 => q_61.elim fun x_41 q_62 => q_62.elim fun x_42 q_63 => q_63.elim fun x_43 e_64 => ?_
    clear h_24 q_44 q_45 q_46 q_47 q_48 q_50 q_51 q_52 q_53 q_54 q_55 q_56 q_57 q_58 q_59 q_60 q_61 q_62 q_63
    subst e_49
    subst e_64
    let w2_ : va_W := [(mp_ob10 a0 y0 a2 a3 a4 a5 a1 y1 r_25 r_26 r_27 r_28 r_29 y7 y8 y9 y10 a6 a7 a8 a9 a10 a11 a12 a13 y11 a14 a15 a16 a17 y12 y13 y14 a18 a19 y15 y16 a20 a21 a22 y17 y18 y19 y20 a23 a24 a25 y21), (mp_arI E a1 1 1600 f0)]
    show mp_W E X 3 14 [(0, .ref a0), (1, .long x0)] [] w2_ 0 0
    refine mp_run mp_k_cX10_takes_ok hF mp_tabX10_ok [mp_c (.iconst 1) 1] (by decide +kernel) ?_
    show mp_W E X 3 15 [(0, .ref a0), (1, .long x0)] [.int 1] w2_ 0 0
    exact mp_iret hF hQ rfl (by decide) (Nat.le_of_ble_eq_true rfl) (Nat.le_of_ble_eq_true rfl) [0, 1] (w' := w2_) rfl rfl (Or.inr ⟨r_25, r_26, r_27, r_28, r_29, rfl, (by first | (first | exact c_5 | omega) | decide), (by first | (first | exact c_6 | omega) | decide), (by first | (first | exact c_7 | omega) | decide), l_30, u_31, l_32, u_33, l_34, u_35, l_36, u_37, l_38, u_39, (by first | (first | exact x_40 | omega) | decide), (by first | (first | exact mp_o1070 x_41 u_33 c_6 | omega) | decide), x_8, (by have k9 := x_42; unfold mp_NX; rw [← Int.toNat_natCast (mp_TE _ _ _), ← q1.2.2.1]; exact k9), x_43, rfl⟩) (by first | exact mp_fd_ok mp_k_cX10_takes_ok (by decide +kernel) | decide +kernel)
set_option maxHeartbeats 4000000 in
set_option maxRecDepth 100000 in
theorem bX10_fails_20 (E : mp_E) (a0 a1 a2 a3 a4 a5 a6 a7 a8 a9 a10 a11 a12 a13 a14 a15 a16 a17 a18 a19 a20 a21 a22 a23 a24 a25 : Nat) (y0 : Int32) (y1 : Int32) (y2 : Int32) (y3 : Int32) (y4 : Int32) (y5 : Int32) (y6 : Int64) (y7 : Int32) (y8 : Int32) (y9 : Int32) (y10 : Int32) (y11 : Int32) (y12 : Int32) (y13 : Int32) (y14 : Int32) (y15 : Int32) (y16 : Int32) (y17 : Int32) (y18 : Int32) (y19 : Int32) (y20 : Int32) (y21 : Int32) (l_y1 : 0 ≤ y1.toInt) (u_y1 : y1.toInt ≤ 1600) (l_y2 : 0 ≤ y2.toInt) (u_y2 : y2.toInt ≤ 1600) (l_y3 : 0 ≤ y3.toInt) (u_y3 : y3.toInt ≤ 4) (l_y4 : 0 ≤ y4.toInt) (u_y4 : y4.toInt ≤ 1600) (l_y11 : 0 ≤ y11.toInt) (u_y11 : y11.toInt ≤ 99) (l_y12 : 0 ≤ y12.toInt) (u_y12 : y12.toInt ≤ 5) (l_y13 : 0 ≤ y13.toInt) (u_y13 : y13.toInt ≤ 12) : mp_Ct E yX10_fails cX10_fails 2 none 0 0 0 0 [.ref a0, .int 1] [(mp_ob10 a0 y0 a1 a2 a3 a4 a5 y1 y2 y3 y4 y5 y6 y7 y8 y9 y10 a6 a7 a8 a9 a10 a11 a12 a13 y11 a14 a15 a16 a17 y12 y13 y14 a18 a19 y15 y16 a20 a21 a22 y17 y18 y19 y20 a23 a24 a25 y21)] (fun v w' => ∃ r1 : Int32, ∃ r2 : Int32, v = none ∧ (r1.toInt ≠ 0) ∧ ((y7.toInt = 0 ∧ r1.toInt = 1 ∧ r2.toInt = y4.toInt) ∨ (y7.toInt ≠ 0 ∧ r1.toInt = y7.toInt ∧ r2.toInt = y8.toInt)) ∧ w' = [(mp_ob10 a0 y0 a1 a2 a3 a4 a5 y1 y2 y3 y4 y5 y6 r1 r2 y9 y10 a6 a7 a8 a9 a10 a11 a12 a13 y11 a14 a15 a16 a17 y12 y13 y14 a18 a19 y15 y16 a20 a21 a22 y17 y18 y19 y20 a23 a24 a25 y21)]) := by
  refine mp_met false (by decide) (by decide) (Nat.le_of_ble_eq_true rfl) (fun X hF hQ => ?_)
  have hF : mp_F E X (RX10, cX10_fails, 2, (0, 0, 0, 0), none, false) := hF
  let w1_ : va_W := [(mp_ob10 a0 y0 a1 a2 a3 a4 a5 y1 y2 y3 y4 y5 y6 y7 y8 y9 y10 a6 a7 a8 a9 a10 a11 a12 a13 y11 a14 a15 a16 a17 y12 y13 y14 a18 a19 y15 y16 a20 a21 a22 y17 y18 y19 y20 a23 a24 a25 y21)]
  show mp_W E X 2 0 [(0, .ref a0), (1, .int 1)] [] w1_ 0 0
  refine mp_run mp_k_cX10_fails_ok hF mp_tabX10_ok [mp_i (.aload_n 0), mp_h (.getfield 144) [12, 0], mp_h (.ifCond .eq 4) [8]] (by decide +kernel) ?_
  refine And.intro rfl (And.intro rfl ?_)
  refine And.intro (fun c_1 => ?_) (fun c_1 => ?_)
  · have c_1 : y7.toInt = 0 := (congrArg Int32.toInt c_1)
    show mp_W E X 2 8 [(0, .ref a0), (1, .int 1)] [] w1_ 0 0
    refine mp_run mp_k_cX10_fails_ok hF mp_tabX10_ok [mp_i (.aload_n 0), mp_i (.iload_n 1), mp_h (.putfield 144) [12, 0]] (by decide +kernel) ?_
    refine And.intro rfl (And.intro rfl (And.intro rfl (And.intro rfl (And.intro (Nat.le_of_ble_eq_true rfl) ?_))))
    let w2_ : va_W := [(mp_ob10 a0 y0 a1 a2 a3 a4 a5 y1 y2 y3 y4 y5 y6 1 y8 y9 y10 a6 a7 a8 a9 a10 a11 a12 a13 y11 a14 a15 a16 a17 y12 y13 y14 a18 a19 y15 y16 a20 a21 a22 y17 y18 y19 y20 a23 a24 a25 y21)]
    show mp_W E X 2 13 [(0, .ref a0), (1, .int 1)] [] w2_ 0 0
    refine mp_run mp_k_cX10_fails_ok hF mp_tabX10_ok [mp_i (.aload_n 0), mp_i (.aload_n 0), mp_h (.getfield 123) [9, 0], mp_h (.putfield 147) [13, 0]] (by decide +kernel) ?_
    refine And.intro rfl (And.intro rfl ?_)
    refine And.intro rfl (And.intro rfl (And.intro rfl (And.intro rfl (And.intro (Nat.le_of_ble_eq_true rfl) ?_))))
    let w3_ : va_W := [(mp_ob10 a0 y0 a1 a2 a3 a4 a5 y1 y2 y3 y4 y5 y6 1 y4 y9 y10 a6 a7 a8 a9 a10 a11 a12 a13 y11 a14 a15 a16 a17 y12 y13 y14 a18 a19 y15 y16 a20 a21 a22 y17 y18 y19 y20 a23 a24 a25 y21)]
    show mp_W E X 2 21 [(0, .ref a0), (1, .int 1)] [] w3_ 0 0
    exact mp_vret hF hQ rfl (Nat.le_of_ble_eq_true rfl) (Nat.le_of_ble_eq_true rfl) [0] (w' := w3_) rfl rfl ⟨1, y4, rfl, (by first | fail | decide), (by have i0 : (0 : Int32).toInt = 0 := rfl; have i1 : (1 : Int32).toInt = 1 := rfl; have i8 : (2 : Int32).toInt = 2 := rfl; have i9 : (3 : Int32).toInt = 3 := rfl; (first | exact mp_o1071 c_1 i1 | omega)), rfl⟩ (by first | exact mp_fd_ok mp_k_cX10_fails_ok (by decide +kernel) | decide +kernel)
  · have c_1 : y7.toInt ≠ 0 := c_1
    show mp_W E X 2 7 [(0, .ref a0), (1, .int 1)] [] w1_ 0 0
    exact mp_vret hF hQ rfl (Nat.le_of_ble_eq_true rfl) (Nat.le_of_ble_eq_true rfl) [0] (w' := w1_) rfl rfl ⟨y7, y8, rfl, (by first | (first | exact c_1 | omega) | decide), (by have i0 : (0 : Int32).toInt = 0 := rfl; have i1 : (1 : Int32).toInt = 1 := rfl; have i8 : (2 : Int32).toInt = 2 := rfl; have i9 : (3 : Int32).toInt = 3 := rfl; (first | exact mp_o1072 c_1 | omega)), rfl⟩ (by first | exact mp_fd_ok mp_k_cX10_fails_ok (by decide +kernel) | decide +kernel)
set_option maxHeartbeats 4000000 in
set_option maxRecDepth 100000 in
theorem bX10_asks_21 (E : mp_E) (a0 a1 a2 a3 a4 a5 a6 a7 a8 a9 a10 a11 a12 a13 a14 a15 a16 a17 a18 a19 a20 a21 a22 a23 a24 a25 : Nat) (f0 : Nat → Int32) (y0 : Int32) (y1 : Int32) (y2 : Int32) (y3 : Int32) (y4 : Int32) (y5 : Int32) (y6 : Int64) (y7 : Int32) (y8 : Int32) (y9 : Int32) (y10 : Int32) (y11 : Int32) (y12 : Int32) (y13 : Int32) (y14 : Int32) (y15 : Int32) (y16 : Int32) (y17 : Int32) (y18 : Int32) (y19 : Int32) (y20 : Int32) (y21 : Int32) (x0 : Int64) (l_y1 : 0 ≤ y1.toInt) (u_y1 : y1.toInt ≤ 1600) (l_y2 : 0 ≤ y2.toInt) (u_y2 : y2.toInt ≤ 1600) (l_y3 : 0 ≤ y3.toInt) (u_y3 : y3.toInt ≤ 4) (l_y4 : 0 ≤ y4.toInt) (u_y4 : y4.toInt ≤ 1600) (l_y11 : 0 ≤ y11.toInt) (u_y11 : y11.toInt ≤ 99) (l_y12 : 0 ≤ y12.toInt) (u_y12 : y12.toInt ≤ 5) (l_y13 : 0 ≤ y13.toInt) (u_y13 : y13.toInt ≤ 12) (q0 : y2.toInt ≤ y1.toInt) (q1 : mp_MT f0 y1.toInt y3.toInt y4.toInt y2.toInt y5.toInt y6.toInt) : mp_Ct E yX10_asks cX10_asks 3 none 3 0 0 66 [.ref a0, .long x0] [(mp_ob10 a0 y0 a2 a3 a4 a5 a1 y1 y2 y3 y4 y5 y6 y7 y8 y9 y10 a6 a7 a8 a9 a10 a11 a12 a13 y11 a14 a15 a16 a17 y12 y13 y14 a18 a19 y15 y16 a20 a21 a22 y17 y18 y19 y20 a23 a24 a25 y21), (mp_arI E a1 1 1600 f0)] (fun v w' => ∃ r1 : Int32, ∃ r2 : Int32, ∃ r3 : Int32, ∃ r4 : Int32, ∃ r5 : Int64, ∃ r6 : Int32, ∃ r7 : Int32, v = none ∧ 0 ≤ r1.toInt ∧ r1.toInt ≤ 1600 ∧ 0 ≤ r2.toInt ∧ r2.toInt ≤ 4 ∧ 0 ≤ r3.toInt ∧ r3.toInt ≤ 1600 ∧ (r1.toInt ≤ y1.toInt) ∧ ((5 * (y1.toInt - r1.toInt) + r2.toInt) ≤ (5 * (y1.toInt - y2.toInt) + y3.toInt)) ∧ (mp_AK f0 y1.toInt y7.toInt y8.toInt y4.toInt r6.toInt r7.toInt r3.toInt x0.toInt) ∧ (mp_MT f0 y1.toInt r2.toInt r3.toInt r1.toInt r4.toInt r5.toInt) ∧ w' = [(mp_ob10 a0 y0 a2 a3 a4 a5 a1 y1 r1 r2 r3 r4 r5 r6 r7 y9 y10 a6 a7 a8 a9 a10 a11 a12 a13 y11 a14 a15 a16 a17 y12 y13 y14 a18 a19 y15 y16 a20 a21 a22 y17 y18 y19 y20 a23 a24 a25 y21), (mp_arI E a1 1 1600 f0)]) := by
  refine mp_met false (by decide) (by decide) (Nat.le_of_ble_eq_true rfl) (fun X hF hQ => ?_)
  have hF : mp_F E X (RX10, cX10_asks, 3, (3, 0, 0, 66), none, false) := hF
  let w1_ : va_W := [(mp_ob10 a0 y0 a2 a3 a4 a5 a1 y1 y2 y3 y4 y5 y6 y7 y8 y9 y10 a6 a7 a8 a9 a10 a11 a12 a13 y11 a14 a15 a16 a17 y12 y13 y14 a18 a19 y15 y16 a20 a21 a22 y17 y18 y19 y20 a23 a24 a25 y21), (mp_arI E a1 1 1600 f0)]
  show mp_W E X 3 0 [(0, .ref a0), (1, .long x0)] [] w1_ 0 0
  refine mp_run mp_k_cX10_asks_ok hF mp_tabX10_ok [mp_i (.aload_n 0), mp_i (.lload_n 1)] (by decide +kernel) ?_
  show mp_W E X 3 2 [(0, .ref a0), (1, .long x0)] [.long x0, .ref a0] w1_ 0 0
  refine mp_callV hF (As := [.long x0]) (rest := []) (wr := []) (bX10_takes_19 E a0 a1 a2 a3 a4 a5 a6 a7 a8 a9 a10 a11 a12 a13 a14 a15 a16 a17 a18 a19 a20 a21 a22 a23 a24 a25 f0 y0 y1 y2 y3 y4 y5 y6 y7 y8 y9 y10 y11 y12 y13 y14 y15 y16 y17 y18 y19 y20 y21 x0 l_y1 u_y1 l_y2 u_y2 l_y3 u_y3 l_y4 u_y4 l_y11 u_y11 l_y12 u_y12 l_y13 u_y13 (by omega) (by assumption)) mp_lkX10_157 0 rfl [0, 1] [] rfl rfl rfl rfl rfl ⟨(Nat.le_of_ble_eq_true rfl), (Nat.le_of_ble_eq_true rfl), (Nat.le_of_ble_eq_true rfl), (Nat.le_of_ble_eq_true rfl)⟩ (Nat.le_of_ble_eq_true rfl) (by first | exact mp_fd_ok mp_k_cX10_asks_ok (by decide +kernel) | decide +kernel) (fun v_1 w_2 h_3 => ?_)
  refine h_3.elim (fun q_31 => ?_) (fun q_32 => ?_)
  · skip
    refine q_31.elim fun e_33 q_34 => q_34.elim fun x_4 q_35 => q_35.elim fun x_5 q_36 => q_36.elim fun x_6 q_37 => q_37.elim fun x_7 e_38 => ?_
    clear h_3 q_31 q_34 q_35 q_36 q_37
    subst e_33
    subst e_38
    show mp_W E X 3 5 [(0, .ref a0), (1, .long x0)] [.int 0] w1_ 0 0
    refine mp_run mp_k_cX10_asks_ok hF mp_tabX10_ok [mp_h (.ifCond .ne 8) [13]] (by decide +kernel) ?_
    refine And.intro (fun c_39 => absurd c_39 (by decide)) (fun _ => ?_)
    show mp_W E X 3 8 [(0, .ref a0), (1, .long x0)] [] w1_ 0 0
    refine mp_run mp_k_cX10_asks_ok hF mp_tabX10_ok [mp_i (.aload_n 0), mp_c (.iconst 1) 1] (by decide +kernel) ?_
    show mp_W E X 3 10 [(0, .ref a0), (1, .long x0)] [.int 1, .ref a0] w1_ 0 0
    refine mp_callV hF (As := [.int 1]) (rest := []) (wr := [(mp_arI E a1 1 1600 f0)]) (bX10_fails_20 E a0 a2 a3 a4 a5 a1 a6 a7 a8 a9 a10 a11 a12 a13 a14 a15 a16 a17 a18 a19 a20 a21 a22 a23 a24 a25 y0 y1 y2 y3 y4 y5 y6 y7 y8 y9 y10 y11 y12 y13 y14 y15 y16 y17 y18 y19 y20 y21 l_y1 u_y1 l_y2 u_y2 l_y3 u_y3 l_y4 u_y4 l_y11 u_y11 l_y12 u_y12 l_y13 u_y13) mp_lkX10_160 0 rfl [0] [1] rfl rfl rfl rfl rfl ⟨(Nat.le_of_ble_eq_true rfl), (Nat.le_of_ble_eq_true rfl), (Nat.le_of_ble_eq_true rfl), (Nat.le_of_ble_eq_true rfl)⟩ (Nat.le_of_ble_eq_true rfl) (by first | exact mp_fd_ok mp_k_cX10_asks_ok (by decide +kernel) | decide +kernel) (fun v_40 w_41 h_42 => ?_)
    refine h_42.elim fun r_43 q_47 => q_47.elim fun r_44 q_48 => q_48.elim fun e_49 q_50 => q_50.elim fun x_45 q_51 => q_51.elim fun x_46 e_52 => ?_
    clear h_42 q_47 q_48 q_50 q_51
    subst e_49
    subst e_52
    let w2_ : va_W := [(mp_arI E a1 1 1600 f0), (mp_ob10 a0 y0 a2 a3 a4 a5 a1 y1 y2 y3 y4 y5 y6 r_43 r_44 y9 y10 a6 a7 a8 a9 a10 a11 a12 a13 y11 a14 a15 a16 a17 y12 y13 y14 a18 a19 y15 y16 a20 a21 a22 y17 y18 y19 y20 a23 a24 a25 y21)]
    show mp_W E X 3 13 [(0, .ref a0), (1, .long x0)] [] w2_ 0 0
    exact mp_vret hF hQ rfl (Nat.le_of_ble_eq_true rfl) (Nat.le_of_ble_eq_true rfl) [1, 0] (w' := [(mp_ob10 a0 y0 a2 a3 a4 a5 a1 y1 y2 y3 y4 y5 y6 r_43 r_44 y9 y10 a6 a7 a8 a9 a10 a11 a12 a13 y11 a14 a15 a16 a17 y12 y13 y14 a18 a19 y15 y16 a20 a21 a22 y17 y18 y19 y20 a23 a24 a25 y21), (mp_arI E a1 1 1600 f0)]) rfl rfl ⟨y2, y3, y4, y5, y6, r_43, r_44, rfl, l_y2, u_y2, l_y3, u_y3, l_y4, u_y4, (by first | omega | decide), (by first | omega | decide), (by first | exact x_46.elim (fun q => Or.inr (Or.inr ⟨q.1, x_6.elim (fun n => absurd q.1 n) id, q.2.1.trans (by decide), q.2.2⟩)) (fun q => Or.inl q) | (have k9 := x_6; have i0 : (0 : Int32).toInt = 0 := rfl; have i1 : (1 : Int32).toInt = 1 := rfl; have i8 : (2 : Int32).toInt = 2 := rfl; have i9 : (3 : Int32).toInt = 3 := rfl; unfold mp_AK; omega)), x_7, rfl⟩ (by first | exact mp_fd_ok mp_k_cX10_asks_ok (by decide +kernel) | decide +kernel)
  · skip
    refine q_32.elim fun r_8 q_53 => q_53.elim fun r_9 q_54 => q_54.elim fun r_10 q_55 => q_55.elim fun r_11 q_56 => q_56.elim fun r_12 q_57 => q_57.elim fun e_58 q_59 => q_59.elim fun c_13 q_60 => q_60.elim fun c_14 q_61 => q_61.elim fun c_15 q_62 => q_62.elim fun l_16 q_63 => q_63.elim fun u_17 q_64 => q_64.elim fun l_18 q_65 => q_65.elim fun u_19 q_66 => q_66.elim fun l_20 q_67 => q_67.elim fun u_21 q_68 => q_68.elim fun l_22 q_69 => q_69.elim fun u_23 q_70 => q_70.elim fun l_24 q_71 => q_71.elim fun u_25 q_72 => q_72.elim fun x_26 q_73 => q_73.elim fun x_27 q_74 => q_74.elim fun x_28 q_75 => q_75.elim fun x_29 q_76 => q_76.elim fun x_30 e_77 => ?_
    clear h_3 q_32 q_53 q_54 q_55 q_56 q_57 q_59 q_60 q_61 q_62 q_63 q_64 q_65 q_66 q_67 q_68 q_69 q_70 q_71 q_72 q_73 q_74 q_75 q_76
    subst e_58
    subst e_77
    have c_13 : y7.toInt = 0 := c_13
    have c_14 : y3.toInt = 1 := c_14
    have c_15 : y6.toInt = x0.toInt := c_15
    let w3_ : va_W := [(mp_ob10 a0 y0 a2 a3 a4 a5 a1 y1 r_8 r_9 r_10 r_11 r_12 y7 y8 y9 y10 a6 a7 a8 a9 a10 a11 a12 a13 y11 a14 a15 a16 a17 y12 y13 y14 a18 a19 y15 y16 a20 a21 a22 y17 y18 y19 y20 a23 a24 a25 y21), (mp_arI E a1 1 1600 f0)]
    show mp_W E X 3 5 [(0, .ref a0), (1, .long x0)] [.int 1] w3_ 0 0
    refine mp_run mp_k_cX10_asks_ok hF mp_tabX10_ok [mp_h (.ifCond .ne 8) [13]] (by decide +kernel) ?_
    refine And.intro (fun _ => ?_) (fun c_78 => absurd c_78 (by decide))
    show mp_W E X 3 13 [(0, .ref a0), (1, .long x0)] [] w3_ 0 0
    exact mp_vret hF hQ rfl (Nat.le_of_ble_eq_true rfl) (Nat.le_of_ble_eq_true rfl) [0, 1] (w' := w3_) rfl rfl ⟨r_8, r_9, r_10, r_11, r_12, y7, y8, rfl, l_16, u_17, l_18, u_19, l_20, u_21, (by first | omega | decide), (by first | omega | decide), (Or.inr (Or.inl ⟨x_28.1, x_28.2, by omega, x_29⟩)), x_30, rfl⟩ (by first | exact mp_fd_ok mp_k_cX10_asks_ok (by decide +kernel) | decide +kernel)
set_option maxHeartbeats 4000000 in
set_option maxRecDepth 100000 in
theorem bX10_hasRead_22 (E : mp_E) (a0 a1 a2 a3 a4 a5 a6 a7 a8 a9 a10 a11 a12 a13 a14 a15 a16 a17 a18 a19 a20 a21 a22 a23 a24 a25 : Nat) (f0 : Nat → Int32) (y0 : Int32) (y1 : Int32) (y2 : Int32) (y3 : Int32) (y4 : Int32) (y5 : Int32) (y6 : Int64) (y7 : Int32) (y8 : Int32) (y9 : Int32) (y10 : Int32) (y11 : Int32) (y12 : Int32) (y13 : Int32) (y14 : Int32) (y15 : Int32) (y16 : Int32) (y17 : Int32) (y18 : Int32) (y19 : Int32) (y20 : Int32) (y21 : Int32) (p0 : mp_res f0 25 5 0 0 6) (p1 : mp_res f0 25 5 1 0 99) (p2 : mp_res f0 25 5 2 0 6) (p3 : mp_res f0 25 5 3 0 10) (p4 : mp_res f0 25 5 4 0 60) (l_y1 : 0 ≤ y1.toInt) (u_y1 : y1.toInt ≤ 1600) (l_y2 : 0 ≤ y2.toInt) (u_y2 : y2.toInt ≤ 1600) (l_y3 : 0 ≤ y3.toInt) (u_y3 : y3.toInt ≤ 4) (l_y4 : 0 ≤ y4.toInt) (u_y4 : y4.toInt ≤ 1600) (l_y11 : 0 ≤ y11.toInt) (u_y11 : y11.toInt ≤ 99) (l_y12 : 0 ≤ y12.toInt) (u_y12 : y12.toInt ≤ 5) (l_y13 : 0 ≤ y13.toInt) (u_y13 : y13.toInt ≤ 12) : mp_Ct E yX10_hasRead cX10_hasRead 2 (some FieldType.int) 0 0 0 0 [.ref a0, .int 0] [(mp_ob10 a0 y0 a2 a3 a4 a5 a6 y1 y2 y3 y4 y5 y6 y7 y8 y9 y10 a7 a1 a8 a9 a10 a11 a12 a13 y11 a14 a15 a16 a17 y12 y13 y14 a18 a19 y15 y16 a20 a21 a22 y17 y18 y19 y20 a23 a24 a25 y21), (mp_arI E a1 0 25 f0)] (fun v w' => ∃ r1 : Int32, v = some (.int r1) ∧ 0 ≤ r1.toInt ∧ r1.toInt ≤ 6 ∧ (r1.toInt = (f0 20).toInt) ∧ w' = [(mp_ob10 a0 y0 a2 a3 a4 a5 a6 y1 y2 y3 y4 y5 y6 y7 y8 y9 y10 a7 a1 a8 a9 a10 a11 a12 a13 y11 a14 a15 a16 a17 y12 y13 y14 a18 a19 y15 y16 a20 a21 a22 y17 y18 y19 y20 a23 a24 a25 y21), (mp_arI E a1 0 25 f0)]) := by
  refine mp_met false (by decide) (by decide) (Nat.le_of_ble_eq_true rfl) (fun X hF hQ => ?_)
  have hF : mp_F E X (RX10, cX10_hasRead, 2, (0, 0, 0, 0), (some FieldType.int), false) := hF
  let w1_ : va_W := [(mp_ob10 a0 y0 a2 a3 a4 a5 a6 y1 y2 y3 y4 y5 y6 y7 y8 y9 y10 a7 a1 a8 a9 a10 a11 a12 a13 y11 a14 a15 a16 a17 y12 y13 y14 a18 a19 y15 y16 a20 a21 a22 y17 y18 y19 y20 a23 a24 a25 y21), (mp_arI E a1 0 25 f0)]
  show mp_W E X 2 0 [(0, .ref a0), (1, .int 0)] [] w1_ 0 0
  refine mp_run mp_k_cX10_hasRead_ok hF mp_tabX10_ok [mp_i (.aload_n 0), mp_h (.getfield 34) [17, 0], mp_c (.bipush 20) 20, mp_i (.iload_n 1), mp_i .iadd, mp_h .iaload [1]] (by decide +kernel) ?_
  refine And.intro rfl (And.intro rfl ?_)
  intro z_1 h_2
  obtain rfl : z_1 = 20 := h_2.trans (by decide)
  refine And.intro rfl (And.intro rfl (And.intro (vp_in_iff.mpr (by decide)) ?_))
  intro z_3 h_4
  have e_5 : 0 ≤ z_3.toInt ∧ z_3.toInt ≤ 6 := mp_res_ld h_4 p0 (by decide) (by decide) (by decide)
  have e_6 : z_3.toInt = (f0 20).toInt := congrArg Int32.toInt (mp_at h_4 (by decide) rfl)
  show mp_W E X 2 9 [(0, .ref a0), (1, .int 0)] [.int z_3] w1_ 0 0
  exact mp_iret hF hQ rfl rfl (Nat.le_of_ble_eq_true rfl) (Nat.le_of_ble_eq_true rfl) [0, 1] (w' := w1_) rfl rfl ⟨z_3, rfl, e_5.1, e_5.2, (by first | (first | exact e_6 | omega) | decide | (have h8 : (0 : Int32).toInt = 0 := rfl; have h9 : (1 : Int32).toInt = 1 := rfl; have h10 : (-1 : Int32).toInt = -1 := rfl; omega)), rfl⟩ (by first | exact mp_fd_ok mp_k_cX10_hasRead_ok (by decide +kernel) | decide +kernel)
set_option maxHeartbeats 4000000 in
set_option maxRecDepth 100000 in
theorem bX10_fails_23 (E : mp_E) (a0 a1 a2 a3 a4 a5 a6 a7 a8 a9 a10 a11 a12 a13 a14 a15 a16 a17 a18 a19 a20 a21 a22 a23 a24 a25 : Nat) (y0 : Int32) (y1 : Int32) (y2 : Int32) (y3 : Int32) (y4 : Int32) (y5 : Int32) (y6 : Int64) (y7 : Int32) (y8 : Int32) (y9 : Int32) (y10 : Int32) (y11 : Int32) (y12 : Int32) (y13 : Int32) (y14 : Int32) (y15 : Int32) (y16 : Int32) (y17 : Int32) (y18 : Int32) (y19 : Int32) (y20 : Int32) (y21 : Int32) (l_y1 : 0 ≤ y1.toInt) (u_y1 : y1.toInt ≤ 1600) (l_y2 : 0 ≤ y2.toInt) (u_y2 : y2.toInt ≤ 1600) (l_y3 : 0 ≤ y3.toInt) (u_y3 : y3.toInt ≤ 4) (l_y4 : 0 ≤ y4.toInt) (u_y4 : y4.toInt ≤ 1600) (l_y11 : 0 ≤ y11.toInt) (u_y11 : y11.toInt ≤ 99) (l_y12 : 0 ≤ y12.toInt) (u_y12 : y12.toInt ≤ 5) (l_y13 : 0 ≤ y13.toInt) (u_y13 : y13.toInt ≤ 12) : mp_Ct E yX10_fails cX10_fails 2 none 0 0 0 0 [.ref a0, .int 2] [(mp_ob10 a0 y0 a1 a2 a3 a4 a5 y1 y2 y3 y4 y5 y6 y7 y8 y9 y10 a6 a7 a8 a9 a10 a11 a12 a13 y11 a14 a15 a16 a17 y12 y13 y14 a18 a19 y15 y16 a20 a21 a22 y17 y18 y19 y20 a23 a24 a25 y21)] (fun v w' => ∃ r1 : Int32, ∃ r2 : Int32, v = none ∧ (r1.toInt ≠ 0) ∧ ((y7.toInt = 0 ∧ r1.toInt = 2 ∧ r2.toInt = y4.toInt) ∨ (y7.toInt ≠ 0 ∧ r1.toInt = y7.toInt ∧ r2.toInt = y8.toInt)) ∧ w' = [(mp_ob10 a0 y0 a1 a2 a3 a4 a5 y1 y2 y3 y4 y5 y6 r1 r2 y9 y10 a6 a7 a8 a9 a10 a11 a12 a13 y11 a14 a15 a16 a17 y12 y13 y14 a18 a19 y15 y16 a20 a21 a22 y17 y18 y19 y20 a23 a24 a25 y21)]) := by
  refine mp_met false (by decide) (by decide) (Nat.le_of_ble_eq_true rfl) (fun X hF hQ => ?_)
  have hF : mp_F E X (RX10, cX10_fails, 2, (0, 0, 0, 0), none, false) := hF
  let w1_ : va_W := [(mp_ob10 a0 y0 a1 a2 a3 a4 a5 y1 y2 y3 y4 y5 y6 y7 y8 y9 y10 a6 a7 a8 a9 a10 a11 a12 a13 y11 a14 a15 a16 a17 y12 y13 y14 a18 a19 y15 y16 a20 a21 a22 y17 y18 y19 y20 a23 a24 a25 y21)]
  show mp_W E X 2 0 [(0, .ref a0), (1, .int 2)] [] w1_ 0 0
  refine mp_run mp_k_cX10_fails_ok hF mp_tabX10_ok [mp_i (.aload_n 0), mp_h (.getfield 144) [12, 0], mp_h (.ifCond .eq 4) [8]] (by decide +kernel) ?_
  refine And.intro rfl (And.intro rfl ?_)
  refine And.intro (fun c_1 => ?_) (fun c_1 => ?_)
  · have c_1 : y7.toInt = 0 := (congrArg Int32.toInt c_1)
    show mp_W E X 2 8 [(0, .ref a0), (1, .int 2)] [] w1_ 0 0
    refine mp_run mp_k_cX10_fails_ok hF mp_tabX10_ok [mp_i (.aload_n 0), mp_i (.iload_n 1), mp_h (.putfield 144) [12, 0]] (by decide +kernel) ?_
    refine And.intro rfl (And.intro rfl (And.intro rfl (And.intro rfl (And.intro (Nat.le_of_ble_eq_true rfl) ?_))))
    let w2_ : va_W := [(mp_ob10 a0 y0 a1 a2 a3 a4 a5 y1 y2 y3 y4 y5 y6 2 y8 y9 y10 a6 a7 a8 a9 a10 a11 a12 a13 y11 a14 a15 a16 a17 y12 y13 y14 a18 a19 y15 y16 a20 a21 a22 y17 y18 y19 y20 a23 a24 a25 y21)]
    show mp_W E X 2 13 [(0, .ref a0), (1, .int 2)] [] w2_ 0 0
    refine mp_run mp_k_cX10_fails_ok hF mp_tabX10_ok [mp_i (.aload_n 0), mp_i (.aload_n 0), mp_h (.getfield 123) [9, 0], mp_h (.putfield 147) [13, 0]] (by decide +kernel) ?_
    refine And.intro rfl (And.intro rfl ?_)
    refine And.intro rfl (And.intro rfl (And.intro rfl (And.intro rfl (And.intro (Nat.le_of_ble_eq_true rfl) ?_))))
    let w3_ : va_W := [(mp_ob10 a0 y0 a1 a2 a3 a4 a5 y1 y2 y3 y4 y5 y6 2 y4 y9 y10 a6 a7 a8 a9 a10 a11 a12 a13 y11 a14 a15 a16 a17 y12 y13 y14 a18 a19 y15 y16 a20 a21 a22 y17 y18 y19 y20 a23 a24 a25 y21)]
    show mp_W E X 2 21 [(0, .ref a0), (1, .int 2)] [] w3_ 0 0
    exact mp_vret hF hQ rfl (Nat.le_of_ble_eq_true rfl) (Nat.le_of_ble_eq_true rfl) [0] (w' := w3_) rfl rfl ⟨2, y4, rfl, (by first | fail | decide), (by have i0 : (0 : Int32).toInt = 0 := rfl; have i1 : (1 : Int32).toInt = 1 := rfl; have i8 : (2 : Int32).toInt = 2 := rfl; have i9 : (3 : Int32).toInt = 3 := rfl; (first | exact mp_o1074 c_1 i8 | omega)), rfl⟩ (by first | exact mp_fd_ok mp_k_cX10_fails_ok (by decide +kernel) | decide +kernel)
  · have c_1 : y7.toInt ≠ 0 := c_1
    show mp_W E X 2 7 [(0, .ref a0), (1, .int 2)] [] w1_ 0 0
    exact mp_vret hF hQ rfl (Nat.le_of_ble_eq_true rfl) (Nat.le_of_ble_eq_true rfl) [0] (w' := w1_) rfl rfl ⟨y7, y8, rfl, (by first | (first | exact c_1 | omega) | decide), (by have i0 : (0 : Int32).toInt = 0 := rfl; have i1 : (1 : Int32).toInt = 1 := rfl; have i8 : (2 : Int32).toInt = 2 := rfl; have i9 : (3 : Int32).toInt = 3 := rfl; (first | exact mp_o1075 c_1 | omega)), rfl⟩ (by first | exact mp_fd_ok mp_k_cX10_fails_ok (by decide +kernel) | decide +kernel)
set_option maxHeartbeats 4000000 in
set_option maxRecDepth 100000 in
theorem bX10_number_24 (E : mp_E) (a0 a1 a2 a3 a4 a5 a6 a7 a8 a9 a10 a11 a12 a13 a14 a15 a16 a17 a18 a19 a20 a21 a22 a23 a24 a25 : Nat) (f0 : Nat → Int32) (y0 : Int32) (y1 : Int32) (y2 : Int32) (y3 : Int32) (y4 : Int32) (y5 : Int32) (y6 : Int64) (y7 : Int32) (y8 : Int32) (y9 : Int32) (y10 : Int32) (y11 : Int32) (y12 : Int32) (y13 : Int32) (y14 : Int32) (y15 : Int32) (y16 : Int32) (y17 : Int32) (y18 : Int32) (y19 : Int32) (y20 : Int32) (y21 : Int32) (x0 : Int32) (l_x0 : (-1) ≤ x0.toInt) (u_x0 : x0.toInt ≤ 5) (l_y1 : 0 ≤ y1.toInt) (u_y1 : y1.toInt ≤ 1600) (l_y2 : 0 ≤ y2.toInt) (u_y2 : y2.toInt ≤ 1600) (l_y3 : 0 ≤ y3.toInt) (u_y3 : y3.toInt ≤ 4) (l_y4 : 0 ≤ y4.toInt) (u_y4 : y4.toInt ≤ 1600) (l_y11 : 0 ≤ y11.toInt) (u_y11 : y11.toInt ≤ 99) (l_y12 : 0 ≤ y12.toInt) (u_y12 : y12.toInt ≤ 5) (l_y13 : 0 ≤ y13.toInt) (u_y13 : y13.toInt ≤ 12) (q0 : y2.toInt ≤ y1.toInt) (q1 : mp_MT f0 y1.toInt y3.toInt y4.toInt y2.toInt y5.toInt y6.toInt) (q2 : x0.toInt ≤ 1000000) : mp_Ct E yX10_number cX10_number 4 (some FieldType.int) 2 0 0 44 [.ref a0, .int 0, .int x0] [(mp_ob10 a0 y0 a2 a3 a4 a5 a1 y1 y2 y3 y4 y5 y6 y7 y8 y9 y10 a6 a7 a8 a9 a10 a11 a12 a13 y11 a14 a15 a16 a17 y12 y13 y14 a18 a19 y15 y16 a20 a21 a22 y17 y18 y19 y20 a23 a24 a25 y21), (mp_arI E a1 1 1600 f0)] (fun v w' => ∃ r1 : Int32, ∃ r2 : Int32, ∃ r3 : Int32, ∃ r4 : Int32, ∃ r5 : Int64, ∃ r6 : Int32, ∃ r7 : Int32, ∃ r8 : Int32, v = some (.int r8) ∧ 0 ≤ r1.toInt ∧ r1.toInt ≤ 1600 ∧ 0 ≤ r2.toInt ∧ r2.toInt ≤ 4 ∧ 0 ≤ r3.toInt ∧ r3.toInt ≤ 1600 ∧ 0 ≤ r8.toInt ∧ r8.toInt ≤ 5 ∧ (r1.toInt ≤ y1.toInt) ∧ ((5 * (y1.toInt - r1.toInt) + r2.toInt) ≤ (5 * (y1.toInt - y2.toInt) + y3.toInt)) ∧ (r6.toInt ≠ 0 ∨ (0 ≤ r8.toInt ∧ r8.toInt ≤ x0.toInt)) ∧ (mp_NK f0 y1.toInt y7.toInt y8.toInt y4.toInt r6.toInt r7.toInt r3.toInt 0 x0.toInt r8.toInt) ∧ (mp_MT f0 y1.toInt r2.toInt r3.toInt r1.toInt r4.toInt r5.toInt) ∧ w' = [(mp_ob10 a0 y0 a2 a3 a4 a5 a1 y1 r1 r2 r3 r4 r5 r6 r7 y9 y10 a6 a7 a8 a9 a10 a11 a12 a13 y11 a14 a15 a16 a17 y12 y13 y14 a18 a19 y15 y16 a20 a21 a22 y17 y18 y19 y20 a23 a24 a25 y21), (mp_arI E a1 1 1600 f0)]) := by
  refine mp_met false (by decide) (by decide) (Nat.le_of_ble_eq_true rfl) (fun X hF hQ => ?_)
  have hF : mp_F E X (RX10, cX10_number, 4, (2, 0, 0, 44), (some FieldType.int), false) := hF
  let w1_ : va_W := [(mp_ob10 a0 y0 a2 a3 a4 a5 a1 y1 y2 y3 y4 y5 y6 y7 y8 y9 y10 a6 a7 a8 a9 a10 a11 a12 a13 y11 a14 a15 a16 a17 y12 y13 y14 a18 a19 y15 y16 a20 a21 a22 y17 y18 y19 y20 a23 a24 a25 y21), (mp_arI E a1 1 1600 f0)]
  show mp_W E X 4 0 [(0, .ref a0), (1, .int 0), (2, .int x0)] [] w1_ 0 0
  refine mp_run mp_k_cX10_number_ok hF mp_tabX10_ok [mp_i (.aload_n 0), mp_h (.getfield 144) [12, 0], mp_h (.ifCond .eq 5) [9]] (by decide +kernel) ?_
  refine And.intro rfl (And.intro rfl ?_)
  refine And.intro (fun c_1 => ?_) (fun c_1 => ?_)
  · have c_1 : y7.toInt = 0 := (congrArg Int32.toInt c_1)
    show mp_W E X 4 9 [(0, .ref a0), (1, .int 0), (2, .int x0)] [] w1_ 0 0
    refine mp_run mp_k_cX10_number_ok hF mp_tabX10_ok [mp_i (.aload_n 0), mp_h (.getfield 133) [8, 0], mp_c (.iconst 2) 2, mp_h (.if_icmp .eq 10) [24]] (by decide +kernel) ?_
    refine And.intro rfl (And.intro rfl ?_)
    refine And.intro (fun c_2 => ?_) (fun c_2 => ?_)
    · have c_2 : y3.toInt = 2 := (congrArg Int32.toInt c_2)
      show mp_W E X 4 24 [(0, .ref a0), (1, .int 0), (2, .int x0)] [] w1_ 0 0
      refine mp_run mp_k_cX10_number_ok hF mp_tabX10_ok [mp_i (.aload_n 0), mp_h (.getfield 126) [10, 0], mp_i .i2l, mp_i (.iload_n 1), mp_i .i2l, mp_i (.iload_n 2), mp_i .i2l] (by decide +kernel) ?_
      refine And.intro rfl (And.intro rfl ?_)
      intro z_3 h_4
      have e_5 : z_3.toInt = y5.toInt := mp_i2l h_4
      intro z_6 h_7
      obtain rfl : z_6 = 0 := h_7.trans (by decide)
      intro z_8 h_9
      have e_10 : z_8.toInt = x0.toInt := mp_i2l h_9
      show mp_W E X 4 33 [(0, .ref a0), (1, .int 0), (2, .int x0)] [.long z_8, .long 0, .long z_3] w1_ 0 0
      refine mp_callS hF (As := [.long z_3, .long 0, .long z_8]) (rest := []) (wr := w1_) (bX10_in_0 E z_3 0 z_8) mp_lkX10_97 [] [0, 1] rfl rfl rfl rfl rfl ⟨(Nat.le_of_ble_eq_true rfl), (Nat.le_of_ble_eq_true rfl), (Nat.le_of_ble_eq_true rfl), (Nat.le_of_ble_eq_true rfl)⟩ (Nat.le_of_ble_eq_true rfl) (by first | exact mp_fd_ok mp_k_cX10_number_ok (by decide +kernel) | decide +kernel) (fun v_11 w_12 h_13 => ?_)
      rcases h_13 with ⟨rfl, x_14, rfl⟩ | ⟨rfl, c_15, c_16, rfl⟩
      · skip
        have i_17 : (0 : Int64).toInt = 0 := by decide
        show mp_W E X 4 36 [(0, .ref a0), (1, .int 0), (2, .int x0)] [.int 0] w1_ 0 0
        refine mp_run mp_k_cX10_number_ok hF mp_tabX10_ok [mp_h (.ifCond .ne 10) [46]] (by decide +kernel) ?_
        refine And.intro (fun c_18 => absurd c_18 (by decide)) (fun _ => ?_)
        show mp_W E X 4 39 [(0, .ref a0), (1, .int 0), (2, .int x0)] [] w1_ 0 0
        refine mp_run mp_k_cX10_number_ok hF mp_tabX10_ok [mp_i (.aload_n 0), mp_c (.iconst 2) 2] (by decide +kernel) ?_
        show mp_W E X 4 41 [(0, .ref a0), (1, .int 0), (2, .int x0)] [.int 2, .ref a0] w1_ 0 0
        refine mp_callV hF (As := [.int 2]) (rest := []) (wr := [(mp_arI E a1 1 1600 f0)]) (bX10_fails_23 E a0 a2 a3 a4 a5 a1 a6 a7 a8 a9 a10 a11 a12 a13 a14 a15 a16 a17 a18 a19 a20 a21 a22 a23 a24 a25 y0 y1 y2 y3 y4 y5 y6 y7 y8 y9 y10 y11 y12 y13 y14 y15 y16 y17 y18 y19 y20 y21 l_y1 u_y1 l_y2 u_y2 l_y3 u_y3 l_y4 u_y4 l_y11 u_y11 l_y12 u_y12 l_y13 u_y13) mp_lkX10_160 0 rfl [0] [1] rfl rfl rfl rfl rfl ⟨(Nat.le_of_ble_eq_true rfl), (Nat.le_of_ble_eq_true rfl), (Nat.le_of_ble_eq_true rfl), (Nat.le_of_ble_eq_true rfl)⟩ (Nat.le_of_ble_eq_true rfl) (by first | exact mp_fd_ok mp_k_cX10_number_ok (by decide +kernel) | decide +kernel) (fun v_19 w_20 h_21 => ?_)
        refine h_21.elim fun r_22 q_26 => q_26.elim fun r_23 q_27 => q_27.elim fun e_28 q_29 => q_29.elim fun x_24 q_30 => q_30.elim fun x_25 e_31 => ?_
        clear h_21 q_26 q_27 q_29 q_30
        subst e_28
        subst e_31
        let w2_ : va_W := [(mp_arI E a1 1 1600 f0), (mp_ob10 a0 y0 a2 a3 a4 a5 a1 y1 y2 y3 y4 y5 y6 r_22 r_23 y9 y10 a6 a7 a8 a9 a10 a11 a12 a13 y11 a14 a15 a16 a17 y12 y13 y14 a18 a19 y15 y16 a20 a21 a22 y17 y18 y19 y20 a23 a24 a25 y21)]
        show mp_W E X 4 44 [(0, .ref a0), (1, .int 0), (2, .int x0)] [] w2_ 0 0
        refine mp_run mp_k_cX10_number_ok hF mp_tabX10_ok [mp_i (.iload_n 1)] (by decide +kernel) ?_
        show mp_W E X 4 45 [(0, .ref a0), (1, .int 0), (2, .int x0)] [.int 0] w2_ 0 0
        exact mp_iret hF hQ rfl rfl (Nat.le_of_ble_eq_true rfl) (Nat.le_of_ble_eq_true rfl) [1, 0] (w' := [(mp_ob10 a0 y0 a2 a3 a4 a5 a1 y1 y2 y3 y4 y5 y6 r_22 r_23 y9 y10 a6 a7 a8 a9 a10 a11 a12 a13 y11 a14 a15 a16 a17 y12 y13 y14 a18 a19 y15 y16 a20 a21 a22 y17 y18 y19 y20 a23 a24 a25 y21), (mp_arI E a1 1 1600 f0)]) rfl rfl ⟨y2, y3, y4, y5, y6, r_22, r_23, 0, rfl, l_y2, u_y2, l_y3, u_y3, l_y4, u_y4, (by decide), (by decide), (by first | (first | exact q0 | omega) | decide), (by first | (first | exact mp_o1069 | omega) | decide), (by first | (first | exact mp_o1076 x_25 | omega) | decide), (mp_NK_l3 q1 (by (first | exact c_2 | omega)) (by (first | exact c_1 | omega)) (by (first | exact mp_o1077 i_17 e_5 x_14 e_10 | omega)) (by first | (first | exact q2 | omega) | exact q2) (by first | (first | exact mp_o1078 c_1 x_25 | omega) | decide) (by (first | exact mp_o1079 c_1 x_25 | omega))), q1, rfl⟩ (by first | exact mp_fd_ok mp_k_cX10_number_ok (by decide +kernel) | decide +kernel)
      · skip
        have c_15 : 0 ≤ z_3.toInt := c_15
        have c_16 : z_3.toInt ≤ z_8.toInt := c_16
        have i_32 : (0 : Int64).toInt = 0 := by decide
        show mp_W E X 4 36 [(0, .ref a0), (1, .int 0), (2, .int x0)] [.int 1] w1_ 0 0
        refine mp_run mp_k_cX10_number_ok hF mp_tabX10_ok [mp_h (.ifCond .ne 10) [46]] (by decide +kernel) ?_
        refine And.intro (fun _ => ?_) (fun c_33 => absurd c_33 (by decide))
        show mp_W E X 4 46 [(0, .ref a0), (1, .int 0), (2, .int x0)] [] w1_ 0 0
        refine mp_run mp_k_cX10_number_ok hF mp_tabX10_ok [mp_i (.aload_n 0), mp_h (.getfield 126) [10, 0], mp_i (.istore_n 3), mp_i (.aload_n 0)] (by decide +kernel) ?_
        refine And.intro rfl (And.intro rfl ?_)
        show mp_W E X 4 52 [(3, .int y5), (0, .ref a0), (1, .int 0), (2, .int x0)] [.ref a0] w1_ 0 0
        refine mp_callV hF (As := []) (rest := []) (wr := []) (bX10_next_12 E a0 a1 a2 a3 a4 a5 a6 a7 a8 a9 a10 a11 a12 a13 a14 a15 a16 a17 a18 a19 a20 a21 a22 a23 a24 a25 f0 y0 y1 y2 y3 y4 y5 y6 y7 y8 y9 y10 y11 y12 y13 y14 y15 y16 y17 y18 y19 y20 y21 l_y1 u_y1 l_y2 u_y2 l_y3 u_y3 l_y4 u_y4 l_y11 u_y11 l_y12 u_y12 l_y13 u_y13 (by first | (first | exact q0 | omega) | (show y2.toInt ≤ y1.toInt; omega))) mp_lkX10_154 0 rfl [0, 1] [] rfl rfl rfl rfl rfl ⟨(Nat.le_of_ble_eq_true rfl), (Nat.le_of_ble_eq_true rfl), (Nat.le_of_ble_eq_true rfl), (Nat.le_of_ble_eq_true rfl)⟩ (Nat.le_of_ble_eq_true rfl) (by first | exact mp_fd_ok mp_k_cX10_number_ok (by decide +kernel) | decide +kernel) (fun v_34 w_35 h_36 => ?_)
        refine h_36.elim fun r_37 q_56 => q_56.elim fun r_38 q_57 => q_57.elim fun r_39 q_58 => q_58.elim fun r_40 q_59 => q_59.elim fun r_41 q_60 => q_60.elim fun e_61 q_62 => q_62.elim fun l_42 q_63 => q_63.elim fun u_43 q_64 => q_64.elim fun l_44 q_65 => q_65.elim fun u_45 q_66 => q_66.elim fun l_46 q_67 => q_67.elim fun u_47 q_68 => q_68.elim fun l_48 q_69 => q_69.elim fun u_49 q_70 => q_70.elim fun l_50 q_71 => q_71.elim fun u_51 q_72 => q_72.elim fun x_52 q_73 => q_73.elim fun x_53 q_74 => q_74.elim fun x_54 q_75 => q_75.elim fun x_55 e_76 => ?_
        clear h_36 q_56 q_57 q_58 q_59 q_60 q_62 q_63 q_64 q_65 q_66 q_67 q_68 q_69 q_70 q_71 q_72 q_73 q_74 q_75
        subst e_61
        subst e_76
        let w3_ : va_W := [(mp_ob10 a0 y0 a2 a3 a4 a5 a1 y1 r_37 r_38 r_39 r_40 r_41 y7 y8 y9 y10 a6 a7 a8 a9 a10 a11 a12 a13 y11 a14 a15 a16 a17 y12 y13 y14 a18 a19 y15 y16 a20 a21 a22 y17 y18 y19 y20 a23 a24 a25 y21), (mp_arI E a1 1 1600 f0)]
        show mp_W E X 4 55 [(3, .int y5), (0, .ref a0), (1, .int 0), (2, .int x0)] [] w3_ 0 0
        refine mp_run mp_k_cX10_number_ok hF mp_tabX10_ok [mp_i (.iload_n 3)] (by decide +kernel) ?_
        show mp_W E X 4 56 [(3, .int y5), (0, .ref a0), (1, .int 0), (2, .int x0)] [.int y5] w3_ 0 0
        exact mp_iret hF hQ rfl rfl (Nat.le_of_ble_eq_true rfl) (Nat.le_of_ble_eq_true rfl) [0, 1] (w' := w3_) rfl rfl ⟨r_37, r_38, r_39, r_40, r_41, y7, y8, y5, rfl, l_42, u_43, l_44, u_45, l_46, u_47, (by (first | exact mp_o921 c_15 e_5 | omega)), (by (first | exact mp_o1080 e_5 u_x0 e_10 c_16 | omega)), (by first | (first | exact x_52 | omega) | decide), (by first | (first | exact mp_o1081 x_53 u_45 c_2 | omega) | decide), (by first | (first | exact mp_o1082 c_15 e_5 e_10 c_16 | omega) | decide), (mp_NK_l4 q1 (by (first | exact c_2 | omega)) (by (first | exact c_1 | omega)) (by (first | exact mp_o1083 c_15 e_5 e_10 c_16 | omega)) (by first | (first | exact q2 | omega) | exact q2) (by first | rfl | omega) (by first | (first | exact c_1 | omega) | decide) (show r_39.toInt = ((mp_NX f0 (y1.toInt).toNat (y4.toInt).toNat : Nat) : Int) from (by have k9 := x_54; unfold mp_NX; rw [← Int.toNat_natCast (mp_TE _ _ _), ← q1.2.2.1]; exact k9))), x_55, rfl⟩ (by first | exact mp_fd_ok mp_k_cX10_number_ok (by decide +kernel) | decide +kernel)
    · have c_2 : y3.toInt ≠ 2 := c_2
      show mp_W E X 4 17 [(0, .ref a0), (1, .int 0), (2, .int x0)] [] w1_ 0 0
      refine mp_run mp_k_cX10_number_ok hF mp_tabX10_ok [mp_i (.aload_n 0), mp_c (.iconst 1) 1] (by decide +kernel) ?_
      show mp_W E X 4 19 [(0, .ref a0), (1, .int 0), (2, .int x0)] [.int 1, .ref a0] w1_ 0 0
      refine mp_callV hF (As := [.int 1]) (rest := []) (wr := [(mp_arI E a1 1 1600 f0)]) (bX10_fails_20 E a0 a2 a3 a4 a5 a1 a6 a7 a8 a9 a10 a11 a12 a13 a14 a15 a16 a17 a18 a19 a20 a21 a22 a23 a24 a25 y0 y1 y2 y3 y4 y5 y6 y7 y8 y9 y10 y11 y12 y13 y14 y15 y16 y17 y18 y19 y20 y21 l_y1 u_y1 l_y2 u_y2 l_y3 u_y3 l_y4 u_y4 l_y11 u_y11 l_y12 u_y12 l_y13 u_y13) mp_lkX10_160 0 rfl [0] [1] rfl rfl rfl rfl rfl ⟨(Nat.le_of_ble_eq_true rfl), (Nat.le_of_ble_eq_true rfl), (Nat.le_of_ble_eq_true rfl), (Nat.le_of_ble_eq_true rfl)⟩ (Nat.le_of_ble_eq_true rfl) (by first | exact mp_fd_ok mp_k_cX10_number_ok (by decide +kernel) | decide +kernel) (fun v_77 w_78 h_79 => ?_)
      refine h_79.elim fun r_80 q_84 => q_84.elim fun r_81 q_85 => q_85.elim fun e_86 q_87 => q_87.elim fun x_82 q_88 => q_88.elim fun x_83 e_89 => ?_
      clear h_79 q_84 q_85 q_87 q_88
      subst e_86
      subst e_89
      let w4_ : va_W := [(mp_arI E a1 1 1600 f0), (mp_ob10 a0 y0 a2 a3 a4 a5 a1 y1 y2 y3 y4 y5 y6 r_80 r_81 y9 y10 a6 a7 a8 a9 a10 a11 a12 a13 y11 a14 a15 a16 a17 y12 y13 y14 a18 a19 y15 y16 a20 a21 a22 y17 y18 y19 y20 a23 a24 a25 y21)]
      show mp_W E X 4 22 [(0, .ref a0), (1, .int 0), (2, .int x0)] [] w4_ 0 0
      refine mp_run mp_k_cX10_number_ok hF mp_tabX10_ok [mp_i (.iload_n 1)] (by decide +kernel) ?_
      show mp_W E X 4 23 [(0, .ref a0), (1, .int 0), (2, .int x0)] [.int 0] w4_ 0 0
      exact mp_iret hF hQ rfl rfl (Nat.le_of_ble_eq_true rfl) (Nat.le_of_ble_eq_true rfl) [1, 0] (w' := [(mp_ob10 a0 y0 a2 a3 a4 a5 a1 y1 y2 y3 y4 y5 y6 r_80 r_81 y9 y10 a6 a7 a8 a9 a10 a11 a12 a13 y11 a14 a15 a16 a17 y12 y13 y14 a18 a19 y15 y16 a20 a21 a22 y17 y18 y19 y20 a23 a24 a25 y21), (mp_arI E a1 1 1600 f0)]) rfl rfl ⟨y2, y3, y4, y5, y6, r_80, r_81, 0, rfl, l_y2, u_y2, l_y3, u_y3, l_y4, u_y4, (by decide), (by decide), (by first | (first | exact q0 | omega) | decide), (by first | (first | exact mp_o1069 | omega) | decide), (by first | (first | exact mp_o1084 x_83 | omega) | decide), (mp_NK_l2 q1 (by (first | exact c_2 | omega)) (by (first | exact c_1 | omega)) (by first | (first | exact mp_o1085 c_1 x_83 | omega) | decide) (by (first | exact mp_o1086 c_1 x_83 | omega))), q1, rfl⟩ (by first | exact mp_fd_ok mp_k_cX10_number_ok (by decide +kernel) | decide +kernel)
  · have c_1 : y7.toInt ≠ 0 := c_1
    show mp_W E X 4 7 [(0, .ref a0), (1, .int 0), (2, .int x0)] [] w1_ 0 0
    refine mp_run mp_k_cX10_number_ok hF mp_tabX10_ok [mp_i (.iload_n 1)] (by decide +kernel) ?_
    show mp_W E X 4 8 [(0, .ref a0), (1, .int 0), (2, .int x0)] [.int 0] w1_ 0 0
    exact mp_iret hF hQ rfl rfl (Nat.le_of_ble_eq_true rfl) (Nat.le_of_ble_eq_true rfl) [0, 1] (w' := w1_) rfl rfl ⟨y2, y3, y4, y5, y6, y7, y8, 0, rfl, l_y2, u_y2, l_y3, u_y3, l_y4, u_y4, (by decide), (by decide), (by first | (first | exact q0 | omega) | decide), (by first | (first | exact mp_o1069 | omega) | decide), (by first | (first | exact mp_o1087 c_1 | omega) | decide), (mp_NK_l1 (by (first | exact c_1 | omega)) (by first | rfl | omega) (by first | rfl | omega)), q1, rfl⟩ (by first | exact mp_fd_ok mp_k_cX10_number_ok (by decide +kernel) | decide +kernel)
set_option maxHeartbeats 4000000 in
set_option maxRecDepth 100000 in
theorem bX10_isleHere_25 (E : mp_E) (a0 a1 a2 a3 a4 a5 a6 a7 a8 a9 a10 a11 a12 a13 a14 a15 a16 a17 a18 a19 a20 a21 a22 a23 a24 a25 : Nat) (f0 : Nat → Int32) (f1 : Nat → Int32) (y0 : Int32) (y1 : Int32) (y2 : Int32) (y3 : Int32) (y4 : Int32) (y5 : Int32) (y6 : Int64) (y7 : Int32) (y8 : Int32) (y9 : Int32) (y10 : Int32) (y11 : Int32) (y12 : Int32) (y13 : Int32) (y14 : Int32) (y15 : Int32) (y16 : Int32) (y17 : Int32) (y18 : Int32) (y19 : Int32) (y20 : Int32) (y21 : Int32) (p0 : mp_res f1 25 5 0 0 6) (p1 : mp_res f1 25 5 1 0 99) (p2 : mp_res f1 25 5 2 0 6) (p3 : mp_res f1 25 5 3 0 10) (p4 : mp_res f1 25 5 4 0 60) (l_y1 : 0 ≤ y1.toInt) (u_y1 : y1.toInt ≤ 1600) (l_y2 : 0 ≤ y2.toInt) (u_y2 : y2.toInt ≤ 1600) (l_y3 : 0 ≤ y3.toInt) (u_y3 : y3.toInt ≤ 4) (l_y4 : 0 ≤ y4.toInt) (u_y4 : y4.toInt ≤ 1600) (l_y11 : 0 ≤ y11.toInt) (u_y11 : y11.toInt ≤ 99) (l_y12 : 0 ≤ y12.toInt) (u_y12 : y12.toInt ≤ 5) (l_y13 : 0 ≤ y13.toInt) (u_y13 : y13.toInt ≤ 12) (q0 : y2.toInt ≤ y1.toInt) (q1 : mp_MT f0 y1.toInt y3.toInt y4.toInt y2.toInt y5.toInt y6.toInt) : mp_Ct E yX10_isleHere cX10_isleHere 1 (some FieldType.int) 3 0 0 67 [.ref a0] [(mp_ob10 a0 y0 a3 a4 a5 a6 a1 y1 y2 y3 y4 y5 y6 y7 y8 y9 y10 a7 a2 a8 a9 a10 a11 a12 a13 y11 a14 a15 a16 a17 y12 y13 y14 a18 a19 y15 y16 a20 a21 a22 y17 y18 y19 y20 a23 a24 a25 y21), (mp_arI E a1 1 1600 f0), (mp_arI E a2 0 25 f1)] (fun v w' => ∃ r1 : Int32, ∃ r2 : Int32, ∃ r3 : Int32, ∃ r4 : Int32, ∃ r5 : Int64, ∃ r6 : Int32, ∃ r7 : Int32, ∃ r8 : Int32, v = some (.int r8) ∧ 0 ≤ r1.toInt ∧ r1.toInt ≤ 1600 ∧ 0 ≤ r2.toInt ∧ r2.toInt ≤ 4 ∧ 0 ≤ r3.toInt ∧ r3.toInt ≤ 1600 ∧ 0 ≤ r8.toInt ∧ r8.toInt ≤ 5 ∧ (r1.toInt ≤ y1.toInt) ∧ ((5 * (y1.toInt - r1.toInt) + r2.toInt) ≤ (5 * (y1.toInt - y2.toInt) + y3.toInt)) ∧ (r6.toInt ≠ 0 ∨ (0 ≤ r8.toInt ∧ r8.toInt ≤ (f1 20).toInt - 1)) ∧ (mp_NK f0 y1.toInt y7.toInt y8.toInt y4.toInt r6.toInt r7.toInt r3.toInt 0 ((f1 20).toInt - 1) r8.toInt) ∧ (mp_MT f0 y1.toInt r2.toInt r3.toInt r1.toInt r4.toInt r5.toInt) ∧ w' = [(mp_ob10 a0 y0 a3 a4 a5 a6 a1 y1 r1 r2 r3 r4 r5 r6 r7 y9 y10 a7 a2 a8 a9 a10 a11 a12 a13 y11 a14 a15 a16 a17 y12 y13 y14 a18 a19 y15 y16 a20 a21 a22 y17 y18 y19 y20 a23 a24 a25 y21), (mp_arI E a1 1 1600 f0), (mp_arI E a2 0 25 f1)]) := by
  refine mp_met false (by decide) (by decide) (Nat.le_of_ble_eq_true rfl) (fun X hF hQ => ?_)
  have hF : mp_F E X (RX10, cX10_isleHere, 1, (3, 0, 0, 67), (some FieldType.int), false) := hF
  let w1_ : va_W := [(mp_ob10 a0 y0 a3 a4 a5 a6 a1 y1 y2 y3 y4 y5 y6 y7 y8 y9 y10 a7 a2 a8 a9 a10 a11 a12 a13 y11 a14 a15 a16 a17 y12 y13 y14 a18 a19 y15 y16 a20 a21 a22 y17 y18 y19 y20 a23 a24 a25 y21), (mp_arI E a1 1 1600 f0), (mp_arI E a2 0 25 f1)]
  show mp_W E X 1 0 [(0, .ref a0)] [] w1_ 0 0
  refine mp_run mp_k_cX10_isleHere_ok hF mp_tabX10_ok [mp_i (.aload_n 0), mp_c (.iconst 0) 0, mp_i (.aload_n 0), mp_c (.iconst 0) 0] (by decide +kernel) ?_
  show mp_W E X 1 4 [(0, .ref a0)] [.int 0, .ref a0, .int 0, .ref a0] w1_ 0 0
  refine mp_callV hF (As := [.int 0]) (rest := [.int 0, .ref a0]) (wr := [(mp_arI E a1 1 1600 f0)]) (bX10_hasRead_22 E a0 a2 a3 a4 a5 a6 a1 a7 a8 a9 a10 a11 a12 a13 a14 a15 a16 a17 a18 a19 a20 a21 a22 a23 a24 a25 f1 y0 y1 y2 y3 y4 y5 y6 y7 y8 y9 y10 y11 y12 y13 y14 y15 y16 y17 y18 y19 y20 y21 p0 p1 p2 p3 p4 l_y1 u_y1 l_y2 u_y2 l_y3 u_y3 l_y4 u_y4 l_y11 u_y11 l_y12 u_y12 l_y13 u_y13) mp_lkX10_174 0 rfl [0, 2] [1] rfl rfl rfl rfl rfl ⟨(Nat.le_of_ble_eq_true rfl), (Nat.le_of_ble_eq_true rfl), (Nat.le_of_ble_eq_true rfl), (Nat.le_of_ble_eq_true rfl)⟩ (Nat.le_of_ble_eq_true rfl) (by first | exact mp_fd_ok mp_k_cX10_isleHere_ok (by decide +kernel) | decide +kernel) (fun v_1 w_2 h_3 => ?_)
  refine h_3.elim fun r_4 q_8 => q_8.elim fun e_9 q_10 => q_10.elim fun l_5 q_11 => q_11.elim fun u_6 q_12 => q_12.elim fun x_7 e_13 => ?_
  clear h_3 q_8 q_10 q_11 q_12
  subst e_9
  subst e_13
  let w2_ : va_W := [(mp_arI E a1 1 1600 f0), (mp_ob10 a0 y0 a3 a4 a5 a6 a1 y1 y2 y3 y4 y5 y6 y7 y8 y9 y10 a7 a2 a8 a9 a10 a11 a12 a13 y11 a14 a15 a16 a17 y12 y13 y14 a18 a19 y15 y16 a20 a21 a22 y17 y18 y19 y20 a23 a24 a25 y21), (mp_arI E a2 0 25 f1)]
  show mp_W E X 1 7 [(0, .ref a0)] [.int r_4, .int 0, .ref a0] w2_ 0 0
  refine mp_run mp_k_cX10_isleHere_ok hF mp_tabX10_ok [mp_c (.iconst 1) 1, mp_i .isub] (by decide +kernel) ?_
  intro z_14 h_15
  have e_16 : z_14.toInt = r_4.toInt - 1 := mp_subi (a := r_4.toInt) (b := 1) h_15 rfl (by decide) (by (first | exact mp_o157 l_5 | omega)) (by (first | exact mp_o158 u_6 | omega))
  show mp_W E X 1 9 [(0, .ref a0)] [.int z_14, .int 0, .ref a0] w2_ 0 0
  refine mp_callV hF (As := [.int 0, .int z_14]) (rest := []) (wr := [(mp_arI E a2 0 25 f1)]) (bX10_number_24 E a0 a1 a3 a4 a5 a6 a7 a2 a8 a9 a10 a11 a12 a13 a14 a15 a16 a17 a18 a19 a20 a21 a22 a23 a24 a25 f0 y0 y1 y2 y3 y4 y5 y6 y7 y8 y9 y10 y11 y12 y13 y14 y15 y16 y17 y18 y19 y20 y21 z_14 (by (first | exact mp_o159 l_5 e_16 | omega)) (by (first | exact mp_o160 u_6 e_16 | omega)) l_y1 u_y1 l_y2 u_y2 l_y3 u_y3 l_y4 u_y4 l_y11 u_y11 l_y12 u_y12 l_y13 u_y13 (by (first | exact q0 | omega)) (by assumption) (by first | (first | exact mp_o161 u_6 e_16 | omega) | decide)) mp_lkX10_167 1 rfl [1, 0] [2] rfl rfl rfl rfl rfl ⟨(Nat.le_of_ble_eq_true rfl), (Nat.le_of_ble_eq_true rfl), (Nat.le_of_ble_eq_true rfl), (Nat.le_of_ble_eq_true rfl)⟩ (Nat.le_of_ble_eq_true rfl) (by first | exact mp_fd_ok mp_k_cX10_isleHere_ok (by decide +kernel) | decide +kernel) (fun v_17 w_18 h_19 => ?_)
  refine h_19.elim fun r_20 q_41 => q_41.elim fun r_21 q_42 => q_42.elim fun r_22 q_43 => q_43.elim fun r_23 q_44 => q_44.elim fun r_24 q_45 => q_45.elim fun r_25 q_46 => q_46.elim fun r_26 q_47 => q_47.elim fun r_27 q_48 => q_48.elim fun e_49 q_50 => q_50.elim fun l_28 q_51 => q_51.elim fun u_29 q_52 => q_52.elim fun l_30 q_53 => q_53.elim fun u_31 q_54 => q_54.elim fun l_32 q_55 => q_55.elim fun u_33 q_56 => q_56.elim fun l_34 q_57 => q_57.elim fun u_35 q_58 => q_58.elim fun x_36 q_59 => q_59.elim fun x_37 q_60 => q_60.elim fun x_38 q_61 => q_61.elim fun x_39 q_62 => q_62.elim fun x_40 e_63 => ?_
  clear h_19 q_41 q_42 q_43 q_44 q_45 q_46 q_47 q_48 q_50 q_51 q_52 q_53 q_54 q_55 q_56 q_57 q_58 q_59 q_60 q_61 q_62
  subst e_49
  subst e_63
  let w3_ : va_W := [(mp_arI E a2 0 25 f1), (mp_ob10 a0 y0 a3 a4 a5 a6 a1 y1 r_20 r_21 r_22 r_23 r_24 r_25 r_26 y9 y10 a7 a2 a8 a9 a10 a11 a12 a13 y11 a14 a15 a16 a17 y12 y13 y14 a18 a19 y15 y16 a20 a21 a22 y17 y18 y19 y20 a23 a24 a25 y21), (mp_arI E a1 1 1600 f0)]
  show mp_W E X 1 12 [(0, .ref a0)] [.int r_27] w3_ 0 0
  exact mp_iret hF hQ rfl rfl (Nat.le_of_ble_eq_true rfl) (Nat.le_of_ble_eq_true rfl) [1, 2, 0] (w' := [(mp_ob10 a0 y0 a3 a4 a5 a6 a1 y1 r_20 r_21 r_22 r_23 r_24 r_25 r_26 y9 y10 a7 a2 a8 a9 a10 a11 a12 a13 y11 a14 a15 a16 a17 y12 y13 y14 a18 a19 y15 y16 a20 a21 a22 y17 y18 y19 y20 a23 a24 a25 y21), (mp_arI E a1 1 1600 f0), (mp_arI E a2 0 25 f1)]) rfl rfl ⟨r_20, r_21, r_22, r_23, r_24, r_25, r_26, r_27, rfl, l_28, u_29, l_30, u_31, l_32, u_33, l_34, u_35, (by first | (first | exact x_36 | omega) | decide), (by first | (first | exact x_37 | omega) | decide), (by have k9 := x_38; (first | exact mp_o1088 k9 x_7 e_16 | omega)), (mp_NK_c x_39 (by (first | exact mp_o355 | omega)) (by (first | exact mp_o1089 x_7 e_16 | omega))), x_40, rfl⟩ (by first | exact mp_fd_ok mp_k_cX10_isleHere_ok (by decide +kernel) | decide +kernel)
set_option maxHeartbeats 4000000 in
set_option maxRecDepth 100000 in
theorem bX10_number_26 (E : mp_E) (a0 a1 a2 a3 a4 a5 a6 a7 a8 a9 a10 a11 a12 a13 a14 a15 a16 a17 a18 a19 a20 a21 a22 a23 a24 a25 : Nat) (f0 : Nat → Int32) (y0 : Int32) (y1 : Int32) (y2 : Int32) (y3 : Int32) (y4 : Int32) (y5 : Int32) (y6 : Int64) (y7 : Int32) (y8 : Int32) (y9 : Int32) (y10 : Int32) (y11 : Int32) (y12 : Int32) (y13 : Int32) (y14 : Int32) (y15 : Int32) (y16 : Int32) (y17 : Int32) (y18 : Int32) (y19 : Int32) (y20 : Int32) (y21 : Int32) (l_y1 : 0 ≤ y1.toInt) (u_y1 : y1.toInt ≤ 1600) (l_y2 : 0 ≤ y2.toInt) (u_y2 : y2.toInt ≤ 1600) (l_y3 : 0 ≤ y3.toInt) (u_y3 : y3.toInt ≤ 4) (l_y4 : 0 ≤ y4.toInt) (u_y4 : y4.toInt ≤ 1600) (l_y11 : 0 ≤ y11.toInt) (u_y11 : y11.toInt ≤ 99) (l_y12 : 0 ≤ y12.toInt) (u_y12 : y12.toInt ≤ 5) (l_y13 : 0 ≤ y13.toInt) (u_y13 : y13.toInt ≤ 12) (q0 : y2.toInt ≤ y1.toInt) (q1 : mp_MT f0 y1.toInt y3.toInt y4.toInt y2.toInt y5.toInt y6.toInt) (q2 : 100 ≤ 1000000) : mp_Ct E yX10_number cX10_number 4 (some FieldType.int) 2 0 0 44 [.ref a0, .int 0, .int 100] [(mp_ob10 a0 y0 a2 a3 a4 a5 a1 y1 y2 y3 y4 y5 y6 y7 y8 y9 y10 a6 a7 a8 a9 a10 a11 a12 a13 y11 a14 a15 a16 a17 y12 y13 y14 a18 a19 y15 y16 a20 a21 a22 y17 y18 y19 y20 a23 a24 a25 y21), (mp_arI E a1 1 1600 f0)] (fun v w' => ∃ r1 : Int32, ∃ r2 : Int32, ∃ r3 : Int32, ∃ r4 : Int32, ∃ r5 : Int64, ∃ r6 : Int32, ∃ r7 : Int32, ∃ r8 : Int32, v = some (.int r8) ∧ 0 ≤ r1.toInt ∧ r1.toInt ≤ 1600 ∧ 0 ≤ r2.toInt ∧ r2.toInt ≤ 4 ∧ 0 ≤ r3.toInt ∧ r3.toInt ≤ 1600 ∧ 0 ≤ r8.toInt ∧ r8.toInt ≤ 100 ∧ (r1.toInt ≤ y1.toInt) ∧ ((5 * (y1.toInt - r1.toInt) + r2.toInt) ≤ (5 * (y1.toInt - y2.toInt) + y3.toInt)) ∧ (r6.toInt ≠ 0 ∨ (0 ≤ r8.toInt ∧ r8.toInt ≤ 100)) ∧ (mp_NK f0 y1.toInt y7.toInt y8.toInt y4.toInt r6.toInt r7.toInt r3.toInt 0 100 r8.toInt) ∧ (mp_MT f0 y1.toInt r2.toInt r3.toInt r1.toInt r4.toInt r5.toInt) ∧ w' = [(mp_ob10 a0 y0 a2 a3 a4 a5 a1 y1 r1 r2 r3 r4 r5 r6 r7 y9 y10 a6 a7 a8 a9 a10 a11 a12 a13 y11 a14 a15 a16 a17 y12 y13 y14 a18 a19 y15 y16 a20 a21 a22 y17 y18 y19 y20 a23 a24 a25 y21), (mp_arI E a1 1 1600 f0)]) := by
  refine mp_met false (by decide) (by decide) (Nat.le_of_ble_eq_true rfl) (fun X hF hQ => ?_)
  have hF : mp_F E X (RX10, cX10_number, 4, (2, 0, 0, 44), (some FieldType.int), false) := hF
  let w1_ : va_W := [(mp_ob10 a0 y0 a2 a3 a4 a5 a1 y1 y2 y3 y4 y5 y6 y7 y8 y9 y10 a6 a7 a8 a9 a10 a11 a12 a13 y11 a14 a15 a16 a17 y12 y13 y14 a18 a19 y15 y16 a20 a21 a22 y17 y18 y19 y20 a23 a24 a25 y21), (mp_arI E a1 1 1600 f0)]
  show mp_W E X 4 0 [(0, .ref a0), (1, .int 0), (2, .int 100)] [] w1_ 0 0
  refine mp_run mp_k_cX10_number_ok hF mp_tabX10_ok [mp_i (.aload_n 0), mp_h (.getfield 144) [12, 0], mp_h (.ifCond .eq 5) [9]] (by decide +kernel) ?_
  refine And.intro rfl (And.intro rfl ?_)
  refine And.intro (fun c_1 => ?_) (fun c_1 => ?_)
  · have c_1 : y7.toInt = 0 := (congrArg Int32.toInt c_1)
    show mp_W E X 4 9 [(0, .ref a0), (1, .int 0), (2, .int 100)] [] w1_ 0 0
    refine mp_run mp_k_cX10_number_ok hF mp_tabX10_ok [mp_i (.aload_n 0), mp_h (.getfield 133) [8, 0], mp_c (.iconst 2) 2, mp_h (.if_icmp .eq 10) [24]] (by decide +kernel) ?_
    refine And.intro rfl (And.intro rfl ?_)
    refine And.intro (fun c_2 => ?_) (fun c_2 => ?_)
    · have c_2 : y3.toInt = 2 := (congrArg Int32.toInt c_2)
      show mp_W E X 4 24 [(0, .ref a0), (1, .int 0), (2, .int 100)] [] w1_ 0 0
      refine mp_run mp_k_cX10_number_ok hF mp_tabX10_ok [mp_i (.aload_n 0), mp_h (.getfield 126) [10, 0], mp_i .i2l, mp_i (.iload_n 1), mp_i .i2l, mp_i (.iload_n 2), mp_i .i2l] (by decide +kernel) ?_
      refine And.intro rfl (And.intro rfl ?_)
      intro z_3 h_4
      have e_5 : z_3.toInt = y5.toInt := mp_i2l h_4
      intro z_6 h_7
      obtain rfl : z_6 = 0 := h_7.trans (by decide)
      intro z_8 h_9
      obtain rfl : z_8 = 100 := h_9.trans (by decide)
      show mp_W E X 4 33 [(0, .ref a0), (1, .int 0), (2, .int 100)] [.long 100, .long 0, .long z_3] w1_ 0 0
      refine mp_callS hF (As := [.long z_3, .long 0, .long 100]) (rest := []) (wr := w1_) (bX10_in_0 E z_3 0 100) mp_lkX10_97 [] [0, 1] rfl rfl rfl rfl rfl ⟨(Nat.le_of_ble_eq_true rfl), (Nat.le_of_ble_eq_true rfl), (Nat.le_of_ble_eq_true rfl), (Nat.le_of_ble_eq_true rfl)⟩ (Nat.le_of_ble_eq_true rfl) (by first | exact mp_fd_ok mp_k_cX10_number_ok (by decide +kernel) | decide +kernel) (fun v_10 w_11 h_12 => ?_)
      rcases h_12 with ⟨rfl, x_13, rfl⟩ | ⟨rfl, c_14, c_15, rfl⟩
      · skip
        have i_16 : (0 : Int64).toInt = 0 := by decide
        have i_17 : (100 : Int64).toInt = 100 := by decide
        show mp_W E X 4 36 [(0, .ref a0), (1, .int 0), (2, .int 100)] [.int 0] w1_ 0 0
        refine mp_run mp_k_cX10_number_ok hF mp_tabX10_ok [mp_h (.ifCond .ne 10) [46]] (by decide +kernel) ?_
        refine And.intro (fun c_18 => absurd c_18 (by decide)) (fun _ => ?_)
        show mp_W E X 4 39 [(0, .ref a0), (1, .int 0), (2, .int 100)] [] w1_ 0 0
        refine mp_run mp_k_cX10_number_ok hF mp_tabX10_ok [mp_i (.aload_n 0), mp_c (.iconst 2) 2] (by decide +kernel) ?_
        show mp_W E X 4 41 [(0, .ref a0), (1, .int 0), (2, .int 100)] [.int 2, .ref a0] w1_ 0 0
        refine mp_callV hF (As := [.int 2]) (rest := []) (wr := [(mp_arI E a1 1 1600 f0)]) (bX10_fails_23 E a0 a2 a3 a4 a5 a1 a6 a7 a8 a9 a10 a11 a12 a13 a14 a15 a16 a17 a18 a19 a20 a21 a22 a23 a24 a25 y0 y1 y2 y3 y4 y5 y6 y7 y8 y9 y10 y11 y12 y13 y14 y15 y16 y17 y18 y19 y20 y21 l_y1 u_y1 l_y2 u_y2 l_y3 u_y3 l_y4 u_y4 l_y11 u_y11 l_y12 u_y12 l_y13 u_y13) mp_lkX10_160 0 rfl [0] [1] rfl rfl rfl rfl rfl ⟨(Nat.le_of_ble_eq_true rfl), (Nat.le_of_ble_eq_true rfl), (Nat.le_of_ble_eq_true rfl), (Nat.le_of_ble_eq_true rfl)⟩ (Nat.le_of_ble_eq_true rfl) (by first | exact mp_fd_ok mp_k_cX10_number_ok (by decide +kernel) | decide +kernel) (fun v_19 w_20 h_21 => ?_)
        refine h_21.elim fun r_22 q_26 => q_26.elim fun r_23 q_27 => q_27.elim fun e_28 q_29 => q_29.elim fun x_24 q_30 => q_30.elim fun x_25 e_31 => ?_
        clear h_21 q_26 q_27 q_29 q_30
        subst e_28
        subst e_31
        let w2_ : va_W := [(mp_arI E a1 1 1600 f0), (mp_ob10 a0 y0 a2 a3 a4 a5 a1 y1 y2 y3 y4 y5 y6 r_22 r_23 y9 y10 a6 a7 a8 a9 a10 a11 a12 a13 y11 a14 a15 a16 a17 y12 y13 y14 a18 a19 y15 y16 a20 a21 a22 y17 y18 y19 y20 a23 a24 a25 y21)]
        show mp_W E X 4 44 [(0, .ref a0), (1, .int 0), (2, .int 100)] [] w2_ 0 0
        refine mp_run mp_k_cX10_number_ok hF mp_tabX10_ok [mp_i (.iload_n 1)] (by decide +kernel) ?_
        show mp_W E X 4 45 [(0, .ref a0), (1, .int 0), (2, .int 100)] [.int 0] w2_ 0 0
        exact mp_iret hF hQ rfl rfl (Nat.le_of_ble_eq_true rfl) (Nat.le_of_ble_eq_true rfl) [1, 0] (w' := [(mp_ob10 a0 y0 a2 a3 a4 a5 a1 y1 y2 y3 y4 y5 y6 r_22 r_23 y9 y10 a6 a7 a8 a9 a10 a11 a12 a13 y11 a14 a15 a16 a17 y12 y13 y14 a18 a19 y15 y16 a20 a21 a22 y17 y18 y19 y20 a23 a24 a25 y21), (mp_arI E a1 1 1600 f0)]) rfl rfl ⟨y2, y3, y4, y5, y6, r_22, r_23, 0, rfl, l_y2, u_y2, l_y3, u_y3, l_y4, u_y4, (by decide), (by decide), (by first | omega | decide), (by first | omega | decide), (by first | omega | decide), (mp_NK_l3 q1 (by omega) (by omega) (by omega) (by first | omega | exact q2) (by first | omega | decide) (by omega)), q1, rfl⟩ (by first | exact mp_fd_ok mp_k_cX10_number_ok (by decide +kernel) | decide +kernel)
      · skip
        have c_14 : 0 ≤ z_3.toInt := c_14
        have c_15 : z_3.toInt ≤ 100 := c_15
        have i_32 : (0 : Int64).toInt = 0 := by decide
        have i_33 : (100 : Int64).toInt = 100 := by decide
        show mp_W E X 4 36 [(0, .ref a0), (1, .int 0), (2, .int 100)] [.int 1] w1_ 0 0
        refine mp_run mp_k_cX10_number_ok hF mp_tabX10_ok [mp_h (.ifCond .ne 10) [46]] (by decide +kernel) ?_
        refine And.intro (fun _ => ?_) (fun c_34 => absurd c_34 (by decide))
        show mp_W E X 4 46 [(0, .ref a0), (1, .int 0), (2, .int 100)] [] w1_ 0 0
        refine mp_run mp_k_cX10_number_ok hF mp_tabX10_ok [mp_i (.aload_n 0), mp_h (.getfield 126) [10, 0], mp_i (.istore_n 3), mp_i (.aload_n 0)] (by decide +kernel) ?_
        refine And.intro rfl (And.intro rfl ?_)
        show mp_W E X 4 52 [(3, .int y5), (0, .ref a0), (1, .int 0), (2, .int 100)] [.ref a0] w1_ 0 0
        refine mp_callV hF (As := []) (rest := []) (wr := []) (bX10_next_12 E a0 a1 a2 a3 a4 a5 a6 a7 a8 a9 a10 a11 a12 a13 a14 a15 a16 a17 a18 a19 a20 a21 a22 a23 a24 a25 f0 y0 y1 y2 y3 y4 y5 y6 y7 y8 y9 y10 y11 y12 y13 y14 y15 y16 y17 y18 y19 y20 y21 l_y1 u_y1 l_y2 u_y2 l_y3 u_y3 l_y4 u_y4 l_y11 u_y11 l_y12 u_y12 l_y13 u_y13 (by first | omega | (show y2.toInt ≤ y1.toInt; omega))) mp_lkX10_154 0 rfl [0, 1] [] rfl rfl rfl rfl rfl ⟨(Nat.le_of_ble_eq_true rfl), (Nat.le_of_ble_eq_true rfl), (Nat.le_of_ble_eq_true rfl), (Nat.le_of_ble_eq_true rfl)⟩ (Nat.le_of_ble_eq_true rfl) (by first | exact mp_fd_ok mp_k_cX10_number_ok (by decide +kernel) | decide +kernel) (fun v_35 w_36 h_37 => ?_)
        refine h_37.elim fun r_38 q_57 => q_57.elim fun r_39 q_58 => q_58.elim fun r_40 q_59 => q_59.elim fun r_41 q_60 => q_60.elim fun r_42 q_61 => q_61.elim fun e_62 q_63 => q_63.elim fun l_43 q_64 => q_64.elim fun u_44 q_65 => q_65.elim fun l_45 q_66 => q_66.elim fun u_46 q_67 => q_67.elim fun l_47 q_68 => q_68.elim fun u_48 q_69 => q_69.elim fun l_49 q_70 => q_70.elim fun u_50 q_71 => q_71.elim fun l_51 q_72 => q_72.elim fun u_52 q_73 => q_73.elim fun x_53 q_74 => q_74.elim fun x_54 q_75 => q_75.elim fun x_55 q_76 => q_76.elim fun x_56 e_77 => ?_
        clear h_37 q_57 q_58 q_59 q_60 q_61 q_63 q_64 q_65 q_66 q_67 q_68 q_69 q_70 q_71 q_72 q_73 q_74 q_75 q_76
        subst e_62
        subst e_77
        let w3_ : va_W := [(mp_ob10 a0 y0 a2 a3 a4 a5 a1 y1 r_38 r_39 r_40 r_41 r_42 y7 y8 y9 y10 a6 a7 a8 a9 a10 a11 a12 a13 y11 a14 a15 a16 a17 y12 y13 y14 a18 a19 y15 y16 a20 a21 a22 y17 y18 y19 y20 a23 a24 a25 y21), (mp_arI E a1 1 1600 f0)]
        show mp_W E X 4 55 [(3, .int y5), (0, .ref a0), (1, .int 0), (2, .int 100)] [] w3_ 0 0
        refine mp_run mp_k_cX10_number_ok hF mp_tabX10_ok [mp_i (.iload_n 3)] (by decide +kernel) ?_
        show mp_W E X 4 56 [(3, .int y5), (0, .ref a0), (1, .int 0), (2, .int 100)] [.int y5] w3_ 0 0
        exact mp_iret hF hQ rfl rfl (Nat.le_of_ble_eq_true rfl) (Nat.le_of_ble_eq_true rfl) [0, 1] (w' := w3_) rfl rfl ⟨r_38, r_39, r_40, r_41, r_42, y7, y8, y5, rfl, l_43, u_44, l_45, u_46, l_47, u_48, (by omega), (by omega), (by first | omega | decide), (by first | omega | decide), (by first | omega | decide), (mp_NK_l4 q1 (by omega) (by omega) (by omega) (by first | omega | exact q2) (by first | rfl | omega) (by first | omega | decide) (show r_40.toInt = ((mp_NX f0 (y1.toInt).toNat (y4.toInt).toNat : Nat) : Int) from (by have k9 := x_55; unfold mp_NX; rw [← Int.toNat_natCast (mp_TE _ _ _), ← q1.2.2.1]; exact k9))), x_56, rfl⟩ (by first | exact mp_fd_ok mp_k_cX10_number_ok (by decide +kernel) | decide +kernel)
    · have c_2 : y3.toInt ≠ 2 := c_2
      show mp_W E X 4 17 [(0, .ref a0), (1, .int 0), (2, .int 100)] [] w1_ 0 0
      refine mp_run mp_k_cX10_number_ok hF mp_tabX10_ok [mp_i (.aload_n 0), mp_c (.iconst 1) 1] (by decide +kernel) ?_
      show mp_W E X 4 19 [(0, .ref a0), (1, .int 0), (2, .int 100)] [.int 1, .ref a0] w1_ 0 0
      refine mp_callV hF (As := [.int 1]) (rest := []) (wr := [(mp_arI E a1 1 1600 f0)]) (bX10_fails_20 E a0 a2 a3 a4 a5 a1 a6 a7 a8 a9 a10 a11 a12 a13 a14 a15 a16 a17 a18 a19 a20 a21 a22 a23 a24 a25 y0 y1 y2 y3 y4 y5 y6 y7 y8 y9 y10 y11 y12 y13 y14 y15 y16 y17 y18 y19 y20 y21 l_y1 u_y1 l_y2 u_y2 l_y3 u_y3 l_y4 u_y4 l_y11 u_y11 l_y12 u_y12 l_y13 u_y13) mp_lkX10_160 0 rfl [0] [1] rfl rfl rfl rfl rfl ⟨(Nat.le_of_ble_eq_true rfl), (Nat.le_of_ble_eq_true rfl), (Nat.le_of_ble_eq_true rfl), (Nat.le_of_ble_eq_true rfl)⟩ (Nat.le_of_ble_eq_true rfl) (by first | exact mp_fd_ok mp_k_cX10_number_ok (by decide +kernel) | decide +kernel) (fun v_78 w_79 h_80 => ?_)
      refine h_80.elim fun r_81 q_85 => q_85.elim fun r_82 q_86 => q_86.elim fun e_87 q_88 => q_88.elim fun x_83 q_89 => q_89.elim fun x_84 e_90 => ?_
      clear h_80 q_85 q_86 q_88 q_89
      subst e_87
      subst e_90
      let w4_ : va_W := [(mp_arI E a1 1 1600 f0), (mp_ob10 a0 y0 a2 a3 a4 a5 a1 y1 y2 y3 y4 y5 y6 r_81 r_82 y9 y10 a6 a7 a8 a9 a10 a11 a12 a13 y11 a14 a15 a16 a17 y12 y13 y14 a18 a19 y15 y16 a20 a21 a22 y17 y18 y19 y20 a23 a24 a25 y21)]
      show mp_W E X 4 22 [(0, .ref a0), (1, .int 0), (2, .int 100)] [] w4_ 0 0
      refine mp_run mp_k_cX10_number_ok hF mp_tabX10_ok [mp_i (.iload_n 1)] (by decide +kernel) ?_
      show mp_W E X 4 23 [(0, .ref a0), (1, .int 0), (2, .int 100)] [.int 0] w4_ 0 0
      exact mp_iret hF hQ rfl rfl (Nat.le_of_ble_eq_true rfl) (Nat.le_of_ble_eq_true rfl) [1, 0] (w' := [(mp_ob10 a0 y0 a2 a3 a4 a5 a1 y1 y2 y3 y4 y5 y6 r_81 r_82 y9 y10 a6 a7 a8 a9 a10 a11 a12 a13 y11 a14 a15 a16 a17 y12 y13 y14 a18 a19 y15 y16 a20 a21 a22 y17 y18 y19 y20 a23 a24 a25 y21), (mp_arI E a1 1 1600 f0)]) rfl rfl ⟨y2, y3, y4, y5, y6, r_81, r_82, 0, rfl, l_y2, u_y2, l_y3, u_y3, l_y4, u_y4, (by decide), (by decide), (by first | omega | decide), (by first | omega | decide), (by first | omega | decide), (mp_NK_l2 q1 (by omega) (by omega) (by first | omega | decide) (by omega)), q1, rfl⟩ (by first | exact mp_fd_ok mp_k_cX10_number_ok (by decide +kernel) | decide +kernel)
  · have c_1 : y7.toInt ≠ 0 := c_1
    show mp_W E X 4 7 [(0, .ref a0), (1, .int 0), (2, .int 100)] [] w1_ 0 0
    refine mp_run mp_k_cX10_number_ok hF mp_tabX10_ok [mp_i (.iload_n 1)] (by decide +kernel) ?_
    show mp_W E X 4 8 [(0, .ref a0), (1, .int 0), (2, .int 100)] [.int 0] w1_ 0 0
    exact mp_iret hF hQ rfl rfl (Nat.le_of_ble_eq_true rfl) (Nat.le_of_ble_eq_true rfl) [0, 1] (w' := w1_) rfl rfl ⟨y2, y3, y4, y5, y6, y7, y8, 0, rfl, l_y2, u_y2, l_y3, u_y3, l_y4, u_y4, (by decide), (by decide), (by first | omega | decide), (by first | omega | decide), (by first | omega | decide), (mp_NK_l1 (by omega) (by first | rfl | omega) (by first | rfl | omega)), q1, rfl⟩ (by first | exact mp_fd_ok mp_k_cX10_number_ok (by decide +kernel) | decide +kernel)
