set_option maxHeartbeats 4000000 in
set_option maxRecDepth 100000 in
theorem bX10_lays_62 (E : mp_E) (a0 a1 a2 a3 a4 a5 a6 a7 a8 a9 a10 a11 a12 a13 a14 a15 a16 a17 a18 a19 a20 a21 a22 a23 a24 a25 : Nat) (f0 : Nat → Int32) (f1 : Nat → Int32) (f2 : Nat → Int32) (f3 : Nat → Int32) (f4 : Nat → Int32) (f5 : Nat → Int32) (f6 : Nat → Int32) (f7 : Nat → Int32) (y0 : Int32) (y1 : Int32) (y2 : Int32) (y3 : Int32) (y4 : Int32) (y5 : Int32) (y6 : Int64) (y7 : Int32) (y8 : Int32) (y9 : Int32) (y10 : Int32) (y11 : Int32) (y12 : Int32) (y13 : Int32) (y14 : Int32) (y15 : Int32) (y16 : Int32) (y17 : Int32) (y18 : Int32) (y19 : Int32) (y20 : Int32) (y21 : Int32) (p0 : mp_res f0 25 5 0 0 6) (p1 : mp_res f0 25 5 1 0 99) (p2 : mp_res f0 25 5 2 0 6) (p3 : mp_res f0 25 5 3 0 10) (p4 : mp_res f0 25 5 4 0 60) (p5 : mp_all f1 180 0 20) (p6 : mp_res f2 90 3 0 0 5) (p7 : mp_res f2 90 3 1 (-1) 99) (p8 : mp_actm f3) (p9 : mp_all f4 6 0 5) (l_y1 : 0 ≤ y1.toInt) (u_y1 : y1.toInt ≤ 1600) (l_y2 : 0 ≤ y2.toInt) (u_y2 : y2.toInt ≤ 1600) (l_y3 : 0 ≤ y3.toInt) (u_y3 : y3.toInt ≤ 4) (l_y4 : 0 ≤ y4.toInt) (u_y4 : y4.toInt ≤ 1600) (l_y11 : 0 ≤ y11.toInt) (u_y11 : y11.toInt ≤ 99) (l_y12 : 0 ≤ y12.toInt) (u_y12 : y12.toInt ≤ 5) (l_y13 : 0 ≤ y13.toInt) (u_y13 : y13.toInt ≤ 12) (q0 : (f0 1).toInt + mp_k200 f3 (f0 4).toInt ≤ 99) : mp_Ct E yX10_lays cX10_lays 4 none 0 0 0 0 [.ref a0] [(mp_ob10 a0 y0 a9 a10 a11 a12 a13 y1 y2 y3 y4 y5 y6 y7 y8 y9 y10 a14 a1 a2 a15 a3 a16 a4 a17 y11 a5 a6 a7 a8 y12 y13 y14 a18 a19 y15 y16 a20 a21 a22 y17 y18 y19 y20 a23 a24 a25 y21), (mp_arI E a1 0 25 f0), (mp_arI E a2 0 180 f1), (mp_arI E a3 0 90 f2), (mp_arI E a4 0 300 f3), (mp_arI E a5 0 6 f4), (mp_arI E a6 0 6 f5), (mp_arI E a7 0 6 f6), (mp_arI E a8 3 1500 f7)] (fun v w' => ∃ r1 : Int32, ∃ h2 : Nat → Int32, ∃ h3 : Nat → Int32, ∃ h4 : Nat → Int32, ∃ h5 : Nat → Int32, v = none ∧ 0 ≤ r1.toInt ∧ r1.toInt ≤ 99 ∧ mp_all h2 6 0 5 ∧ (r1.toInt = (f0 1).toInt + mp_k200 f3 (f0 4).toInt) ∧ (mp_CS h2 h3 h4 f1 (fun p => f2 (3 * p)) f3 (f0 1).toInt (f0 2).toInt ((f0 4).toInt).toNat) ∧ w' = [(mp_ob10 a0 y0 a9 a10 a11 a12 a13 y1 y2 y3 y4 y5 y6 y7 y8 y9 y10 a14 a1 a2 a15 a3 a16 a4 a17 r1 a5 a6 a7 a8 y12 y13 y14 a18 a19 y15 y16 a20 a21 a22 y17 y18 y19 y20 a23 a24 a25 y21), (mp_arI E a1 0 25 f0), (mp_arI E a2 0 180 f1), (mp_arI E a3 0 90 f2), (mp_arI E a4 0 300 f3), (mp_arI E a5 0 6 h2), (mp_arI E a6 0 6 h3), (mp_arI E a7 0 6 h4), (mp_arI E a8 3 1500 h5)]) := by
  refine mp_met false (by decide) (by decide) (Nat.le_of_ble_eq_true rfl) (fun X hF hQ => ?_)
  have hF : mp_F E X (RX10, cX10_lays, 4, (0, 0, 0, 0), none, false) := hF
  let w1_ : va_W := [(mp_ob10 a0 y0 a9 a10 a11 a12 a13 y1 y2 y3 y4 y5 y6 y7 y8 y9 y10 a14 a1 a2 a15 a3 a16 a4 a17 y11 a5 a6 a7 a8 y12 y13 y14 a18 a19 y15 y16 a20 a21 a22 y17 y18 y19 y20 a23 a24 a25 y21), (mp_arI E a1 0 25 f0), (mp_arI E a2 0 180 f1), (mp_arI E a3 0 90 f2), (mp_arI E a4 0 300 f3), (mp_arI E a5 0 6 f4), (mp_arI E a6 0 6 f5), (mp_arI E a7 0 6 f6), (mp_arI E a8 3 1500 f7)]
  show mp_W E X 4 0 [(0, .ref a0)] [] w1_ 0 0
  refine mp_run mp_k_cX10_lays_ok hF mp_tabX10_ok [mp_i (.aload_n 0), mp_i (.aload_n 0), mp_h (.getfield 34) [17, 0], mp_c (.iconst 1) 1, mp_h .iaload [1], mp_h (.putfield 276) [24, 0]] (by decide +kernel) ?_
  refine And.intro rfl (And.intro rfl ?_)
  refine And.intro rfl (And.intro rfl (And.intro (vp_in_iff.mpr (by decide)) ?_))
  intro z_1 h_2
  have e_3 : 0 ≤ z_1.toInt ∧ z_1.toInt ≤ 99 := mp_res_ld h_2 p1 (by decide) (by decide) (by decide)
  have e_4 : z_1.toInt = (f0 1).toInt := congrArg Int32.toInt (mp_at h_2 (by decide) rfl)
  refine And.intro rfl (And.intro rfl (And.intro rfl (And.intro rfl (And.intro (Nat.le_of_ble_eq_true rfl) ?_))))
  let w2_ : va_W := [(mp_ob10 a0 y0 a9 a10 a11 a12 a13 y1 y2 y3 y4 y5 y6 y7 y8 y9 y10 a14 a1 a2 a15 a3 a16 a4 a17 z_1 a5 a6 a7 a8 y12 y13 y14 a18 a19 y15 y16 a20 a21 a22 y17 y18 y19 y20 a23 a24 a25 y21), (mp_arI E a1 0 25 f0), (mp_arI E a2 0 180 f1), (mp_arI E a3 0 90 f2), (mp_arI E a4 0 300 f3), (mp_arI E a5 0 6 f4), (mp_arI E a6 0 6 f5), (mp_arI E a7 0 6 f6), (mp_arI E a8 3 1500 f7)]
  show mp_W E X 4 10 [(0, .ref a0)] [] w2_ 0 0
  refine mp_run mp_k_cX10_lays_ok hF mp_tabX10_ok [mp_c (.iconst 0) 0, mp_i (.istore_n 1)] (by decide +kernel) ?_
  show mp_W E X 4 12 [(1, .int 0), (0, .ref a0)] [] w2_ 0 0
  have lp_15 : ∀ (d_16 : Nat) (i_5 : Int32) (g_6 : Nat → Int32) (g_7 : Nat → Int32) (g_8 : Nat → Int32), 0 ≤ i_5.toInt → i_5.toInt ≤ 6 → mp_all g_6 6 0 5 → (z_1.toInt = (f0 1).toInt) → (mp_init g_6 g_7 g_8 (fun p => f2 (3 * p)) i_5.toInt) → (0 ≤ i_5.toInt) → (f0 2).toInt - i_5.toInt ≤ (d_16 : Int) → mp_W E X 4 12 [(1, .int i_5), (0, .ref a0)] [] [(mp_ob10 a0 y0 a9 a10 a11 a12 a13 y1 y2 y3 y4 y5 y6 y7 y8 y9 y10 a14 a1 a2 a15 a3 a16 a4 a17 z_1 a5 a6 a7 a8 y12 y13 y14 a18 a19 y15 y16 a20 a21 a22 y17 y18 y19 y20 a23 a24 a25 y21), (mp_arI E a1 0 25 f0), (mp_arI E a2 0 180 f1), (mp_arI E a3 0 90 f2), (mp_arI E a4 0 300 f3), (mp_arI E a5 0 6 g_6), (mp_arI E a6 0 6 g_7), (mp_arI E a7 0 6 g_8), (mp_arI E a8 3 1500 f7)] 0 0 := by
    intro d_16
    induction d_16 using Nat.strongRecOn with
    | ind d_16 ih_17 =>
      intro i_5 g_6 g_7 g_8 l_9 u_10 p_11 x_12 x_13 x_14 hm_18
      refine mp_run mp_k_cX10_lays_ok hF mp_tabX10_ok [mp_i (.iload_n 1), mp_i (.aload_n 0), mp_h (.getfield 34) [17, 0], mp_c (.iconst 2) 2, mp_h .iaload [1], mp_h (.if_icmp .ge 37) [56]] (by decide +kernel) ?_
      refine And.intro rfl (And.intro rfl ?_)
      refine And.intro rfl (And.intro rfl (And.intro (vp_in_iff.mpr (by decide)) ?_))
      intro z_19 h_20
      have e_21 : 0 ≤ z_19.toInt ∧ z_19.toInt ≤ 6 := mp_res_ld h_20 p2 (by decide) (by decide) (by decide)
      have e_22 : z_19.toInt = (f0 2).toInt := congrArg Int32.toInt (mp_at h_20 (by decide) rfl)
      refine And.intro (fun c_23 => ?_) (fun c_23 => ?_)
      · have c_23 : z_19.toInt ≤ i_5.toInt := c_23
        let w3_ : va_W := [(mp_ob10 a0 y0 a9 a10 a11 a12 a13 y1 y2 y3 y4 y5 y6 y7 y8 y9 y10 a14 a1 a2 a15 a3 a16 a4 a17 z_1 a5 a6 a7 a8 y12 y13 y14 a18 a19 y15 y16 a20 a21 a22 y17 y18 y19 y20 a23 a24 a25 y21), (mp_arI E a1 0 25 f0), (mp_arI E a2 0 180 f1), (mp_arI E a3 0 90 f2), (mp_arI E a4 0 300 f3), (mp_arI E a5 0 6 g_6), (mp_arI E a6 0 6 g_7), (mp_arI E a7 0 6 g_8), (mp_arI E a8 3 1500 f7)]
        show mp_W E X 4 56 [(1, .int i_5), (0, .ref a0)] [] w3_ 0 0
        refine mp_run mp_k_cX10_lays_ok hF mp_tabX10_ok [mp_c (.iconst 0) 0, mp_i (.istore_n 1)] (by decide +kernel) ?_
        show mp_W E X 4 58 [(1, .int 0), (0, .ref a0)] [] w3_ 0 0
        have lp_29 : ∀ (d_30 : Nat) (i_24 : Int32) (g_25 : Nat → Int32), 0 ≤ i_24.toInt → i_24.toInt ≤ 1600 → (z_1.toInt = (f0 1).toInt) → -(i_24.toInt) + 1500 ≤ (d_30 : Int) → mp_W E X 4 58 [(1, .int i_24), (0, .ref a0)] [] [(mp_ob10 a0 y0 a9 a10 a11 a12 a13 y1 y2 y3 y4 y5 y6 y7 y8 y9 y10 a14 a1 a2 a15 a3 a16 a4 a17 z_1 a5 a6 a7 a8 y12 y13 y14 a18 a19 y15 y16 a20 a21 a22 y17 y18 y19 y20 a23 a24 a25 y21), (mp_arI E a1 0 25 f0), (mp_arI E a2 0 180 f1), (mp_arI E a3 0 90 f2), (mp_arI E a4 0 300 f3), (mp_arI E a5 0 6 g_6), (mp_arI E a6 0 6 g_7), (mp_arI E a7 0 6 g_8), (mp_arI E a8 3 1500 g_25)] 0 0 := by
          intro d_30
          induction d_30 using Nat.strongRecOn with
          | ind d_30 ih_31 =>
            intro i_24 g_25 l_26 u_27 x_28 hm_32
            refine mp_run mp_k_cX10_lays_ok hF mp_tabX10_ok [mp_i (.iload_n 1), mp_c (.sipush 1500) 1500, mp_h (.if_icmp .ge 16) [78]] (by decide +kernel) ?_
            refine And.intro (fun c_33 => ?_) (fun c_33 => ?_)
            · have c_33 : 1500 ≤ i_24.toInt := c_33
              let w4_ : va_W := [(mp_ob10 a0 y0 a9 a10 a11 a12 a13 y1 y2 y3 y4 y5 y6 y7 y8 y9 y10 a14 a1 a2 a15 a3 a16 a4 a17 z_1 a5 a6 a7 a8 y12 y13 y14 a18 a19 y15 y16 a20 a21 a22 y17 y18 y19 y20 a23 a24 a25 y21), (mp_arI E a1 0 25 f0), (mp_arI E a2 0 180 f1), (mp_arI E a3 0 90 f2), (mp_arI E a4 0 300 f3), (mp_arI E a5 0 6 g_6), (mp_arI E a6 0 6 g_7), (mp_arI E a7 0 6 g_8), (mp_arI E a8 3 1500 g_25)]
              show mp_W E X 4 78 [(1, .int i_24), (0, .ref a0)] [] w4_ 0 0
              refine mp_run mp_k_cX10_lays_ok hF mp_tabX10_ok [mp_c (.iconst 0) 0, mp_i (.istore_n 1)] (by decide +kernel) ?_
              show mp_W E X 4 80 [(1, .int 0), (0, .ref a0)] [] w4_ 0 0
              have lp_49 : ∀ (d_50 : Nat) (i_34 : Int32) (g_35 : Nat → Int32) (g_36 : Nat → Int32) (g_37 : Nat → Int32) (g_38 : Nat → Int32) (i_39 : Int32), 0 ≤ i_34.toInt → i_34.toInt ≤ 60 → mp_all g_35 6 0 5 → 0 ≤ i_39.toInt → i_39.toInt ≤ 99 → (i_39.toInt = (f0 1).toInt + mp_k200 f3 i_34.toInt) → (i_34.toInt ≤ (f0 4).toInt) → (mp_CS g_35 g_36 g_37 f1 (fun p => f2 (3 * p)) f3 (f0 1).toInt (f0 2).toInt i_34.toInt.toNat) → (0 ≤ i_34.toInt) → (f0 4).toInt - i_34.toInt ≤ (d_50 : Int) → mp_W E X 4 80 [(1, .int i_34), (0, .ref a0)] [] [(mp_ob10 a0 y0 a9 a10 a11 a12 a13 y1 y2 y3 y4 y5 y6 y7 y8 y9 y10 a14 a1 a2 a15 a3 a16 a4 a17 i_39 a5 a6 a7 a8 y12 y13 y14 a18 a19 y15 y16 a20 a21 a22 y17 y18 y19 y20 a23 a24 a25 y21), (mp_arI E a1 0 25 f0), (mp_arI E a2 0 180 f1), (mp_arI E a3 0 90 f2), (mp_arI E a4 0 300 f3), (mp_arI E a5 0 6 g_35), (mp_arI E a6 0 6 g_36), (mp_arI E a7 0 6 g_37), (mp_arI E a8 3 1500 g_38)] 0 0 := by
                intro d_50
                induction d_50 using Nat.strongRecOn with
                | ind d_50 ih_51 =>
                  intro i_34 g_35 g_36 g_37 g_38 i_39 l_40 u_41 p_42 l_43 u_44 x_45 x_46 x_47 x_48 hm_52
                  refine mp_run mp_k_cX10_lays_ok hF mp_tabX10_ok [mp_i (.iload_n 1), mp_i (.aload_n 0), mp_h (.getfield 34) [17, 0], mp_c (.iconst 4) 4, mp_h .iaload [1], mp_h (.if_icmp .ge 117) [204]] (by decide +kernel) ?_
                  refine And.intro rfl (And.intro rfl ?_)
                  refine And.intro rfl (And.intro rfl (And.intro (vp_in_iff.mpr (by decide)) ?_))
                  intro z_53 h_54
                  have e_55 : 0 ≤ z_53.toInt ∧ z_53.toInt ≤ 60 := mp_res_ld h_54 p4 (by decide) (by decide) (by decide)
                  have e_56 : z_53.toInt = (f0 4).toInt := congrArg Int32.toInt (mp_at h_54 (by decide) rfl)
                  refine And.intro (fun c_57 => ?_) (fun c_57 => ?_)
                  · have c_57 : z_53.toInt ≤ i_34.toInt := c_57
                    let w5_ : va_W := [(mp_ob10 a0 y0 a9 a10 a11 a12 a13 y1 y2 y3 y4 y5 y6 y7 y8 y9 y10 a14 a1 a2 a15 a3 a16 a4 a17 i_39 a5 a6 a7 a8 y12 y13 y14 a18 a19 y15 y16 a20 a21 a22 y17 y18 y19 y20 a23 a24 a25 y21), (mp_arI E a1 0 25 f0), (mp_arI E a2 0 180 f1), (mp_arI E a3 0 90 f2), (mp_arI E a4 0 300 f3), (mp_arI E a5 0 6 g_35), (mp_arI E a6 0 6 g_36), (mp_arI E a7 0 6 g_37), (mp_arI E a8 3 1500 g_38)]
                    show mp_W E X 4 204 [(1, .int i_34), (0, .ref a0)] [] w5_ 0 0
                    exact mp_vret hF hQ rfl (Nat.le_of_ble_eq_true rfl) (Nat.le_of_ble_eq_true rfl) [0, 1, 2, 3, 4, 5, 6, 7, 8] (w' := w5_) rfl rfl ⟨i_39, g_35, g_36, g_37, g_38, rfl, l_43, u_44, p_42, (by have k9 := mp_k200_eq (f := f3) (a := i_34.toInt) (b := (f0 4).toInt) (by (first | exact mp_o1436 x_46 e_56 c_57 | omega)); (first | exact mp_o335 k9 x_45 | omega)), (mp_CS_to x_47 (by (first | exact mp_o1437 x_46 e_56 c_57 | omega))), rfl⟩ (by first | exact mp_fd_ok mp_k_cX10_lays_ok (by decide +kernel) | decide +kernel)
                  · have c_57 : i_34.toInt < z_53.toInt := c_57
                    let w6_ : va_W := [(mp_ob10 a0 y0 a9 a10 a11 a12 a13 y1 y2 y3 y4 y5 y6 y7 y8 y9 y10 a14 a1 a2 a15 a3 a16 a4 a17 i_39 a5 a6 a7 a8 y12 y13 y14 a18 a19 y15 y16 a20 a21 a22 y17 y18 y19 y20 a23 a24 a25 y21), (mp_arI E a1 0 25 f0), (mp_arI E a2 0 180 f1), (mp_arI E a3 0 90 f2), (mp_arI E a4 0 300 f3), (mp_arI E a5 0 6 g_35), (mp_arI E a6 0 6 g_36), (mp_arI E a7 0 6 g_37), (mp_arI E a8 3 1500 g_38)]
                    show mp_W E X 4 90 [(1, .int i_34), (0, .ref a0)] [] w6_ 0 0
                    refine mp_run mp_k_cX10_lays_ok hF mp_tabX10_ok [mp_i (.aload_n 0), mp_h (.getfield 50) [22, 0], mp_i (.iload_n 1), mp_h .iaload [4], mp_i (.istore_n 2), mp_i (.iload_n 2), mp_c (.sipush 200) 200, mp_h (.if_icmp .ne 16) [117]] (by decide +kernel) ?_
                    refine And.intro rfl (And.intro rfl ?_)
                    refine And.intro rfl (And.intro rfl (And.intro (vp_in_iff.mpr (by (first | exact mp_o1438 l_40 u_41 | omega))) ?_))
                    intro z_58 h_59
                    have e_60 := mp_actm_ld h_59 p8 (by (first | exact x_48 | omega)) (by (first | exact mp_o1439 u_41 | omega))
                    have e_61 := mp_k200_ld h_59 (by (first | exact x_48 | omega))
                    have e_62 := mp_k200_mono (f := f3) (a := i_34.toInt + 1) (b := (f0 4).toInt) (by (first | exact mp_o1440 e_56 c_57 | omega))
                    have e_63 : z_58.toInt = (f3 (i_34.toInt.toNat)).toInt := mp_at_i h_59 (by (first | exact mp_o369 l_40 | omega))
                    refine And.intro (fun c_64 => ?_) (fun c_64 => ?_)
                    · have c_64 : z_58.toInt ≠ 200 := c_64
                      show mp_W E X 4 117 [(2, .int z_58), (1, .int i_34), (0, .ref a0)] [] w6_ 0 0
                      refine mp_run mp_k_cX10_lays_ok hF mp_tabX10_ok [mp_i (.iload_n 2), mp_c (.bipush 100) 100, mp_h (.if_icmp .lt 25) [145]] (by decide +kernel) ?_
                      refine And.intro (fun c_65 => ?_) (fun c_65 => ?_)
                      · have c_65 : z_58.toInt < 100 := c_65
                        show mp_W E X 4 145 [(2, .int z_58), (1, .int i_34), (0, .ref a0)] [] w6_ 0 0
                        refine mp_run mp_k_cX10_lays_ok hF mp_tabX10_ok [mp_i (.iload_n 2), mp_c (.bipush 10) 10, mp_i .idiv, mp_i (.istore_n 3), mp_i (.aload_n 0), mp_h (.getfield 59) [26, 0], mp_i (.iload_n 3), mp_i .dup2, mp_h .iaload [6], mp_i (.aload_n 0), mp_h (.getfield 37) [18, 0], mp_c (.bipush 6) 6, mp_i (.aload_n 0), mp_h (.getfield 56) [25, 0], mp_i (.iload_n 3), mp_h .iaload [5], mp_i .imul, mp_i (.iload_n 2), mp_c (.bipush 10) 10, mp_i .irem, mp_i .iadd, mp_h .iaload [2], mp_i .iadd, mp_h .iastore [6]] (by decide +kernel) ?_
                        refine And.intro (by decide) ?_
                        intro z_66 h_67
                        have e_68 : z_66.toInt = z_58.toInt / 10 := mp_div (a := z_58.toInt) (b := 10) h_67 rfl (by decide) (by (first | exact mp_o340 e_60 | omega)) (by decide)
                        refine And.intro rfl (And.intro rfl ?_)
                        refine And.intro rfl (And.intro rfl (And.intro (vp_in_iff.mpr (by (first | exact mp_o1441 c_65 e_60 e_68 | omega))) ?_))
                        intro z_69 h_70
                        have e_71 : z_69.toInt = (g_36 ((z_58.toInt / 10).toNat)).toInt := mp_at_i h_70 (by (first | exact mp_o1442 e_60 e_68 | omega))
                        refine And.intro rfl (And.intro rfl ?_)
                        refine And.intro rfl (And.intro rfl ?_)
                        refine And.intro rfl (And.intro rfl (And.intro (vp_in_iff.mpr (by (first | exact mp_o1441 c_65 e_60 e_68 | omega))) ?_))
                        intro z_72 h_73
                        have e_74 : 0 ≤ z_72.toInt ∧ z_72.toInt ≤ 5 := mp_all_ld h_73 p_42 (by (first | exact mp_o1443 e_68 e_60 | omega)) (by (first | exact mp_o1444 c_65 e_60 e_68 | omega))
                        have e_75 : z_72.toInt = (g_35 ((z_58.toInt / 10).toNat)).toInt := mp_at_i h_73 (by (first | exact mp_o1442 e_60 e_68 | omega))
                        intro z_76 h_77
                        have e_78 : z_76.toInt = 6 * z_72.toInt := mp_mul (a := 6) (b := z_72.toInt) h_77 (by decide) rfl (by (first | exact mp_o1445 e_74 | omega)) (by (first | exact mp_o1446 e_74 | omega))
                        refine And.intro (by decide) ?_
                        intro z_79 h_80
                        have e_81 : z_79.toInt = z_58.toInt % 10 := mp_rem (a := z_58.toInt) (b := 10) h_80 rfl (by decide) (by (first | exact mp_o340 e_60 | omega)) (by decide)
                        intro z_82 h_83
                        have e_84 : z_82.toInt = z_76.toInt + z_79.toInt := mp_add (a := z_76.toInt) (b := z_79.toInt) h_83 rfl rfl (by (first | exact mp_o1447 e_78 e_74 e_81 | omega)) (by (first | exact mp_o1448 e_78 e_74 e_81 | omega))
                        refine And.intro rfl (And.intro rfl (And.intro (vp_in_iff.mpr (by (first | exact mp_o1449 e_74 e_78 e_84 e_81 | omega))) ?_))
                        intro z_85 h_86
                        have e_87 : 0 ≤ z_85.toInt ∧ z_85.toInt ≤ 20 := mp_all_ld h_86 p5 (by (first | exact mp_o1450 e_74 e_78 e_84 e_81 | omega)) (by (first | exact mp_o1451 e_74 e_78 e_84 e_81 | omega))
                        have e_88 : z_85.toInt = (f1 ((6 * (g_35 (z_58.toInt / 10).toNat).toInt + z_58.toInt % 10).toNat)).toInt := mp_at_i h_86 (by (first | exact mp_o1452 e_81 e_75 e_74 e_78 e_84 | omega))
                        intro z_89 h_90
                        refine And.intro rfl (And.intro rfl (And.intro (vp_in_iff.mpr (by (first | exact mp_o1441 c_65 e_60 e_68 | omega))) ?_))
                        intro g_92 h_93
                        let w7_ : va_W := [(mp_ob10 a0 y0 a9 a10 a11 a12 a13 y1 y2 y3 y4 y5 y6 y7 y8 y9 y10 a14 a1 a2 a15 a3 a16 a4 a17 i_39 a5 a6 a7 a8 y12 y13 y14 a18 a19 y15 y16 a20 a21 a22 y17 y18 y19 y20 a23 a24 a25 y21), (mp_arI E a1 0 25 f0), (mp_arI E a2 0 180 f1), (mp_arI E a3 0 90 f2), (mp_arI E a4 0 300 f3), (mp_arI E a5 0 6 g_35), (mp_arI E a6 0 6 g_92), (mp_arI E a7 0 6 g_37), (mp_arI E a8 3 1500 g_38)]
                        show mp_W E X 4 178 [(3, .int z_66), (2, .int z_58), (1, .int i_34), (0, .ref a0)] [] w7_ 0 0
                        refine mp_run mp_k_cX10_lays_ok hF mp_tabX10_ok [mp_i (.aload_n 0), mp_h (.getfield 56) [25, 0], mp_i (.iload_n 3), mp_i (.iload_n 2), mp_c (.bipush 10) 10, mp_i .irem, mp_h .iastore [5]] (by decide +kernel) ?_
                        refine And.intro rfl (And.intro rfl ?_)
                        refine And.intro (by decide) ?_
                        intro z_94 h_95
                        have e_96 : z_94.toInt = z_58.toInt % 10 := mp_rem (a := z_58.toInt) (b := 10) h_95 rfl (by decide) (by (first | exact mp_o340 e_60 | omega)) (by decide)
                        refine And.intro rfl (And.intro rfl (And.intro (vp_in_iff.mpr (by (first | exact mp_o1441 c_65 e_60 e_68 | omega))) ?_))
                        intro g_97 h_98
                        have p_99 : mp_all g_97 6 0 5 := mp_all_st h_98 p_42 (by (first | exact mp_o318 e_96 | omega)) (by (first | exact mp_o1453 c_65 e_60 e_96 | omega))
                        let w8_ : va_W := [(mp_ob10 a0 y0 a9 a10 a11 a12 a13 y1 y2 y3 y4 y5 y6 y7 y8 y9 y10 a14 a1 a2 a15 a3 a16 a4 a17 i_39 a5 a6 a7 a8 y12 y13 y14 a18 a19 y15 y16 a20 a21 a22 y17 y18 y19 y20 a23 a24 a25 y21), (mp_arI E a1 0 25 f0), (mp_arI E a2 0 180 f1), (mp_arI E a3 0 90 f2), (mp_arI E a4 0 300 f3), (mp_arI E a5 0 6 g_97), (mp_arI E a6 0 6 g_92), (mp_arI E a7 0 6 g_37), (mp_arI E a8 3 1500 g_38)]
                        show mp_W E X 4 188 [(3, .int z_66), (2, .int z_58), (1, .int i_34), (0, .ref a0)] [] w8_ 0 0
                        refine mp_run mp_k_cX10_lays_ok hF mp_tabX10_ok [mp_i (.aload_n 0), mp_h (.getfield 62) [27, 0], mp_i (.iload_n 3), mp_i (.aload_n 0), mp_h (.getfield 276) [24, 0], mp_h .iastore [7]] (by decide +kernel) ?_
                        refine And.intro rfl (And.intro rfl ?_)
                        refine And.intro rfl (And.intro rfl ?_)
                        refine And.intro rfl (And.intro rfl (And.intro (vp_in_iff.mpr (by (first | exact mp_o1441 c_65 e_60 e_68 | omega))) ?_))
                        intro g_100 h_101
                        let w9_ : va_W := [(mp_ob10 a0 y0 a9 a10 a11 a12 a13 y1 y2 y3 y4 y5 y6 y7 y8 y9 y10 a14 a1 a2 a15 a3 a16 a4 a17 i_39 a5 a6 a7 a8 y12 y13 y14 a18 a19 y15 y16 a20 a21 a22 y17 y18 y19 y20 a23 a24 a25 y21), (mp_arI E a1 0 25 f0), (mp_arI E a2 0 180 f1), (mp_arI E a3 0 90 f2), (mp_arI E a4 0 300 f3), (mp_arI E a5 0 6 g_97), (mp_arI E a6 0 6 g_92), (mp_arI E a7 0 6 g_100), (mp_arI E a8 3 1500 g_38)]
                        show mp_W E X 4 198 [(3, .int z_66), (2, .int z_58), (1, .int i_34), (0, .ref a0)] [] w9_ 0 0
                        refine mp_run mp_k_cX10_lays_ok hF mp_tabX10_ok [mp_c (.iinc 1 1) 1, mp_h (.goto (-121)) [80]] (by decide +kernel) ?_
                        intro z_102 h_103
                        have e_104 : z_102.toInt = i_34.toInt + 1 := mp_add (a := i_34.toInt) (b := 1) h_103 rfl (by decide) (by (first | exact mp_o2 l_40 | omega)) (by (first | exact mp_o343 u_41 | omega))
                        show mp_W E X 4 80 [(1, .int z_102), (3, .int z_66), (2, .int z_58), (0, .ref a0)] [] w9_ 0 0
                        exact mp_sub [0, 3] rfl [0, 1, 2, 3, 4, 5, 6, 7, 8] rfl rfl (ih_51 (d_50 - 1) (by (first | exact mp_o1454 hm_52 e_56 c_57 | omega)) z_102 g_97 g_92 g_100 g_38 i_39 (by (first | exact mp_o51 l_40 e_104 | omega)) (by (first | exact mp_o1455 e_104 c_57 e_55 | omega)) p_99 l_43 u_44 (by first | fail | (rw [e_104]; (first | exact mp_o1456 c_65 x_45 e_61 | omega)) | (rw [mp_k200_z]; omega)) (by first | (first | exact mp_o1457 e_56 c_57 e_104 | omega) | (have := mp_res_at p4 4 (by decide) (by decide); first | fail | (show (0 : Int) ≤ _; omega))) (mp_CS_to (mp_CS_s (code := z_58.toInt) (mo := i_39.toInt) x_47 (mp_AP_row h_93 h_90 h_70 e_88 h_98 h_101 (by (first | exact e_68 | omega)) (by (first | exact e_68 | omega)) (by (first | exact e_68 | omega)) (by (first | exact e_68 | omega)) (by (first | exact e_96 | omega)) (by first | rfl | omega) (by (first | exact c_65 | omega))) (by (first | exact mp_o346 e_60 e_63 | omega)) (show _ = _ + mp_k200 _ i_34.toInt by first | (first | exact x_45 | omega) | rfl)) (by (first | exact mp_o347 l_40 e_104 | omega))) (by (first | exact mp_o51 l_40 e_104 | omega)) (by (first | exact mp_o77 hm_52 e_104 | omega)))
                      · have c_65 : 100 ≤ z_58.toInt := c_65
                        show mp_W E X 4 123 [(2, .int z_58), (1, .int i_34), (0, .ref a0)] [] w6_ 0 0
                        refine mp_run mp_k_cX10_lays_ok hF mp_tabX10_ok [mp_i (.aload_n 0), mp_h (.getfield 65) [28, 0], mp_c (.sipush 150) 150, mp_i (.iload_n 2), mp_c (.bipush 100) 100, mp_i .isub, mp_i .imul, mp_i (.aload_n 0), mp_h (.getfield 276) [24, 0], mp_i .iadd, mp_c (.iconst 1) 1, mp_h .bastore [8, 0]] (by decide +kernel) ?_
                        refine And.intro rfl (And.intro rfl ?_)
                        intro z_105 h_106
                        have e_107 : z_105.toInt = z_58.toInt - 100 := mp_subi (a := z_58.toInt) (b := 100) h_106 rfl (by decide) (by (first | exact mp_o1458 c_65 | omega)) (by (first | exact mp_o1459 e_60 | omega))
                        intro z_108 h_109
                        have e_110 : z_108.toInt = 150 * z_105.toInt := mp_mul (a := 150) (b := z_105.toInt) h_109 (by decide) rfl (by (first | exact mp_o1460 c_65 e_107 | omega)) (by (first | exact mp_o1461 e_107 e_60 | omega))
                        refine And.intro rfl (And.intro rfl ?_)
                        intro z_111 h_112
                        have e_113 : z_111.toInt = z_108.toInt + i_39.toInt := mp_add (a := z_108.toInt) (b := i_39.toInt) h_112 rfl rfl (by (first | exact mp_o1462 l_43 c_65 e_107 e_110 | omega)) (by (first | exact mp_o1463 u_44 e_110 e_107 e_60 | omega))
                        refine And.intro rfl (And.intro rfl (And.intro (vp_in_iff.mpr (by (first | exact mp_o1464 l_43 u_44 c_65 e_60 c_64 e_107 e_110 e_113 | omega))) ?_))
                        intro g_114 h_115
                        have h_116 : g_114 = upd g_38 z_111.toNatClampNeg 1 := h_115.trans (congrArg (upd _ _) (by decide))
                        let w10_ : va_W := [(mp_ob10 a0 y0 a9 a10 a11 a12 a13 y1 y2 y3 y4 y5 y6 y7 y8 y9 y10 a14 a1 a2 a15 a3 a16 a4 a17 i_39 a5 a6 a7 a8 y12 y13 y14 a18 a19 y15 y16 a20 a21 a22 y17 y18 y19 y20 a23 a24 a25 y21), (mp_arI E a1 0 25 f0), (mp_arI E a2 0 180 f1), (mp_arI E a3 0 90 f2), (mp_arI E a4 0 300 f3), (mp_arI E a5 0 6 g_35), (mp_arI E a6 0 6 g_36), (mp_arI E a7 0 6 g_37), (mp_arI E a8 3 1500 g_114)]
                        show mp_W E X 4 142 [(2, .int z_58), (1, .int i_34), (0, .ref a0)] [] w10_ 0 0
                        refine mp_run mp_k_cX10_lays_ok hF mp_tabX10_ok [mp_h (.goto 56) [198], mp_c (.iinc 1 1) 1, mp_h (.goto (-121)) [80]] (by decide +kernel) ?_
                        intro z_117 h_118
                        have e_119 : z_117.toInt = i_34.toInt + 1 := mp_add (a := i_34.toInt) (b := 1) h_118 rfl (by decide) (by (first | exact mp_o2 l_40 | omega)) (by (first | exact mp_o343 u_41 | omega))
                        show mp_W E X 4 80 [(1, .int z_117), (2, .int z_58), (0, .ref a0)] [] w10_ 0 0
                        exact mp_sub [0, 2] rfl [0, 1, 2, 3, 4, 5, 6, 7, 8] rfl rfl (ih_51 (d_50 - 1) (by (first | exact mp_o1454 hm_52 e_56 c_57 | omega)) z_117 g_35 g_36 g_37 g_114 i_39 (by (first | exact mp_o51 l_40 e_119 | omega)) (by (first | exact mp_o1455 e_119 c_57 e_55 | omega)) p_42 l_43 u_44 (by first | fail | (rw [e_119]; (first | exact mp_o1465 c_64 x_45 e_61 | omega)) | (rw [mp_k200_z]; omega)) (by first | (first | exact mp_o1457 e_56 c_57 e_119 | omega) | (have := mp_res_at p4 4 (by decide) (by decide); first | fail | (show (0 : Int) ≤ _; omega))) (mp_CS_to (mp_CS_s (code := z_58.toInt) (mo := (f0 1).toInt + mp_k200 f3 i_34.toInt) x_47 (Or.inl ⟨(by first | (first | exact c_65 | omega) | (have h8 : (100 : Int32).toInt = 100 := rfl; have h9 : (200 : Int32).toInt = 200 := rfl; omega)), rfl, rfl, rfl⟩) (by (first | exact mp_o1466 c_65 e_63 | omega)) (show _ = _ + mp_k200 _ i_34.toInt by first | (first | exact mp_o1467 | omega) | rfl)) (by (first | exact mp_o347 l_40 e_119 | omega))) (by (first | exact mp_o51 l_40 e_119 | omega)) (by (first | exact mp_o77 hm_52 e_119 | omega)))
                    · have c_64 : z_58.toInt = 200 := (congrArg Int32.toInt c_64)
                      show mp_W E X 4 104 [(2, .int z_58), (1, .int i_34), (0, .ref a0)] [] w6_ 0 0
                      refine mp_run mp_k_cX10_lays_ok hF mp_tabX10_ok [mp_i (.aload_n 0), mp_i .dup, mp_h (.getfield 276) [24, 0], mp_c (.iconst 1) 1, mp_i .iadd, mp_h (.putfield 276) [24, 0]] (by decide +kernel) ?_
                      refine And.intro rfl ?_
                      refine And.intro rfl (And.intro rfl ?_)
                      intro z_120 h_121
                      have e_122 : z_120.toInt = i_39.toInt + 1 := mp_add (a := i_39.toInt) (b := 1) h_121 rfl (by decide) (by (first | exact mp_o2 l_43 | omega)) (by (first | exact mp_o330 u_44 | omega))
                      refine And.intro rfl (And.intro rfl (And.intro rfl (And.intro rfl (And.intro (Nat.le_of_ble_eq_true rfl) ?_))))
                      let w11_ : va_W := [(mp_ob10 a0 y0 a9 a10 a11 a12 a13 y1 y2 y3 y4 y5 y6 y7 y8 y9 y10 a14 a1 a2 a15 a3 a16 a4 a17 z_120 a5 a6 a7 a8 y12 y13 y14 a18 a19 y15 y16 a20 a21 a22 y17 y18 y19 y20 a23 a24 a25 y21), (mp_arI E a1 0 25 f0), (mp_arI E a2 0 180 f1), (mp_arI E a3 0 90 f2), (mp_arI E a4 0 300 f3), (mp_arI E a5 0 6 g_35), (mp_arI E a6 0 6 g_36), (mp_arI E a7 0 6 g_37), (mp_arI E a8 3 1500 g_38)]
                      show mp_W E X 4 114 [(2, .int z_58), (1, .int i_34), (0, .ref a0)] [] w11_ 0 0
                      refine mp_run mp_k_cX10_lays_ok hF mp_tabX10_ok [mp_h (.goto 84) [198], mp_c (.iinc 1 1) 1, mp_h (.goto (-121)) [80]] (by decide +kernel) ?_
                      intro z_123 h_124
                      have e_125 : z_123.toInt = i_34.toInt + 1 := mp_add (a := i_34.toInt) (b := 1) h_124 rfl (by decide) (by (first | exact mp_o2 l_40 | omega)) (by (first | exact mp_o343 u_41 | omega))
                      show mp_W E X 4 80 [(1, .int z_123), (2, .int z_58), (0, .ref a0)] [] w11_ 0 0
                      exact mp_sub [0, 2] rfl [0, 1, 2, 3, 4, 5, 6, 7, 8] rfl rfl (ih_51 (d_50 - 1) (by (first | exact mp_o1454 hm_52 e_56 c_57 | omega)) z_123 g_35 g_36 g_37 g_38 z_120 (by (first | exact mp_o51 l_40 e_125 | omega)) (by (first | exact mp_o1455 e_125 c_57 e_55 | omega)) p_42 (by (first | exact mp_o51 l_43 e_122 | omega)) (by (first | exact mp_o1468 c_64 e_122 q0 e_62 x_45 e_61 | omega)) (by first | fail | (rw [e_125]; (first | exact mp_o1469 c_64 e_122 x_45 e_61 | omega)) | (rw [mp_k200_z]; omega)) (by first | (first | exact mp_o1457 e_56 c_57 e_125 | omega) | (have := mp_res_at p4 4 (by decide) (by decide); first | fail | (show (0 : Int) ≤ _; omega))) (mp_CS_to (mp_CS_s (code := z_58.toInt) (mo := (f0 1).toInt + mp_k200 f3 i_34.toInt) x_47 (Or.inl ⟨(by first | (first | exact mp_o333 c_64 | omega) | (have h8 : (100 : Int32).toInt = 100 := rfl; have h9 : (200 : Int32).toInt = 200 := rfl; omega)), rfl, rfl, rfl⟩) (by (first | exact mp_o1470 c_64 e_63 | omega)) (show _ = _ + mp_k200 _ i_34.toInt by first | (first | exact mp_o1467 | omega) | rfl)) (by (first | exact mp_o347 l_40 e_125 | omega))) (by (first | exact mp_o51 l_40 e_125 | omega)) (by (first | exact mp_o77 hm_52 e_125 | omega)))
              exact mp_sub [0, 1] rfl [0, 1, 2, 3, 4, 5, 6, 7, 8] rfl rfl (lp_49 _ 0 g_6 g_7 g_8 g_25 z_1 (by decide) (by decide) p_11 e_3.1 e_3.2 (by first | fail | (rw [rfl]; omega) | (rw [mp_k200_z]; (first | exact mp_o1471 e_4 | omega))) (by first | fail | (have := mp_res_at p4 4 (by decide) (by decide); first | fail | (show (0 : Int) ≤ _; (first | exact mp_o1472 this | omega)))) (mp_CS_to (i := 0) (mp_CS_0 x_13 (by (first | exact mp_o787 e_22 c_23 | omega))) (by first | rfl | decide)) (by first | fail | decide) (Int.self_le_toNat _))
            · have c_33 : i_24.toInt < 1500 := c_33
              let w12_ : va_W := [(mp_ob10 a0 y0 a9 a10 a11 a12 a13 y1 y2 y3 y4 y5 y6 y7 y8 y9 y10 a14 a1 a2 a15 a3 a16 a4 a17 z_1 a5 a6 a7 a8 y12 y13 y14 a18 a19 y15 y16 a20 a21 a22 y17 y18 y19 y20 a23 a24 a25 y21), (mp_arI E a1 0 25 f0), (mp_arI E a2 0 180 f1), (mp_arI E a3 0 90 f2), (mp_arI E a4 0 300 f3), (mp_arI E a5 0 6 g_6), (mp_arI E a6 0 6 g_7), (mp_arI E a7 0 6 g_8), (mp_arI E a8 3 1500 g_25)]
              show mp_W E X 4 65 [(1, .int i_24), (0, .ref a0)] [] w12_ 0 0
              refine mp_run mp_k_cX10_lays_ok hF mp_tabX10_ok [mp_i (.aload_n 0), mp_h (.getfield 65) [28, 0], mp_i (.iload_n 1), mp_c (.iconst 0) 0, mp_h .bastore [8, 0]] (by decide +kernel) ?_
              refine And.intro rfl (And.intro rfl ?_)
              refine And.intro rfl (And.intro rfl (And.intro (vp_in_iff.mpr (by (first | exact mp_o1473 l_26 c_33 | omega))) ?_))
              intro g_126 h_127
              have h_128 : g_126 = upd g_25 i_24.toNatClampNeg 0 := h_127.trans (congrArg (upd _ _) (by decide))
              let w13_ : va_W := [(mp_ob10 a0 y0 a9 a10 a11 a12 a13 y1 y2 y3 y4 y5 y6 y7 y8 y9 y10 a14 a1 a2 a15 a3 a16 a4 a17 z_1 a5 a6 a7 a8 y12 y13 y14 a18 a19 y15 y16 a20 a21 a22 y17 y18 y19 y20 a23 a24 a25 y21), (mp_arI E a1 0 25 f0), (mp_arI E a2 0 180 f1), (mp_arI E a3 0 90 f2), (mp_arI E a4 0 300 f3), (mp_arI E a5 0 6 g_6), (mp_arI E a6 0 6 g_7), (mp_arI E a7 0 6 g_8), (mp_arI E a8 3 1500 g_126)]
              show mp_W E X 4 72 [(1, .int i_24), (0, .ref a0)] [] w13_ 0 0
              refine mp_run mp_k_cX10_lays_ok hF mp_tabX10_ok [mp_c (.iinc 1 1) 1, mp_h (.goto (-17)) [58]] (by decide +kernel) ?_
              intro z_129 h_130
              have e_131 : z_129.toInt = i_24.toInt + 1 := mp_add (a := i_24.toInt) (b := 1) h_130 rfl (by decide) (by (first | exact mp_o2 l_26 | omega)) (by (first | exact mp_o1474 c_33 | omega))
              show mp_W E X 4 58 [(1, .int z_129), (0, .ref a0)] [] w13_ 0 0
              exact mp_sub [0, 1] rfl [0, 1, 2, 3, 4, 5, 6, 7, 8] rfl rfl (ih_31 (d_30 - 1) (by (first | exact mp_o1475 hm_32 c_33 | omega)) z_129 g_126 (by (first | exact mp_o51 l_26 e_131 | omega)) (by (first | exact mp_o1476 c_33 e_131 | omega)) (by first | (first | exact x_28 | omega) | decide | (show z_1.toInt = (f0 1).toInt; first | fail | decide)) (by (first | exact mp_o1477 hm_32 e_131 | omega)))
        exact mp_sub [0, 1] rfl [0, 1, 2, 3, 4, 5, 6, 7, 8] rfl rfl (lp_29 _ 0 f7 (by decide) (by decide) (by first | (first | exact x_12 | omega) | decide | (show z_1.toInt = (f0 1).toInt; first | fail | decide)) (Int.self_le_toNat _))
      · have c_23 : i_5.toInt < z_19.toInt := c_23
        let w14_ : va_W := [(mp_ob10 a0 y0 a9 a10 a11 a12 a13 y1 y2 y3 y4 y5 y6 y7 y8 y9 y10 a14 a1 a2 a15 a3 a16 a4 a17 z_1 a5 a6 a7 a8 y12 y13 y14 a18 a19 y15 y16 a20 a21 a22 y17 y18 y19 y20 a23 a24 a25 y21), (mp_arI E a1 0 25 f0), (mp_arI E a2 0 180 f1), (mp_arI E a3 0 90 f2), (mp_arI E a4 0 300 f3), (mp_arI E a5 0 6 g_6), (mp_arI E a6 0 6 g_7), (mp_arI E a7 0 6 g_8), (mp_arI E a8 3 1500 f7)]
        show mp_W E X 4 22 [(1, .int i_5), (0, .ref a0)] [] w14_ 0 0
        refine mp_run mp_k_cX10_lays_ok hF mp_tabX10_ok [mp_i (.aload_n 0), mp_h (.getfield 56) [25, 0], mp_i (.iload_n 1), mp_i (.aload_n 0), mp_h (.getfield 44) [20, 0], mp_c (.iconst 3) 3, mp_i (.iload_n 1), mp_i .imul, mp_h .iaload [3], mp_h .iastore [5]] (by decide +kernel) ?_
        refine And.intro rfl (And.intro rfl ?_)
        refine And.intro rfl (And.intro rfl ?_)
        intro z_132 h_133
        have e_134 : z_132.toInt = 3 * i_5.toInt := mp_mul (a := 3) (b := i_5.toInt) h_133 (by decide) rfl (by (first | exact mp_o1399 l_9 | omega)) (by (first | exact mp_o1478 u_10 | omega))
        refine And.intro rfl (And.intro rfl (And.intro (vp_in_iff.mpr (by (first | exact mp_o1479 l_9 e_134 u_10 | omega))) ?_))
        intro z_135 h_136
        have e_137 : 0 ≤ z_135.toInt ∧ z_135.toInt ≤ 5 := mp_res_ld h_136 p6 (by (first | exact mp_o1480 l_9 e_134 | omega)) (by (first | exact mp_o1481 e_134 c_23 e_21 | omega)) (by (first | exact mp_o1482 e_134 | omega))
        have e_138 : z_135.toInt = (f2 (3 * i_5.toInt.toNat)).toInt := mp_at_i h_136 (by (first | exact mp_o1483 l_9 e_134 | omega))
        refine And.intro rfl (And.intro rfl (And.intro (vp_in_iff.mpr (by (first | exact mp_o1484 l_9 c_23 e_21 | omega))) ?_))
        intro g_139 h_140
        have p_141 : mp_all g_139 6 0 5 := mp_all_st h_140 p_11 e_137.1 e_137.2
        let w15_ : va_W := [(mp_ob10 a0 y0 a9 a10 a11 a12 a13 y1 y2 y3 y4 y5 y6 y7 y8 y9 y10 a14 a1 a2 a15 a3 a16 a4 a17 z_1 a5 a6 a7 a8 y12 y13 y14 a18 a19 y15 y16 a20 a21 a22 y17 y18 y19 y20 a23 a24 a25 y21), (mp_arI E a1 0 25 f0), (mp_arI E a2 0 180 f1), (mp_arI E a3 0 90 f2), (mp_arI E a4 0 300 f3), (mp_arI E a5 0 6 g_139), (mp_arI E a6 0 6 g_7), (mp_arI E a7 0 6 g_8), (mp_arI E a8 3 1500 f7)]
        show mp_W E X 4 36 [(1, .int i_5), (0, .ref a0)] [] w15_ 0 0
        refine mp_run mp_k_cX10_lays_ok hF mp_tabX10_ok [mp_i (.aload_n 0), mp_h (.getfield 59) [26, 0], mp_i (.iload_n 1), mp_c (.iconst 0) 0, mp_h .iastore [6]] (by decide +kernel) ?_
        refine And.intro rfl (And.intro rfl ?_)
        refine And.intro rfl (And.intro rfl (And.intro (vp_in_iff.mpr (by (first | exact mp_o1484 l_9 c_23 e_21 | omega))) ?_))
        intro g_142 h_143
        let w16_ : va_W := [(mp_ob10 a0 y0 a9 a10 a11 a12 a13 y1 y2 y3 y4 y5 y6 y7 y8 y9 y10 a14 a1 a2 a15 a3 a16 a4 a17 z_1 a5 a6 a7 a8 y12 y13 y14 a18 a19 y15 y16 a20 a21 a22 y17 y18 y19 y20 a23 a24 a25 y21), (mp_arI E a1 0 25 f0), (mp_arI E a2 0 180 f1), (mp_arI E a3 0 90 f2), (mp_arI E a4 0 300 f3), (mp_arI E a5 0 6 g_139), (mp_arI E a6 0 6 g_142), (mp_arI E a7 0 6 g_8), (mp_arI E a8 3 1500 f7)]
        show mp_W E X 4 43 [(1, .int i_5), (0, .ref a0)] [] w16_ 0 0
        refine mp_run mp_k_cX10_lays_ok hF mp_tabX10_ok [mp_i (.aload_n 0), mp_h (.getfield 62) [27, 0], mp_i (.iload_n 1), mp_c (.iconst (-1)) (-1), mp_h .iastore [7]] (by decide +kernel) ?_
        refine And.intro rfl (And.intro rfl ?_)
        refine And.intro rfl (And.intro rfl (And.intro (vp_in_iff.mpr (by (first | exact mp_o1484 l_9 c_23 e_21 | omega))) ?_))
        intro g_144 h_145
        let w17_ : va_W := [(mp_ob10 a0 y0 a9 a10 a11 a12 a13 y1 y2 y3 y4 y5 y6 y7 y8 y9 y10 a14 a1 a2 a15 a3 a16 a4 a17 z_1 a5 a6 a7 a8 y12 y13 y14 a18 a19 y15 y16 a20 a21 a22 y17 y18 y19 y20 a23 a24 a25 y21), (mp_arI E a1 0 25 f0), (mp_arI E a2 0 180 f1), (mp_arI E a3 0 90 f2), (mp_arI E a4 0 300 f3), (mp_arI E a5 0 6 g_139), (mp_arI E a6 0 6 g_142), (mp_arI E a7 0 6 g_144), (mp_arI E a8 3 1500 f7)]
        show mp_W E X 4 50 [(1, .int i_5), (0, .ref a0)] [] w17_ 0 0
        refine mp_run mp_k_cX10_lays_ok hF mp_tabX10_ok [mp_c (.iinc 1 1) 1, mp_h (.goto (-41)) [12]] (by decide +kernel) ?_
        intro z_146 h_147
        have e_148 : z_146.toInt = i_5.toInt + 1 := mp_add (a := i_5.toInt) (b := 1) h_147 rfl (by decide) (by (first | exact mp_o2 l_9 | omega)) (by (first | exact mp_o351 u_10 | omega))
        show mp_W E X 4 12 [(1, .int z_146), (0, .ref a0)] [] w17_ 0 0
        exact mp_sub [0, 1] rfl [0, 1, 2, 3, 4, 5, 6, 7, 8] rfl rfl (ih_17 (d_16 - 1) (by (first | exact mp_o1454 hm_18 e_22 c_23 | omega)) z_146 g_139 g_142 g_144 (by (first | exact mp_o51 l_9 e_148 | omega)) (by (first | exact mp_o1485 e_148 c_23 e_21 | omega)) p_141 (by (first | exact x_12 | omega)) (mp_init_s x_13 h_140 e_138 h_143 h_145 (by (first | exact mp_o353 l_9 e_148 | omega))) (by (first | exact mp_o51 l_9 e_148 | omega)) (by (first | exact mp_o77 hm_18 e_148 | omega)))
  exact mp_sub [0, 1] rfl [0, 1, 2, 3, 4, 5, 6, 7, 8] rfl rfl (lp_15 _ 0 f4 f5 f6 (by decide) (by decide) p9 (by first | (first | exact e_4 | omega) | rfl) (mp_init_0 (by first | fail | decide)) (by first | fail | decide) (Int.self_le_toNat _))
