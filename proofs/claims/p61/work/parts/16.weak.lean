set_option maxHeartbeats 4000000 in
set_option maxRecDepth 100000 in
theorem bX2_layMissed_106 (E : mp_E) (a0 a1 a2 a3 a4 a5 a6 a7 a8 a9 a10 a11 a12 a13 a14 a15 a16 a17 a18 a19 a20 a21 a22 a23 a24 a25 : Nat) (f0 : Nat → Int32) (f1 : Nat → Int32) (f2 : Nat → Int32) (f3 : Nat → Int32) (f4 : Nat → Int32) (f5 : Nat → Int32) (f6 : Nat → Int64) (f7 : Nat → Int32) (y0 : Int32) (y1 : Int32) (y2 : Int32) (y3 : Int32) (y4 : Int32) (y5 : Int32) (y6 : Int32) (y7 : Int32) (y8 : Int32) (y9 : Int32) (y10 : Int32) (y11 : Int32) (y12 : Int32) (x0 : Int32) (p0 : mp_all f3 10 0 5) (p1 : mp_all f4 10 0 99) (p2 : mp_all f5 10 0 1) (l_x0 : 0 ≤ x0.toInt) (u_x0 : x0.toInt ≤ 5) (l_y0 : 0 ≤ y0.toInt) (u_y0 : y0.toInt ≤ 6) (l_y1 : 0 ≤ y1.toInt) (u_y1 : y1.toInt ≤ 12) (l_y2 : 0 ≤ y2.toInt) (u_y2 : y2.toInt ≤ 5) (l_y6 : 0 ≤ y6.toInt) (u_y6 : y6.toInt ≤ 99) (l_y8 : 0 ≤ y8.toInt) (u_y8 : y8.toInt ≤ 6) (l_y9 : 0 ≤ y9.toInt) (u_y9 : y9.toInt ≤ 99) (l_y10 : 0 ≤ y10.toInt) (u_y10 : y10.toInt ≤ 6) (l_y11 : 0 ≤ y11.toInt) (u_y11 : y11.toInt ≤ 10) (l_y12 : 0 ≤ y12.toInt) (u_y12 : y12.toInt ≤ 60) : mp_Ct E yX2_layMissed cX2_layMissed 10 none 3 0 0 62 [.ref a0, .ref a1, .int x0] [(mp_ob2 a0 y0 y1 y2 y3 a11 a2 a3 a12 a13 y4 y5), (mp_arI E a2 0 432 f0), (mp_arI E a3 0 72 f1), (mp_ob0 a1 a4 y6 a14 a15 a16 a9 a10 a17), (mp_ob7 a4 y7 y8 y9 y10 y11 y12 a18 a19 a20 a5 a21 a6 a22 a23 a7 a8 a24 a25), (mp_arI E a5 0 6 f2), (mp_arI E a6 0 10 f3), (mp_arI E a7 0 10 f4), (mp_arI E a8 0 10 f5), (mp_arL E a9 20 f6), (mp_arI E a10 0 10 f7)] (fun v w' => ∃ r1 : Int32, ∃ h2 : Nat → Int32, ∃ h3 : Nat → Int32, v = none ∧ 0 ≤ r1.toInt ∧ r1.toInt ≤ 1023 ∧ w' = [(mp_ob2 a0 y0 y1 y2 r1 a11 a2 a3 a12 a13 y4 y5), (mp_arI E a2 0 432 h2), (mp_arI E a3 0 72 f1), (mp_ob0 a1 a4 y6 a14 a15 a16 a9 a10 a17), (mp_ob7 a4 y7 y8 y9 y10 y11 y12 a18 a19 a20 a5 a21 a6 a22 a23 a7 a8 a24 a25), (mp_arI E a5 0 6 f2), (mp_arI E a6 0 10 f3), (mp_arI E a7 0 10 f4), (mp_arI E a8 0 10 f5), (mp_arL E a9 20 f6), (mp_arI E a10 0 10 h3)]) := by
  refine mp_met false (by decide) (by decide) (Nat.le_of_ble_eq_true rfl) (fun X hF hQ => ?_)
  have hF : mp_F E X (RX2, cX2_layMissed, 10, (3, 0, 0, 62), none, false) := hF
  let w1_ : va_W := [(mp_ob2 a0 y0 y1 y2 y3 a11 a2 a3 a12 a13 y4 y5), (mp_arI E a2 0 432 f0), (mp_arI E a3 0 72 f1), (mp_ob0 a1 a4 y6 a14 a15 a16 a9 a10 a17), (mp_ob7 a4 y7 y8 y9 y10 y11 y12 a18 a19 a20 a5 a21 a6 a22 a23 a7 a8 a24 a25), (mp_arI E a5 0 6 f2), (mp_arI E a6 0 10 f3), (mp_arI E a7 0 10 f4), (mp_arI E a8 0 10 f5), (mp_arL E a9 20 f6), (mp_arI E a10 0 10 f7)]
  show mp_W E X 10 0 [(0, .ref a0), (1, .ref a1), (2, .int x0)] [] w1_ 0 0
  refine mp_run mp_k_cX2_layMissed_ok hF mp_tabX2_ok [mp_i (.aload_n 1), mp_h (.getfield 39) [4, 3], mp_i (.astore_n 3), mp_i (.aload_n 1), mp_i (.aload_n 1), mp_h (.getfield 65) [5, 3]] (by decide +kernel) ?_
  refine And.intro rfl (And.intro rfl ?_)
  refine And.intro rfl (And.intro rfl ?_)
  show mp_W E X 10 10 [(3, .ref a4), (0, .ref a0), (1, .ref a1), (2, .int x0)] [.int y6, .ref a1] w1_ 0 0
  refine mp_callV hF (As := [.int y6]) (rest := []) (wr := [(mp_ob2 a0 y0 y1 y2 y3 a11 a2 a3 a12 a13 y4 y5), (mp_arI E a2 0 432 f0), (mp_arI E a3 0 72 f1), (mp_arI E a5 0 6 f2), (mp_arI E a6 0 10 f3), (mp_arI E a8 0 10 f5)]) (bX0_lastsAt_61 E a1 a4 a7 a9 a10 a14 a15 a16 a17 a18 a19 a20 a5 a21 a6 a22 a23 a8 a24 a25 f4 f6 f7 y6 y7 y8 y9 y10 y11 y12 y6 p1 l_y6 u_y6 l_y8 u_y8 l_y9 u_y9 l_y10 u_y10 l_y11 u_y11 l_y12 u_y12) mp_lkX2_91 3 rfl [3, 4, 7, 9, 10] [0, 1, 2, 5, 6, 8] rfl rfl rfl rfl rfl ⟨(Nat.le_of_ble_eq_true rfl), (Nat.le_of_ble_eq_true rfl), (Nat.le_of_ble_eq_true rfl), (Nat.le_of_ble_eq_true rfl)⟩ (Nat.le_of_ble_eq_true rfl) (by first | exact mp_fd_ok mp_k_cX2_layMissed_ok (by decide +kernel) | decide +kernel) (fun v_1 w_2 h_3 => ?_)
  obtain ⟨g_4, rfl, rfl⟩ := h_3
  let w2_ : va_W := [(mp_ob2 a0 y0 y1 y2 y3 a11 a2 a3 a12 a13 y4 y5), (mp_arI E a2 0 432 f0), (mp_arI E a3 0 72 f1), (mp_arI E a5 0 6 f2), (mp_arI E a6 0 10 f3), (mp_arI E a8 0 10 f5), (mp_ob0 a1 a4 y6 a14 a15 a16 a9 a10 a17), (mp_ob7 a4 y7 y8 y9 y10 y11 y12 a18 a19 a20 a5 a21 a6 a22 a23 a7 a8 a24 a25), (mp_arI E a7 0 10 f4), (mp_arL E a9 20 f6), (mp_arI E a10 0 10 g_4)]
  show mp_W E X 10 13 [(3, .ref a4), (0, .ref a0), (1, .ref a1), (2, .int x0)] [.ref a10] w2_ 0 0
  refine mp_run mp_k_cX2_layMissed_ok hF mp_tabX2_ok [mp_i (.astore 4), mp_c (.iconst 0) 0, mp_i (.istore 5), mp_i (.aload_n 0), mp_c (.iconst 0) 0, mp_h (.putfield 95) [10, 0]] (by decide +kernel) ?_
  refine And.intro rfl (And.intro rfl (And.intro rfl (And.intro rfl (And.intro (Nat.le_of_ble_eq_true rfl) ?_))))
  let w3_ : va_W := [(mp_ob2 a0 y0 y1 y2 0 a11 a2 a3 a12 a13 y4 y5), (mp_arI E a2 0 432 f0), (mp_arI E a3 0 72 f1), (mp_arI E a5 0 6 f2), (mp_arI E a6 0 10 f3), (mp_arI E a8 0 10 f5), (mp_ob0 a1 a4 y6 a14 a15 a16 a9 a10 a17), (mp_ob7 a4 y7 y8 y9 y10 y11 y12 a18 a19 a20 a5 a21 a6 a22 a23 a7 a8 a24 a25), (mp_arI E a7 0 10 f4), (mp_arL E a9 20 f6), (mp_arI E a10 0 10 g_4)]
  show mp_W E X 10 23 [(5, .int 0), (4, .ref a10), (3, .ref a4), (0, .ref a0), (1, .ref a1), (2, .int x0)] [] w3_ 0 0
  refine mp_run mp_k_cX2_layMissed_ok hF mp_tabX2_ok [mp_c (.iconst 0) 0, mp_i (.istore 6)] (by decide +kernel) ?_
  show mp_W E X 10 26 [(6, .int 0), (5, .int 0), (4, .ref a10), (3, .ref a4), (0, .ref a0), (1, .ref a1), (2, .int x0)] [] w3_ 0 0
  have lp_14 : ∀ (d_15 : Nat) (i_5 : Int32) (i_6 : Int32) (i_7 : Int32), 0 ≤ i_5.toInt → i_5.toInt ≤ 10 → 0 ≤ i_6.toInt → i_6.toInt ≤ 1023 → 0 ≤ i_7.toInt → i_7.toInt ≤ 1023 → y11.toInt - i_5.toInt ≤ (d_15 : Int) → mp_W E X 10 26 [(6, .int i_5), (5, .int i_6), (4, .ref a10), (3, .ref a4), (0, .ref a0), (1, .ref a1), (2, .int x0)] [] [(mp_ob2 a0 y0 y1 y2 i_7 a11 a2 a3 a12 a13 y4 y5), (mp_arI E a2 0 432 f0), (mp_arI E a3 0 72 f1), (mp_arI E a5 0 6 f2), (mp_arI E a6 0 10 f3), (mp_arI E a8 0 10 f5), (mp_ob0 a1 a4 y6 a14 a15 a16 a9 a10 a17), (mp_ob7 a4 y7 y8 y9 y10 y11 y12 a18 a19 a20 a5 a21 a6 a22 a23 a7 a8 a24 a25), (mp_arI E a7 0 10 f4), (mp_arL E a9 20 f6), (mp_arI E a10 0 10 g_4)] 0 0 := by
    intro d_15
    induction d_15 using Nat.strongRecOn with
    | ind d_15 ih_16 =>
      intro i_5 i_6 i_7 l_8 u_9 l_10 u_11 l_12 u_13 hm_17
      refine mp_run mp_k_cX2_layMissed_ok hF mp_tabX2_ok [mp_i (.iload 6), mp_i (.aload_n 3), mp_h (.getfield 78) [1, 7], mp_h (.if_icmp .ge 82) [114]] (by decide +kernel) ?_
      refine And.intro rfl (And.intro rfl ?_)
      refine And.intro (fun c_18 => ?_) (fun c_18 => ?_)
      · have c_18 : y11.toInt ≤ i_5.toInt := c_18
        let w4_ : va_W := [(mp_ob2 a0 y0 y1 y2 i_7 a11 a2 a3 a12 a13 y4 y5), (mp_arI E a2 0 432 f0), (mp_arI E a3 0 72 f1), (mp_arI E a5 0 6 f2), (mp_arI E a6 0 10 f3), (mp_arI E a8 0 10 f5), (mp_ob0 a1 a4 y6 a14 a15 a16 a9 a10 a17), (mp_ob7 a4 y7 y8 y9 y10 y11 y12 a18 a19 a20 a5 a21 a6 a22 a23 a7 a8 a24 a25), (mp_arI E a7 0 10 f4), (mp_arL E a9 20 f6), (mp_arI E a10 0 10 g_4)]
        show mp_W E X 10 114 [(6, .int i_5), (5, .int i_6), (4, .ref a10), (3, .ref a4), (0, .ref a0), (1, .ref a1), (2, .int x0)] [] w4_ 0 0
        refine mp_run mp_k_cX2_layMissed_ok hF mp_tabX2_ok [mp_c (.iconst 0) 0, mp_i (.istore 6)] (by decide +kernel) ?_
        show mp_W E X 10 117 [(6, .int 0), (5, .int i_6), (4, .ref a10), (3, .ref a4), (0, .ref a0), (1, .ref a1), (2, .int x0)] [] w4_ 0 0
        have lp_23 : ∀ (d_24 : Nat) (i_19 : Int32) (g_20 : Nat → Int32), 0 ≤ i_19.toInt → i_19.toInt ≤ 12 → y1.toInt - i_19.toInt ≤ (d_24 : Int) → mp_W E X 10 117 [(6, .int i_19), (5, .int i_6), (4, .ref a10), (3, .ref a4), (0, .ref a0), (1, .ref a1), (2, .int x0)] [] [(mp_ob2 a0 y0 y1 y2 i_7 a11 a2 a3 a12 a13 y4 y5), (mp_arI E a2 0 432 g_20), (mp_arI E a3 0 72 f1), (mp_arI E a5 0 6 f2), (mp_arI E a6 0 10 f3), (mp_arI E a8 0 10 f5), (mp_ob0 a1 a4 y6 a14 a15 a16 a9 a10 a17), (mp_ob7 a4 y7 y8 y9 y10 y11 y12 a18 a19 a20 a5 a21 a6 a22 a23 a7 a8 a24 a25), (mp_arI E a7 0 10 f4), (mp_arL E a9 20 f6), (mp_arI E a10 0 10 g_4)] 0 0 := by
          intro d_24
          induction d_24 using Nat.strongRecOn with
          | ind d_24 ih_25 =>
            intro i_19 g_20 l_21 u_22 hm_26
            refine mp_run mp_k_cX2_layMissed_ok hF mp_tabX2_ok [mp_i (.iload 6), mp_i (.aload_n 0), mp_h (.getfield 52) [8, 0], mp_h (.if_icmp .ge 109) [232]] (by decide +kernel) ?_
            refine And.intro rfl (And.intro rfl ?_)
            refine And.intro (fun c_27 => ?_) (fun c_27 => ?_)
            · have c_27 : y1.toInt ≤ i_19.toInt := c_27
              let w5_ : va_W := [(mp_ob2 a0 y0 y1 y2 i_7 a11 a2 a3 a12 a13 y4 y5), (mp_arI E a2 0 432 g_20), (mp_arI E a3 0 72 f1), (mp_arI E a5 0 6 f2), (mp_arI E a6 0 10 f3), (mp_arI E a8 0 10 f5), (mp_ob0 a1 a4 y6 a14 a15 a16 a9 a10 a17), (mp_ob7 a4 y7 y8 y9 y10 y11 y12 a18 a19 a20 a5 a21 a6 a22 a23 a7 a8 a24 a25), (mp_arI E a7 0 10 f4), (mp_arL E a9 20 f6), (mp_arI E a10 0 10 g_4)]
              show mp_W E X 10 232 [(6, .int i_19), (5, .int i_6), (4, .ref a10), (3, .ref a4), (0, .ref a0), (1, .ref a1), (2, .int x0)] [] w5_ 0 0
              exact mp_vret hF hQ rfl (Nat.le_of_ble_eq_true rfl) (Nat.le_of_ble_eq_true rfl) [0, 1, 2, 6, 7, 3, 4, 8, 5, 9, 10] (w' := [(mp_ob2 a0 y0 y1 y2 i_7 a11 a2 a3 a12 a13 y4 y5), (mp_arI E a2 0 432 g_20), (mp_arI E a3 0 72 f1), (mp_ob0 a1 a4 y6 a14 a15 a16 a9 a10 a17), (mp_ob7 a4 y7 y8 y9 y10 y11 y12 a18 a19 a20 a5 a21 a6 a22 a23 a7 a8 a24 a25), (mp_arI E a5 0 6 f2), (mp_arI E a6 0 10 f3), (mp_arI E a7 0 10 f4), (mp_arI E a8 0 10 f5), (mp_arL E a9 20 f6), (mp_arI E a10 0 10 g_4)]) rfl rfl ⟨i_7, g_20, g_4, rfl, l_12, u_13, rfl⟩ (by first | exact mp_fd_ok mp_k_cX2_layMissed_ok (by decide +kernel) | decide +kernel)
            · have c_27 : i_19.toInt < y1.toInt := c_27
              let w6_ : va_W := [(mp_ob2 a0 y0 y1 y2 i_7 a11 a2 a3 a12 a13 y4 y5), (mp_arI E a2 0 432 g_20), (mp_arI E a3 0 72 f1), (mp_arI E a5 0 6 f2), (mp_arI E a6 0 10 f3), (mp_arI E a8 0 10 f5), (mp_ob0 a1 a4 y6 a14 a15 a16 a9 a10 a17), (mp_ob7 a4 y7 y8 y9 y10 y11 y12 a18 a19 a20 a5 a21 a6 a22 a23 a7 a8 a24 a25), (mp_arI E a7 0 10 f4), (mp_arL E a9 20 f6), (mp_arI E a10 0 10 g_4)]
              show mp_W E X 10 126 [(6, .int i_19), (5, .int i_6), (4, .ref a10), (3, .ref a4), (0, .ref a0), (1, .ref a1), (2, .int x0)] [] w6_ 0 0
              refine mp_run mp_k_cX2_layMissed_ok hF mp_tabX2_ok [mp_c (.iconst 0) 0, mp_i (.istore 7)] (by decide +kernel) ?_
              show mp_W E X 10 129 [(7, .int 0), (6, .int i_19), (5, .int i_6), (4, .ref a10), (3, .ref a4), (0, .ref a0), (1, .ref a1), (2, .int x0)] [] w6_ 0 0
              have lp_32 : ∀ (d_33 : Nat) (i_28 : Int32) (g_29 : Nat → Int32), 0 ≤ i_28.toInt → i_28.toInt ≤ 6 → y0.toInt - i_28.toInt ≤ (d_33 : Int) → mp_W E X 10 129 [(7, .int i_28), (6, .int i_19), (5, .int i_6), (4, .ref a10), (3, .ref a4), (0, .ref a0), (1, .ref a1), (2, .int x0)] [] [(mp_ob2 a0 y0 y1 y2 i_7 a11 a2 a3 a12 a13 y4 y5), (mp_arI E a2 0 432 g_29), (mp_arI E a3 0 72 f1), (mp_arI E a5 0 6 f2), (mp_arI E a6 0 10 f3), (mp_arI E a8 0 10 f5), (mp_ob0 a1 a4 y6 a14 a15 a16 a9 a10 a17), (mp_ob7 a4 y7 y8 y9 y10 y11 y12 a18 a19 a20 a5 a21 a6 a22 a23 a7 a8 a24 a25), (mp_arI E a7 0 10 f4), (mp_arL E a9 20 f6), (mp_arI E a10 0 10 g_4)] 0 0 := by
                intro d_33
                induction d_33 using Nat.strongRecOn with
                | ind d_33 ih_34 =>
                  intro i_28 g_29 l_30 u_31 hm_35
                  refine mp_run mp_k_cX2_layMissed_ok hF mp_tabX2_ok [mp_i (.iload 7), mp_i (.aload_n 0), mp_h (.getfield 51) [7, 0], mp_h (.if_icmp .ge 91) [226]] (by decide +kernel) ?_
                  refine And.intro rfl (And.intro rfl ?_)
                  refine And.intro (fun c_36 => ?_) (fun c_36 => ?_)
                  · have c_36 : y0.toInt ≤ i_28.toInt := c_36
                    let w7_ : va_W := [(mp_ob2 a0 y0 y1 y2 i_7 a11 a2 a3 a12 a13 y4 y5), (mp_arI E a2 0 432 g_29), (mp_arI E a3 0 72 f1), (mp_arI E a5 0 6 f2), (mp_arI E a6 0 10 f3), (mp_arI E a8 0 10 f5), (mp_ob0 a1 a4 y6 a14 a15 a16 a9 a10 a17), (mp_ob7 a4 y7 y8 y9 y10 y11 y12 a18 a19 a20 a5 a21 a6 a22 a23 a7 a8 a24 a25), (mp_arI E a7 0 10 f4), (mp_arL E a9 20 f6), (mp_arI E a10 0 10 g_4)]
                    show mp_W E X 10 226 [(7, .int i_28), (6, .int i_19), (5, .int i_6), (4, .ref a10), (3, .ref a4), (0, .ref a0), (1, .ref a1), (2, .int x0)] [] w7_ 0 0
                    refine mp_run mp_k_cX2_layMissed_ok hF mp_tabX2_ok [mp_c (.iinc 6 1) 1, mp_h (.goto (-112)) [117]] (by decide +kernel) ?_
                    intro z_37 h_38
                    have e_39 : z_37.toInt = i_19.toInt + 1 := mp_add (a := i_19.toInt) (b := 1) h_38 rfl (by decide) (by (first | exact mp_o2 l_21 | omega)) (by (first | exact mp_o535 u_22 | omega))
                    show mp_W E X 10 117 [(6, .int z_37), (7, .int i_28), (5, .int i_6), (4, .ref a10), (3, .ref a4), (0, .ref a0), (1, .ref a1), (2, .int x0)] [] w7_ 0 0
                    exact mp_sub [0, 2, 3, 4, 5, 6, 7] rfl [0, 1, 2, 3, 4, 5, 6, 7, 8, 9, 10] rfl rfl (ih_25 (d_24 - 1) (by (first | exact mp_o72 hm_26 c_27 | omega)) z_37 g_29 (by (first | exact mp_o51 l_21 e_39 | omega)) (by (first | exact mp_o536 u_y1 c_27 e_39 | omega)) (by (first | exact mp_o77 hm_26 e_39 | omega)))
                  · have c_36 : i_28.toInt < y0.toInt := c_36
                    let w8_ : va_W := [(mp_ob2 a0 y0 y1 y2 i_7 a11 a2 a3 a12 a13 y4 y5), (mp_arI E a2 0 432 g_29), (mp_arI E a3 0 72 f1), (mp_arI E a5 0 6 f2), (mp_arI E a6 0 10 f3), (mp_arI E a8 0 10 f5), (mp_ob0 a1 a4 y6 a14 a15 a16 a9 a10 a17), (mp_ob7 a4 y7 y8 y9 y10 y11 y12 a18 a19 a20 a5 a21 a6 a22 a23 a7 a8 a24 a25), (mp_arI E a7 0 10 f4), (mp_arL E a9 20 f6), (mp_arI E a10 0 10 g_4)]
                    show mp_W E X 10 138 [(7, .int i_28), (6, .int i_19), (5, .int i_6), (4, .ref a10), (3, .ref a4), (0, .ref a0), (1, .ref a1), (2, .int x0)] [] w8_ 0 0
                    refine mp_run mp_k_cX2_layMissed_ok hF mp_tabX2_ok [mp_i (.iload 6), mp_h (.ifCond .ne 8) [148]] (by decide +kernel) ?_
                    refine And.intro (fun c_40 => ?_) (fun c_40 => ?_)
                    · have c_40 : i_19.toInt ≠ 0 := c_40
                      show mp_W E X 10 148 [(7, .int i_28), (6, .int i_19), (5, .int i_6), (4, .ref a10), (3, .ref a4), (0, .ref a0), (1, .ref a1), (2, .int x0)] [] w8_ 0 0
                      refine mp_run mp_k_cX2_layMissed_ok hF mp_tabX2_ok [mp_i (.aload_n 0), mp_h (.getfield 18) [13, 0], mp_i (.iload 6), mp_c (.iconst 1) 1, mp_i .isub, mp_c (.bipush 6) 6, mp_i .imul, mp_i (.iload 7), mp_i .iadd, mp_h .iaload [2], mp_i (.istore 8), mp_c (.iconst 0) 0, mp_i (.istore 9)] (by decide +kernel) ?_
                      refine And.intro rfl (And.intro rfl ?_)
                      intro z_41 h_42
                      have e_43 : z_41.toInt = i_19.toInt - 1 := mp_subi (a := i_19.toInt) (b := 1) h_42 rfl (by decide) (by (first | exact mp_o157 l_21 | omega)) (by (first | exact mp_o555 u_22 | omega))
                      intro z_44 h_45
                      have e_46 : z_44.toInt = z_41.toInt * 6 := mp_mul (a := z_41.toInt) (b := 6) h_45 rfl (by decide) (by (first | exact mp_o556 l_21 e_43 | omega)) (by (first | exact mp_o557 u_22 e_43 | omega))
                      intro z_47 h_48
                      have e_49 : z_47.toInt = z_44.toInt + i_28.toInt := mp_add (a := z_44.toInt) (b := i_28.toInt) h_48 rfl rfl (by (first | exact mp_o558 l_30 l_21 e_43 e_46 | omega)) (by (first | exact mp_o559 u_31 u_22 e_43 e_46 | omega))
                      refine And.intro rfl (And.intro rfl (And.intro (vp_in_iff.mpr (by (first | exact mp_o560 l_21 c_40 u_22 l_30 e_43 e_46 e_49 u_y0 c_36 | omega))) ?_))
                      intro z_50 h_51
                      show mp_W E X 10 168 [(9, .int 0), (8, .int z_50), (7, .int i_28), (6, .int i_19), (5, .int i_6), (4, .ref a10), (3, .ref a4), (0, .ref a0), (1, .ref a1), (2, .int x0)] [] w8_ 0 0
                      have lp_56 : ∀ (d_57 : Nat) (i_52 : Int32) (g_53 : Nat → Int32), 0 ≤ i_52.toInt → i_52.toInt ≤ 6 → y0.toInt - i_52.toInt ≤ (d_57 : Int) → mp_W E X 10 168 [(9, .int i_52), (8, .int z_50), (7, .int i_28), (6, .int i_19), (5, .int i_6), (4, .ref a10), (3, .ref a4), (0, .ref a0), (1, .ref a1), (2, .int x0)] [] [(mp_ob2 a0 y0 y1 y2 i_7 a11 a2 a3 a12 a13 y4 y5), (mp_arI E a2 0 432 g_53), (mp_arI E a3 0 72 f1), (mp_arI E a5 0 6 f2), (mp_arI E a6 0 10 f3), (mp_arI E a8 0 10 f5), (mp_ob0 a1 a4 y6 a14 a15 a16 a9 a10 a17), (mp_ob7 a4 y7 y8 y9 y10 y11 y12 a18 a19 a20 a5 a21 a6 a22 a23 a7 a8 a24 a25), (mp_arI E a7 0 10 f4), (mp_arL E a9 20 f6), (mp_arI E a10 0 10 g_4)] 0 0 := by
                        intro d_57
                        induction d_57 using Nat.strongRecOn with
                        | ind d_57 ih_58 =>
                          intro i_52 g_53 l_54 u_55 hm_59
                          refine mp_run mp_k_cX2_layMissed_ok hF mp_tabX2_ok [mp_i (.iload 9), mp_i (.aload_n 0), mp_h (.getfield 51) [7, 0], mp_h (.if_icmp .ge 46) [220]] (by decide +kernel) ?_
                          refine And.intro rfl (And.intro rfl ?_)
                          refine And.intro (fun c_60 => ?_) (fun c_60 => ?_)
                          · have c_60 : y0.toInt ≤ i_52.toInt := c_60
                            let w9_ : va_W := [(mp_ob2 a0 y0 y1 y2 i_7 a11 a2 a3 a12 a13 y4 y5), (mp_arI E a2 0 432 g_53), (mp_arI E a3 0 72 f1), (mp_arI E a5 0 6 f2), (mp_arI E a6 0 10 f3), (mp_arI E a8 0 10 f5), (mp_ob0 a1 a4 y6 a14 a15 a16 a9 a10 a17), (mp_ob7 a4 y7 y8 y9 y10 y11 y12 a18 a19 a20 a5 a21 a6 a22 a23 a7 a8 a24 a25), (mp_arI E a7 0 10 f4), (mp_arL E a9 20 f6), (mp_arI E a10 0 10 g_4)]
                            show mp_W E X 10 220 [(9, .int i_52), (8, .int z_50), (7, .int i_28), (6, .int i_19), (5, .int i_6), (4, .ref a10), (3, .ref a4), (0, .ref a0), (1, .ref a1), (2, .int x0)] [] w9_ 0 0
                            refine mp_run mp_k_cX2_layMissed_ok hF mp_tabX2_ok [mp_c (.iinc 7 1) 1, mp_h (.goto (-94)) [129]] (by decide +kernel) ?_
                            intro z_61 h_62
                            have e_63 : z_61.toInt = i_28.toInt + 1 := mp_add (a := i_28.toInt) (b := 1) h_62 rfl (by decide) (by (first | exact mp_o2 l_30 | omega)) (by (first | exact mp_o351 u_31 | omega))
                            show mp_W E X 10 129 [(7, .int z_61), (9, .int i_52), (8, .int z_50), (6, .int i_19), (5, .int i_6), (4, .ref a10), (3, .ref a4), (0, .ref a0), (1, .ref a1), (2, .int x0)] [] w9_ 0 0
                            exact mp_sub [0, 3, 4, 5, 6, 7, 8, 9] rfl [0, 1, 2, 3, 4, 5, 6, 7, 8, 9, 10] rfl rfl (ih_34 (d_33 - 1) (by (first | exact mp_o72 hm_35 c_36 | omega)) z_61 g_53 (by (first | exact mp_o51 l_30 e_63 | omega)) (by (first | exact mp_o352 u_y0 c_36 e_63 | omega)) (by (first | exact mp_o77 hm_35 e_63 | omega)))
                          · have c_60 : i_52.toInt < y0.toInt := c_60
                            let w10_ : va_W := [(mp_ob2 a0 y0 y1 y2 i_7 a11 a2 a3 a12 a13 y4 y5), (mp_arI E a2 0 432 g_53), (mp_arI E a3 0 72 f1), (mp_arI E a5 0 6 f2), (mp_arI E a6 0 10 f3), (mp_arI E a8 0 10 f5), (mp_ob0 a1 a4 y6 a14 a15 a16 a9 a10 a17), (mp_ob7 a4 y7 y8 y9 y10 y11 y12 a18 a19 a20 a5 a21 a6 a22 a23 a7 a8 a24 a25), (mp_arI E a7 0 10 f4), (mp_arL E a9 20 f6), (mp_arI E a10 0 10 g_4)]
                            show mp_W E X 10 177 [(9, .int i_52), (8, .int z_50), (7, .int i_28), (6, .int i_19), (5, .int i_6), (4, .ref a10), (3, .ref a4), (0, .ref a0), (1, .ref a1), (2, .int x0)] [] w10_ 0 0
                            refine mp_run mp_k_cX2_layMissed_ok hF mp_tabX2_ok [mp_i (.aload_n 0), mp_h (.getfield 15) [12, 0], mp_i (.iload 6), mp_i (.iload 7), mp_i (.iload 9)] (by decide +kernel) ?_
                            refine And.intro rfl (And.intro rfl ?_)
                            show mp_W E X 10 187 [(9, .int i_52), (8, .int z_50), (7, .int i_28), (6, .int i_19), (5, .int i_6), (4, .ref a10), (3, .ref a4), (0, .ref a0), (1, .ref a1), (2, .int x0)] [.int i_52, .int i_28, .int i_19, .ref a2] w10_ 0 0
                            refine mp_callS hF (As := [.int i_19, .int i_28, .int i_52]) (rest := [.ref a2]) (wr := w10_) (bX2_leg_102 E i_19 i_28 i_52 l_21 (by (first | exact mp_o538 u_y1 c_27 | omega)) l_30 (by (first | exact mp_o398 u_y0 c_36 | omega)) l_54 (by (first | exact mp_o398 u_y0 c_60 | omega))) mp_lkX2_61 [] [0, 1, 2, 3, 4, 5, 6, 7, 8, 9, 10] rfl rfl rfl rfl rfl ⟨(Nat.le_of_ble_eq_true rfl), (Nat.le_of_ble_eq_true rfl), (Nat.le_of_ble_eq_true rfl), (Nat.le_of_ble_eq_true rfl)⟩ (Nat.le_of_ble_eq_true rfl) (by first | exact mp_fd_ok mp_k_cX2_layMissed_ok (by decide +kernel) | decide +kernel) (fun v_64 w_65 h_66 => ?_)
                            obtain ⟨r_67, rfl, l_68, u_69, rfl⟩ := h_66
                            show mp_W E X 10 190 [(9, .int i_52), (8, .int z_50), (7, .int i_28), (6, .int i_19), (5, .int i_6), (4, .ref a10), (3, .ref a4), (0, .ref a0), (1, .ref a1), (2, .int x0)] [.int r_67, .ref a2] w10_ 0 0
                            refine mp_run mp_k_cX2_layMissed_ok hF mp_tabX2_ok [mp_i (.aload_n 0), mp_h (.getfield 95) [10, 0], mp_i (.iload 8), mp_i (.aload_n 0), mp_h (.getfield 18) [13, 0], mp_i (.iload 6), mp_c (.bipush 6) 6, mp_i .imul, mp_i (.iload 9), mp_i .iadd, mp_h .iaload [2], mp_i .ior, mp_c (.iconst (-1)) (-1), mp_i .ixor, mp_i .iand, mp_h .iastore [1]] (by decide +kernel) ?_
                            refine And.intro rfl (And.intro rfl ?_)
                            refine And.intro rfl (And.intro rfl ?_)
                            intro z_70 h_71
                            have e_72 : z_70.toInt = i_19.toInt * 6 := mp_mul (a := i_19.toInt) (b := 6) h_71 rfl (by decide) (by (first | exact mp_o249 l_21 | omega)) (by (first | exact mp_o551 u_22 | omega))
                            intro z_73 h_74
                            have e_75 : z_73.toInt = z_70.toInt + i_52.toInt := mp_add (a := z_70.toInt) (b := i_52.toInt) h_74 rfl rfl (by (first | exact mp_o251 l_54 l_21 e_72 | omega)) (by (first | exact mp_o561 u_55 u_22 e_72 | omega))
                            refine And.intro rfl (And.intro rfl (And.intro (vp_in_iff.mpr (by (first | exact mp_o562 l_21 l_54 e_72 e_75 u_y1 c_27 u_y0 c_60 | omega))) ?_))
                            intro z_76 h_77
                            intro z_78 h_79
                            intro z_81 h_82
                            intro z_84 h_85
                            refine And.intro rfl (And.intro rfl (And.intro (vp_in_iff.mpr (by (first | exact mp_o543 l_68 u_69 | omega))) ?_))
                            intro g_87 h_88
                            let w11_ : va_W := [(mp_ob2 a0 y0 y1 y2 i_7 a11 a2 a3 a12 a13 y4 y5), (mp_arI E a2 0 432 g_87), (mp_arI E a3 0 72 f1), (mp_arI E a5 0 6 f2), (mp_arI E a6 0 10 f3), (mp_arI E a8 0 10 f5), (mp_ob0 a1 a4 y6 a14 a15 a16 a9 a10 a17), (mp_ob7 a4 y7 y8 y9 y10 y11 y12 a18 a19 a20 a5 a21 a6 a22 a23 a7 a8 a24 a25), (mp_arI E a7 0 10 f4), (mp_arL E a9 20 f6), (mp_arI E a10 0 10 g_4)]
                            show mp_W E X 10 214 [(9, .int i_52), (8, .int z_50), (7, .int i_28), (6, .int i_19), (5, .int i_6), (4, .ref a10), (3, .ref a4), (0, .ref a0), (1, .ref a1), (2, .int x0)] [] w11_ 0 0
                            refine mp_run mp_k_cX2_layMissed_ok hF mp_tabX2_ok [mp_c (.iinc 9 1) 1, mp_h (.goto (-49)) [168]] (by decide +kernel) ?_
                            intro z_89 h_90
                            have e_91 : z_89.toInt = i_52.toInt + 1 := mp_add (a := i_52.toInt) (b := 1) h_90 rfl (by decide) (by (first | exact mp_o2 l_54 | omega)) (by (first | exact mp_o351 u_55 | omega))
                            show mp_W E X 10 168 [(9, .int z_89), (8, .int z_50), (7, .int i_28), (6, .int i_19), (5, .int i_6), (4, .ref a10), (3, .ref a4), (0, .ref a0), (1, .ref a1), (2, .int x0)] [] w11_ 0 0
                            exact mp_sub [0, 1, 2, 3, 4, 5, 6, 7, 8, 9] rfl [0, 1, 2, 3, 4, 5, 6, 7, 8, 9, 10] rfl rfl (ih_58 (d_57 - 1) (by (first | exact mp_o72 hm_59 c_60 | omega)) z_89 g_87 (by (first | exact mp_o51 l_54 e_91 | omega)) (by (first | exact mp_o352 u_y0 c_60 e_91 | omega)) (by (first | exact mp_o77 hm_59 e_91 | omega)))
                      exact mp_sub [0, 1, 2, 3, 4, 5, 6, 7, 8, 9] rfl [0, 1, 2, 3, 4, 5, 6, 7, 8, 9, 10] rfl rfl (lp_56 _ 0 g_29 (by decide) (by decide) (Int.self_le_toNat _))
                    · have c_40 : i_19.toInt = 0 := (congrArg Int32.toInt c_40)
                      show mp_W E X 10 143 [(7, .int i_28), (6, .int i_19), (5, .int i_6), (4, .ref a10), (3, .ref a4), (0, .ref a0), (1, .ref a1), (2, .int x0)] [] w8_ 0 0
                      refine mp_run mp_k_cX2_layMissed_ok hF mp_tabX2_ok [mp_i (.iload 5), mp_h (.goto 18) [163], mp_i (.istore 8), mp_c (.iconst 0) 0, mp_i (.istore 9)] (by decide +kernel) ?_
                      show mp_W E X 10 168 [(9, .int 0), (8, .int i_6), (7, .int i_28), (6, .int i_19), (5, .int i_6), (4, .ref a10), (3, .ref a4), (0, .ref a0), (1, .ref a1), (2, .int x0)] [] w8_ 0 0
                      have lp_96 : ∀ (d_97 : Nat) (i_92 : Int32) (g_93 : Nat → Int32), 0 ≤ i_92.toInt → i_92.toInt ≤ 6 → y0.toInt - i_92.toInt ≤ (d_97 : Int) → mp_W E X 10 168 [(9, .int i_92), (8, .int i_6), (7, .int i_28), (6, .int i_19), (5, .int i_6), (4, .ref a10), (3, .ref a4), (0, .ref a0), (1, .ref a1), (2, .int x0)] [] [(mp_ob2 a0 y0 y1 y2 i_7 a11 a2 a3 a12 a13 y4 y5), (mp_arI E a2 0 432 g_93), (mp_arI E a3 0 72 f1), (mp_arI E a5 0 6 f2), (mp_arI E a6 0 10 f3), (mp_arI E a8 0 10 f5), (mp_ob0 a1 a4 y6 a14 a15 a16 a9 a10 a17), (mp_ob7 a4 y7 y8 y9 y10 y11 y12 a18 a19 a20 a5 a21 a6 a22 a23 a7 a8 a24 a25), (mp_arI E a7 0 10 f4), (mp_arL E a9 20 f6), (mp_arI E a10 0 10 g_4)] 0 0 := by
                        intro d_97
                        induction d_97 using Nat.strongRecOn with
                        | ind d_97 ih_98 =>
                          intro i_92 g_93 l_94 u_95 hm_99
                          refine mp_run mp_k_cX2_layMissed_ok hF mp_tabX2_ok [mp_i (.iload 9), mp_i (.aload_n 0), mp_h (.getfield 51) [7, 0], mp_h (.if_icmp .ge 46) [220]] (by decide +kernel) ?_
                          refine And.intro rfl (And.intro rfl ?_)
                          refine And.intro (fun c_100 => ?_) (fun c_100 => ?_)
                          · have c_100 : y0.toInt ≤ i_92.toInt := c_100
                            let w12_ : va_W := [(mp_ob2 a0 y0 y1 y2 i_7 a11 a2 a3 a12 a13 y4 y5), (mp_arI E a2 0 432 g_93), (mp_arI E a3 0 72 f1), (mp_arI E a5 0 6 f2), (mp_arI E a6 0 10 f3), (mp_arI E a8 0 10 f5), (mp_ob0 a1 a4 y6 a14 a15 a16 a9 a10 a17), (mp_ob7 a4 y7 y8 y9 y10 y11 y12 a18 a19 a20 a5 a21 a6 a22 a23 a7 a8 a24 a25), (mp_arI E a7 0 10 f4), (mp_arL E a9 20 f6), (mp_arI E a10 0 10 g_4)]
                            show mp_W E X 10 220 [(9, .int i_92), (8, .int i_6), (7, .int i_28), (6, .int i_19), (5, .int i_6), (4, .ref a10), (3, .ref a4), (0, .ref a0), (1, .ref a1), (2, .int x0)] [] w12_ 0 0
                            refine mp_run mp_k_cX2_layMissed_ok hF mp_tabX2_ok [mp_c (.iinc 7 1) 1, mp_h (.goto (-94)) [129]] (by decide +kernel) ?_
                            intro z_101 h_102
                            have e_103 : z_101.toInt = i_28.toInt + 1 := mp_add (a := i_28.toInt) (b := 1) h_102 rfl (by decide) (by (first | exact mp_o2 l_30 | omega)) (by (first | exact mp_o351 u_31 | omega))
                            show mp_W E X 10 129 [(7, .int z_101), (9, .int i_92), (8, .int i_6), (6, .int i_19), (5, .int i_6), (4, .ref a10), (3, .ref a4), (0, .ref a0), (1, .ref a1), (2, .int x0)] [] w12_ 0 0
                            exact mp_sub [0, 3, 4, 5, 6, 7, 8, 9] rfl [0, 1, 2, 3, 4, 5, 6, 7, 8, 9, 10] rfl rfl (ih_34 (d_33 - 1) (by (first | exact mp_o72 hm_35 c_36 | omega)) z_101 g_93 (by (first | exact mp_o51 l_30 e_103 | omega)) (by (first | exact mp_o537 u_95 c_100 c_36 e_103 | omega)) (by (first | exact mp_o77 hm_35 e_103 | omega)))
                          · have c_100 : i_92.toInt < y0.toInt := c_100
                            let w13_ : va_W := [(mp_ob2 a0 y0 y1 y2 i_7 a11 a2 a3 a12 a13 y4 y5), (mp_arI E a2 0 432 g_93), (mp_arI E a3 0 72 f1), (mp_arI E a5 0 6 f2), (mp_arI E a6 0 10 f3), (mp_arI E a8 0 10 f5), (mp_ob0 a1 a4 y6 a14 a15 a16 a9 a10 a17), (mp_ob7 a4 y7 y8 y9 y10 y11 y12 a18 a19 a20 a5 a21 a6 a22 a23 a7 a8 a24 a25), (mp_arI E a7 0 10 f4), (mp_arL E a9 20 f6), (mp_arI E a10 0 10 g_4)]
                            show mp_W E X 10 177 [(9, .int i_92), (8, .int i_6), (7, .int i_28), (6, .int i_19), (5, .int i_6), (4, .ref a10), (3, .ref a4), (0, .ref a0), (1, .ref a1), (2, .int x0)] [] w13_ 0 0
                            refine mp_run mp_k_cX2_layMissed_ok hF mp_tabX2_ok [mp_i (.aload_n 0), mp_h (.getfield 15) [12, 0], mp_i (.iload 6), mp_i (.iload 7), mp_i (.iload 9)] (by decide +kernel) ?_
                            refine And.intro rfl (And.intro rfl ?_)
                            show mp_W E X 10 187 [(9, .int i_92), (8, .int i_6), (7, .int i_28), (6, .int i_19), (5, .int i_6), (4, .ref a10), (3, .ref a4), (0, .ref a0), (1, .ref a1), (2, .int x0)] [.int i_92, .int i_28, .int i_19, .ref a2] w13_ 0 0
                            refine mp_callS hF (As := [.int i_19, .int i_28, .int i_92]) (rest := [.ref a2]) (wr := w13_) (bX2_leg_102 E i_19 i_28 i_92 l_21 (by (first | exact mp_o563 c_40 | omega)) l_30 (by (first | exact mp_o398 u_y0 c_36 | omega)) l_94 (by (first | exact mp_o398 u_y0 c_100 | omega))) mp_lkX2_61 [] [0, 1, 2, 3, 4, 5, 6, 7, 8, 9, 10] rfl rfl rfl rfl rfl ⟨(Nat.le_of_ble_eq_true rfl), (Nat.le_of_ble_eq_true rfl), (Nat.le_of_ble_eq_true rfl), (Nat.le_of_ble_eq_true rfl)⟩ (Nat.le_of_ble_eq_true rfl) (by first | exact mp_fd_ok mp_k_cX2_layMissed_ok (by decide +kernel) | decide +kernel) (fun v_104 w_105 h_106 => ?_)
                            obtain ⟨r_107, rfl, l_108, u_109, rfl⟩ := h_106
                            show mp_W E X 10 190 [(9, .int i_92), (8, .int i_6), (7, .int i_28), (6, .int i_19), (5, .int i_6), (4, .ref a10), (3, .ref a4), (0, .ref a0), (1, .ref a1), (2, .int x0)] [.int r_107, .ref a2] w13_ 0 0
                            refine mp_run mp_k_cX2_layMissed_ok hF mp_tabX2_ok [mp_i (.aload_n 0), mp_h (.getfield 95) [10, 0], mp_i (.iload 8), mp_i (.aload_n 0), mp_h (.getfield 18) [13, 0], mp_i (.iload 6), mp_c (.bipush 6) 6, mp_i .imul, mp_i (.iload 9), mp_i .iadd, mp_h .iaload [2], mp_i .ior, mp_c (.iconst (-1)) (-1), mp_i .ixor, mp_i .iand, mp_h .iastore [1]] (by decide +kernel) ?_
                            refine And.intro rfl (And.intro rfl ?_)
                            refine And.intro rfl (And.intro rfl ?_)
                            intro z_110 h_111
                            have e_112 : z_110.toInt = i_19.toInt * 6 := mp_mul (a := i_19.toInt) (b := 6) h_111 rfl (by decide) (by (first | exact mp_o564 c_40 | omega)) (by (first | exact mp_o565 c_40 | omega))
                            intro z_113 h_114
                            have e_115 : z_113.toInt = z_110.toInt + i_92.toInt := mp_add (a := z_110.toInt) (b := i_92.toInt) h_114 rfl rfl (by (first | exact mp_o566 l_94 c_40 e_112 | omega)) (by (first | exact mp_o567 u_95 c_40 e_112 | omega))
                            refine And.intro rfl (And.intro rfl (And.intro (vp_in_iff.mpr (by (first | exact mp_o568 l_94 u_95 c_40 e_112 e_115 | omega))) ?_))
                            intro z_116 h_117
                            intro z_118 h_119
                            intro z_121 h_122
                            intro z_124 h_125
                            refine And.intro rfl (And.intro rfl (And.intro (vp_in_iff.mpr (by (first | exact mp_o543 l_108 u_109 | omega))) ?_))
                            intro g_127 h_128
                            let w14_ : va_W := [(mp_ob2 a0 y0 y1 y2 i_7 a11 a2 a3 a12 a13 y4 y5), (mp_arI E a2 0 432 g_127), (mp_arI E a3 0 72 f1), (mp_arI E a5 0 6 f2), (mp_arI E a6 0 10 f3), (mp_arI E a8 0 10 f5), (mp_ob0 a1 a4 y6 a14 a15 a16 a9 a10 a17), (mp_ob7 a4 y7 y8 y9 y10 y11 y12 a18 a19 a20 a5 a21 a6 a22 a23 a7 a8 a24 a25), (mp_arI E a7 0 10 f4), (mp_arL E a9 20 f6), (mp_arI E a10 0 10 g_4)]
                            show mp_W E X 10 214 [(9, .int i_92), (8, .int i_6), (7, .int i_28), (6, .int i_19), (5, .int i_6), (4, .ref a10), (3, .ref a4), (0, .ref a0), (1, .ref a1), (2, .int x0)] [] w14_ 0 0
                            refine mp_run mp_k_cX2_layMissed_ok hF mp_tabX2_ok [mp_c (.iinc 9 1) 1, mp_h (.goto (-49)) [168]] (by decide +kernel) ?_
                            intro z_129 h_130
                            have e_131 : z_129.toInt = i_92.toInt + 1 := mp_add (a := i_92.toInt) (b := 1) h_130 rfl (by decide) (by (first | exact mp_o2 l_94 | omega)) (by (first | exact mp_o351 u_95 | omega))
                            show mp_W E X 10 168 [(9, .int z_129), (8, .int i_6), (7, .int i_28), (6, .int i_19), (5, .int i_6), (4, .ref a10), (3, .ref a4), (0, .ref a0), (1, .ref a1), (2, .int x0)] [] w14_ 0 0
                            exact mp_sub [0, 1, 2, 3, 4, 5, 6, 7, 8, 9] rfl [0, 1, 2, 3, 4, 5, 6, 7, 8, 9, 10] rfl rfl (ih_98 (d_97 - 1) (by (first | exact mp_o72 hm_99 c_100 | omega)) z_129 g_127 (by (first | exact mp_o51 l_94 e_131 | omega)) (by (first | exact mp_o352 u_y0 c_100 e_131 | omega)) (by (first | exact mp_o77 hm_99 e_131 | omega)))
                      exact mp_sub [0, 1, 2, 3, 4, 5, 6, 7, 8, 9] rfl [0, 1, 2, 3, 4, 5, 6, 7, 8, 9, 10] rfl rfl (lp_96 _ 0 g_29 (by decide) (by decide) (Int.self_le_toNat _))
              exact mp_sub [0, 1, 2, 3, 4, 5, 6, 7] rfl [0, 1, 2, 3, 4, 5, 6, 7, 8, 9, 10] rfl rfl (lp_32 _ 0 g_20 (by decide) (by decide) (Int.self_le_toNat _))
        exact mp_sub [0, 1, 2, 3, 4, 5, 6] rfl [0, 1, 2, 3, 4, 5, 6, 7, 8, 9, 10] rfl rfl (lp_23 _ 0 f0 (by decide) (by decide) (Int.self_le_toNat _))
      · have c_18 : i_5.toInt < y11.toInt := c_18
        let w15_ : va_W := [(mp_ob2 a0 y0 y1 y2 i_7 a11 a2 a3 a12 a13 y4 y5), (mp_arI E a2 0 432 f0), (mp_arI E a3 0 72 f1), (mp_arI E a5 0 6 f2), (mp_arI E a6 0 10 f3), (mp_arI E a8 0 10 f5), (mp_ob0 a1 a4 y6 a14 a15 a16 a9 a10 a17), (mp_ob7 a4 y7 y8 y9 y10 y11 y12 a18 a19 a20 a5 a21 a6 a22 a23 a7 a8 a24 a25), (mp_arI E a7 0 10 f4), (mp_arL E a9 20 f6), (mp_arI E a10 0 10 g_4)]
        show mp_W E X 10 35 [(6, .int i_5), (5, .int i_6), (4, .ref a10), (3, .ref a4), (0, .ref a0), (1, .ref a1), (2, .int x0)] [] w15_ 0 0
        refine mp_run mp_k_cX2_layMissed_ok hF mp_tabX2_ok [mp_i (.aload_n 3), mp_h (.getfield 81) [2, 7], mp_i (.iload 6), mp_h .iaload [4], mp_i (.iload_n 2), mp_h (.if_icmp .ne 35) [78]] (by decide +kernel) ?_
        refine And.intro rfl (And.intro rfl ?_)
        refine And.intro rfl (And.intro rfl (And.intro (vp_in_iff.mpr (by (first | exact mp_o381 l_8 u_y11 c_18 | omega))) ?_))
        intro z_132 h_133
        have e_134 : 0 ≤ z_132.toInt ∧ z_132.toInt ≤ 5 := mp_all_ld h_133 p0 (by (first | exact l_8 | omega)) (by (first | exact mp_o382 u_y11 c_18 | omega))
        refine And.intro (fun c_135 => ?_) (fun c_135 => ?_)
        · have c_135 : z_132.toInt ≠ x0.toInt := c_135
          show mp_W E X 10 78 [(6, .int i_5), (5, .int i_6), (4, .ref a10), (3, .ref a4), (0, .ref a0), (1, .ref a1), (2, .int x0)] [] w15_ 0 0
          refine mp_run mp_k_cX2_layMissed_ok hF mp_tabX2_ok [mp_i (.aload_n 3), mp_i (.iload 6), mp_i (.aload 4), mp_i (.iload 6), mp_h .iaload [10], mp_i (.aload_n 1), mp_h (.getfield 65) [5, 6], mp_c (.iconst 1) 1, mp_i .iadd] (by decide +kernel) ?_
          refine And.intro rfl (And.intro rfl (And.intro (vp_in_iff.mpr (by (first | exact mp_o381 l_8 u_y11 c_18 | omega))) ?_))
          intro z_136 h_137
          refine And.intro rfl (And.intro rfl ?_)
          intro z_138 h_139
          have e_140 : z_138.toInt = y6.toInt + 1 := mp_add (a := y6.toInt) (b := 1) h_139 rfl (by decide) (by (first | exact mp_o2 l_y6 | omega)) (by (first | exact mp_o330 u_y6 | omega))
          show mp_W E X 10 92 [(6, .int i_5), (5, .int i_6), (4, .ref a10), (3, .ref a4), (0, .ref a0), (1, .ref a1), (2, .int x0)] [.int z_138, .int z_136, .int i_5, .ref a4] w15_ 0 0
          refine mp_callV hF (As := [.int i_5, .int z_136, .int z_138]) (rest := []) (wr := [(mp_ob2 a0 y0 y1 y2 i_7 a11 a2 a3 a12 a13 y4 y5), (mp_arI E a2 0 432 f0), (mp_arI E a3 0 72 f1), (mp_ob0 a1 a4 y6 a14 a15 a16 a9 a10 a17), (mp_arL E a9 20 f6), (mp_arI E a10 0 10 g_4)]) (bX7_ownHalvings_62 E a4 a5 a6 a7 a8 a18 a19 a20 a21 a22 a23 a24 a25 f2 f3 f4 f5 y7 y8 y9 y10 y11 y12 i_5 z_136 z_138 p0 p1 p2 l_8 (by (first | exact mp_o419 u_y11 c_18 | omega)) l_y8 u_y8 l_y9 u_y9 l_y10 u_y10 l_y11 u_y11 l_y12 u_y12) mp_lkX2_98 7 rfl [7, 3, 4, 8, 5] [0, 1, 2, 6, 9, 10] rfl rfl rfl rfl rfl ⟨(Nat.le_of_ble_eq_true rfl), (Nat.le_of_ble_eq_true rfl), (Nat.le_of_ble_eq_true rfl), (Nat.le_of_ble_eq_true rfl)⟩ (Nat.le_of_ble_eq_true rfl) (by first | exact mp_fd_ok mp_k_cX2_layMissed_ok (by decide +kernel) | decide +kernel) (fun v_141 w_142 h_143 => ?_)
          obtain ⟨r_144, rfl, rfl⟩ := h_143
          let w16_ : va_W := [(mp_ob2 a0 y0 y1 y2 i_7 a11 a2 a3 a12 a13 y4 y5), (mp_arI E a2 0 432 f0), (mp_arI E a3 0 72 f1), (mp_ob0 a1 a4 y6 a14 a15 a16 a9 a10 a17), (mp_arL E a9 20 f6), (mp_arI E a10 0 10 g_4), (mp_ob7 a4 y7 y8 y9 y10 y11 y12 a18 a19 a20 a5 a21 a6 a22 a23 a7 a8 a24 a25), (mp_arI E a5 0 6 f2), (mp_arI E a6 0 10 f3), (mp_arI E a7 0 10 f4), (mp_arI E a8 0 10 f5)]
          show mp_W E X 10 95 [(6, .int i_5), (5, .int i_6), (4, .ref a10), (3, .ref a4), (0, .ref a0), (1, .ref a1), (2, .int x0)] [.int r_144] w16_ 0 0
          refine mp_run mp_k_cX2_layMissed_ok hF mp_tabX2_ok [mp_c (.iconst 1) 1, mp_h (.if_icmp .gt 12) [108]] (by decide +kernel) ?_
          refine And.intro (fun c_145 => ?_) (fun c_145 => ?_)
          · have c_145 : 1 < r_144.toInt := c_145
            show mp_W E X 10 108 [(6, .int i_5), (5, .int i_6), (4, .ref a10), (3, .ref a4), (0, .ref a0), (1, .ref a1), (2, .int x0)] [] w16_ 0 0
            refine mp_run mp_k_cX2_layMissed_ok hF mp_tabX2_ok [mp_c (.iinc 6 1) 1, mp_h (.goto (-85)) [26]] (by decide +kernel) ?_
            intro z_146 h_147
            have e_148 : z_146.toInt = i_5.toInt + 1 := mp_add (a := i_5.toInt) (b := 1) h_147 rfl (by decide) (by (first | exact mp_o2 l_8 | omega)) (by (first | exact mp_o420 u_9 | omega))
            show mp_W E X 10 26 [(6, .int z_146), (5, .int i_6), (4, .ref a10), (3, .ref a4), (0, .ref a0), (1, .ref a1), (2, .int x0)] [] w16_ 0 0
            exact mp_sub [0, 1, 2, 3, 4, 5, 6] rfl [0, 1, 2, 7, 8, 10, 3, 6, 9, 4, 5] rfl rfl (ih_16 (d_15 - 1) (by (first | exact mp_o72 hm_17 c_18 | omega)) z_146 i_6 i_7 (by (first | exact mp_o51 l_8 e_148 | omega)) (by (first | exact mp_o421 u_y11 c_18 e_148 | omega)) l_10 u_11 l_12 u_13 (by (first | exact mp_o77 hm_17 e_148 | omega)))
          · have c_145 : r_144.toInt ≤ 1 := c_145
            show mp_W E X 10 99 [(6, .int i_5), (5, .int i_6), (4, .ref a10), (3, .ref a4), (0, .ref a0), (1, .ref a1), (2, .int x0)] [] w16_ 0 0
            refine mp_run mp_k_cX2_layMissed_ok hF mp_tabX2_ok [mp_i (.iload 5), mp_c (.iconst 1) 1, mp_i (.iload 6), mp_i .ishl, mp_i .ior, mp_i (.istore 5), mp_c (.iinc 6 1) 1, mp_h (.goto (-85)) [26]] (by decide +kernel) ?_
            intro z_149 h_150
            have e_152 : 1 ≤ z_149.toInt ∧ z_149.toInt ≤ 512 := mp_shl10 h_150 (by (first | exact l_8 | omega)) (by (first | exact mp_o419 u_y11 c_18 | omega))
            intro z_153 h_154
            have e_156 : 0 ≤ z_153.toInt ∧ z_153.toInt ≤ 1023 := mp_or10 h_154 ⟨by (first | exact l_10 | omega), by (first | exact u_11 | omega)⟩ ⟨by (first | exact mp_o463 e_152 | omega), by (first | exact mp_o464 e_152 | omega)⟩
            intro z_157 h_158
            have e_159 : z_157.toInt = i_5.toInt + 1 := mp_add (a := i_5.toInt) (b := 1) h_158 rfl (by decide) (by (first | exact mp_o2 l_8 | omega)) (by (first | exact mp_o420 u_9 | omega))
            show mp_W E X 10 26 [(6, .int z_157), (5, .int z_153), (4, .ref a10), (3, .ref a4), (0, .ref a0), (1, .ref a1), (2, .int x0)] [] w16_ 0 0
            exact mp_sub [0, 1, 2, 3, 4, 5, 6] rfl [0, 1, 2, 7, 8, 10, 3, 6, 9, 4, 5] rfl rfl (ih_16 (d_15 - 1) (by (first | exact mp_o72 hm_17 c_18 | omega)) z_157 z_153 i_7 (by (first | exact mp_o51 l_8 e_159 | omega)) (by (first | exact mp_o421 u_y11 c_18 e_159 | omega)) (by (first | exact mp_o465 e_156 | omega)) (by (first | exact mp_o466 e_156 | omega)) l_12 u_13 (by (first | exact mp_o77 hm_17 e_159 | omega)))
        · have c_135 : z_132.toInt = x0.toInt := (congrArg Int32.toInt c_135)
          show mp_W E X 10 46 [(6, .int i_5), (5, .int i_6), (4, .ref a10), (3, .ref a4), (0, .ref a0), (1, .ref a1), (2, .int x0)] [] w15_ 0 0
          refine mp_run mp_k_cX2_layMissed_ok hF mp_tabX2_ok [mp_i (.aload_n 3), mp_i (.iload 6), mp_i (.aload 4), mp_i (.iload 6), mp_h .iaload [10], mp_i (.aload_n 1), mp_h (.getfield 65) [5, 6]] (by decide +kernel) ?_
          refine And.intro rfl (And.intro rfl (And.intro (vp_in_iff.mpr (by (first | exact mp_o381 l_8 u_y11 c_18 | omega))) ?_))
          intro z_160 h_161
          refine And.intro rfl (And.intro rfl ?_)
          show mp_W E X 10 58 [(6, .int i_5), (5, .int i_6), (4, .ref a10), (3, .ref a4), (0, .ref a0), (1, .ref a1), (2, .int x0)] [.int y6, .int z_160, .int i_5, .ref a4] w15_ 0 0
          refine mp_callV hF (As := [.int i_5, .int z_160, .int y6]) (rest := []) (wr := [(mp_ob2 a0 y0 y1 y2 i_7 a11 a2 a3 a12 a13 y4 y5), (mp_arI E a2 0 432 f0), (mp_arI E a3 0 72 f1), (mp_ob0 a1 a4 y6 a14 a15 a16 a9 a10 a17), (mp_arL E a9 20 f6), (mp_arI E a10 0 10 g_4)]) (bX7_ownHalvings_62 E a4 a5 a6 a7 a8 a18 a19 a20 a21 a22 a23 a24 a25 f2 f3 f4 f5 y7 y8 y9 y10 y11 y12 i_5 z_160 y6 p0 p1 p2 l_8 (by (first | exact mp_o419 u_y11 c_18 | omega)) l_y8 u_y8 l_y9 u_y9 l_y10 u_y10 l_y11 u_y11 l_y12 u_y12) mp_lkX2_98 7 rfl [7, 3, 4, 8, 5] [0, 1, 2, 6, 9, 10] rfl rfl rfl rfl rfl ⟨(Nat.le_of_ble_eq_true rfl), (Nat.le_of_ble_eq_true rfl), (Nat.le_of_ble_eq_true rfl), (Nat.le_of_ble_eq_true rfl)⟩ (Nat.le_of_ble_eq_true rfl) (by first | exact mp_fd_ok mp_k_cX2_layMissed_ok (by decide +kernel) | decide +kernel) (fun v_162 w_163 h_164 => ?_)
          obtain ⟨r_165, rfl, rfl⟩ := h_164
          let w17_ : va_W := [(mp_ob2 a0 y0 y1 y2 i_7 a11 a2 a3 a12 a13 y4 y5), (mp_arI E a2 0 432 f0), (mp_arI E a3 0 72 f1), (mp_ob0 a1 a4 y6 a14 a15 a16 a9 a10 a17), (mp_arL E a9 20 f6), (mp_arI E a10 0 10 g_4), (mp_ob7 a4 y7 y8 y9 y10 y11 y12 a18 a19 a20 a5 a21 a6 a22 a23 a7 a8 a24 a25), (mp_arI E a5 0 6 f2), (mp_arI E a6 0 10 f3), (mp_arI E a7 0 10 f4), (mp_arI E a8 0 10 f5)]
          show mp_W E X 10 61 [(6, .int i_5), (5, .int i_6), (4, .ref a10), (3, .ref a4), (0, .ref a0), (1, .ref a1), (2, .int x0)] [.int r_165] w17_ 0 0
          refine mp_run mp_k_cX2_layMissed_ok hF mp_tabX2_ok [mp_c (.iconst 1) 1, mp_h (.if_icmp .gt 16) [78]] (by decide +kernel) ?_
          refine And.intro (fun c_166 => ?_) (fun c_166 => ?_)
          · have c_166 : 1 < r_165.toInt := c_166
            show mp_W E X 10 78 [(6, .int i_5), (5, .int i_6), (4, .ref a10), (3, .ref a4), (0, .ref a0), (1, .ref a1), (2, .int x0)] [] w17_ 0 0
            refine mp_run mp_k_cX2_layMissed_ok hF mp_tabX2_ok [mp_i (.aload_n 3), mp_i (.iload 6), mp_i (.aload 4), mp_i (.iload 6), mp_h .iaload [5], mp_i (.aload_n 1), mp_h (.getfield 65) [5, 3], mp_c (.iconst 1) 1, mp_i .iadd] (by decide +kernel) ?_
            refine And.intro rfl (And.intro rfl (And.intro (vp_in_iff.mpr (by (first | exact mp_o381 l_8 u_y11 c_18 | omega))) ?_))
            intro z_167 h_168
            have k_169 : z_160 = z_167 := h_161.trans h_168.symm
            subst k_169
            refine And.intro rfl (And.intro rfl ?_)
            intro z_170 h_171
            have e_172 : z_170.toInt = y6.toInt + 1 := mp_add (a := y6.toInt) (b := 1) h_171 rfl (by decide) (by (first | exact mp_o2 l_y6 | omega)) (by (first | exact mp_o330 u_y6 | omega))
            show mp_W E X 10 92 [(6, .int i_5), (5, .int i_6), (4, .ref a10), (3, .ref a4), (0, .ref a0), (1, .ref a1), (2, .int x0)] [.int z_170, .int z_160, .int i_5, .ref a4] w17_ 0 0
            refine mp_callV hF (As := [.int i_5, .int z_160, .int z_170]) (rest := []) (wr := [(mp_ob2 a0 y0 y1 y2 i_7 a11 a2 a3 a12 a13 y4 y5), (mp_arI E a2 0 432 f0), (mp_arI E a3 0 72 f1), (mp_ob0 a1 a4 y6 a14 a15 a16 a9 a10 a17), (mp_arL E a9 20 f6), (mp_arI E a10 0 10 g_4)]) (bX7_ownHalvings_62 E a4 a5 a6 a7 a8 a18 a19 a20 a21 a22 a23 a24 a25 f2 f3 f4 f5 y7 y8 y9 y10 y11 y12 i_5 z_160 z_170 p0 p1 p2 l_8 (by omega) l_y8 u_y8 l_y9 u_y9 l_y10 u_y10 l_y11 u_y11 l_y12 u_y12) mp_lkX2_98 6 rfl [6, 7, 8, 9, 10] [0, 1, 2, 3, 4, 5] rfl rfl rfl rfl rfl ⟨(Nat.le_of_ble_eq_true rfl), (Nat.le_of_ble_eq_true rfl), (Nat.le_of_ble_eq_true rfl), (Nat.le_of_ble_eq_true rfl)⟩ (Nat.le_of_ble_eq_true rfl) (by first | exact mp_fd_ok mp_k_cX2_layMissed_ok (by decide +kernel) | decide +kernel) (fun v_173 w_174 h_175 => ?_)
            obtain ⟨r_176, rfl, rfl⟩ := h_175
            show mp_W E X 10 95 [(6, .int i_5), (5, .int i_6), (4, .ref a10), (3, .ref a4), (0, .ref a0), (1, .ref a1), (2, .int x0)] [.int r_176] w17_ 0 0
            refine mp_run mp_k_cX2_layMissed_ok hF mp_tabX2_ok [mp_c (.iconst 1) 1, mp_h (.if_icmp .gt 12) [108]] (by decide +kernel) ?_
            refine And.intro (fun c_177 => ?_) (fun c_177 => ?_)
            · have c_177 : 1 < r_176.toInt := c_177
              show mp_W E X 10 108 [(6, .int i_5), (5, .int i_6), (4, .ref a10), (3, .ref a4), (0, .ref a0), (1, .ref a1), (2, .int x0)] [] w17_ 0 0
              refine mp_run mp_k_cX2_layMissed_ok hF mp_tabX2_ok [mp_c (.iinc 6 1) 1, mp_h (.goto (-85)) [26]] (by decide +kernel) ?_
              intro z_178 h_179
              have e_180 : z_178.toInt = i_5.toInt + 1 := mp_add (a := i_5.toInt) (b := 1) h_179 rfl (by decide) (by (first | exact mp_o2 l_8 | omega)) (by (first | exact mp_o420 u_9 | omega))
              show mp_W E X 10 26 [(6, .int z_178), (5, .int i_6), (4, .ref a10), (3, .ref a4), (0, .ref a0), (1, .ref a1), (2, .int x0)] [] w17_ 0 0
              exact mp_sub [0, 1, 2, 3, 4, 5, 6] rfl [0, 1, 2, 7, 8, 10, 3, 6, 9, 4, 5] rfl rfl (ih_16 (d_15 - 1) (by (first | exact mp_o72 hm_17 c_18 | omega)) z_178 i_6 i_7 (by (first | exact mp_o51 l_8 e_180 | omega)) (by (first | exact mp_o421 u_y11 c_18 e_180 | omega)) l_10 u_11 l_12 u_13 (by (first | exact mp_o77 hm_17 e_180 | omega)))
            · have c_177 : r_176.toInt ≤ 1 := c_177
              show mp_W E X 10 99 [(6, .int i_5), (5, .int i_6), (4, .ref a10), (3, .ref a4), (0, .ref a0), (1, .ref a1), (2, .int x0)] [] w17_ 0 0
              refine mp_run mp_k_cX2_layMissed_ok hF mp_tabX2_ok [mp_i (.iload 5), mp_c (.iconst 1) 1, mp_i (.iload 6), mp_i .ishl, mp_i .ior, mp_i (.istore 5), mp_c (.iinc 6 1) 1, mp_h (.goto (-85)) [26]] (by decide +kernel) ?_
              intro z_181 h_182
              have e_184 : 1 ≤ z_181.toInt ∧ z_181.toInt ≤ 512 := mp_shl10 h_182 (by (first | exact l_8 | omega)) (by (first | exact mp_o419 u_y11 c_18 | omega))
              intro z_185 h_186
              have e_188 : 0 ≤ z_185.toInt ∧ z_185.toInt ≤ 1023 := mp_or10 h_186 ⟨by (first | exact l_10 | omega), by (first | exact u_11 | omega)⟩ ⟨by (first | exact mp_o463 e_184 | omega), by (first | exact mp_o464 e_184 | omega)⟩
              intro z_189 h_190
              have e_191 : z_189.toInt = i_5.toInt + 1 := mp_add (a := i_5.toInt) (b := 1) h_190 rfl (by decide) (by (first | exact mp_o2 l_8 | omega)) (by (first | exact mp_o420 u_9 | omega))
              show mp_W E X 10 26 [(6, .int z_189), (5, .int z_185), (4, .ref a10), (3, .ref a4), (0, .ref a0), (1, .ref a1), (2, .int x0)] [] w17_ 0 0
              exact mp_sub [0, 1, 2, 3, 4, 5, 6] rfl [0, 1, 2, 7, 8, 10, 3, 6, 9, 4, 5] rfl rfl (ih_16 (d_15 - 1) (by (first | exact mp_o72 hm_17 c_18 | omega)) z_189 z_185 i_7 (by (first | exact mp_o51 l_8 e_191 | omega)) (by (first | exact mp_o421 u_y11 c_18 e_191 | omega)) (by (first | exact mp_o465 e_188 | omega)) (by (first | exact mp_o466 e_188 | omega)) l_12 u_13 (by (first | exact mp_o77 hm_17 e_191 | omega)))
          · have c_166 : r_165.toInt ≤ 1 := c_166
            show mp_W E X 10 65 [(6, .int i_5), (5, .int i_6), (4, .ref a10), (3, .ref a4), (0, .ref a0), (1, .ref a1), (2, .int x0)] [] w17_ 0 0
            refine mp_run mp_k_cX2_layMissed_ok hF mp_tabX2_ok [mp_i (.aload_n 0), mp_i .dup, mp_h (.getfield 95) [10, 0], mp_c (.iconst 1) 1, mp_i (.iload 6), mp_i .ishl, mp_i .ior, mp_h (.putfield 95) [10, 0]] (by decide +kernel) ?_
            refine And.intro rfl ?_
            refine And.intro rfl (And.intro rfl ?_)
            intro z_192 h_193
            have e_195 : 1 ≤ z_192.toInt ∧ z_192.toInt ≤ 512 := mp_shl10 h_193 (by (first | exact l_8 | omega)) (by omega)
            intro z_196 h_197
            have e_199 : 0 ≤ z_196.toInt ∧ z_196.toInt ≤ 1023 := mp_or10 h_197 ⟨by (first | exact l_12 | omega), by (first | exact u_13 | omega)⟩ ⟨by (first | exact mp_o463 e_195 | omega), by (first | exact mp_o464 e_195 | omega)⟩
            refine And.intro rfl (And.intro rfl (And.intro rfl (And.intro rfl (And.intro (Nat.le_of_ble_eq_true rfl) ?_))))
            let w18_ : va_W := [(mp_ob2 a0 y0 y1 y2 z_196 a11 a2 a3 a12 a13 y4 y5), (mp_arI E a2 0 432 f0), (mp_arI E a3 0 72 f1), (mp_ob0 a1 a4 y6 a14 a15 a16 a9 a10 a17), (mp_arL E a9 20 f6), (mp_arI E a10 0 10 g_4), (mp_ob7 a4 y7 y8 y9 y10 y11 y12 a18 a19 a20 a5 a21 a6 a22 a23 a7 a8 a24 a25), (mp_arI E a5 0 6 f2), (mp_arI E a6 0 10 f3), (mp_arI E a7 0 10 f4), (mp_arI E a8 0 10 f5)]
            show mp_W E X 10 78 [(6, .int i_5), (5, .int i_6), (4, .ref a10), (3, .ref a4), (0, .ref a0), (1, .ref a1), (2, .int x0)] [] w18_ 0 0
            refine mp_run mp_k_cX2_layMissed_ok hF mp_tabX2_ok [mp_i (.aload_n 3), mp_i (.iload 6), mp_i (.aload 4), mp_i (.iload 6), mp_h .iaload [5], mp_i (.aload_n 1), mp_h (.getfield 65) [5, 3], mp_c (.iconst 1) 1, mp_i .iadd] (by decide +kernel) ?_
            refine And.intro rfl (And.intro rfl (And.intro (vp_in_iff.mpr (by (first | exact mp_o381 l_8 u_y11 c_18 | omega))) ?_))
            intro z_200 h_201
            have k_202 : z_160 = z_200 := h_161.trans h_201.symm
            subst k_202
            refine And.intro rfl (And.intro rfl ?_)
            intro z_203 h_204
            have e_205 : z_203.toInt = y6.toInt + 1 := mp_add (a := y6.toInt) (b := 1) h_204 rfl (by decide) (by (first | exact mp_o2 l_y6 | omega)) (by (first | exact mp_o330 u_y6 | omega))
            show mp_W E X 10 92 [(6, .int i_5), (5, .int i_6), (4, .ref a10), (3, .ref a4), (0, .ref a0), (1, .ref a1), (2, .int x0)] [.int z_203, .int z_160, .int i_5, .ref a4] w18_ 0 0
            refine mp_callV hF (As := [.int i_5, .int z_160, .int z_203]) (rest := []) (wr := [(mp_ob2 a0 y0 y1 y2 z_196 a11 a2 a3 a12 a13 y4 y5), (mp_arI E a2 0 432 f0), (mp_arI E a3 0 72 f1), (mp_ob0 a1 a4 y6 a14 a15 a16 a9 a10 a17), (mp_arL E a9 20 f6), (mp_arI E a10 0 10 g_4)]) (bX7_ownHalvings_62 E a4 a5 a6 a7 a8 a18 a19 a20 a21 a22 a23 a24 a25 f2 f3 f4 f5 y7 y8 y9 y10 y11 y12 i_5 z_160 z_203 p0 p1 p2 l_8 (by (first | exact mp_o419 u_y11 c_18 | omega)) l_y8 u_y8 l_y9 u_y9 l_y10 u_y10 l_y11 u_y11 l_y12 u_y12) mp_lkX2_98 6 rfl [6, 7, 8, 9, 10] [0, 1, 2, 3, 4, 5] rfl rfl rfl rfl rfl ⟨(Nat.le_of_ble_eq_true rfl), (Nat.le_of_ble_eq_true rfl), (Nat.le_of_ble_eq_true rfl), (Nat.le_of_ble_eq_true rfl)⟩ (Nat.le_of_ble_eq_true rfl) (by first | exact mp_fd_ok mp_k_cX2_layMissed_ok (by decide +kernel) | decide +kernel) (fun v_206 w_207 h_208 => ?_)
            obtain ⟨r_209, rfl, rfl⟩ := h_208
            show mp_W E X 10 95 [(6, .int i_5), (5, .int i_6), (4, .ref a10), (3, .ref a4), (0, .ref a0), (1, .ref a1), (2, .int x0)] [.int r_209] w18_ 0 0
            refine mp_run mp_k_cX2_layMissed_ok hF mp_tabX2_ok [mp_c (.iconst 1) 1, mp_h (.if_icmp .gt 12) [108]] (by decide +kernel) ?_
            refine And.intro (fun c_210 => ?_) (fun c_210 => ?_)
            · have c_210 : 1 < r_209.toInt := c_210
              show mp_W E X 10 108 [(6, .int i_5), (5, .int i_6), (4, .ref a10), (3, .ref a4), (0, .ref a0), (1, .ref a1), (2, .int x0)] [] w18_ 0 0
              refine mp_run mp_k_cX2_layMissed_ok hF mp_tabX2_ok [mp_c (.iinc 6 1) 1, mp_h (.goto (-85)) [26]] (by decide +kernel) ?_
              intro z_211 h_212
              have e_213 : z_211.toInt = i_5.toInt + 1 := mp_add (a := i_5.toInt) (b := 1) h_212 rfl (by decide) (by omega) (by omega)
              show mp_W E X 10 26 [(6, .int z_211), (5, .int i_6), (4, .ref a10), (3, .ref a4), (0, .ref a0), (1, .ref a1), (2, .int x0)] [] w18_ 0 0
              exact mp_sub [0, 1, 2, 3, 4, 5, 6] rfl [0, 1, 2, 7, 8, 10, 3, 6, 9, 4, 5] rfl rfl (ih_16 (d_15 - 1) (by omega) z_211 i_6 z_196 (by omega) (by omega) l_10 u_11 (by (first | exact mp_o465 e_199 | omega)) (by (first | exact mp_o466 e_199 | omega)) (by omega))
            · have c_210 : r_209.toInt ≤ 1 := c_210
              show mp_W E X 10 99 [(6, .int i_5), (5, .int i_6), (4, .ref a10), (3, .ref a4), (0, .ref a0), (1, .ref a1), (2, .int x0)] [] w18_ 0 0
              refine mp_run mp_k_cX2_layMissed_ok hF mp_tabX2_ok [mp_i (.iload 5), mp_c (.iconst 1) 1, mp_i (.iload 6), mp_i .ishl, mp_i .ior, mp_i (.istore 5), mp_c (.iinc 6 1) 1, mp_h (.goto (-85)) [26]] (by decide +kernel) ?_
              intro z_214 h_215
              have e_217 : 1 ≤ z_214.toInt ∧ z_214.toInt ≤ 512 := mp_shl10 h_215 (by (first | exact l_8 | omega)) (by (first | exact mp_o419 u_y11 c_18 | omega))
              intro z_218 h_219
              have e_221 : 0 ≤ z_218.toInt ∧ z_218.toInt ≤ 1023 := mp_or10 h_219 ⟨by (first | exact l_10 | omega), by (first | exact u_11 | omega)⟩ ⟨by (first | exact mp_o463 e_217 | omega), by (first | exact mp_o464 e_217 | omega)⟩
              intro z_222 h_223
              have e_224 : z_222.toInt = i_5.toInt + 1 := mp_add (a := i_5.toInt) (b := 1) h_223 rfl (by decide) (by (first | exact mp_o2 l_8 | omega)) (by (first | exact mp_o420 u_9 | omega))
              show mp_W E X 10 26 [(6, .int z_222), (5, .int z_218), (4, .ref a10), (3, .ref a4), (0, .ref a0), (1, .ref a1), (2, .int x0)] [] w18_ 0 0
              exact mp_sub [0, 1, 2, 3, 4, 5, 6] rfl [0, 1, 2, 7, 8, 10, 3, 6, 9, 4, 5] rfl rfl (ih_16 (d_15 - 1) (by (first | exact mp_o72 hm_17 c_18 | omega)) z_222 z_218 z_196 (by (first | exact mp_o51 l_8 e_224 | omega)) (by (first | exact mp_o421 u_y11 c_18 e_224 | omega)) (by (first | exact mp_o465 e_221 | omega)) (by (first | exact mp_o466 e_221 | omega)) (by (first | exact mp_o465 e_199 | omega)) (by (first | exact mp_o466 e_199 | omega)) (by (first | exact mp_o77 hm_17 e_224 | omega)))
  exact mp_sub [0, 1, 2, 3, 4, 5, 6] rfl [0, 1, 2, 3, 4, 5, 6, 7, 8, 9, 10] rfl rfl (lp_14 _ 0 0 0 (by decide) (by decide) (by decide) (by decide) (by decide) (by decide) (Int.self_le_toNat _))
set_option maxHeartbeats 4000000 in
set_option maxRecDepth 100000 in
theorem bX2_prepare_107 (E : mp_E) (a0 a1 a2 a3 a4 a5 a6 a7 a8 a9 a10 a11 a12 a13 a14 a15 a16 a17 a18 a19 a20 a21 a22 a23 a24 a25 : Nat) (f0 : Nat → Int32) (f1 : Nat → Int32) (f2 : Nat → Int32) (f3 : Nat → Int32) (f4 : Nat → Int64) (f5 : Nat → Int32) (f6 : Nat → Int32) (f7 : Nat → Int32) (f8 : Nat → Int32) (f9 : Nat → Int32) (f10 : Nat → Int32) (f11 : Nat → Int64) (f12 : Nat → Int32) (y0 : Int32) (y1 : Int32) (y2 : Int32) (y3 : Int32) (y4 : Int32) (y5 : Int32) (y6 : Int32) (y7 : Int32) (y8 : Int32) (y9 : Int32) (y10 : Int32) (y11 : Int32) (y12 : Int32) (x0 : Int32) (x1 : Int32) (p0 : mp_all f3 36 0 20) (p1 : mp_all f6 10 0 5) (p2 : mp_all f7 10 0 5) (p3 : mp_all f8 10 0 99) (p4 : mp_all f9 10 0 1) (p5 : mp_all f10 6 0 5) (l_x0 : 0 ≤ x0.toInt) (u_x0 : x0.toInt ≤ 5) (l_x1 : 0 ≤ x1.toInt) (u_x1 : x1.toInt ≤ 12) (l_y0 : 0 ≤ y0.toInt) (u_y0 : y0.toInt ≤ 6) (l_y1 : 0 ≤ y1.toInt) (u_y1 : y1.toInt ≤ 12) (l_y2 : 0 ≤ y2.toInt) (u_y2 : y2.toInt ≤ 5) (l_y6 : 0 ≤ y6.toInt) (u_y6 : y6.toInt ≤ 99) (l_y8 : 0 ≤ y8.toInt) (u_y8 : y8.toInt ≤ 6) (l_y9 : 0 ≤ y9.toInt) (u_y9 : y9.toInt ≤ 99) (l_y10 : 0 ≤ y10.toInt) (u_y10 : y10.toInt ≤ 6) (l_y11 : 0 ≤ y11.toInt) (u_y11 : y11.toInt ≤ 10) (l_y12 : 0 ≤ y12.toInt) (u_y12 : y12.toInt ≤ 60) (q0 : y6.toInt + x1.toInt ≤ 99) : mp_Ct E yX2_prepare cX2_prepare 4 none 4 0 0 91 [.ref a0, .ref a1, .int x0, .int x1] [(mp_ob2 a0 y0 y1 y2 y3 a2 a3 a4 a16 a17 y4 y5), (mp_arI E a2 0 432 f0), (mp_arI E a3 0 432 f1), (mp_arI E a4 0 72 f2), (mp_ob0 a1 a5 y6 a13 a18 a19 a14 a15 a20), (mp_ob7 a5 y7 y8 y9 y10 y11 y12 a6 a7 a21 a8 a22 a9 a10 a23 a11 a12 a24 a25), (mp_arI E a6 0 36 f3), (mp_arL E a7 12 f4), (mp_arI E a8 0 6 f5), (mp_arI E a9 0 10 f6), (mp_arI E a10 0 10 f7), (mp_arI E a11 0 10 f8), (mp_arI E a12 0 10 f9), (mp_arI E a13 0 6 f10), (mp_arL E a14 20 f11), (mp_arI E a15 0 10 f12)] (fun v w' => ∃ r1 : Int32, ∃ r2 : Int32, ∃ h3 : Nat → Int32, ∃ h4 : Nat → Int32, ∃ h5 : Nat → Int32, ∃ h6 : Nat → Int32, v = none ∧ 0 ≤ r1.toInt ∧ r1.toInt ≤ 5 ∧ 0 ≤ r2.toInt ∧ r2.toInt ≤ 1023 ∧ w' = [(mp_ob2 a0 y8 x1 r1 r2 a2 a3 a4 a16 a17 y4 y5), (mp_arI E a2 0 432 h3), (mp_arI E a3 0 432 h4), (mp_arI E a4 0 72 h5), (mp_ob0 a1 a5 y6 a13 a18 a19 a14 a15 a20), (mp_ob7 a5 y7 y8 y9 y10 y11 y12 a6 a7 a21 a8 a22 a9 a10 a23 a11 a12 a24 a25), (mp_arI E a6 0 36 f3), (mp_arL E a7 12 f4), (mp_arI E a8 0 6 f5), (mp_arI E a9 0 10 f6), (mp_arI E a10 0 10 f7), (mp_arI E a11 0 10 f8), (mp_arI E a12 0 10 f9), (mp_arI E a13 0 6 f10), (mp_arL E a14 20 f11), (mp_arI E a15 0 10 h6)]) := by
  refine mp_met false (by decide) (by decide) (Nat.le_of_ble_eq_true rfl) (fun X hF hQ => ?_)
  have hF : mp_F E X (RX2, cX2_prepare, 4, (4, 0, 0, 91), none, false) := hF
  let w1_ : va_W := [(mp_ob2 a0 y0 y1 y2 y3 a2 a3 a4 a16 a17 y4 y5), (mp_arI E a2 0 432 f0), (mp_arI E a3 0 432 f1), (mp_arI E a4 0 72 f2), (mp_ob0 a1 a5 y6 a13 a18 a19 a14 a15 a20), (mp_ob7 a5 y7 y8 y9 y10 y11 y12 a6 a7 a21 a8 a22 a9 a10 a23 a11 a12 a24 a25), (mp_arI E a6 0 36 f3), (mp_arL E a7 12 f4), (mp_arI E a8 0 6 f5), (mp_arI E a9 0 10 f6), (mp_arI E a10 0 10 f7), (mp_arI E a11 0 10 f8), (mp_arI E a12 0 10 f9), (mp_arI E a13 0 6 f10), (mp_arL E a14 20 f11), (mp_arI E a15 0 10 f12)]
  show mp_W E X 4 0 [(0, .ref a0), (1, .ref a1), (2, .int x0), (3, .int x1)] [] w1_ 0 0
  refine mp_run mp_k_cX2_prepare_ok hF mp_tabX2_ok [mp_i (.aload_n 0), mp_i (.aload_n 1), mp_i (.iload_n 2), mp_i (.iload_n 3)] (by decide +kernel) ?_
  show mp_W E X 4 4 [(0, .ref a0), (1, .ref a1), (2, .int x0), (3, .int x1)] [.int x1, .int x0, .ref a1, .ref a0] w1_ 0 0
  refine mp_callV hF (As := [.ref a1, .int x0, .int x1]) (rest := []) (wr := [(mp_arI E a3 0 432 f1), (mp_arI E a4 0 72 f2), (mp_arI E a9 0 10 f6), (mp_arI E a10 0 10 f7), (mp_arI E a11 0 10 f8), (mp_arI E a12 0 10 f9), (mp_arL E a14 20 f11), (mp_arI E a15 0 10 f12)]) (bX2_layLegs_103 E a0 a1 a2 a5 a6 a7 a8 a13 a3 a4 a16 a17 a18 a19 a14 a15 a20 a21 a22 a9 a10 a23 a11 a12 a24 a25 f0 f3 f4 f5 f10 y0 y1 y2 y3 y4 y5 y6 y7 y8 y9 y10 y11 y12 x0 x1 p0 p5 l_x0 u_x0 l_x1 u_x1 l_y0 u_y0 l_y1 u_y1 l_y2 u_y2 l_y6 u_y6 l_y8 u_y8 l_y9 u_y9 l_y10 u_y10 l_y11 u_y11 l_y12 u_y12 (by first | (first | exact q0 | omega) | (show y6.toInt + x1.toInt ≤ 99; omega))) mp_lkX2_28 0 rfl [0, 1, 4, 5, 6, 7, 8, 13] [2, 3, 9, 10, 11, 12, 14, 15] rfl rfl rfl rfl rfl ⟨(Nat.le_of_ble_eq_true rfl), (Nat.le_of_ble_eq_true rfl), (Nat.le_of_ble_eq_true rfl), (Nat.le_of_ble_eq_true rfl)⟩ (Nat.le_of_ble_eq_true rfl) (by first | exact mp_fd_ok mp_k_cX2_prepare_ok (by decide +kernel) | decide +kernel) (fun v_1 w_2 h_3 => ?_)
  refine h_3.elim fun r_4 q_8 => q_8.elim fun g_5 q_9 => q_9.elim fun e_10 q_11 => q_11.elim fun l_6 q_12 => q_12.elim fun u_7 e_13 => ?_
  clear h_3 q_8 q_9 q_11 q_12
  subst e_10
  subst e_13
  let w2_ : va_W := [(mp_arI E a3 0 432 f1), (mp_arI E a4 0 72 f2), (mp_arI E a9 0 10 f6), (mp_arI E a10 0 10 f7), (mp_arI E a11 0 10 f8), (mp_arI E a12 0 10 f9), (mp_arL E a14 20 f11), (mp_arI E a15 0 10 f12), (mp_ob2 a0 y8 x1 r_4 y3 a2 a3 a4 a16 a17 y4 y5), (mp_arI E a2 0 432 g_5), (mp_ob0 a1 a5 y6 a13 a18 a19 a14 a15 a20), (mp_ob7 a5 y7 y8 y9 y10 y11 y12 a6 a7 a21 a8 a22 a9 a10 a23 a11 a12 a24 a25), (mp_arI E a6 0 36 f3), (mp_arL E a7 12 f4), (mp_arI E a8 0 6 f5), (mp_arI E a13 0 6 f10)]
  show mp_W E X 4 7 [(0, .ref a0), (1, .ref a1), (2, .int x0), (3, .int x1)] [] w2_ 0 0
  refine mp_run mp_k_cX2_prepare_ok hF mp_tabX2_ok [mp_i (.aload_n 0), mp_i (.aload_n 1), mp_i (.iload_n 2)] (by decide +kernel) ?_
  show mp_W E X 4 10 [(0, .ref a0), (1, .ref a1), (2, .int x0), (3, .int x1)] [.int x0, .ref a1, .ref a0] w2_ 0 0
  refine mp_callV hF (As := [.ref a1, .int x0]) (rest := []) (wr := [(mp_arI E a3 0 432 f1), (mp_arI E a11 0 10 f8), (mp_arI E a12 0 10 f9), (mp_arL E a14 20 f11), (mp_arI E a15 0 10 f12), (mp_arI E a2 0 432 g_5), (mp_arI E a6 0 36 f3), (mp_arL E a7 12 f4)]) (bX2_laySpoken_105 E a0 a1 a4 a5 a8 a9 a10 a13 a2 a3 a16 a17 a18 a19 a14 a15 a20 a6 a7 a21 a22 a23 a11 a12 a24 a25 f2 f5 f6 f7 f10 y8 x1 r_4 y3 y4 y5 y6 y7 y8 y9 y10 y11 y12 x0 p1 p2 p5 l_x0 u_x0 l_y8 u_y8 l_x1 u_x1 l_6 u_7 l_y6 u_y6 l_y8 u_y8 l_y9 u_y9 l_y10 u_y10 l_y11 u_y11 l_y12 u_y12) mp_lkX2_32 8 rfl [8, 1, 10, 11, 14, 2, 3, 15] [0, 4, 5, 6, 7, 9, 12, 13] rfl rfl rfl rfl rfl ⟨(Nat.le_of_ble_eq_true rfl), (Nat.le_of_ble_eq_true rfl), (Nat.le_of_ble_eq_true rfl), (Nat.le_of_ble_eq_true rfl)⟩ (Nat.le_of_ble_eq_true rfl) (by first | exact mp_fd_ok mp_k_cX2_prepare_ok (by decide +kernel) | decide +kernel) (fun v_14 w_15 h_16 => ?_)
  obtain ⟨g_17, rfl, rfl⟩ := h_16
  let w3_ : va_W := [(mp_arI E a3 0 432 f1), (mp_arI E a11 0 10 f8), (mp_arI E a12 0 10 f9), (mp_arL E a14 20 f11), (mp_arI E a15 0 10 f12), (mp_arI E a2 0 432 g_5), (mp_arI E a6 0 36 f3), (mp_arL E a7 12 f4), (mp_ob2 a0 y8 x1 r_4 y3 a2 a3 a4 a16 a17 y4 y5), (mp_arI E a4 0 72 g_17), (mp_ob0 a1 a5 y6 a13 a18 a19 a14 a15 a20), (mp_ob7 a5 y7 y8 y9 y10 y11 y12 a6 a7 a21 a8 a22 a9 a10 a23 a11 a12 a24 a25), (mp_arI E a8 0 6 f5), (mp_arI E a9 0 10 f6), (mp_arI E a10 0 10 f7), (mp_arI E a13 0 6 f10)]
  show mp_W E X 4 13 [(0, .ref a0), (1, .ref a1), (2, .int x0), (3, .int x1)] [] w3_ 0 0
  refine mp_run mp_k_cX2_prepare_ok hF mp_tabX2_ok [mp_i (.aload_n 0), mp_i (.aload_n 1), mp_i (.iload_n 2)] (by decide +kernel) ?_
  show mp_W E X 4 16 [(0, .ref a0), (1, .ref a1), (2, .int x0), (3, .int x1)] [.int x0, .ref a1, .ref a0] w3_ 0 0
  refine mp_callV hF (As := [.ref a1, .int x0]) (rest := []) (wr := [(mp_arI E a2 0 432 g_5), (mp_arI E a6 0 36 f3), (mp_arL E a7 12 f4), (mp_arI E a10 0 10 f7), (mp_arI E a13 0 6 f10)]) (bX2_layMissed_106 E a0 a1 a3 a4 a5 a8 a9 a11 a12 a14 a15 a2 a16 a17 a13 a18 a19 a20 a6 a7 a21 a22 a10 a23 a24 a25 f1 g_17 f5 f6 f8 f9 f11 f12 y8 x1 r_4 y3 y4 y5 y6 y7 y8 y9 y10 y11 y12 x0 p1 p3 p4 l_x0 u_x0 l_y8 u_y8 l_x1 u_x1 l_6 u_7 l_y6 u_y6 l_y8 u_y8 l_y9 u_y9 l_y10 u_y10 l_y11 u_y11 l_y12 u_y12) mp_lkX2_36 8 rfl [8, 0, 9, 10, 11, 12, 13, 1, 2, 3, 4] [5, 6, 7, 14, 15] rfl rfl rfl rfl rfl ⟨(Nat.le_of_ble_eq_true rfl), (Nat.le_of_ble_eq_true rfl), (Nat.le_of_ble_eq_true rfl), (Nat.le_of_ble_eq_true rfl)⟩ (Nat.le_of_ble_eq_true rfl) (by first | exact mp_fd_ok mp_k_cX2_prepare_ok (by decide +kernel) | decide +kernel) (fun v_18 w_19 h_20 => ?_)
  refine h_20.elim fun r_21 q_26 => q_26.elim fun g_22 q_27 => q_27.elim fun g_23 q_28 => q_28.elim fun e_29 q_30 => q_30.elim fun l_24 q_31 => q_31.elim fun u_25 e_32 => ?_
  clear h_20 q_26 q_27 q_28 q_30 q_31
  subst e_29
  subst e_32
  let w4_ : va_W := [(mp_arI E a2 0 432 g_5), (mp_arI E a6 0 36 f3), (mp_arL E a7 12 f4), (mp_arI E a10 0 10 f7), (mp_arI E a13 0 6 f10), (mp_ob2 a0 y8 x1 r_4 r_21 a2 a3 a4 a16 a17 y4 y5), (mp_arI E a3 0 432 g_22), (mp_arI E a4 0 72 g_17), (mp_ob0 a1 a5 y6 a13 a18 a19 a14 a15 a20), (mp_ob7 a5 y7 y8 y9 y10 y11 y12 a6 a7 a21 a8 a22 a9 a10 a23 a11 a12 a24 a25), (mp_arI E a8 0 6 f5), (mp_arI E a9 0 10 f6), (mp_arI E a11 0 10 f8), (mp_arI E a12 0 10 f9), (mp_arL E a14 20 f11), (mp_arI E a15 0 10 g_23)]
  show mp_W E X 4 19 [(0, .ref a0), (1, .ref a1), (2, .int x0), (3, .int x1)] [] w4_ 0 0
  exact mp_vret hF hQ rfl (Nat.le_of_ble_eq_true rfl) (Nat.le_of_ble_eq_true rfl) [5, 0, 6, 7, 8, 9, 1, 2, 10, 11, 3, 12, 13, 4, 14, 15] (w' := [(mp_ob2 a0 y8 x1 r_4 r_21 a2 a3 a4 a16 a17 y4 y5), (mp_arI E a2 0 432 g_5), (mp_arI E a3 0 432 g_22), (mp_arI E a4 0 72 g_17), (mp_ob0 a1 a5 y6 a13 a18 a19 a14 a15 a20), (mp_ob7 a5 y7 y8 y9 y10 y11 y12 a6 a7 a21 a8 a22 a9 a10 a23 a11 a12 a24 a25), (mp_arI E a6 0 36 f3), (mp_arL E a7 12 f4), (mp_arI E a8 0 6 f5), (mp_arI E a9 0 10 f6), (mp_arI E a10 0 10 f7), (mp_arI E a11 0 10 f8), (mp_arI E a12 0 10 f9), (mp_arI E a13 0 6 f10), (mp_arL E a14 20 f11), (mp_arI E a15 0 10 g_23)]) rfl rfl ⟨r_4, r_21, g_5, g_22, g_17, g_23, rfl, l_6, u_7, l_24, u_25, rfl⟩ (by first | exact mp_fd_ok mp_k_cX2_prepare_ok (by decide +kernel) | decide +kernel)
set_option maxHeartbeats 4000000 in
set_option maxRecDepth 100000 in
theorem bX2_isKeeping_108 (E : mp_E) (a0 a1 a2 a3 a4 a5 : Nat) (f0 : Nat → Int32) (f1 : Nat → Int32) (y0 : Int32) (y1 : Int32) (y2 : Int32) (y3 : Int32) (y4 : Int32) (y5 : Int32) (x0 : Int32) (l_x0 : 0 ≤ x0.toInt) (u_x0 : x0.toInt ≤ 431) (l_y0 : 0 ≤ y0.toInt) (u_y0 : y0.toInt ≤ 6) (l_y1 : 0 ≤ y1.toInt) (u_y1 : y1.toInt ≤ 12) (l_y2 : 0 ≤ y2.toInt) (u_y2 : y2.toInt ≤ 5) : mp_Ct E yX2_isKeeping cX2_isKeeping 2 (some FieldType.boolean) 0 0 0 0 [.ref a0, .int x0] [(mp_ob2 a0 y0 y1 y2 y3 a1 a2 a3 a4 a5 y4 y5), (mp_arI E a1 0 432 f0), (mp_arI E a2 0 432 f1)] (fun v w' => (v = some (.int 0) ∧ w' = [(mp_ob2 a0 y0 y1 y2 y3 a1 a2 a3 a4 a5 y4 y5), (mp_arI E a1 0 432 f0), (mp_arI E a2 0 432 f1)]) ∨ (v = some (.int 1) ∧ w' = [(mp_ob2 a0 y0 y1 y2 y3 a1 a2 a3 a4 a5 y4 y5), (mp_arI E a1 0 432 f0), (mp_arI E a2 0 432 f1)])) := by
  refine mp_met false (by decide) (by decide) (Nat.le_of_ble_eq_true rfl) (fun X hF hQ => ?_)
  have hF : mp_F E X (RX2, cX2_isKeeping, 2, (0, 0, 0, 0), (some FieldType.boolean), false) := hF
  let w1_ : va_W := [(mp_ob2 a0 y0 y1 y2 y3 a1 a2 a3 a4 a5 y4 y5), (mp_arI E a1 0 432 f0), (mp_arI E a2 0 432 f1)]
  show mp_W E X 2 0 [(0, .ref a0), (1, .int x0)] [] w1_ 0 0
  refine mp_run mp_k_cX2_isKeeping_ok hF mp_tabX2_ok [mp_i (.aload_n 0), mp_h (.getfield 11) [11, 0], mp_i (.iload_n 1), mp_h .iaload [1], mp_c (.iconst (-1)) (-1), mp_h (.if_icmp .eq 16) [23]] (by decide +kernel) ?_
  refine And.intro rfl (And.intro rfl ?_)
  refine And.intro rfl (And.intro rfl (And.intro (vp_in_iff.mpr (by (first | exact mp_o543 l_x0 u_x0 | omega))) ?_))
  intro z_1 h_2
  refine And.intro (fun c_3 => ?_) (fun c_3 => ?_)
  · have c_3 : z_1.toInt = (-1) := (congrArg Int32.toInt c_3)
    show mp_W E X 2 23 [(0, .ref a0), (1, .int x0)] [] w1_ 0 0
    refine mp_run mp_k_cX2_isKeeping_ok hF mp_tabX2_ok [mp_c (.iconst 0) 0] (by decide +kernel) ?_
    show mp_W E X 2 24 [(0, .ref a0), (1, .int x0)] [.int 0] w1_ 0 0
    exact mp_iret hF hQ rfl (by decide) (Nat.le_of_ble_eq_true rfl) (Nat.le_of_ble_eq_true rfl) [0, 1, 2] (w' := w1_) rfl rfl (Or.inl ⟨rfl, rfl⟩) (by first | exact mp_fd_ok mp_k_cX2_isKeeping_ok (by decide +kernel) | decide +kernel)
  · have c_3 : z_1.toInt ≠ (-1) := c_3
    show mp_W E X 2 10 [(0, .ref a0), (1, .int x0)] [] w1_ 0 0
    refine mp_run mp_k_cX2_isKeeping_ok hF mp_tabX2_ok [mp_i (.aload_n 0), mp_h (.getfield 15) [12, 0], mp_i (.iload_n 1), mp_h .iaload [2], mp_h (.ifCond .ne 7) [23]] (by decide +kernel) ?_
    refine And.intro rfl (And.intro rfl ?_)
    refine And.intro rfl (And.intro rfl (And.intro (vp_in_iff.mpr (by (first | exact mp_o543 l_x0 u_x0 | omega))) ?_))
    intro z_4 h_5
    refine And.intro (fun c_6 => ?_) (fun c_6 => ?_)
    · have c_6 : z_4.toInt ≠ 0 := c_6
      show mp_W E X 2 23 [(0, .ref a0), (1, .int x0)] [] w1_ 0 0
      refine mp_run mp_k_cX2_isKeeping_ok hF mp_tabX2_ok [mp_c (.iconst 0) 0] (by decide +kernel) ?_
      show mp_W E X 2 24 [(0, .ref a0), (1, .int x0)] [.int 0] w1_ 0 0
      exact mp_iret hF hQ rfl (by decide) (Nat.le_of_ble_eq_true rfl) (Nat.le_of_ble_eq_true rfl) [0, 1, 2] (w' := w1_) rfl rfl (Or.inl ⟨rfl, rfl⟩) (by first | exact mp_fd_ok mp_k_cX2_isKeeping_ok (by decide +kernel) | decide +kernel)
    · have c_6 : z_4.toInt = 0 := (congrArg Int32.toInt c_6)
      show mp_W E X 2 19 [(0, .ref a0), (1, .int x0)] [] w1_ 0 0
      refine mp_run mp_k_cX2_isKeeping_ok hF mp_tabX2_ok [mp_c (.iconst 1) 1, mp_h (.goto 4) [24]] (by decide +kernel) ?_
      show mp_W E X 2 24 [(0, .ref a0), (1, .int x0)] [.int 1] w1_ 0 0
      exact mp_iret hF hQ rfl (by decide) (Nat.le_of_ble_eq_true rfl) (Nat.le_of_ble_eq_true rfl) [0, 1, 2] (w' := w1_) rfl rfl (Or.inr ⟨rfl, rfl⟩) (by first | exact mp_fd_ok mp_k_cX2_isKeeping_ok (by decide +kernel) | decide +kernel)
set_option maxHeartbeats 4000000 in
set_option maxRecDepth 100000 in
theorem bX2_oarsBy_109 (E : mp_E) (a0 a1 a2 a3 a4 a5 : Nat) (f0 : Nat → Int32) (f1 : Nat → Int32) (f2 : Nat → Int32) (y0 : Int32) (y1 : Int32) (y2 : Int32) (y3 : Int32) (y4 : Int32) (y5 : Int32) (x0 : Int32) (x1 : Int32) (x2 : Int32) (l_x0 : 0 ≤ x0.toInt) (u_x0 : x0.toInt ≤ 11) (l_x1 : 0 ≤ x1.toInt) (u_x1 : x1.toInt ≤ 5) (l_x2 : 0 ≤ x2.toInt) (u_x2 : x2.toInt ≤ 5) (l_y0 : 0 ≤ y0.toInt) (u_y0 : y0.toInt ≤ 6) (l_y1 : 0 ≤ y1.toInt) (u_y1 : y1.toInt ≤ 12) (l_y2 : 0 ≤ y2.toInt) (u_y2 : y2.toInt ≤ 5) : mp_Ct E yX2_oarsBy cX2_oarsBy 6 (some FieldType.int) 1 0 0 22 [.ref a0, .int x0, .int x1, .int x2] [(mp_ob2 a0 y0 y1 y2 y3 a1 a2 a4 a3 a5 y4 y5), (mp_arI E a1 0 432 f0), (mp_arI E a2 0 432 f1), (mp_arI E a3 0 78 f2)] (fun v w' => ∃ r1 : Int32, v = some (.int r1) ∧ w' = [(mp_ob2 a0 y0 y1 y2 y3 a1 a2 a4 a3 a5 y4 y5), (mp_arI E a1 0 432 f0), (mp_arI E a2 0 432 f1), (mp_arI E a3 0 78 f2)]) := by
  refine mp_met false (by decide) (by decide) (Nat.le_of_ble_eq_true rfl) (fun X hF hQ => ?_)
  have hF : mp_F E X (RX2, cX2_oarsBy, 6, (1, 0, 0, 22), (some FieldType.int), false) := hF
  let w1_ : va_W := [(mp_ob2 a0 y0 y1 y2 y3 a1 a2 a4 a3 a5 y4 y5), (mp_arI E a1 0 432 f0), (mp_arI E a2 0 432 f1), (mp_arI E a3 0 78 f2)]
  show mp_W E X 6 0 [(0, .ref a0), (1, .int x0), (2, .int x1), (3, .int x2)] [] w1_ 0 0
  refine mp_run mp_k_cX2_oarsBy_ok hF mp_tabX2_ok [mp_i (.iload_n 1), mp_i (.iload_n 2), mp_i (.iload_n 3)] (by decide +kernel) ?_
  show mp_W E X 6 3 [(0, .ref a0), (1, .int x0), (2, .int x1), (3, .int x2)] [.int x2, .int x1, .int x0] w1_ 0 0
  refine mp_callS hF (As := [.int x0, .int x1, .int x2]) (rest := []) (wr := w1_) (bX2_leg_102 E x0 x1 x2 l_x0 u_x0 l_x1 u_x1 l_x2 u_x2) mp_lkX2_61 [] [0, 1, 2, 3] rfl rfl rfl rfl rfl ⟨(Nat.le_of_ble_eq_true rfl), (Nat.le_of_ble_eq_true rfl), (Nat.le_of_ble_eq_true rfl), (Nat.le_of_ble_eq_true rfl)⟩ (Nat.le_of_ble_eq_true rfl) (by first | exact mp_fd_ok mp_k_cX2_oarsBy_ok (by decide +kernel) | decide +kernel) (fun v_1 w_2 h_3 => ?_)
  obtain ⟨r_4, rfl, l_5, u_6, rfl⟩ := h_3
  show mp_W E X 6 6 [(0, .ref a0), (1, .int x0), (2, .int x1), (3, .int x2)] [.int r_4] w1_ 0 0
  refine mp_run mp_k_cX2_oarsBy_ok hF mp_tabX2_ok [mp_i (.istore 4), mp_i (.aload_n 0), mp_h (.getfield 21) [14, 0], mp_i (.iload_n 1), mp_c (.iconst 1) 1, mp_i .iadd, mp_c (.bipush 6) 6, mp_i .imul, mp_i (.iload_n 3), mp_i .iadd, mp_h .iaload [3], mp_i (.istore 5), mp_i (.iload 5), mp_c (.iconst (-1)) (-1), mp_h (.if_icmp .eq 12) [38]] (by decide +kernel) ?_
  refine And.intro rfl (And.intro rfl ?_)
  intro z_7 h_8
  have e_9 : z_7.toInt = x0.toInt + 1 := mp_add (a := x0.toInt) (b := 1) h_8 rfl (by decide) (by (first | exact mp_o2 l_x0 | omega)) (by (first | exact mp_o569 u_x0 | omega))
  intro z_10 h_11
  have e_12 : z_10.toInt = z_7.toInt * 6 := mp_mul (a := z_7.toInt) (b := 6) h_11 rfl (by decide) (by (first | exact mp_o570 l_x0 e_9 | omega)) (by (first | exact mp_o571 u_x0 e_9 | omega))
  intro z_13 h_14
  have e_15 : z_13.toInt = z_10.toInt + x2.toInt := mp_add (a := z_10.toInt) (b := x2.toInt) h_14 rfl rfl (by (first | exact mp_o572 l_x2 l_x0 e_9 e_12 | omega)) (by (first | exact mp_o573 u_x2 u_x0 e_9 e_12 | omega))
  refine And.intro rfl (And.intro rfl (And.intro (vp_in_iff.mpr (by (first | exact mp_o574 l_x0 u_x0 l_x2 u_x2 e_9 e_12 e_15 | omega))) ?_))
  intro z_16 h_17
  refine And.intro (fun c_18 => ?_) (fun c_18 => ?_)
  · have c_18 : z_16.toInt = (-1) := (congrArg Int32.toInt c_18)
    show mp_W E X 6 38 [(5, .int z_16), (4, .int r_4), (0, .ref a0), (1, .int x0), (2, .int x1), (3, .int x2)] [] w1_ 0 0
    refine mp_run mp_k_cX2_oarsBy_ok hF mp_tabX2_ok [mp_c (.iconst (-1)) (-1), mp_h (.goto 13) [52]] (by decide +kernel) ?_
    show mp_W E X 6 52 [(5, .int z_16), (4, .int r_4), (0, .ref a0), (1, .int x0), (2, .int x1), (3, .int x2)] [.int (-1)] w1_ 0 0
    exact mp_iret hF hQ rfl rfl (Nat.le_of_ble_eq_true rfl) (Nat.le_of_ble_eq_true rfl) [0, 1, 2, 3] (w' := w1_) rfl rfl ⟨(-1), rfl, rfl⟩ (by first | exact mp_fd_ok mp_k_cX2_oarsBy_ok (by decide +kernel) | decide +kernel)
  · have c_18 : z_16.toInt ≠ (-1) := c_18
    show mp_W E X 6 29 [(5, .int z_16), (4, .int r_4), (0, .ref a0), (1, .int x0), (2, .int x1), (3, .int x2)] [] w1_ 0 0
    refine mp_run mp_k_cX2_oarsBy_ok hF mp_tabX2_ok [mp_i (.aload_n 0), mp_i (.iload 4)] (by decide +kernel) ?_
    show mp_W E X 6 32 [(5, .int z_16), (4, .int r_4), (0, .ref a0), (1, .int x0), (2, .int x1), (3, .int x2)] [.int r_4, .ref a0] w1_ 0 0
    refine mp_callV hF (As := [.int r_4]) (rest := []) (wr := [(mp_arI E a3 0 78 f2)]) (bX2_isKeeping_108 E a0 a1 a2 a4 a3 a5 f0 f1 y0 y1 y2 y3 y4 y5 r_4 l_5 u_6 l_y0 u_y0 l_y1 u_y1 l_y2 u_y2) mp_lkX2_108 0 rfl [0, 1, 2] [3] rfl rfl rfl rfl rfl ⟨(Nat.le_of_ble_eq_true rfl), (Nat.le_of_ble_eq_true rfl), (Nat.le_of_ble_eq_true rfl), (Nat.le_of_ble_eq_true rfl)⟩ (Nat.le_of_ble_eq_true rfl) (by first | exact mp_fd_ok mp_k_cX2_oarsBy_ok (by decide +kernel) | decide +kernel) (fun v_19 w_20 h_21 => ?_)
    rcases h_21 with ⟨rfl, rfl⟩ | ⟨rfl, rfl⟩
    · skip
      let w2_ : va_W := [(mp_arI E a3 0 78 f2), (mp_ob2 a0 y0 y1 y2 y3 a1 a2 a4 a3 a5 y4 y5), (mp_arI E a1 0 432 f0), (mp_arI E a2 0 432 f1)]
      show mp_W E X 6 35 [(5, .int z_16), (4, .int r_4), (0, .ref a0), (1, .int x0), (2, .int x1), (3, .int x2)] [.int 0] w2_ 0 0
      refine mp_run mp_k_cX2_oarsBy_ok hF mp_tabX2_ok [mp_h (.ifCond .ne 7) [42]] (by decide +kernel) ?_
      refine And.intro (fun c_22 => absurd c_22 (by decide)) (fun _ => ?_)
      show mp_W E X 6 38 [(5, .int z_16), (4, .int r_4), (0, .ref a0), (1, .int x0), (2, .int x1), (3, .int x2)] [] w2_ 0 0
      refine mp_run mp_k_cX2_oarsBy_ok hF mp_tabX2_ok [mp_c (.iconst (-1)) (-1), mp_h (.goto 13) [52]] (by decide +kernel) ?_
      show mp_W E X 6 52 [(5, .int z_16), (4, .int r_4), (0, .ref a0), (1, .int x0), (2, .int x1), (3, .int x2)] [.int (-1)] w2_ 0 0
      exact mp_iret hF hQ rfl rfl (Nat.le_of_ble_eq_true rfl) (Nat.le_of_ble_eq_true rfl) [1, 2, 3, 0] (w' := w1_) rfl rfl ⟨(-1), rfl, rfl⟩ (by first | exact mp_fd_ok mp_k_cX2_oarsBy_ok (by decide +kernel) | decide +kernel)
    · skip
      let w3_ : va_W := [(mp_arI E a3 0 78 f2), (mp_ob2 a0 y0 y1 y2 y3 a1 a2 a4 a3 a5 y4 y5), (mp_arI E a1 0 432 f0), (mp_arI E a2 0 432 f1)]
      show mp_W E X 6 35 [(5, .int z_16), (4, .int r_4), (0, .ref a0), (1, .int x0), (2, .int x1), (3, .int x2)] [.int 1] w3_ 0 0
      refine mp_run mp_k_cX2_oarsBy_ok hF mp_tabX2_ok [mp_h (.ifCond .ne 7) [42]] (by decide +kernel) ?_
      refine And.intro (fun _ => ?_) (fun c_23 => absurd c_23 (by decide))
      show mp_W E X 6 42 [(5, .int z_16), (4, .int r_4), (0, .ref a0), (1, .int x0), (2, .int x1), (3, .int x2)] [] w3_ 0 0
      refine mp_run mp_k_cX2_oarsBy_ok hF mp_tabX2_ok [mp_i (.iload 5), mp_i (.aload_n 0), mp_h (.getfield 11) [11, 1], mp_i (.iload 4), mp_h .iaload [2], mp_i .iadd] (by decide +kernel) ?_
      refine And.intro rfl (And.intro rfl ?_)
      refine And.intro rfl (And.intro rfl (And.intro (vp_in_iff.mpr (by (first | exact mp_o543 l_5 u_6 | omega))) ?_))
      intro z_24 h_25
      intro z_26 h_27
      have e_28 := mp_bnd z_16
      show mp_W E X 6 52 [(5, .int z_16), (4, .int r_4), (0, .ref a0), (1, .int x0), (2, .int x1), (3, .int x2)] [.int z_26] w3_ 0 0
      exact mp_iret hF hQ rfl rfl (Nat.le_of_ble_eq_true rfl) (Nat.le_of_ble_eq_true rfl) [1, 2, 3, 0] (w' := w1_) rfl rfl ⟨z_26, rfl, rfl⟩ (by first | exact mp_fd_ok mp_k_cX2_oarsBy_ok (by decide +kernel) | decide +kernel)
set_option maxHeartbeats 4000000 in
set_option maxRecDepth 100000 in
theorem bX2_leastFrom_110 (E : mp_E) (a0 a1 a2 a3 a4 a5 : Nat) (f0 : Nat → Int32) (f1 : Nat → Int32) (f2 : Nat → Int32) (y0 : Int32) (y1 : Int32) (y2 : Int32) (y3 : Int32) (y4 : Int32) (y5 : Int32) (x0 : Int32) (x1 : Int32) (l_x0 : 0 ≤ x0.toInt) (u_x0 : x0.toInt ≤ 11) (l_x1 : 0 ≤ x1.toInt) (u_x1 : x1.toInt ≤ 5) (l_y0 : 0 ≤ y0.toInt) (u_y0 : y0.toInt ≤ 6) (l_y1 : 0 ≤ y1.toInt) (u_y1 : y1.toInt ≤ 12) (l_y2 : 0 ≤ y2.toInt) (u_y2 : y2.toInt ≤ 5) : mp_Ct E yX2_leastFrom cX2_leastFrom 6 (some FieldType.int) 2 0 0 47 [.ref a0, .int x0, .int x1] [(mp_ob2 a0 y0 y1 y2 y3 a1 a2 a4 a3 a5 y4 y5), (mp_arI E a1 0 432 f0), (mp_arI E a2 0 432 f1), (mp_arI E a3 0 78 f2)] (fun v w' => ∃ r1 : Int32, v = some (.int r1) ∧ w' = [(mp_ob2 a0 y0 y1 y2 y3 a1 a2 a4 a3 a5 y4 y5), (mp_arI E a1 0 432 f0), (mp_arI E a2 0 432 f1), (mp_arI E a3 0 78 f2)]) := by
  refine mp_met false (by decide) (by decide) (Nat.le_of_ble_eq_true rfl) (fun X hF hQ => ?_)
  have hF : mp_F E X (RX2, cX2_leastFrom, 6, (2, 0, 0, 47), (some FieldType.int), false) := hF
  let w1_ : va_W := [(mp_ob2 a0 y0 y1 y2 y3 a1 a2 a4 a3 a5 y4 y5), (mp_arI E a1 0 432 f0), (mp_arI E a2 0 432 f1), (mp_arI E a3 0 78 f2)]
  show mp_W E X 6 0 [(0, .ref a0), (1, .int x0), (2, .int x1)] [] w1_ 0 0
  refine mp_run mp_k_cX2_leastFrom_ok hF mp_tabX2_ok [mp_c (.iconst (-1)) (-1), mp_i (.istore_n 3), mp_c (.iconst 0) 0, mp_i (.istore 4)] (by decide +kernel) ?_
  show mp_W E X 6 5 [(4, .int 0), (3, .int (-1)), (0, .ref a0), (1, .int x0), (2, .int x1)] [] w1_ 0 0
  have lp_5 : ∀ (d_6 : Nat) (i_1 : Int32) (i_2 : Int32), 0 ≤ i_1.toInt → i_1.toInt ≤ 6 → y0.toInt - i_1.toInt ≤ (d_6 : Int) → mp_W E X 6 5 [(4, .int i_1), (3, .int i_2), (0, .ref a0), (1, .int x0), (2, .int x1)] [] [(mp_ob2 a0 y0 y1 y2 y3 a1 a2 a4 a3 a5 y4 y5), (mp_arI E a1 0 432 f0), (mp_arI E a2 0 432 f1), (mp_arI E a3 0 78 f2)] 0 0 := by
    intro d_6
    induction d_6 using Nat.strongRecOn with
    | ind d_6 ih_7 =>
      intro i_1 i_2 l_3 u_4 hm_8
      refine mp_run mp_k_cX2_leastFrom_ok hF mp_tabX2_ok [mp_i (.iload 4), mp_i (.aload_n 0), mp_h (.getfield 51) [7, 0], mp_h (.if_icmp .ge 39) [50]] (by decide +kernel) ?_
      refine And.intro rfl (And.intro rfl ?_)
      refine And.intro (fun c_9 => ?_) (fun c_9 => ?_)
      · have c_9 : y0.toInt ≤ i_1.toInt := c_9
        show mp_W E X 6 50 [(4, .int i_1), (3, .int i_2), (0, .ref a0), (1, .int x0), (2, .int x1)] [] w1_ 0 0
        refine mp_run mp_k_cX2_leastFrom_ok hF mp_tabX2_ok [mp_i (.iload_n 3)] (by decide +kernel) ?_
        show mp_W E X 6 51 [(4, .int i_1), (3, .int i_2), (0, .ref a0), (1, .int x0), (2, .int x1)] [.int i_2] w1_ 0 0
        exact mp_iret hF hQ rfl rfl (Nat.le_of_ble_eq_true rfl) (Nat.le_of_ble_eq_true rfl) [0, 1, 2, 3] (w' := w1_) rfl rfl ⟨i_2, rfl, rfl⟩ (by first | exact mp_fd_ok mp_k_cX2_leastFrom_ok (by decide +kernel) | decide +kernel)
      · have c_9 : i_1.toInt < y0.toInt := c_9
        show mp_W E X 6 14 [(4, .int i_1), (3, .int i_2), (0, .ref a0), (1, .int x0), (2, .int x1)] [] w1_ 0 0
        refine mp_run mp_k_cX2_leastFrom_ok hF mp_tabX2_ok [mp_i (.aload_n 0), mp_i (.iload_n 1), mp_i (.iload_n 2), mp_i (.iload 4)] (by decide +kernel) ?_
        show mp_W E X 6 19 [(4, .int i_1), (3, .int i_2), (0, .ref a0), (1, .int x0), (2, .int x1)] [.int i_1, .int x1, .int x0, .ref a0] w1_ 0 0
        refine mp_callV hF (As := [.int x0, .int x1, .int i_1]) (rest := []) (wr := []) (bX2_oarsBy_109 E a0 a1 a2 a3 a4 a5 f0 f1 f2 y0 y1 y2 y3 y4 y5 x0 x1 i_1 l_x0 u_x0 l_x1 u_x1 l_3 (by (first | exact mp_o398 u_y0 c_9 | omega)) l_y0 u_y0 l_y1 u_y1 l_y2 u_y2) mp_lkX2_105 0 rfl [0, 1, 2, 3] [] rfl rfl rfl rfl rfl ⟨(Nat.le_of_ble_eq_true rfl), (Nat.le_of_ble_eq_true rfl), (Nat.le_of_ble_eq_true rfl), (Nat.le_of_ble_eq_true rfl)⟩ (Nat.le_of_ble_eq_true rfl) (by first | exact mp_fd_ok mp_k_cX2_leastFrom_ok (by decide +kernel) | decide +kernel) (fun v_10 w_11 h_12 => ?_)
        obtain ⟨r_13, rfl, rfl⟩ := h_12
        show mp_W E X 6 22 [(4, .int i_1), (3, .int i_2), (0, .ref a0), (1, .int x0), (2, .int x1)] [.int r_13] w1_ 0 0
        refine mp_run mp_k_cX2_leastFrom_ok hF mp_tabX2_ok [mp_i (.istore 5), mp_i (.iload 5), mp_c (.iconst (-1)) (-1), mp_h (.if_icmp .eq 17) [44]] (by decide +kernel) ?_
        refine And.intro (fun c_14 => ?_) (fun c_14 => ?_)
        · have c_14 : r_13.toInt = (-1) := (congrArg Int32.toInt c_14)
          show mp_W E X 6 44 [(5, .int r_13), (4, .int i_1), (3, .int i_2), (0, .ref a0), (1, .int x0), (2, .int x1)] [] w1_ 0 0
          refine mp_run mp_k_cX2_leastFrom_ok hF mp_tabX2_ok [mp_c (.iinc 4 1) 1, mp_h (.goto (-42)) [5]] (by decide +kernel) ?_
          intro z_15 h_16
          have e_17 : z_15.toInt = i_1.toInt + 1 := mp_add (a := i_1.toInt) (b := 1) h_16 rfl (by decide) (by (first | exact mp_o2 l_3 | omega)) (by (first | exact mp_o351 u_4 | omega))
          show mp_W E X 6 5 [(4, .int z_15), (5, .int r_13), (3, .int i_2), (0, .ref a0), (1, .int x0), (2, .int x1)] [] w1_ 0 0
          exact mp_sub [0, 2, 3, 4, 5] rfl [0, 1, 2, 3] rfl rfl (ih_7 (d_6 - 1) (by (first | exact mp_o72 hm_8 c_9 | omega)) z_15 i_2 (by (first | exact mp_o51 l_3 e_17 | omega)) (by (first | exact mp_o352 u_y0 c_9 e_17 | omega)) (by (first | exact mp_o77 hm_8 e_17 | omega)))
        · have c_14 : r_13.toInt ≠ (-1) := c_14
          show mp_W E X 6 30 [(5, .int r_13), (4, .int i_1), (3, .int i_2), (0, .ref a0), (1, .int x0), (2, .int x1)] [] w1_ 0 0
          refine mp_run mp_k_cX2_leastFrom_ok hF mp_tabX2_ok [mp_i (.iload_n 3), mp_c (.iconst (-1)) (-1), mp_h (.if_icmp .eq 9) [41]] (by decide +kernel) ?_
          refine And.intro (fun c_18 => ?_) (fun c_18 => ?_)
          · have c_18 : i_2.toInt = (-1) := (congrArg Int32.toInt c_18)
            show mp_W E X 6 41 [(5, .int r_13), (4, .int i_1), (3, .int i_2), (0, .ref a0), (1, .int x0), (2, .int x1)] [] w1_ 0 0
            refine mp_run mp_k_cX2_leastFrom_ok hF mp_tabX2_ok [mp_i (.iload 5), mp_i (.istore_n 3), mp_c (.iinc 4 1) 1, mp_h (.goto (-42)) [5]] (by decide +kernel) ?_
            intro z_19 h_20
            have e_21 : z_19.toInt = i_1.toInt + 1 := mp_add (a := i_1.toInt) (b := 1) h_20 rfl (by decide) (by (first | exact mp_o2 l_3 | omega)) (by (first | exact mp_o351 u_4 | omega))
            show mp_W E X 6 5 [(4, .int z_19), (3, .int r_13), (5, .int r_13), (0, .ref a0), (1, .int x0), (2, .int x1)] [] w1_ 0 0
            exact mp_sub [0, 1, 3, 4, 5] rfl [0, 1, 2, 3] rfl rfl (ih_7 (d_6 - 1) (by (first | exact mp_o72 hm_8 c_9 | omega)) z_19 r_13 (by (first | exact mp_o51 l_3 e_21 | omega)) (by (first | exact mp_o352 u_y0 c_9 e_21 | omega)) (by (first | exact mp_o77 hm_8 e_21 | omega)))
          · have c_18 : i_2.toInt ≠ (-1) := c_18
            show mp_W E X 6 35 [(5, .int r_13), (4, .int i_1), (3, .int i_2), (0, .ref a0), (1, .int x0), (2, .int x1)] [] w1_ 0 0
            refine mp_run mp_k_cX2_leastFrom_ok hF mp_tabX2_ok [mp_i (.iload 5), mp_i (.iload_n 3), mp_h (.if_icmp .ge 6) [44]] (by decide +kernel) ?_
            refine And.intro (fun c_22 => ?_) (fun c_22 => ?_)
            · have c_22 : i_2.toInt ≤ r_13.toInt := c_22
              show mp_W E X 6 44 [(5, .int r_13), (4, .int i_1), (3, .int i_2), (0, .ref a0), (1, .int x0), (2, .int x1)] [] w1_ 0 0
              refine mp_run mp_k_cX2_leastFrom_ok hF mp_tabX2_ok [mp_c (.iinc 4 1) 1, mp_h (.goto (-42)) [5]] (by decide +kernel) ?_
              intro z_23 h_24
              have e_25 : z_23.toInt = i_1.toInt + 1 := mp_add (a := i_1.toInt) (b := 1) h_24 rfl (by decide) (by (first | exact mp_o2 l_3 | omega)) (by (first | exact mp_o351 u_4 | omega))
              show mp_W E X 6 5 [(4, .int z_23), (5, .int r_13), (3, .int i_2), (0, .ref a0), (1, .int x0), (2, .int x1)] [] w1_ 0 0
              exact mp_sub [0, 2, 3, 4, 5] rfl [0, 1, 2, 3] rfl rfl (ih_7 (d_6 - 1) (by (first | exact mp_o72 hm_8 c_9 | omega)) z_23 i_2 (by (first | exact mp_o51 l_3 e_25 | omega)) (by (first | exact mp_o352 u_y0 c_9 e_25 | omega)) (by (first | exact mp_o77 hm_8 e_25 | omega)))
            · have c_22 : r_13.toInt < i_2.toInt := c_22
              show mp_W E X 6 41 [(5, .int r_13), (4, .int i_1), (3, .int i_2), (0, .ref a0), (1, .int x0), (2, .int x1)] [] w1_ 0 0
              refine mp_run mp_k_cX2_leastFrom_ok hF mp_tabX2_ok [mp_i (.iload 5), mp_i (.istore_n 3), mp_c (.iinc 4 1) 1, mp_h (.goto (-42)) [5]] (by decide +kernel) ?_
              intro z_26 h_27
              have e_28 : z_26.toInt = i_1.toInt + 1 := mp_add (a := i_1.toInt) (b := 1) h_27 rfl (by decide) (by (first | exact mp_o2 l_3 | omega)) (by (first | exact mp_o351 u_4 | omega))
              show mp_W E X 6 5 [(4, .int z_26), (3, .int r_13), (5, .int r_13), (0, .ref a0), (1, .int x0), (2, .int x1)] [] w1_ 0 0
              exact mp_sub [0, 1, 3, 4, 5] rfl [0, 1, 2, 3] rfl rfl (ih_7 (d_6 - 1) (by omega) z_26 r_13 (by omega) (by omega) (by omega))
  exact mp_sub [0, 1, 2, 3, 4] rfl [0, 1, 2, 3] rfl rfl (lp_5 _ 0 (-1) (by decide) (by decide) (Int.self_le_toNat _))
set_option maxHeartbeats 4000000 in
set_option maxRecDepth 100000 in
theorem bX2_leastOars_111 (E : mp_E) (a0 a1 a2 a3 a4 a5 : Nat) (f0 : Nat → Int32) (f1 : Nat → Int32) (f2 : Nat → Int32) (y0 : Int32) (y1 : Int32) (y2 : Int32) (y3 : Int32) (y4 : Int32) (y5 : Int32) (l_y0 : 0 ≤ y0.toInt) (u_y0 : y0.toInt ≤ 6) (l_y1 : 0 ≤ y1.toInt) (u_y1 : y1.toInt ≤ 12) (l_y2 : 0 ≤ y2.toInt) (u_y2 : y2.toInt ≤ 5) : mp_Ct E yX2_leastOars cX2_leastOars 3 (some FieldType.int) 3 0 0 72 [.ref a0] [(mp_ob2 a0 y0 y1 y2 y3 a1 a2 a4 a3 a5 y4 y5), (mp_arI E a1 0 432 f0), (mp_arI E a2 0 432 f1), (mp_arI E a3 0 78 f2)] (fun v w' => ∃ h1 : Nat → Int32, ∃ r2 : Int32, v = some (.int r2) ∧ w' = [(mp_ob2 a0 y0 y1 y2 y3 a1 a2 a4 a3 a5 y4 y5), (mp_arI E a1 0 432 f0), (mp_arI E a2 0 432 f1), (mp_arI E a3 0 78 h1)]) := by
  refine mp_met false (by decide) (by decide) (Nat.le_of_ble_eq_true rfl) (fun X hF hQ => ?_)
  have hF : mp_F E X (RX2, cX2_leastOars, 3, (3, 0, 0, 72), (some FieldType.int), false) := hF
  let w1_ : va_W := [(mp_ob2 a0 y0 y1 y2 y3 a1 a2 a4 a3 a5 y4 y5), (mp_arI E a1 0 432 f0), (mp_arI E a2 0 432 f1), (mp_arI E a3 0 78 f2)]
  show mp_W E X 3 0 [(0, .ref a0)] [] w1_ 0 0
  refine mp_run mp_k_cX2_leastOars_ok hF mp_tabX2_ok [mp_c (.iconst 0) 0, mp_i (.istore_n 1)] (by decide +kernel) ?_
  show mp_W E X 3 2 [(1, .int 0), (0, .ref a0)] [] w1_ 0 0
  have lp_5 : ∀ (d_6 : Nat) (i_1 : Int32) (g_2 : Nat → Int32), 0 ≤ i_1.toInt → i_1.toInt ≤ 6 → y0.toInt - i_1.toInt ≤ (d_6 : Int) → mp_W E X 3 2 [(1, .int i_1), (0, .ref a0)] [] [(mp_ob2 a0 y0 y1 y2 y3 a1 a2 a4 a3 a5 y4 y5), (mp_arI E a1 0 432 f0), (mp_arI E a2 0 432 f1), (mp_arI E a3 0 78 g_2)] 0 0 := by
    intro d_6
    induction d_6 using Nat.strongRecOn with
    | ind d_6 ih_7 =>
      intro i_1 g_2 l_3 u_4 hm_8
      refine mp_run mp_k_cX2_leastOars_ok hF mp_tabX2_ok [mp_i (.iload_n 1), mp_i (.aload_n 0), mp_h (.getfield 51) [7, 0], mp_h (.if_icmp .ge 24) [31]] (by decide +kernel) ?_
      refine And.intro rfl (And.intro rfl ?_)
      refine And.intro (fun c_9 => ?_) (fun c_9 => ?_)
      · have c_9 : y0.toInt ≤ i_1.toInt := c_9
        let w2_ : va_W := [(mp_ob2 a0 y0 y1 y2 y3 a1 a2 a4 a3 a5 y4 y5), (mp_arI E a1 0 432 f0), (mp_arI E a2 0 432 f1), (mp_arI E a3 0 78 g_2)]
        show mp_W E X 3 31 [(1, .int i_1), (0, .ref a0)] [] w2_ 0 0
        refine mp_run mp_k_cX2_leastOars_ok hF mp_tabX2_ok [mp_i (.aload_n 0), mp_h (.getfield 52) [8, 0], mp_c (.iconst 1) 1, mp_i .isub, mp_i (.istore_n 1)] (by decide +kernel) ?_
        refine And.intro rfl (And.intro rfl ?_)
        intro z_10 h_11
        have e_12 : z_10.toInt = y1.toInt - 1 := mp_subi (a := y1.toInt) (b := 1) h_11 rfl (by decide) (by (first | exact mp_o157 l_y1 | omega)) (by (first | exact mp_o555 u_y1 | omega))
        show mp_W E X 3 38 [(1, .int z_10), (0, .ref a0)] [] w2_ 0 0
        have lp_17 : ∀ (d_18 : Nat) (i_13 : Int32) (g_14 : Nat → Int32), (-1) ≤ i_13.toInt → i_13.toInt ≤ 11 → i_13.toInt + 1 ≤ (d_18 : Int) → mp_W E X 3 38 [(1, .int i_13), (0, .ref a0)] [] [(mp_ob2 a0 y0 y1 y2 y3 a1 a2 a4 a3 a5 y4 y5), (mp_arI E a1 0 432 f0), (mp_arI E a2 0 432 f1), (mp_arI E a3 0 78 g_14)] 0 0 := by
          intro d_18
          induction d_18 using Nat.strongRecOn with
          | ind d_18 ih_19 =>
            intro i_13 g_14 l_15 u_16 hm_20
            refine mp_run mp_k_cX2_leastOars_ok hF mp_tabX2_ok [mp_i (.iload_n 1), mp_h (.ifCond .lt 42) [81]] (by decide +kernel) ?_
            refine And.intro (fun c_21 => ?_) (fun c_21 => ?_)
            · have c_21 : i_13.toInt < 0 := c_21
              let w3_ : va_W := [(mp_ob2 a0 y0 y1 y2 y3 a1 a2 a4 a3 a5 y4 y5), (mp_arI E a1 0 432 f0), (mp_arI E a2 0 432 f1), (mp_arI E a3 0 78 g_14)]
              show mp_W E X 3 81 [(1, .int i_13), (0, .ref a0)] [] w3_ 0 0
              refine mp_run mp_k_cX2_leastOars_ok hF mp_tabX2_ok [mp_i (.aload_n 0), mp_h (.getfield 21) [14, 0], mp_i (.aload_n 0), mp_h (.getfield 58) [9, 0], mp_h .iaload [3]] (by decide +kernel) ?_
              refine And.intro rfl (And.intro rfl ?_)
              refine And.intro rfl (And.intro rfl ?_)
              refine And.intro rfl (And.intro rfl (And.intro (vp_in_iff.mpr (by (first | exact mp_o575 l_y2 u_y2 | omega))) ?_))
              intro z_22 h_23
              show mp_W E X 3 90 [(1, .int i_13), (0, .ref a0)] [.int z_22] w3_ 0 0
              exact mp_iret hF hQ rfl rfl (Nat.le_of_ble_eq_true rfl) (Nat.le_of_ble_eq_true rfl) [0, 1, 2, 3] (w' := w3_) rfl rfl ⟨g_14, z_22, rfl, rfl⟩ (by first | exact mp_fd_ok mp_k_cX2_leastOars_ok (by decide +kernel) | decide +kernel)
            · have c_21 : 0 ≤ i_13.toInt := c_21
              let w4_ : va_W := [(mp_ob2 a0 y0 y1 y2 y3 a1 a2 a4 a3 a5 y4 y5), (mp_arI E a1 0 432 f0), (mp_arI E a2 0 432 f1), (mp_arI E a3 0 78 g_14)]
              show mp_W E X 3 42 [(1, .int i_13), (0, .ref a0)] [] w4_ 0 0
              refine mp_run mp_k_cX2_leastOars_ok hF mp_tabX2_ok [mp_c (.iconst 0) 0, mp_i (.istore_n 2)] (by decide +kernel) ?_
              show mp_W E X 3 44 [(2, .int 0), (1, .int i_13), (0, .ref a0)] [] w4_ 0 0
              have lp_28 : ∀ (d_29 : Nat) (i_24 : Int32) (g_25 : Nat → Int32), 0 ≤ i_24.toInt → i_24.toInt ≤ 6 → y0.toInt - i_24.toInt ≤ (d_29 : Int) → mp_W E X 3 44 [(2, .int i_24), (1, .int i_13), (0, .ref a0)] [] [(mp_ob2 a0 y0 y1 y2 y3 a1 a2 a4 a3 a5 y4 y5), (mp_arI E a1 0 432 f0), (mp_arI E a2 0 432 f1), (mp_arI E a3 0 78 g_25)] 0 0 := by
                intro d_29
                induction d_29 using Nat.strongRecOn with
                | ind d_29 ih_30 =>
                  intro i_24 g_25 l_26 u_27 hm_31
                  refine mp_run mp_k_cX2_leastOars_ok hF mp_tabX2_ok [mp_i (.iload_n 2), mp_i (.aload_n 0), mp_h (.getfield 51) [7, 0], mp_h (.if_icmp .ge 26) [75]] (by decide +kernel) ?_
                  refine And.intro rfl (And.intro rfl ?_)
                  refine And.intro (fun c_32 => ?_) (fun c_32 => ?_)
                  · have c_32 : y0.toInt ≤ i_24.toInt := c_32
                    let w5_ : va_W := [(mp_ob2 a0 y0 y1 y2 y3 a1 a2 a4 a3 a5 y4 y5), (mp_arI E a1 0 432 f0), (mp_arI E a2 0 432 f1), (mp_arI E a3 0 78 g_25)]
                    show mp_W E X 3 75 [(2, .int i_24), (1, .int i_13), (0, .ref a0)] [] w5_ 0 0
                    refine mp_run mp_k_cX2_leastOars_ok hF mp_tabX2_ok [mp_c (.iinc 1 (-1)) (-1), mp_h (.goto (-40)) [38]] (by decide +kernel) ?_
                    intro z_33 h_34
                    have e_35 : z_33.toInt = i_13.toInt + (-1) := mp_add (a := i_13.toInt) (b := (-1)) h_34 rfl (by decide) (by (first | exact mp_o413 c_21 | omega)) (by (first | exact mp_o576 u_16 | omega))
                    show mp_W E X 3 38 [(1, .int z_33), (2, .int i_24), (0, .ref a0)] [] w5_ 0 0
                    exact mp_sub [0, 2] rfl [0, 1, 2, 3] rfl rfl (ih_19 (d_18 - 1) (by (first | exact mp_o577 hm_20 c_21 | omega)) z_33 g_25 (by (first | exact mp_o578 c_21 e_35 | omega)) (by (first | exact mp_o579 u_16 e_35 | omega)) (by (first | exact mp_o580 hm_20 e_35 | omega)))
                  · have c_32 : i_24.toInt < y0.toInt := c_32
                    let w6_ : va_W := [(mp_ob2 a0 y0 y1 y2 y3 a1 a2 a4 a3 a5 y4 y5), (mp_arI E a1 0 432 f0), (mp_arI E a2 0 432 f1), (mp_arI E a3 0 78 g_25)]
                    show mp_W E X 3 52 [(2, .int i_24), (1, .int i_13), (0, .ref a0)] [] w6_ 0 0
                    refine mp_run mp_k_cX2_leastOars_ok hF mp_tabX2_ok [mp_i (.aload_n 0), mp_h (.getfield 21) [14, 0], mp_i (.iload_n 1), mp_c (.bipush 6) 6, mp_i .imul, mp_i (.iload_n 2), mp_i .iadd, mp_i (.aload_n 0), mp_i (.iload_n 1), mp_i (.iload_n 2)] (by decide +kernel) ?_
                    refine And.intro rfl (And.intro rfl ?_)
                    intro z_36 h_37
                    have e_38 : z_36.toInt = i_13.toInt * 6 := mp_mul (a := i_13.toInt) (b := 6) h_37 rfl (by decide) (by (first | exact mp_o249 c_21 | omega)) (by (first | exact mp_o581 u_16 | omega))
                    intro z_39 h_40
                    have e_41 : z_39.toInt = z_36.toInt + i_24.toInt := mp_add (a := z_36.toInt) (b := i_24.toInt) h_40 rfl rfl (by (first | exact mp_o251 l_26 c_21 e_38 | omega)) (by (first | exact mp_o582 u_27 u_16 e_38 | omega))
                    show mp_W E X 3 65 [(2, .int i_24), (1, .int i_13), (0, .ref a0)] [.int i_24, .int i_13, .ref a0, .int z_39, .ref a3] w6_ 0 0
                    refine mp_callV hF (As := [.int i_13, .int i_24]) (rest := [.int z_39, .ref a3]) (wr := []) (bX2_leastFrom_110 E a0 a1 a2 a3 a4 a5 f0 f1 g_25 y0 y1 y2 y3 y4 y5 i_13 i_24 (by (first | exact c_21 | omega)) u_16 l_26 (by (first | exact mp_o398 u_y0 c_32 | omega)) l_y0 u_y0 l_y1 u_y1 l_y2 u_y2) mp_lkX2_101 0 rfl [0, 1, 2, 3] [] rfl rfl rfl rfl rfl ⟨(Nat.le_of_ble_eq_true rfl), (Nat.le_of_ble_eq_true rfl), (Nat.le_of_ble_eq_true rfl), (Nat.le_of_ble_eq_true rfl)⟩ (Nat.le_of_ble_eq_true rfl) (by first | exact mp_fd_ok mp_k_cX2_leastOars_ok (by decide +kernel) | decide +kernel) (fun v_42 w_43 h_44 => ?_)
                    obtain ⟨r_45, rfl, rfl⟩ := h_44
                    show mp_W E X 3 68 [(2, .int i_24), (1, .int i_13), (0, .ref a0)] [.int r_45, .int z_39, .ref a3] w6_ 0 0
                    refine mp_run mp_k_cX2_leastOars_ok hF mp_tabX2_ok [mp_h .iastore [3]] (by decide +kernel) ?_
                    refine And.intro rfl (And.intro rfl (And.intro (vp_in_iff.mpr (by (first | exact mp_o583 c_21 u_16 l_26 u_27 e_38 e_41 | omega))) ?_))
                    intro g_46 h_47
                    let w7_ : va_W := [(mp_ob2 a0 y0 y1 y2 y3 a1 a2 a4 a3 a5 y4 y5), (mp_arI E a1 0 432 f0), (mp_arI E a2 0 432 f1), (mp_arI E a3 0 78 g_46)]
                    show mp_W E X 3 69 [(2, .int i_24), (1, .int i_13), (0, .ref a0)] [] w7_ 0 0
                    refine mp_run mp_k_cX2_leastOars_ok hF mp_tabX2_ok [mp_c (.iinc 2 1) 1, mp_h (.goto (-28)) [44]] (by decide +kernel) ?_
                    intro z_48 h_49
                    have e_50 : z_48.toInt = i_24.toInt + 1 := mp_add (a := i_24.toInt) (b := 1) h_49 rfl (by decide) (by (first | exact mp_o2 l_26 | omega)) (by (first | exact mp_o351 u_27 | omega))
                    show mp_W E X 3 44 [(2, .int z_48), (1, .int i_13), (0, .ref a0)] [] w7_ 0 0
                    exact mp_sub [0, 1, 2] rfl [0, 1, 2, 3] rfl rfl (ih_30 (d_29 - 1) (by (first | exact mp_o72 hm_31 c_32 | omega)) z_48 g_46 (by (first | exact mp_o51 l_26 e_50 | omega)) (by (first | exact mp_o352 u_y0 c_32 e_50 | omega)) (by (first | exact mp_o77 hm_31 e_50 | omega)))
              exact mp_sub [0, 1, 2] rfl [0, 1, 2, 3] rfl rfl (lp_28 _ 0 g_14 (by decide) (by decide) (Int.self_le_toNat _))
        exact mp_sub [0, 1] rfl [0, 1, 2, 3] rfl rfl (lp_17 _ z_10 g_2 (by (first | exact mp_o159 l_y1 e_12 | omega)) (by (first | exact mp_o584 u_y1 e_12 | omega)) (Int.self_le_toNat _))
      · have c_9 : i_1.toInt < y0.toInt := c_9
        let w8_ : va_W := [(mp_ob2 a0 y0 y1 y2 y3 a1 a2 a4 a3 a5 y4 y5), (mp_arI E a1 0 432 f0), (mp_arI E a2 0 432 f1), (mp_arI E a3 0 78 g_2)]
        show mp_W E X 3 10 [(1, .int i_1), (0, .ref a0)] [] w8_ 0 0
        refine mp_run mp_k_cX2_leastOars_ok hF mp_tabX2_ok [mp_i (.aload_n 0), mp_h (.getfield 21) [14, 0], mp_i (.aload_n 0), mp_h (.getfield 52) [8, 0], mp_c (.bipush 6) 6, mp_i .imul, mp_i (.iload_n 1), mp_i .iadd, mp_c (.iconst 0) 0, mp_h .iastore [3]] (by decide +kernel) ?_
        refine And.intro rfl (And.intro rfl ?_)
        refine And.intro rfl (And.intro rfl ?_)
        intro z_51 h_52
        have e_53 : z_51.toInt = y1.toInt * 6 := mp_mul (a := y1.toInt) (b := 6) h_52 rfl (by decide) (by (first | exact mp_o249 l_y1 | omega)) (by (first | exact mp_o551 u_y1 | omega))
        intro z_54 h_55
        have e_56 : z_54.toInt = z_51.toInt + i_1.toInt := mp_add (a := z_51.toInt) (b := i_1.toInt) h_55 rfl rfl (by (first | exact mp_o251 l_3 l_y1 e_53 | omega)) (by (first | exact mp_o561 u_4 u_y1 e_53 | omega))
        refine And.intro rfl (And.intro rfl (And.intro (vp_in_iff.mpr (by (first | exact mp_o585 l_y1 u_y1 l_3 e_53 e_56 u_y0 c_9 | omega))) ?_))
        intro g_57 h_58
        let w9_ : va_W := [(mp_ob2 a0 y0 y1 y2 y3 a1 a2 a4 a3 a5 y4 y5), (mp_arI E a1 0 432 f0), (mp_arI E a2 0 432 f1), (mp_arI E a3 0 78 g_57)]
        show mp_W E X 3 25 [(1, .int i_1), (0, .ref a0)] [] w9_ 0 0
        refine mp_run mp_k_cX2_leastOars_ok hF mp_tabX2_ok [mp_c (.iinc 1 1) 1, mp_h (.goto (-26)) [2]] (by decide +kernel) ?_
        intro z_59 h_60
        have e_61 : z_59.toInt = i_1.toInt + 1 := mp_add (a := i_1.toInt) (b := 1) h_60 rfl (by decide) (by (first | exact mp_o2 l_3 | omega)) (by (first | exact mp_o351 u_4 | omega))
        show mp_W E X 3 2 [(1, .int z_59), (0, .ref a0)] [] w9_ 0 0
        exact mp_sub [0, 1] rfl [0, 1, 2, 3] rfl rfl (ih_7 (d_6 - 1) (by (first | exact mp_o72 hm_8 c_9 | omega)) z_59 g_57 (by (first | exact mp_o51 l_3 e_61 | omega)) (by (first | exact mp_o352 u_y0 c_9 e_61 | omega)) (by (first | exact mp_o77 hm_8 e_61 | omega)))
  exact mp_sub [0, 1] rfl [0, 1, 2, 3] rfl rfl (lp_5 _ 0 f2 (by decide) (by decide) (Int.self_le_toNat _))
set_option maxHeartbeats 4000000 in
set_option maxRecDepth 100000 in
theorem bX9_keeps_112 (E : mp_E) (a0 a1 a2 a3 a4 a5 a6 a7 a8 a9 a10 a11 a12 a13 a14 a15 a16 a17 a18 a19 a20 a21 a22 a23 a24 a25 a26 a27 a28 a29 a30 a31 a32 a33 : Nat) (f0 : Nat → Int32) (f1 : Nat → Int64) (f2 : Nat → Int32) (f3 : Nat → Int32) (f4 : Nat → Int32) (f5 : Nat → Int32) (f6 : Nat → Int32) (f7 : Nat → Int32) (f8 : Nat → Int64) (f9 : Nat → Int32) (f10 : Nat → Int32) (f11 : Nat → Int32) (f12 : Nat → Int32) (f13 : Nat → Int32) (y0 : Int32) (y1 : Int32) (y2 : Int32) (y3 : Int32) (y4 : Int32) (y5 : Int32) (y6 : Int32) (y7 : Int32) (y8 : Int32) (y9 : Int32) (y10 : Int32) (y11 : Int32) (y12 : Int32) (x0 : Int32) (x1 : Int32) (p0 : mp_all f0 36 0 20) (p1 : mp_all f3 10 0 5) (p2 : mp_all f4 10 0 5) (p3 : mp_all f5 10 0 99) (p4 : mp_all f6 10 0 1) (p5 : mp_all f7 6 0 5) (l_y0 : 0 ≤ y0.toInt) (u_y0 : y0.toInt ≤ 99) (l_y2 : 0 ≤ y2.toInt) (u_y2 : y2.toInt ≤ 6) (l_y3 : 0 ≤ y3.toInt) (u_y3 : y3.toInt ≤ 99) (l_y4 : 0 ≤ y4.toInt) (u_y4 : y4.toInt ≤ 6) (l_y5 : 0 ≤ y5.toInt) (u_y5 : y5.toInt ≤ 10) (l_y6 : 0 ≤ y6.toInt) (u_y6 : y6.toInt ≤ 60) (l_y7 : 0 ≤ y7.toInt) (u_y7 : y7.toInt ≤ 6) (l_y8 : 0 ≤ y8.toInt) (u_y8 : y8.toInt ≤ 12) (l_y9 : 0 ≤ y9.toInt) (u_y9 : y9.toInt ≤ 5) : mp_Ct E yX9_keeps cX9_keeps 3 (some FieldType.int) 5 0 0 114 [.ref a0, .int x0, .int x1] [(mp_ob9 a0 a18 a1 a19 a20 a13 a21 a22 a23 a24), (mp_ob0 a1 a2 y0 a10 a25 a26 a11 a12 a27), (mp_ob7 a2 y1 y2 y3 y4 y5 y6 a3 a4 a28 a5 a29 a6 a7 a30 a8 a9 a31 a32), (mp_arI E a3 0 36 f0), (mp_arL E a4 12 f1), (mp_arI E a5 0 6 f2), (mp_arI E a6 0 10 f3), (mp_arI E a7 0 10 f4), (mp_arI E a8 0 10 f5), (mp_arI E a9 0 10 f6), (mp_arI E a10 0 6 f7), (mp_arL E a11 20 f8), (mp_arI E a12 0 10 f9), (mp_ob2 a13 y7 y8 y9 y10 a14 a15 a16 a17 a33 y11 y12), (mp_arI E a14 0 432 f10), (mp_arI E a15 0 432 f11), (mp_arI E a16 0 72 f12), (mp_arI E a17 0 78 f13)] (fun v w' => ∃ h1 : Nat → Int32, ∃ r2 : Int32, ∃ r3 : Int32, ∃ r4 : Int32, ∃ r5 : Int32, ∃ h6 : Nat → Int32, ∃ h7 : Nat → Int32, ∃ h8 : Nat → Int32, ∃ h9 : Nat → Int32, ∃ r10 : Int32, v = some (.int r10) ∧ 0 ≤ r2.toInt ∧ r2.toInt ≤ 6 ∧ 0 ≤ r3.toInt ∧ r3.toInt ≤ 12 ∧ 0 ≤ r4.toInt ∧ r4.toInt ≤ 5 ∧ w' = [(mp_ob9 a0 a18 a1 a19 a20 a13 a21 a22 a23 a24), (mp_ob0 a1 a2 y0 a10 a25 a26 a11 a12 a27), (mp_ob7 a2 y1 y2 y3 y4 y5 y6 a3 a4 a28 a5 a29 a6 a7 a30 a8 a9 a31 a32), (mp_arI E a3 0 36 f0), (mp_arL E a4 12 f1), (mp_arI E a5 0 6 f2), (mp_arI E a6 0 10 f3), (mp_arI E a7 0 10 f4), (mp_arI E a8 0 10 f5), (mp_arI E a9 0 10 f6), (mp_arI E a10 0 6 f7), (mp_arL E a11 20 f8), (mp_arI E a12 0 10 h1), (mp_ob2 a13 r2 r3 r4 r5 a14 a15 a16 a17 a33 y11 y12), (mp_arI E a14 0 432 h6), (mp_arI E a15 0 432 h7), (mp_arI E a16 0 72 h8), (mp_arI E a17 0 78 h9)]) := by
  refine mp_met false (by decide) (by decide) (Nat.le_of_ble_eq_true rfl) (fun X hF hQ => ?_)
  have hF : mp_F E X (RX9, cX9_keeps, 3, (5, 0, 0, 114), (some FieldType.int), false) := hF
  let w1_ : va_W := [(mp_ob9 a0 a18 a1 a19 a20 a13 a21 a22 a23 a24), (mp_ob0 a1 a2 y0 a10 a25 a26 a11 a12 a27), (mp_ob7 a2 y1 y2 y3 y4 y5 y6 a3 a4 a28 a5 a29 a6 a7 a30 a8 a9 a31 a32), (mp_arI E a3 0 36 f0), (mp_arL E a4 12 f1), (mp_arI E a5 0 6 f2), (mp_arI E a6 0 10 f3), (mp_arI E a7 0 10 f4), (mp_arI E a8 0 10 f5), (mp_arI E a9 0 10 f6), (mp_arI E a10 0 6 f7), (mp_arL E a11 20 f8), (mp_arI E a12 0 10 f9), (mp_ob2 a13 y7 y8 y9 y10 a14 a15 a16 a17 a33 y11 y12), (mp_arI E a14 0 432 f10), (mp_arI E a15 0 432 f11), (mp_arI E a16 0 72 f12), (mp_arI E a17 0 78 f13)]
  show mp_W E X 3 0 [(0, .ref a0), (1, .int x0), (2, .int x1)] [] w1_ 0 0
  refine mp_run mp_k_cX9_keeps_ok hF mp_tabX9_ok [mp_i (.aload_n 0), mp_i (.iload_n 1), mp_i (.iload_n 2)] (by decide +kernel) ?_
  show mp_W E X 3 3 [(0, .ref a0), (1, .int x0), (2, .int x1)] [.int x1, .int x0, .ref a0] w1_ 0 0
  refine mp_callV hF (As := [.int x0, .int x1]) (rest := []) (wr := [(mp_arI E a3 0 36 f0), (mp_arL E a4 12 f1), (mp_arI E a5 0 6 f2), (mp_arI E a6 0 10 f3), (mp_arI E a7 0 10 f4), (mp_arI E a8 0 10 f5), (mp_arI E a9 0 10 f6), (mp_arI E a10 0 6 f7), (mp_arL E a11 20 f8), (mp_arI E a12 0 10 f9), (mp_ob2 a13 y7 y8 y9 y10 a14 a15 a16 a17 a33 y11 y12), (mp_arI E a14 0 432 f10), (mp_arI E a15 0 432 f11), (mp_arI E a16 0 72 f12), (mp_arI E a17 0 78 f13)]) (bX9_canPlan_101 E a0 a1 a2 a18 a19 a20 a13 a21 a22 a23 a24 a10 a25 a26 a11 a12 a27 a3 a4 a28 a5 a29 a6 a7 a30 a8 a9 a31 a32 y0 y1 y2 y3 y4 y5 y6 x0 x1 l_y0 u_y0 l_y2 u_y2 l_y3 u_y3 l_y4 u_y4 l_y5 u_y5 l_y6 u_y6) mp_lkX9_223 0 rfl [0, 1, 2] [3, 4, 5, 6, 7, 8, 9, 10, 11, 12, 13, 14, 15, 16, 17] rfl rfl rfl rfl rfl ⟨(Nat.le_of_ble_eq_true rfl), (Nat.le_of_ble_eq_true rfl), (Nat.le_of_ble_eq_true rfl), (Nat.le_of_ble_eq_true rfl)⟩ (Nat.le_of_ble_eq_true rfl) (by first | exact mp_fd_ok mp_k_cX9_keeps_ok (by decide +kernel) | decide +kernel) (fun v_1 w_2 h_3 => ?_)
  refine h_3.elim (fun q_9 => ?_) (fun q_10 => ?_)
  · skip
    refine q_9.elim fun e_11 e_12 => ?_
    clear h_3 q_9
    subst e_11
    subst e_12
    let w2_ : va_W := [(mp_arI E a3 0 36 f0), (mp_arL E a4 12 f1), (mp_arI E a5 0 6 f2), (mp_arI E a6 0 10 f3), (mp_arI E a7 0 10 f4), (mp_arI E a8 0 10 f5), (mp_arI E a9 0 10 f6), (mp_arI E a10 0 6 f7), (mp_arL E a11 20 f8), (mp_arI E a12 0 10 f9), (mp_ob2 a13 y7 y8 y9 y10 a14 a15 a16 a17 a33 y11 y12), (mp_arI E a14 0 432 f10), (mp_arI E a15 0 432 f11), (mp_arI E a16 0 72 f12), (mp_arI E a17 0 78 f13), (mp_ob9 a0 a18 a1 a19 a20 a13 a21 a22 a23 a24), (mp_ob0 a1 a2 y0 a10 a25 a26 a11 a12 a27), (mp_ob7 a2 y1 y2 y3 y4 y5 y6 a3 a4 a28 a5 a29 a6 a7 a30 a8 a9 a31 a32)]
    show mp_W E X 3 6 [(0, .ref a0), (1, .int x0), (2, .int x1)] [.int 0] w2_ 0 0
    refine mp_run mp_k_cX9_keeps_ok hF mp_tabX9_ok [mp_h (.ifCond .ne 6) [12]] (by decide +kernel) ?_
    refine And.intro (fun c_13 => absurd c_13 (by decide)) (fun _ => ?_)
    show mp_W E X 3 9 [(0, .ref a0), (1, .int x0), (2, .int x1)] [] w2_ 0 0
    refine mp_run mp_k_cX9_keeps_ok hF mp_tabX9_ok [mp_c (.bipush (-2)) (-2)] (by decide +kernel) ?_
    show mp_W E X 3 11 [(0, .ref a0), (1, .int x0), (2, .int x1)] [.int (-2)] w2_ 0 0
    exact mp_iret hF hQ rfl rfl (Nat.le_of_ble_eq_true rfl) (Nat.le_of_ble_eq_true rfl) [15, 16, 17, 0, 1, 2, 3, 4, 5, 6, 7, 8, 9, 10, 11, 12, 13, 14] (w' := w1_) rfl rfl ⟨f9, y7, y8, y9, y10, f10, f11, f12, f13, (-2), rfl, l_y7, u_y7, l_y8, u_y8, l_y9, u_y9, rfl⟩ (by first | exact mp_fd_ok mp_k_cX9_keeps_ok (by decide +kernel) | decide +kernel)
  · skip
    refine q_10.elim fun e_14 q_15 => q_15.elim fun c_4 q_16 => q_16.elim fun c_5 q_17 => q_17.elim fun c_6 q_18 => q_18.elim fun c_7 q_19 => q_19.elim fun c_8 e_20 => ?_
    clear h_3 q_10 q_15 q_16 q_17 q_18 q_19
    subst e_14
    subst e_20
    have c_4 : 0 ≤ x0.toInt := c_4
    have c_5 : x0.toInt < y4.toInt := c_5
    have c_6 : 1 ≤ x1.toInt := c_6
    have c_7 : x1.toInt ≤ 12 := c_7
    have c_8 : y0.toInt + x1.toInt ≤ 99 := c_8
    let w3_ : va_W := [(mp_arI E a3 0 36 f0), (mp_arL E a4 12 f1), (mp_arI E a5 0 6 f2), (mp_arI E a6 0 10 f3), (mp_arI E a7 0 10 f4), (mp_arI E a8 0 10 f5), (mp_arI E a9 0 10 f6), (mp_arI E a10 0 6 f7), (mp_arL E a11 20 f8), (mp_arI E a12 0 10 f9), (mp_ob2 a13 y7 y8 y9 y10 a14 a15 a16 a17 a33 y11 y12), (mp_arI E a14 0 432 f10), (mp_arI E a15 0 432 f11), (mp_arI E a16 0 72 f12), (mp_arI E a17 0 78 f13), (mp_ob9 a0 a18 a1 a19 a20 a13 a21 a22 a23 a24), (mp_ob0 a1 a2 y0 a10 a25 a26 a11 a12 a27), (mp_ob7 a2 y1 y2 y3 y4 y5 y6 a3 a4 a28 a5 a29 a6 a7 a30 a8 a9 a31 a32)]
    show mp_W E X 3 6 [(0, .ref a0), (1, .int x0), (2, .int x1)] [.int 1] w3_ 0 0
    refine mp_run mp_k_cX9_keeps_ok hF mp_tabX9_ok [mp_h (.ifCond .ne 6) [12]] (by decide +kernel) ?_
    refine And.intro (fun _ => ?_) (fun c_21 => absurd c_21 (by decide))
    show mp_W E X 3 12 [(0, .ref a0), (1, .int x0), (2, .int x1)] [] w3_ 0 0
    refine mp_run mp_k_cX9_keeps_ok hF mp_tabX9_ok [mp_i (.aload_n 0), mp_h (.getfield 39) [40, 15], mp_i (.aload_n 0), mp_h (.getfield 19) [37, 15], mp_i (.iload_n 1), mp_i (.iload_n 2)] (by decide +kernel) ?_
    refine And.intro rfl (And.intro rfl ?_)
    refine And.intro rfl (And.intro rfl ?_)
    show mp_W E X 3 22 [(0, .ref a0), (1, .int x0), (2, .int x1)] [.int x1, .int x0, .ref a1, .ref a13] w3_ 0 0
    refine mp_callV hF (As := [.ref a1, .int x0, .int x1]) (rest := []) (wr := [(mp_arI E a17 0 78 f13), (mp_ob9 a0 a18 a1 a19 a20 a13 a21 a22 a23 a24)]) (bX2_prepare_107 E a13 a1 a14 a15 a16 a2 a3 a4 a5 a6 a7 a8 a9 a10 a11 a12 a17 a33 a25 a26 a27 a28 a29 a30 a31 a32 f10 f11 f12 f0 f1 f2 f3 f4 f5 f6 f7 f8 f9 y7 y8 y9 y10 y11 y12 y0 y1 y2 y3 y4 y5 y6 x0 x1 p0 p1 p2 p3 p4 p5 (by (first | exact c_4 | omega)) (by (first | exact mp_o398 u_y4 c_5 | omega)) (by (first | exact mp_o254 c_6 | omega)) (by (first | exact c_7 | omega)) l_y7 u_y7 l_y8 u_y8 l_y9 u_y9 l_y0 u_y0 l_y2 u_y2 l_y3 u_y3 l_y4 u_y4 l_y5 u_y5 l_y6 u_y6 (by first | (first | exact c_8 | omega) | (show y0.toInt + x1.toInt ≤ 99; omega))) mp_lkX9_226 10 rfl [10, 11, 12, 13, 16, 17, 0, 1, 2, 3, 4, 5, 6, 7, 8, 9] [14, 15] rfl rfl rfl rfl rfl ⟨(Nat.le_of_ble_eq_true rfl), (Nat.le_of_ble_eq_true rfl), (Nat.le_of_ble_eq_true rfl), (Nat.le_of_ble_eq_true rfl)⟩ (Nat.le_of_ble_eq_true rfl) (by first | exact mp_fd_ok mp_k_cX9_keeps_ok (by decide +kernel) | decide +kernel) (fun v_22 w_23 h_24 => ?_)
    refine h_24.elim fun r_25 q_35 => q_35.elim fun r_26 q_36 => q_36.elim fun g_27 q_37 => q_37.elim fun g_28 q_38 => q_38.elim fun g_29 q_39 => q_39.elim fun g_30 q_40 => q_40.elim fun e_41 q_42 => q_42.elim fun l_31 q_43 => q_43.elim fun u_32 q_44 => q_44.elim fun l_33 q_45 => q_45.elim fun u_34 e_46 => ?_
    clear h_24 q_35 q_36 q_37 q_38 q_39 q_40 q_42 q_43 q_44 q_45
    subst e_41
    subst e_46
    let w4_ : va_W := [(mp_arI E a17 0 78 f13), (mp_ob9 a0 a18 a1 a19 a20 a13 a21 a22 a23 a24), (mp_ob2 a13 y2 x1 r_25 r_26 a14 a15 a16 a17 a33 y11 y12), (mp_arI E a14 0 432 g_27), (mp_arI E a15 0 432 g_28), (mp_arI E a16 0 72 g_29), (mp_ob0 a1 a2 y0 a10 a25 a26 a11 a12 a27), (mp_ob7 a2 y1 y2 y3 y4 y5 y6 a3 a4 a28 a5 a29 a6 a7 a30 a8 a9 a31 a32), (mp_arI E a3 0 36 f0), (mp_arL E a4 12 f1), (mp_arI E a5 0 6 f2), (mp_arI E a6 0 10 f3), (mp_arI E a7 0 10 f4), (mp_arI E a8 0 10 f5), (mp_arI E a9 0 10 f6), (mp_arI E a10 0 6 f7), (mp_arL E a11 20 f8), (mp_arI E a12 0 10 g_30)]
    show mp_W E X 3 25 [(0, .ref a0), (1, .int x0), (2, .int x1)] [] w4_ 0 0
    refine mp_run mp_k_cX9_keeps_ok hF mp_tabX9_ok [mp_i (.aload_n 0), mp_h (.getfield 39) [40, 1]] (by decide +kernel) ?_
    refine And.intro rfl (And.intro rfl ?_)
    show mp_W E X 3 29 [(0, .ref a0), (1, .int x0), (2, .int x1)] [.ref a13] w4_ 0 0
    refine mp_callV hF (As := []) (rest := []) (wr := [(mp_ob9 a0 a18 a1 a19 a20 a13 a21 a22 a23 a24), (mp_arI E a16 0 72 g_29), (mp_ob0 a1 a2 y0 a10 a25 a26 a11 a12 a27), (mp_ob7 a2 y1 y2 y3 y4 y5 y6 a3 a4 a28 a5 a29 a6 a7 a30 a8 a9 a31 a32), (mp_arI E a3 0 36 f0), (mp_arL E a4 12 f1), (mp_arI E a5 0 6 f2), (mp_arI E a6 0 10 f3), (mp_arI E a7 0 10 f4), (mp_arI E a8 0 10 f5), (mp_arI E a9 0 10 f6), (mp_arI E a10 0 6 f7), (mp_arL E a11 20 f8), (mp_arI E a12 0 10 g_30)]) (bX2_leastOars_111 E a13 a14 a15 a17 a16 a33 g_27 g_28 f13 y2 x1 r_25 r_26 y11 y12 l_y2 u_y2 (by (first | exact mp_o254 c_6 | omega)) (by (first | exact c_7 | omega)) l_31 u_32) mp_lkX9_230 2 rfl [2, 3, 4, 0] [1, 5, 6, 7, 8, 9, 10, 11, 12, 13, 14, 15, 16, 17] rfl rfl rfl rfl rfl ⟨(Nat.le_of_ble_eq_true rfl), (Nat.le_of_ble_eq_true rfl), (Nat.le_of_ble_eq_true rfl), (Nat.le_of_ble_eq_true rfl)⟩ (Nat.le_of_ble_eq_true rfl) (by first | exact mp_fd_ok mp_k_cX9_keeps_ok (by decide +kernel) | decide +kernel) (fun v_47 w_48 h_49 => ?_)
    obtain ⟨g_50, r_51, rfl, rfl⟩ := h_49
    let w5_ : va_W := [(mp_ob9 a0 a18 a1 a19 a20 a13 a21 a22 a23 a24), (mp_arI E a16 0 72 g_29), (mp_ob0 a1 a2 y0 a10 a25 a26 a11 a12 a27), (mp_ob7 a2 y1 y2 y3 y4 y5 y6 a3 a4 a28 a5 a29 a6 a7 a30 a8 a9 a31 a32), (mp_arI E a3 0 36 f0), (mp_arL E a4 12 f1), (mp_arI E a5 0 6 f2), (mp_arI E a6 0 10 f3), (mp_arI E a7 0 10 f4), (mp_arI E a8 0 10 f5), (mp_arI E a9 0 10 f6), (mp_arI E a10 0 6 f7), (mp_arL E a11 20 f8), (mp_arI E a12 0 10 g_30), (mp_ob2 a13 y2 x1 r_25 r_26 a14 a15 a16 a17 a33 y11 y12), (mp_arI E a14 0 432 g_27), (mp_arI E a15 0 432 g_28), (mp_arI E a17 0 78 g_50)]
    show mp_W E X 3 32 [(0, .ref a0), (1, .int x0), (2, .int x1)] [.int r_51] w5_ 0 0
    exact mp_iret hF hQ rfl rfl (Nat.le_of_ble_eq_true rfl) (Nat.le_of_ble_eq_true rfl) [0, 2, 3, 4, 5, 6, 7, 8, 9, 10, 11, 12, 13, 14, 15, 16, 1, 17] (w' := [(mp_ob9 a0 a18 a1 a19 a20 a13 a21 a22 a23 a24), (mp_ob0 a1 a2 y0 a10 a25 a26 a11 a12 a27), (mp_ob7 a2 y1 y2 y3 y4 y5 y6 a3 a4 a28 a5 a29 a6 a7 a30 a8 a9 a31 a32), (mp_arI E a3 0 36 f0), (mp_arL E a4 12 f1), (mp_arI E a5 0 6 f2), (mp_arI E a6 0 10 f3), (mp_arI E a7 0 10 f4), (mp_arI E a8 0 10 f5), (mp_arI E a9 0 10 f6), (mp_arI E a10 0 6 f7), (mp_arL E a11 20 f8), (mp_arI E a12 0 10 g_30), (mp_ob2 a13 y2 x1 r_25 r_26 a14 a15 a16 a17 a33 y11 y12), (mp_arI E a14 0 432 g_27), (mp_arI E a15 0 432 g_28), (mp_arI E a16 0 72 g_29), (mp_arI E a17 0 78 g_50)]) rfl rfl ⟨g_30, y2, x1, r_25, r_26, g_27, g_28, g_29, g_50, r_51, rfl, l_y2, u_y2, (by (first | exact mp_o254 c_6 | omega)), (by (first | exact c_7 | omega)), l_31, u_32, rfl⟩ (by first | exact mp_fd_ok mp_k_cX9_keeps_ok (by decide +kernel) | decide +kernel)
set_option maxHeartbeats 4000000 in
set_option maxRecDepth 100000 in
theorem bX2_isleOfFirst_113 (E : mp_E) (a0 a1 a2 a3 a4 a5 : Nat) (f0 : Nat → Int32) (f1 : Nat → Int32) (f2 : Nat → Int32) (y0 : Int32) (y1 : Int32) (y2 : Int32) (y3 : Int32) (y4 : Int32) (y5 : Int32) (x0 : Int32) (l_x0 : 0 ≤ x0.toInt) (u_x0 : x0.toInt ≤ 11) (l_y0 : 0 ≤ y0.toInt) (u_y0 : y0.toInt ≤ 6) (l_y1 : 0 ≤ y1.toInt) (u_y1 : y1.toInt ≤ 12) (l_y2 : 0 ≤ y2.toInt) (u_y2 : y2.toInt ≤ 5) : mp_Ct E yX2_isleOfFirst cX2_isleOfFirst 6 (some FieldType.int) 2 0 0 47 [.ref a0, .int x0] [(mp_ob2 a0 y0 y1 y2 y3 a1 a2 a4 a3 a5 y4 y5), (mp_arI E a1 0 432 f0), (mp_arI E a2 0 432 f1), (mp_arI E a3 0 78 f2)] (fun v w' => ∃ r1 : Int32, v = some (.int r1) ∧ 0 ≤ r1.toInt ∧ r1.toInt ≤ 5 ∧ w' = [(mp_ob2 a0 y0 y1 y2 y3 a1 a2 a4 a3 a5 y4 y5), (mp_arI E a1 0 432 f0), (mp_arI E a2 0 432 f1), (mp_arI E a3 0 78 f2)]) := by
  refine mp_met false (by decide) (by decide) (Nat.le_of_ble_eq_true rfl) (fun X hF hQ => ?_)
  have hF : mp_F E X (RX2, cX2_isleOfFirst, 6, (2, 0, 0, 47), (some FieldType.int), false) := hF
  let w1_ : va_W := [(mp_ob2 a0 y0 y1 y2 y3 a1 a2 a4 a3 a5 y4 y5), (mp_arI E a1 0 432 f0), (mp_arI E a2 0 432 f1), (mp_arI E a3 0 78 f2)]
  show mp_W E X 6 0 [(0, .ref a0), (1, .int x0)] [] w1_ 0 0
  refine mp_run mp_k_cX2_isleOfFirst_ok hF mp_tabX2_ok [mp_i (.aload_n 0), mp_h (.getfield 58) [9, 0], mp_i (.istore_n 2), mp_c (.iconst 0) 0, mp_i (.istore_n 3)] (by decide +kernel) ?_
  refine And.intro rfl (And.intro rfl ?_)
  show mp_W E X 6 7 [(3, .int 0), (2, .int y2), (0, .ref a0), (1, .int x0)] [] w1_ 0 0
  have lp_7 : ∀ (d_8 : Nat) (i_1 : Int32) (i_2 : Int32), 0 ≤ i_1.toInt → i_1.toInt ≤ 12 → 0 ≤ i_2.toInt → i_2.toInt ≤ 5 → x0.toInt - i_1.toInt + 1 ≤ (d_8 : Int) → mp_W E X 6 7 [(3, .int i_1), (2, .int i_2), (0, .ref a0), (1, .int x0)] [] [(mp_ob2 a0 y0 y1 y2 y3 a1 a2 a4 a3 a5 y4 y5), (mp_arI E a1 0 432 f0), (mp_arI E a2 0 432 f1), (mp_arI E a3 0 78 f2)] 0 0 := by
    intro d_8
    induction d_8 using Nat.strongRecOn with
    | ind d_8 ih_9 =>
      intro i_1 i_2 l_3 u_4 l_5 u_6 hm_10
      refine mp_run mp_k_cX2_isleOfFirst_ok hF mp_tabX2_ok [mp_i (.iload_n 3), mp_i (.iload_n 1), mp_h (.if_icmp .gt 60) [69]] (by decide +kernel) ?_
      refine And.intro (fun c_11 => ?_) (fun c_11 => ?_)
      · have c_11 : x0.toInt < i_1.toInt := c_11
        show mp_W E X 6 69 [(3, .int i_1), (2, .int i_2), (0, .ref a0), (1, .int x0)] [] w1_ 0 0
        refine mp_run mp_k_cX2_isleOfFirst_ok hF mp_tabX2_ok [mp_i (.iload_n 2)] (by decide +kernel) ?_
        show mp_W E X 6 70 [(3, .int i_1), (2, .int i_2), (0, .ref a0), (1, .int x0)] [.int i_2] w1_ 0 0
        exact mp_iret hF hQ rfl rfl (Nat.le_of_ble_eq_true rfl) (Nat.le_of_ble_eq_true rfl) [0, 1, 2, 3] (w' := w1_) rfl rfl ⟨i_2, rfl, l_5, u_6, rfl⟩ (by first | exact mp_fd_ok mp_k_cX2_isleOfFirst_ok (by decide +kernel) | decide +kernel)
      · have c_11 : i_1.toInt ≤ x0.toInt := c_11
        show mp_W E X 6 12 [(3, .int i_1), (2, .int i_2), (0, .ref a0), (1, .int x0)] [] w1_ 0 0
        refine mp_run mp_k_cX2_isleOfFirst_ok hF mp_tabX2_ok [mp_i (.iload_n 2), mp_i (.istore 4), mp_i (.aload_n 0), mp_h (.getfield 51) [7, 0], mp_c (.iconst 1) 1, mp_i .isub, mp_i (.istore 5)] (by decide +kernel) ?_
        refine And.intro rfl (And.intro rfl ?_)
        intro z_12 h_13
        have e_14 : z_12.toInt = y0.toInt - 1 := mp_subi (a := y0.toInt) (b := 1) h_13 rfl (by decide) (by (first | exact mp_o157 l_y0 | omega)) (by (first | exact mp_o158 u_y0 | omega))
        show mp_W E X 6 23 [(5, .int z_12), (4, .int i_2), (3, .int i_1), (2, .int i_2), (0, .ref a0), (1, .int x0)] [] w1_ 0 0
        have lp_21 : ∀ (d_22 : Nat) (i_15 : Int32) (i_16 : Int32), (-1) ≤ i_15.toInt → i_15.toInt ≤ 5 → 0 ≤ i_16.toInt → i_16.toInt ≤ 5 → i_15.toInt + 1 ≤ (d_22 : Int) → mp_W E X 6 23 [(5, .int i_15), (4, .int i_16), (3, .int i_1), (2, .int i_2), (0, .ref a0), (1, .int x0)] [] [(mp_ob2 a0 y0 y1 y2 y3 a1 a2 a4 a3 a5 y4 y5), (mp_arI E a1 0 432 f0), (mp_arI E a2 0 432 f1), (mp_arI E a3 0 78 f2)] 0 0 := by
          intro d_22
          induction d_22 using Nat.strongRecOn with
          | ind d_22 ih_23 =>
            intro i_15 i_16 l_17 u_18 l_19 u_20 hm_24
            refine mp_run mp_k_cX2_isleOfFirst_ok hF mp_tabX2_ok [mp_i (.iload 5), mp_h (.ifCond .lt 35) [60]] (by decide +kernel) ?_
            refine And.intro (fun c_25 => ?_) (fun c_25 => ?_)
            · have c_25 : i_15.toInt < 0 := c_25
              show mp_W E X 6 60 [(5, .int i_15), (4, .int i_16), (3, .int i_1), (2, .int i_2), (0, .ref a0), (1, .int x0)] [] w1_ 0 0
              refine mp_run mp_k_cX2_isleOfFirst_ok hF mp_tabX2_ok [mp_i (.iload 4), mp_i (.istore_n 2), mp_c (.iinc 3 1) 1, mp_h (.goto (-59)) [7]] (by decide +kernel) ?_
              intro z_26 h_27
              have e_28 : z_26.toInt = i_1.toInt + 1 := mp_add (a := i_1.toInt) (b := 1) h_27 rfl (by decide) (by (first | exact mp_o2 l_3 | omega)) (by (first | exact mp_o535 u_4 | omega))
              show mp_W E X 6 7 [(3, .int z_26), (2, .int i_16), (5, .int i_15), (4, .int i_16), (0, .ref a0), (1, .int x0)] [] w1_ 0 0
              exact mp_sub [0, 1, 4, 5] rfl [0, 1, 2, 3] rfl rfl (ih_9 (d_8 - 1) (by (first | exact mp_o586 hm_10 c_11 | omega)) z_26 i_16 (by (first | exact mp_o51 l_3 e_28 | omega)) (by (first | exact mp_o587 u_x0 c_11 e_28 | omega)) l_19 u_20 (by (first | exact mp_o588 hm_10 e_28 | omega)))
            · have c_25 : 0 ≤ i_15.toInt := c_25
              show mp_W E X 6 28 [(5, .int i_15), (4, .int i_16), (3, .int i_1), (2, .int i_2), (0, .ref a0), (1, .int x0)] [] w1_ 0 0
              refine mp_run mp_k_cX2_isleOfFirst_ok hF mp_tabX2_ok [mp_i (.aload_n 0), mp_i (.iload_n 3), mp_i (.iload_n 2), mp_i (.iload 5)] (by decide +kernel) ?_
              show mp_W E X 6 33 [(5, .int i_15), (4, .int i_16), (3, .int i_1), (2, .int i_2), (0, .ref a0), (1, .int x0)] [.int i_15, .int i_2, .int i_1, .ref a0] w1_ 0 0
              refine mp_callV hF (As := [.int i_1, .int i_2, .int i_15]) (rest := []) (wr := []) (bX2_oarsBy_109 E a0 a1 a2 a3 a4 a5 f0 f1 f2 y0 y1 y2 y3 y4 y5 i_1 i_2 i_15 l_3 (by (first | exact mp_o589 u_x0 c_11 | omega)) l_5 u_6 (by (first | exact c_25 | omega)) u_18 l_y0 u_y0 l_y1 u_y1 l_y2 u_y2) mp_lkX2_105 0 rfl [0, 1, 2, 3] [] rfl rfl rfl rfl rfl ⟨(Nat.le_of_ble_eq_true rfl), (Nat.le_of_ble_eq_true rfl), (Nat.le_of_ble_eq_true rfl), (Nat.le_of_ble_eq_true rfl)⟩ (Nat.le_of_ble_eq_true rfl) (by first | exact mp_fd_ok mp_k_cX2_isleOfFirst_ok (by decide +kernel) | decide +kernel) (fun v_29 w_30 h_31 => ?_)
              obtain ⟨r_32, rfl, rfl⟩ := h_31
              show mp_W E X 6 36 [(5, .int i_15), (4, .int i_16), (3, .int i_1), (2, .int i_2), (0, .ref a0), (1, .int x0)] [.int r_32] w1_ 0 0
              refine mp_run mp_k_cX2_isleOfFirst_ok hF mp_tabX2_ok [mp_i (.aload_n 0), mp_h (.getfield 21) [14, 0], mp_i (.iload_n 3), mp_c (.bipush 6) 6, mp_i .imul, mp_i (.iload_n 2), mp_i .iadd, mp_h .iaload [3], mp_h (.if_icmp .ne 7) [54]] (by decide +kernel) ?_
              refine And.intro rfl (And.intro rfl ?_)
              intro z_33 h_34
              have e_35 : z_33.toInt = i_1.toInt * 6 := mp_mul (a := i_1.toInt) (b := 6) h_34 rfl (by decide) (by (first | exact mp_o249 l_3 | omega)) (by (first | exact mp_o551 u_4 | omega))
              intro z_36 h_37
              have e_38 : z_36.toInt = z_33.toInt + i_2.toInt := mp_add (a := z_33.toInt) (b := i_2.toInt) h_37 rfl rfl (by (first | exact mp_o251 l_5 l_3 e_35 | omega)) (by (first | exact mp_o590 u_6 u_4 e_35 | omega))
              refine And.intro rfl (And.intro rfl (And.intro (vp_in_iff.mpr (by (first | exact mp_o591 l_3 u_4 l_5 u_6 e_35 e_38 | omega))) ?_))
              intro z_39 h_40
              refine And.intro (fun c_41 => ?_) (fun c_41 => ?_)
              · have c_41 : r_32.toInt ≠ z_39.toInt := c_41
                show mp_W E X 6 54 [(5, .int i_15), (4, .int i_16), (3, .int i_1), (2, .int i_2), (0, .ref a0), (1, .int x0)] [] w1_ 0 0
                refine mp_run mp_k_cX2_isleOfFirst_ok hF mp_tabX2_ok [mp_c (.iinc 5 (-1)) (-1), mp_h (.goto (-34)) [23]] (by decide +kernel) ?_
                intro z_42 h_43
                have e_44 : z_42.toInt = i_15.toInt + (-1) := mp_add (a := i_15.toInt) (b := (-1)) h_43 rfl (by decide) (by (first | exact mp_o413 c_25 | omega)) (by (first | exact mp_o592 u_18 | omega))
                show mp_W E X 6 23 [(5, .int z_42), (4, .int i_16), (3, .int i_1), (2, .int i_2), (0, .ref a0), (1, .int x0)] [] w1_ 0 0
                exact mp_sub [0, 1, 2, 3, 4, 5] rfl [0, 1, 2, 3] rfl rfl (ih_23 (d_22 - 1) (by (first | exact mp_o577 hm_24 c_25 | omega)) z_42 i_16 (by (first | exact mp_o578 c_25 e_44 | omega)) (by (first | exact mp_o593 u_18 e_44 | omega)) l_19 u_20 (by (first | exact mp_o580 hm_24 e_44 | omega)))
              · have c_41 : r_32.toInt = z_39.toInt := (congrArg Int32.toInt c_41)
                show mp_W E X 6 50 [(5, .int i_15), (4, .int i_16), (3, .int i_1), (2, .int i_2), (0, .ref a0), (1, .int x0)] [] w1_ 0 0
                refine mp_run mp_k_cX2_isleOfFirst_ok hF mp_tabX2_ok [mp_i (.iload 5), mp_i (.istore 4), mp_c (.iinc 5 (-1)) (-1), mp_h (.goto (-34)) [23]] (by decide +kernel) ?_
                intro z_45 h_46
                have e_47 : z_45.toInt = i_15.toInt + (-1) := mp_add (a := i_15.toInt) (b := (-1)) h_46 rfl (by decide) (by (first | exact mp_o413 c_25 | omega)) (by (first | exact mp_o592 u_18 | omega))
                show mp_W E X 6 23 [(5, .int z_45), (4, .int i_15), (3, .int i_1), (2, .int i_2), (0, .ref a0), (1, .int x0)] [] w1_ 0 0
                exact mp_sub [0, 1, 2, 3, 4, 5] rfl [0, 1, 2, 3] rfl rfl (ih_23 (d_22 - 1) (by (first | exact mp_o577 hm_24 c_25 | omega)) z_45 i_15 (by (first | exact mp_o578 c_25 e_47 | omega)) (by (first | exact mp_o593 u_18 e_47 | omega)) (by (first | exact c_25 | omega)) u_18 (by (first | exact mp_o580 hm_24 e_47 | omega)))
        exact mp_sub [0, 1, 2, 3, 4, 5] rfl [0, 1, 2, 3] rfl rfl (lp_21 _ z_12 i_2 (by (first | exact mp_o159 l_y0 e_14 | omega)) (by (first | exact mp_o160 u_y0 e_14 | omega)) l_5 u_6 (Int.self_le_toNat _))
  exact mp_sub [0, 1, 2, 3] rfl [0, 1, 2, 3] rfl rfl (lp_7 _ 0 y2 (by decide) (by decide) l_y2 u_y2 (Int.self_le_toNat _))
set_option maxHeartbeats 4000000 in
set_option maxRecDepth 100000 in
theorem bX9_plan_114 (E : mp_E) (a0 a1 a2 a3 a4 a5 a6 a7 a8 a9 a10 a11 a12 a13 a14 a15 a16 a17 a18 a19 a20 a21 a22 a23 a24 a25 a26 a27 a28 a29 a30 a31 a32 a33 : Nat) (f0 : Nat → Int32) (f1 : Nat → Int64) (f2 : Nat → Int32) (f3 : Nat → Int32) (f4 : Nat → Int32) (f5 : Nat → Int32) (f6 : Nat → Int32) (f7 : Nat → Int32) (f8 : Nat → Int64) (f9 : Nat → Int32) (f10 : Nat → Int32) (f11 : Nat → Int32) (f12 : Nat → Int32) (f13 : Nat → Int32) (y0 : Int32) (y1 : Int32) (y2 : Int32) (y3 : Int32) (y4 : Int32) (y5 : Int32) (y6 : Int32) (y7 : Int32) (y8 : Int32) (y9 : Int32) (y10 : Int32) (y11 : Int32) (y12 : Int32) (x0 : Int32) (x1 : Int32) (x2 : Int32) (p0 : mp_all f0 36 0 20) (p1 : mp_all f3 10 0 5) (p2 : mp_all f4 10 0 5) (p3 : mp_all f5 10 0 99) (p4 : mp_all f6 10 0 1) (p5 : mp_all f7 6 0 5) (l_y0 : 0 ≤ y0.toInt) (u_y0 : y0.toInt ≤ 99) (l_y2 : 0 ≤ y2.toInt) (u_y2 : y2.toInt ≤ 6) (l_y3 : 0 ≤ y3.toInt) (u_y3 : y3.toInt ≤ 99) (l_y4 : 0 ≤ y4.toInt) (u_y4 : y4.toInt ≤ 6) (l_y5 : 0 ≤ y5.toInt) (u_y5 : y5.toInt ≤ 10) (l_y6 : 0 ≤ y6.toInt) (u_y6 : y6.toInt ≤ 60) (l_y7 : 0 ≤ y7.toInt) (u_y7 : y7.toInt ≤ 6) (l_y8 : 0 ≤ y8.toInt) (u_y8 : y8.toInt ≤ 12) (l_y9 : 0 ≤ y9.toInt) (u_y9 : y9.toInt ≤ 5) : mp_Ct E yX9_plan cX9_plan 4 (some FieldType.int) 5 0 0 114 [.ref a0, .int x0, .int x1, .int x2] [(mp_ob9 a0 a18 a1 a19 a20 a13 a21 a22 a23 a24), (mp_ob0 a1 a2 y0 a10 a25 a26 a11 a12 a27), (mp_ob7 a2 y1 y2 y3 y4 y5 y6 a3 a4 a28 a5 a29 a6 a7 a30 a8 a9 a31 a32), (mp_arI E a3 0 36 f0), (mp_arL E a4 12 f1), (mp_arI E a5 0 6 f2), (mp_arI E a6 0 10 f3), (mp_arI E a7 0 10 f4), (mp_arI E a8 0 10 f5), (mp_arI E a9 0 10 f6), (mp_arI E a10 0 6 f7), (mp_arL E a11 20 f8), (mp_arI E a12 0 10 f9), (mp_ob2 a13 y7 y8 y9 y10 a14 a15 a16 a17 a33 y11 y12), (mp_arI E a14 0 432 f10), (mp_arI E a15 0 432 f11), (mp_arI E a16 0 72 f12), (mp_arI E a17 0 78 f13)] (fun v w' => ∃ h1 : Nat → Int32, ∃ r2 : Int32, ∃ r3 : Int32, ∃ r4 : Int32, ∃ r5 : Int32, ∃ h6 : Nat → Int32, ∃ h7 : Nat → Int32, ∃ h8 : Nat → Int32, ∃ h9 : Nat → Int32, ∃ r10 : Int32, v = some (.int r10) ∧ 0 ≤ r2.toInt ∧ r2.toInt ≤ 6 ∧ 0 ≤ r3.toInt ∧ r3.toInt ≤ 12 ∧ 0 ≤ r4.toInt ∧ r4.toInt ≤ 5 ∧ (-2) ≤ r10.toInt ∧ r10.toInt ≤ 5 ∧ w' = [(mp_ob9 a0 a18 a1 a19 a20 a13 a21 a22 a23 a24), (mp_ob0 a1 a2 y0 a10 a25 a26 a11 a12 a27), (mp_ob7 a2 y1 y2 y3 y4 y5 y6 a3 a4 a28 a5 a29 a6 a7 a30 a8 a9 a31 a32), (mp_arI E a3 0 36 f0), (mp_arL E a4 12 f1), (mp_arI E a5 0 6 f2), (mp_arI E a6 0 10 f3), (mp_arI E a7 0 10 f4), (mp_arI E a8 0 10 f5), (mp_arI E a9 0 10 f6), (mp_arI E a10 0 6 f7), (mp_arL E a11 20 f8), (mp_arI E a12 0 10 h1), (mp_ob2 a13 r2 r3 r4 r5 a14 a15 a16 a17 a33 y11 y12), (mp_arI E a14 0 432 h6), (mp_arI E a15 0 432 h7), (mp_arI E a16 0 72 h8), (mp_arI E a17 0 78 h9)]) := by
  refine mp_met false (by decide) (by decide) (Nat.le_of_ble_eq_true rfl) (fun X hF hQ => ?_)
  have hF : mp_F E X (RX9, cX9_plan, 4, (5, 0, 0, 114), (some FieldType.int), false) := hF
  let w1_ : va_W := [(mp_ob9 a0 a18 a1 a19 a20 a13 a21 a22 a23 a24), (mp_ob0 a1 a2 y0 a10 a25 a26 a11 a12 a27), (mp_ob7 a2 y1 y2 y3 y4 y5 y6 a3 a4 a28 a5 a29 a6 a7 a30 a8 a9 a31 a32), (mp_arI E a3 0 36 f0), (mp_arL E a4 12 f1), (mp_arI E a5 0 6 f2), (mp_arI E a6 0 10 f3), (mp_arI E a7 0 10 f4), (mp_arI E a8 0 10 f5), (mp_arI E a9 0 10 f6), (mp_arI E a10 0 6 f7), (mp_arL E a11 20 f8), (mp_arI E a12 0 10 f9), (mp_ob2 a13 y7 y8 y9 y10 a14 a15 a16 a17 a33 y11 y12), (mp_arI E a14 0 432 f10), (mp_arI E a15 0 432 f11), (mp_arI E a16 0 72 f12), (mp_arI E a17 0 78 f13)]
  show mp_W E X 4 0 [(0, .ref a0), (1, .int x0), (2, .int x1), (3, .int x2)] [] w1_ 0 0
  refine mp_run mp_k_cX9_plan_ok hF mp_tabX9_ok [mp_i (.aload_n 0), mp_i (.iload_n 1), mp_i (.iload_n 2)] (by decide +kernel) ?_
  show mp_W E X 4 3 [(0, .ref a0), (1, .int x0), (2, .int x1), (3, .int x2)] [.int x1, .int x0, .ref a0] w1_ 0 0
  refine mp_callV hF (As := [.int x0, .int x1]) (rest := []) (wr := [(mp_arI E a3 0 36 f0), (mp_arL E a4 12 f1), (mp_arI E a5 0 6 f2), (mp_arI E a6 0 10 f3), (mp_arI E a7 0 10 f4), (mp_arI E a8 0 10 f5), (mp_arI E a9 0 10 f6), (mp_arI E a10 0 6 f7), (mp_arL E a11 20 f8), (mp_arI E a12 0 10 f9), (mp_ob2 a13 y7 y8 y9 y10 a14 a15 a16 a17 a33 y11 y12), (mp_arI E a14 0 432 f10), (mp_arI E a15 0 432 f11), (mp_arI E a16 0 72 f12), (mp_arI E a17 0 78 f13)]) (bX9_canPlan_101 E a0 a1 a2 a18 a19 a20 a13 a21 a22 a23 a24 a10 a25 a26 a11 a12 a27 a3 a4 a28 a5 a29 a6 a7 a30 a8 a9 a31 a32 y0 y1 y2 y3 y4 y5 y6 x0 x1 l_y0 u_y0 l_y2 u_y2 l_y3 u_y3 l_y4 u_y4 l_y5 u_y5 l_y6 u_y6) mp_lkX9_223 0 rfl [0, 1, 2] [3, 4, 5, 6, 7, 8, 9, 10, 11, 12, 13, 14, 15, 16, 17] rfl rfl rfl rfl rfl ⟨(Nat.le_of_ble_eq_true rfl), (Nat.le_of_ble_eq_true rfl), (Nat.le_of_ble_eq_true rfl), (Nat.le_of_ble_eq_true rfl)⟩ (Nat.le_of_ble_eq_true rfl) (by first | exact mp_fd_ok mp_k_cX9_plan_ok (by decide +kernel) | decide +kernel) (fun v_1 w_2 h_3 => ?_)
  refine h_3.elim (fun q_9 => ?_) (fun q_10 => ?_)
  · skip
    refine q_9.elim fun e_11 e_12 => ?_
    clear h_3 q_9
    subst e_11
    subst e_12
    let w2_ : va_W := [(mp_arI E a3 0 36 f0), (mp_arL E a4 12 f1), (mp_arI E a5 0 6 f2), (mp_arI E a6 0 10 f3), (mp_arI E a7 0 10 f4), (mp_arI E a8 0 10 f5), (mp_arI E a9 0 10 f6), (mp_arI E a10 0 6 f7), (mp_arL E a11 20 f8), (mp_arI E a12 0 10 f9), (mp_ob2 a13 y7 y8 y9 y10 a14 a15 a16 a17 a33 y11 y12), (mp_arI E a14 0 432 f10), (mp_arI E a15 0 432 f11), (mp_arI E a16 0 72 f12), (mp_arI E a17 0 78 f13), (mp_ob9 a0 a18 a1 a19 a20 a13 a21 a22 a23 a24), (mp_ob0 a1 a2 y0 a10 a25 a26 a11 a12 a27), (mp_ob7 a2 y1 y2 y3 y4 y5 y6 a3 a4 a28 a5 a29 a6 a7 a30 a8 a9 a31 a32)]
    show mp_W E X 4 6 [(0, .ref a0), (1, .int x0), (2, .int x1), (3, .int x2)] [.int 0] w2_ 0 0
    refine mp_run mp_k_cX9_plan_ok hF mp_tabX9_ok [mp_h (.ifCond .ne 6) [12]] (by decide +kernel) ?_
    refine And.intro (fun c_13 => absurd c_13 (by decide)) (fun _ => ?_)
    show mp_W E X 4 9 [(0, .ref a0), (1, .int x0), (2, .int x1), (3, .int x2)] [] w2_ 0 0
    refine mp_run mp_k_cX9_plan_ok hF mp_tabX9_ok [mp_c (.bipush (-2)) (-2)] (by decide +kernel) ?_
    show mp_W E X 4 11 [(0, .ref a0), (1, .int x0), (2, .int x1), (3, .int x2)] [.int (-2)] w2_ 0 0
    exact mp_iret hF hQ rfl rfl (Nat.le_of_ble_eq_true rfl) (Nat.le_of_ble_eq_true rfl) [15, 16, 17, 0, 1, 2, 3, 4, 5, 6, 7, 8, 9, 10, 11, 12, 13, 14] (w' := w1_) rfl rfl ⟨f9, y7, y8, y9, y10, f10, f11, f12, f13, (-2), rfl, l_y7, u_y7, l_y8, u_y8, l_y9, u_y9, (by decide), (by decide), rfl⟩ (by first | exact mp_fd_ok mp_k_cX9_plan_ok (by decide +kernel) | decide +kernel)
  · skip
    refine q_10.elim fun e_14 q_15 => q_15.elim fun c_4 q_16 => q_16.elim fun c_5 q_17 => q_17.elim fun c_6 q_18 => q_18.elim fun c_7 q_19 => q_19.elim fun c_8 e_20 => ?_
    clear h_3 q_10 q_15 q_16 q_17 q_18 q_19
    subst e_14
    subst e_20
    have c_4 : 0 ≤ x0.toInt := c_4
    have c_5 : x0.toInt < y4.toInt := c_5
    have c_6 : 1 ≤ x1.toInt := c_6
    have c_7 : x1.toInt ≤ 12 := c_7
    have c_8 : y0.toInt + x1.toInt ≤ 99 := c_8
    let w3_ : va_W := [(mp_arI E a3 0 36 f0), (mp_arL E a4 12 f1), (mp_arI E a5 0 6 f2), (mp_arI E a6 0 10 f3), (mp_arI E a7 0 10 f4), (mp_arI E a8 0 10 f5), (mp_arI E a9 0 10 f6), (mp_arI E a10 0 6 f7), (mp_arL E a11 20 f8), (mp_arI E a12 0 10 f9), (mp_ob2 a13 y7 y8 y9 y10 a14 a15 a16 a17 a33 y11 y12), (mp_arI E a14 0 432 f10), (mp_arI E a15 0 432 f11), (mp_arI E a16 0 72 f12), (mp_arI E a17 0 78 f13), (mp_ob9 a0 a18 a1 a19 a20 a13 a21 a22 a23 a24), (mp_ob0 a1 a2 y0 a10 a25 a26 a11 a12 a27), (mp_ob7 a2 y1 y2 y3 y4 y5 y6 a3 a4 a28 a5 a29 a6 a7 a30 a8 a9 a31 a32)]
    show mp_W E X 4 6 [(0, .ref a0), (1, .int x0), (2, .int x1), (3, .int x2)] [.int 1] w3_ 0 0
    refine mp_run mp_k_cX9_plan_ok hF mp_tabX9_ok [mp_h (.ifCond .ne 6) [12]] (by decide +kernel) ?_
    refine And.intro (fun _ => ?_) (fun c_21 => absurd c_21 (by decide))
    show mp_W E X 4 12 [(0, .ref a0), (1, .int x0), (2, .int x1), (3, .int x2)] [] w3_ 0 0
    refine mp_run mp_k_cX9_plan_ok hF mp_tabX9_ok [mp_i (.iload_n 3), mp_h (.ifCond .lt 8) [21]] (by decide +kernel) ?_
    refine And.intro (fun c_22 => ?_) (fun c_22 => ?_)
    · have c_22 : x2.toInt < 0 := c_22
      show mp_W E X 4 21 [(0, .ref a0), (1, .int x0), (2, .int x1), (3, .int x2)] [] w3_ 0 0
      refine mp_run mp_k_cX9_plan_ok hF mp_tabX9_ok [mp_c (.iconst (-1)) (-1)] (by decide +kernel) ?_
      show mp_W E X 4 22 [(0, .ref a0), (1, .int x0), (2, .int x1), (3, .int x2)] [.int (-1)] w3_ 0 0
      exact mp_iret hF hQ rfl rfl (Nat.le_of_ble_eq_true rfl) (Nat.le_of_ble_eq_true rfl) [15, 16, 17, 0, 1, 2, 3, 4, 5, 6, 7, 8, 9, 10, 11, 12, 13, 14] (w' := w1_) rfl rfl ⟨f9, y7, y8, y9, y10, f10, f11, f12, f13, (-1), rfl, l_y7, u_y7, l_y8, u_y8, l_y9, u_y9, (by decide), (by decide), rfl⟩ (by first | exact mp_fd_ok mp_k_cX9_plan_ok (by decide +kernel) | decide +kernel)
    · have c_22 : 0 ≤ x2.toInt := c_22
      show mp_W E X 4 16 [(0, .ref a0), (1, .int x0), (2, .int x1), (3, .int x2)] [] w3_ 0 0
      refine mp_run mp_k_cX9_plan_ok hF mp_tabX9_ok [mp_i (.iload_n 3), mp_i (.iload_n 2), mp_h (.if_icmp .lt 5) [23]] (by decide +kernel) ?_
      refine And.intro (fun c_23 => ?_) (fun c_23 => ?_)
      · have c_23 : x2.toInt < x1.toInt := c_23
        show mp_W E X 4 23 [(0, .ref a0), (1, .int x0), (2, .int x1), (3, .int x2)] [] w3_ 0 0
        refine mp_run mp_k_cX9_plan_ok hF mp_tabX9_ok [mp_i (.aload_n 0), mp_h (.getfield 39) [40, 15], mp_i (.aload_n 0), mp_h (.getfield 19) [37, 15], mp_i (.iload_n 1), mp_i (.iload_n 2)] (by decide +kernel) ?_
        refine And.intro rfl (And.intro rfl ?_)
        refine And.intro rfl (And.intro rfl ?_)
        show mp_W E X 4 33 [(0, .ref a0), (1, .int x0), (2, .int x1), (3, .int x2)] [.int x1, .int x0, .ref a1, .ref a13] w3_ 0 0
        refine mp_callV hF (As := [.ref a1, .int x0, .int x1]) (rest := []) (wr := [(mp_arI E a17 0 78 f13), (mp_ob9 a0 a18 a1 a19 a20 a13 a21 a22 a23 a24)]) (bX2_prepare_107 E a13 a1 a14 a15 a16 a2 a3 a4 a5 a6 a7 a8 a9 a10 a11 a12 a17 a33 a25 a26 a27 a28 a29 a30 a31 a32 f10 f11 f12 f0 f1 f2 f3 f4 f5 f6 f7 f8 f9 y7 y8 y9 y10 y11 y12 y0 y1 y2 y3 y4 y5 y6 x0 x1 p0 p1 p2 p3 p4 p5 (by (first | exact c_4 | omega)) (by (first | exact mp_o398 u_y4 c_5 | omega)) (by (first | exact mp_o254 c_6 | omega)) (by (first | exact c_7 | omega)) l_y7 u_y7 l_y8 u_y8 l_y9 u_y9 l_y0 u_y0 l_y2 u_y2 l_y3 u_y3 l_y4 u_y4 l_y5 u_y5 l_y6 u_y6 (by first | (first | exact c_8 | omega) | (show y0.toInt + x1.toInt ≤ 99; omega))) mp_lkX9_226 10 rfl [10, 11, 12, 13, 16, 17, 0, 1, 2, 3, 4, 5, 6, 7, 8, 9] [14, 15] rfl rfl rfl rfl rfl ⟨(Nat.le_of_ble_eq_true rfl), (Nat.le_of_ble_eq_true rfl), (Nat.le_of_ble_eq_true rfl), (Nat.le_of_ble_eq_true rfl)⟩ (Nat.le_of_ble_eq_true rfl) (by first | exact mp_fd_ok mp_k_cX9_plan_ok (by decide +kernel) | decide +kernel) (fun v_24 w_25 h_26 => ?_)
        refine h_26.elim fun r_27 q_37 => q_37.elim fun r_28 q_38 => q_38.elim fun g_29 q_39 => q_39.elim fun g_30 q_40 => q_40.elim fun g_31 q_41 => q_41.elim fun g_32 q_42 => q_42.elim fun e_43 q_44 => q_44.elim fun l_33 q_45 => q_45.elim fun u_34 q_46 => q_46.elim fun l_35 q_47 => q_47.elim fun u_36 e_48 => ?_
        clear h_26 q_37 q_38 q_39 q_40 q_41 q_42 q_44 q_45 q_46 q_47
        subst e_43
        subst e_48
        let w4_ : va_W := [(mp_arI E a17 0 78 f13), (mp_ob9 a0 a18 a1 a19 a20 a13 a21 a22 a23 a24), (mp_ob2 a13 y2 x1 r_27 r_28 a14 a15 a16 a17 a33 y11 y12), (mp_arI E a14 0 432 g_29), (mp_arI E a15 0 432 g_30), (mp_arI E a16 0 72 g_31), (mp_ob0 a1 a2 y0 a10 a25 a26 a11 a12 a27), (mp_ob7 a2 y1 y2 y3 y4 y5 y6 a3 a4 a28 a5 a29 a6 a7 a30 a8 a9 a31 a32), (mp_arI E a3 0 36 f0), (mp_arL E a4 12 f1), (mp_arI E a5 0 6 f2), (mp_arI E a6 0 10 f3), (mp_arI E a7 0 10 f4), (mp_arI E a8 0 10 f5), (mp_arI E a9 0 10 f6), (mp_arI E a10 0 6 f7), (mp_arL E a11 20 f8), (mp_arI E a12 0 10 g_32)]
        show mp_W E X 4 36 [(0, .ref a0), (1, .int x0), (2, .int x1), (3, .int x2)] [] w4_ 0 0
        refine mp_run mp_k_cX9_plan_ok hF mp_tabX9_ok [mp_i (.aload_n 0), mp_h (.getfield 39) [40, 1]] (by decide +kernel) ?_
        refine And.intro rfl (And.intro rfl ?_)
        show mp_W E X 4 40 [(0, .ref a0), (1, .int x0), (2, .int x1), (3, .int x2)] [.ref a13] w4_ 0 0
        refine mp_callV hF (As := []) (rest := []) (wr := [(mp_ob9 a0 a18 a1 a19 a20 a13 a21 a22 a23 a24), (mp_arI E a16 0 72 g_31), (mp_ob0 a1 a2 y0 a10 a25 a26 a11 a12 a27), (mp_ob7 a2 y1 y2 y3 y4 y5 y6 a3 a4 a28 a5 a29 a6 a7 a30 a8 a9 a31 a32), (mp_arI E a3 0 36 f0), (mp_arL E a4 12 f1), (mp_arI E a5 0 6 f2), (mp_arI E a6 0 10 f3), (mp_arI E a7 0 10 f4), (mp_arI E a8 0 10 f5), (mp_arI E a9 0 10 f6), (mp_arI E a10 0 6 f7), (mp_arL E a11 20 f8), (mp_arI E a12 0 10 g_32)]) (bX2_leastOars_111 E a13 a14 a15 a17 a16 a33 g_29 g_30 f13 y2 x1 r_27 r_28 y11 y12 l_y2 u_y2 (by (first | exact mp_o254 c_6 | omega)) (by (first | exact c_7 | omega)) l_33 u_34) mp_lkX9_230 2 rfl [2, 3, 4, 0] [1, 5, 6, 7, 8, 9, 10, 11, 12, 13, 14, 15, 16, 17] rfl rfl rfl rfl rfl ⟨(Nat.le_of_ble_eq_true rfl), (Nat.le_of_ble_eq_true rfl), (Nat.le_of_ble_eq_true rfl), (Nat.le_of_ble_eq_true rfl)⟩ (Nat.le_of_ble_eq_true rfl) (by first | exact mp_fd_ok mp_k_cX9_plan_ok (by decide +kernel) | decide +kernel) (fun v_49 w_50 h_51 => ?_)
        obtain ⟨g_52, r_53, rfl, rfl⟩ := h_51
        let w5_ : va_W := [(mp_ob9 a0 a18 a1 a19 a20 a13 a21 a22 a23 a24), (mp_arI E a16 0 72 g_31), (mp_ob0 a1 a2 y0 a10 a25 a26 a11 a12 a27), (mp_ob7 a2 y1 y2 y3 y4 y5 y6 a3 a4 a28 a5 a29 a6 a7 a30 a8 a9 a31 a32), (mp_arI E a3 0 36 f0), (mp_arL E a4 12 f1), (mp_arI E a5 0 6 f2), (mp_arI E a6 0 10 f3), (mp_arI E a7 0 10 f4), (mp_arI E a8 0 10 f5), (mp_arI E a9 0 10 f6), (mp_arI E a10 0 6 f7), (mp_arL E a11 20 f8), (mp_arI E a12 0 10 g_32), (mp_ob2 a13 y2 x1 r_27 r_28 a14 a15 a16 a17 a33 y11 y12), (mp_arI E a14 0 432 g_29), (mp_arI E a15 0 432 g_30), (mp_arI E a17 0 78 g_52)]
        show mp_W E X 4 43 [(0, .ref a0), (1, .int x0), (2, .int x1), (3, .int x2)] [.int r_53] w5_ 0 0
        refine mp_run mp_k_cX9_plan_ok hF mp_tabX9_ok [mp_c (.iconst (-1)) (-1), mp_h (.if_icmp .ne 7) [51]] (by decide +kernel) ?_
        refine And.intro (fun c_54 => ?_) (fun c_54 => ?_)
        · have c_54 : r_53.toInt ≠ (-1) := c_54
          show mp_W E X 4 51 [(0, .ref a0), (1, .int x0), (2, .int x1), (3, .int x2)] [] w5_ 0 0
          refine mp_run mp_k_cX9_plan_ok hF mp_tabX9_ok [mp_i (.aload_n 0), mp_h (.getfield 39) [40, 0], mp_i (.iload_n 3)] (by decide +kernel) ?_
          refine And.intro rfl (And.intro rfl ?_)
          show mp_W E X 4 56 [(0, .ref a0), (1, .int x0), (2, .int x1), (3, .int x2)] [.int x2, .ref a13] w5_ 0 0
          refine mp_callV hF (As := [.int x2]) (rest := []) (wr := [(mp_ob9 a0 a18 a1 a19 a20 a13 a21 a22 a23 a24), (mp_arI E a16 0 72 g_31), (mp_ob0 a1 a2 y0 a10 a25 a26 a11 a12 a27), (mp_ob7 a2 y1 y2 y3 y4 y5 y6 a3 a4 a28 a5 a29 a6 a7 a30 a8 a9 a31 a32), (mp_arI E a3 0 36 f0), (mp_arL E a4 12 f1), (mp_arI E a5 0 6 f2), (mp_arI E a6 0 10 f3), (mp_arI E a7 0 10 f4), (mp_arI E a8 0 10 f5), (mp_arI E a9 0 10 f6), (mp_arI E a10 0 6 f7), (mp_arL E a11 20 f8), (mp_arI E a12 0 10 g_32)]) (bX2_isleOfFirst_113 E a13 a14 a15 a17 a16 a33 g_29 g_30 g_52 y2 x1 r_27 r_28 y11 y12 x2 (by (first | exact c_22 | omega)) (by (first | exact mp_o538 c_7 c_23 | omega)) l_y2 u_y2 (by (first | exact mp_o254 c_6 | omega)) (by (first | exact c_7 | omega)) l_33 u_34) mp_lkX9_233 14 rfl [14, 15, 16, 17] [0, 1, 2, 3, 4, 5, 6, 7, 8, 9, 10, 11, 12, 13] rfl rfl rfl rfl rfl ⟨(Nat.le_of_ble_eq_true rfl), (Nat.le_of_ble_eq_true rfl), (Nat.le_of_ble_eq_true rfl), (Nat.le_of_ble_eq_true rfl)⟩ (Nat.le_of_ble_eq_true rfl) (by first | exact mp_fd_ok mp_k_cX9_plan_ok (by decide +kernel) | decide +kernel) (fun v_55 w_56 h_57 => ?_)
          obtain ⟨r_58, rfl, l_59, u_60, rfl⟩ := h_57
          show mp_W E X 4 59 [(0, .ref a0), (1, .int x0), (2, .int x1), (3, .int x2)] [.int r_58] w5_ 0 0
          exact mp_iret hF hQ rfl rfl (Nat.le_of_ble_eq_true rfl) (Nat.le_of_ble_eq_true rfl) [0, 2, 3, 4, 5, 6, 7, 8, 9, 10, 11, 12, 13, 14, 15, 16, 1, 17] (w' := [(mp_ob9 a0 a18 a1 a19 a20 a13 a21 a22 a23 a24), (mp_ob0 a1 a2 y0 a10 a25 a26 a11 a12 a27), (mp_ob7 a2 y1 y2 y3 y4 y5 y6 a3 a4 a28 a5 a29 a6 a7 a30 a8 a9 a31 a32), (mp_arI E a3 0 36 f0), (mp_arL E a4 12 f1), (mp_arI E a5 0 6 f2), (mp_arI E a6 0 10 f3), (mp_arI E a7 0 10 f4), (mp_arI E a8 0 10 f5), (mp_arI E a9 0 10 f6), (mp_arI E a10 0 6 f7), (mp_arL E a11 20 f8), (mp_arI E a12 0 10 g_32), (mp_ob2 a13 y2 x1 r_27 r_28 a14 a15 a16 a17 a33 y11 y12), (mp_arI E a14 0 432 g_29), (mp_arI E a15 0 432 g_30), (mp_arI E a16 0 72 g_31), (mp_arI E a17 0 78 g_52)]) rfl rfl ⟨g_32, y2, x1, r_27, r_28, g_29, g_30, g_31, g_52, r_58, rfl, l_y2, u_y2, (by (first | exact mp_o254 c_6 | omega)), (by (first | exact c_7 | omega)), l_33, u_34, (by (first | exact mp_o399 l_59 | omega)), u_60, rfl⟩ (by first | exact mp_fd_ok mp_k_cX9_plan_ok (by decide +kernel) | decide +kernel)
        · have c_54 : r_53.toInt = (-1) := (congrArg Int32.toInt c_54)
          show mp_W E X 4 47 [(0, .ref a0), (1, .int x0), (2, .int x1), (3, .int x2)] [] w5_ 0 0
          refine mp_run mp_k_cX9_plan_ok hF mp_tabX9_ok [mp_c (.iconst (-1)) (-1), mp_h (.goto 11) [59]] (by decide +kernel) ?_
          show mp_W E X 4 59 [(0, .ref a0), (1, .int x0), (2, .int x1), (3, .int x2)] [.int (-1)] w5_ 0 0
          exact mp_iret hF hQ rfl rfl (Nat.le_of_ble_eq_true rfl) (Nat.le_of_ble_eq_true rfl) [0, 2, 3, 4, 5, 6, 7, 8, 9, 10, 11, 12, 13, 14, 15, 16, 1, 17] (w' := [(mp_ob9 a0 a18 a1 a19 a20 a13 a21 a22 a23 a24), (mp_ob0 a1 a2 y0 a10 a25 a26 a11 a12 a27), (mp_ob7 a2 y1 y2 y3 y4 y5 y6 a3 a4 a28 a5 a29 a6 a7 a30 a8 a9 a31 a32), (mp_arI E a3 0 36 f0), (mp_arL E a4 12 f1), (mp_arI E a5 0 6 f2), (mp_arI E a6 0 10 f3), (mp_arI E a7 0 10 f4), (mp_arI E a8 0 10 f5), (mp_arI E a9 0 10 f6), (mp_arI E a10 0 6 f7), (mp_arL E a11 20 f8), (mp_arI E a12 0 10 g_32), (mp_ob2 a13 y2 x1 r_27 r_28 a14 a15 a16 a17 a33 y11 y12), (mp_arI E a14 0 432 g_29), (mp_arI E a15 0 432 g_30), (mp_arI E a16 0 72 g_31), (mp_arI E a17 0 78 g_52)]) rfl rfl ⟨g_32, y2, x1, r_27, r_28, g_29, g_30, g_31, g_52, (-1), rfl, l_y2, u_y2, (by omega), (by (first | exact c_7 | omega)), l_33, u_34, (by decide), (by decide), rfl⟩ (by first | exact mp_fd_ok mp_k_cX9_plan_ok (by decide +kernel) | decide +kernel)
      · have c_23 : x1.toInt ≤ x2.toInt := c_23
        show mp_W E X 4 21 [(0, .ref a0), (1, .int x0), (2, .int x1), (3, .int x2)] [] w3_ 0 0
        refine mp_run mp_k_cX9_plan_ok hF mp_tabX9_ok [mp_c (.iconst (-1)) (-1)] (by decide +kernel) ?_
        show mp_W E X 4 22 [(0, .ref a0), (1, .int x0), (2, .int x1), (3, .int x2)] [.int (-1)] w3_ 0 0
        exact mp_iret hF hQ rfl rfl (Nat.le_of_ble_eq_true rfl) (Nat.le_of_ble_eq_true rfl) [15, 16, 17, 0, 1, 2, 3, 4, 5, 6, 7, 8, 9, 10, 11, 12, 13, 14] (w' := w1_) rfl rfl ⟨f9, y7, y8, y9, y10, f10, f11, f12, f13, (-1), rfl, l_y7, u_y7, l_y8, u_y8, l_y9, u_y9, (by decide), (by decide), rfl⟩ (by first | exact mp_fd_ok mp_k_cX9_plan_ok (by decide +kernel) | decide +kernel)
set_option maxHeartbeats 4000000 in
set_option maxRecDepth 100000 in
theorem bJ6_bitCount_0f7a4_115 (E : mp_E) (x0 : Int32) : mp_Ct E yJ6_bitCount_0f7a4 cJ6_bitCount_0f7a4 1 (some FieldType.int) 0 0 0 0 [.int x0] [] (fun v w' => ∃ r1 : Int32, v = some (.int r1) ∧ w' = []) := by
  refine mp_met false (by decide) (by decide) (Nat.le_of_ble_eq_true rfl) (fun X hF hQ => ?_)
  have hF : mp_F E X (RJ6, cJ6_bitCount_0f7a4, 1, (0, 0, 0, 0), (some FieldType.int), false) := hF
  show mp_W E X 1 0 [(0, .int x0)] [] [] 0 0
  refine mp_run mp_k_cJ6_bitCount_0f7a4_ok hF mp_tabJ6_ok [mp_i (.iload_n 0), mp_i (.iload_n 0), mp_c (.iconst 1) 1] (by decide +kernel) ?_
  show mp_W E X 1 3 [(0, .int x0)] [.int 1, .int x0, .int x0] [] 0 0
  refine mp_iushr hF (by first | exact mp_fd_ok mp_k_cJ6_bitCount_0f7a4_ok (by decide +kernel) | decide +kernel) (fun z_1 => ?_)
  show mp_W E X 1 4 [(0, .int x0)] [.int z_1, .int x0] [] 0 0
  refine mp_run mp_k_cJ6_bitCount_0f7a4_ok hF mp_tabJ6_ok [mp_c (.ldc_w 265) 1431655765, mp_i .iand, mp_i .isub, mp_i (.istore_n 0), mp_i (.iload_n 0), mp_c (.ldc_w 266) 858993459, mp_i .iand, mp_i (.iload_n 0), mp_c (.iconst 2) 2] (by decide +kernel) ?_
  intro z_2 h_3
  intro z_5 h_6
  intro z_8 h_9
  show mp_W E X 1 17 [(0, .int z_5)] [.int 2, .int z_5, .int z_8] [] 0 0
  refine mp_iushr hF (by first | exact mp_fd_ok mp_k_cJ6_bitCount_0f7a4_ok (by decide +kernel) | decide +kernel) (fun z_11 => ?_)
  show mp_W E X 1 18 [(0, .int z_5)] [.int z_11, .int z_8] [] 0 0
  refine mp_run mp_k_cJ6_bitCount_0f7a4_ok hF mp_tabJ6_ok [mp_c (.ldc_w 266) 858993459, mp_i .iand, mp_i .iadd, mp_i (.istore_n 0), mp_i (.iload_n 0), mp_i (.iload_n 0), mp_c (.iconst 4) 4] (by decide +kernel) ?_
  intro z_12 h_13
  intro z_15 h_16
  show mp_W E X 1 27 [(0, .int z_15)] [.int 4, .int z_15, .int z_15] [] 0 0
  refine mp_iushr hF (by first | exact mp_fd_ok mp_k_cJ6_bitCount_0f7a4_ok (by decide +kernel) | decide +kernel) (fun z_18 => ?_)
  show mp_W E X 1 28 [(0, .int z_15)] [.int z_18, .int z_15] [] 0 0
  refine mp_run mp_k_cJ6_bitCount_0f7a4_ok hF mp_tabJ6_ok [mp_i .iadd, mp_c (.ldc_w 267) 252645135, mp_i .iand, mp_i (.istore_n 0), mp_i (.iload_n 0), mp_i (.iload_n 0), mp_c (.bipush 8) 8] (by decide +kernel) ?_
  intro z_19 h_20
  intro z_22 h_23
  show mp_W E X 1 38 [(0, .int z_22)] [.int 8, .int z_22, .int z_22] [] 0 0
  refine mp_iushr hF (by first | exact mp_fd_ok mp_k_cJ6_bitCount_0f7a4_ok (by decide +kernel) | decide +kernel) (fun z_25 => ?_)
  show mp_W E X 1 39 [(0, .int z_22)] [.int z_25, .int z_22] [] 0 0
  refine mp_run mp_k_cJ6_bitCount_0f7a4_ok hF mp_tabJ6_ok [mp_i .iadd, mp_i (.istore_n 0), mp_i (.iload_n 0), mp_i (.iload_n 0), mp_c (.bipush 16) 16] (by decide +kernel) ?_
  intro z_26 h_27
  show mp_W E X 1 45 [(0, .int z_26)] [.int 16, .int z_26, .int z_26] [] 0 0
  refine mp_iushr hF (by first | exact mp_fd_ok mp_k_cJ6_bitCount_0f7a4_ok (by decide +kernel) | decide +kernel) (fun z_29 => ?_)
  show mp_W E X 1 46 [(0, .int z_26)] [.int z_29, .int z_26] [] 0 0
  refine mp_run mp_k_cJ6_bitCount_0f7a4_ok hF mp_tabJ6_ok [mp_i .iadd, mp_i (.istore_n 0), mp_i (.iload_n 0), mp_c (.bipush 63) 63, mp_i .iand] (by decide +kernel) ?_
  intro z_30 h_31
  intro z_33 h_34
  show mp_W E X 1 52 [(0, .int z_30)] [.int z_33] [] 0 0
  exact mp_iret hF hQ rfl rfl (Nat.le_of_ble_eq_true rfl) (Nat.le_of_ble_eq_true rfl) [] (w' := []) rfl rfl ⟨z_33, rfl, rfl⟩ (by first | exact mp_fd_ok mp_k_cJ6_bitCount_0f7a4_ok (by decide +kernel) | decide +kernel)
set_option maxHeartbeats 4000000 in
set_option maxRecDepth 100000 in
theorem bX2_reached_116 (E : mp_E) (a0 a1 a2 a3 a4 a5 : Nat) (f0 : Nat → Int32) (f1 : Nat → Int32) (y0 : Int32) (y1 : Int32) (y2 : Int32) (y3 : Int32) (y4 : Int32) (y5 : Int32) (x0 : Int32) (x1 : Int32) (x2 : Int32) (l_x0 : 0 ≤ x0.toInt) (u_x0 : x0.toInt ≤ 11) (l_x1 : 0 ≤ x1.toInt) (u_x1 : x1.toInt ≤ 5) (l_y0 : 0 ≤ y0.toInt) (u_y0 : y0.toInt ≤ 6) (l_y1 : 0 ≤ y1.toInt) (u_y1 : y1.toInt ≤ 12) (l_y2 : 0 ≤ y2.toInt) (u_y2 : y2.toInt ≤ 5) : mp_Ct E yX2_reached cX2_reached 7 (some FieldType.int) 1 0 0 22 [.ref a0, .int x0, .int x1, .int x2] [(mp_ob2 a0 y0 y1 y2 y3 a1 a2 a3 a4 a5 y4 y5), (mp_arI E a1 0 432 f0), (mp_arI E a2 0 432 f1)] (fun v w' => ∃ r1 : Int32, v = some (.int r1) ∧ 0 ≤ r1.toInt ∧ r1.toInt ≤ 1023 ∧ w' = [(mp_ob2 a0 y0 y1 y2 y3 a1 a2 a3 a4 a5 y4 y5), (mp_arI E a1 0 432 f0), (mp_arI E a2 0 432 f1)]) := by
  refine mp_met false (by decide) (by decide) (Nat.le_of_ble_eq_true rfl) (fun X hF hQ => ?_)
  have hF : mp_F E X (RX2, cX2_reached, 7, (1, 0, 0, 22), (some FieldType.int), false) := hF
  let w1_ : va_W := [(mp_ob2 a0 y0 y1 y2 y3 a1 a2 a3 a4 a5 y4 y5), (mp_arI E a1 0 432 f0), (mp_arI E a2 0 432 f1)]
  show mp_W E X 7 0 [(0, .ref a0), (1, .int x0), (2, .int x1), (3, .int x2)] [] w1_ 0 0
  refine mp_run mp_k_cX2_reached_ok hF mp_tabX2_ok [mp_c (.iconst 0) 0, mp_i (.istore 4), mp_c (.iconst 0) 0, mp_i (.istore 5)] (by decide +kernel) ?_
  show mp_W E X 7 6 [(5, .int 0), (4, .int 0), (0, .ref a0), (1, .int x0), (2, .int x1), (3, .int x2)] [] w1_ 0 0
  have lp_7 : ∀ (d_8 : Nat) (i_1 : Int32) (i_2 : Int32), 0 ≤ i_1.toInt → i_1.toInt ≤ 6 → 0 ≤ i_2.toInt → i_2.toInt ≤ 1023 → y0.toInt - i_1.toInt ≤ (d_8 : Int) → mp_W E X 7 6 [(5, .int i_1), (4, .int i_2), (0, .ref a0), (1, .int x0), (2, .int x1), (3, .int x2)] [] [(mp_ob2 a0 y0 y1 y2 y3 a1 a2 a3 a4 a5 y4 y5), (mp_arI E a1 0 432 f0), (mp_arI E a2 0 432 f1)] 0 0 := by
    intro d_8
    induction d_8 using Nat.strongRecOn with
    | ind d_8 ih_9 =>
      intro i_1 i_2 l_3 u_4 l_5 u_6 hm_10
      refine mp_run mp_k_cX2_reached_ok hF mp_tabX2_ok [mp_i (.iload 5), mp_i (.aload_n 0), mp_h (.getfield 51) [7, 0], mp_h (.if_icmp .ge 50) [62]] (by decide +kernel) ?_
      refine And.intro rfl (And.intro rfl ?_)
      refine And.intro (fun c_11 => ?_) (fun c_11 => ?_)
      · have c_11 : y0.toInt ≤ i_1.toInt := c_11
        show mp_W E X 7 62 [(5, .int i_1), (4, .int i_2), (0, .ref a0), (1, .int x0), (2, .int x1), (3, .int x2)] [] w1_ 0 0
        refine mp_run mp_k_cX2_reached_ok hF mp_tabX2_ok [mp_i (.iload 4)] (by decide +kernel) ?_
        show mp_W E X 7 64 [(5, .int i_1), (4, .int i_2), (0, .ref a0), (1, .int x0), (2, .int x1), (3, .int x2)] [.int i_2] w1_ 0 0
        exact mp_iret hF hQ rfl rfl (Nat.le_of_ble_eq_true rfl) (Nat.le_of_ble_eq_true rfl) [0, 1, 2] (w' := w1_) rfl rfl ⟨i_2, rfl, l_5, u_6, rfl⟩ (by first | exact mp_fd_ok mp_k_cX2_reached_ok (by decide +kernel) | decide +kernel)
      · have c_11 : i_1.toInt < y0.toInt := c_11
        show mp_W E X 7 15 [(5, .int i_1), (4, .int i_2), (0, .ref a0), (1, .int x0), (2, .int x1), (3, .int x2)] [] w1_ 0 0
        refine mp_run mp_k_cX2_reached_ok hF mp_tabX2_ok [mp_i (.iload_n 1), mp_i (.iload_n 2), mp_i (.iload 5)] (by decide +kernel) ?_
        show mp_W E X 7 19 [(5, .int i_1), (4, .int i_2), (0, .ref a0), (1, .int x0), (2, .int x1), (3, .int x2)] [.int i_1, .int x1, .int x0] w1_ 0 0
        refine mp_callS hF (As := [.int x0, .int x1, .int i_1]) (rest := []) (wr := w1_) (bX2_leg_102 E x0 x1 i_1 l_x0 u_x0 l_x1 u_x1 l_3 (by (first | exact mp_o398 u_y0 c_11 | omega))) mp_lkX2_61 [] [0, 1, 2] rfl rfl rfl rfl rfl ⟨(Nat.le_of_ble_eq_true rfl), (Nat.le_of_ble_eq_true rfl), (Nat.le_of_ble_eq_true rfl), (Nat.le_of_ble_eq_true rfl)⟩ (Nat.le_of_ble_eq_true rfl) (by first | exact mp_fd_ok mp_k_cX2_reached_ok (by decide +kernel) | decide +kernel) (fun v_12 w_13 h_14 => ?_)
        obtain ⟨r_15, rfl, l_16, u_17, rfl⟩ := h_14
        show mp_W E X 7 22 [(5, .int i_1), (4, .int i_2), (0, .ref a0), (1, .int x0), (2, .int x1), (3, .int x2)] [.int r_15] w1_ 0 0
        refine mp_run mp_k_cX2_reached_ok hF mp_tabX2_ok [mp_i (.istore 6), mp_i (.aload_n 0), mp_h (.getfield 11) [11, 0], mp_i (.iload 6), mp_h .iaload [1], mp_c (.iconst (-1)) (-1), mp_h (.if_icmp .eq 24) [56]] (by decide +kernel) ?_
        refine And.intro rfl (And.intro rfl ?_)
        refine And.intro rfl (And.intro rfl (And.intro (vp_in_iff.mpr (by (first | exact mp_o543 l_16 u_17 | omega))) ?_))
        intro z_18 h_19
        refine And.intro (fun c_20 => ?_) (fun c_20 => ?_)
        · have c_20 : z_18.toInt = (-1) := (congrArg Int32.toInt c_20)
          show mp_W E X 7 56 [(6, .int r_15), (5, .int i_1), (4, .int i_2), (0, .ref a0), (1, .int x0), (2, .int x1), (3, .int x2)] [] w1_ 0 0
          refine mp_run mp_k_cX2_reached_ok hF mp_tabX2_ok [mp_c (.iinc 5 1) 1, mp_h (.goto (-53)) [6]] (by decide +kernel) ?_
          intro z_21 h_22
          have e_23 : z_21.toInt = i_1.toInt + 1 := mp_add (a := i_1.toInt) (b := 1) h_22 rfl (by decide) (by (first | exact mp_o2 l_3 | omega)) (by (first | exact mp_o351 u_4 | omega))
          show mp_W E X 7 6 [(5, .int z_21), (6, .int r_15), (4, .int i_2), (0, .ref a0), (1, .int x0), (2, .int x1), (3, .int x2)] [] w1_ 0 0
          exact mp_sub [0, 2, 3, 4, 5, 6] rfl [0, 1, 2] rfl rfl (ih_9 (d_8 - 1) (by (first | exact mp_o72 hm_10 c_11 | omega)) z_21 i_2 (by (first | exact mp_o51 l_3 e_23 | omega)) (by (first | exact mp_o352 u_y0 c_11 e_23 | omega)) l_5 u_6 (by (first | exact mp_o77 hm_10 e_23 | omega)))
        · have c_20 : z_18.toInt ≠ (-1) := c_20
          show mp_W E X 7 35 [(6, .int r_15), (5, .int i_1), (4, .int i_2), (0, .ref a0), (1, .int x0), (2, .int x1), (3, .int x2)] [] w1_ 0 0
          refine mp_run mp_k_cX2_reached_ok hF mp_tabX2_ok [mp_i (.aload_n 0), mp_h (.getfield 15) [12, 0], mp_i (.iload 6), mp_h .iaload [2], mp_i (.iload_n 3), mp_i .iand, mp_h (.ifCond .ne 12) [56]] (by decide +kernel) ?_
          refine And.intro rfl (And.intro rfl ?_)
          refine And.intro rfl (And.intro rfl (And.intro (vp_in_iff.mpr (by (first | exact mp_o543 l_16 u_17 | omega))) ?_))
          intro z_24 h_25
          intro z_26 h_27
          refine And.intro (fun c_29 => ?_) (fun c_29 => ?_)
          · have c_29 : z_26.toInt ≠ 0 := c_29
            show mp_W E X 7 56 [(6, .int r_15), (5, .int i_1), (4, .int i_2), (0, .ref a0), (1, .int x0), (2, .int x1), (3, .int x2)] [] w1_ 0 0
            refine mp_run mp_k_cX2_reached_ok hF mp_tabX2_ok [mp_c (.iinc 5 1) 1, mp_h (.goto (-53)) [6]] (by decide +kernel) ?_
            intro z_30 h_31
            have e_32 : z_30.toInt = i_1.toInt + 1 := mp_add (a := i_1.toInt) (b := 1) h_31 rfl (by decide) (by omega) (by omega)
            show mp_W E X 7 6 [(5, .int z_30), (6, .int r_15), (4, .int i_2), (0, .ref a0), (1, .int x0), (2, .int x1), (3, .int x2)] [] w1_ 0 0
            exact mp_sub [0, 2, 3, 4, 5, 6] rfl [0, 1, 2] rfl rfl (ih_9 (d_8 - 1) (by omega) z_30 i_2 (by omega) (by omega) l_5 u_6 (by omega))
          · have c_29 : z_26.toInt = 0 := (congrArg Int32.toInt c_29)
            show mp_W E X 7 47 [(6, .int r_15), (5, .int i_1), (4, .int i_2), (0, .ref a0), (1, .int x0), (2, .int x1), (3, .int x2)] [] w1_ 0 0
            refine mp_run mp_k_cX2_reached_ok hF mp_tabX2_ok [mp_i (.iload 4), mp_c (.iconst 1) 1, mp_i (.iload 5), mp_i .ishl, mp_i .ior, mp_i (.istore 4), mp_c (.iinc 5 1) 1, mp_h (.goto (-53)) [6]] (by decide +kernel) ?_
            intro z_33 h_34
            have e_36 : 1 ≤ z_33.toInt ∧ z_33.toInt ≤ 512 := mp_shl10 h_34 (by (first | exact l_3 | omega)) (by (first | exact mp_o523 u_4 | omega))
            intro z_37 h_38
            have e_40 : 0 ≤ z_37.toInt ∧ z_37.toInt ≤ 1023 := mp_or10 h_38 ⟨by (first | exact l_5 | omega), by (first | exact u_6 | omega)⟩ ⟨by (first | exact mp_o463 e_36 | omega), by (first | exact mp_o464 e_36 | omega)⟩
            intro z_41 h_42
            have e_43 : z_41.toInt = i_1.toInt + 1 := mp_add (a := i_1.toInt) (b := 1) h_42 rfl (by decide) (by (first | exact mp_o2 l_3 | omega)) (by (first | exact mp_o351 u_4 | omega))
            show mp_W E X 7 6 [(5, .int z_41), (4, .int z_37), (6, .int r_15), (0, .ref a0), (1, .int x0), (2, .int x1), (3, .int x2)] [] w1_ 0 0
            exact mp_sub [0, 1, 3, 4, 5, 6] rfl [0, 1, 2] rfl rfl (ih_9 (d_8 - 1) (by (first | exact mp_o72 hm_10 c_11 | omega)) z_41 z_37 (by (first | exact mp_o51 l_3 e_43 | omega)) (by (first | exact mp_o352 u_y0 c_11 e_43 | omega)) (by (first | exact mp_o465 e_40 | omega)) (by (first | exact mp_o466 e_40 | omega)) (by (first | exact mp_o77 hm_10 e_43 | omega)))
  exact mp_sub [0, 1, 2, 3, 4, 5] rfl [0, 1, 2] rfl rfl (lp_7 _ 0 0 (by decide) (by decide) (by decide) (by decide) (Int.self_le_toNat _))
set_option maxHeartbeats 4000000 in
set_option maxRecDepth 100000 in
theorem bX2_canKeep_117 (E : mp_E) (a0 a1 a2 a3 a4 a5 : Nat) (f0 : Nat → Int32) (f1 : Nat → Int32) (y0 : Int32) (y1 : Int32) (y2 : Int32) (y3 : Int32) (y4 : Int32) (y5 : Int32) (x0 : Int32) (l_y0 : 0 ≤ y0.toInt) (u_y0 : y0.toInt ≤ 6) (l_y1 : 0 ≤ y1.toInt) (u_y1 : y1.toInt ≤ 12) (l_y2 : 0 ≤ y2.toInt) (u_y2 : y2.toInt ≤ 5) : mp_Ct E yX2_canKeep cX2_canKeep 6 (some FieldType.boolean) 2 0 0 48 [.ref a0, .int x0] [(mp_ob2 a0 y0 y1 y2 y3 a1 a2 a3 a4 a5 y4 y5), (mp_arI E a1 0 432 f0), (mp_arI E a2 0 432 f1)] (fun v w' => (v = some (.int 0) ∧ w' = [(mp_ob2 a0 y0 y1 y2 y3 a1 a2 a3 a4 a5 y4 y5), (mp_arI E a1 0 432 f0), (mp_arI E a2 0 432 f1)]) ∨ (v = some (.int 1) ∧ w' = [(mp_ob2 a0 y0 y1 y2 y3 a1 a2 a3 a4 a5 y4 y5), (mp_arI E a1 0 432 f0), (mp_arI E a2 0 432 f1)])) := by
  refine mp_met false (by decide) (by decide) (Nat.le_of_ble_eq_true rfl) (fun X hF hQ => ?_)
  have hF : mp_F E X (RX2, cX2_canKeep, 6, (2, 0, 0, 48), (some FieldType.boolean), false) := hF
  let w1_ : va_W := [(mp_ob2 a0 y0 y1 y2 y3 a1 a2 a3 a4 a5 y4 y5), (mp_arI E a1 0 432 f0), (mp_arI E a2 0 432 f1)]
  show mp_W E X 6 0 [(0, .ref a0), (1, .int x0)] [] w1_ 0 0
  refine mp_run mp_k_cX2_canKeep_ok hF mp_tabX2_ok [mp_c (.iconst 1) 1, mp_i (.aload_n 0), mp_h (.getfield 58) [9, 0], mp_i .ishl, mp_i (.istore_n 2), mp_c (.iconst 0) 0, mp_i (.istore_n 3)] (by decide +kernel) ?_
  refine And.intro rfl (And.intro rfl ?_)
  intro z_1 h_2
  have e_4 : 1 ≤ z_1.toInt ∧ z_1.toInt ≤ 512 := mp_shl10 h_2 (by (first | exact l_y2 | omega)) (by (first | exact mp_o594 u_y2 | omega))
  show mp_W E X 6 9 [(3, .int 0), (2, .int z_1), (0, .ref a0), (1, .int x0)] [] w1_ 0 0
  have lp_11 : ∀ (d_12 : Nat) (i_5 : Int32) (i_6 : Int32), 0 ≤ i_5.toInt → i_5.toInt ≤ 12 → 0 ≤ i_6.toInt → i_6.toInt ≤ 1023 → y1.toInt - i_5.toInt ≤ (d_12 : Int) → mp_W E X 6 9 [(3, .int i_5), (2, .int i_6), (0, .ref a0), (1, .int x0)] [] [(mp_ob2 a0 y0 y1 y2 y3 a1 a2 a3 a4 a5 y4 y5), (mp_arI E a1 0 432 f0), (mp_arI E a2 0 432 f1)] 0 0 := by
    intro d_12
    induction d_12 using Nat.strongRecOn with
    | ind d_12 ih_13 =>
      intro i_5 i_6 l_7 u_8 l_9 u_10 hm_14
      refine mp_run mp_k_cX2_canKeep_ok hF mp_tabX2_ok [mp_i (.iload_n 3), mp_i (.aload_n 0), mp_h (.getfield 52) [8, 0], mp_h (.if_icmp .ge 59) [73]] (by decide +kernel) ?_
      refine And.intro rfl (And.intro rfl ?_)
      refine And.intro (fun c_15 => ?_) (fun c_15 => ?_)
      · have c_15 : y1.toInt ≤ i_5.toInt := c_15
        show mp_W E X 6 73 [(3, .int i_5), (2, .int i_6), (0, .ref a0), (1, .int x0)] [] w1_ 0 0
        refine mp_run mp_k_cX2_canKeep_ok hF mp_tabX2_ok [mp_i (.iload_n 2), mp_h (.ifCond .eq 7) [81]] (by decide +kernel) ?_
        refine And.intro (fun c_16 => ?_) (fun c_16 => ?_)
        · have c_16 : i_6.toInt = 0 := (congrArg Int32.toInt c_16)
          show mp_W E X 6 81 [(3, .int i_5), (2, .int i_6), (0, .ref a0), (1, .int x0)] [] w1_ 0 0
          refine mp_run mp_k_cX2_canKeep_ok hF mp_tabX2_ok [mp_c (.iconst 0) 0] (by decide +kernel) ?_
          show mp_W E X 6 82 [(3, .int i_5), (2, .int i_6), (0, .ref a0), (1, .int x0)] [.int 0] w1_ 0 0
          exact mp_iret hF hQ rfl (by decide) (Nat.le_of_ble_eq_true rfl) (Nat.le_of_ble_eq_true rfl) [0, 1, 2] (w' := w1_) rfl rfl (Or.inl ⟨rfl, rfl⟩) (by first | exact mp_fd_ok mp_k_cX2_canKeep_ok (by decide +kernel) | decide +kernel)
        · have c_16 : i_6.toInt ≠ 0 := c_16
          show mp_W E X 6 77 [(3, .int i_5), (2, .int i_6), (0, .ref a0), (1, .int x0)] [] w1_ 0 0
          refine mp_run mp_k_cX2_canKeep_ok hF mp_tabX2_ok [mp_c (.iconst 1) 1, mp_h (.goto 4) [82]] (by decide +kernel) ?_
          show mp_W E X 6 82 [(3, .int i_5), (2, .int i_6), (0, .ref a0), (1, .int x0)] [.int 1] w1_ 0 0
          exact mp_iret hF hQ rfl (by decide) (Nat.le_of_ble_eq_true rfl) (Nat.le_of_ble_eq_true rfl) [0, 1, 2] (w' := w1_) rfl rfl (Or.inr ⟨rfl, rfl⟩) (by first | exact mp_fd_ok mp_k_cX2_canKeep_ok (by decide +kernel) | decide +kernel)
      · have c_15 : i_5.toInt < y1.toInt := c_15
        show mp_W E X 6 17 [(3, .int i_5), (2, .int i_6), (0, .ref a0), (1, .int x0)] [] w1_ 0 0
        refine mp_run mp_k_cX2_canKeep_ok hF mp_tabX2_ok [mp_i (.iload_n 2), mp_h (.ifCond .eq 55) [73]] (by decide +kernel) ?_
        refine And.intro (fun c_17 => ?_) (fun c_17 => ?_)
        · have c_17 : i_6.toInt = 0 := (congrArg Int32.toInt c_17)
          show mp_W E X 6 73 [(3, .int i_5), (2, .int i_6), (0, .ref a0), (1, .int x0)] [] w1_ 0 0
          refine mp_run mp_k_cX2_canKeep_ok hF mp_tabX2_ok [mp_i (.iload_n 2), mp_h (.ifCond .eq 7) [81]] (by decide +kernel) ?_
          refine And.intro (fun c_18 => ?_) (fun c_18 => ?_)
          · have c_18 : i_6.toInt = 0 := (congrArg Int32.toInt c_18)
            show mp_W E X 6 81 [(3, .int i_5), (2, .int i_6), (0, .ref a0), (1, .int x0)] [] w1_ 0 0
            refine mp_run mp_k_cX2_canKeep_ok hF mp_tabX2_ok [mp_c (.iconst 0) 0] (by decide +kernel) ?_
            show mp_W E X 6 82 [(3, .int i_5), (2, .int i_6), (0, .ref a0), (1, .int x0)] [.int 0] w1_ 0 0
            exact mp_iret hF hQ rfl (by decide) (Nat.le_of_ble_eq_true rfl) (Nat.le_of_ble_eq_true rfl) [0, 1, 2] (w' := w1_) rfl rfl (Or.inl ⟨rfl, rfl⟩) (by first | exact mp_fd_ok mp_k_cX2_canKeep_ok (by decide +kernel) | decide +kernel)
          · have c_18 : i_6.toInt ≠ 0 := c_18
            exfalso; (first | exact mp_o595 c_17 c_18 | omega)
        · have c_17 : i_6.toInt ≠ 0 := c_17
          show mp_W E X 6 21 [(3, .int i_5), (2, .int i_6), (0, .ref a0), (1, .int x0)] [] w1_ 0 0
          refine mp_run mp_k_cX2_canKeep_ok hF mp_tabX2_ok [mp_c (.iconst 0) 0, mp_i (.istore 4), mp_c (.iconst 0) 0, mp_i (.istore 5)] (by decide +kernel) ?_
          show mp_W E X 6 27 [(5, .int 0), (4, .int 0), (3, .int i_5), (2, .int i_6), (0, .ref a0), (1, .int x0)] [] w1_ 0 0
          have lp_25 : ∀ (d_26 : Nat) (i_19 : Int32) (i_20 : Int32), 0 ≤ i_19.toInt → i_19.toInt ≤ 6 → 0 ≤ i_20.toInt → i_20.toInt ≤ 1023 → y0.toInt - i_19.toInt ≤ (d_26 : Int) → mp_W E X 6 27 [(5, .int i_19), (4, .int i_20), (3, .int i_5), (2, .int i_6), (0, .ref a0), (1, .int x0)] [] [(mp_ob2 a0 y0 y1 y2 y3 a1 a2 a3 a4 a5 y4 y5), (mp_arI E a1 0 432 f0), (mp_arI E a2 0 432 f1)] 0 0 := by
            intro d_26
            induction d_26 using Nat.strongRecOn with
            | ind d_26 ih_27 =>
              intro i_19 i_20 l_21 u_22 l_23 u_24 hm_28
              refine mp_run mp_k_cX2_canKeep_ok hF mp_tabX2_ok [mp_i (.iload 5), mp_i (.aload_n 0), mp_h (.getfield 51) [7, 0], mp_h (.if_icmp .ge 31) [64]] (by decide +kernel) ?_
              refine And.intro rfl (And.intro rfl ?_)
              refine And.intro (fun c_29 => ?_) (fun c_29 => ?_)
              · have c_29 : y0.toInt ≤ i_19.toInt := c_29
                show mp_W E X 6 64 [(5, .int i_19), (4, .int i_20), (3, .int i_5), (2, .int i_6), (0, .ref a0), (1, .int x0)] [] w1_ 0 0
                refine mp_run mp_k_cX2_canKeep_ok hF mp_tabX2_ok [mp_i (.iload 4), mp_i (.istore_n 2), mp_c (.iinc 3 1) 1, mp_h (.goto (-61)) [9]] (by decide +kernel) ?_
                intro z_30 h_31
                have e_32 : z_30.toInt = i_5.toInt + 1 := mp_add (a := i_5.toInt) (b := 1) h_31 rfl (by decide) (by (first | exact mp_o2 l_7 | omega)) (by (first | exact mp_o535 u_8 | omega))
                show mp_W E X 6 9 [(3, .int z_30), (2, .int i_20), (5, .int i_19), (4, .int i_20), (0, .ref a0), (1, .int x0)] [] w1_ 0 0
                exact mp_sub [0, 1, 4, 5] rfl [0, 1, 2] rfl rfl (ih_13 (d_12 - 1) (by (first | exact mp_o72 hm_14 c_15 | omega)) z_30 i_20 (by (first | exact mp_o51 l_7 e_32 | omega)) (by (first | exact mp_o536 u_y1 c_15 e_32 | omega)) l_23 u_24 (by (first | exact mp_o77 hm_14 e_32 | omega)))
              · have c_29 : i_19.toInt < y0.toInt := c_29
                show mp_W E X 6 36 [(5, .int i_19), (4, .int i_20), (3, .int i_5), (2, .int i_6), (0, .ref a0), (1, .int x0)] [] w1_ 0 0
                refine mp_run mp_k_cX2_canKeep_ok hF mp_tabX2_ok [mp_i (.iload_n 2), mp_i (.iload 5), mp_i .ishr, mp_c (.iconst 1) 1, mp_i .iand, mp_h (.ifCond .eq 16) [58]] (by decide +kernel) ?_
                intro z_33 h_34
                intro z_36 h_37
                refine And.intro (fun c_39 => ?_) (fun c_39 => ?_)
                · have c_39 : z_36.toInt = 0 := (congrArg Int32.toInt c_39)
                  show mp_W E X 6 58 [(5, .int i_19), (4, .int i_20), (3, .int i_5), (2, .int i_6), (0, .ref a0), (1, .int x0)] [] w1_ 0 0
                  refine mp_run mp_k_cX2_canKeep_ok hF mp_tabX2_ok [mp_c (.iinc 5 1) 1, mp_h (.goto (-34)) [27]] (by decide +kernel) ?_
                  intro z_40 h_41
                  have e_42 : z_40.toInt = i_19.toInt + 1 := mp_add (a := i_19.toInt) (b := 1) h_41 rfl (by decide) (by (first | exact mp_o2 l_21 | omega)) (by (first | exact mp_o351 u_22 | omega))
                  show mp_W E X 6 27 [(5, .int z_40), (4, .int i_20), (3, .int i_5), (2, .int i_6), (0, .ref a0), (1, .int x0)] [] w1_ 0 0
                  exact mp_sub [0, 1, 2, 3, 4, 5] rfl [0, 1, 2] rfl rfl (ih_27 (d_26 - 1) (by (first | exact mp_o72 hm_28 c_29 | omega)) z_40 i_20 (by (first | exact mp_o51 l_21 e_42 | omega)) (by (first | exact mp_o352 u_y0 c_29 e_42 | omega)) l_23 u_24 (by (first | exact mp_o77 hm_28 e_42 | omega)))
                · have c_39 : z_36.toInt ≠ 0 := c_39
                  show mp_W E X 6 45 [(5, .int i_19), (4, .int i_20), (3, .int i_5), (2, .int i_6), (0, .ref a0), (1, .int x0)] [] w1_ 0 0
                  refine mp_run mp_k_cX2_canKeep_ok hF mp_tabX2_ok [mp_i (.iload 4), mp_i (.aload_n 0), mp_i (.iload_n 3), mp_i (.iload 5), mp_i (.iload_n 1)] (by decide +kernel) ?_
                  show mp_W E X 6 52 [(5, .int i_19), (4, .int i_20), (3, .int i_5), (2, .int i_6), (0, .ref a0), (1, .int x0)] [.int x0, .int i_19, .int i_5, .ref a0, .int i_20] w1_ 0 0
                  refine mp_callV hF (As := [.int i_5, .int i_19, .int x0]) (rest := [.int i_20]) (wr := []) (bX2_reached_116 E a0 a1 a2 a3 a4 a5 f0 f1 y0 y1 y2 y3 y4 y5 i_5 i_19 x0 l_7 (by (first | exact mp_o538 u_y1 c_15 | omega)) l_21 (by (first | exact mp_o398 u_y0 c_29 | omega)) l_y0 u_y0 l_y1 u_y1 l_y2 u_y2) mp_lkX2_121 0 rfl [0, 1, 2] [] rfl rfl rfl rfl rfl ⟨(Nat.le_of_ble_eq_true rfl), (Nat.le_of_ble_eq_true rfl), (Nat.le_of_ble_eq_true rfl), (Nat.le_of_ble_eq_true rfl)⟩ (Nat.le_of_ble_eq_true rfl) (by first | exact mp_fd_ok mp_k_cX2_canKeep_ok (by decide +kernel) | decide +kernel) (fun v_43 w_44 h_45 => ?_)
                  obtain ⟨r_46, rfl, l_47, u_48, rfl⟩ := h_45
                  show mp_W E X 6 55 [(5, .int i_19), (4, .int i_20), (3, .int i_5), (2, .int i_6), (0, .ref a0), (1, .int x0)] [.int r_46, .int i_20] w1_ 0 0
                  refine mp_run mp_k_cX2_canKeep_ok hF mp_tabX2_ok [mp_i .ior, mp_i (.istore 4), mp_c (.iinc 5 1) 1, mp_h (.goto (-34)) [27]] (by decide +kernel) ?_
                  intro z_49 h_50
                  have e_52 : 0 ≤ z_49.toInt ∧ z_49.toInt ≤ 1023 := mp_or10 h_50 ⟨by (first | exact l_23 | omega), by (first | exact u_24 | omega)⟩ ⟨by (first | exact l_47 | omega), by (first | exact u_48 | omega)⟩
                  intro z_53 h_54
                  have e_55 : z_53.toInt = i_19.toInt + 1 := mp_add (a := i_19.toInt) (b := 1) h_54 rfl (by decide) (by (first | exact mp_o2 l_21 | omega)) (by (first | exact mp_o351 u_22 | omega))
                  show mp_W E X 6 27 [(5, .int z_53), (4, .int z_49), (3, .int i_5), (2, .int i_6), (0, .ref a0), (1, .int x0)] [] w1_ 0 0
                  exact mp_sub [0, 1, 2, 3, 4, 5] rfl [0, 1, 2] rfl rfl (ih_27 (d_26 - 1) (by (first | exact mp_o72 hm_28 c_29 | omega)) z_53 z_49 (by (first | exact mp_o51 l_21 e_55 | omega)) (by (first | exact mp_o352 u_y0 c_29 e_55 | omega)) (by (first | exact mp_o465 e_52 | omega)) (by (first | exact mp_o466 e_52 | omega)) (by (first | exact mp_o77 hm_28 e_55 | omega)))
          exact mp_sub [0, 1, 2, 3, 4, 5] rfl [0, 1, 2] rfl rfl (lp_25 _ 0 0 (by decide) (by decide) (by decide) (by decide) (Int.self_le_toNat _))
  exact mp_sub [0, 1, 2, 3] rfl [0, 1, 2] rfl rfl (lp_11 _ 0 z_1 (by decide) (by decide) (by (first | exact mp_o463 e_4 | omega)) (by (first | exact mp_o464 e_4 | omega)) (Int.self_le_toNat _))
