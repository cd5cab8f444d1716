set_option maxHeartbeats 4000000 in
set_option maxRecDepth 100000 in
theorem bX0_replay_48 (E : mp_E) (a0 a1 a2 a3 a4 a5 a6 a7 a8 a9 a10 a11 a12 a13 a14 a15 a16 a17 a18 a19 : Nat) (f0 : Nat → Int32) (f1 : Nat → Int32) (f2 : Nat → Int32) (f3 : Nat → Int32) (f4 : Nat → Int32) (f5 : Nat → Int32) (f6 : Nat → Int64) (y0 : Int32) (y1 : Int32) (y2 : Int32) (y3 : Int32) (y4 : Int32) (y5 : Int32) (y6 : Int32) (p0 : mp_all f0 36 0 20) (p1 : mp_all f1 6 0 5) (p2 : mp_acts f2) (p3 : mp_all f3 6 0 5) (l_y0 : 0 ≤ y0.toInt) (u_y0 : y0.toInt ≤ 99) (l_y2 : 0 ≤ y2.toInt) (u_y2 : y2.toInt ≤ 6) (l_y3 : 0 ≤ y3.toInt) (u_y3 : y3.toInt ≤ 99) (l_y4 : 0 ≤ y4.toInt) (u_y4 : y4.toInt ≤ 6) (l_y5 : 0 ≤ y5.toInt) (u_y5 : y5.toInt ≤ 10) (l_y6 : 0 ≤ y6.toInt) (u_y6 : y6.toInt ≤ 60) (q0 : y3.toInt + mp_k200 f2 y6.toInt ≤ 99) : mp_Ct E yX0_replay cX0_replay 2 none 2 0 0 45 [.ref a0] [(mp_ob0 a0 a1 y0 a5 a6 a7 a8 a9 a10), (mp_ob7 a1 y1 y2 y3 y4 y5 y6 a2 a11 a3 a12 a13 a14 a15 a16 a17 a18 a19 a4), (mp_arI E a2 0 36 f0), (mp_arI E a3 0 6 f1), (mp_arI E a4 0 60 f2), (mp_arI E a5 0 6 f3), (mp_arI E a6 0 6 f4), (mp_arI E a7 0 6 f5), (mp_arL E a8 20 f6)] (fun v w' => ∃ r1 : Int32, ∃ h2 : Nat → Int32, ∃ h3 : Nat → Int32, ∃ h4 : Nat → Int32, ∃ h5 : Nat → Int64, v = none ∧ 0 ≤ r1.toInt ∧ r1.toInt ≤ 99 ∧ mp_all h2 6 0 5 ∧ (r1.toInt = y3.toInt + mp_k200 f2 y6.toInt) ∧ (mp_CS h2 h3 h4 f0 f1 f2 y3.toInt y4.toInt (y6.toInt).toNat) ∧ w' = [(mp_ob0 a0 a1 r1 a5 a6 a7 a8 a9 a10), (mp_ob7 a1 y1 y2 y3 y4 y5 y6 a2 a11 a3 a12 a13 a14 a15 a16 a17 a18 a19 a4), (mp_arI E a2 0 36 f0), (mp_arI E a3 0 6 f1), (mp_arI E a4 0 60 f2), (mp_arI E a5 0 6 h2), (mp_arI E a6 0 6 h3), (mp_arI E a7 0 6 h4), (mp_arL E a8 20 h5)]) := by
  refine mp_met false (by decide) (by decide) (Nat.le_of_ble_eq_true rfl) (fun X hF hQ => ?_)
  have hF : mp_F E X (RX0, cX0_replay, 2, (2, 0, 0, 45), none, false) := hF
  let w1_ : va_W := [(mp_ob0 a0 a1 y0 a5 a6 a7 a8 a9 a10), (mp_ob7 a1 y1 y2 y3 y4 y5 y6 a2 a11 a3 a12 a13 a14 a15 a16 a17 a18 a19 a4), (mp_arI E a2 0 36 f0), (mp_arI E a3 0 6 f1), (mp_arI E a4 0 60 f2), (mp_arI E a5 0 6 f3), (mp_arI E a6 0 6 f4), (mp_arI E a7 0 6 f5), (mp_arL E a8 20 f6)]
  show mp_W E X 2 0 [(0, .ref a0)] [] w1_ 0 0
  refine mp_run mp_k_cX0_replay_ok hF mp_tabX0_ok [mp_i (.aload_n 0), mp_i (.aload_n 0), mp_h (.getfield 12) [11, 0], mp_h (.getfield 38) [0, 1], mp_h (.putfield 42) [12, 0]] (by decide +kernel) ?_
  refine And.intro rfl (And.intro rfl ?_)
  refine And.intro rfl (And.intro rfl ?_)
  refine And.intro rfl (And.intro rfl (And.intro rfl (And.intro rfl (And.intro (Nat.le_of_ble_eq_true rfl) ?_))))
  let w2_ : va_W := [(mp_ob0 a0 a1 y3 a5 a6 a7 a8 a9 a10), (mp_ob7 a1 y1 y2 y3 y4 y5 y6 a2 a11 a3 a12 a13 a14 a15 a16 a17 a18 a19 a4), (mp_arI E a2 0 36 f0), (mp_arI E a3 0 6 f1), (mp_arI E a4 0 60 f2), (mp_arI E a5 0 6 f3), (mp_arI E a6 0 6 f4), (mp_arI E a7 0 6 f5), (mp_arL E a8 20 f6)]
  show mp_W E X 2 11 [(0, .ref a0)] [] w2_ 0 0
  refine mp_run mp_k_cX0_replay_ok hF mp_tabX0_ok [mp_c (.iconst 0) 0, mp_i (.istore_n 1)] (by decide +kernel) ?_
  show mp_W E X 2 13 [(1, .int 0), (0, .ref a0)] [] w2_ 0 0
  have lp_10 : ∀ (d_11 : Nat) (i_1 : Int32) (g_2 : Nat → Int32) (g_3 : Nat → Int32) (g_4 : Nat → Int32), 0 ≤ i_1.toInt → i_1.toInt ≤ 6 → mp_all g_2 6 0 5 → (mp_init g_2 g_3 g_4 f1 i_1.toInt) → (0 ≤ i_1.toInt) → y4.toInt - i_1.toInt ≤ (d_11 : Int) → mp_W E X 2 13 [(1, .int i_1), (0, .ref a0)] [] [(mp_ob0 a0 a1 y3 a5 a6 a7 a8 a9 a10), (mp_ob7 a1 y1 y2 y3 y4 y5 y6 a2 a11 a3 a12 a13 a14 a15 a16 a17 a18 a19 a4), (mp_arI E a2 0 36 f0), (mp_arI E a3 0 6 f1), (mp_arI E a4 0 60 f2), (mp_arI E a5 0 6 g_2), (mp_arI E a6 0 6 g_3), (mp_arI E a7 0 6 g_4), (mp_arL E a8 20 f6)] 0 0 := by
    intro d_11
    induction d_11 using Nat.strongRecOn with
    | ind d_11 ih_12 =>
      intro i_1 g_2 g_3 g_4 l_5 u_6 p_7 x_8 x_9 hm_13
      refine mp_run mp_k_cX0_replay_ok hF mp_tabX0_ok [mp_i (.iload_n 1), mp_i (.aload_n 0), mp_h (.getfield 12) [11, 0], mp_h (.getfield 43) [1, 1], mp_h (.if_icmp .ge 38) [59]] (by decide +kernel) ?_
      refine And.intro rfl (And.intro rfl ?_)
      refine And.intro rfl (And.intro rfl ?_)
      refine And.intro (fun c_14 => ?_) (fun c_14 => ?_)
      · have c_14 : y4.toInt ≤ i_1.toInt := c_14
        let w3_ : va_W := [(mp_ob0 a0 a1 y3 a5 a6 a7 a8 a9 a10), (mp_ob7 a1 y1 y2 y3 y4 y5 y6 a2 a11 a3 a12 a13 a14 a15 a16 a17 a18 a19 a4), (mp_arI E a2 0 36 f0), (mp_arI E a3 0 6 f1), (mp_arI E a4 0 60 f2), (mp_arI E a5 0 6 g_2), (mp_arI E a6 0 6 g_3), (mp_arI E a7 0 6 g_4), (mp_arL E a8 20 f6)]
        show mp_W E X 2 59 [(1, .int i_1), (0, .ref a0)] [] w3_ 0 0
        refine mp_run mp_k_cX0_replay_ok hF mp_tabX0_ok [mp_i (.aload_n 0), mp_h (.getfield 28) [16, 0], mp_cl (.lconst 0) 0] (by decide +kernel) ?_
        refine And.intro rfl (And.intro rfl ?_)
        show mp_W E X 2 64 [(1, .int i_1), (0, .ref a0)] [.long 0, .ref a8] w3_ 0 0
        refine mp_callS hF (As := [.ref a8, .long 0]) (rest := []) (wr := [(mp_ob0 a0 a1 y3 a5 a6 a7 a8 a9 a10), (mp_ob7 a1 y1 y2 y3 y4 y5 y6 a2 a11 a3 a12 a13 a14 a15 a16 a17 a18 a19 a4), (mp_arI E a2 0 36 f0), (mp_arI E a3 0 6 f1), (mp_arI E a4 0 60 f2), (mp_arI E a5 0 6 g_2), (mp_arI E a6 0 6 g_3), (mp_arI E a7 0 6 g_4)]) (bJ7_fill_d0a16_45 E a8 f6 0) mp_lkX0_49 [8] [0, 1, 2, 3, 4, 5, 6, 7] rfl rfl rfl rfl rfl ⟨(Nat.le_of_ble_eq_true rfl), (Nat.le_of_ble_eq_true rfl), (Nat.le_of_ble_eq_true rfl), (Nat.le_of_ble_eq_true rfl)⟩ (Nat.le_of_ble_eq_true rfl) (by first | exact mp_fd_ok mp_k_cX0_replay_ok (by decide +kernel) | decide +kernel) (fun v_15 w_16 h_17 => ?_)
        obtain ⟨g_18, rfl, x_19, rfl⟩ := h_17
        let w4_ : va_W := [(mp_ob0 a0 a1 y3 a5 a6 a7 a8 a9 a10), (mp_ob7 a1 y1 y2 y3 y4 y5 y6 a2 a11 a3 a12 a13 a14 a15 a16 a17 a18 a19 a4), (mp_arI E a2 0 36 f0), (mp_arI E a3 0 6 f1), (mp_arI E a4 0 60 f2), (mp_arI E a5 0 6 g_2), (mp_arI E a6 0 6 g_3), (mp_arI E a7 0 6 g_4), (mp_arL E a8 20 g_18)]
        show mp_W E X 2 67 [(1, .int i_1), (0, .ref a0)] [] w4_ 0 0
        refine mp_run mp_k_cX0_replay_ok hF mp_tabX0_ok [mp_c (.iconst 0) 0, mp_i (.istore_n 1)] (by decide +kernel) ?_
        show mp_W E X 2 69 [(1, .int 0), (0, .ref a0)] [] w4_ 0 0
        have lp_35 : ∀ (d_36 : Nat) (i_20 : Int32) (i_21 : Int32) (g_22 : Nat → Int32) (g_23 : Nat → Int32) (g_24 : Nat → Int32) (g_25 : Nat → Int64), 0 ≤ i_20.toInt → i_20.toInt ≤ 60 → 0 ≤ i_21.toInt → i_21.toInt ≤ 99 → mp_all g_22 6 0 5 → (i_21.toInt = y3.toInt + mp_k200 f2 i_20.toInt) → (i_20.toInt ≤ y6.toInt) → (mp_CS g_22 g_23 g_24 f0 f1 f2 y3.toInt y4.toInt i_20.toInt.toNat) → (0 ≤ i_20.toInt) → y6.toInt - i_20.toInt ≤ (d_36 : Int) → mp_W E X 2 69 [(1, .int i_20), (0, .ref a0)] [] [(mp_ob0 a0 a1 i_21 a5 a6 a7 a8 a9 a10), (mp_ob7 a1 y1 y2 y3 y4 y5 y6 a2 a11 a3 a12 a13 a14 a15 a16 a17 a18 a19 a4), (mp_arI E a2 0 36 f0), (mp_arI E a3 0 6 f1), (mp_arI E a4 0 60 f2), (mp_arI E a5 0 6 g_22), (mp_arI E a6 0 6 g_23), (mp_arI E a7 0 6 g_24), (mp_arL E a8 20 g_25)] 0 0 := by
          intro d_36
          induction d_36 using Nat.strongRecOn with
          | ind d_36 ih_37 =>
            intro i_20 i_21 g_22 g_23 g_24 g_25 l_26 u_27 l_28 u_29 p_30 x_31 x_32 x_33 x_34 hm_38
            refine mp_run mp_k_cX0_replay_ok hF mp_tabX0_ok [mp_i (.iload_n 1), mp_i (.aload_n 0), mp_h (.getfield 12) [11, 0], mp_h (.getfield 55) [3, 1], mp_h (.if_icmp .ge 22) [99]] (by decide +kernel) ?_
            refine And.intro rfl (And.intro rfl ?_)
            refine And.intro rfl (And.intro rfl ?_)
            refine And.intro (fun c_39 => ?_) (fun c_39 => ?_)
            · have c_39 : y6.toInt ≤ i_20.toInt := c_39
              let w5_ : va_W := [(mp_ob0 a0 a1 i_21 a5 a6 a7 a8 a9 a10), (mp_ob7 a1 y1 y2 y3 y4 y5 y6 a2 a11 a3 a12 a13 a14 a15 a16 a17 a18 a19 a4), (mp_arI E a2 0 36 f0), (mp_arI E a3 0 6 f1), (mp_arI E a4 0 60 f2), (mp_arI E a5 0 6 g_22), (mp_arI E a6 0 6 g_23), (mp_arI E a7 0 6 g_24), (mp_arL E a8 20 g_25)]
              show mp_W E X 2 99 [(1, .int i_20), (0, .ref a0)] [] w5_ 0 0
              exact mp_vret hF hQ rfl (Nat.le_of_ble_eq_true rfl) (Nat.le_of_ble_eq_true rfl) [0, 1, 2, 3, 4, 5, 6, 7, 8] (w' := w5_) rfl rfl ⟨i_21, g_22, g_23, g_24, g_25, rfl, l_28, u_29, p_30, (by have k9 := mp_k200_eq (f := f2) (a := i_20.toInt) (b := y6.toInt) (by (first | exact mp_o334 x_32 c_39 | omega)); (first | exact mp_o335 k9 x_31 | omega)), (mp_CS_to x_33 (by (first | exact mp_o336 x_32 c_39 | omega))), rfl⟩ (by first | exact mp_fd_ok mp_k_cX0_replay_ok (by decide +kernel) | decide +kernel)
            · have c_39 : i_20.toInt < y6.toInt := c_39
              let w6_ : va_W := [(mp_ob0 a0 a1 i_21 a5 a6 a7 a8 a9 a10), (mp_ob7 a1 y1 y2 y3 y4 y5 y6 a2 a11 a3 a12 a13 a14 a15 a16 a17 a18 a19 a4), (mp_arI E a2 0 36 f0), (mp_arI E a3 0 6 f1), (mp_arI E a4 0 60 f2), (mp_arI E a5 0 6 g_22), (mp_arI E a6 0 6 g_23), (mp_arI E a7 0 6 g_24), (mp_arL E a8 20 g_25)]
              show mp_W E X 2 80 [(1, .int i_20), (0, .ref a0)] [] w6_ 0 0
              refine mp_run mp_k_cX0_replay_ok hF mp_tabX0_ok [mp_i (.aload_n 0), mp_i (.aload_n 0), mp_h (.getfield 12) [11, 0], mp_h (.getfield 58) [10, 1], mp_i (.iload_n 1), mp_h .iaload [4]] (by decide +kernel) ?_
              refine And.intro rfl (And.intro rfl ?_)
              refine And.intro rfl (And.intro rfl ?_)
              refine And.intro rfl (And.intro rfl (And.intro (vp_in_iff.mpr (by (first | exact mp_o337 l_26 u_y6 c_39 | omega))) ?_))
              intro z_40 h_41
              have e_42 := mp_acts_ld h_41 p2 (by (first | exact x_34 | omega)) (by (first | exact mp_o338 u_y6 c_39 | omega))
              have e_43 := mp_k200_ld h_41 (by (first | exact x_34 | omega))
              have e_44 := mp_k200_mono (f := f2) (a := i_20.toInt + 1) (b := y6.toInt) (by (first | exact mp_o339 c_39 | omega))
              have e_45 : z_40.toInt = (f2 i_20.toInt.toNat).toInt := congrArg Int32.toInt h_41
              show mp_W E X 2 90 [(1, .int i_20), (0, .ref a0)] [.int z_40, .ref a0] w6_ 0 0
              refine mp_callV hF (As := [.int z_40]) (rest := []) (wr := [(mp_arI E a3 0 6 f1), (mp_arI E a4 0 60 f2)]) (bX0_apply_47 E a0 a1 a2 a5 a6 a7 a8 a9 a10 a11 a3 a12 a13 a14 a15 a16 a17 a18 a19 a4 f0 g_22 g_23 g_24 g_25 i_21 y1 y2 y3 y4 y5 y6 z_40 p0 p_30 (by (first | exact mp_o340 e_42 | omega)) (by (first | exact mp_o341 e_42 | omega)) l_28 u_29 l_y2 u_y2 l_y3 u_y3 l_y4 u_y4 l_y5 u_y5 l_y6 u_y6 (by (first | exact mp_o342 e_42 q0 e_44 x_31 e_43 | omega))) mp_lkX0_61 0 rfl [0, 1, 2, 5, 6, 7, 8] [3, 4] rfl rfl rfl rfl rfl ⟨(Nat.le_of_ble_eq_true rfl), (Nat.le_of_ble_eq_true rfl), (Nat.le_of_ble_eq_true rfl), (Nat.le_of_ble_eq_true rfl)⟩ (Nat.le_of_ble_eq_true rfl) (by first | exact mp_fd_ok mp_k_cX0_replay_ok (by decide +kernel) | decide +kernel) (fun v_46 w_47 h_48 => ?_)
              refine h_48.elim fun r_49 q_59 => q_59.elim fun g_50 q_60 => q_60.elim fun g_51 q_61 => q_61.elim fun g_52 q_62 => q_62.elim fun g_53 q_63 => q_63.elim fun e_64 q_65 => q_65.elim fun l_54 q_66 => q_66.elim fun u_55 q_67 => q_67.elim fun p_56 q_68 => q_68.elim fun x_57 q_69 => q_69.elim fun x_58 e_70 => ?_
              clear h_48 q_59 q_60 q_61 q_62 q_63 q_65 q_66 q_67 q_68 q_69
              subst e_64
              subst e_70
              let w7_ : va_W := [(mp_arI E a3 0 6 f1), (mp_arI E a4 0 60 f2), (mp_ob0 a0 a1 r_49 a5 a6 a7 a8 a9 a10), (mp_ob7 a1 y1 y2 y3 y4 y5 y6 a2 a11 a3 a12 a13 a14 a15 a16 a17 a18 a19 a4), (mp_arI E a2 0 36 f0), (mp_arI E a5 0 6 g_50), (mp_arI E a6 0 6 g_51), (mp_arI E a7 0 6 g_52), (mp_arL E a8 20 g_53)]
              show mp_W E X 2 93 [(1, .int i_20), (0, .ref a0)] [] w7_ 0 0
              refine mp_run mp_k_cX0_replay_ok hF mp_tabX0_ok [mp_c (.iinc 1 1) 1, mp_h (.goto (-27)) [69]] (by decide +kernel) ?_
              intro z_71 h_72
              have e_73 : z_71.toInt = i_20.toInt + 1 := mp_add (a := i_20.toInt) (b := 1) h_72 rfl (by decide) (by (first | exact mp_o2 l_26 | omega)) (by (first | exact mp_o343 u_27 | omega))
              show mp_W E X 2 69 [(1, .int z_71), (0, .ref a0)] [] w7_ 0 0
              exact mp_sub [0, 1] rfl [2, 3, 4, 0, 1, 5, 6, 7, 8] rfl rfl (ih_37 (d_36 - 1) (by (first | exact mp_o72 hm_38 c_39 | omega)) z_71 r_49 g_50 g_51 g_52 g_53 (by (first | exact mp_o51 l_26 e_73 | omega)) (by (first | exact mp_o344 u_y6 c_39 e_73 | omega)) l_54 u_55 p_56 (by first | fail | (rw [e_73]; (first | exact mp_o345 x_31 x_57 e_43 | omega)) | (rw [mp_k200_z]; omega)) (by first | (first | exact mp_o97 c_39 e_73 | omega) | decide | (show (0 : Int) ≤ _; omega)) (mp_CS_to (mp_CS_s x_33 x_58 (by (first | exact mp_o346 e_42 e_45 | omega)) (show _ = _ + mp_k200 _ i_20.toInt by (first | exact x_31 | omega))) (by (first | exact mp_o347 l_26 e_73 | omega))) (by (first | exact mp_o51 l_26 e_73 | omega)) (by (first | exact mp_o77 hm_38 e_73 | omega)))
        exact mp_sub [0, 1] rfl [0, 1, 2, 3, 4, 5, 6, 7, 8] rfl rfl (lp_35 _ 0 y3 g_2 g_3 g_4 g_18 (by decide) (by decide) l_y3 u_y3 p_7 (by first | fail | (rw [rfl]; omega) | (rw [mp_k200_z]; (first | exact mp_o348 | omega))) (by first | fail | decide | (show (0 : Int) ≤ _; (first | exact l_y6 | omega))) (mp_CS_to (i := 0) (mp_CS_0 x_8 (by (first | exact c_14 | omega))) (by first | rfl | decide)) (by first | fail | decide) (Int.self_le_toNat _))
      · have c_14 : i_1.toInt < y4.toInt := c_14
        let w8_ : va_W := [(mp_ob0 a0 a1 y3 a5 a6 a7 a8 a9 a10), (mp_ob7 a1 y1 y2 y3 y4 y5 y6 a2 a11 a3 a12 a13 a14 a15 a16 a17 a18 a19 a4), (mp_arI E a2 0 36 f0), (mp_arI E a3 0 6 f1), (mp_arI E a4 0 60 f2), (mp_arI E a5 0 6 g_2), (mp_arI E a6 0 6 g_3), (mp_arI E a7 0 6 g_4), (mp_arL E a8 20 f6)]
        show mp_W E X 2 24 [(1, .int i_1), (0, .ref a0)] [] w8_ 0 0
        refine mp_run mp_k_cX0_replay_ok hF mp_tabX0_ok [mp_i (.aload_n 0), mp_h (.getfield 18) [13, 0], mp_i (.iload_n 1), mp_i (.aload_n 0), mp_h (.getfield 12) [11, 0], mp_h (.getfield 46) [4, 1], mp_i (.iload_n 1), mp_h .iaload [3], mp_h .iastore [5]] (by decide +kernel) ?_
        refine And.intro rfl (And.intro rfl ?_)
        refine And.intro rfl (And.intro rfl ?_)
        refine And.intro rfl (And.intro rfl ?_)
        refine And.intro rfl (And.intro rfl (And.intro (vp_in_iff.mpr (by (first | exact mp_o349 l_5 u_y4 c_14 | omega))) ?_))
        intro z_74 h_75
        have e_76 : 0 ≤ z_74.toInt ∧ z_74.toInt ≤ 5 := mp_all_ld h_75 p1 (by (first | exact x_9 | omega)) (by (first | exact mp_o350 u_y4 c_14 | omega))
        have e_77 : z_74.toInt = (f1 i_1.toInt.toNat).toInt := congrArg Int32.toInt h_75
        refine And.intro rfl (And.intro rfl (And.intro (vp_in_iff.mpr (by (first | exact mp_o349 l_5 u_y4 c_14 | omega))) ?_))
        intro g_78 h_79
        have p_80 : mp_all g_78 6 0 5 := mp_all_st h_79 p_7 e_76.1 e_76.2
        let w9_ : va_W := [(mp_ob0 a0 a1 y3 a5 a6 a7 a8 a9 a10), (mp_ob7 a1 y1 y2 y3 y4 y5 y6 a2 a11 a3 a12 a13 a14 a15 a16 a17 a18 a19 a4), (mp_arI E a2 0 36 f0), (mp_arI E a3 0 6 f1), (mp_arI E a4 0 60 f2), (mp_arI E a5 0 6 g_78), (mp_arI E a6 0 6 g_3), (mp_arI E a7 0 6 g_4), (mp_arL E a8 20 f6)]
        show mp_W E X 2 39 [(1, .int i_1), (0, .ref a0)] [] w9_ 0 0
        refine mp_run mp_k_cX0_replay_ok hF mp_tabX0_ok [mp_i (.aload_n 0), mp_h (.getfield 22) [14, 0], mp_i (.iload_n 1), mp_c (.iconst 0) 0, mp_h .iastore [6]] (by decide +kernel) ?_
        refine And.intro rfl (And.intro rfl ?_)
        refine And.intro rfl (And.intro rfl (And.intro (vp_in_iff.mpr (by (first | exact mp_o349 l_5 u_y4 c_14 | omega))) ?_))
        intro g_81 h_82
        let w10_ : va_W := [(mp_ob0 a0 a1 y3 a5 a6 a7 a8 a9 a10), (mp_ob7 a1 y1 y2 y3 y4 y5 y6 a2 a11 a3 a12 a13 a14 a15 a16 a17 a18 a19 a4), (mp_arI E a2 0 36 f0), (mp_arI E a3 0 6 f1), (mp_arI E a4 0 60 f2), (mp_arI E a5 0 6 g_78), (mp_arI E a6 0 6 g_81), (mp_arI E a7 0 6 g_4), (mp_arL E a8 20 f6)]
        show mp_W E X 2 46 [(1, .int i_1), (0, .ref a0)] [] w10_ 0 0
        refine mp_run mp_k_cX0_replay_ok hF mp_tabX0_ok [mp_i (.aload_n 0), mp_h (.getfield 25) [15, 0], mp_i (.iload_n 1), mp_c (.iconst (-1)) (-1), mp_h .iastore [7]] (by decide +kernel) ?_
        refine And.intro rfl (And.intro rfl ?_)
        refine And.intro rfl (And.intro rfl (And.intro (vp_in_iff.mpr (by (first | exact mp_o349 l_5 u_y4 c_14 | omega))) ?_))
        intro g_83 h_84
        let w11_ : va_W := [(mp_ob0 a0 a1 y3 a5 a6 a7 a8 a9 a10), (mp_ob7 a1 y1 y2 y3 y4 y5 y6 a2 a11 a3 a12 a13 a14 a15 a16 a17 a18 a19 a4), (mp_arI E a2 0 36 f0), (mp_arI E a3 0 6 f1), (mp_arI E a4 0 60 f2), (mp_arI E a5 0 6 g_78), (mp_arI E a6 0 6 g_81), (mp_arI E a7 0 6 g_83), (mp_arL E a8 20 f6)]
        show mp_W E X 2 53 [(1, .int i_1), (0, .ref a0)] [] w11_ 0 0
        refine mp_run mp_k_cX0_replay_ok hF mp_tabX0_ok [mp_c (.iinc 1 1) 1, mp_h (.goto (-43)) [13]] (by decide +kernel) ?_
        intro z_85 h_86
        have e_87 : z_85.toInt = i_1.toInt + 1 := mp_add (a := i_1.toInt) (b := 1) h_86 rfl (by decide) (by (first | exact mp_o2 l_5 | omega)) (by (first | exact mp_o351 u_6 | omega))
        show mp_W E X 2 13 [(1, .int z_85), (0, .ref a0)] [] w11_ 0 0
        exact mp_sub [0, 1] rfl [0, 1, 2, 3, 4, 5, 6, 7, 8] rfl rfl (ih_12 (d_11 - 1) (by (first | exact mp_o72 hm_13 c_14 | omega)) z_85 g_78 g_81 g_83 (by (first | exact mp_o51 l_5 e_87 | omega)) (by (first | exact mp_o352 u_y4 c_14 e_87 | omega)) p_80 (mp_init_s x_8 h_79 e_77 h_82 h_84 (by (first | exact mp_o353 l_5 e_87 | omega))) (by (first | exact mp_o51 l_5 e_87 | omega)) (by (first | exact mp_o77 hm_13 e_87 | omega)))
  exact mp_sub [0, 1] rfl [0, 1, 2, 3, 4, 5, 6, 7, 8] rfl rfl (lp_10 _ 0 f3 f4 f5 (by decide) (by decide) p3 (mp_init_0 (by first | fail | decide)) (by first | fail | decide) (Int.self_le_toNat _))
