set_option maxHeartbeats 4000000 in
set_option maxRecDepth 100000 in
theorem bX10_personLine_29 (E : mp_E) (a0 a1 a2 a3 a4 a5 a6 a7 a8 a9 a10 a11 a12 a13 a14 a15 a16 a17 a18 a19 a20 a21 a22 a23 a24 a25 : Nat) (f0 : Nat → Int32) (f1 : Nat → Int32) (f2 : Nat → Int32) (f3 : Nat → Int32) (f4 : Nat → Int32) (f5 : Nat → Int32) (f6 : Nat → Int32) (y0 : Int32) (y1 : Int32) (y2 : Int32) (y3 : Int32) (y4 : Int32) (y5 : Int32) (y6 : Int64) (y7 : Int32) (y8 : Int32) (y9 : Int32) (y10 : Int32) (y11 : Int32) (y12 : Int32) (y13 : Int32) (y14 : Int32) (y15 : Int32) (y16 : Int32) (y17 : Int32) (y18 : Int32) (y19 : Int32) (y20 : Int32) (y21 : Int32) (p0 : mp_res f2 25 5 0 0 6) (p1 : mp_res f2 25 5 1 0 99) (p2 : mp_res f2 25 5 2 0 6) (p3 : mp_res f2 25 5 3 0 10) (p4 : mp_res f2 25 5 4 0 60) (p5 : mp_all f3 180 0 20) (p6 : mp_all f4 3000 0 1) (p7 : mp_res f5 90 3 0 0 5) (p8 : mp_res f5 90 3 1 (-1) 99) (p9 : mp_res f6 300 6 0 0 5) (p10 : mp_res f6 300 6 1 0 5) (p11 : mp_res f6 300 6 3 0 99) (p12 : mp_res f6 300 6 4 0 1) (l_y1 : 0 ≤ y1.toInt) (u_y1 : y1.toInt ≤ 1600) (l_y2 : 0 ≤ y2.toInt) (u_y2 : y2.toInt ≤ 1600) (l_y3 : 0 ≤ y3.toInt) (u_y3 : y3.toInt ≤ 4) (l_y4 : 0 ≤ y4.toInt) (u_y4 : y4.toInt ≤ 1600) (l_y11 : 0 ≤ y11.toInt) (u_y11 : y11.toInt ≤ 99) (l_y12 : 0 ≤ y12.toInt) (u_y12 : y12.toInt ≤ 5) (l_y13 : 0 ≤ y13.toInt) (u_y13 : y13.toInt ≤ 12) (q0 : y2.toInt ≤ y1.toInt) (q1 : (f2 22).toInt ≤ 5) (q2 : mp_MT f0 y1.toInt y3.toInt y4.toInt y2.toInt y5.toInt y6.toInt) (q3 : y7.toInt = 0) : mp_Ct E yX10_personLine cX10_personLine 4 none 4 0 0 88 [.ref a0] [(mp_ob10 a0 y0 a8 a9 a10 a11 a1 y1 y2 y3 y4 y5 y6 y7 y8 y9 y10 a2 a3 a4 a5 a6 a7 a12 a13 y11 a14 a15 a16 a17 y12 y13 y14 a18 a19 y15 y16 a20 a21 a22 y17 y18 y19 y20 a23 a24 a25 y21), (mp_arI E a1 1 1600 f0), (mp_arI E a2 0 5 f1), (mp_arI E a3 0 25 f2), (mp_arI E a4 0 180 f3), (mp_arI E a5 3 3000 f4), (mp_arI E a6 0 90 f5), (mp_arI E a7 0 300 f6)] (fun v w' => ∃ r1 : Int32, ∃ r2 : Int32, ∃ r3 : Int32, ∃ r4 : Int32, ∃ r5 : Int64, ∃ r6 : Int32, ∃ r7 : Int32, ∃ h8 : Nat → Int32, ∃ h9 : Nat → Int32, v = none ∧ 0 ≤ r1.toInt ∧ r1.toInt ≤ 1600 ∧ 0 ≤ r2.toInt ∧ r2.toInt ≤ 4 ∧ 0 ≤ r3.toInt ∧ r3.toInt ≤ 1600 ∧ mp_res h8 25 5 0 0 6 ∧ mp_res h8 25 5 1 0 99 ∧ mp_res h8 25 5 2 0 6 ∧ mp_res h8 25 5 3 0 10 ∧ mp_res h8 25 5 4 0 60 ∧ mp_keep h8 f2 20 ∧ mp_res h9 90 3 0 0 5 ∧ mp_res h9 90 3 1 (-1) 99 ∧ mp_keep h9 f5 72 ∧ (r1.toInt ≤ y1.toInt) ∧ ((5 * (y1.toInt - r1.toInt) + r2.toInt) ≤ (5 * (y1.toInt - y2.toInt) + y3.toInt)) ∧ ((h8 24).toInt = (f2 24).toInt) ∧ ((h8 23).toInt = (f2 23).toInt) ∧ (mp_GO (mp_aft f0 (y1.toInt).toNat (mp_gPer2 mp_gop f0 (y1.toInt).toNat (y4.toInt).toNat ((f2 20).toInt, (f2 21).toInt, (f2 22).toInt, (f2 23).toInt, (f1 4).toInt) (mp_dM f3 f4 f5 f6))) r6.toInt r7.toInt (mp_aft f0 (y1.toInt).toNat (0, (r3.toInt).toNat, ((h8 20).toInt, (h8 21).toInt, (h8 22).toInt, (h8 23).toInt, (f1 4).toInt), (mp_dM f3 f4 h9 f6)))) ∧ (mp_MT f0 y1.toInt r2.toInt r3.toInt r1.toInt r4.toInt r5.toInt) ∧ w' = [(mp_ob10 a0 y0 a8 a9 a10 a11 a1 y1 r1 r2 r3 r4 r5 r6 r7 y9 y10 a2 a3 a4 a5 a6 a7 a12 a13 y11 a14 a15 a16 a17 y12 y13 y14 a18 a19 y15 y16 a20 a21 a22 y17 y18 y19 y20 a23 a24 a25 y21), (mp_arI E a1 1 1600 f0), (mp_arI E a2 0 5 f1), (mp_arI E a3 0 25 h8), (mp_arI E a4 0 180 f3), (mp_arI E a5 3 3000 f4), (mp_arI E a6 0 90 h9), (mp_arI E a7 0 300 f6)]) := by
  refine mp_met false (by decide) (by decide) (Nat.le_of_ble_eq_true rfl) (fun X hF hQ => ?_)
  have hF : mp_F E X (RX10, cX10_personLine, 4, (4, 0, 0, 88), none, false) := hF
  have go_1 : mp_GO (mp_aft f0 (y1.toInt).toNat (mp_gPer2 mp_gop f0 (y1.toInt).toNat (y4.toInt).toNat ((f2 20).toInt, (f2 21).toInt, (f2 22).toInt, (f2 23).toInt, (f1 4).toInt) (mp_dM f3 f4 f5 f6))) y7.toInt y8.toInt (mp_aft f0 (y1.toInt).toNat (mp_gPer2 mp_gop f0 (y1.toInt).toNat (y4.toInt).toNat ((f2 20).toInt, (f2 21).toInt, (f2 22).toInt, (f2 23).toInt, (f1 4).toInt) (mp_dM f3 f4 f5 f6))) := mp_go_0 (by first | omega | (dsimp only <;> omega) | decide)
  have k7_ := q2.2.1
  let w1_ : va_W := [(mp_ob10 a0 y0 a8 a9 a10 a11 a1 y1 y2 y3 y4 y5 y6 y7 y8 y9 y10 a2 a3 a4 a5 a6 a7 a12 a13 y11 a14 a15 a16 a17 y12 y13 y14 a18 a19 y15 y16 a20 a21 a22 y17 y18 y19 y20 a23 a24 a25 y21), (mp_arI E a1 1 1600 f0), (mp_arI E a2 0 5 f1), (mp_arI E a3 0 25 f2), (mp_arI E a4 0 180 f3), (mp_arI E a5 3 3000 f4), (mp_arI E a6 0 90 f5), (mp_arI E a7 0 300 f6)]
  show mp_W E X 4 0 [(0, .ref a0)] [] w1_ 0 0
  refine mp_run mp_k_cX10_personLine_ok hF mp_tabX10_ok [mp_c (.iconst 3) 3, mp_c (.bipush 24) 24, mp_i (.aload_n 0), mp_c (.iconst 2) 2] (by decide +kernel) ?_
  show mp_W E X 4 5 [(0, .ref a0)] [.int 2, .ref a0, .int 24, .int 3] w1_ 0 0
  refine mp_callV hF (As := [.int 2]) (rest := [.int 24, .int 3]) (wr := [(mp_arI E a1 1 1600 f0), (mp_arI E a2 0 5 f1), (mp_arI E a4 0 180 f3), (mp_arI E a5 3 3000 f4), (mp_arI E a6 0 90 f5), (mp_arI E a7 0 300 f6)]) (bX10_hasRead_18 E a0 a3 a8 a9 a10 a11 a1 a2 a4 a5 a6 a7 a12 a13 a14 a15 a16 a17 a18 a19 a20 a21 a22 a23 a24 a25 f2 y0 y1 y2 y3 y4 y5 y6 y7 y8 y9 y10 y11 y12 y13 y14 y15 y16 y17 y18 y19 y20 y21 p0 p1 p2 p3 p4 l_y1 u_y1 l_y2 u_y2 l_y3 u_y3 l_y4 u_y4 l_y11 u_y11 l_y12 u_y12 l_y13 u_y13) mp_lkX10_174 0 rfl [0, 3] [1, 2, 4, 5, 6, 7] rfl rfl rfl rfl rfl ⟨(Nat.le_of_ble_eq_true rfl), (Nat.le_of_ble_eq_true rfl), (Nat.le_of_ble_eq_true rfl), (Nat.le_of_ble_eq_true rfl)⟩ (Nat.le_of_ble_eq_true rfl) (by first | exact mp_fd_ok mp_k_cX10_personLine_ok (by decide +kernel) | decide +kernel) (fun v_2 w_3 h_4 => ?_)
  refine h_4.elim fun r_5 q_9 => q_9.elim fun e_10 q_11 => q_11.elim fun l_6 q_12 => q_12.elim fun u_7 q_13 => q_13.elim fun x_8 e_14 => ?_
  clear h_4 q_9 q_11 q_12 q_13
  subst e_10
  subst e_14
  let w2_ : va_W := [(mp_arI E a1 1 1600 f0), (mp_arI E a2 0 5 f1), (mp_arI E a4 0 180 f3), (mp_arI E a5 3 3000 f4), (mp_arI E a6 0 90 f5), (mp_arI E a7 0 300 f6), (mp_ob10 a0 y0 a8 a9 a10 a11 a1 y1 y2 y3 y4 y5 y6 y7 y8 y9 y10 a2 a3 a4 a5 a6 a7 a12 a13 y11 a14 a15 a16 a17 y12 y13 y14 a18 a19 y15 y16 a20 a21 a22 y17 y18 y19 y20 a23 a24 a25 y21), (mp_arI E a3 0 25 f2)]
  show mp_W E X 4 8 [(0, .ref a0)] [.int r_5, .int 24, .int 3] w2_ 0 0
  refine mp_run mp_k_cX10_personLine_ok hF mp_tabX10_ok [mp_i .iadd, mp_i .imul, mp_i (.istore_n 1), mp_i (.aload_n 0), mp_cl (.ldc2_w 187) 419] (by decide +kernel) ?_
  intro z_15 h_16
  have e_17 : z_15.toInt = 24 + r_5.toInt := mp_add (a := 24) (b := r_5.toInt) h_16 (by decide) rfl (by omega) (by omega)
  intro z_18 h_19
  have e_20 : z_18.toInt = 3 * z_15.toInt := mp_mul (a := 3) (b := z_15.toInt) h_19 (by decide) rfl (by omega) (by omega)
  show mp_W E X 4 15 [(1, .int z_18), (0, .ref a0)] [.long 419, .ref a0] w2_ 0 0
  refine mp_callV hF (As := [.long 419]) (rest := []) (wr := [(mp_arI E a2 0 5 f1), (mp_arI E a4 0 180 f3), (mp_arI E a5 3 3000 f4), (mp_arI E a6 0 90 f5), (mp_arI E a7 0 300 f6), (mp_arI E a3 0 25 f2)]) (bX10_asks_21 E a0 a1 a8 a9 a10 a11 a2 a3 a4 a5 a6 a7 a12 a13 a14 a15 a16 a17 a18 a19 a20 a21 a22 a23 a24 a25 f0 y0 y1 y2 y3 y4 y5 y6 y7 y8 y9 y10 y11 y12 y13 y14 y15 y16 y17 y18 y19 y20 y21 419 l_y1 u_y1 l_y2 u_y2 l_y3 u_y3 l_y4 u_y4 l_y11 u_y11 l_y12 u_y12 l_y13 u_y13 (by omega) (by assumption)) mp_lkX10_163 6 rfl [6, 0] [1, 2, 3, 4, 5, 7] rfl rfl rfl rfl rfl ⟨(Nat.le_of_ble_eq_true rfl), (Nat.le_of_ble_eq_true rfl), (Nat.le_of_ble_eq_true rfl), (Nat.le_of_ble_eq_true rfl)⟩ (Nat.le_of_ble_eq_true rfl) (by first | exact mp_fd_ok mp_k_cX10_personLine_ok (by decide +kernel) | decide +kernel) (fun v_21 w_22 h_23 => ?_)
  refine h_23.elim fun r_24 q_41 => q_41.elim fun r_25 q_42 => q_42.elim fun r_26 q_43 => q_43.elim fun r_27 q_44 => q_44.elim fun r_28 q_45 => q_45.elim fun r_29 q_46 => q_46.elim fun r_30 q_47 => q_47.elim fun e_48 q_49 => q_49.elim fun l_31 q_50 => q_50.elim fun u_32 q_51 => q_51.elim fun l_33 q_52 => q_52.elim fun u_34 q_53 => q_53.elim fun l_35 q_54 => q_54.elim fun u_36 q_55 => q_55.elim fun x_37 q_56 => q_56.elim fun x_38 q_57 => q_57.elim fun x_39 q_58 => q_58.elim fun x_40 e_59 => ?_
  clear h_23 q_41 q_42 q_43 q_44 q_45 q_46 q_47 q_49 q_50 q_51 q_52 q_53 q_54 q_55 q_56 q_57 q_58
  subst e_48
  subst e_59
  have go_60 := mp_go_w x_39 (by decide) l_y4 go_1
  have k_61 := x_40.2.1
  let w3_ : va_W := [(mp_arI E a2 0 5 f1), (mp_arI E a4 0 180 f3), (mp_arI E a5 3 3000 f4), (mp_arI E a6 0 90 f5), (mp_arI E a7 0 300 f6), (mp_arI E a3 0 25 f2), (mp_ob10 a0 y0 a8 a9 a10 a11 a1 y1 r_24 r_25 r_26 r_27 r_28 r_29 r_30 y9 y10 a2 a3 a4 a5 a6 a7 a12 a13 y11 a14 a15 a16 a17 y12 y13 y14 a18 a19 y15 y16 a20 a21 a22 y17 y18 y19 y20 a23 a24 a25 y21), (mp_arI E a1 1 1600 f0)]
  show mp_W E X 4 18 [(1, .int z_18), (0, .ref a0)] [] w3_ 0 0
  refine mp_run mp_k_cX10_personLine_ok hF mp_tabX10_ok [mp_i (.aload_n 0), mp_h (.getfield 44) [20, 6], mp_i (.iload_n 1), mp_i (.aload_n 0)] (by decide +kernel) ?_
  refine And.intro rfl (And.intro rfl ?_)
  show mp_W E X 4 24 [(1, .int z_18), (0, .ref a0)] [.ref a0, .int z_18, .ref a6] w3_ 0 0
  refine mp_callV hF (As := []) (rest := [.int z_18, .ref a6]) (wr := [(mp_arI E a2 0 5 f1), (mp_arI E a4 0 180 f3), (mp_arI E a5 3 3000 f4), (mp_arI E a6 0 90 f5), (mp_arI E a7 0 300 f6)]) (bX10_isleHere_25 E a0 a1 a3 a8 a9 a10 a11 a2 a4 a5 a6 a7 a12 a13 a14 a15 a16 a17 a18 a19 a20 a21 a22 a23 a24 a25 f0 f2 y0 y1 r_24 r_25 r_26 r_27 r_28 r_29 r_30 y9 y10 y11 y12 y13 y14 y15 y16 y17 y18 y19 y20 y21 p0 p1 p2 p3 p4 l_y1 u_y1 l_31 u_32 l_33 u_34 l_35 u_36 l_y11 u_y11 l_y12 u_y12 l_y13 u_y13 (by omega) (by assumption)) mp_lkX10_178 6 rfl [6, 7, 5] [0, 1, 2, 3, 4] rfl rfl rfl rfl rfl ⟨(Nat.le_of_ble_eq_true rfl), (Nat.le_of_ble_eq_true rfl), (Nat.le_of_ble_eq_true rfl), (Nat.le_of_ble_eq_true rfl)⟩ (Nat.le_of_ble_eq_true rfl) (by first | exact mp_fd_ok mp_k_cX10_personLine_ok (by decide +kernel) | decide +kernel) (fun v_62 w_63 h_64 => ?_)
  refine h_64.elim fun r_65 q_86 => q_86.elim fun r_66 q_87 => q_87.elim fun r_67 q_88 => q_88.elim fun r_68 q_89 => q_89.elim fun r_69 q_90 => q_90.elim fun r_70 q_91 => q_91.elim fun r_71 q_92 => q_92.elim fun r_72 q_93 => q_93.elim fun e_94 q_95 => q_95.elim fun l_73 q_96 => q_96.elim fun u_74 q_97 => q_97.elim fun l_75 q_98 => q_98.elim fun u_76 q_99 => q_99.elim fun l_77 q_100 => q_100.elim fun u_78 q_101 => q_101.elim fun l_79 q_102 => q_102.elim fun u_80 q_103 => q_103.elim fun x_81 q_104 => q_104.elim fun x_82 q_105 => q_105.elim fun x_83 q_106 => q_106.elim fun x_84 q_107 => q_107.elim fun x_85 e_108 => ?_
  clear h_64 q_86 q_87 q_88 q_89 q_90 q_91 q_92 q_93 q_95 q_96 q_97 q_98 q_99 q_100 q_101 q_102 q_103 q_104 q_105 q_106 q_107
  subst e_94
  subst e_108
  have go_109 := mp_go_n x_84 (by first | rfl | omega) (by first | rfl | omega) l_35 (Or.inr (Or.inr (Or.inr (by decide)))) go_60
  have k_110 := x_85.2.1
  let w4_ : va_W := [(mp_arI E a2 0 5 f1), (mp_arI E a4 0 180 f3), (mp_arI E a5 3 3000 f4), (mp_arI E a6 0 90 f5), (mp_arI E a7 0 300 f6), (mp_ob10 a0 y0 a8 a9 a10 a11 a1 y1 r_65 r_66 r_67 r_68 r_69 r_70 r_71 y9 y10 a2 a3 a4 a5 a6 a7 a12 a13 y11 a14 a15 a16 a17 y12 y13 y14 a18 a19 y15 y16 a20 a21 a22 y17 y18 y19 y20 a23 a24 a25 y21), (mp_arI E a1 1 1600 f0), (mp_arI E a3 0 25 f2)]
  show mp_W E X 4 27 [(1, .int z_18), (0, .ref a0)] [.int r_72, .int z_18, .ref a6] w4_ 0 0
  refine mp_run mp_k_cX10_personLine_ok hF mp_tabX10_ok [mp_h .iastore [3]] (by decide +kernel) ?_
  refine And.intro rfl (And.intro rfl (And.intro (vp_in_iff.mpr (by omega)) ?_))
  intro g_111 h_112
  have p_113 : mp_res g_111 90 3 0 0 5 := mp_res_st h_112 p7 (by omega) (by omega)
  have p_114 : mp_res g_111 90 3 1 (-1) 99 := mp_res_st h_112 p8 (by omega) (by omega)
  have p_115 : mp_keep g_111 f5 72 := mp_keep_st h_112 mp_keep_rfl (by omega)
  have e_116 : (g_111 (72 + 3 * (f2 22).toInt.toNat + 1)).toInt = (f5 (72 + 3 * (f2 22).toInt.toNat + 1)).toInt := mp_st_ne h_112 (by omega)
  let w5_ : va_W := [(mp_arI E a2 0 5 f1), (mp_arI E a4 0 180 f3), (mp_arI E a5 3 3000 f4), (mp_arI E a6 0 90 g_111), (mp_arI E a7 0 300 f6), (mp_ob10 a0 y0 a8 a9 a10 a11 a1 y1 r_65 r_66 r_67 r_68 r_69 r_70 r_71 y9 y10 a2 a3 a4 a5 a6 a7 a12 a13 y11 a14 a15 a16 a17 y12 y13 y14 a18 a19 y15 y16 a20 a21 a22 y17 y18 y19 y20 a23 a24 a25 y21), (mp_arI E a1 1 1600 f0), (mp_arI E a3 0 25 f2)]
  show mp_W E X 4 28 [(1, .int z_18), (0, .ref a0)] [] w5_ 0 0
  refine mp_run mp_k_cX10_personLine_ok hF mp_tabX10_ok [mp_i (.aload_n 0), mp_h (.getfield 44) [20, 5], mp_i (.iload_n 1), mp_c (.iconst 1) 1, mp_i .iadd, mp_c (.iconst (-1)) (-1), mp_h .iastore [3]] (by decide +kernel) ?_
  refine And.intro rfl (And.intro rfl ?_)
  intro z_117 h_118
  have e_119 : z_117.toInt = z_18.toInt + 1 := mp_add (a := z_18.toInt) (b := 1) h_118 rfl (by decide) (by omega) (by omega)
  refine And.intro rfl (And.intro rfl (And.intro (vp_in_iff.mpr (by omega)) ?_))
  intro g_120 h_121
  have p_122 : mp_res g_120 90 3 0 0 5 := mp_res_st h_121 p_113 (by omega) (by omega)
  have p_123 : mp_res g_120 90 3 1 (-1) 99 := mp_res_st h_121 p_114 (by omega) (fun _ => by decide)
  have p_124 : mp_keep g_120 f5 72 := mp_keep_st h_121 p_115 (by omega)
  have e_125 : (g_120 (72 + 3 * (f2 22).toInt.toNat + 1)).toInt = (-1) := mp_st_eq h_121 (by omega)
  let w6_ : va_W := [(mp_arI E a2 0 5 f1), (mp_arI E a4 0 180 f3), (mp_arI E a5 3 3000 f4), (mp_arI E a6 0 90 g_120), (mp_arI E a7 0 300 f6), (mp_ob10 a0 y0 a8 a9 a10 a11 a1 y1 r_65 r_66 r_67 r_68 r_69 r_70 r_71 y9 y10 a2 a3 a4 a5 a6 a7 a12 a13 y11 a14 a15 a16 a17 y12 y13 y14 a18 a19 y15 y16 a20 a21 a22 y17 y18 y19 y20 a23 a24 a25 y21), (mp_arI E a1 1 1600 f0), (mp_arI E a3 0 25 f2)]
  show mp_W E X 4 37 [(1, .int z_18), (0, .ref a0)] [] w6_ 0 0
  refine mp_run mp_k_cX10_personLine_ok hF mp_tabX10_ok [mp_i (.aload_n 0), mp_h (.getfield 44) [20, 5], mp_i (.iload_n 1), mp_c (.iconst 2) 2, mp_i .iadd, mp_c (.iconst 0) 0, mp_h .iastore [3]] (by decide +kernel) ?_
  refine And.intro rfl (And.intro rfl ?_)
  intro z_126 h_127
  have e_128 : z_126.toInt = z_18.toInt + 2 := mp_add (a := z_18.toInt) (b := 2) h_127 rfl (by decide) (by omega) (by omega)
  refine And.intro rfl (And.intro rfl (And.intro (vp_in_iff.mpr (by omega)) ?_))
  intro g_129 h_130
  have p_131 : mp_res g_129 90 3 0 0 5 := mp_res_st h_130 p_122 (by omega) (fun _ => by decide)
  have p_132 : mp_res g_129 90 3 1 (-1) 99 := mp_res_st h_130 p_123 (by omega) (fun _ => by decide)
  have p_133 : mp_keep g_129 f5 72 := mp_keep_st h_130 p_124 (by omega)
  have e_134 : (g_129 (72 + 3 * (f2 22).toInt.toNat + 1)).toInt = (g_120 (72 + 3 * (f2 22).toInt.toNat + 1)).toInt := mp_st_ne h_130 (by omega)
  let w7_ : va_W := [(mp_arI E a2 0 5 f1), (mp_arI E a4 0 180 f3), (mp_arI E a5 3 3000 f4), (mp_arI E a6 0 90 g_129), (mp_arI E a7 0 300 f6), (mp_ob10 a0 y0 a8 a9 a10 a11 a1 y1 r_65 r_66 r_67 r_68 r_69 r_70 r_71 y9 y10 a2 a3 a4 a5 a6 a7 a12 a13 y11 a14 a15 a16 a17 y12 y13 y14 a18 a19 y15 y16 a20 a21 a22 y17 y18 y19 y20 a23 a24 a25 y21), (mp_arI E a1 1 1600 f0), (mp_arI E a3 0 25 f2)]
  show mp_W E X 4 46 [(1, .int z_18), (0, .ref a0)] [] w7_ 0 0
  refine mp_run mp_k_cX10_personLine_ok hF mp_tabX10_ok [mp_c (.iconst 0) 0, mp_i (.istore_n 2)] (by decide +kernel) ?_
  show mp_W E X 4 48 [(2, .int 0), (1, .int z_18), (0, .ref a0)] [] w7_ 0 0
  have lp_159 : ∀ (d_160 : Nat) (i_135 : Int32) (g_136 : Nat → Int32) (i_137 : Int32) (i_138 : Int32) (i_139 : Int32) (i_140 : Int32) (i_141 : Int64) (i_142 : Int32) (i_143 : Int32), 0 ≤ i_135.toInt → i_135.toInt ≤ 1 → mp_res g_136 90 3 0 0 5 → mp_res g_136 90 3 1 (-1) 99 → mp_keep g_136 f5 72 → 0 ≤ i_137.toInt → i_137.toInt ≤ 1600 → 0 ≤ i_138.toInt → i_138.toInt ≤ 4 → 0 ≤ i_139.toInt → i_139.toInt ≤ 1600 → (i_137.toInt ≤ y1.toInt) → (5 * (y1.toInt - i_137.toInt) + i_138.toInt ≤ (5 * (y1.toInt - y2.toInt) + y3.toInt)) → (mp_GO (mp_aft f0 (y1.toInt).toNat (mp_gPer2 mp_gop f0 (y1.toInt).toNat (y4.toInt).toNat ((f2 20).toInt, (f2 21).toInt, (f2 22).toInt, (f2 23).toInt, (f1 4).toInt) (mp_dM f3 f4 f5 f6))) i_142.toInt i_143.toInt (mp_aft f0 (y1.toInt).toNat (mp_gPm mp_gop f0 (y1.toInt).toNat ((f2 20).toInt, (f2 21).toInt, (f2 22).toInt + 1, (f2 23).toInt, (f1 4).toInt) (f2 22).toInt (mp_rm (decide ((g_136 (72 + 3 * (f2 22).toInt.toNat + 1)).toInt ≠ -1)) (decide (i_135.toInt ≠ 0))) (decide ((g_136 (72 + 3 * (f2 22).toInt.toNat + 1)).toInt ≠ -1)) (decide (i_135.toInt ≠ 0)) (i_139.toInt).toNat (mp_dM f3 f4 g_136 f6)))) → (mp_MT f0 y1.toInt i_138.toInt i_139.toInt i_137.toInt i_140.toInt i_141.toInt) → 5 * (y1.toInt - i_137.toInt) + i_138.toInt ≤ (d_160 : Int) → mp_W E X 4 48 [(2, .int i_135), (1, .int z_18), (0, .ref a0)] [] [(mp_arI E a2 0 5 f1), (mp_arI E a4 0 180 f3), (mp_arI E a5 3 3000 f4), (mp_arI E a6 0 90 g_136), (mp_arI E a7 0 300 f6), (mp_ob10 a0 y0 a8 a9 a10 a11 a1 y1 i_137 i_138 i_139 i_140 i_141 i_142 i_143 y9 y10 a2 a3 a4 a5 a6 a7 a12 a13 y11 a14 a15 a16 a17 y12 y13 y14 a18 a19 y15 y16 a20 a21 a22 y17 y18 y19 y20 a23 a24 a25 y21), (mp_arI E a1 1 1600 f0), (mp_arI E a3 0 25 f2)] 0 0 := by
    intro d_160
    induction d_160 using Nat.strongRecOn with
    | ind d_160 ih_161 =>
      intro i_135 g_136 i_137 i_138 i_139 i_140 i_141 i_142 i_143 l_144 u_145 p_146 p_147 p_148 l_149 u_150 l_151 u_152 l_153 u_154 x_155 x_156 x_157 x_158 hm_162
      have k_163 := x_158.2.1
      refine mp_run mp_k_cX10_personLine_ok hF mp_tabX10_ok [mp_i (.aload_n 0)] (by decide +kernel) ?_
      let w8_ : va_W := [(mp_arI E a2 0 5 f1), (mp_arI E a4 0 180 f3), (mp_arI E a5 3 3000 f4), (mp_arI E a6 0 90 g_136), (mp_arI E a7 0 300 f6), (mp_ob10 a0 y0 a8 a9 a10 a11 a1 y1 i_137 i_138 i_139 i_140 i_141 i_142 i_143 y9 y10 a2 a3 a4 a5 a6 a7 a12 a13 y11 a14 a15 a16 a17 y12 y13 y14 a18 a19 y15 y16 a20 a21 a22 y17 y18 y19 y20 a23 a24 a25 y21), (mp_arI E a1 1 1600 f0), (mp_arI E a3 0 25 f2)]
      show mp_W E X 4 49 [(2, .int i_135), (1, .int z_18), (0, .ref a0)] [.ref a0] w8_ 0 0
      refine mp_callV hF (As := []) (rest := []) (wr := [(mp_arI E a2 0 5 f1), (mp_arI E a4 0 180 f3), (mp_arI E a5 3 3000 f4), (mp_arI E a6 0 90 g_136), (mp_arI E a7 0 300 f6), (mp_arI E a1 1 1600 f0), (mp_arI E a3 0 25 f2)]) (bX10_isGood_14 E a0 a8 a9 a10 a11 a1 a2 a3 a4 a5 a6 a7 a12 a13 a14 a15 a16 a17 a18 a19 a20 a21 a22 a23 a24 a25 y0 y1 i_137 i_138 i_139 i_140 i_141 i_142 i_143 y9 y10 y11 y12 y13 y14 y15 y16 y17 y18 y19 y20 y21 l_y1 u_y1 l_149 u_150 l_151 u_152 l_153 u_154 l_y11 u_y11 l_y12 u_y12 l_y13 u_y13) mp_lkX10_189 5 rfl [5] [0, 1, 2, 3, 4, 6, 7] rfl rfl rfl rfl rfl ⟨(Nat.le_of_ble_eq_true rfl), (Nat.le_of_ble_eq_true rfl), (Nat.le_of_ble_eq_true rfl), (Nat.le_of_ble_eq_true rfl)⟩ (Nat.le_of_ble_eq_true rfl) (by first | exact mp_fd_ok mp_k_cX10_personLine_ok (by decide +kernel) | decide +kernel) (fun v_164 w_165 h_166 => ?_)
      rcases h_166 with ⟨rfl, c_167, x_168, rfl⟩ | ⟨rfl, c_169, x_170, rfl⟩
      · skip
        have c_167 : i_142.toInt ≠ 0 := c_167
        let w9_ : va_W := [(mp_arI E a2 0 5 f1), (mp_arI E a4 0 180 f3), (mp_arI E a5 3 3000 f4), (mp_arI E a6 0 90 g_136), (mp_arI E a7 0 300 f6), (mp_arI E a1 1 1600 f0), (mp_arI E a3 0 25 f2), (mp_ob10 a0 y0 a8 a9 a10 a11 a1 y1 i_137 i_138 i_139 i_140 i_141 i_142 i_143 y9 y10 a2 a3 a4 a5 a6 a7 a12 a13 y11 a14 a15 a16 a17 y12 y13 y14 a18 a19 y15 y16 a20 a21 a22 y17 y18 y19 y20 a23 a24 a25 y21)]
        show mp_W E X 4 52 [(2, .int i_135), (1, .int z_18), (0, .ref a0)] [.int 0] w9_ 0 0
        refine mp_run mp_k_cX10_personLine_ok hF mp_tabX10_ok [mp_h (.ifCond .eq 112) [164]] (by decide +kernel) ?_
        refine And.intro (fun _ => ?_) (fun c_171 => absurd c_171 (by decide))
        show mp_W E X 4 164 [(2, .int i_135), (1, .int z_18), (0, .ref a0)] [] w9_ 0 0
        refine mp_run mp_k_cX10_personLine_ok hF mp_tabX10_ok [mp_i (.aload_n 0), mp_h (.getfield 34) [17, 7], mp_c (.bipush 22) 22, mp_i .dup2, mp_h .iaload [6], mp_c (.iconst 1) 1, mp_i .iadd, mp_h .iastore [6]] (by decide +kernel) ?_
        refine And.intro rfl (And.intro rfl ?_)
        refine And.intro rfl (And.intro rfl (And.intro (vp_in_iff.mpr (by decide)) ?_))
        intro z_172 h_173
        have e_174 : 0 ≤ z_172.toInt ∧ z_172.toInt ≤ 6 := mp_res_ld h_173 p2 (by decide) (by decide) (by decide)
        have e_175 : z_172.toInt = (f2 22).toInt := congrArg Int32.toInt (mp_at h_173 (by decide) rfl)
        intro z_176 h_177
        have e_178 : z_176.toInt = z_172.toInt + 1 := mp_add (a := z_172.toInt) (b := 1) h_177 rfl (by decide) (by omega) (by omega)
        refine And.intro rfl (And.intro rfl (And.intro (vp_in_iff.mpr (by decide)) ?_))
        intro g_179 h_180
        have p_181 : mp_res g_179 25 5 0 0 6 := mp_res_st h_180 p0 (by decide) (fun q => absurd q (by decide))
        have p_182 : mp_res g_179 25 5 1 0 99 := mp_res_st h_180 p1 (by decide) (fun q => absurd q (by decide))
        have p_183 : mp_res g_179 25 5 2 0 6 := mp_res_st h_180 p2 (by decide) (fun _ => by omega)
        have p_184 : mp_res g_179 25 5 3 0 10 := mp_res_st h_180 p3 (by decide) (fun q => absurd q (by decide))
        have p_185 : mp_res g_179 25 5 4 0 60 := mp_res_st h_180 p4 (by decide) (fun q => absurd q (by decide))
        have p_186 : mp_keep g_179 f2 20 := mp_keep_st h_180 mp_keep_rfl (by decide)
        have e_187 : (g_179 0).toInt = (f2 0).toInt := mp_has_ne h_180 (by decide)
        have e_188 : (g_179 1).toInt = (f2 1).toInt := mp_has_ne h_180 (by decide)
        have e_189 : (g_179 2).toInt = (f2 2).toInt := mp_has_ne h_180 (by decide)
        have e_190 : (g_179 3).toInt = (f2 3).toInt := mp_has_ne h_180 (by decide)
        have e_191 : (g_179 4).toInt = (f2 4).toInt := mp_has_ne h_180 (by decide)
        have e_192 : (g_179 20).toInt = (f2 20).toInt := mp_has_ne h_180 (by decide)
        have e_193 : (g_179 21).toInt = (f2 21).toInt := mp_has_ne h_180 (by decide)
        have e_194 : (g_179 22).toInt = z_176.toInt := mp_has_eq h_180 (by decide)
        have e_195 : (g_179 23).toInt = (f2 23).toInt := mp_has_ne h_180 (by decide)
        have e_196 : (g_179 24).toInt = (f2 24).toInt := mp_has_ne h_180 (by decide)
        let w10_ : va_W := [(mp_arI E a2 0 5 f1), (mp_arI E a4 0 180 f3), (mp_arI E a5 3 3000 f4), (mp_arI E a6 0 90 g_136), (mp_arI E a7 0 300 f6), (mp_arI E a1 1 1600 f0), (mp_arI E a3 0 25 g_179), (mp_ob10 a0 y0 a8 a9 a10 a11 a1 y1 i_137 i_138 i_139 i_140 i_141 i_142 i_143 y9 y10 a2 a3 a4 a5 a6 a7 a12 a13 y11 a14 a15 a16 a17 y12 y13 y14 a18 a19 y15 y16 a20 a21 a22 y17 y18 y19 y20 a23 a24 a25 y21)]
        show mp_W E X 4 175 [(2, .int i_135), (1, .int z_18), (0, .ref a0)] [] w10_ 0 0
        exact mp_vret hF hQ rfl (Nat.le_of_ble_eq_true rfl) (Nat.le_of_ble_eq_true rfl) [7, 5, 0, 6, 1, 2, 3, 4] (w' := [(mp_ob10 a0 y0 a8 a9 a10 a11 a1 y1 i_137 i_138 i_139 i_140 i_141 i_142 i_143 y9 y10 a2 a3 a4 a5 a6 a7 a12 a13 y11 a14 a15 a16 a17 y12 y13 y14 a18 a19 y15 y16 a20 a21 a22 y17 y18 y19 y20 a23 a24 a25 y21), (mp_arI E a1 1 1600 f0), (mp_arI E a2 0 5 f1), (mp_arI E a3 0 25 g_179), (mp_arI E a4 0 180 f3), (mp_arI E a5 3 3000 f4), (mp_arI E a6 0 90 g_136), (mp_arI E a7 0 300 f6)]) rfl rfl ⟨i_137, i_138, i_139, i_140, i_141, i_142, i_143, g_179, g_136, rfl, l_149, u_150, l_151, u_152, l_153, u_154, p_181, p_182, p_183, p_184, p_185, p_186, p_146, p_147, p_148, (by first | omega | decide), (by first | omega | decide), (by first | omega | decide), (by first | omega | decide), (mp_go_eq (mp_go_e x_157 (by first | omega | (dsimp only <;> omega) | decide)) (Or.inr (congrArg (mp_aft _ _) (mp_rs4 rfl (mp_sc5 (by first | omega | (dsimp only <;> omega) | decide) (by first | omega | (dsimp only <;> omega) | decide) (by first | omega | (dsimp only <;> omega) | decide) (by first | omega | (dsimp only <;> omega) | decide) (by first | omega | (dsimp only <;> omega) | decide)) rfl)))), x_158, rfl⟩ (by first | exact mp_fd_ok mp_k_cX10_personLine_ok (by decide +kernel) | decide +kernel)
      · skip
        have c_169 : i_142.toInt = 0 := c_169
        let w11_ : va_W := [(mp_arI E a2 0 5 f1), (mp_arI E a4 0 180 f3), (mp_arI E a5 3 3000 f4), (mp_arI E a6 0 90 g_136), (mp_arI E a7 0 300 f6), (mp_arI E a1 1 1600 f0), (mp_arI E a3 0 25 f2), (mp_ob10 a0 y0 a8 a9 a10 a11 a1 y1 i_137 i_138 i_139 i_140 i_141 i_142 i_143 y9 y10 a2 a3 a4 a5 a6 a7 a12 a13 y11 a14 a15 a16 a17 y12 y13 y14 a18 a19 y15 y16 a20 a21 a22 y17 y18 y19 y20 a23 a24 a25 y21)]
        show mp_W E X 4 52 [(2, .int i_135), (1, .int z_18), (0, .ref a0)] [.int 1] w11_ 0 0
        refine mp_run mp_k_cX10_personLine_ok hF mp_tabX10_ok [mp_h (.ifCond .eq 112) [164]] (by decide +kernel) ?_
        refine And.intro (fun c_197 => absurd c_197 (by decide)) (fun _ => ?_)
        show mp_W E X 4 55 [(2, .int i_135), (1, .int z_18), (0, .ref a0)] [] w11_ 0 0
        refine mp_run mp_k_cX10_personLine_ok hF mp_tabX10_ok [mp_i (.aload_n 0), mp_h (.getfield 133) [8, 7], mp_c (.iconst 1) 1, mp_h (.if_icmp .ne 104) [164]] (by decide +kernel) ?_
        refine And.intro rfl (And.intro rfl ?_)
        refine And.intro (fun c_198 => ?_) (fun c_198 => ?_)
        · have c_198 : i_138.toInt ≠ 1 := c_198
          show mp_W E X 4 164 [(2, .int i_135), (1, .int z_18), (0, .ref a0)] [] w11_ 0 0
          refine mp_run mp_k_cX10_personLine_ok hF mp_tabX10_ok [mp_i (.aload_n 0), mp_h (.getfield 34) [17, 7], mp_c (.bipush 22) 22, mp_i .dup2, mp_h .iaload [6], mp_c (.iconst 1) 1, mp_i .iadd, mp_h .iastore [6]] (by decide +kernel) ?_
          refine And.intro rfl (And.intro rfl ?_)
          refine And.intro rfl (And.intro rfl (And.intro (vp_in_iff.mpr (by decide)) ?_))
          intro z_199 h_200
          have e_201 : 0 ≤ z_199.toInt ∧ z_199.toInt ≤ 6 := mp_res_ld h_200 p2 (by decide) (by decide) (by decide)
          have e_202 : z_199.toInt = (f2 22).toInt := congrArg Int32.toInt (mp_at h_200 (by decide) rfl)
          intro z_203 h_204
          have e_205 : z_203.toInt = z_199.toInt + 1 := mp_add (a := z_199.toInt) (b := 1) h_204 rfl (by decide) (by omega) (by omega)
          refine And.intro rfl (And.intro rfl (And.intro (vp_in_iff.mpr (by decide)) ?_))
          intro g_206 h_207
          have p_208 : mp_res g_206 25 5 0 0 6 := mp_res_st h_207 p0 (by decide) (fun q => absurd q (by decide))
          have p_209 : mp_res g_206 25 5 1 0 99 := mp_res_st h_207 p1 (by decide) (fun q => absurd q (by decide))
          have p_210 : mp_res g_206 25 5 2 0 6 := mp_res_st h_207 p2 (by decide) (fun _ => by omega)
          have p_211 : mp_res g_206 25 5 3 0 10 := mp_res_st h_207 p3 (by decide) (fun q => absurd q (by decide))
          have p_212 : mp_res g_206 25 5 4 0 60 := mp_res_st h_207 p4 (by decide) (fun q => absurd q (by decide))
          have p_213 : mp_keep g_206 f2 20 := mp_keep_st h_207 mp_keep_rfl (by decide)
          have e_214 : (g_206 0).toInt = (f2 0).toInt := mp_has_ne h_207 (by decide)
          have e_215 : (g_206 1).toInt = (f2 1).toInt := mp_has_ne h_207 (by decide)
          have e_216 : (g_206 2).toInt = (f2 2).toInt := mp_has_ne h_207 (by decide)
          have e_217 : (g_206 3).toInt = (f2 3).toInt := mp_has_ne h_207 (by decide)
          have e_218 : (g_206 4).toInt = (f2 4).toInt := mp_has_ne h_207 (by decide)
          have e_219 : (g_206 20).toInt = (f2 20).toInt := mp_has_ne h_207 (by decide)
          have e_220 : (g_206 21).toInt = (f2 21).toInt := mp_has_ne h_207 (by decide)
          have e_221 : (g_206 22).toInt = z_203.toInt := mp_has_eq h_207 (by decide)
          have e_222 : (g_206 23).toInt = (f2 23).toInt := mp_has_ne h_207 (by decide)
          have e_223 : (g_206 24).toInt = (f2 24).toInt := mp_has_ne h_207 (by decide)
          let w12_ : va_W := [(mp_arI E a2 0 5 f1), (mp_arI E a4 0 180 f3), (mp_arI E a5 3 3000 f4), (mp_arI E a6 0 90 g_136), (mp_arI E a7 0 300 f6), (mp_arI E a1 1 1600 f0), (mp_arI E a3 0 25 g_206), (mp_ob10 a0 y0 a8 a9 a10 a11 a1 y1 i_137 i_138 i_139 i_140 i_141 i_142 i_143 y9 y10 a2 a3 a4 a5 a6 a7 a12 a13 y11 a14 a15 a16 a17 y12 y13 y14 a18 a19 y15 y16 a20 a21 a22 y17 y18 y19 y20 a23 a24 a25 y21)]
          show mp_W E X 4 175 [(2, .int i_135), (1, .int z_18), (0, .ref a0)] [] w12_ 0 0
          exact mp_vret hF hQ rfl (Nat.le_of_ble_eq_true rfl) (Nat.le_of_ble_eq_true rfl) [7, 5, 0, 6, 1, 2, 3, 4] (w' := [(mp_ob10 a0 y0 a8 a9 a10 a11 a1 y1 i_137 i_138 i_139 i_140 i_141 i_142 i_143 y9 y10 a2 a3 a4 a5 a6 a7 a12 a13 y11 a14 a15 a16 a17 y12 y13 y14 a18 a19 y15 y16 a20 a21 a22 y17 y18 y19 y20 a23 a24 a25 y21), (mp_arI E a1 1 1600 f0), (mp_arI E a2 0 5 f1), (mp_arI E a3 0 25 g_206), (mp_arI E a4 0 180 f3), (mp_arI E a5 3 3000 f4), (mp_arI E a6 0 90 g_136), (mp_arI E a7 0 300 f6)]) rfl rfl ⟨i_137, i_138, i_139, i_140, i_141, i_142, i_143, g_206, g_136, rfl, l_149, u_150, l_151, u_152, l_153, u_154, p_208, p_209, p_210, p_211, p_212, p_213, p_146, p_147, p_148, (by first | omega | decide), (by first | omega | decide), (by first | omega | decide), (by first | omega | decide), (mp_go_eq (mp_go_e x_157 (by first | omega | (dsimp only <;> omega) | decide)) (Or.inr (congrArg (mp_aft _ _) (mp_rs4 rfl (mp_sc5 (by first | omega | (dsimp only <;> omega) | decide) (by first | omega | (dsimp only <;> omega) | decide) (by first | omega | (dsimp only <;> omega) | decide) (by first | omega | (dsimp only <;> omega) | decide) (by first | omega | (dsimp only <;> omega) | decide)) rfl)))), x_158, rfl⟩ (by first | exact mp_fd_ok mp_k_cX10_personLine_ok (by decide +kernel) | decide +kernel)
        · have c_198 : i_138.toInt = 1 := (congrArg Int32.toInt c_198)
          show mp_W E X 4 63 [(2, .int i_135), (1, .int z_18), (0, .ref a0)] [] w11_ 0 0
          refine mp_run mp_k_cX10_personLine_ok hF mp_tabX10_ok [mp_i (.aload_n 0), mp_cl (.ldc2_w 193) 85447] (by decide +kernel) ?_
          show mp_W E X 4 67 [(2, .int i_135), (1, .int z_18), (0, .ref a0)] [.long 85447, .ref a0] w11_ 0 0
          refine mp_callV hF (As := [.long 85447]) (rest := []) (wr := [(mp_arI E a2 0 5 f1), (mp_arI E a4 0 180 f3), (mp_arI E a5 3 3000 f4), (mp_arI E a6 0 90 g_136), (mp_arI E a7 0 300 f6), (mp_arI E a3 0 25 f2)]) (bX10_is_15 E a0 a1 a8 a9 a10 a11 a2 a3 a4 a5 a6 a7 a12 a13 a14 a15 a16 a17 a18 a19 a20 a21 a22 a23 a24 a25 f0 y0 y1 i_137 i_138 i_139 i_140 i_141 i_142 i_143 y9 y10 y11 y12 y13 y14 y15 y16 y17 y18 y19 y20 y21 85447 l_y1 u_y1 l_149 u_150 l_151 u_152 l_153 u_154 l_y11 u_y11 l_y12 u_y12 l_y13 u_y13 (by assumption)) mp_lkX10_150 7 rfl [7, 5] [0, 1, 2, 3, 4, 6] rfl rfl rfl rfl rfl ⟨(Nat.le_of_ble_eq_true rfl), (Nat.le_of_ble_eq_true rfl), (Nat.le_of_ble_eq_true rfl), (Nat.le_of_ble_eq_true rfl)⟩ (Nat.le_of_ble_eq_true rfl) (by first | exact mp_fd_ok mp_k_cX10_personLine_ok (by decide +kernel) | decide +kernel) (fun v_224 w_225 h_226 => ?_)
          refine h_226.elim (fun q_232 => ?_) (fun q_233 => ?_)
          · skip
            refine q_232.elim fun e_234 q_235 => q_235.elim fun x_227 e_236 => ?_
            clear h_226 q_232 q_235
            subst e_234
            subst e_236
            rw [show (85447 : Int64).toInt = 85447 from by decide] at x_227
            let w13_ : va_W := [(mp_arI E a2 0 5 f1), (mp_arI E a4 0 180 f3), (mp_arI E a5 3 3000 f4), (mp_arI E a6 0 90 g_136), (mp_arI E a7 0 300 f6), (mp_arI E a3 0 25 f2), (mp_ob10 a0 y0 a8 a9 a10 a11 a1 y1 i_137 i_138 i_139 i_140 i_141 i_142 i_143 y9 y10 a2 a3 a4 a5 a6 a7 a12 a13 y11 a14 a15 a16 a17 y12 y13 y14 a18 a19 y15 y16 a20 a21 a22 y17 y18 y19 y20 a23 a24 a25 y21), (mp_arI E a1 1 1600 f0)]
            show mp_W E X 4 70 [(2, .int i_135), (1, .int z_18), (0, .ref a0)] [.int 0] w13_ 0 0
            refine mp_run mp_k_cX10_personLine_ok hF mp_tabX10_ok [mp_i (.istore_n 3)] (by decide +kernel) ?_
            show mp_W E X 4 71 [(3, .int 0), (2, .int i_135), (1, .int z_18), (0, .ref a0)] [] w13_ 0 0
            have jp_244 : ∀ (i_237 : Int32) (i_238 : Int32), (i_137.toInt ≤ y1.toInt) → (5 * (y1.toInt - i_137.toInt) + i_138.toInt ≤ (5 * (y1.toInt - y2.toInt) + y3.toInt)) → (mp_GO (mp_aft f0 (y1.toInt).toNat (mp_gPer2 mp_gop f0 (y1.toInt).toNat (y4.toInt).toNat ((f2 20).toInt, (f2 21).toInt, (f2 22).toInt, (f2 23).toInt, (f1 4).toInt) (mp_dM f3 f4 f5 f6))) i_237.toInt i_238.toInt (mp_aft f0 (y1.toInt).toNat (mp_gPm mp_gop f0 (y1.toInt).toNat ((f2 20).toInt, (f2 21).toInt, (f2 22).toInt + 1, (f2 23).toInt, (f1 4).toInt) (f2 22).toInt (mp_rm (decide ((g_136 (72 + 3 * (f2 22).toInt.toNat + 1)).toInt ≠ -1)) (decide (i_135.toInt ≠ 0))) (decide ((g_136 (72 + 3 * (f2 22).toInt.toNat + 1)).toInt ≠ -1)) (decide (i_135.toInt ≠ 0)) (i_139.toInt).toNat (mp_dM f3 f4 g_136 f6)))) → (i_237.toInt ≠ 0 ∨ (mp_TK f0 (y1.toInt).toNat (i_139.toInt).toNat = 1 ∧ ((0 = 1 ∧ mp_WD f0 (y1.toInt).toNat (i_139.toInt).toNat = 85447 ∧ (g_136 (72 + 3 * (f2 22).toInt.toNat + 1)).toInt = -1) ∨ (0 = 0 ∧ mp_WD f0 (y1.toInt).toNat (i_139.toInt).toNat = 10737568 ∧ i_135.toInt = 0)))) → (mp_MT f0 y1.toInt i_138.toInt i_139.toInt i_137.toInt i_140.toInt i_141.toInt) → mp_W E X 4 113 [(3, .int 0), (2, .int i_135), (1, .int z_18), (0, .ref a0)] [] [(mp_arI E a2 0 5 f1), (mp_arI E a4 0 180 f3), (mp_arI E a5 3 3000 f4), (mp_arI E a6 0 90 g_136), (mp_arI E a7 0 300 f6), (mp_arI E a3 0 25 f2), (mp_ob10 a0 y0 a8 a9 a10 a11 a1 y1 i_137 i_138 i_139 i_140 i_141 i_237 i_238 y9 y10 a2 a3 a4 a5 a6 a7 a12 a13 y11 a14 a15 a16 a17 y12 y13 y14 a18 a19 y15 y16 a20 a21 a22 y17 y18 y19 y20 a23 a24 a25 y21), (mp_arI E a1 1 1600 f0)] 0 0 := by
              intro i_237 i_238 x_239 x_240 x_241 x_242 x_243
              have k_245 := x_243.2.1
              refine mp_run mp_k_cX10_personLine_ok hF mp_tabX10_ok [mp_i (.aload_n 0), mp_h (.getfield 144) [12, 6], mp_h (.ifCond .eq 4) [121]] (by decide +kernel) ?_
              refine And.intro rfl (And.intro rfl ?_)
              refine And.intro (fun c_246 => ?_) (fun c_246 => ?_)
              · have c_246 : i_237.toInt = 0 := (congrArg Int32.toInt c_246)
                let w14_ : va_W := [(mp_arI E a2 0 5 f1), (mp_arI E a4 0 180 f3), (mp_arI E a5 3 3000 f4), (mp_arI E a6 0 90 g_136), (mp_arI E a7 0 300 f6), (mp_arI E a3 0 25 f2), (mp_ob10 a0 y0 a8 a9 a10 a11 a1 y1 i_137 i_138 i_139 i_140 i_141 i_237 i_238 y9 y10 a2 a3 a4 a5 a6 a7 a12 a13 y11 a14 a15 a16 a17 y12 y13 y14 a18 a19 y15 y16 a20 a21 a22 y17 y18 y19 y20 a23 a24 a25 y21), (mp_arI E a1 1 1600 f0)]
                show mp_W E X 4 121 [(3, .int 0), (2, .int i_135), (1, .int z_18), (0, .ref a0)] [] w14_ 0 0
                refine mp_run mp_k_cX10_personLine_ok hF mp_tabX10_ok [mp_i (.aload_n 0)] (by decide +kernel) ?_
                show mp_W E X 4 122 [(3, .int 0), (2, .int i_135), (1, .int z_18), (0, .ref a0)] [.ref a0] w14_ 0 0
                refine mp_callV hF (As := []) (rest := []) (wr := [(mp_arI E a2 0 5 f1), (mp_arI E a4 0 180 f3), (mp_arI E a5 3 3000 f4), (mp_arI E a6 0 90 g_136), (mp_arI E a7 0 300 f6), (mp_arI E a3 0 25 f2)]) (bX10_next_12 E a0 a1 a8 a9 a10 a11 a2 a3 a4 a5 a6 a7 a12 a13 a14 a15 a16 a17 a18 a19 a20 a21 a22 a23 a24 a25 f0 y0 y1 i_137 i_138 i_139 i_140 i_141 i_237 i_238 y9 y10 y11 y12 y13 y14 y15 y16 y17 y18 y19 y20 y21 l_y1 u_y1 l_149 u_150 l_151 u_152 l_153 u_154 l_y11 u_y11 l_y12 u_y12 l_y13 u_y13 (by first | omega | (show i_137.toInt ≤ y1.toInt; omega))) mp_lkX10_154 6 rfl [6, 7] [0, 1, 2, 3, 4, 5] rfl rfl rfl rfl rfl ⟨(Nat.le_of_ble_eq_true rfl), (Nat.le_of_ble_eq_true rfl), (Nat.le_of_ble_eq_true rfl), (Nat.le_of_ble_eq_true rfl)⟩ (Nat.le_of_ble_eq_true rfl) (by first | exact mp_fd_ok mp_k_cX10_personLine_ok (by decide +kernel) | decide +kernel) (fun v_247 w_248 h_249 => ?_)
                refine h_249.elim fun r_250 q_269 => q_269.elim fun r_251 q_270 => q_270.elim fun r_252 q_271 => q_271.elim fun r_253 q_272 => q_272.elim fun r_254 q_273 => q_273.elim fun e_274 q_275 => q_275.elim fun l_255 q_276 => q_276.elim fun u_256 q_277 => q_277.elim fun l_257 q_278 => q_278.elim fun u_258 q_279 => q_279.elim fun l_259 q_280 => q_280.elim fun u_260 q_281 => q_281.elim fun l_261 q_282 => q_282.elim fun u_262 q_283 => q_283.elim fun l_263 q_284 => q_284.elim fun u_264 q_285 => q_285.elim fun x_265 q_286 => q_286.elim fun x_266 q_287 => q_287.elim fun x_267 q_288 => q_288.elim fun x_268 e_289 => ?_
                clear h_249 q_269 q_270 q_271 q_272 q_273 q_275 q_276 q_277 q_278 q_279 q_280 q_281 q_282 q_283 q_284 q_285 q_286 q_287 q_288
                subst e_274
                subst e_289
                have nx_290 : r_252.toInt = ((mp_NX f0 (y1.toInt).toNat (i_139.toInt).toNat : Nat) : Int) := (by have k9 := x_267; unfold mp_NX; rw [← Int.toNat_natCast (mp_TE _ _ _), ← x_243.2.2.1]; exact k9)
                have k_291 := x_268.2.1
                let w15_ : va_W := [(mp_arI E a2 0 5 f1), (mp_arI E a4 0 180 f3), (mp_arI E a5 3 3000 f4), (mp_arI E a6 0 90 g_136), (mp_arI E a7 0 300 f6), (mp_arI E a3 0 25 f2), (mp_ob10 a0 y0 a8 a9 a10 a11 a1 y1 r_250 r_251 r_252 r_253 r_254 i_237 i_238 y9 y10 a2 a3 a4 a5 a6 a7 a12 a13 y11 a14 a15 a16 a17 y12 y13 y14 a18 a19 y15 y16 a20 a21 a22 y17 y18 y19 y20 a23 a24 a25 y21), (mp_arI E a1 1 1600 f0)]
                show mp_W E X 4 125 [(3, .int 0), (2, .int i_135), (1, .int z_18), (0, .ref a0)] [] w15_ 0 0
                have jp_314 : ∀ (g_292 : Nat → Int32) (i_293 : Int32) (i_294 : Int32) (i_295 : Int32) (i_296 : Int32) (i_297 : Int64) (i_298 : Int32) (i_299 : Int32), mp_res g_292 90 3 0 0 5 → mp_res g_292 90 3 1 (-1) 99 → mp_keep g_292 f5 72 → 0 ≤ i_293.toInt → i_293.toInt ≤ 1600 → 0 ≤ i_294.toInt → i_294.toInt ≤ 4 → 0 ≤ i_295.toInt → i_295.toInt ≤ 1600 → (i_293.toInt ≤ y1.toInt) → (5 * (y1.toInt - i_293.toInt) + i_294.toInt ≤ (5 * (y1.toInt - y2.toInt) + y3.toInt)) → (mp_GO (mp_aft f0 (y1.toInt).toNat (mp_gPer2 mp_gop f0 (y1.toInt).toNat (y4.toInt).toNat ((f2 20).toInt, (f2 21).toInt, (f2 22).toInt, (f2 23).toInt, (f1 4).toInt) (mp_dM f3 f4 f5 f6))) i_298.toInt i_299.toInt (mp_aft f0 (y1.toInt).toNat (mp_gPm mp_gop f0 (y1.toInt).toNat ((f2 20).toInt, (f2 21).toInt, (f2 22).toInt + 1, (f2 23).toInt, (f1 4).toInt) (f2 22).toInt (mp_rm (decide ((g_292 (72 + 3 * (f2 22).toInt.toNat + 1)).toInt ≠ -1)) (decide (1 ≠ 0))) (decide ((g_292 (72 + 3 * (f2 22).toInt.toNat + 1)).toInt ≠ -1)) (decide (1 ≠ 0)) (i_295.toInt).toNat (mp_dM f3 f4 g_292 f6)))) → (mp_MT f0 y1.toInt i_294.toInt i_295.toInt i_293.toInt i_296.toInt i_297.toInt) → (5 * (y1.toInt - i_293.toInt) + i_294.toInt + 1 ≤ 5 * (y1.toInt - i_137.toInt) + i_138.toInt) → mp_W E X 4 161 [(2, .int 1), (3, .int 0), (1, .int z_18), (0, .ref a0)] [] [(mp_arI E a2 0 5 f1), (mp_arI E a4 0 180 f3), (mp_arI E a5 3 3000 f4), (mp_arI E a6 0 90 g_292), (mp_arI E a7 0 300 f6), (mp_arI E a3 0 25 f2), (mp_ob10 a0 y0 a8 a9 a10 a11 a1 y1 i_293 i_294 i_295 i_296 i_297 i_298 i_299 y9 y10 a2 a3 a4 a5 a6 a7 a12 a13 y11 a14 a15 a16 a17 y12 y13 y14 a18 a19 y15 y16 a20 a21 a22 y17 y18 y19 y20 a23 a24 a25 y21), (mp_arI E a1 1 1600 f0)] 0 0 := by
                  intro g_292 i_293 i_294 i_295 i_296 i_297 i_298 i_299 p_300 p_301 p_302 l_303 u_304 l_305 u_306 l_307 u_308 x_309 x_310 x_311 x_312 x_313
                  have k_315 := x_312.2.1
                  refine mp_run mp_k_cX10_personLine_ok hF mp_tabX10_ok [mp_h (.goto (-113)) [48]] (by decide +kernel) ?_
                  let w16_ : va_W := [(mp_arI E a2 0 5 f1), (mp_arI E a4 0 180 f3), (mp_arI E a5 3 3000 f4), (mp_arI E a6 0 90 g_292), (mp_arI E a7 0 300 f6), (mp_arI E a3 0 25 f2), (mp_ob10 a0 y0 a8 a9 a10 a11 a1 y1 i_293 i_294 i_295 i_296 i_297 i_298 i_299 y9 y10 a2 a3 a4 a5 a6 a7 a12 a13 y11 a14 a15 a16 a17 y12 y13 y14 a18 a19 y15 y16 a20 a21 a22 y17 y18 y19 y20 a23 a24 a25 y21), (mp_arI E a1 1 1600 f0)]
                  show mp_W E X 4 48 [(2, .int 1), (3, .int 0), (1, .int z_18), (0, .ref a0)] [] w16_ 0 0
                  exact mp_sub [0, 2, 3] rfl [0, 1, 2, 3, 4, 6, 7, 5] rfl rfl (ih_161 (d_160 - 1) (by omega) 1 g_292 i_293 i_294 i_295 i_296 i_297 i_298 i_299 (by decide) (by decide) p_300 p_301 p_302 l_303 u_304 l_305 u_306 l_307 u_308 (by first | omega | decide) (by first | omega | decide) x_311 x_312 (by omega))
                refine mp_run mp_k_cX10_personLine_ok hF mp_tabX10_ok [mp_i (.iload_n 3), mp_h (.ifCond .eq 18) [144]] (by decide +kernel) ?_
                refine And.intro (fun _ => ?_) (fun c_316 => absurd c_316 (by decide))
                show mp_W E X 4 144 [(3, .int 0), (2, .int i_135), (1, .int z_18), (0, .ref a0)] [] w15_ 0 0
                refine mp_run mp_k_cX10_personLine_ok hF mp_tabX10_ok [mp_i (.aload_n 0), mp_h (.getfield 44) [20, 6], mp_i (.iload_n 1), mp_c (.iconst 2) 2, mp_i .iadd, mp_i (.aload_n 0), mp_c (.iconst 0) 0, mp_c (.bipush 100) 100] (by decide +kernel) ?_
                refine And.intro rfl (And.intro rfl ?_)
                intro z_317 h_318
                have e_319 : z_317.toInt = z_18.toInt + 2 := mp_add (a := z_18.toInt) (b := 2) h_318 rfl (by decide) (by omega) (by omega)
                show mp_W E X 4 155 [(3, .int 0), (2, .int i_135), (1, .int z_18), (0, .ref a0)] [.int 100, .int 0, .ref a0, .int z_317, .ref a6] w15_ 0 0
                refine mp_callV hF (As := [.int 0, .int 100]) (rest := [.int z_317, .ref a6]) (wr := [(mp_arI E a2 0 5 f1), (mp_arI E a4 0 180 f3), (mp_arI E a5 3 3000 f4), (mp_arI E a6 0 90 g_136), (mp_arI E a7 0 300 f6), (mp_arI E a3 0 25 f2)]) (bX10_number_26 E a0 a1 a8 a9 a10 a11 a2 a3 a4 a5 a6 a7 a12 a13 a14 a15 a16 a17 a18 a19 a20 a21 a22 a23 a24 a25 f0 y0 y1 r_250 r_251 r_252 r_253 r_254 i_237 i_238 y9 y10 y11 y12 y13 y14 y15 y16 y17 y18 y19 y20 y21 l_y1 u_y1 l_255 u_256 l_257 u_258 l_259 u_260 l_y11 u_y11 l_y12 u_y12 l_y13 u_y13 (by omega) (by assumption) (by first | omega | decide)) mp_lkX10_167 6 rfl [6, 7] [0, 1, 2, 3, 4, 5] rfl rfl rfl rfl rfl ⟨(Nat.le_of_ble_eq_true rfl), (Nat.le_of_ble_eq_true rfl), (Nat.le_of_ble_eq_true rfl), (Nat.le_of_ble_eq_true rfl)⟩ (Nat.le_of_ble_eq_true rfl) (by first | exact mp_fd_ok mp_k_cX10_personLine_ok (by decide +kernel) | decide +kernel) (fun v_320 w_321 h_322 => ?_)
                refine h_322.elim fun r_323 q_344 => q_344.elim fun r_324 q_345 => q_345.elim fun r_325 q_346 => q_346.elim fun r_326 q_347 => q_347.elim fun r_327 q_348 => q_348.elim fun r_328 q_349 => q_349.elim fun r_329 q_350 => q_350.elim fun r_330 q_351 => q_351.elim fun e_352 q_353 => q_353.elim fun l_331 q_354 => q_354.elim fun u_332 q_355 => q_355.elim fun l_333 q_356 => q_356.elim fun u_334 q_357 => q_357.elim fun l_335 q_358 => q_358.elim fun u_336 q_359 => q_359.elim fun l_337 q_360 => q_360.elim fun u_338 q_361 => q_361.elim fun x_339 q_362 => q_362.elim fun x_340 q_363 => q_363.elim fun x_341 q_364 => q_364.elim fun x_342 q_365 => q_365.elim fun x_343 e_366 => ?_
                clear h_322 q_344 q_345 q_346 q_347 q_348 q_349 q_350 q_351 q_353 q_354 q_355 q_356 q_357 q_358 q_359 q_360 q_361 q_362 q_363 q_364 q_365
                subst e_352
                subst e_366
                have go_367 := mp_go_n x_342 (by first | rfl | omega) (by first | rfl | omega) l_259 (Or.inr (Or.inr (Or.inr (by decide)))) (mp_go_t x_241 (by first | omega | (dsimp only <;> omega) | decide) (fun q => by have q2 := q.2; omega) (by first | omega | (dsimp only <;> omega) | decide) (decide_eq_false (by first | omega | (dsimp only <;> omega) | decide)) nx_290)
                have k_368 := x_343.2.1
                let w17_ : va_W := [(mp_arI E a2 0 5 f1), (mp_arI E a4 0 180 f3), (mp_arI E a5 3 3000 f4), (mp_arI E a6 0 90 g_136), (mp_arI E a7 0 300 f6), (mp_arI E a3 0 25 f2), (mp_ob10 a0 y0 a8 a9 a10 a11 a1 y1 r_323 r_324 r_325 r_326 r_327 r_328 r_329 y9 y10 a2 a3 a4 a5 a6 a7 a12 a13 y11 a14 a15 a16 a17 y12 y13 y14 a18 a19 y15 y16 a20 a21 a22 y17 y18 y19 y20 a23 a24 a25 y21), (mp_arI E a1 1 1600 f0)]
                show mp_W E X 4 158 [(3, .int 0), (2, .int i_135), (1, .int z_18), (0, .ref a0)] [.int r_330, .int z_317, .ref a6] w17_ 0 0
                refine mp_run mp_k_cX10_personLine_ok hF mp_tabX10_ok [mp_h .iastore [3]] (by decide +kernel) ?_
                refine And.intro rfl (And.intro rfl (And.intro (vp_in_iff.mpr (by omega)) ?_))
                intro g_369 h_370
                have p_371 : mp_res g_369 90 3 0 0 5 := mp_res_st h_370 p_146 (by omega) (by omega)
                have p_372 : mp_res g_369 90 3 1 (-1) 99 := mp_res_st h_370 p_147 (by omega) (by omega)
                have p_373 : mp_keep g_369 f5 72 := mp_keep_st h_370 p_148 (by omega)
                have e_374 : (g_369 (72 + 3 * (f2 22).toInt.toNat + 1)).toInt = (g_136 (72 + 3 * (f2 22).toInt.toNat + 1)).toInt := mp_st_ne h_370 (by omega)
                let w18_ : va_W := [(mp_arI E a2 0 5 f1), (mp_arI E a4 0 180 f3), (mp_arI E a5 3 3000 f4), (mp_arI E a6 0 90 g_369), (mp_arI E a7 0 300 f6), (mp_arI E a3 0 25 f2), (mp_ob10 a0 y0 a8 a9 a10 a11 a1 y1 r_323 r_324 r_325 r_326 r_327 r_328 r_329 y9 y10 a2 a3 a4 a5 a6 a7 a12 a13 y11 a14 a15 a16 a17 y12 y13 y14 a18 a19 y15 y16 a20 a21 a22 y17 y18 y19 y20 a23 a24 a25 y21), (mp_arI E a1 1 1600 f0)]
                show mp_W E X 4 159 [(3, .int 0), (2, .int i_135), (1, .int z_18), (0, .ref a0)] [] w18_ 0 0
                refine mp_run mp_k_cX10_personLine_ok hF mp_tabX10_ok [mp_c (.iconst 1) 1, mp_i (.istore_n 2)] (by decide +kernel) ?_
                show mp_W E X 4 161 [(2, .int 1), (3, .int 0), (1, .int z_18), (0, .ref a0)] [] w18_ 0 0
                exact mp_sub [0, 1, 2, 3] rfl [0, 1, 2, 3, 4, 5, 6, 7] rfl rfl (jp_314 g_369 r_323 r_324 r_325 r_326 r_327 r_328 r_329 p_371 p_372 p_373 l_331 u_332 l_333 u_334 l_335 u_336 (by first | omega | decide) (by first | omega | decide) (mp_go_p1 go_367 (Or.inr (mp_om_ten h_370 (by first | omega | (dsimp only <;> omega) | decide) (by first | omega | (dsimp only <;> omega) | decide) (by first | omega | (dsimp only <;> omega) | decide))) (Or.inr (congrArg (fun v : Int => decide (v ≠ -1)) (by first | omega | (dsimp only <;> omega) | decide))) (Or.inr (decide_eq_true (by first | omega | decide)).symm)) x_343 (by first | omega | decide))
              · have c_246 : i_237.toInt ≠ 0 := c_246
                let w19_ : va_W := [(mp_arI E a2 0 5 f1), (mp_arI E a4 0 180 f3), (mp_arI E a5 3 3000 f4), (mp_arI E a6 0 90 g_136), (mp_arI E a7 0 300 f6), (mp_arI E a3 0 25 f2), (mp_ob10 a0 y0 a8 a9 a10 a11 a1 y1 i_137 i_138 i_139 i_140 i_141 i_237 i_238 y9 y10 a2 a3 a4 a5 a6 a7 a12 a13 y11 a14 a15 a16 a17 y12 y13 y14 a18 a19 y15 y16 a20 a21 a22 y17 y18 y19 y20 a23 a24 a25 y21), (mp_arI E a1 1 1600 f0)]
                show mp_W E X 4 120 [(3, .int 0), (2, .int i_135), (1, .int z_18), (0, .ref a0)] [] w19_ 0 0
                exact mp_vret hF hQ rfl (Nat.le_of_ble_eq_true rfl) (Nat.le_of_ble_eq_true rfl) [6, 7, 0, 5, 1, 2, 3, 4] (w' := [(mp_ob10 a0 y0 a8 a9 a10 a11 a1 y1 i_137 i_138 i_139 i_140 i_141 i_237 i_238 y9 y10 a2 a3 a4 a5 a6 a7 a12 a13 y11 a14 a15 a16 a17 y12 y13 y14 a18 a19 y15 y16 a20 a21 a22 y17 y18 y19 y20 a23 a24 a25 y21), (mp_arI E a1 1 1600 f0), (mp_arI E a2 0 5 f1), (mp_arI E a3 0 25 f2), (mp_arI E a4 0 180 f3), (mp_arI E a5 3 3000 f4), (mp_arI E a6 0 90 g_136), (mp_arI E a7 0 300 f6)]) rfl rfl ⟨i_137, i_138, i_139, i_140, i_141, i_237, i_238, f2, g_136, rfl, l_149, u_150, l_151, u_152, l_153, u_154, p0, p1, p2, p3, p4, mp_keep_rfl, p_146, p_147, p_148, (by first | omega | decide), (by first | omega | decide), (by first | omega | decide), (by first | omega | decide), (mp_go_any x_241 (by omega)), x_243, rfl⟩ (by first | exact mp_fd_ok mp_k_cX10_personLine_ok (by decide +kernel) | decide +kernel)
            refine mp_run mp_k_cX10_personLine_ok hF mp_tabX10_ok [mp_i (.iload_n 3), mp_h (.ifCond .ne 13) [85]] (by decide +kernel) ?_
            refine And.intro (fun c_375 => absurd c_375 (by decide)) (fun _ => ?_)
            show mp_W E X 4 75 [(3, .int 0), (2, .int i_135), (1, .int z_18), (0, .ref a0)] [] w13_ 0 0
            refine mp_run mp_k_cX10_personLine_ok hF mp_tabX10_ok [mp_i (.aload_n 0), mp_cl (.ldc2_w 195) 10737568] (by decide +kernel) ?_
            show mp_W E X 4 79 [(3, .int 0), (2, .int i_135), (1, .int z_18), (0, .ref a0)] [.long 10737568, .ref a0] w13_ 0 0
            refine mp_callV hF (As := [.long 10737568]) (rest := []) (wr := [(mp_arI E a2 0 5 f1), (mp_arI E a4 0 180 f3), (mp_arI E a5 3 3000 f4), (mp_arI E a6 0 90 g_136), (mp_arI E a7 0 300 f6), (mp_arI E a3 0 25 f2)]) (bX10_is_15 E a0 a1 a8 a9 a10 a11 a2 a3 a4 a5 a6 a7 a12 a13 a14 a15 a16 a17 a18 a19 a20 a21 a22 a23 a24 a25 f0 y0 y1 i_137 i_138 i_139 i_140 i_141 i_142 i_143 y9 y10 y11 y12 y13 y14 y15 y16 y17 y18 y19 y20 y21 10737568 l_y1 u_y1 l_149 u_150 l_151 u_152 l_153 u_154 l_y11 u_y11 l_y12 u_y12 l_y13 u_y13 (by assumption)) mp_lkX10_150 6 rfl [6, 7] [0, 1, 2, 3, 4, 5] rfl rfl rfl rfl rfl ⟨(Nat.le_of_ble_eq_true rfl), (Nat.le_of_ble_eq_true rfl), (Nat.le_of_ble_eq_true rfl), (Nat.le_of_ble_eq_true rfl)⟩ (Nat.le_of_ble_eq_true rfl) (by first | exact mp_fd_ok mp_k_cX10_personLine_ok (by decide +kernel) | decide +kernel) (fun v_376 w_377 h_378 => ?_)
            refine h_378.elim (fun q_384 => ?_) (fun q_385 => ?_)
            · skip
              refine q_384.elim fun e_386 q_387 => q_387.elim fun x_379 e_388 => ?_
              clear h_378 q_384 q_387
              subst e_386
              subst e_388
              rw [show (10737568 : Int64).toInt = 10737568 from by decide] at x_379
              show mp_W E X 4 82 [(3, .int 0), (2, .int i_135), (1, .int z_18), (0, .ref a0)] [.int 0] w13_ 0 0
              refine mp_run mp_k_cX10_personLine_ok hF mp_tabX10_ok [mp_h (.ifCond .eq 26) [108]] (by decide +kernel) ?_
              refine And.intro (fun _ => ?_) (fun c_389 => absurd c_389 (by decide))
              show mp_W E X 4 108 [(3, .int 0), (2, .int i_135), (1, .int z_18), (0, .ref a0)] [] w13_ 0 0
              refine mp_run mp_k_cX10_personLine_ok hF mp_tabX10_ok [mp_i (.aload_n 0), mp_c (.iconst 1) 1] (by decide +kernel) ?_
              show mp_W E X 4 110 [(3, .int 0), (2, .int i_135), (1, .int z_18), (0, .ref a0)] [.int 1, .ref a0] w13_ 0 0
              refine mp_callV hF (As := [.int 1]) (rest := []) (wr := [(mp_arI E a2 0 5 f1), (mp_arI E a4 0 180 f3), (mp_arI E a5 3 3000 f4), (mp_arI E a6 0 90 g_136), (mp_arI E a7 0 300 f6), (mp_arI E a3 0 25 f2), (mp_arI E a1 1 1600 f0)]) (bX10_fails_20 E a0 a8 a9 a10 a11 a1 a2 a3 a4 a5 a6 a7 a12 a13 a14 a15 a16 a17 a18 a19 a20 a21 a22 a23 a24 a25 y0 y1 i_137 i_138 i_139 i_140 i_141 i_142 i_143 y9 y10 y11 y12 y13 y14 y15 y16 y17 y18 y19 y20 y21 l_y1 u_y1 l_149 u_150 l_151 u_152 l_153 u_154 l_y11 u_y11 l_y12 u_y12 l_y13 u_y13) mp_lkX10_160 6 rfl [6] [0, 1, 2, 3, 4, 5, 7] rfl rfl rfl rfl rfl ⟨(Nat.le_of_ble_eq_true rfl), (Nat.le_of_ble_eq_true rfl), (Nat.le_of_ble_eq_true rfl), (Nat.le_of_ble_eq_true rfl)⟩ (Nat.le_of_ble_eq_true rfl) (by first | exact mp_fd_ok mp_k_cX10_personLine_ok (by decide +kernel) | decide +kernel) (fun v_390 w_391 h_392 => ?_)
              refine h_392.elim fun r_393 q_397 => q_397.elim fun r_394 q_398 => q_398.elim fun e_399 q_400 => q_400.elim fun x_395 q_401 => q_401.elim fun x_396 e_402 => ?_
              clear h_392 q_397 q_398 q_400 q_401
              subst e_399
              subst e_402
              have go_403 : mp_GO (mp_aft f0 (y1.toInt).toNat (mp_gPer2 mp_gop f0 (y1.toInt).toNat (y4.toInt).toNat ((f2 20).toInt, (f2 21).toInt, (f2 22).toInt, (f2 23).toInt, (f1 4).toInt) (mp_dM f3 f4 f5 f6))) r_393.toInt r_394.toInt (mp_aft f0 (y1.toInt).toNat (mp_gPm mp_gop f0 (y1.toInt).toNat ((f2 20).toInt, (f2 21).toInt, (f2 22).toInt + 1, (f2 23).toInt, (f1 4).toInt) (f2 22).toInt (mp_rm (decide ((g_136 (72 + 3 * (f2 22).toInt.toNat + 1)).toInt ≠ -1)) (decide (i_135.toInt ≠ 0))) (decide ((g_136 (72 + 3 * (f2 22).toInt.toNat + 1)).toInt ≠ -1)) (decide (i_135.toInt ≠ 0)) (i_139.toInt).toNat (mp_dM f3 f4 g_136 f6))) := mp_go_m x_157 (by first | omega | (dsimp only <;> omega) | decide) (by first | omega | (dsimp only <;> omega) | decide) (fun q => by have q1 := of_decide_eq_false q.1; have q2 := q.2; omega) (fun q => by have q1 := of_decide_eq_false q.1; have q2 := q.2; omega) (by first | omega | (dsimp only <;> omega) | decide) (by first | omega | (dsimp only <;> omega) | decide) (by first | omega | (dsimp only <;> omega) | decide)
              let w20_ : va_W := [(mp_arI E a2 0 5 f1), (mp_arI E a4 0 180 f3), (mp_arI E a5 3 3000 f4), (mp_arI E a6 0 90 g_136), (mp_arI E a7 0 300 f6), (mp_arI E a3 0 25 f2), (mp_arI E a1 1 1600 f0), (mp_ob10 a0 y0 a8 a9 a10 a11 a1 y1 i_137 i_138 i_139 i_140 i_141 r_393 r_394 y9 y10 a2 a3 a4 a5 a6 a7 a12 a13 y11 a14 a15 a16 a17 y12 y13 y14 a18 a19 y15 y16 a20 a21 a22 y17 y18 y19 y20 a23 a24 a25 y21)]
              show mp_W E X 4 113 [(3, .int 0), (2, .int i_135), (1, .int z_18), (0, .ref a0)] [] w20_ 0 0
              exact mp_sub [0, 1, 2, 3] rfl [0, 1, 2, 3, 4, 5, 7, 6] rfl rfl (jp_244 r_393 r_394 (by first | omega | decide) (by first | omega | decide) go_403 (by omega) x_158)
            · skip
              refine q_385.elim fun e_404 q_405 => q_405.elim fun c_380 q_406 => q_406.elim fun c_381 q_407 => q_407.elim fun c_382 q_408 => q_408.elim fun x_383 e_409 => ?_
              clear h_378 q_385 q_405 q_406 q_407 q_408
              subst e_404
              subst e_409
              have c_380 : i_142.toInt = 0 := c_380
              have c_381 : i_138.toInt = 1 := c_381
              have c_382 : i_141.toInt = 10737568 := c_382
              rw [show (10737568 : Int64).toInt = 10737568 from by decide] at x_383
              show mp_W E X 4 82 [(3, .int 0), (2, .int i_135), (1, .int z_18), (0, .ref a0)] [.int 1] w13_ 0 0
              refine mp_run mp_k_cX10_personLine_ok hF mp_tabX10_ok [mp_h (.ifCond .eq 26) [108]] (by decide +kernel) ?_
              refine And.intro (fun c_410 => absurd c_410 (by decide)) (fun _ => ?_)
              show mp_W E X 4 85 [(3, .int 0), (2, .int i_135), (1, .int z_18), (0, .ref a0)] [] w13_ 0 0
              refine mp_run mp_k_cX10_personLine_ok hF mp_tabX10_ok [mp_i (.iload_n 3), mp_h (.ifCond .eq 18) [104]] (by decide +kernel) ?_
              refine And.intro (fun _ => ?_) (fun c_411 => absurd c_411 (by decide))
              show mp_W E X 4 104 [(3, .int 0), (2, .int i_135), (1, .int z_18), (0, .ref a0)] [] w13_ 0 0
              refine mp_run mp_k_cX10_personLine_ok hF mp_tabX10_ok [mp_i (.iload_n 2), mp_h (.ifCond .eq 8) [113]] (by decide +kernel) ?_
              refine And.intro (fun c_412 => ?_) (fun c_412 => ?_)
              · have c_412 : i_135.toInt = 0 := (congrArg Int32.toInt c_412)
                show mp_W E X 4 113 [(3, .int 0), (2, .int i_135), (1, .int z_18), (0, .ref a0)] [] w13_ 0 0
                exact mp_sub [0, 1, 2, 3] rfl [0, 1, 2, 3, 4, 5, 6, 7] rfl rfl (jp_244 i_142 i_143 (by first | omega | decide) (by first | omega | decide) x_157 (by omega) x_158)
              · have c_412 : i_135.toInt ≠ 0 := c_412
                show mp_W E X 4 108 [(3, .int 0), (2, .int i_135), (1, .int z_18), (0, .ref a0)] [] w13_ 0 0
                refine mp_run mp_k_cX10_personLine_ok hF mp_tabX10_ok [mp_i (.aload_n 0), mp_c (.iconst 1) 1] (by decide +kernel) ?_
                show mp_W E X 4 110 [(3, .int 0), (2, .int i_135), (1, .int z_18), (0, .ref a0)] [.int 1, .ref a0] w13_ 0 0
                refine mp_callV hF (As := [.int 1]) (rest := []) (wr := [(mp_arI E a2 0 5 f1), (mp_arI E a4 0 180 f3), (mp_arI E a5 3 3000 f4), (mp_arI E a6 0 90 g_136), (mp_arI E a7 0 300 f6), (mp_arI E a3 0 25 f2), (mp_arI E a1 1 1600 f0)]) (bX10_fails_20 E a0 a8 a9 a10 a11 a1 a2 a3 a4 a5 a6 a7 a12 a13 a14 a15 a16 a17 a18 a19 a20 a21 a22 a23 a24 a25 y0 y1 i_137 i_138 i_139 i_140 i_141 i_142 i_143 y9 y10 y11 y12 y13 y14 y15 y16 y17 y18 y19 y20 y21 l_y1 u_y1 l_149 u_150 l_151 u_152 l_153 u_154 l_y11 u_y11 l_y12 u_y12 l_y13 u_y13) mp_lkX10_160 6 rfl [6] [0, 1, 2, 3, 4, 5, 7] rfl rfl rfl rfl rfl ⟨(Nat.le_of_ble_eq_true rfl), (Nat.le_of_ble_eq_true rfl), (Nat.le_of_ble_eq_true rfl), (Nat.le_of_ble_eq_true rfl)⟩ (Nat.le_of_ble_eq_true rfl) (by first | exact mp_fd_ok mp_k_cX10_personLine_ok (by decide +kernel) | decide +kernel) (fun v_413 w_414 h_415 => ?_)
                refine h_415.elim fun r_416 q_420 => q_420.elim fun r_417 q_421 => q_421.elim fun e_422 q_423 => q_423.elim fun x_418 q_424 => q_424.elim fun x_419 e_425 => ?_
                clear h_415 q_420 q_421 q_423 q_424
                subst e_422
                subst e_425
                have go_426 : mp_GO (mp_aft f0 (y1.toInt).toNat (mp_gPer2 mp_gop f0 (y1.toInt).toNat (y4.toInt).toNat ((f2 20).toInt, (f2 21).toInt, (f2 22).toInt, (f2 23).toInt, (f1 4).toInt) (mp_dM f3 f4 f5 f6))) r_416.toInt r_417.toInt (mp_aft f0 (y1.toInt).toNat (mp_gPm mp_gop f0 (y1.toInt).toNat ((f2 20).toInt, (f2 21).toInt, (f2 22).toInt + 1, (f2 23).toInt, (f1 4).toInt) (f2 22).toInt (mp_rm (decide ((g_136 (72 + 3 * (f2 22).toInt.toNat + 1)).toInt ≠ -1)) (decide (i_135.toInt ≠ 0))) (decide ((g_136 (72 + 3 * (f2 22).toInt.toNat + 1)).toInt ≠ -1)) (decide (i_135.toInt ≠ 0)) (i_139.toInt).toNat (mp_dM f3 f4 g_136 f6))) := mp_go_m x_157 (by first | omega | (dsimp only <;> omega) | decide) (by first | omega | (dsimp only <;> omega) | decide) (fun q => by have q1 := of_decide_eq_false q.1; have q2 := q.2; omega) (fun q => by have q1 := of_decide_eq_false q.1; have q2 := q.2; omega) (by first | omega | (dsimp only <;> omega) | decide) (by first | omega | (dsimp only <;> omega) | decide) (by first | omega | (dsimp only <;> omega) | decide)
                let w21_ : va_W := [(mp_arI E a2 0 5 f1), (mp_arI E a4 0 180 f3), (mp_arI E a5 3 3000 f4), (mp_arI E a6 0 90 g_136), (mp_arI E a7 0 300 f6), (mp_arI E a3 0 25 f2), (mp_arI E a1 1 1600 f0), (mp_ob10 a0 y0 a8 a9 a10 a11 a1 y1 i_137 i_138 i_139 i_140 i_141 r_416 r_417 y9 y10 a2 a3 a4 a5 a6 a7 a12 a13 y11 a14 a15 a16 a17 y12 y13 y14 a18 a19 y15 y16 a20 a21 a22 y17 y18 y19 y20 a23 a24 a25 y21)]
                show mp_W E X 4 113 [(3, .int 0), (2, .int i_135), (1, .int z_18), (0, .ref a0)] [] w21_ 0 0
                exact mp_sub [0, 1, 2, 3] rfl [0, 1, 2, 3, 4, 5, 7, 6] rfl rfl (jp_244 r_416 r_417 (by first | omega | decide) (by first | omega | decide) go_426 (by omega) x_158)
          · skip
            refine q_233.elim fun e_427 q_428 => q_428.elim fun c_228 q_429 => q_429.elim fun c_229 q_430 => q_430.elim fun c_230 q_431 => q_431.elim fun x_231 e_432 => ?_
            clear h_226 q_233 q_428 q_429 q_430 q_431
            subst e_427
            subst e_432
            have c_228 : i_142.toInt = 0 := c_228
            have c_229 : i_138.toInt = 1 := c_229
            have c_230 : i_141.toInt = 85447 := c_230
            rw [show (85447 : Int64).toInt = 85447 from by decide] at x_231
            let w22_ : va_W := [(mp_arI E a2 0 5 f1), (mp_arI E a4 0 180 f3), (mp_arI E a5 3 3000 f4), (mp_arI E a6 0 90 g_136), (mp_arI E a7 0 300 f6), (mp_arI E a3 0 25 f2), (mp_ob10 a0 y0 a8 a9 a10 a11 a1 y1 i_137 i_138 i_139 i_140 i_141 i_142 i_143 y9 y10 a2 a3 a4 a5 a6 a7 a12 a13 y11 a14 a15 a16 a17 y12 y13 y14 a18 a19 y15 y16 a20 a21 a22 y17 y18 y19 y20 a23 a24 a25 y21), (mp_arI E a1 1 1600 f0)]
            show mp_W E X 4 70 [(2, .int i_135), (1, .int z_18), (0, .ref a0)] [.int 1] w22_ 0 0
            refine mp_run mp_k_cX10_personLine_ok hF mp_tabX10_ok [mp_i (.istore_n 3)] (by decide +kernel) ?_
            show mp_W E X 4 71 [(3, .int 1), (2, .int i_135), (1, .int z_18), (0, .ref a0)] [] w22_ 0 0
            have jp_440 : ∀ (i_433 : Int32) (i_434 : Int32), (i_137.toInt ≤ y1.toInt) → (5 * (y1.toInt - i_137.toInt) + i_138.toInt ≤ (5 * (y1.toInt - y2.toInt) + y3.toInt)) → (mp_GO (mp_aft f0 (y1.toInt).toNat (mp_gPer2 mp_gop f0 (y1.toInt).toNat (y4.toInt).toNat ((f2 20).toInt, (f2 21).toInt, (f2 22).toInt, (f2 23).toInt, (f1 4).toInt) (mp_dM f3 f4 f5 f6))) i_433.toInt i_434.toInt (mp_aft f0 (y1.toInt).toNat (mp_gPm mp_gop f0 (y1.toInt).toNat ((f2 20).toInt, (f2 21).toInt, (f2 22).toInt + 1, (f2 23).toInt, (f1 4).toInt) (f2 22).toInt (mp_rm (decide ((g_136 (72 + 3 * (f2 22).toInt.toNat + 1)).toInt ≠ -1)) (decide (i_135.toInt ≠ 0))) (decide ((g_136 (72 + 3 * (f2 22).toInt.toNat + 1)).toInt ≠ -1)) (decide (i_135.toInt ≠ 0)) (i_139.toInt).toNat (mp_dM f3 f4 g_136 f6)))) → (i_433.toInt ≠ 0 ∨ (mp_TK f0 (y1.toInt).toNat (i_139.toInt).toNat = 1 ∧ ((1 = 1 ∧ mp_WD f0 (y1.toInt).toNat (i_139.toInt).toNat = 85447 ∧ (g_136 (72 + 3 * (f2 22).toInt.toNat + 1)).toInt = -1) ∨ (1 = 0 ∧ mp_WD f0 (y1.toInt).toNat (i_139.toInt).toNat = 10737568 ∧ i_135.toInt = 0)))) → (mp_MT f0 y1.toInt i_138.toInt i_139.toInt i_137.toInt i_140.toInt i_141.toInt) → mp_W E X 4 113 [(3, .int 1), (2, .int i_135), (1, .int z_18), (0, .ref a0)] [] [(mp_arI E a2 0 5 f1), (mp_arI E a4 0 180 f3), (mp_arI E a5 3 3000 f4), (mp_arI E a6 0 90 g_136), (mp_arI E a7 0 300 f6), (mp_arI E a3 0 25 f2), (mp_ob10 a0 y0 a8 a9 a10 a11 a1 y1 i_137 i_138 i_139 i_140 i_141 i_433 i_434 y9 y10 a2 a3 a4 a5 a6 a7 a12 a13 y11 a14 a15 a16 a17 y12 y13 y14 a18 a19 y15 y16 a20 a21 a22 y17 y18 y19 y20 a23 a24 a25 y21), (mp_arI E a1 1 1600 f0)] 0 0 := by
              intro i_433 i_434 x_435 x_436 x_437 x_438 x_439
              have k_441 := x_439.2.1
              refine mp_run mp_k_cX10_personLine_ok hF mp_tabX10_ok [mp_i (.aload_n 0), mp_h (.getfield 144) [12, 6], mp_h (.ifCond .eq 4) [121]] (by decide +kernel) ?_
              refine And.intro rfl (And.intro rfl ?_)
              refine And.intro (fun c_442 => ?_) (fun c_442 => ?_)
              · have c_442 : i_433.toInt = 0 := (congrArg Int32.toInt c_442)
                let w23_ : va_W := [(mp_arI E a2 0 5 f1), (mp_arI E a4 0 180 f3), (mp_arI E a5 3 3000 f4), (mp_arI E a6 0 90 g_136), (mp_arI E a7 0 300 f6), (mp_arI E a3 0 25 f2), (mp_ob10 a0 y0 a8 a9 a10 a11 a1 y1 i_137 i_138 i_139 i_140 i_141 i_433 i_434 y9 y10 a2 a3 a4 a5 a6 a7 a12 a13 y11 a14 a15 a16 a17 y12 y13 y14 a18 a19 y15 y16 a20 a21 a22 y17 y18 y19 y20 a23 a24 a25 y21), (mp_arI E a1 1 1600 f0)]
                show mp_W E X 4 121 [(3, .int 1), (2, .int i_135), (1, .int z_18), (0, .ref a0)] [] w23_ 0 0
                refine mp_run mp_k_cX10_personLine_ok hF mp_tabX10_ok [mp_i (.aload_n 0)] (by decide +kernel) ?_
                show mp_W E X 4 122 [(3, .int 1), (2, .int i_135), (1, .int z_18), (0, .ref a0)] [.ref a0] w23_ 0 0
                refine mp_callV hF (As := []) (rest := []) (wr := [(mp_arI E a2 0 5 f1), (mp_arI E a4 0 180 f3), (mp_arI E a5 3 3000 f4), (mp_arI E a6 0 90 g_136), (mp_arI E a7 0 300 f6), (mp_arI E a3 0 25 f2)]) (bX10_next_12 E a0 a1 a8 a9 a10 a11 a2 a3 a4 a5 a6 a7 a12 a13 a14 a15 a16 a17 a18 a19 a20 a21 a22 a23 a24 a25 f0 y0 y1 i_137 i_138 i_139 i_140 i_141 i_433 i_434 y9 y10 y11 y12 y13 y14 y15 y16 y17 y18 y19 y20 y21 l_y1 u_y1 l_149 u_150 l_151 u_152 l_153 u_154 l_y11 u_y11 l_y12 u_y12 l_y13 u_y13 (by first | omega | (show i_137.toInt ≤ y1.toInt; omega))) mp_lkX10_154 6 rfl [6, 7] [0, 1, 2, 3, 4, 5] rfl rfl rfl rfl rfl ⟨(Nat.le_of_ble_eq_true rfl), (Nat.le_of_ble_eq_true rfl), (Nat.le_of_ble_eq_true rfl), (Nat.le_of_ble_eq_true rfl)⟩ (Nat.le_of_ble_eq_true rfl) (by first | exact mp_fd_ok mp_k_cX10_personLine_ok (by decide +kernel) | decide +kernel) (fun v_443 w_444 h_445 => ?_)
                refine h_445.elim fun r_446 q_465 => q_465.elim fun r_447 q_466 => q_466.elim fun r_448 q_467 => q_467.elim fun r_449 q_468 => q_468.elim fun r_450 q_469 => q_469.elim fun e_470 q_471 => q_471.elim fun l_451 q_472 => q_472.elim fun u_452 q_473 => q_473.elim fun l_453 q_474 => q_474.elim fun u_454 q_475 => q_475.elim fun l_455 q_476 => q_476.elim fun u_456 q_477 => q_477.elim fun l_457 q_478 => q_478.elim fun u_458 q_479 => q_479.elim fun l_459 q_480 => q_480.elim fun u_460 q_481 => q_481.elim fun x_461 q_482 => q_482.elim fun x_462 q_483 => q_483.elim fun x_463 q_484 => q_484.elim fun x_464 e_485 => ?_
                clear h_445 q_465 q_466 q_467 q_468 q_469 q_471 q_472 q_473 q_474 q_475 q_476 q_477 q_478 q_479 q_480 q_481 q_482 q_483 q_484
                subst e_470
                subst e_485
                have nx_486 : r_448.toInt = ((mp_NX f0 (y1.toInt).toNat (i_139.toInt).toNat : Nat) : Int) := (by have k9 := x_463; unfold mp_NX; rw [← Int.toNat_natCast (mp_TE _ _ _), ← x_439.2.2.1]; exact k9)
                have k_487 := x_464.2.1
                let w24_ : va_W := [(mp_arI E a2 0 5 f1), (mp_arI E a4 0 180 f3), (mp_arI E a5 3 3000 f4), (mp_arI E a6 0 90 g_136), (mp_arI E a7 0 300 f6), (mp_arI E a3 0 25 f2), (mp_ob10 a0 y0 a8 a9 a10 a11 a1 y1 r_446 r_447 r_448 r_449 r_450 i_433 i_434 y9 y10 a2 a3 a4 a5 a6 a7 a12 a13 y11 a14 a15 a16 a17 y12 y13 y14 a18 a19 y15 y16 a20 a21 a22 y17 y18 y19 y20 a23 a24 a25 y21), (mp_arI E a1 1 1600 f0)]
                show mp_W E X 4 125 [(3, .int 1), (2, .int i_135), (1, .int z_18), (0, .ref a0)] [] w24_ 0 0
                have jp_510 : ∀ (g_488 : Nat → Int32) (i_489 : Int32) (i_490 : Int32) (i_491 : Int32) (i_492 : Int32) (i_493 : Int64) (i_494 : Int32) (i_495 : Int32), mp_res g_488 90 3 0 0 5 → mp_res g_488 90 3 1 (-1) 99 → mp_keep g_488 f5 72 → 0 ≤ i_489.toInt → i_489.toInt ≤ 1600 → 0 ≤ i_490.toInt → i_490.toInt ≤ 4 → 0 ≤ i_491.toInt → i_491.toInt ≤ 1600 → (i_489.toInt ≤ y1.toInt) → (5 * (y1.toInt - i_489.toInt) + i_490.toInt ≤ (5 * (y1.toInt - y2.toInt) + y3.toInt)) → (mp_GO (mp_aft f0 (y1.toInt).toNat (mp_gPer2 mp_gop f0 (y1.toInt).toNat (y4.toInt).toNat ((f2 20).toInt, (f2 21).toInt, (f2 22).toInt, (f2 23).toInt, (f1 4).toInt) (mp_dM f3 f4 f5 f6))) i_494.toInt i_495.toInt (mp_aft f0 (y1.toInt).toNat (mp_gPm mp_gop f0 (y1.toInt).toNat ((f2 20).toInt, (f2 21).toInt, (f2 22).toInt + 1, (f2 23).toInt, (f1 4).toInt) (f2 22).toInt (mp_rm (decide ((g_488 (72 + 3 * (f2 22).toInt.toNat + 1)).toInt ≠ -1)) (decide (i_135.toInt ≠ 0))) (decide ((g_488 (72 + 3 * (f2 22).toInt.toNat + 1)).toInt ≠ -1)) (decide (i_135.toInt ≠ 0)) (i_491.toInt).toNat (mp_dM f3 f4 g_488 f6)))) → (mp_MT f0 y1.toInt i_490.toInt i_491.toInt i_489.toInt i_492.toInt i_493.toInt) → (5 * (y1.toInt - i_489.toInt) + i_490.toInt + 1 ≤ 5 * (y1.toInt - i_137.toInt) + i_138.toInt) → mp_W E X 4 161 [(3, .int 1), (2, .int i_135), (1, .int z_18), (0, .ref a0)] [] [(mp_arI E a2 0 5 f1), (mp_arI E a4 0 180 f3), (mp_arI E a5 3 3000 f4), (mp_arI E a6 0 90 g_488), (mp_arI E a7 0 300 f6), (mp_arI E a3 0 25 f2), (mp_ob10 a0 y0 a8 a9 a10 a11 a1 y1 i_489 i_490 i_491 i_492 i_493 i_494 i_495 y9 y10 a2 a3 a4 a5 a6 a7 a12 a13 y11 a14 a15 a16 a17 y12 y13 y14 a18 a19 y15 y16 a20 a21 a22 y17 y18 y19 y20 a23 a24 a25 y21), (mp_arI E a1 1 1600 f0)] 0 0 := by
                  intro g_488 i_489 i_490 i_491 i_492 i_493 i_494 i_495 p_496 p_497 p_498 l_499 u_500 l_501 u_502 l_503 u_504 x_505 x_506 x_507 x_508 x_509
                  have k_511 := x_508.2.1
                  refine mp_run mp_k_cX10_personLine_ok hF mp_tabX10_ok [mp_h (.goto (-113)) [48]] (by decide +kernel) ?_
                  let w25_ : va_W := [(mp_arI E a2 0 5 f1), (mp_arI E a4 0 180 f3), (mp_arI E a5 3 3000 f4), (mp_arI E a6 0 90 g_488), (mp_arI E a7 0 300 f6), (mp_arI E a3 0 25 f2), (mp_ob10 a0 y0 a8 a9 a10 a11 a1 y1 i_489 i_490 i_491 i_492 i_493 i_494 i_495 y9 y10 a2 a3 a4 a5 a6 a7 a12 a13 y11 a14 a15 a16 a17 y12 y13 y14 a18 a19 y15 y16 a20 a21 a22 y17 y18 y19 y20 a23 a24 a25 y21), (mp_arI E a1 1 1600 f0)]
                  show mp_W E X 4 48 [(3, .int 1), (2, .int i_135), (1, .int z_18), (0, .ref a0)] [] w25_ 0 0
                  exact mp_sub [1, 2, 3] rfl [0, 1, 2, 3, 4, 6, 7, 5] rfl rfl (ih_161 (d_160 - 1) (by omega) i_135 g_488 i_489 i_490 i_491 i_492 i_493 i_494 i_495 l_144 u_145 p_496 p_497 p_498 l_499 u_500 l_501 u_502 l_503 u_504 (by first | omega | decide) (by first | omega | decide) x_507 x_508 (by omega))
                refine mp_run mp_k_cX10_personLine_ok hF mp_tabX10_ok [mp_i (.iload_n 3), mp_h (.ifCond .eq 18) [144]] (by decide +kernel) ?_
                refine And.intro (fun c_512 => absurd c_512 (by decide)) (fun _ => ?_)
                show mp_W E X 4 129 [(3, .int 1), (2, .int i_135), (1, .int z_18), (0, .ref a0)] [] w24_ 0 0
                refine mp_run mp_k_cX10_personLine_ok hF mp_tabX10_ok [mp_i (.aload_n 0), mp_h (.getfield 44) [20, 6], mp_i (.iload_n 1), mp_c (.iconst 1) 1, mp_i .iadd, mp_i (.aload_n 0)] (by decide +kernel) ?_
                refine And.intro rfl (And.intro rfl ?_)
                intro z_513 h_514
                have e_515 : z_513.toInt = z_18.toInt + 1 := mp_add (a := z_18.toInt) (b := 1) h_514 rfl (by decide) (by omega) (by omega)
                show mp_W E X 4 137 [(3, .int 1), (2, .int i_135), (1, .int z_18), (0, .ref a0)] [.ref a0, .int z_513, .ref a6] w24_ 0 0
                refine mp_callV hF (As := []) (rest := [.int z_513, .ref a6]) (wr := [(mp_arI E a2 0 5 f1), (mp_arI E a4 0 180 f3), (mp_arI E a5 3 3000 f4), (mp_arI E a6 0 90 g_136), (mp_arI E a7 0 300 f6), (mp_arI E a3 0 25 f2)]) (bX10_moonHere_28 E a0 a1 a8 a9 a10 a11 a2 a3 a4 a5 a6 a7 a12 a13 a14 a15 a16 a17 a18 a19 a20 a21 a22 a23 a24 a25 f0 y0 y1 r_446 r_447 r_448 r_449 r_450 i_433 i_434 y9 y10 y11 y12 y13 y14 y15 y16 y17 y18 y19 y20 y21 l_y1 u_y1 l_451 u_452 l_453 u_454 l_455 u_456 l_y11 u_y11 l_y12 u_y12 l_y13 u_y13 (by omega) (by assumption)) mp_lkX10_197 6 rfl [6, 7] [0, 1, 2, 3, 4, 5] rfl rfl rfl rfl rfl ⟨(Nat.le_of_ble_eq_true rfl), (Nat.le_of_ble_eq_true rfl), (Nat.le_of_ble_eq_true rfl), (Nat.le_of_ble_eq_true rfl)⟩ (Nat.le_of_ble_eq_true rfl) (by first | exact mp_fd_ok mp_k_cX10_personLine_ok (by decide +kernel) | decide +kernel) (fun v_516 w_517 h_518 => ?_)
                refine h_518.elim fun r_519 q_540 => q_540.elim fun r_520 q_541 => q_541.elim fun r_521 q_542 => q_542.elim fun r_522 q_543 => q_543.elim fun r_523 q_544 => q_544.elim fun r_524 q_545 => q_545.elim fun r_525 q_546 => q_546.elim fun r_526 q_547 => q_547.elim fun e_548 q_549 => q_549.elim fun l_527 q_550 => q_550.elim fun u_528 q_551 => q_551.elim fun l_529 q_552 => q_552.elim fun u_530 q_553 => q_553.elim fun l_531 q_554 => q_554.elim fun u_532 q_555 => q_555.elim fun l_533 q_556 => q_556.elim fun u_534 q_557 => q_557.elim fun x_535 q_558 => q_558.elim fun x_536 q_559 => q_559.elim fun x_537 q_560 => q_560.elim fun x_538 q_561 => q_561.elim fun x_539 e_562 => ?_
                clear h_518 q_540 q_541 q_542 q_543 q_544 q_545 q_546 q_547 q_549 q_550 q_551 q_552 q_553 q_554 q_555 q_556 q_557 q_558 q_559 q_560 q_561
                subst e_548
                subst e_562
                have go_563 := mp_go_n x_538 (by first | rfl | omega) (by first | rfl | omega) l_455 (Or.inr (Or.inr (Or.inr (by decide)))) (mp_go_d x_437 (by first | omega | (dsimp only <;> omega) | decide) (by first | omega | (dsimp only <;> omega) | decide) (decide_eq_false (by first | omega | (dsimp only <;> omega) | decide)) nx_486)
                have k_564 := x_539.2.1
                let w26_ : va_W := [(mp_arI E a2 0 5 f1), (mp_arI E a4 0 180 f3), (mp_arI E a5 3 3000 f4), (mp_arI E a6 0 90 g_136), (mp_arI E a7 0 300 f6), (mp_arI E a3 0 25 f2), (mp_ob10 a0 y0 a8 a9 a10 a11 a1 y1 r_519 r_520 r_521 r_522 r_523 r_524 r_525 y9 y10 a2 a3 a4 a5 a6 a7 a12 a13 y11 a14 a15 a16 a17 y12 y13 y14 a18 a19 y15 y16 a20 a21 a22 y17 y18 y19 y20 a23 a24 a25 y21), (mp_arI E a1 1 1600 f0)]
                show mp_W E X 4 140 [(3, .int 1), (2, .int i_135), (1, .int z_18), (0, .ref a0)] [.int r_526, .int z_513, .ref a6] w26_ 0 0
                refine mp_run mp_k_cX10_personLine_ok hF mp_tabX10_ok [mp_h .iastore [3]] (by decide +kernel) ?_
                refine And.intro rfl (And.intro rfl (And.intro (vp_in_iff.mpr (by omega)) ?_))
                intro g_565 h_566
                have p_567 : mp_res g_565 90 3 0 0 5 := mp_res_st h_566 p_146 (by omega) (by omega)
                have p_568 : mp_res g_565 90 3 1 (-1) 99 := mp_res_st h_566 p_147 (by omega) (by omega)
                have p_569 : mp_keep g_565 f5 72 := mp_keep_st h_566 p_148 (by omega)
                have e_570 : (g_565 (72 + 3 * (f2 22).toInt.toNat + 1)).toInt = r_526.toInt := mp_st_eq h_566 (by omega)
                let w27_ : va_W := [(mp_arI E a2 0 5 f1), (mp_arI E a4 0 180 f3), (mp_arI E a5 3 3000 f4), (mp_arI E a6 0 90 g_565), (mp_arI E a7 0 300 f6), (mp_arI E a3 0 25 f2), (mp_ob10 a0 y0 a8 a9 a10 a11 a1 y1 r_519 r_520 r_521 r_522 r_523 r_524 r_525 y9 y10 a2 a3 a4 a5 a6 a7 a12 a13 y11 a14 a15 a16 a17 y12 y13 y14 a18 a19 y15 y16 a20 a21 a22 y17 y18 y19 y20 a23 a24 a25 y21), (mp_arI E a1 1 1600 f0)]
                show mp_W E X 4 141 [(3, .int 1), (2, .int i_135), (1, .int z_18), (0, .ref a0)] [] w27_ 0 0
                refine mp_run mp_k_cX10_personLine_ok hF mp_tabX10_ok [mp_h (.goto 20) [161]] (by decide +kernel) ?_
                show mp_W E X 4 161 [(3, .int 1), (2, .int i_135), (1, .int z_18), (0, .ref a0)] [] w27_ 0 0
                exact mp_sub [0, 1, 2, 3] rfl [0, 1, 2, 3, 4, 5, 6, 7] rfl rfl (jp_510 g_565 r_519 r_520 r_521 r_522 r_523 r_524 r_525 p_567 p_568 p_569 l_527 u_528 l_529 u_530 l_531 u_532 (by first | omega | decide) (by first | omega | decide) (mp_go_p1 go_563 (Or.inr (mp_om_die h_566 (by first | omega | (dsimp only <;> omega) | decide) (by first | omega | (dsimp only <;> omega) | decide) (by first | omega | (dsimp only <;> omega) | decide))) (Or.inr (decide_eq_true (by first | omega | (dsimp only <;> omega) | decide)).symm) (Or.inr rfl)) x_539 (by first | omega | decide))
              · have c_442 : i_433.toInt ≠ 0 := c_442
                let w28_ : va_W := [(mp_arI E a2 0 5 f1), (mp_arI E a4 0 180 f3), (mp_arI E a5 3 3000 f4), (mp_arI E a6 0 90 g_136), (mp_arI E a7 0 300 f6), (mp_arI E a3 0 25 f2), (mp_ob10 a0 y0 a8 a9 a10 a11 a1 y1 i_137 i_138 i_139 i_140 i_141 i_433 i_434 y9 y10 a2 a3 a4 a5 a6 a7 a12 a13 y11 a14 a15 a16 a17 y12 y13 y14 a18 a19 y15 y16 a20 a21 a22 y17 y18 y19 y20 a23 a24 a25 y21), (mp_arI E a1 1 1600 f0)]
                show mp_W E X 4 120 [(3, .int 1), (2, .int i_135), (1, .int z_18), (0, .ref a0)] [] w28_ 0 0
                exact mp_vret hF hQ rfl (Nat.le_of_ble_eq_true rfl) (Nat.le_of_ble_eq_true rfl) [6, 7, 0, 5, 1, 2, 3, 4] (w' := [(mp_ob10 a0 y0 a8 a9 a10 a11 a1 y1 i_137 i_138 i_139 i_140 i_141 i_433 i_434 y9 y10 a2 a3 a4 a5 a6 a7 a12 a13 y11 a14 a15 a16 a17 y12 y13 y14 a18 a19 y15 y16 a20 a21 a22 y17 y18 y19 y20 a23 a24 a25 y21), (mp_arI E a1 1 1600 f0), (mp_arI E a2 0 5 f1), (mp_arI E a3 0 25 f2), (mp_arI E a4 0 180 f3), (mp_arI E a5 3 3000 f4), (mp_arI E a6 0 90 g_136), (mp_arI E a7 0 300 f6)]) rfl rfl ⟨i_137, i_138, i_139, i_140, i_141, i_433, i_434, f2, g_136, rfl, l_149, u_150, l_151, u_152, l_153, u_154, p0, p1, p2, p3, p4, mp_keep_rfl, p_146, p_147, p_148, (by first | omega | decide), (by first | omega | decide), (by first | omega | decide), (by first | omega | decide), (mp_go_any x_437 (by omega)), x_439, rfl⟩ (by first | exact mp_fd_ok mp_k_cX10_personLine_ok (by decide +kernel) | decide +kernel)
            refine mp_run mp_k_cX10_personLine_ok hF mp_tabX10_ok [mp_i (.iload_n 3), mp_h (.ifCond .ne 13) [85]] (by decide +kernel) ?_
            refine And.intro (fun _ => ?_) (fun c_571 => absurd c_571 (by decide))
            show mp_W E X 4 85 [(3, .int 1), (2, .int i_135), (1, .int z_18), (0, .ref a0)] [] w22_ 0 0
            refine mp_run mp_k_cX10_personLine_ok hF mp_tabX10_ok [mp_i (.iload_n 3), mp_h (.ifCond .eq 18) [104]] (by decide +kernel) ?_
            refine And.intro (fun c_572 => absurd c_572 (by decide)) (fun _ => ?_)
            show mp_W E X 4 89 [(3, .int 1), (2, .int i_135), (1, .int z_18), (0, .ref a0)] [] w22_ 0 0
            refine mp_run mp_k_cX10_personLine_ok hF mp_tabX10_ok [mp_i (.aload_n 0), mp_h (.getfield 44) [20, 6], mp_i (.iload_n 1), mp_c (.iconst 1) 1, mp_i .iadd, mp_h .iaload [3], mp_c (.iconst (-1)) (-1), mp_h (.if_icmp .eq 15) [113]] (by decide +kernel) ?_
            refine And.intro rfl (And.intro rfl ?_)
            intro z_573 h_574
            have e_575 : z_573.toInt = z_18.toInt + 1 := mp_add (a := z_18.toInt) (b := 1) h_574 rfl (by decide) (by omega) (by omega)
            refine And.intro rfl (And.intro rfl (And.intro (vp_in_iff.mpr (by omega)) ?_))
            intro z_576 h_577
            have e_578 : (-1) ≤ z_576.toInt ∧ z_576.toInt ≤ 99 := mp_res_ld h_577 p_147 (by omega) (by omega) (by omega)
            have e_579 : z_576.toInt = (g_136 (72 + 3 * (f2 22).toInt.toNat + 1)).toInt := mp_at_i h_577 (by omega)
            refine And.intro (fun c_580 => ?_) (fun c_580 => ?_)
            · have c_580 : z_576.toInt = (-1) := (congrArg Int32.toInt c_580)
              show mp_W E X 4 113 [(3, .int 1), (2, .int i_135), (1, .int z_18), (0, .ref a0)] [] w22_ 0 0
              exact mp_sub [0, 1, 2, 3] rfl [0, 1, 2, 3, 4, 5, 6, 7] rfl rfl (jp_440 i_142 i_143 (by first | omega | decide) (by first | omega | decide) x_157 (by omega) x_158)
            · have c_580 : z_576.toInt ≠ (-1) := c_580
              show mp_W E X 4 101 [(3, .int 1), (2, .int i_135), (1, .int z_18), (0, .ref a0)] [] w22_ 0 0
              refine mp_run mp_k_cX10_personLine_ok hF mp_tabX10_ok [mp_h (.goto 7) [108], mp_i (.aload_n 0), mp_c (.iconst 1) 1] (by decide +kernel) ?_
              show mp_W E X 4 110 [(3, .int 1), (2, .int i_135), (1, .int z_18), (0, .ref a0)] [.int 1, .ref a0] w22_ 0 0
              refine mp_callV hF (As := [.int 1]) (rest := []) (wr := [(mp_arI E a2 0 5 f1), (mp_arI E a4 0 180 f3), (mp_arI E a5 3 3000 f4), (mp_arI E a6 0 90 g_136), (mp_arI E a7 0 300 f6), (mp_arI E a3 0 25 f2), (mp_arI E a1 1 1600 f0)]) (bX10_fails_20 E a0 a8 a9 a10 a11 a1 a2 a3 a4 a5 a6 a7 a12 a13 a14 a15 a16 a17 a18 a19 a20 a21 a22 a23 a24 a25 y0 y1 i_137 i_138 i_139 i_140 i_141 i_142 i_143 y9 y10 y11 y12 y13 y14 y15 y16 y17 y18 y19 y20 y21 l_y1 u_y1 l_149 u_150 l_151 u_152 l_153 u_154 l_y11 u_y11 l_y12 u_y12 l_y13 u_y13) mp_lkX10_160 6 rfl [6] [0, 1, 2, 3, 4, 5, 7] rfl rfl rfl rfl rfl ⟨(Nat.le_of_ble_eq_true rfl), (Nat.le_of_ble_eq_true rfl), (Nat.le_of_ble_eq_true rfl), (Nat.le_of_ble_eq_true rfl)⟩ (Nat.le_of_ble_eq_true rfl) (by first | exact mp_fd_ok mp_k_cX10_personLine_ok (by decide +kernel) | decide +kernel) (fun v_581 w_582 h_583 => ?_)
              refine h_583.elim fun r_584 q_588 => q_588.elim fun r_585 q_589 => q_589.elim fun e_590 q_591 => q_591.elim fun x_586 q_592 => q_592.elim fun x_587 e_593 => ?_
              clear h_583 q_588 q_589 q_591 q_592
              subst e_590
              subst e_593
              have go_594 : mp_GO (mp_aft f0 (y1.toInt).toNat (mp_gPer2 mp_gop f0 (y1.toInt).toNat (y4.toInt).toNat ((f2 20).toInt, (f2 21).toInt, (f2 22).toInt, (f2 23).toInt, (f1 4).toInt) (mp_dM f3 f4 f5 f6))) r_584.toInt r_585.toInt (mp_aft f0 (y1.toInt).toNat (mp_gPm mp_gop f0 (y1.toInt).toNat ((f2 20).toInt, (f2 21).toInt, (f2 22).toInt + 1, (f2 23).toInt, (f1 4).toInt) (f2 22).toInt (mp_rm (decide ((g_136 (72 + 3 * (f2 22).toInt.toNat + 1)).toInt ≠ -1)) (decide (i_135.toInt ≠ 0))) (decide ((g_136 (72 + 3 * (f2 22).toInt.toNat + 1)).toInt ≠ -1)) (decide (i_135.toInt ≠ 0)) (i_139.toInt).toNat (mp_dM f3 f4 g_136 f6))) := mp_go_m x_157 (by first | omega | (dsimp only <;> omega) | decide) (by first | omega | (dsimp only <;> omega) | decide) (fun q => by have q1 := of_decide_eq_false q.1; have q2 := q.2; omega) (fun q => by have q1 := of_decide_eq_false q.1; have q2 := q.2; omega) (by first | omega | (dsimp only <;> omega) | decide) (by first | omega | (dsimp only <;> omega) | decide) (by first | omega | (dsimp only <;> omega) | decide)
              let w29_ : va_W := [(mp_arI E a2 0 5 f1), (mp_arI E a4 0 180 f3), (mp_arI E a5 3 3000 f4), (mp_arI E a6 0 90 g_136), (mp_arI E a7 0 300 f6), (mp_arI E a3 0 25 f2), (mp_arI E a1 1 1600 f0), (mp_ob10 a0 y0 a8 a9 a10 a11 a1 y1 i_137 i_138 i_139 i_140 i_141 r_584 r_585 y9 y10 a2 a3 a4 a5 a6 a7 a12 a13 y11 a14 a15 a16 a17 y12 y13 y14 a18 a19 y15 y16 a20 a21 a22 y17 y18 y19 y20 a23 a24 a25 y21)]
              show mp_W E X 4 113 [(3, .int 1), (2, .int i_135), (1, .int z_18), (0, .ref a0)] [] w29_ 0 0
              exact mp_sub [0, 1, 2, 3] rfl [0, 1, 2, 3, 4, 5, 7, 6] rfl rfl (jp_440 r_584 r_585 (by first | omega | decide) (by first | omega | decide) go_594 (by omega) x_158)
  exact mp_sub [0, 1, 2] rfl [0, 1, 2, 3, 4, 5, 6, 7] rfl rfl (lp_159 _ 0 g_129 r_65 r_66 r_67 r_68 r_69 r_70 r_71 (by decide) (by decide) p_131 p_132 p_133 l_73 u_74 l_75 u_76 l_77 u_78 (by first | omega | decide) (by first | omega | decide) (mp_go_p0 go_109 (mp_om_p2 h_112 h_121 h_130 (by first | omega | (dsimp only <;> omega) | decide) (by first | omega | (dsimp only <;> omega) | decide) (by first | omega | (dsimp only <;> omega) | decide) (by first | omega | (dsimp only <;> omega) | decide) (by first | omega | (dsimp only <;> omega) | decide)) (decide_eq_false (by first | omega | (dsimp only <;> omega) | decide)) (decide_eq_false (by first | omega | (dsimp only <;> omega) | decide))) x_85 (Int.self_le_toNat _))
