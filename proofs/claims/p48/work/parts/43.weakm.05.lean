set_option maxHeartbeats 4000000 in
set_option maxRecDepth 100000 in
theorem bX10_promiseLine_40 (E : mp_E) (a0 a1 a2 a3 a4 a5 a6 a7 a8 a9 a10 a11 a12 a13 a14 a15 a16 a17 a18 a19 a20 a21 a22 a23 a24 a25 : Nat) (f0 : Nat → Int32) (f1 : Nat → Int32) (f2 : Nat → Int32) (f3 : Nat → Int32) (f4 : Nat → Int32) (f5 : Nat → Int32) (f6 : Nat → Int32) (y0 : Int32) (y1 : Int32) (y2 : Int32) (y3 : Int32) (y4 : Int32) (y5 : Int32) (y6 : Int64) (y7 : Int32) (y8 : Int32) (y9 : Int32) (y10 : Int32) (y11 : Int32) (y12 : Int32) (y13 : Int32) (y14 : Int32) (y15 : Int32) (y16 : Int32) (y17 : Int32) (y18 : Int32) (y19 : Int32) (y20 : Int32) (y21 : Int32) (p0 : mp_res f2 25 5 0 0 6) (p1 : mp_res f2 25 5 1 0 99) (p2 : mp_res f2 25 5 2 0 6) (p3 : mp_res f2 25 5 3 0 10) (p4 : mp_res f2 25 5 4 0 60) (p5 : mp_all f3 180 0 20) (p6 : mp_all f4 3000 0 1) (p7 : mp_res f5 90 3 0 0 5) (p8 : mp_res f5 90 3 1 (-1) 99) (p9 : mp_res f6 300 6 0 0 5) (p10 : mp_res f6 300 6 1 0 5) (p11 : mp_res f6 300 6 3 0 99) (p12 : mp_res f6 300 6 4 0 1) (l_y1 : 0 ≤ y1.toInt) (u_y1 : y1.toInt ≤ 1600) (l_y2 : 0 ≤ y2.toInt) (u_y2 : y2.toInt ≤ 1600) (l_y3 : 0 ≤ y3.toInt) (u_y3 : y3.toInt ≤ 4) (l_y4 : 0 ≤ y4.toInt) (u_y4 : y4.toInt ≤ 1600) (l_y11 : 0 ≤ y11.toInt) (u_y11 : y11.toInt ≤ 99) (l_y12 : 0 ≤ y12.toInt) (u_y12 : y12.toInt ≤ 5) (l_y13 : 0 ≤ y13.toInt) (u_y13 : y13.toInt ≤ 12) (q0 : y2.toInt ≤ y1.toInt) (q1 : (f2 23).toInt ≤ 9) (q2 : mp_prmo f6 240 (f2 23).toInt) (q3 : mp_MT f0 y1.toInt y3.toInt y4.toInt y2.toInt y5.toInt y6.toInt) (q4 : y7.toInt = 0) : mp_Ct E yX10_promiseLine cX10_promiseLine 3 none 5 0 0 112 [.ref a0] [(mp_ob10 a0 y0 a8 a9 a10 a11 a1 y1 y2 y3 y4 y5 y6 y7 y8 y9 y10 a2 a3 a4 a5 a6 a7 a12 a13 y11 a14 a15 a16 a17 y12 y13 y14 a18 a19 y15 y16 a20 a21 a22 y17 y18 y19 y20 a23 a24 a25 y21), (mp_arI E a1 1 1600 f0), (mp_arI E a2 0 5 f1), (mp_arI E a3 0 25 f2), (mp_arI E a4 0 180 f3), (mp_arI E a5 3 3000 f4), (mp_arI E a6 0 90 f5), (mp_arI E a7 0 300 f6)] (fun v w' => ∃ r1 : Int32, ∃ r2 : Int32, ∃ r3 : Int32, ∃ r4 : Int32, ∃ r5 : Int64, ∃ r6 : Int32, ∃ r7 : Int32, ∃ h8 : Nat → Int32, ∃ h9 : Nat → Int32, v = none ∧ 0 ≤ r1.toInt ∧ r1.toInt ≤ 1600 ∧ 0 ≤ r2.toInt ∧ r2.toInt ≤ 4 ∧ 0 ≤ r3.toInt ∧ r3.toInt ≤ 1600 ∧ mp_res h8 25 5 0 0 6 ∧ mp_res h8 25 5 1 0 99 ∧ mp_res h8 25 5 2 0 6 ∧ mp_res h8 25 5 3 0 10 ∧ mp_res h8 25 5 4 0 60 ∧ mp_keep h8 f2 20 ∧ mp_res h9 300 6 0 0 5 ∧ mp_res h9 300 6 1 0 5 ∧ mp_res h9 300 6 3 0 99 ∧ mp_res h9 300 6 4 0 1 ∧ mp_keep h9 f6 240 ∧ (r1.toInt ≤ y1.toInt) ∧ ((5 * (y1.toInt - r1.toInt) + r2.toInt) ≤ (5 * (y1.toInt - y2.toInt) + y3.toInt)) ∧ ((h8 24).toInt = (f2 24).toInt) ∧ (r6.toInt ≠ 0 ∨ mp_prmo h9 240 (h8 23).toInt) ∧ (mp_GO (mp_aft f0 (y1.toInt).toNat (mp_gPro2 mp_gop f0 (y1.toInt).toNat (y4.toInt).toNat ((f2 20).toInt, (f2 21).toInt, (f2 22).toInt, (f2 23).toInt, (f1 4).toInt) (mp_dM f3 f4 f5 f6))) r6.toInt r7.toInt (mp_aft f0 (y1.toInt).toNat (0, (r3.toInt).toNat, ((h8 20).toInt, (h8 21).toInt, (h8 22).toInt, (h8 23).toInt, (f1 4).toInt), (mp_dM f3 f4 f5 h9)))) ∧ (mp_MT f0 y1.toInt r2.toInt r3.toInt r1.toInt r4.toInt r5.toInt) ∧ w' = [(mp_ob10 a0 y0 a8 a9 a10 a11 a1 y1 r1 r2 r3 r4 r5 r6 r7 y9 y10 a2 a3 a4 a5 a6 a7 a12 a13 y11 a14 a15 a16 a17 y12 y13 y14 a18 a19 y15 y16 a20 a21 a22 y17 y18 y19 y20 a23 a24 a25 y21), (mp_arI E a1 1 1600 f0), (mp_arI E a2 0 5 f1), (mp_arI E a3 0 25 h8), (mp_arI E a4 0 180 f3), (mp_arI E a5 3 3000 f4), (mp_arI E a6 0 90 f5), (mp_arI E a7 0 300 h9)]) := by
  refine mp_met false (by decide) (by decide) (Nat.le_of_ble_eq_true rfl) (fun X hF hQ => ?_)
  have hF : mp_F E X (RX10, cX10_promiseLine, 3, (5, 0, 0, 112), none, false) := hF
  have go_1 : mp_GO (mp_aft f0 (y1.toInt).toNat (mp_gPro2 mp_gop f0 (y1.toInt).toNat (y4.toInt).toNat ((f2 20).toInt, (f2 21).toInt, (f2 22).toInt, (f2 23).toInt, (f1 4).toInt) (mp_dM f3 f4 f5 f6))) y7.toInt y8.toInt (mp_aft f0 (y1.toInt).toNat (mp_gPro2 mp_gop f0 (y1.toInt).toNat (y4.toInt).toNat ((f2 20).toInt, (f2 21).toInt, (f2 22).toInt, (f2 23).toInt, (f1 4).toInt) (mp_dM f3 f4 f5 f6))) := mp_go_0 (by first | omega | (dsimp only <;> omega) | decide)
  have k7_ := q3.2.1
  let w1_ : va_W := [(mp_ob10 a0 y0 a8 a9 a10 a11 a1 y1 y2 y3 y4 y5 y6 y7 y8 y9 y10 a2 a3 a4 a5 a6 a7 a12 a13 y11 a14 a15 a16 a17 y12 y13 y14 a18 a19 y15 y16 a20 a21 a22 y17 y18 y19 y20 a23 a24 a25 y21), (mp_arI E a1 1 1600 f0), (mp_arI E a2 0 5 f1), (mp_arI E a3 0 25 f2), (mp_arI E a4 0 180 f3), (mp_arI E a5 3 3000 f4), (mp_arI E a6 0 90 f5), (mp_arI E a7 0 300 f6)]
  show mp_W E X 3 0 [(0, .ref a0)] [] w1_ 0 0
  refine mp_run mp_k_cX10_promiseLine_ok hF mp_tabX10_ok [mp_c (.bipush 6) 6, mp_c (.bipush 40) 40, mp_i (.aload_n 0), mp_c (.iconst 3) 3] (by decide +kernel) ?_
  show mp_W E X 3 6 [(0, .ref a0)] [.int 3, .ref a0, .int 40, .int 6] w1_ 0 0
  refine mp_callV hF (As := [.int 3]) (rest := [.int 40, .int 6]) (wr := [(mp_arI E a1 1 1600 f0), (mp_arI E a2 0 5 f1), (mp_arI E a4 0 180 f3), (mp_arI E a5 3 3000 f4), (mp_arI E a6 0 90 f5), (mp_arI E a7 0 300 f6)]) (bX10_hasRead_16 E a0 a3 a8 a9 a10 a11 a1 a2 a4 a5 a6 a7 a12 a13 a14 a15 a16 a17 a18 a19 a20 a21 a22 a23 a24 a25 f2 y0 y1 y2 y3 y4 y5 y6 y7 y8 y9 y10 y11 y12 y13 y14 y15 y16 y17 y18 y19 y20 y21 p0 p1 p2 p3 p4 l_y1 u_y1 l_y2 u_y2 l_y3 u_y3 l_y4 u_y4 l_y11 u_y11 l_y12 u_y12 l_y13 u_y13) mp_lkX10_174 0 rfl [0, 3] [1, 2, 4, 5, 6, 7] rfl rfl rfl rfl rfl ⟨(Nat.le_of_ble_eq_true rfl), (Nat.le_of_ble_eq_true rfl), (Nat.le_of_ble_eq_true rfl), (Nat.le_of_ble_eq_true rfl)⟩ (Nat.le_of_ble_eq_true rfl) (by first | exact mp_fd_ok mp_k_cX10_promiseLine_ok (by decide +kernel) | decide +kernel) (fun v_2 w_3 h_4 => ?_)
  refine h_4.elim fun r_5 q_9 => q_9.elim fun e_10 q_11 => q_11.elim fun l_6 q_12 => q_12.elim fun u_7 q_13 => q_13.elim fun x_8 e_14 => ?_
  clear h_4 q_9 q_11 q_12 q_13
  subst e_10
  subst e_14
  let w2_ : va_W := [(mp_arI E a1 1 1600 f0), (mp_arI E a2 0 5 f1), (mp_arI E a4 0 180 f3), (mp_arI E a5 3 3000 f4), (mp_arI E a6 0 90 f5), (mp_arI E a7 0 300 f6), (mp_ob10 a0 y0 a8 a9 a10 a11 a1 y1 y2 y3 y4 y5 y6 y7 y8 y9 y10 a2 a3 a4 a5 a6 a7 a12 a13 y11 a14 a15 a16 a17 y12 y13 y14 a18 a19 y15 y16 a20 a21 a22 y17 y18 y19 y20 a23 a24 a25 y21), (mp_arI E a3 0 25 f2)]
  show mp_W E X 3 9 [(0, .ref a0)] [.int r_5, .int 40, .int 6] w2_ 0 0
  refine mp_run mp_k_cX10_promiseLine_ok hF mp_tabX10_ok [mp_i .iadd, mp_i .imul, mp_i (.istore_n 1), mp_i (.aload_n 0), mp_h (.getfield 47) [21, 6], mp_i (.iload_n 1), mp_i (.aload_n 0)] (by decide +kernel) ?_
  intro z_15 h_16
  have e_17 : z_15.toInt = 40 + r_5.toInt := mp_add (a := 40) (b := r_5.toInt) h_16 (by decide) rfl (by omega) (by omega)
  intro z_18 h_19
  have e_20 : z_18.toInt = 6 * z_15.toInt := mp_mul (a := 6) (b := z_15.toInt) h_19 (by decide) rfl (by omega) (by omega)
  refine And.intro rfl (And.intro rfl ?_)
  show mp_W E X 3 18 [(1, .int z_18), (0, .ref a0)] [.ref a0, .int z_18, .ref a7] w2_ 0 0
  refine mp_callV hF (As := []) (rest := [.int z_18, .ref a7]) (wr := [(mp_arI E a2 0 5 f1), (mp_arI E a4 0 180 f3), (mp_arI E a5 3 3000 f4), (mp_arI E a6 0 90 f5), (mp_arI E a7 0 300 f6)]) (bX10_personHere_33 E a0 a1 a3 a8 a9 a10 a11 a2 a4 a5 a6 a7 a12 a13 a14 a15 a16 a17 a18 a19 a20 a21 a22 a23 a24 a25 f0 f2 y0 y1 y2 y3 y4 y5 y6 y7 y8 y9 y10 y11 y12 y13 y14 y15 y16 y17 y18 y19 y20 y21 p0 p1 p2 p3 p4 l_y1 u_y1 l_y2 u_y2 l_y3 u_y3 l_y4 u_y4 l_y11 u_y11 l_y12 u_y12 l_y13 u_y13 (by omega) (by assumption)) mp_lkX10_200 6 rfl [6, 0, 7] [1, 2, 3, 4, 5] rfl rfl rfl rfl rfl ⟨(Nat.le_of_ble_eq_true rfl), (Nat.le_of_ble_eq_true rfl), (Nat.le_of_ble_eq_true rfl), (Nat.le_of_ble_eq_true rfl)⟩ (Nat.le_of_ble_eq_true rfl) (by first | exact mp_fd_ok mp_k_cX10_promiseLine_ok (by decide +kernel) | decide +kernel) (fun v_21 w_22 h_23 => ?_)
  refine h_23.elim fun r_24 q_45 => q_45.elim fun r_25 q_46 => q_46.elim fun r_26 q_47 => q_47.elim fun r_27 q_48 => q_48.elim fun r_28 q_49 => q_49.elim fun r_29 q_50 => q_50.elim fun r_30 q_51 => q_51.elim fun r_31 q_52 => q_52.elim fun e_53 q_54 => q_54.elim fun l_32 q_55 => q_55.elim fun u_33 q_56 => q_56.elim fun l_34 q_57 => q_57.elim fun u_35 q_58 => q_58.elim fun l_36 q_59 => q_59.elim fun u_37 q_60 => q_60.elim fun l_38 q_61 => q_61.elim fun u_39 q_62 => q_62.elim fun x_40 q_63 => q_63.elim fun x_41 q_64 => q_64.elim fun x_42 q_65 => q_65.elim fun x_43 q_66 => q_66.elim fun x_44 e_67 => ?_
  clear h_23 q_45 q_46 q_47 q_48 q_49 q_50 q_51 q_52 q_54 q_55 q_56 q_57 q_58 q_59 q_60 q_61 q_62 q_63 q_64 q_65 q_66
  subst e_53
  subst e_67
  have go_68 := mp_go_n x_43 (by first | rfl | omega) (by first | rfl | omega) l_y4 (Or.inr (Or.inr (Or.inr (by decide)))) go_1
  have k_69 := x_44.2.1
  let w3_ : va_W := [(mp_arI E a2 0 5 f1), (mp_arI E a4 0 180 f3), (mp_arI E a5 3 3000 f4), (mp_arI E a6 0 90 f5), (mp_arI E a7 0 300 f6), (mp_ob10 a0 y0 a8 a9 a10 a11 a1 y1 r_24 r_25 r_26 r_27 r_28 r_29 r_30 y9 y10 a2 a3 a4 a5 a6 a7 a12 a13 y11 a14 a15 a16 a17 y12 y13 y14 a18 a19 y15 y16 a20 a21 a22 y17 y18 y19 y20 a23 a24 a25 y21), (mp_arI E a1 1 1600 f0), (mp_arI E a3 0 25 f2)]
  show mp_W E X 3 21 [(1, .int z_18), (0, .ref a0)] [.int r_31, .int z_18, .ref a7] w3_ 0 0
  refine mp_run mp_k_cX10_promiseLine_ok hF mp_tabX10_ok [mp_h .iastore [4]] (by decide +kernel) ?_
  refine And.intro rfl (And.intro rfl (And.intro (vp_in_iff.mpr (by omega)) ?_))
  intro g_70 h_71
  have p_72 : mp_res g_70 300 6 0 0 5 := mp_res_st h_71 p9 (by omega) (by omega)
  have p_73 : mp_res g_70 300 6 1 0 5 := mp_res_st h_71 p10 (by omega) (by omega)
  have p_74 : mp_res g_70 300 6 3 0 99 := mp_res_st h_71 p11 (by omega) (by omega)
  have p_75 : mp_res g_70 300 6 4 0 1 := mp_res_st h_71 p12 (by omega) (by omega)
  have p_76 : mp_keep g_70 f6 240 := mp_keep_st h_71 mp_keep_rfl (by omega)
  have p_77 : mp_prmo g_70 240 (f2 23).toInt := mp_prmo_st h_71 q2 (by omega)
  have e_78 : (g_70 (240 + 6 * (f2 23).toInt.toNat + 5)).toInt = (f6 (240 + 6 * (f2 23).toInt.toNat + 5)).toInt := mp_st_ne h_71 (by omega)
  have e_79 : (g_70 (240 + 6 * (f2 23).toInt.toNat + 0)).toInt = r_31.toInt := mp_st_eq h_71 (by omega)
  have e_80 : (g_70 (240 + 6 * (f2 23).toInt.toNat + 4)).toInt = (f6 (240 + 6 * (f2 23).toInt.toNat + 4)).toInt := mp_st_ne h_71 (by omega)
  let w4_ : va_W := [(mp_arI E a2 0 5 f1), (mp_arI E a4 0 180 f3), (mp_arI E a5 3 3000 f4), (mp_arI E a6 0 90 f5), (mp_arI E a7 0 300 g_70), (mp_ob10 a0 y0 a8 a9 a10 a11 a1 y1 r_24 r_25 r_26 r_27 r_28 r_29 r_30 y9 y10 a2 a3 a4 a5 a6 a7 a12 a13 y11 a14 a15 a16 a17 y12 y13 y14 a18 a19 y15 y16 a20 a21 a22 y17 y18 y19 y20 a23 a24 a25 y21), (mp_arI E a1 1 1600 f0), (mp_arI E a3 0 25 f2)]
  show mp_W E X 3 22 [(1, .int z_18), (0, .ref a0)] [] w4_ 0 0
  refine mp_run mp_k_cX10_promiseLine_ok hF mp_tabX10_ok [mp_i (.aload_n 0), mp_cl (.ldc2_w 203) 555] (by decide +kernel) ?_
  show mp_W E X 3 26 [(1, .int z_18), (0, .ref a0)] [.long 555, .ref a0] w4_ 0 0
  refine mp_callV hF (As := [.long 555]) (rest := []) (wr := [(mp_arI E a2 0 5 f1), (mp_arI E a4 0 180 f3), (mp_arI E a5 3 3000 f4), (mp_arI E a6 0 90 f5), (mp_arI E a7 0 300 g_70), (mp_arI E a3 0 25 f2)]) (bX10_asks_21 E a0 a1 a8 a9 a10 a11 a2 a3 a4 a5 a6 a7 a12 a13 a14 a15 a16 a17 a18 a19 a20 a21 a22 a23 a24 a25 f0 y0 y1 r_24 r_25 r_26 r_27 r_28 r_29 r_30 y9 y10 y11 y12 y13 y14 y15 y16 y17 y18 y19 y20 y21 555 l_y1 u_y1 l_32 u_33 l_34 u_35 l_36 u_37 l_y11 u_y11 l_y12 u_y12 l_y13 u_y13 (by omega) (by assumption)) mp_lkX10_163 5 rfl [5, 6] [0, 1, 2, 3, 4, 7] rfl rfl rfl rfl rfl ⟨(Nat.le_of_ble_eq_true rfl), (Nat.le_of_ble_eq_true rfl), (Nat.le_of_ble_eq_true rfl), (Nat.le_of_ble_eq_true rfl)⟩ (Nat.le_of_ble_eq_true rfl) (by first | exact mp_fd_ok mp_k_cX10_promiseLine_ok (by decide +kernel) | decide +kernel) (fun v_81 w_82 h_83 => ?_)
  refine h_83.elim fun r_84 q_101 => q_101.elim fun r_85 q_102 => q_102.elim fun r_86 q_103 => q_103.elim fun r_87 q_104 => q_104.elim fun r_88 q_105 => q_105.elim fun r_89 q_106 => q_106.elim fun r_90 q_107 => q_107.elim fun e_108 q_109 => q_109.elim fun l_91 q_110 => q_110.elim fun u_92 q_111 => q_111.elim fun l_93 q_112 => q_112.elim fun u_94 q_113 => q_113.elim fun l_95 q_114 => q_114.elim fun u_96 q_115 => q_115.elim fun x_97 q_116 => q_116.elim fun x_98 q_117 => q_117.elim fun x_99 q_118 => q_118.elim fun x_100 e_119 => ?_
  clear h_83 q_101 q_102 q_103 q_104 q_105 q_106 q_107 q_109 q_110 q_111 q_112 q_113 q_114 q_115 q_116 q_117 q_118
  subst e_108
  subst e_119
  have go_120 := mp_go_w x_99 (by decide) l_36 go_68
  have k_121 := x_100.2.1
  let w5_ : va_W := [(mp_arI E a2 0 5 f1), (mp_arI E a4 0 180 f3), (mp_arI E a5 3 3000 f4), (mp_arI E a6 0 90 f5), (mp_arI E a7 0 300 g_70), (mp_arI E a3 0 25 f2), (mp_ob10 a0 y0 a8 a9 a10 a11 a1 y1 r_84 r_85 r_86 r_87 r_88 r_89 r_90 y9 y10 a2 a3 a4 a5 a6 a7 a12 a13 y11 a14 a15 a16 a17 y12 y13 y14 a18 a19 y15 y16 a20 a21 a22 y17 y18 y19 y20 a23 a24 a25 y21), (mp_arI E a1 1 1600 f0)]
  show mp_W E X 3 29 [(1, .int z_18), (0, .ref a0)] [] w5_ 0 0
  have jp_129 : ∀ (i_122 : Int32) (i_123 : Int32), (r_84.toInt ≤ y1.toInt) → (5 * (y1.toInt - r_84.toInt) + r_85.toInt ≤ (5 * (y1.toInt - y2.toInt) + y3.toInt)) → (mp_GO (mp_aft f0 (y1.toInt).toNat (mp_gPro2 mp_gop f0 (y1.toInt).toNat (y4.toInt).toNat ((f2 20).toInt, (f2 21).toInt, (f2 22).toInt, (f2 23).toInt, (f1 4).toInt) (mp_dM f3 f4 f5 f6))) i_122.toInt i_123.toInt (mp_aft f0 (y1.toInt).toNat (mp_kn f0 (y1.toInt).toNat (r_86.toInt).toNat 0 ((f2 22).toInt - 1) (g_70 (240 + 6 * (f2 23).toInt.toNat + 0)).toInt ((f2 20).toInt, (f2 21).toInt, (f2 22).toInt, (f2 23).toInt, (f1 4).toInt) (mp_dM f3 f4 f5 f6) (fun b s => mp_kw f0 (y1.toInt).toNat s 12532058 ((f2 20).toInt, (f2 21).toInt, (f2 22).toInt, (f2 23).toInt, (f1 4).toInt) (mp_dM f3 f4 f5 f6) fun s => mp_kn f0 (y1.toInt).toNat s 1 1000000 (-1) ((f2 20).toInt, (f2 21).toInt, (f2 22).toInt, (f2 23).toInt, (f1 4).toInt) (mp_dM f3 f4 f5 f6) fun w s => mp_kw f0 (y1.toInt).toNat s 374953 ((f2 20).toInt, (f2 21).toInt, (f2 22).toInt, (f2 23).toInt, (f1 4).toInt) (mp_dM f3 f4 f5 f6) fun s => mp_kn f0 (y1.toInt).toNat s 0 (f2 21).toInt (-1) ((f2 20).toInt, (f2 21).toInt, (f2 22).toInt, (f2 23).toInt, (f1 4).toInt) (mp_dM f3 f4 f5 f6) fun m s => mp_gQm mp_gop f0 (y1.toInt).toNat ((f2 20).toInt, (f2 21).toInt, (f2 22).toInt, (f2 23).toInt + 1, (f1 4).toInt) (f2 23).toInt 2 false false s (mp_gop (mp_dM f3 f4 f5 f6) 5 (f2 23).toInt (g_70 (240 + 6 * (f2 23).toInt.toNat + 0)).toInt b w m))))) → (i_122.toInt ≠ 0 ∨ mp_TK f0 (y1.toInt).toNat (r_86.toInt).toNat ≠ 2 ∨ mp_TV f0 (y1.toInt).toNat (r_86.toInt).toNat ≠ (g_70 (240 + 6 * (f2 23).toInt.toNat + 0)).toInt) → (mp_MT f0 y1.toInt r_85.toInt r_86.toInt r_84.toInt r_87.toInt r_88.toInt) → mp_W E X 3 62 [(1, .int z_18), (0, .ref a0)] [] [(mp_arI E a2 0 5 f1), (mp_arI E a4 0 180 f3), (mp_arI E a5 3 3000 f4), (mp_arI E a6 0 90 f5), (mp_arI E a7 0 300 g_70), (mp_arI E a3 0 25 f2), (mp_ob10 a0 y0 a8 a9 a10 a11 a1 y1 r_84 r_85 r_86 r_87 r_88 i_122 i_123 y9 y10 a2 a3 a4 a5 a6 a7 a12 a13 y11 a14 a15 a16 a17 y12 y13 y14 a18 a19 y15 y16 a20 a21 a22 y17 y18 y19 y20 a23 a24 a25 y21), (mp_arI E a1 1 1600 f0)] 0 0 := by
    intro i_122 i_123 x_124 x_125 x_126 x_127 x_128
    have k_130 := x_128.2.1
    refine mp_run mp_k_cX10_promiseLine_ok hF mp_tabX10_ok [mp_i (.aload_n 0), mp_h (.getfield 47) [21, 6], mp_i (.iload_n 1), mp_c (.iconst 1) 1, mp_i .iadd, mp_i (.aload_n 0)] (by decide +kernel) ?_
    refine And.intro rfl (And.intro rfl ?_)
    intro z_131 h_132
    have e_133 : z_131.toInt = z_18.toInt + 1 := mp_add (a := z_18.toInt) (b := 1) h_132 rfl (by decide) (by omega) (by omega)
    let w6_ : va_W := [(mp_arI E a2 0 5 f1), (mp_arI E a4 0 180 f3), (mp_arI E a5 3 3000 f4), (mp_arI E a6 0 90 f5), (mp_arI E a7 0 300 g_70), (mp_arI E a3 0 25 f2), (mp_ob10 a0 y0 a8 a9 a10 a11 a1 y1 r_84 r_85 r_86 r_87 r_88 i_122 i_123 y9 y10 a2 a3 a4 a5 a6 a7 a12 a13 y11 a14 a15 a16 a17 y12 y13 y14 a18 a19 y15 y16 a20 a21 a22 y17 y18 y19 y20 a23 a24 a25 y21), (mp_arI E a1 1 1600 f0)]
    show mp_W E X 3 70 [(1, .int z_18), (0, .ref a0)] [.ref a0, .int z_131, .ref a7] w6_ 0 0
    refine mp_callV hF (As := []) (rest := [.int z_131, .ref a7]) (wr := [(mp_arI E a2 0 5 f1), (mp_arI E a4 0 180 f3), (mp_arI E a5 3 3000 f4), (mp_arI E a6 0 90 f5), (mp_arI E a7 0 300 g_70)]) (bX10_personHere_33 E a0 a1 a3 a8 a9 a10 a11 a2 a4 a5 a6 a7 a12 a13 a14 a15 a16 a17 a18 a19 a20 a21 a22 a23 a24 a25 f0 f2 y0 y1 r_84 r_85 r_86 r_87 r_88 i_122 i_123 y9 y10 y11 y12 y13 y14 y15 y16 y17 y18 y19 y20 y21 p0 p1 p2 p3 p4 l_y1 u_y1 l_91 u_92 l_93 u_94 l_95 u_96 l_y11 u_y11 l_y12 u_y12 l_y13 u_y13 (by omega) (by assumption)) mp_lkX10_200 6 rfl [6, 7, 5] [0, 1, 2, 3, 4] rfl rfl rfl rfl rfl ⟨(Nat.le_of_ble_eq_true rfl), (Nat.le_of_ble_eq_true rfl), (Nat.le_of_ble_eq_true rfl), (Nat.le_of_ble_eq_true rfl)⟩ (Nat.le_of_ble_eq_true rfl) (by first | exact mp_fd_ok mp_k_cX10_promiseLine_ok (by decide +kernel) | decide +kernel) (fun v_134 w_135 h_136 => ?_)
    refine h_136.elim fun r_137 q_158 => q_158.elim fun r_138 q_159 => q_159.elim fun r_139 q_160 => q_160.elim fun r_140 q_161 => q_161.elim fun r_141 q_162 => q_162.elim fun r_142 q_163 => q_163.elim fun r_143 q_164 => q_164.elim fun r_144 q_165 => q_165.elim fun e_166 q_167 => q_167.elim fun l_145 q_168 => q_168.elim fun u_146 q_169 => q_169.elim fun l_147 q_170 => q_170.elim fun u_148 q_171 => q_171.elim fun l_149 q_172 => q_172.elim fun u_150 q_173 => q_173.elim fun l_151 q_174 => q_174.elim fun u_152 q_175 => q_175.elim fun x_153 q_176 => q_176.elim fun x_154 q_177 => q_177.elim fun x_155 q_178 => q_178.elim fun x_156 q_179 => q_179.elim fun x_157 e_180 => ?_
    clear h_136 q_158 q_159 q_160 q_161 q_162 q_163 q_164 q_165 q_167 q_168 q_169 q_170 q_171 q_172 q_173 q_174 q_175 q_176 q_177 q_178 q_179
    subst e_166
    subst e_180
    have go_181 := mp_go_n x_156 (by first | rfl | omega) (by first | rfl | omega) l_95 (by first | exact x_127.imp_right (Or.imp_right Or.inl) | omega) x_126
    have k_182 := x_157.2.1
    let w7_ : va_W := [(mp_arI E a2 0 5 f1), (mp_arI E a4 0 180 f3), (mp_arI E a5 3 3000 f4), (mp_arI E a6 0 90 f5), (mp_arI E a7 0 300 g_70), (mp_ob10 a0 y0 a8 a9 a10 a11 a1 y1 r_137 r_138 r_139 r_140 r_141 r_142 r_143 y9 y10 a2 a3 a4 a5 a6 a7 a12 a13 y11 a14 a15 a16 a17 y12 y13 y14 a18 a19 y15 y16 a20 a21 a22 y17 y18 y19 y20 a23 a24 a25 y21), (mp_arI E a1 1 1600 f0), (mp_arI E a3 0 25 f2)]
    show mp_W E X 3 73 [(1, .int z_18), (0, .ref a0)] [.int r_144, .int z_131, .ref a7] w7_ 0 0
    refine mp_run mp_k_cX10_promiseLine_ok hF mp_tabX10_ok [mp_h .iastore [4]] (by decide +kernel) ?_
    refine And.intro rfl (And.intro rfl (And.intro (vp_in_iff.mpr (by omega)) ?_))
    intro g_183 h_184
    have p_185 : mp_res g_183 300 6 0 0 5 := mp_res_st h_184 p_72 (by omega) (by omega)
    have p_186 : mp_res g_183 300 6 1 0 5 := mp_res_st h_184 p_73 (by omega) (by omega)
    have p_187 : mp_res g_183 300 6 3 0 99 := mp_res_st h_184 p_74 (by omega) (by omega)
    have p_188 : mp_res g_183 300 6 4 0 1 := mp_res_st h_184 p_75 (by omega) (by omega)
    have p_189 : mp_keep g_183 f6 240 := mp_keep_st h_184 p_76 (by omega)
    have p_190 : mp_prmo g_183 240 (f2 23).toInt := mp_prmo_st h_184 p_77 (by omega)
    have e_191 : (g_183 (240 + 6 * (f2 23).toInt.toNat + 5)).toInt = (g_70 (240 + 6 * (f2 23).toInt.toNat + 5)).toInt := mp_st_ne h_184 (by omega)
    have e_192 : (g_183 (240 + 6 * (f2 23).toInt.toNat + 0)).toInt = (g_70 (240 + 6 * (f2 23).toInt.toNat + 0)).toInt := mp_st_ne h_184 (by omega)
    have e_193 : (g_183 (240 + 6 * (f2 23).toInt.toNat + 4)).toInt = (g_70 (240 + 6 * (f2 23).toInt.toNat + 4)).toInt := mp_st_ne h_184 (by omega)
    let w8_ : va_W := [(mp_arI E a2 0 5 f1), (mp_arI E a4 0 180 f3), (mp_arI E a5 3 3000 f4), (mp_arI E a6 0 90 f5), (mp_arI E a7 0 300 g_183), (mp_ob10 a0 y0 a8 a9 a10 a11 a1 y1 r_137 r_138 r_139 r_140 r_141 r_142 r_143 y9 y10 a2 a3 a4 a5 a6 a7 a12 a13 y11 a14 a15 a16 a17 y12 y13 y14 a18 a19 y15 y16 a20 a21 a22 y17 y18 y19 y20 a23 a24 a25 y21), (mp_arI E a1 1 1600 f0), (mp_arI E a3 0 25 f2)]
    show mp_W E X 3 74 [(1, .int z_18), (0, .ref a0)] [] w8_ 0 0
    refine mp_run mp_k_cX10_promiseLine_ok hF mp_tabX10_ok [mp_i (.aload_n 0), mp_h (.getfield 47) [21, 5], mp_i (.iload_n 1), mp_c (.iconst 2) 2, mp_i .iadd, mp_i (.aload_n 0), mp_cl (.ldc2_w 205) 12532058, mp_c (.iconst 1) 1, mp_c (.ldc 142) 1000000] (by decide +kernel) ?_
    refine And.intro rfl (And.intro rfl ?_)
    intro z_194 h_195
    have e_196 : z_194.toInt = z_18.toInt + 2 := mp_add (a := z_18.toInt) (b := 2) h_195 rfl (by decide) (by omega) (by omega)
    show mp_W E X 3 88 [(1, .int z_18), (0, .ref a0)] [.int 1000000, .int 1, .long 12532058, .ref a0, .int z_194, .ref a7] w8_ 0 0
    refine mp_callV hF (As := [.long 12532058, .int 1, .int 1000000]) (rest := [.int z_194, .ref a7]) (wr := [(mp_arI E a2 0 5 f1), (mp_arI E a4 0 180 f3), (mp_arI E a5 3 3000 f4), (mp_arI E a6 0 90 f5), (mp_arI E a7 0 300 g_183), (mp_arI E a3 0 25 f2)]) (bX10_number__35 E a0 a1 a8 a9 a10 a11 a2 a3 a4 a5 a6 a7 a12 a13 a14 a15 a16 a17 a18 a19 a20 a21 a22 a23 a24 a25 f0 y0 y1 r_137 r_138 r_139 r_140 r_141 r_142 r_143 y9 y10 y11 y12 y13 y14 y15 y16 y17 y18 y19 y20 y21 12532058 l_y1 u_y1 l_145 u_146 l_147 u_148 l_149 u_150 l_y11 u_y11 l_y12 u_y12 l_y13 u_y13 (by omega) (by assumption) (by first | omega | decide)) mp_lkX10_184 5 rfl [5, 6] [0, 1, 2, 3, 4, 7] rfl rfl rfl rfl rfl ⟨(Nat.le_of_ble_eq_true rfl), (Nat.le_of_ble_eq_true rfl), (Nat.le_of_ble_eq_true rfl), (Nat.le_of_ble_eq_true rfl)⟩ (Nat.le_of_ble_eq_true rfl) (by first | exact mp_fd_ok mp_k_cX10_promiseLine_ok (by decide +kernel) | decide +kernel) (fun v_197 w_198 h_199 => ?_)
    refine h_199.elim fun r_200 q_221 => q_221.elim fun r_201 q_222 => q_222.elim fun r_202 q_223 => q_223.elim fun r_203 q_224 => q_224.elim fun r_204 q_225 => q_225.elim fun r_205 q_226 => q_226.elim fun r_206 q_227 => q_227.elim fun r_207 q_228 => q_228.elim fun e_229 q_230 => q_230.elim fun l_208 q_231 => q_231.elim fun u_209 q_232 => q_232.elim fun l_210 q_233 => q_233.elim fun u_211 q_234 => q_234.elim fun l_212 q_235 => q_235.elim fun u_213 q_236 => q_236.elim fun l_214 q_237 => q_237.elim fun u_215 q_238 => q_238.elim fun x_216 q_239 => q_239.elim fun x_217 q_240 => q_240.elim fun x_218 q_241 => q_241.elim fun x_219 q_242 => q_242.elim fun x_220 e_243 => ?_
    clear h_199 q_221 q_222 q_223 q_224 q_225 q_226 q_227 q_228 q_230 q_231 q_232 q_233 q_234 q_235 q_236 q_237 q_238 q_239 q_240 q_241 q_242
    subst e_229
    subst e_243
    obtain ⟨bm_244, qm_245, lm_246, hl_247, ak_248, nk_249⟩ := x_219
    have go_250 := mp_go_w ak_248 (by decide) l_149 go_181
    have go_251 := mp_go_n nk_249 (by first | rfl | omega) (by first | rfl | omega) hl_247 (Or.inr (Or.inr (Or.inr (by decide)))) go_250
    have k_252 := x_220.2.1
    let w9_ : va_W := [(mp_arI E a2 0 5 f1), (mp_arI E a4 0 180 f3), (mp_arI E a5 3 3000 f4), (mp_arI E a6 0 90 f5), (mp_arI E a7 0 300 g_183), (mp_arI E a3 0 25 f2), (mp_ob10 a0 y0 a8 a9 a10 a11 a1 y1 r_200 r_201 r_202 r_203 r_204 r_205 r_206 y9 y10 a2 a3 a4 a5 a6 a7 a12 a13 y11 a14 a15 a16 a17 y12 y13 y14 a18 a19 y15 y16 a20 a21 a22 y17 y18 y19 y20 a23 a24 a25 y21), (mp_arI E a1 1 1600 f0)]
    show mp_W E X 3 91 [(1, .int z_18), (0, .ref a0)] [.int r_207, .int z_194, .ref a7] w9_ 0 0
    refine mp_run mp_k_cX10_promiseLine_ok hF mp_tabX10_ok [mp_h .iastore [4]] (by decide +kernel) ?_
    refine And.intro rfl (And.intro rfl (And.intro (vp_in_iff.mpr (by omega)) ?_))
    intro g_253 h_254
    have p_255 : mp_res g_253 300 6 0 0 5 := mp_res_st h_254 p_185 (by omega) (by omega)
    have p_256 : mp_res g_253 300 6 1 0 5 := mp_res_st h_254 p_186 (by omega) (by omega)
    have p_257 : mp_res g_253 300 6 3 0 99 := mp_res_st h_254 p_187 (by omega) (by omega)
    have p_258 : mp_res g_253 300 6 4 0 1 := mp_res_st h_254 p_188 (by omega) (by omega)
    have p_259 : mp_keep g_253 f6 240 := mp_keep_st h_254 p_189 (by omega)
    have p_260 : mp_prmo g_253 240 (f2 23).toInt := mp_prmo_st h_254 p_190 (by omega)
    have e_261 : (g_253 (240 + 6 * (f2 23).toInt.toNat + 5)).toInt = (g_183 (240 + 6 * (f2 23).toInt.toNat + 5)).toInt := mp_st_ne h_254 (by omega)
    have e_262 : (g_253 (240 + 6 * (f2 23).toInt.toNat + 0)).toInt = (g_183 (240 + 6 * (f2 23).toInt.toNat + 0)).toInt := mp_st_ne h_254 (by omega)
    have e_263 : (g_253 (240 + 6 * (f2 23).toInt.toNat + 4)).toInt = (g_183 (240 + 6 * (f2 23).toInt.toNat + 4)).toInt := mp_st_ne h_254 (by omega)
    let w10_ : va_W := [(mp_arI E a2 0 5 f1), (mp_arI E a4 0 180 f3), (mp_arI E a5 3 3000 f4), (mp_arI E a6 0 90 f5), (mp_arI E a7 0 300 g_253), (mp_arI E a3 0 25 f2), (mp_ob10 a0 y0 a8 a9 a10 a11 a1 y1 r_200 r_201 r_202 r_203 r_204 r_205 r_206 y9 y10 a2 a3 a4 a5 a6 a7 a12 a13 y11 a14 a15 a16 a17 y12 y13 y14 a18 a19 y15 y16 a20 a21 a22 y17 y18 y19 y20 a23 a24 a25 y21), (mp_arI E a1 1 1600 f0)]
    show mp_W E X 3 92 [(1, .int z_18), (0, .ref a0)] [] w10_ 0 0
    refine mp_run mp_k_cX10_promiseLine_ok hF mp_tabX10_ok [mp_i (.aload_n 0), mp_h (.getfield 47) [21, 6], mp_i (.iload_n 1), mp_c (.iconst 3) 3, mp_i .iadd, mp_i (.aload_n 0), mp_cl (.ldc2_w 207) 374953, mp_c (.iconst 0) 0, mp_i (.aload_n 0), mp_c (.iconst 1) 1] (by decide +kernel) ?_
    refine And.intro rfl (And.intro rfl ?_)
    intro z_264 h_265
    have e_266 : z_264.toInt = z_18.toInt + 3 := mp_add (a := z_18.toInt) (b := 3) h_265 rfl (by decide) (by omega) (by omega)
    show mp_W E X 3 106 [(1, .int z_18), (0, .ref a0)] [.int 1, .ref a0, .int 0, .long 374953, .ref a0, .int z_264, .ref a7] w10_ 0 0
    refine mp_callV hF (As := [.int 1]) (rest := [.int 0, .long 374953, .ref a0, .int z_264, .ref a7]) (wr := [(mp_arI E a2 0 5 f1), (mp_arI E a4 0 180 f3), (mp_arI E a5 3 3000 f4), (mp_arI E a6 0 90 f5), (mp_arI E a7 0 300 g_253), (mp_arI E a1 1 1600 f0)]) (bX10_hasRead_36 E a0 a3 a8 a9 a10 a11 a1 a2 a4 a5 a6 a7 a12 a13 a14 a15 a16 a17 a18 a19 a20 a21 a22 a23 a24 a25 f2 y0 y1 r_200 r_201 r_202 r_203 r_204 r_205 r_206 y9 y10 y11 y12 y13 y14 y15 y16 y17 y18 y19 y20 y21 p0 p1 p2 p3 p4 l_y1 u_y1 l_208 u_209 l_210 u_211 l_212 u_213 l_y11 u_y11 l_y12 u_y12 l_y13 u_y13) mp_lkX10_174 6 rfl [6, 5] [0, 1, 2, 3, 4, 7] rfl rfl rfl rfl rfl ⟨(Nat.le_of_ble_eq_true rfl), (Nat.le_of_ble_eq_true rfl), (Nat.le_of_ble_eq_true rfl), (Nat.le_of_ble_eq_true rfl)⟩ (Nat.le_of_ble_eq_true rfl) (by first | exact mp_fd_ok mp_k_cX10_promiseLine_ok (by decide +kernel) | decide +kernel) (fun v_267 w_268 h_269 => ?_)
    refine h_269.elim fun r_270 q_274 => q_274.elim fun e_275 q_276 => q_276.elim fun l_271 q_277 => q_277.elim fun u_272 q_278 => q_278.elim fun x_273 e_279 => ?_
    clear h_269 q_274 q_276 q_277 q_278
    subst e_275
    subst e_279
    let w11_ : va_W := [(mp_arI E a2 0 5 f1), (mp_arI E a4 0 180 f3), (mp_arI E a5 3 3000 f4), (mp_arI E a6 0 90 f5), (mp_arI E a7 0 300 g_253), (mp_arI E a1 1 1600 f0), (mp_ob10 a0 y0 a8 a9 a10 a11 a1 y1 r_200 r_201 r_202 r_203 r_204 r_205 r_206 y9 y10 a2 a3 a4 a5 a6 a7 a12 a13 y11 a14 a15 a16 a17 y12 y13 y14 a18 a19 y15 y16 a20 a21 a22 y17 y18 y19 y20 a23 a24 a25 y21), (mp_arI E a3 0 25 f2)]
    show mp_W E X 3 109 [(1, .int z_18), (0, .ref a0)] [.int r_270, .int 0, .long 374953, .ref a0, .int z_264, .ref a7] w11_ 0 0
    refine mp_callV hF (As := [.long 374953, .int 0, .int r_270]) (rest := [.int z_264, .ref a7]) (wr := [(mp_arI E a2 0 5 f1), (mp_arI E a4 0 180 f3), (mp_arI E a5 3 3000 f4), (mp_arI E a6 0 90 f5), (mp_arI E a7 0 300 g_253), (mp_arI E a3 0 25 f2)]) (bX10_number__38 E a0 a1 a8 a9 a10 a11 a2 a3 a4 a5 a6 a7 a12 a13 a14 a15 a16 a17 a18 a19 a20 a21 a22 a23 a24 a25 f0 y0 y1 r_200 r_201 r_202 r_203 r_204 r_205 r_206 y9 y10 y11 y12 y13 y14 y15 y16 y17 y18 y19 y20 y21 374953 r_270 l_271 u_272 l_y1 u_y1 l_208 u_209 l_210 u_211 l_212 u_213 l_y11 u_y11 l_y12 u_y12 l_y13 u_y13 (by omega) (by assumption) (by first | omega | decide)) mp_lkX10_184 6 rfl [6, 5] [0, 1, 2, 3, 4, 7] rfl rfl rfl rfl rfl ⟨(Nat.le_of_ble_eq_true rfl), (Nat.le_of_ble_eq_true rfl), (Nat.le_of_ble_eq_true rfl), (Nat.le_of_ble_eq_true rfl)⟩ (Nat.le_of_ble_eq_true rfl) (by first | exact mp_fd_ok mp_k_cX10_promiseLine_ok (by decide +kernel) | decide +kernel) (fun v_280 w_281 h_282 => ?_)
    refine h_282.elim fun r_283 q_304 => q_304.elim fun r_284 q_305 => q_305.elim fun r_285 q_306 => q_306.elim fun r_286 q_307 => q_307.elim fun r_287 q_308 => q_308.elim fun r_288 q_309 => q_309.elim fun r_289 q_310 => q_310.elim fun r_290 q_311 => q_311.elim fun e_312 q_313 => q_313.elim fun l_291 q_314 => q_314.elim fun u_292 q_315 => q_315.elim fun l_293 q_316 => q_316.elim fun u_294 q_317 => q_317.elim fun l_295 q_318 => q_318.elim fun u_296 q_319 => q_319.elim fun l_297 q_320 => q_320.elim fun u_298 q_321 => q_321.elim fun x_299 q_322 => q_322.elim fun x_300 q_323 => q_323.elim fun x_301 q_324 => q_324.elim fun x_302 q_325 => q_325.elim fun x_303 e_326 => ?_
    clear h_282 q_304 q_305 q_306 q_307 q_308 q_309 q_310 q_311 q_313 q_314 q_315 q_316 q_317 q_318 q_319 q_320 q_321 q_322 q_323 q_324 q_325
    subst e_312
    subst e_326
    obtain ⟨bm_327, qm_328, lm_329, hl_330, ak_331, nk_332⟩ := x_302
    have go_333 := mp_go_w ak_331 (by decide) l_212 go_251
    have go_334 := mp_go_n nk_332 (by first | rfl | omega) (by first | rfl | omega) hl_330 (Or.inr (Or.inr (Or.inr (by decide)))) go_333
    have k_335 := x_303.2.1
    let w12_ : va_W := [(mp_arI E a2 0 5 f1), (mp_arI E a4 0 180 f3), (mp_arI E a5 3 3000 f4), (mp_arI E a6 0 90 f5), (mp_arI E a7 0 300 g_253), (mp_arI E a3 0 25 f2), (mp_ob10 a0 y0 a8 a9 a10 a11 a1 y1 r_283 r_284 r_285 r_286 r_287 r_288 r_289 y9 y10 a2 a3 a4 a5 a6 a7 a12 a13 y11 a14 a15 a16 a17 y12 y13 y14 a18 a19 y15 y16 a20 a21 a22 y17 y18 y19 y20 a23 a24 a25 y21), (mp_arI E a1 1 1600 f0)]
    show mp_W E X 3 112 [(1, .int z_18), (0, .ref a0)] [.int r_290, .int z_264, .ref a7] w12_ 0 0
    refine mp_run mp_k_cX10_promiseLine_ok hF mp_tabX10_ok [mp_h .iastore [4]] (by decide +kernel) ?_
    refine And.intro rfl (And.intro rfl (And.intro (vp_in_iff.mpr (by omega)) ?_))
    intro g_336 h_337
    have p_338 : mp_res g_336 300 6 0 0 5 := mp_res_st h_337 p_255 (by omega) (by omega)
    have p_339 : mp_res g_336 300 6 1 0 5 := mp_res_st h_337 p_256 (by omega) (by omega)
    have p_340 : mp_res g_336 300 6 3 0 99 := mp_res_st h_337 p_257 (by omega) (by omega)
    have p_341 : mp_res g_336 300 6 4 0 1 := mp_res_st h_337 p_258 (by omega) (by omega)
    have p_342 : mp_keep g_336 f6 240 := mp_keep_st h_337 p_259 (by omega)
    have p_343 : mp_prmo g_336 240 (f2 23).toInt := mp_prmo_st h_337 p_260 (by omega)
    have e_344 : (g_336 (240 + 6 * (f2 23).toInt.toNat + 5)).toInt = (g_253 (240 + 6 * (f2 23).toInt.toNat + 5)).toInt := mp_st_ne h_337 (by omega)
    have e_345 : (g_336 (240 + 6 * (f2 23).toInt.toNat + 0)).toInt = (g_253 (240 + 6 * (f2 23).toInt.toNat + 0)).toInt := mp_st_ne h_337 (by omega)
    have e_346 : (g_336 (240 + 6 * (f2 23).toInt.toNat + 4)).toInt = (g_253 (240 + 6 * (f2 23).toInt.toNat + 4)).toInt := mp_st_ne h_337 (by omega)
    let w13_ : va_W := [(mp_arI E a2 0 5 f1), (mp_arI E a4 0 180 f3), (mp_arI E a5 3 3000 f4), (mp_arI E a6 0 90 f5), (mp_arI E a7 0 300 g_336), (mp_arI E a3 0 25 f2), (mp_ob10 a0 y0 a8 a9 a10 a11 a1 y1 r_283 r_284 r_285 r_286 r_287 r_288 r_289 y9 y10 a2 a3 a4 a5 a6 a7 a12 a13 y11 a14 a15 a16 a17 y12 y13 y14 a18 a19 y15 y16 a20 a21 a22 y17 y18 y19 y20 a23 a24 a25 y21), (mp_arI E a1 1 1600 f0)]
    show mp_W E X 3 113 [(1, .int z_18), (0, .ref a0)] [] w13_ 0 0
    refine mp_run mp_k_cX10_promiseLine_ok hF mp_tabX10_ok [mp_i (.aload_n 0), mp_h (.getfield 47) [21, 6], mp_i (.iload_n 1), mp_c (.iconst 4) 4, mp_i .iadd, mp_c (.iconst 0) 0, mp_h .iastore [4]] (by decide +kernel) ?_
    refine And.intro rfl (And.intro rfl ?_)
    intro z_347 h_348
    have e_349 : z_347.toInt = z_18.toInt + 4 := mp_add (a := z_18.toInt) (b := 4) h_348 rfl (by decide) (by omega) (by omega)
    refine And.intro rfl (And.intro rfl (And.intro (vp_in_iff.mpr (by omega)) ?_))
    intro g_350 h_351
    have p_352 : mp_res g_350 300 6 0 0 5 := mp_res_st h_351 p_338 (by omega) (fun _ => by decide)
    have p_353 : mp_res g_350 300 6 1 0 5 := mp_res_st h_351 p_339 (by omega) (fun _ => by decide)
    have p_354 : mp_res g_350 300 6 3 0 99 := mp_res_st h_351 p_340 (by omega) (fun _ => by decide)
    have p_355 : mp_res g_350 300 6 4 0 1 := mp_res_st h_351 p_341 (by omega) (fun _ => by decide)
    have p_356 : mp_keep g_350 f6 240 := mp_keep_st h_351 p_342 (by omega)
    have p_357 : mp_prmo g_350 240 (f2 23).toInt := mp_prmo_st h_351 p_343 (by omega)
    have e_358 : (g_350 (240 + 6 * (f2 23).toInt.toNat + 5)).toInt = (g_336 (240 + 6 * (f2 23).toInt.toNat + 5)).toInt := mp_st_ne h_351 (by omega)
    have e_359 : (g_350 (240 + 6 * (f2 23).toInt.toNat + 0)).toInt = (g_336 (240 + 6 * (f2 23).toInt.toNat + 0)).toInt := mp_st_ne h_351 (by omega)
    have e_360 : (g_350 (240 + 6 * (f2 23).toInt.toNat + 4)).toInt = 0 := mp_st_eq h_351 (by omega)
    let w14_ : va_W := [(mp_arI E a2 0 5 f1), (mp_arI E a4 0 180 f3), (mp_arI E a5 3 3000 f4), (mp_arI E a6 0 90 f5), (mp_arI E a7 0 300 g_350), (mp_arI E a3 0 25 f2), (mp_ob10 a0 y0 a8 a9 a10 a11 a1 y1 r_283 r_284 r_285 r_286 r_287 r_288 r_289 y9 y10 a2 a3 a4 a5 a6 a7 a12 a13 y11 a14 a15 a16 a17 y12 y13 y14 a18 a19 y15 y16 a20 a21 a22 y17 y18 y19 y20 a23 a24 a25 y21), (mp_arI E a1 1 1600 f0)]
    show mp_W E X 3 122 [(1, .int z_18), (0, .ref a0)] [] w14_ 0 0
    refine mp_run mp_k_cX10_promiseLine_ok hF mp_tabX10_ok [mp_i (.aload_n 0), mp_h (.getfield 47) [21, 6], mp_i (.iload_n 1), mp_c (.iconst 5) 5, mp_i .iadd, mp_c (.iconst (-1)) (-1), mp_h .iastore [4]] (by decide +kernel) ?_
    refine And.intro rfl (And.intro rfl ?_)
    intro z_361 h_362
    have e_363 : z_361.toInt = z_18.toInt + 5 := mp_add (a := z_18.toInt) (b := 5) h_362 rfl (by decide) (by omega) (by omega)
    refine And.intro rfl (And.intro rfl (And.intro (vp_in_iff.mpr (by omega)) ?_))
    intro g_364 h_365
    have p_366 : mp_res g_364 300 6 0 0 5 := mp_res_st h_365 p_352 (by omega) (by omega)
    have p_367 : mp_res g_364 300 6 1 0 5 := mp_res_st h_365 p_353 (by omega) (by omega)
    have p_368 : mp_res g_364 300 6 3 0 99 := mp_res_st h_365 p_354 (by omega) (by omega)
    have p_369 : mp_res g_364 300 6 4 0 1 := mp_res_st h_365 p_355 (by omega) (by omega)
    have p_370 : mp_keep g_364 f6 240 := mp_keep_st h_365 p_356 (by omega)
    have p_371 : mp_prmo g_364 240 (f2 23).toInt := mp_prmo_st h_365 p_357 (by omega)
    have e_372 : (g_364 (240 + 6 * (f2 23).toInt.toNat + 5)).toInt = (-1) := mp_st_eq h_365 (by omega)
    have e_373 : (g_364 (240 + 6 * (f2 23).toInt.toNat + 0)).toInt = (g_350 (240 + 6 * (f2 23).toInt.toNat + 0)).toInt := mp_st_ne h_365 (by omega)
    have e_374 : (g_364 (240 + 6 * (f2 23).toInt.toNat + 4)).toInt = (g_350 (240 + 6 * (f2 23).toInt.toNat + 4)).toInt := mp_st_ne h_365 (by omega)
    let w15_ : va_W := [(mp_arI E a2 0 5 f1), (mp_arI E a4 0 180 f3), (mp_arI E a5 3 3000 f4), (mp_arI E a6 0 90 f5), (mp_arI E a7 0 300 g_364), (mp_arI E a3 0 25 f2), (mp_ob10 a0 y0 a8 a9 a10 a11 a1 y1 r_283 r_284 r_285 r_286 r_287 r_288 r_289 y9 y10 a2 a3 a4 a5 a6 a7 a12 a13 y11 a14 a15 a16 a17 y12 y13 y14 a18 a19 y15 y16 a20 a21 a22 y17 y18 y19 y20 a23 a24 a25 y21), (mp_arI E a1 1 1600 f0)]
    show mp_W E X 3 131 [(1, .int z_18), (0, .ref a0)] [] w15_ 0 0
    have lp_400 : ∀ (d_401 : Nat) (g_375 : Nat → Int32) (i_376 : Int32) (i_377 : Int32) (i_378 : Int32) (i_379 : Int32) (i_380 : Int64) (i_381 : Int32) (i_382 : Int32), mp_res g_375 300 6 0 0 5 → mp_res g_375 300 6 1 0 5 → mp_res g_375 300 6 3 0 99 → mp_res g_375 300 6 4 0 1 → mp_keep g_375 f6 240 → mp_prmo g_375 240 (f2 23).toInt → 0 ≤ i_376.toInt → i_376.toInt ≤ 1600 → 0 ≤ i_377.toInt → i_377.toInt ≤ 4 → 0 ≤ i_378.toInt → i_378.toInt ≤ 1600 → (i_376.toInt ≤ y1.toInt) → (5 * (y1.toInt - i_376.toInt) + i_377.toInt ≤ (5 * (y1.toInt - y2.toInt) + y3.toInt)) → (i_381.toInt ≠ 0 ∨ (-1 ≤ (g_375 (240 + 6 * (f2 23).toInt.toNat + 5)).toInt ∧ (g_375 (240 + 6 * (f2 23).toInt.toNat + 5)).toInt < (f2 23).toInt)) → (mp_GO (mp_aft f0 (y1.toInt).toNat (mp_gPro2 mp_gop f0 (y1.toInt).toNat (y4.toInt).toNat ((f2 20).toInt, (f2 21).toInt, (f2 22).toInt, (f2 23).toInt, (f1 4).toInt) (mp_dM f3 f4 f5 f6))) i_381.toInt i_382.toInt (mp_aft f0 (y1.toInt).toNat (mp_gQm mp_gop f0 (y1.toInt).toNat ((f2 20).toInt, (f2 21).toInt, (f2 22).toInt, (f2 23).toInt + 1, (f1 4).toInt) (f2 23).toInt (mp_rm (decide ((g_375 (240 + 6 * (f2 23).toInt.toNat + 4)).toInt = 1)) (decide ((g_375 (240 + 6 * (f2 23).toInt.toNat + 5)).toInt ≠ -1))) (decide ((g_375 (240 + 6 * (f2 23).toInt.toNat + 4)).toInt = 1)) (decide ((g_375 (240 + 6 * (f2 23).toInt.toNat + 5)).toInt ≠ -1)) (i_378.toInt).toNat (mp_dM f3 f4 f5 g_375)))) → (mp_MT f0 y1.toInt i_377.toInt i_378.toInt i_376.toInt i_379.toInt i_380.toInt) → 5 * (y1.toInt - i_376.toInt) + i_377.toInt ≤ (d_401 : Int) → mp_W E X 3 131 [(1, .int z_18), (0, .ref a0)] [] [(mp_arI E a2 0 5 f1), (mp_arI E a4 0 180 f3), (mp_arI E a5 3 3000 f4), (mp_arI E a6 0 90 f5), (mp_arI E a7 0 300 g_375), (mp_arI E a3 0 25 f2), (mp_ob10 a0 y0 a8 a9 a10 a11 a1 y1 i_376 i_377 i_378 i_379 i_380 i_381 i_382 y9 y10 a2 a3 a4 a5 a6 a7 a12 a13 y11 a14 a15 a16 a17 y12 y13 y14 a18 a19 y15 y16 a20 a21 a22 y17 y18 y19 y20 a23 a24 a25 y21), (mp_arI E a1 1 1600 f0)] 0 0 := by
      intro d_401
      induction d_401 using Nat.strongRecOn with
      | ind d_401 ih_402 =>
        intro g_375 i_376 i_377 i_378 i_379 i_380 i_381 i_382 p_383 p_384 p_385 p_386 p_387 p_388 l_389 u_390 l_391 u_392 l_393 u_394 x_395 x_396 x_397 x_398 x_399 hm_403
        have k_404 := x_399.2.1
        refine mp_run mp_k_cX10_promiseLine_ok hF mp_tabX10_ok [mp_i (.aload_n 0)] (by decide +kernel) ?_
        let w16_ : va_W := [(mp_arI E a2 0 5 f1), (mp_arI E a4 0 180 f3), (mp_arI E a5 3 3000 f4), (mp_arI E a6 0 90 f5), (mp_arI E a7 0 300 g_375), (mp_arI E a3 0 25 f2), (mp_ob10 a0 y0 a8 a9 a10 a11 a1 y1 i_376 i_377 i_378 i_379 i_380 i_381 i_382 y9 y10 a2 a3 a4 a5 a6 a7 a12 a13 y11 a14 a15 a16 a17 y12 y13 y14 a18 a19 y15 y16 a20 a21 a22 y17 y18 y19 y20 a23 a24 a25 y21), (mp_arI E a1 1 1600 f0)]
        show mp_W E X 3 132 [(1, .int z_18), (0, .ref a0)] [.ref a0] w16_ 0 0
        refine mp_callV hF (As := []) (rest := []) (wr := [(mp_arI E a2 0 5 f1), (mp_arI E a4 0 180 f3), (mp_arI E a5 3 3000 f4), (mp_arI E a6 0 90 f5), (mp_arI E a7 0 300 g_375), (mp_arI E a3 0 25 f2), (mp_arI E a1 1 1600 f0)]) (bX10_isGood_14 E a0 a8 a9 a10 a11 a1 a2 a3 a4 a5 a6 a7 a12 a13 a14 a15 a16 a17 a18 a19 a20 a21 a22 a23 a24 a25 y0 y1 i_376 i_377 i_378 i_379 i_380 i_381 i_382 y9 y10 y11 y12 y13 y14 y15 y16 y17 y18 y19 y20 y21 l_y1 u_y1 l_389 u_390 l_391 u_392 l_393 u_394 l_y11 u_y11 l_y12 u_y12 l_y13 u_y13) mp_lkX10_189 6 rfl [6] [0, 1, 2, 3, 4, 5, 7] rfl rfl rfl rfl rfl ⟨(Nat.le_of_ble_eq_true rfl), (Nat.le_of_ble_eq_true rfl), (Nat.le_of_ble_eq_true rfl), (Nat.le_of_ble_eq_true rfl)⟩ (Nat.le_of_ble_eq_true rfl) (by first | exact mp_fd_ok mp_k_cX10_promiseLine_ok (by decide +kernel) | decide +kernel) (fun v_405 w_406 h_407 => ?_)
        rcases h_407 with ⟨rfl, c_408, x_409, rfl⟩ | ⟨rfl, c_410, x_411, rfl⟩
        · skip
          have c_408 : i_381.toInt ≠ 0 := c_408
          let w17_ : va_W := [(mp_arI E a2 0 5 f1), (mp_arI E a4 0 180 f3), (mp_arI E a5 3 3000 f4), (mp_arI E a6 0 90 f5), (mp_arI E a7 0 300 g_375), (mp_arI E a3 0 25 f2), (mp_arI E a1 1 1600 f0), (mp_ob10 a0 y0 a8 a9 a10 a11 a1 y1 i_376 i_377 i_378 i_379 i_380 i_381 i_382 y9 y10 a2 a3 a4 a5 a6 a7 a12 a13 y11 a14 a15 a16 a17 y12 y13 y14 a18 a19 y15 y16 a20 a21 a22 y17 y18 y19 y20 a23 a24 a25 y21)]
          show mp_W E X 3 135 [(1, .int z_18), (0, .ref a0)] [.int 0] w17_ 0 0
          refine mp_run mp_k_cX10_promiseLine_ok hF mp_tabX10_ok [mp_h (.ifCond .eq 120) [255]] (by decide +kernel) ?_
          refine And.intro (fun _ => ?_) (fun c_412 => absurd c_412 (by decide))
          show mp_W E X 3 255 [(1, .int z_18), (0, .ref a0)] [] w17_ 0 0
          refine mp_run mp_k_cX10_promiseLine_ok hF mp_tabX10_ok [mp_i (.aload_n 0), mp_h (.getfield 34) [17, 7], mp_c (.bipush 23) 23, mp_i .dup2, mp_h .iaload [5], mp_c (.iconst 1) 1, mp_i .iadd, mp_h .iastore [5]] (by decide +kernel) ?_
          refine And.intro rfl (And.intro rfl ?_)
          refine And.intro rfl (And.intro rfl (And.intro (vp_in_iff.mpr (by decide)) ?_))
          intro z_413 h_414
          have e_415 : 0 ≤ z_413.toInt ∧ z_413.toInt ≤ 10 := mp_res_ld h_414 p3 (by decide) (by decide) (by decide)
          have e_416 : z_413.toInt = (f2 23).toInt := congrArg Int32.toInt (mp_at h_414 (by decide) rfl)
          intro z_417 h_418
          have e_419 : z_417.toInt = z_413.toInt + 1 := mp_add (a := z_413.toInt) (b := 1) h_418 rfl (by decide) (by omega) (by omega)
          refine And.intro rfl (And.intro rfl (And.intro (vp_in_iff.mpr (by decide)) ?_))
          intro g_420 h_421
          have p_422 : mp_res g_420 25 5 0 0 6 := mp_res_st h_421 p0 (by decide) (fun q => absurd q (by decide))
          have p_423 : mp_res g_420 25 5 1 0 99 := mp_res_st h_421 p1 (by decide) (fun q => absurd q (by decide))
          have p_424 : mp_res g_420 25 5 2 0 6 := mp_res_st h_421 p2 (by decide) (fun q => absurd q (by decide))
          have p_425 : mp_res g_420 25 5 3 0 10 := mp_res_st h_421 p3 (by decide) (fun _ => by omega)
          have p_426 : mp_res g_420 25 5 4 0 60 := mp_res_st h_421 p4 (by decide) (fun q => absurd q (by decide))
          have p_427 : mp_keep g_420 f2 20 := mp_keep_st h_421 mp_keep_rfl (by decide)
          have e_428 : (g_420 0).toInt = (f2 0).toInt := mp_has_ne h_421 (by decide)
          have e_429 : (g_420 1).toInt = (f2 1).toInt := mp_has_ne h_421 (by decide)
          have e_430 : (g_420 2).toInt = (f2 2).toInt := mp_has_ne h_421 (by decide)
          have e_431 : (g_420 3).toInt = (f2 3).toInt := mp_has_ne h_421 (by decide)
          have e_432 : (g_420 4).toInt = (f2 4).toInt := mp_has_ne h_421 (by decide)
          have e_433 : (g_420 20).toInt = (f2 20).toInt := mp_has_ne h_421 (by decide)
          have e_434 : (g_420 21).toInt = (f2 21).toInt := mp_has_ne h_421 (by decide)
          have e_435 : (g_420 22).toInt = (f2 22).toInt := mp_has_ne h_421 (by decide)
          have e_436 : (g_420 23).toInt = z_417.toInt := mp_has_eq h_421 (by decide)
          have e_437 : (g_420 24).toInt = (f2 24).toInt := mp_has_ne h_421 (by decide)
          let w18_ : va_W := [(mp_arI E a2 0 5 f1), (mp_arI E a4 0 180 f3), (mp_arI E a5 3 3000 f4), (mp_arI E a6 0 90 f5), (mp_arI E a7 0 300 g_375), (mp_arI E a3 0 25 g_420), (mp_arI E a1 1 1600 f0), (mp_ob10 a0 y0 a8 a9 a10 a11 a1 y1 i_376 i_377 i_378 i_379 i_380 i_381 i_382 y9 y10 a2 a3 a4 a5 a6 a7 a12 a13 y11 a14 a15 a16 a17 y12 y13 y14 a18 a19 y15 y16 a20 a21 a22 y17 y18 y19 y20 a23 a24 a25 y21)]
          show mp_W E X 3 266 [(1, .int z_18), (0, .ref a0)] [] w18_ 0 0
          exact mp_vret hF hQ rfl (Nat.le_of_ble_eq_true rfl) (Nat.le_of_ble_eq_true rfl) [7, 6, 0, 5, 1, 2, 3, 4] (w' := [(mp_ob10 a0 y0 a8 a9 a10 a11 a1 y1 i_376 i_377 i_378 i_379 i_380 i_381 i_382 y9 y10 a2 a3 a4 a5 a6 a7 a12 a13 y11 a14 a15 a16 a17 y12 y13 y14 a18 a19 y15 y16 a20 a21 a22 y17 y18 y19 y20 a23 a24 a25 y21), (mp_arI E a1 1 1600 f0), (mp_arI E a2 0 5 f1), (mp_arI E a3 0 25 g_420), (mp_arI E a4 0 180 f3), (mp_arI E a5 3 3000 f4), (mp_arI E a6 0 90 f5), (mp_arI E a7 0 300 g_375)]) rfl rfl ⟨i_376, i_377, i_378, i_379, i_380, i_381, i_382, g_420, g_375, rfl, l_389, u_390, l_391, u_392, l_393, u_394, p_422, p_423, p_424, p_425, p_426, p_427, p_383, p_384, p_385, p_386, p_387, (by first | omega | decide), (by first | omega | decide), (by first | omega | decide), (by first | exact Or.inl (by omega) | exact mp_prmo_add (o := 240) p_388 (by omega) x_397 (by omega)), (mp_go_eq (mp_go_qe x_398 (by first | omega | (dsimp only <;> omega) | decide)) (Or.inr (congrArg (mp_aft _ _) (mp_rs4 rfl (mp_sc5 (by first | omega | (dsimp only <;> omega) | decide) (by first | omega | (dsimp only <;> omega) | decide) (by first | omega | (dsimp only <;> omega) | decide) (by first | omega | (dsimp only <;> omega) | decide) (by first | omega | (dsimp only <;> omega) | decide)) rfl)))), x_399, rfl⟩ (by first | exact mp_fd_ok mp_k_cX10_promiseLine_ok (by decide +kernel) | decide +kernel)
        · skip
          have c_410 : i_381.toInt = 0 := c_410
          let w19_ : va_W := [(mp_arI E a2 0 5 f1), (mp_arI E a4 0 180 f3), (mp_arI E a5 3 3000 f4), (mp_arI E a6 0 90 f5), (mp_arI E a7 0 300 g_375), (mp_arI E a3 0 25 f2), (mp_arI E a1 1 1600 f0), (mp_ob10 a0 y0 a8 a9 a10 a11 a1 y1 i_376 i_377 i_378 i_379 i_380 i_381 i_382 y9 y10 a2 a3 a4 a5 a6 a7 a12 a13 y11 a14 a15 a16 a17 y12 y13 y14 a18 a19 y15 y16 a20 a21 a22 y17 y18 y19 y20 a23 a24 a25 y21)]
          show mp_W E X 3 135 [(1, .int z_18), (0, .ref a0)] [.int 1] w19_ 0 0
          refine mp_run mp_k_cX10_promiseLine_ok hF mp_tabX10_ok [mp_h (.ifCond .eq 120) [255]] (by decide +kernel) ?_
          refine And.intro (fun c_438 => absurd c_438 (by decide)) (fun _ => ?_)
          show mp_W E X 3 138 [(1, .int z_18), (0, .ref a0)] [] w19_ 0 0
          refine mp_run mp_k_cX10_promiseLine_ok hF mp_tabX10_ok [mp_i (.aload_n 0), mp_h (.getfield 133) [8, 7], mp_c (.iconst 1) 1, mp_h (.if_icmp .ne 112) [255]] (by decide +kernel) ?_
          refine And.intro rfl (And.intro rfl ?_)
          refine And.intro (fun c_439 => ?_) (fun c_439 => ?_)
          · have c_439 : i_377.toInt ≠ 1 := c_439
            show mp_W E X 3 255 [(1, .int z_18), (0, .ref a0)] [] w19_ 0 0
            refine mp_run mp_k_cX10_promiseLine_ok hF mp_tabX10_ok [mp_i (.aload_n 0), mp_h (.getfield 34) [17, 7], mp_c (.bipush 23) 23, mp_i .dup2, mp_h .iaload [5], mp_c (.iconst 1) 1, mp_i .iadd, mp_h .iastore [5]] (by decide +kernel) ?_
            refine And.intro rfl (And.intro rfl ?_)
            refine And.intro rfl (And.intro rfl (And.intro (vp_in_iff.mpr (by decide)) ?_))
            intro z_440 h_441
            have e_442 : 0 ≤ z_440.toInt ∧ z_440.toInt ≤ 10 := mp_res_ld h_441 p3 (by decide) (by decide) (by decide)
            have e_443 : z_440.toInt = (f2 23).toInt := congrArg Int32.toInt (mp_at h_441 (by decide) rfl)
            intro z_444 h_445
            have e_446 : z_444.toInt = z_440.toInt + 1 := mp_add (a := z_440.toInt) (b := 1) h_445 rfl (by decide) (by omega) (by omega)
            refine And.intro rfl (And.intro rfl (And.intro (vp_in_iff.mpr (by decide)) ?_))
            intro g_447 h_448
            have p_449 : mp_res g_447 25 5 0 0 6 := mp_res_st h_448 p0 (by decide) (fun q => absurd q (by decide))
            have p_450 : mp_res g_447 25 5 1 0 99 := mp_res_st h_448 p1 (by decide) (fun q => absurd q (by decide))
            have p_451 : mp_res g_447 25 5 2 0 6 := mp_res_st h_448 p2 (by decide) (fun q => absurd q (by decide))
            have p_452 : mp_res g_447 25 5 3 0 10 := mp_res_st h_448 p3 (by decide) (fun _ => by omega)
            have p_453 : mp_res g_447 25 5 4 0 60 := mp_res_st h_448 p4 (by decide) (fun q => absurd q (by decide))
            have p_454 : mp_keep g_447 f2 20 := mp_keep_st h_448 mp_keep_rfl (by decide)
            have e_455 : (g_447 0).toInt = (f2 0).toInt := mp_has_ne h_448 (by decide)
            have e_456 : (g_447 1).toInt = (f2 1).toInt := mp_has_ne h_448 (by decide)
            have e_457 : (g_447 2).toInt = (f2 2).toInt := mp_has_ne h_448 (by decide)
            have e_458 : (g_447 3).toInt = (f2 3).toInt := mp_has_ne h_448 (by decide)
            have e_459 : (g_447 4).toInt = (f2 4).toInt := mp_has_ne h_448 (by decide)
            have e_460 : (g_447 20).toInt = (f2 20).toInt := mp_has_ne h_448 (by decide)
            have e_461 : (g_447 21).toInt = (f2 21).toInt := mp_has_ne h_448 (by decide)
            have e_462 : (g_447 22).toInt = (f2 22).toInt := mp_has_ne h_448 (by decide)
            have e_463 : (g_447 23).toInt = z_444.toInt := mp_has_eq h_448 (by decide)
            have e_464 : (g_447 24).toInt = (f2 24).toInt := mp_has_ne h_448 (by decide)
            let w20_ : va_W := [(mp_arI E a2 0 5 f1), (mp_arI E a4 0 180 f3), (mp_arI E a5 3 3000 f4), (mp_arI E a6 0 90 f5), (mp_arI E a7 0 300 g_375), (mp_arI E a3 0 25 g_447), (mp_arI E a1 1 1600 f0), (mp_ob10 a0 y0 a8 a9 a10 a11 a1 y1 i_376 i_377 i_378 i_379 i_380 i_381 i_382 y9 y10 a2 a3 a4 a5 a6 a7 a12 a13 y11 a14 a15 a16 a17 y12 y13 y14 a18 a19 y15 y16 a20 a21 a22 y17 y18 y19 y20 a23 a24 a25 y21)]
            show mp_W E X 3 266 [(1, .int z_18), (0, .ref a0)] [] w20_ 0 0
            exact mp_vret hF hQ rfl (Nat.le_of_ble_eq_true rfl) (Nat.le_of_ble_eq_true rfl) [7, 6, 0, 5, 1, 2, 3, 4] (w' := [(mp_ob10 a0 y0 a8 a9 a10 a11 a1 y1 i_376 i_377 i_378 i_379 i_380 i_381 i_382 y9 y10 a2 a3 a4 a5 a6 a7 a12 a13 y11 a14 a15 a16 a17 y12 y13 y14 a18 a19 y15 y16 a20 a21 a22 y17 y18 y19 y20 a23 a24 a25 y21), (mp_arI E a1 1 1600 f0), (mp_arI E a2 0 5 f1), (mp_arI E a3 0 25 g_447), (mp_arI E a4 0 180 f3), (mp_arI E a5 3 3000 f4), (mp_arI E a6 0 90 f5), (mp_arI E a7 0 300 g_375)]) rfl rfl ⟨i_376, i_377, i_378, i_379, i_380, i_381, i_382, g_447, g_375, rfl, l_389, u_390, l_391, u_392, l_393, u_394, p_449, p_450, p_451, p_452, p_453, p_454, p_383, p_384, p_385, p_386, p_387, (by first | omega | decide), (by first | omega | decide), (by first | omega | decide), (by first | exact Or.inl (by omega) | exact mp_prmo_add (o := 240) p_388 (by omega) x_397 (by omega)), (mp_go_eq (mp_go_qe x_398 (by first | omega | (dsimp only <;> omega) | decide)) (Or.inr (congrArg (mp_aft _ _) (mp_rs4 rfl (mp_sc5 (by first | omega | (dsimp only <;> omega) | decide) (by first | omega | (dsimp only <;> omega) | decide) (by first | omega | (dsimp only <;> omega) | decide) (by first | omega | (dsimp only <;> omega) | decide) (by first | omega | (dsimp only <;> omega) | decide)) rfl)))), x_399, rfl⟩ (by first | exact mp_fd_ok mp_k_cX10_promiseLine_ok (by decide +kernel) | decide +kernel)
          · have c_439 : i_377.toInt = 1 := (congrArg Int32.toInt c_439)
            show mp_W E X 3 146 [(1, .int z_18), (0, .ref a0)] [] w19_ 0 0
            refine mp_run mp_k_cX10_promiseLine_ok hF mp_tabX10_ok [mp_i (.aload_n 0), mp_cl (.ldc2_w 209) 2495756] (by decide +kernel) ?_
            show mp_W E X 3 150 [(1, .int z_18), (0, .ref a0)] [.long 2495756, .ref a0] w19_ 0 0
            refine mp_callV hF (As := [.long 2495756]) (rest := []) (wr := [(mp_arI E a2 0 5 f1), (mp_arI E a4 0 180 f3), (mp_arI E a5 3 3000 f4), (mp_arI E a6 0 90 f5), (mp_arI E a7 0 300 g_375), (mp_arI E a3 0 25 f2)]) (bX10_is_15 E a0 a1 a8 a9 a10 a11 a2 a3 a4 a5 a6 a7 a12 a13 a14 a15 a16 a17 a18 a19 a20 a21 a22 a23 a24 a25 f0 y0 y1 i_376 i_377 i_378 i_379 i_380 i_381 i_382 y9 y10 y11 y12 y13 y14 y15 y16 y17 y18 y19 y20 y21 2495756 l_y1 u_y1 l_389 u_390 l_391 u_392 l_393 u_394 l_y11 u_y11 l_y12 u_y12 l_y13 u_y13 (by assumption)) mp_lkX10_150 7 rfl [7, 6] [0, 1, 2, 3, 4, 5] rfl rfl rfl rfl rfl ⟨(Nat.le_of_ble_eq_true rfl), (Nat.le_of_ble_eq_true rfl), (Nat.le_of_ble_eq_true rfl), (Nat.le_of_ble_eq_true rfl)⟩ (Nat.le_of_ble_eq_true rfl) (by first | exact mp_fd_ok mp_k_cX10_promiseLine_ok (by decide +kernel) | decide +kernel) (fun v_465 w_466 h_467 => ?_)
            refine h_467.elim (fun q_473 => ?_) (fun q_474 => ?_)
            · skip
              refine q_473.elim fun e_475 q_476 => q_476.elim fun x_468 e_477 => ?_
              clear h_467 q_473 q_476
              subst e_475
              subst e_477
              rw [show (2495756 : Int64).toInt = 2495756 from by decide] at x_468
              show mp_W E X 3 153 [(1, .int z_18), (0, .ref a0)] [.int 0] w16_ 0 0
              refine mp_run mp_k_cX10_promiseLine_ok hF mp_tabX10_ok [mp_i (.istore_n 2)] (by decide +kernel) ?_
              show mp_W E X 3 154 [(2, .int 0), (1, .int z_18), (0, .ref a0)] [] w16_ 0 0
              have jp_486 : ∀ (i_478 : Int32) (i_479 : Int32), (i_376.toInt ≤ y1.toInt) → (5 * (y1.toInt - i_376.toInt) + i_377.toInt ≤ (5 * (y1.toInt - y2.toInt) + y3.toInt)) → (i_478.toInt ≠ 0 ∨ (-1 ≤ (g_375 (240 + 6 * (f2 23).toInt.toNat + 5)).toInt ∧ (g_375 (240 + 6 * (f2 23).toInt.toNat + 5)).toInt < (f2 23).toInt)) → (mp_GO (mp_aft f0 (y1.toInt).toNat (mp_gPro2 mp_gop f0 (y1.toInt).toNat (y4.toInt).toNat ((f2 20).toInt, (f2 21).toInt, (f2 22).toInt, (f2 23).toInt, (f1 4).toInt) (mp_dM f3 f4 f5 f6))) i_478.toInt i_479.toInt (mp_aft f0 (y1.toInt).toNat (mp_gQm mp_gop f0 (y1.toInt).toNat ((f2 20).toInt, (f2 21).toInt, (f2 22).toInt, (f2 23).toInt + 1, (f1 4).toInt) (f2 23).toInt (mp_rm (decide ((g_375 (240 + 6 * (f2 23).toInt.toNat + 4)).toInt = 1)) (decide ((g_375 (240 + 6 * (f2 23).toInt.toNat + 5)).toInt ≠ -1))) (decide ((g_375 (240 + 6 * (f2 23).toInt.toNat + 4)).toInt = 1)) (decide ((g_375 (240 + 6 * (f2 23).toInt.toNat + 5)).toInt ≠ -1)) (i_378.toInt).toNat (mp_dM f3 f4 f5 g_375)))) → (i_478.toInt ≠ 0 ∨ (mp_TK f0 (y1.toInt).toNat (i_378.toInt).toNat = 1 ∧ ((0 = 1 ∧ mp_WD f0 (y1.toInt).toNat (i_378.toInt).toNat = 2495756 ∧ (g_375 (240 + 6 * (f2 23).toInt.toNat + 4)).toInt ≠ 1) ∨ (0 = 0 ∧ mp_WD f0 (y1.toInt).toNat (i_378.toInt).toNat = 419 ∧ (g_375 (240 + 6 * (f2 23).toInt.toNat + 5)).toInt = -1)))) → (mp_MT f0 y1.toInt i_377.toInt i_378.toInt i_376.toInt i_379.toInt i_380.toInt) → mp_W E X 3 204 [(2, .int 0), (1, .int z_18), (0, .ref a0)] [] [(mp_arI E a2 0 5 f1), (mp_arI E a4 0 180 f3), (mp_arI E a5 3 3000 f4), (mp_arI E a6 0 90 f5), (mp_arI E a7 0 300 g_375), (mp_arI E a3 0 25 f2), (mp_ob10 a0 y0 a8 a9 a10 a11 a1 y1 i_376 i_377 i_378 i_379 i_380 i_478 i_479 y9 y10 a2 a3 a4 a5 a6 a7 a12 a13 y11 a14 a15 a16 a17 y12 y13 y14 a18 a19 y15 y16 a20 a21 a22 y17 y18 y19 y20 a23 a24 a25 y21), (mp_arI E a1 1 1600 f0)] 0 0 := by
                intro i_478 i_479 x_480 x_481 x_482 x_483 x_484 x_485
                have k_487 := x_485.2.1
                refine mp_run mp_k_cX10_promiseLine_ok hF mp_tabX10_ok [mp_i (.aload_n 0), mp_h (.getfield 144) [12, 6], mp_h (.ifCond .eq 4) [212]] (by decide +kernel) ?_
                refine And.intro rfl (And.intro rfl ?_)
                refine And.intro (fun c_488 => ?_) (fun c_488 => ?_)
                · have c_488 : i_478.toInt = 0 := (congrArg Int32.toInt c_488)
                  let w21_ : va_W := [(mp_arI E a2 0 5 f1), (mp_arI E a4 0 180 f3), (mp_arI E a5 3 3000 f4), (mp_arI E a6 0 90 f5), (mp_arI E a7 0 300 g_375), (mp_arI E a3 0 25 f2), (mp_ob10 a0 y0 a8 a9 a10 a11 a1 y1 i_376 i_377 i_378 i_379 i_380 i_478 i_479 y9 y10 a2 a3 a4 a5 a6 a7 a12 a13 y11 a14 a15 a16 a17 y12 y13 y14 a18 a19 y15 y16 a20 a21 a22 y17 y18 y19 y20 a23 a24 a25 y21), (mp_arI E a1 1 1600 f0)]
                  show mp_W E X 3 212 [(2, .int 0), (1, .int z_18), (0, .ref a0)] [] w21_ 0 0
                  refine mp_run mp_k_cX10_promiseLine_ok hF mp_tabX10_ok [mp_i (.aload_n 0)] (by decide +kernel) ?_
                  show mp_W E X 3 213 [(2, .int 0), (1, .int z_18), (0, .ref a0)] [.ref a0] w21_ 0 0
                  refine mp_callV hF (As := []) (rest := []) (wr := [(mp_arI E a2 0 5 f1), (mp_arI E a4 0 180 f3), (mp_arI E a5 3 3000 f4), (mp_arI E a6 0 90 f5), (mp_arI E a7 0 300 g_375), (mp_arI E a3 0 25 f2)]) (bX10_next_12 E a0 a1 a8 a9 a10 a11 a2 a3 a4 a5 a6 a7 a12 a13 a14 a15 a16 a17 a18 a19 a20 a21 a22 a23 a24 a25 f0 y0 y1 i_376 i_377 i_378 i_379 i_380 i_478 i_479 y9 y10 y11 y12 y13 y14 y15 y16 y17 y18 y19 y20 y21 l_y1 u_y1 l_389 u_390 l_391 u_392 l_393 u_394 l_y11 u_y11 l_y12 u_y12 l_y13 u_y13 (by first | omega | (show i_376.toInt ≤ y1.toInt; omega))) mp_lkX10_154 6 rfl [6, 7] [0, 1, 2, 3, 4, 5] rfl rfl rfl rfl rfl ⟨(Nat.le_of_ble_eq_true rfl), (Nat.le_of_ble_eq_true rfl), (Nat.le_of_ble_eq_true rfl), (Nat.le_of_ble_eq_true rfl)⟩ (Nat.le_of_ble_eq_true rfl) (by first | exact mp_fd_ok mp_k_cX10_promiseLine_ok (by decide +kernel) | decide +kernel) (fun v_489 w_490 h_491 => ?_)
                  refine h_491.elim fun r_492 q_511 => q_511.elim fun r_493 q_512 => q_512.elim fun r_494 q_513 => q_513.elim fun r_495 q_514 => q_514.elim fun r_496 q_515 => q_515.elim fun e_516 q_517 => q_517.elim fun l_497 q_518 => q_518.elim fun u_498 q_519 => q_519.elim fun l_499 q_520 => q_520.elim fun u_500 q_521 => q_521.elim fun l_501 q_522 => q_522.elim fun u_502 q_523 => q_523.elim fun l_503 q_524 => q_524.elim fun u_504 q_525 => q_525.elim fun l_505 q_526 => q_526.elim fun u_506 q_527 => q_527.elim fun x_507 q_528 => q_528.elim fun x_508 q_529 => q_529.elim fun x_509 q_530 => q_530.elim fun x_510 e_531 => ?_
                  clear h_491 q_511 q_512 q_513 q_514 q_515 q_517 q_518 q_519 q_520 q_521 q_522 q_523 q_524 q_525 q_526 q_527 q_528 q_529 q_530
                  subst e_516
                  subst e_531
                  have nx_532 : r_494.toInt = ((mp_NX f0 (y1.toInt).toNat (i_378.toInt).toNat : Nat) : Int) := (by have k9 := x_509; unfold mp_NX; rw [← Int.toNat_natCast (mp_TE _ _ _), ← x_485.2.2.1]; exact k9)
                  have k_533 := x_510.2.1
                  let w22_ : va_W := [(mp_arI E a2 0 5 f1), (mp_arI E a4 0 180 f3), (mp_arI E a5 3 3000 f4), (mp_arI E a6 0 90 f5), (mp_arI E a7 0 300 g_375), (mp_arI E a3 0 25 f2), (mp_ob10 a0 y0 a8 a9 a10 a11 a1 y1 r_492 r_493 r_494 r_495 r_496 i_478 i_479 y9 y10 a2 a3 a4 a5 a6 a7 a12 a13 y11 a14 a15 a16 a17 y12 y13 y14 a18 a19 y15 y16 a20 a21 a22 y17 y18 y19 y20 a23 a24 a25 y21), (mp_arI E a1 1 1600 f0)]
                  show mp_W E X 3 216 [(2, .int 0), (1, .int z_18), (0, .ref a0)] [] w22_ 0 0
                  have jp_560 : ∀ (g_534 : Nat → Int32) (i_535 : Int32) (i_536 : Int32) (i_537 : Int32) (i_538 : Int32) (i_539 : Int64) (i_540 : Int32) (i_541 : Int32), mp_res g_534 300 6 0 0 5 → mp_res g_534 300 6 1 0 5 → mp_res g_534 300 6 3 0 99 → mp_res g_534 300 6 4 0 1 → mp_keep g_534 f6 240 → mp_prmo g_534 240 (f2 23).toInt → 0 ≤ i_535.toInt → i_535.toInt ≤ 1600 → 0 ≤ i_536.toInt → i_536.toInt ≤ 4 → 0 ≤ i_537.toInt → i_537.toInt ≤ 1600 → (i_535.toInt ≤ y1.toInt) → (5 * (y1.toInt - i_535.toInt) + i_536.toInt ≤ (5 * (y1.toInt - y2.toInt) + y3.toInt)) → (i_540.toInt ≠ 0 ∨ (-1 ≤ (g_534 (240 + 6 * (f2 23).toInt.toNat + 5)).toInt ∧ (g_534 (240 + 6 * (f2 23).toInt.toNat + 5)).toInt < (f2 23).toInt)) → (mp_GO (mp_aft f0 (y1.toInt).toNat (mp_gPro2 mp_gop f0 (y1.toInt).toNat (y4.toInt).toNat ((f2 20).toInt, (f2 21).toInt, (f2 22).toInt, (f2 23).toInt, (f1 4).toInt) (mp_dM f3 f4 f5 f6))) i_540.toInt i_541.toInt (mp_aft f0 (y1.toInt).toNat (mp_gQm mp_gop f0 (y1.toInt).toNat ((f2 20).toInt, (f2 21).toInt, (f2 22).toInt, (f2 23).toInt + 1, (f1 4).toInt) (f2 23).toInt (mp_rm (decide ((g_534 (240 + 6 * (f2 23).toInt.toNat + 4)).toInt = 1)) (decide ((g_534 (240 + 6 * (f2 23).toInt.toNat + 5)).toInt ≠ -1))) (decide ((g_534 (240 + 6 * (f2 23).toInt.toNat + 4)).toInt = 1)) (decide ((g_534 (240 + 6 * (f2 23).toInt.toNat + 5)).toInt ≠ -1)) (i_537.toInt).toNat (mp_dM f3 f4 f5 g_534)))) → (mp_MT f0 y1.toInt i_536.toInt i_537.toInt i_535.toInt i_538.toInt i_539.toInt) → (5 * (y1.toInt - i_535.toInt) + i_536.toInt + 1 ≤ 5 * (y1.toInt - i_376.toInt) + i_377.toInt) → mp_W E X 3 252 [(2, .int 0), (1, .int z_18), (0, .ref a0)] [] [(mp_arI E a2 0 5 f1), (mp_arI E a4 0 180 f3), (mp_arI E a5 3 3000 f4), (mp_arI E a6 0 90 f5), (mp_arI E a7 0 300 g_534), (mp_arI E a3 0 25 f2), (mp_ob10 a0 y0 a8 a9 a10 a11 a1 y1 i_535 i_536 i_537 i_538 i_539 i_540 i_541 y9 y10 a2 a3 a4 a5 a6 a7 a12 a13 y11 a14 a15 a16 a17 y12 y13 y14 a18 a19 y15 y16 a20 a21 a22 y17 y18 y19 y20 a23 a24 a25 y21), (mp_arI E a1 1 1600 f0)] 0 0 := by
                    intro g_534 i_535 i_536 i_537 i_538 i_539 i_540 i_541 p_542 p_543 p_544 p_545 p_546 p_547 l_548 u_549 l_550 u_551 l_552 u_553 x_554 x_555 x_556 x_557 x_558 x_559
                    have k_561 := x_558.2.1
                    refine mp_run mp_k_cX10_promiseLine_ok hF mp_tabX10_ok [mp_h (.goto (-121)) [131]] (by decide +kernel) ?_
                    let w23_ : va_W := [(mp_arI E a2 0 5 f1), (mp_arI E a4 0 180 f3), (mp_arI E a5 3 3000 f4), (mp_arI E a6 0 90 f5), (mp_arI E a7 0 300 g_534), (mp_arI E a3 0 25 f2), (mp_ob10 a0 y0 a8 a9 a10 a11 a1 y1 i_535 i_536 i_537 i_538 i_539 i_540 i_541 y9 y10 a2 a3 a4 a5 a6 a7 a12 a13 y11 a14 a15 a16 a17 y12 y13 y14 a18 a19 y15 y16 a20 a21 a22 y17 y18 y19 y20 a23 a24 a25 y21), (mp_arI E a1 1 1600 f0)]
                    show mp_W E X 3 131 [(2, .int 0), (1, .int z_18), (0, .ref a0)] [] w23_ 0 0
                    exact mp_sub [1, 2] rfl [0, 1, 2, 3, 4, 5, 6, 7] rfl rfl (ih_402 (d_401 - 1) (by omega) g_534 i_535 i_536 i_537 i_538 i_539 i_540 i_541 p_542 p_543 p_544 p_545 p_546 p_547 l_548 u_549 l_550 u_551 l_552 u_553 (by first | omega | decide) (by first | omega | decide) (by first | omega | decide) x_557 x_558 (by omega))
                  refine mp_run mp_k_cX10_promiseLine_ok hF mp_tabX10_ok [mp_i (.iload_n 2), mp_h (.ifCond .eq 15) [232]] (by decide +kernel) ?_
                  refine And.intro (fun _ => ?_) (fun c_562 => absurd c_562 (by decide))
                  show mp_W E X 3 232 [(2, .int 0), (1, .int z_18), (0, .ref a0)] [] w22_ 0 0
                  refine mp_run mp_k_cX10_promiseLine_ok hF mp_tabX10_ok [mp_i (.aload_n 0), mp_h (.getfield 47) [21, 6], mp_i (.iload_n 1), mp_c (.iconst 5) 5, mp_i .iadd, mp_i (.aload_n 0), mp_c (.iconst 0) 0, mp_i (.aload_n 0), mp_c (.iconst 3) 3] (by decide +kernel) ?_
                  refine And.intro rfl (And.intro rfl ?_)
                  intro z_563 h_564
                  have e_565 : z_563.toInt = z_18.toInt + 5 := mp_add (a := z_18.toInt) (b := 5) h_564 rfl (by decide) (by omega) (by omega)
                  show mp_W E X 3 243 [(2, .int 0), (1, .int z_18), (0, .ref a0)] [.int 3, .ref a0, .int 0, .ref a0, .int z_563, .ref a7] w22_ 0 0
                  refine mp_callV hF (As := [.int 3]) (rest := [.int 0, .ref a0, .int z_563, .ref a7]) (wr := [(mp_arI E a2 0 5 f1), (mp_arI E a4 0 180 f3), (mp_arI E a5 3 3000 f4), (mp_arI E a6 0 90 f5), (mp_arI E a7 0 300 g_375), (mp_arI E a1 1 1600 f0)]) (bX10_hasRead_16 E a0 a3 a8 a9 a10 a11 a1 a2 a4 a5 a6 a7 a12 a13 a14 a15 a16 a17 a18 a19 a20 a21 a22 a23 a24 a25 f2 y0 y1 r_492 r_493 r_494 r_495 r_496 i_478 i_479 y9 y10 y11 y12 y13 y14 y15 y16 y17 y18 y19 y20 y21 p0 p1 p2 p3 p4 l_y1 u_y1 l_497 u_498 l_499 u_500 l_501 u_502 l_y11 u_y11 l_y12 u_y12 l_y13 u_y13) mp_lkX10_174 6 rfl [6, 5] [0, 1, 2, 3, 4, 7] rfl rfl rfl rfl rfl ⟨(Nat.le_of_ble_eq_true rfl), (Nat.le_of_ble_eq_true rfl), (Nat.le_of_ble_eq_true rfl), (Nat.le_of_ble_eq_true rfl)⟩ (Nat.le_of_ble_eq_true rfl) (by first | exact mp_fd_ok mp_k_cX10_promiseLine_ok (by decide +kernel) | decide +kernel) (fun v_566 w_567 h_568 => ?_)
                  refine h_568.elim fun r_569 q_573 => q_573.elim fun e_574 q_575 => q_575.elim fun l_570 q_576 => q_576.elim fun u_571 q_577 => q_577.elim fun x_572 e_578 => ?_
                  clear h_568 q_573 q_575 q_576 q_577
                  subst e_574
                  subst e_578
                  let w24_ : va_W := [(mp_arI E a2 0 5 f1), (mp_arI E a4 0 180 f3), (mp_arI E a5 3 3000 f4), (mp_arI E a6 0 90 f5), (mp_arI E a7 0 300 g_375), (mp_arI E a1 1 1600 f0), (mp_ob10 a0 y0 a8 a9 a10 a11 a1 y1 r_492 r_493 r_494 r_495 r_496 i_478 i_479 y9 y10 a2 a3 a4 a5 a6 a7 a12 a13 y11 a14 a15 a16 a17 y12 y13 y14 a18 a19 y15 y16 a20 a21 a22 y17 y18 y19 y20 a23 a24 a25 y21), (mp_arI E a3 0 25 f2)]
                  show mp_W E X 3 246 [(2, .int 0), (1, .int z_18), (0, .ref a0)] [.int r_569, .int 0, .ref a0, .int z_563, .ref a7] w24_ 0 0
                  refine mp_run mp_k_cX10_promiseLine_ok hF mp_tabX10_ok [mp_c (.iconst 1) 1, mp_i .isub] (by decide +kernel) ?_
                  intro z_579 h_580
                  have e_581 : z_579.toInt = r_569.toInt - 1 := mp_subi (a := r_569.toInt) (b := 1) h_580 rfl (by decide) (by omega) (by omega)
                  show mp_W E X 3 248 [(2, .int 0), (1, .int z_18), (0, .ref a0)] [.int z_579, .int 0, .ref a0, .int z_563, .ref a7] w24_ 0 0
                  refine mp_callV hF (As := [.int 0, .int z_579]) (rest := [.int z_563, .ref a7]) (wr := [(mp_arI E a2 0 5 f1), (mp_arI E a4 0 180 f3), (mp_arI E a5 3 3000 f4), (mp_arI E a6 0 90 f5), (mp_arI E a7 0 300 g_375), (mp_arI E a3 0 25 f2)]) (bX10_number_39 E a0 a1 a8 a9 a10 a11 a2 a3 a4 a5 a6 a7 a12 a13 a14 a15 a16 a17 a18 a19 a20 a21 a22 a23 a24 a25 f0 y0 y1 r_492 r_493 r_494 r_495 r_496 i_478 i_479 y9 y10 y11 y12 y13 y14 y15 y16 y17 y18 y19 y20 y21 z_579 (by omega) (by omega) l_y1 u_y1 l_497 u_498 l_499 u_500 l_501 u_502 l_y11 u_y11 l_y12 u_y12 l_y13 u_y13 (by omega) (by assumption) (by first | omega | decide)) mp_lkX10_167 6 rfl [6, 5] [0, 1, 2, 3, 4, 7] rfl rfl rfl rfl rfl ⟨(Nat.le_of_ble_eq_true rfl), (Nat.le_of_ble_eq_true rfl), (Nat.le_of_ble_eq_true rfl), (Nat.le_of_ble_eq_true rfl)⟩ (Nat.le_of_ble_eq_true rfl) (by first | exact mp_fd_ok mp_k_cX10_promiseLine_ok (by decide +kernel) | decide +kernel) (fun v_582 w_583 h_584 => ?_)
                  refine h_584.elim fun r_585 q_606 => q_606.elim fun r_586 q_607 => q_607.elim fun r_587 q_608 => q_608.elim fun r_588 q_609 => q_609.elim fun r_589 q_610 => q_610.elim fun r_590 q_611 => q_611.elim fun r_591 q_612 => q_612.elim fun r_592 q_613 => q_613.elim fun e_614 q_615 => q_615.elim fun l_593 q_616 => q_616.elim fun u_594 q_617 => q_617.elim fun l_595 q_618 => q_618.elim fun u_596 q_619 => q_619.elim fun l_597 q_620 => q_620.elim fun u_598 q_621 => q_621.elim fun l_599 q_622 => q_622.elim fun u_600 q_623 => q_623.elim fun x_601 q_624 => q_624.elim fun x_602 q_625 => q_625.elim fun x_603 q_626 => q_626.elim fun x_604 q_627 => q_627.elim fun x_605 e_628 => ?_
                  clear h_584 q_606 q_607 q_608 q_609 q_610 q_611 q_612 q_613 q_615 q_616 q_617 q_618 q_619 q_620 q_621 q_622 q_623 q_624 q_625 q_626 q_627
                  subst e_614
                  subst e_628
                  have go_629 := mp_go_n x_604 (by first | rfl | omega) (by first | rfl | omega) l_501 (Or.inr (Or.inr (Or.inr (by decide)))) (mp_go_qo x_483 (by first | omega | (dsimp only <;> omega) | decide) (fun q => by have q2 := q.2; omega) (by first | omega | (dsimp only <;> omega) | decide) (decide_eq_false (by first | omega | (dsimp only <;> omega) | decide)) nx_532)
                  have k_630 := x_605.2.1
                  let w25_ : va_W := [(mp_arI E a2 0 5 f1), (mp_arI E a4 0 180 f3), (mp_arI E a5 3 3000 f4), (mp_arI E a6 0 90 f5), (mp_arI E a7 0 300 g_375), (mp_arI E a3 0 25 f2), (mp_ob10 a0 y0 a8 a9 a10 a11 a1 y1 r_585 r_586 r_587 r_588 r_589 r_590 r_591 y9 y10 a2 a3 a4 a5 a6 a7 a12 a13 y11 a14 a15 a16 a17 y12 y13 y14 a18 a19 y15 y16 a20 a21 a22 y17 y18 y19 y20 a23 a24 a25 y21), (mp_arI E a1 1 1600 f0)]
                  show mp_W E X 3 251 [(2, .int 0), (1, .int z_18), (0, .ref a0)] [.int r_592, .int z_563, .ref a7] w25_ 0 0
                  refine mp_run mp_k_cX10_promiseLine_ok hF mp_tabX10_ok [mp_h .iastore [4]] (by decide +kernel) ?_
                  refine And.intro rfl (And.intro rfl (And.intro (vp_in_iff.mpr (by omega)) ?_))
                  intro g_631 h_632
                  have p_633 : mp_res g_631 300 6 0 0 5 := mp_res_st h_632 p_383 (by omega) (by omega)
                  have p_634 : mp_res g_631 300 6 1 0 5 := mp_res_st h_632 p_384 (by omega) (by omega)
                  have p_635 : mp_res g_631 300 6 3 0 99 := mp_res_st h_632 p_385 (by omega) (by omega)
                  have p_636 : mp_res g_631 300 6 4 0 1 := mp_res_st h_632 p_386 (by omega) (by omega)
                  have p_637 : mp_keep g_631 f6 240 := mp_keep_st h_632 p_387 (by omega)
                  have p_638 : mp_prmo g_631 240 (f2 23).toInt := mp_prmo_st h_632 p_388 (by omega)
                  have e_639 : (g_631 (240 + 6 * (f2 23).toInt.toNat + 5)).toInt = r_592.toInt := mp_st_eq h_632 (by omega)
                  have e_640 : (g_631 (240 + 6 * (f2 23).toInt.toNat + 0)).toInt = (g_375 (240 + 6 * (f2 23).toInt.toNat + 0)).toInt := mp_st_ne h_632 (by omega)
                  have e_641 : (g_631 (240 + 6 * (f2 23).toInt.toNat + 4)).toInt = (g_375 (240 + 6 * (f2 23).toInt.toNat + 4)).toInt := mp_st_ne h_632 (by omega)
                  let w26_ : va_W := [(mp_arI E a2 0 5 f1), (mp_arI E a4 0 180 f3), (mp_arI E a5 3 3000 f4), (mp_arI E a6 0 90 f5), (mp_arI E a7 0 300 g_631), (mp_arI E a3 0 25 f2), (mp_ob10 a0 y0 a8 a9 a10 a11 a1 y1 r_585 r_586 r_587 r_588 r_589 r_590 r_591 y9 y10 a2 a3 a4 a5 a6 a7 a12 a13 y11 a14 a15 a16 a17 y12 y13 y14 a18 a19 y15 y16 a20 a21 a22 y17 y18 y19 y20 a23 a24 a25 y21), (mp_arI E a1 1 1600 f0)]
                  show mp_W E X 3 252 [(2, .int 0), (1, .int z_18), (0, .ref a0)] [] w26_ 0 0
                  exact mp_sub [0, 1, 2] rfl [0, 1, 2, 3, 4, 5, 6, 7] rfl rfl (jp_560 g_631 r_585 r_586 r_587 r_588 r_589 r_590 r_591 p_633 p_634 p_635 p_636 p_637 p_638 l_593 u_594 l_595 u_596 l_597 u_598 (by first | omega | decide) (by first | omega | decide) (by first | omega | decide) (mp_go_p2 go_629 (Or.inr (mp_om_on h_632 (by first | omega | (dsimp only <;> omega) | decide) (by first | omega | (dsimp only <;> omega) | decide) (by first | omega | (dsimp only <;> omega) | decide))) (Or.inr (congrArg (fun v : Int => decide (v = 1)) (by first | omega | (dsimp only <;> omega) | decide))) (if q9 : r_590.toInt = 0 then Or.inr (decide_eq_true (by first | omega | (dsimp only <;> omega) | decide)).symm else Or.inl q9)) x_605 (by first | omega | decide))
                · have c_488 : i_478.toInt ≠ 0 := c_488
                  let w27_ : va_W := [(mp_arI E a2 0 5 f1), (mp_arI E a4 0 180 f3), (mp_arI E a5 3 3000 f4), (mp_arI E a6 0 90 f5), (mp_arI E a7 0 300 g_375), (mp_arI E a3 0 25 f2), (mp_ob10 a0 y0 a8 a9 a10 a11 a1 y1 i_376 i_377 i_378 i_379 i_380 i_478 i_479 y9 y10 a2 a3 a4 a5 a6 a7 a12 a13 y11 a14 a15 a16 a17 y12 y13 y14 a18 a19 y15 y16 a20 a21 a22 y17 y18 y19 y20 a23 a24 a25 y21), (mp_arI E a1 1 1600 f0)]
                  show mp_W E X 3 211 [(2, .int 0), (1, .int z_18), (0, .ref a0)] [] w27_ 0 0
                  exact mp_vret hF hQ rfl (Nat.le_of_ble_eq_true rfl) (Nat.le_of_ble_eq_true rfl) [6, 7, 0, 5, 1, 2, 3, 4] (w' := [(mp_ob10 a0 y0 a8 a9 a10 a11 a1 y1 i_376 i_377 i_378 i_379 i_380 i_478 i_479 y9 y10 a2 a3 a4 a5 a6 a7 a12 a13 y11 a14 a15 a16 a17 y12 y13 y14 a18 a19 y15 y16 a20 a21 a22 y17 y18 y19 y20 a23 a24 a25 y21), (mp_arI E a1 1 1600 f0), (mp_arI E a2 0 5 f1), (mp_arI E a3 0 25 f2), (mp_arI E a4 0 180 f3), (mp_arI E a5 3 3000 f4), (mp_arI E a6 0 90 f5), (mp_arI E a7 0 300 g_375)]) rfl rfl ⟨i_376, i_377, i_378, i_379, i_380, i_478, i_479, f2, g_375, rfl, l_389, u_390, l_391, u_392, l_393, u_394, p0, p1, p2, p3, p4, mp_keep_rfl, p_383, p_384, p_385, p_386, p_387, (by first | omega | decide), (by first | omega | decide), (by first | omega | decide), (by first | exact Or.inl (by omega) | exact mp_prmo_add (o := 240) p_388 (by omega) x_397 (by omega)), (mp_go_any x_483 (by omega)), x_485, rfl⟩ (by first | exact mp_fd_ok mp_k_cX10_promiseLine_ok (by decide +kernel) | decide +kernel)
              refine mp_run mp_k_cX10_promiseLine_ok hF mp_tabX10_ok [mp_i (.iload_n 2), mp_h (.ifCond .ne 13) [168]] (by decide +kernel) ?_
              refine And.intro (fun c_642 => absurd c_642 (by decide)) (fun _ => ?_)
              show mp_W E X 3 158 [(2, .int 0), (1, .int z_18), (0, .ref a0)] [] w16_ 0 0
              refine mp_run mp_k_cX10_promiseLine_ok hF mp_tabX10_ok [mp_i (.aload_n 0), mp_cl (.ldc2_w 187) 419] (by decide +kernel) ?_
              show mp_W E X 3 162 [(2, .int 0), (1, .int z_18), (0, .ref a0)] [.long 419, .ref a0] w16_ 0 0
              refine mp_callV hF (As := [.long 419]) (rest := []) (wr := [(mp_arI E a2 0 5 f1), (mp_arI E a4 0 180 f3), (mp_arI E a5 3 3000 f4), (mp_arI E a6 0 90 f5), (mp_arI E a7 0 300 g_375), (mp_arI E a3 0 25 f2)]) (bX10_is_15 E a0 a1 a8 a9 a10 a11 a2 a3 a4 a5 a6 a7 a12 a13 a14 a15 a16 a17 a18 a19 a20 a21 a22 a23 a24 a25 f0 y0 y1 i_376 i_377 i_378 i_379 i_380 i_381 i_382 y9 y10 y11 y12 y13 y14 y15 y16 y17 y18 y19 y20 y21 419 l_y1 u_y1 l_389 u_390 l_391 u_392 l_393 u_394 l_y11 u_y11 l_y12 u_y12 l_y13 u_y13 (by assumption)) mp_lkX10_150 6 rfl [6, 7] [0, 1, 2, 3, 4, 5] rfl rfl rfl rfl rfl ⟨(Nat.le_of_ble_eq_true rfl), (Nat.le_of_ble_eq_true rfl), (Nat.le_of_ble_eq_true rfl), (Nat.le_of_ble_eq_true rfl)⟩ (Nat.le_of_ble_eq_true rfl) (by first | exact mp_fd_ok mp_k_cX10_promiseLine_ok (by decide +kernel) | decide +kernel) (fun v_643 w_644 h_645 => ?_)
              refine h_645.elim (fun q_651 => ?_) (fun q_652 => ?_)
              · skip
                refine q_651.elim fun e_653 q_654 => q_654.elim fun x_646 e_655 => ?_
                clear h_645 q_651 q_654
                subst e_653
                subst e_655
                rw [show (419 : Int64).toInt = 419 from by decide] at x_646
                show mp_W E X 3 165 [(2, .int 0), (1, .int z_18), (0, .ref a0)] [.int 0] w16_ 0 0
                refine mp_run mp_k_cX10_promiseLine_ok hF mp_tabX10_ok [mp_h (.ifCond .eq 34) [199]] (by decide +kernel) ?_
                refine And.intro (fun _ => ?_) (fun c_656 => absurd c_656 (by decide))
                show mp_W E X 3 199 [(2, .int 0), (1, .int z_18), (0, .ref a0)] [] w16_ 0 0
                refine mp_run mp_k_cX10_promiseLine_ok hF mp_tabX10_ok [mp_i (.aload_n 0), mp_c (.iconst 1) 1] (by decide +kernel) ?_
                show mp_W E X 3 201 [(2, .int 0), (1, .int z_18), (0, .ref a0)] [.int 1, .ref a0] w16_ 0 0
                refine mp_callV hF (As := [.int 1]) (rest := []) (wr := [(mp_arI E a2 0 5 f1), (mp_arI E a4 0 180 f3), (mp_arI E a5 3 3000 f4), (mp_arI E a6 0 90 f5), (mp_arI E a7 0 300 g_375), (mp_arI E a3 0 25 f2), (mp_arI E a1 1 1600 f0)]) (bX10_fails_20 E a0 a8 a9 a10 a11 a1 a2 a3 a4 a5 a6 a7 a12 a13 a14 a15 a16 a17 a18 a19 a20 a21 a22 a23 a24 a25 y0 y1 i_376 i_377 i_378 i_379 i_380 i_381 i_382 y9 y10 y11 y12 y13 y14 y15 y16 y17 y18 y19 y20 y21 l_y1 u_y1 l_389 u_390 l_391 u_392 l_393 u_394 l_y11 u_y11 l_y12 u_y12 l_y13 u_y13) mp_lkX10_160 6 rfl [6] [0, 1, 2, 3, 4, 5, 7] rfl rfl rfl rfl rfl ⟨(Nat.le_of_ble_eq_true rfl), (Nat.le_of_ble_eq_true rfl), (Nat.le_of_ble_eq_true rfl), (Nat.le_of_ble_eq_true rfl)⟩ (Nat.le_of_ble_eq_true rfl) (by first | exact mp_fd_ok mp_k_cX10_promiseLine_ok (by decide +kernel) | decide +kernel) (fun v_657 w_658 h_659 => ?_)
                refine h_659.elim fun r_660 q_664 => q_664.elim fun r_661 q_665 => q_665.elim fun e_666 q_667 => q_667.elim fun x_662 q_668 => q_668.elim fun x_663 e_669 => ?_
                clear h_659 q_664 q_665 q_667 q_668
                subst e_666
                subst e_669
                have go_670 : mp_GO (mp_aft f0 (y1.toInt).toNat (mp_gPro2 mp_gop f0 (y1.toInt).toNat (y4.toInt).toNat ((f2 20).toInt, (f2 21).toInt, (f2 22).toInt, (f2 23).toInt, (f1 4).toInt) (mp_dM f3 f4 f5 f6))) r_660.toInt r_661.toInt (mp_aft f0 (y1.toInt).toNat (mp_gQm mp_gop f0 (y1.toInt).toNat ((f2 20).toInt, (f2 21).toInt, (f2 22).toInt, (f2 23).toInt + 1, (f1 4).toInt) (f2 23).toInt (mp_rm (decide ((g_375 (240 + 6 * (f2 23).toInt.toNat + 4)).toInt = 1)) (decide ((g_375 (240 + 6 * (f2 23).toInt.toNat + 5)).toInt ≠ -1))) (decide ((g_375 (240 + 6 * (f2 23).toInt.toNat + 4)).toInt = 1)) (decide ((g_375 (240 + 6 * (f2 23).toInt.toNat + 5)).toInt ≠ -1)) (i_378.toInt).toNat (mp_dM f3 f4 f5 g_375))) := mp_go_qm x_398 (by first | omega | (dsimp only <;> omega) | decide) (by first | omega | (dsimp only <;> omega) | decide) (fun q => by have q1 := of_decide_eq_false q.1; have q2 := q.2; omega) (fun q => by have q1 := of_decide_eq_false q.1; have q2 := q.2; omega) (by first | omega | (dsimp only <;> omega) | decide) (by first | omega | (dsimp only <;> omega) | decide) (by first | omega | (dsimp only <;> omega) | decide)
                let w28_ : va_W := [(mp_arI E a2 0 5 f1), (mp_arI E a4 0 180 f3), (mp_arI E a5 3 3000 f4), (mp_arI E a6 0 90 f5), (mp_arI E a7 0 300 g_375), (mp_arI E a3 0 25 f2), (mp_arI E a1 1 1600 f0), (mp_ob10 a0 y0 a8 a9 a10 a11 a1 y1 i_376 i_377 i_378 i_379 i_380 r_660 r_661 y9 y10 a2 a3 a4 a5 a6 a7 a12 a13 y11 a14 a15 a16 a17 y12 y13 y14 a18 a19 y15 y16 a20 a21 a22 y17 y18 y19 y20 a23 a24 a25 y21)]
                show mp_W E X 3 204 [(2, .int 0), (1, .int z_18), (0, .ref a0)] [] w28_ 0 0
                exact mp_sub [0, 1, 2] rfl [0, 1, 2, 3, 4, 5, 7, 6] rfl rfl (jp_486 r_660 r_661 (by first | omega | decide) (by first | omega | decide) (by first | omega | decide) go_670 (by omega) x_399)
              · skip
                refine q_652.elim fun e_671 q_672 => q_672.elim fun c_647 q_673 => q_673.elim fun c_648 q_674 => q_674.elim fun c_649 q_675 => q_675.elim fun x_650 e_676 => ?_
                clear h_645 q_652 q_672 q_673 q_674 q_675
                subst e_671
                subst e_676
                have c_647 : i_381.toInt = 0 := c_647
                have c_648 : i_377.toInt = 1 := c_648
                have c_649 : i_380.toInt = 419 := c_649
                rw [show (419 : Int64).toInt = 419 from by decide] at x_650
                show mp_W E X 3 165 [(2, .int 0), (1, .int z_18), (0, .ref a0)] [.int 1] w16_ 0 0
                refine mp_run mp_k_cX10_promiseLine_ok hF mp_tabX10_ok [mp_h (.ifCond .eq 34) [199]] (by decide +kernel) ?_
                refine And.intro (fun c_677 => absurd c_677 (by decide)) (fun _ => ?_)
                show mp_W E X 3 168 [(2, .int 0), (1, .int z_18), (0, .ref a0)] [] w16_ 0 0
                refine mp_run mp_k_cX10_promiseLine_ok hF mp_tabX10_ok [mp_i (.iload_n 2), mp_h (.ifCond .eq 18) [187]] (by decide +kernel) ?_
                refine And.intro (fun _ => ?_) (fun c_678 => absurd c_678 (by decide))
                show mp_W E X 3 187 [(2, .int 0), (1, .int z_18), (0, .ref a0)] [] w16_ 0 0
                refine mp_run mp_k_cX10_promiseLine_ok hF mp_tabX10_ok [mp_i (.aload_n 0), mp_h (.getfield 47) [21, 6], mp_i (.iload_n 1), mp_c (.iconst 5) 5, mp_i .iadd, mp_h .iaload [4], mp_c (.iconst (-1)) (-1), mp_h (.if_icmp .eq 8) [204]] (by decide +kernel) ?_
                refine And.intro rfl (And.intro rfl ?_)
                intro z_679 h_680
                have e_681 : z_679.toInt = z_18.toInt + 5 := mp_add (a := z_18.toInt) (b := 5) h_680 rfl (by decide) (by omega) (by omega)
                refine And.intro rfl (And.intro rfl (And.intro (vp_in_iff.mpr (by omega)) ?_))
                intro z_682 h_683
                have e_684 : z_682.toInt = (g_375 (240 + 6 * (f2 23).toInt.toNat + 5)).toInt := mp_at_i h_683 (by omega)
                refine And.intro (fun c_685 => ?_) (fun c_685 => ?_)
                · have c_685 : z_682.toInt = (-1) := (congrArg Int32.toInt c_685)
                  show mp_W E X 3 204 [(2, .int 0), (1, .int z_18), (0, .ref a0)] [] w16_ 0 0
                  exact mp_sub [0, 1, 2] rfl [0, 1, 2, 3, 4, 5, 6, 7] rfl rfl (jp_486 i_381 i_382 (by first | omega | decide) (by first | omega | decide) (by first | omega | decide) x_398 (by omega) x_399)
                · have c_685 : z_682.toInt ≠ (-1) := c_685
                  show mp_W E X 3 199 [(2, .int 0), (1, .int z_18), (0, .ref a0)] [] w16_ 0 0
                  refine mp_run mp_k_cX10_promiseLine_ok hF mp_tabX10_ok [mp_i (.aload_n 0), mp_c (.iconst 1) 1] (by decide +kernel) ?_
                  show mp_W E X 3 201 [(2, .int 0), (1, .int z_18), (0, .ref a0)] [.int 1, .ref a0] w16_ 0 0
                  refine mp_callV hF (As := [.int 1]) (rest := []) (wr := [(mp_arI E a2 0 5 f1), (mp_arI E a4 0 180 f3), (mp_arI E a5 3 3000 f4), (mp_arI E a6 0 90 f5), (mp_arI E a7 0 300 g_375), (mp_arI E a3 0 25 f2), (mp_arI E a1 1 1600 f0)]) (bX10_fails_20 E a0 a8 a9 a10 a11 a1 a2 a3 a4 a5 a6 a7 a12 a13 a14 a15 a16 a17 a18 a19 a20 a21 a22 a23 a24 a25 y0 y1 i_376 i_377 i_378 i_379 i_380 i_381 i_382 y9 y10 y11 y12 y13 y14 y15 y16 y17 y18 y19 y20 y21 l_y1 u_y1 l_389 u_390 l_391 u_392 l_393 u_394 l_y11 u_y11 l_y12 u_y12 l_y13 u_y13) mp_lkX10_160 6 rfl [6] [0, 1, 2, 3, 4, 5, 7] rfl rfl rfl rfl rfl ⟨(Nat.le_of_ble_eq_true rfl), (Nat.le_of_ble_eq_true rfl), (Nat.le_of_ble_eq_true rfl), (Nat.le_of_ble_eq_true rfl)⟩ (Nat.le_of_ble_eq_true rfl) (by first | exact mp_fd_ok mp_k_cX10_promiseLine_ok (by decide +kernel) | decide +kernel) (fun v_686 w_687 h_688 => ?_)
                  refine h_688.elim fun r_689 q_693 => q_693.elim fun r_690 q_694 => q_694.elim fun e_695 q_696 => q_696.elim fun x_691 q_697 => q_697.elim fun x_692 e_698 => ?_
                  clear h_688 q_693 q_694 q_696 q_697
                  subst e_695
                  subst e_698
                  have go_699 : mp_GO (mp_aft f0 (y1.toInt).toNat (mp_gPro2 mp_gop f0 (y1.toInt).toNat (y4.toInt).toNat ((f2 20).toInt, (f2 21).toInt, (f2 22).toInt, (f2 23).toInt, (f1 4).toInt) (mp_dM f3 f4 f5 f6))) r_689.toInt r_690.toInt (mp_aft f0 (y1.toInt).toNat (mp_gQm mp_gop f0 (y1.toInt).toNat ((f2 20).toInt, (f2 21).toInt, (f2 22).toInt, (f2 23).toInt + 1, (f1 4).toInt) (f2 23).toInt (mp_rm (decide ((g_375 (240 + 6 * (f2 23).toInt.toNat + 4)).toInt = 1)) (decide ((g_375 (240 + 6 * (f2 23).toInt.toNat + 5)).toInt ≠ -1))) (decide ((g_375 (240 + 6 * (f2 23).toInt.toNat + 4)).toInt = 1)) (decide ((g_375 (240 + 6 * (f2 23).toInt.toNat + 5)).toInt ≠ -1)) (i_378.toInt).toNat (mp_dM f3 f4 f5 g_375))) := mp_go_qm x_398 (by first | omega | (dsimp only <;> omega) | decide) (by first | omega | (dsimp only <;> omega) | decide) (fun q => by have q1 := of_decide_eq_false q.1; have q2 := q.2; omega) (fun q => by have q1 := of_decide_eq_false q.1; have q2 := q.2; omega) (by first | omega | (dsimp only <;> omega) | decide) (by first | omega | (dsimp only <;> omega) | decide) (by first | omega | (dsimp only <;> omega) | decide)
                  let w29_ : va_W := [(mp_arI E a2 0 5 f1), (mp_arI E a4 0 180 f3), (mp_arI E a5 3 3000 f4), (mp_arI E a6 0 90 f5), (mp_arI E a7 0 300 g_375), (mp_arI E a3 0 25 f2), (mp_arI E a1 1 1600 f0), (mp_ob10 a0 y0 a8 a9 a10 a11 a1 y1 i_376 i_377 i_378 i_379 i_380 r_689 r_690 y9 y10 a2 a3 a4 a5 a6 a7 a12 a13 y11 a14 a15 a16 a17 y12 y13 y14 a18 a19 y15 y16 a20 a21 a22 y17 y18 y19 y20 a23 a24 a25 y21)]
                  show mp_W E X 3 204 [(2, .int 0), (1, .int z_18), (0, .ref a0)] [] w29_ 0 0
                  exact mp_sub [0, 1, 2] rfl [0, 1, 2, 3, 4, 5, 7, 6] rfl rfl (jp_486 r_689 r_690 (by first | omega | decide) (by first | omega | decide) (by first | omega | decide) go_699 (by omega) x_399)
            · skip
              refine q_474.elim fun e_700 q_701 => q_701.elim fun c_469 q_702 => q_702.elim fun c_470 q_703 => q_703.elim fun c_471 q_704 => q_704.elim fun x_472 e_705 => ?_
              clear h_467 q_474 q_701 q_702 q_703 q_704
              subst e_700
              subst e_705
              have c_469 : i_381.toInt = 0 := c_469
              have c_470 : i_377.toInt = 1 := c_470
              have c_471 : i_380.toInt = 2495756 := c_471
              rw [show (2495756 : Int64).toInt = 2495756 from by decide] at x_472
              show mp_W E X 3 153 [(1, .int z_18), (0, .ref a0)] [.int 1] w16_ 0 0
              refine mp_run mp_k_cX10_promiseLine_ok hF mp_tabX10_ok [mp_i (.istore_n 2)] (by decide +kernel) ?_
              show mp_W E X 3 154 [(2, .int 1), (1, .int z_18), (0, .ref a0)] [] w16_ 0 0
              have jp_714 : ∀ (i_706 : Int32) (i_707 : Int32), (i_376.toInt ≤ y1.toInt) → (5 * (y1.toInt - i_376.toInt) + i_377.toInt ≤ (5 * (y1.toInt - y2.toInt) + y3.toInt)) → (i_706.toInt ≠ 0 ∨ (-1 ≤ (g_375 (240 + 6 * (f2 23).toInt.toNat + 5)).toInt ∧ (g_375 (240 + 6 * (f2 23).toInt.toNat + 5)).toInt < (f2 23).toInt)) → (mp_GO (mp_aft f0 (y1.toInt).toNat (mp_gPro2 mp_gop f0 (y1.toInt).toNat (y4.toInt).toNat ((f2 20).toInt, (f2 21).toInt, (f2 22).toInt, (f2 23).toInt, (f1 4).toInt) (mp_dM f3 f4 f5 f6))) i_706.toInt i_707.toInt (mp_aft f0 (y1.toInt).toNat (mp_gQm mp_gop f0 (y1.toInt).toNat ((f2 20).toInt, (f2 21).toInt, (f2 22).toInt, (f2 23).toInt + 1, (f1 4).toInt) (f2 23).toInt (mp_rm (decide ((g_375 (240 + 6 * (f2 23).toInt.toNat + 4)).toInt = 1)) (decide ((g_375 (240 + 6 * (f2 23).toInt.toNat + 5)).toInt ≠ -1))) (decide ((g_375 (240 + 6 * (f2 23).toInt.toNat + 4)).toInt = 1)) (decide ((g_375 (240 + 6 * (f2 23).toInt.toNat + 5)).toInt ≠ -1)) (i_378.toInt).toNat (mp_dM f3 f4 f5 g_375)))) → (i_706.toInt ≠ 0 ∨ (mp_TK f0 (y1.toInt).toNat (i_378.toInt).toNat = 1 ∧ ((1 = 1 ∧ mp_WD f0 (y1.toInt).toNat (i_378.toInt).toNat = 2495756 ∧ (g_375 (240 + 6 * (f2 23).toInt.toNat + 4)).toInt ≠ 1) ∨ (1 = 0 ∧ mp_WD f0 (y1.toInt).toNat (i_378.toInt).toNat = 419 ∧ (g_375 (240 + 6 * (f2 23).toInt.toNat + 5)).toInt = -1)))) → (mp_MT f0 y1.toInt i_377.toInt i_378.toInt i_376.toInt i_379.toInt i_380.toInt) → mp_W E X 3 204 [(2, .int 1), (1, .int z_18), (0, .ref a0)] [] [(mp_arI E a2 0 5 f1), (mp_arI E a4 0 180 f3), (mp_arI E a5 3 3000 f4), (mp_arI E a6 0 90 f5), (mp_arI E a7 0 300 g_375), (mp_arI E a3 0 25 f2), (mp_ob10 a0 y0 a8 a9 a10 a11 a1 y1 i_376 i_377 i_378 i_379 i_380 i_706 i_707 y9 y10 a2 a3 a4 a5 a6 a7 a12 a13 y11 a14 a15 a16 a17 y12 y13 y14 a18 a19 y15 y16 a20 a21 a22 y17 y18 y19 y20 a23 a24 a25 y21), (mp_arI E a1 1 1600 f0)] 0 0 := by
                intro i_706 i_707 x_708 x_709 x_710 x_711 x_712 x_713
                have k_715 := x_713.2.1
                refine mp_run mp_k_cX10_promiseLine_ok hF mp_tabX10_ok [mp_i (.aload_n 0), mp_h (.getfield 144) [12, 6], mp_h (.ifCond .eq 4) [212]] (by decide +kernel) ?_
                refine And.intro rfl (And.intro rfl ?_)
                refine And.intro (fun c_716 => ?_) (fun c_716 => ?_)
                · have c_716 : i_706.toInt = 0 := (congrArg Int32.toInt c_716)
                  let w30_ : va_W := [(mp_arI E a2 0 5 f1), (mp_arI E a4 0 180 f3), (mp_arI E a5 3 3000 f4), (mp_arI E a6 0 90 f5), (mp_arI E a7 0 300 g_375), (mp_arI E a3 0 25 f2), (mp_ob10 a0 y0 a8 a9 a10 a11 a1 y1 i_376 i_377 i_378 i_379 i_380 i_706 i_707 y9 y10 a2 a3 a4 a5 a6 a7 a12 a13 y11 a14 a15 a16 a17 y12 y13 y14 a18 a19 y15 y16 a20 a21 a22 y17 y18 y19 y20 a23 a24 a25 y21), (mp_arI E a1 1 1600 f0)]
                  show mp_W E X 3 212 [(2, .int 1), (1, .int z_18), (0, .ref a0)] [] w30_ 0 0
                  refine mp_run mp_k_cX10_promiseLine_ok hF mp_tabX10_ok [mp_i (.aload_n 0)] (by decide +kernel) ?_
                  show mp_W E X 3 213 [(2, .int 1), (1, .int z_18), (0, .ref a0)] [.ref a0] w30_ 0 0
                  refine mp_callV hF (As := []) (rest := []) (wr := [(mp_arI E a2 0 5 f1), (mp_arI E a4 0 180 f3), (mp_arI E a5 3 3000 f4), (mp_arI E a6 0 90 f5), (mp_arI E a7 0 300 g_375), (mp_arI E a3 0 25 f2)]) (bX10_next_12 E a0 a1 a8 a9 a10 a11 a2 a3 a4 a5 a6 a7 a12 a13 a14 a15 a16 a17 a18 a19 a20 a21 a22 a23 a24 a25 f0 y0 y1 i_376 i_377 i_378 i_379 i_380 i_706 i_707 y9 y10 y11 y12 y13 y14 y15 y16 y17 y18 y19 y20 y21 l_y1 u_y1 l_389 u_390 l_391 u_392 l_393 u_394 l_y11 u_y11 l_y12 u_y12 l_y13 u_y13 (by first | omega | (show i_376.toInt ≤ y1.toInt; omega))) mp_lkX10_154 6 rfl [6, 7] [0, 1, 2, 3, 4, 5] rfl rfl rfl rfl rfl ⟨(Nat.le_of_ble_eq_true rfl), (Nat.le_of_ble_eq_true rfl), (Nat.le_of_ble_eq_true rfl), (Nat.le_of_ble_eq_true rfl)⟩ (Nat.le_of_ble_eq_true rfl) (by first | exact mp_fd_ok mp_k_cX10_promiseLine_ok (by decide +kernel) | decide +kernel) (fun v_717 w_718 h_719 => ?_)
                  refine h_719.elim fun r_720 q_739 => q_739.elim fun r_721 q_740 => q_740.elim fun r_722 q_741 => q_741.elim fun r_723 q_742 => q_742.elim fun r_724 q_743 => q_743.elim fun e_744 q_745 => q_745.elim fun l_725 q_746 => q_746.elim fun u_726 q_747 => q_747.elim fun l_727 q_748 => q_748.elim fun u_728 q_749 => q_749.elim fun l_729 q_750 => q_750.elim fun u_730 q_751 => q_751.elim fun l_731 q_752 => q_752.elim fun u_732 q_753 => q_753.elim fun l_733 q_754 => q_754.elim fun u_734 q_755 => q_755.elim fun x_735 q_756 => q_756.elim fun x_736 q_757 => q_757.elim fun x_737 q_758 => q_758.elim fun x_738 e_759 => ?_
                  clear h_719 q_739 q_740 q_741 q_742 q_743 q_745 q_746 q_747 q_748 q_749 q_750 q_751 q_752 q_753 q_754 q_755 q_756 q_757 q_758
                  subst e_744
                  subst e_759
                  have nx_760 : r_722.toInt = ((mp_NX f0 (y1.toInt).toNat (i_378.toInt).toNat : Nat) : Int) := (by have k9 := x_737; unfold mp_NX; rw [← Int.toNat_natCast (mp_TE _ _ _), ← x_713.2.2.1]; exact k9)
                  have k_761 := x_738.2.1
                  let w31_ : va_W := [(mp_arI E a2 0 5 f1), (mp_arI E a4 0 180 f3), (mp_arI E a5 3 3000 f4), (mp_arI E a6 0 90 f5), (mp_arI E a7 0 300 g_375), (mp_arI E a3 0 25 f2), (mp_ob10 a0 y0 a8 a9 a10 a11 a1 y1 r_720 r_721 r_722 r_723 r_724 i_706 i_707 y9 y10 a2 a3 a4 a5 a6 a7 a12 a13 y11 a14 a15 a16 a17 y12 y13 y14 a18 a19 y15 y16 a20 a21 a22 y17 y18 y19 y20 a23 a24 a25 y21), (mp_arI E a1 1 1600 f0)]
                  show mp_W E X 3 216 [(2, .int 1), (1, .int z_18), (0, .ref a0)] [] w31_ 0 0
                  have jp_775 : ∀ (g_762 : Nat → Int32), mp_res g_762 300 6 0 0 5 → mp_res g_762 300 6 1 0 5 → mp_res g_762 300 6 3 0 99 → mp_res g_762 300 6 4 0 1 → mp_keep g_762 f6 240 → mp_prmo g_762 240 (f2 23).toInt → (r_720.toInt ≤ y1.toInt) → (5 * (y1.toInt - r_720.toInt) + r_721.toInt ≤ (5 * (y1.toInt - y2.toInt) + y3.toInt)) → (i_706.toInt ≠ 0 ∨ (-1 ≤ (g_762 (240 + 6 * (f2 23).toInt.toNat + 5)).toInt ∧ (g_762 (240 + 6 * (f2 23).toInt.toNat + 5)).toInt < (f2 23).toInt)) → (mp_GO (mp_aft f0 (y1.toInt).toNat (mp_gPro2 mp_gop f0 (y1.toInt).toNat (y4.toInt).toNat ((f2 20).toInt, (f2 21).toInt, (f2 22).toInt, (f2 23).toInt, (f1 4).toInt) (mp_dM f3 f4 f5 f6))) i_706.toInt i_707.toInt (mp_aft f0 (y1.toInt).toNat (mp_gQm mp_gop f0 (y1.toInt).toNat ((f2 20).toInt, (f2 21).toInt, (f2 22).toInt, (f2 23).toInt + 1, (f1 4).toInt) (f2 23).toInt (mp_rm (decide ((g_762 (240 + 6 * (f2 23).toInt.toNat + 4)).toInt = 1)) (decide ((g_762 (240 + 6 * (f2 23).toInt.toNat + 5)).toInt ≠ -1))) (decide ((g_762 (240 + 6 * (f2 23).toInt.toNat + 4)).toInt = 1)) (decide ((g_762 (240 + 6 * (f2 23).toInt.toNat + 5)).toInt ≠ -1)) (r_722.toInt).toNat (mp_dM f3 f4 f5 g_762)))) → (mp_MT f0 y1.toInt r_721.toInt r_722.toInt r_720.toInt r_723.toInt r_724.toInt) → (5 * (y1.toInt - r_720.toInt) + r_721.toInt + 1 ≤ 5 * (y1.toInt - i_376.toInt) + i_377.toInt) → mp_W E X 3 252 [(2, .int 1), (1, .int z_18), (0, .ref a0)] [] [(mp_arI E a2 0 5 f1), (mp_arI E a4 0 180 f3), (mp_arI E a5 3 3000 f4), (mp_arI E a6 0 90 f5), (mp_arI E a7 0 300 g_762), (mp_arI E a3 0 25 f2), (mp_ob10 a0 y0 a8 a9 a10 a11 a1 y1 r_720 r_721 r_722 r_723 r_724 i_706 i_707 y9 y10 a2 a3 a4 a5 a6 a7 a12 a13 y11 a14 a15 a16 a17 y12 y13 y14 a18 a19 y15 y16 a20 a21 a22 y17 y18 y19 y20 a23 a24 a25 y21), (mp_arI E a1 1 1600 f0)] 0 0 := by
                    intro g_762 p_763 p_764 p_765 p_766 p_767 p_768 x_769 x_770 x_771 x_772 x_773 x_774
                    have k_776 := x_773.2.1
                    refine mp_run mp_k_cX10_promiseLine_ok hF mp_tabX10_ok [mp_h (.goto (-121)) [131]] (by decide +kernel) ?_
                    let w32_ : va_W := [(mp_arI E a2 0 5 f1), (mp_arI E a4 0 180 f3), (mp_arI E a5 3 3000 f4), (mp_arI E a6 0 90 f5), (mp_arI E a7 0 300 g_762), (mp_arI E a3 0 25 f2), (mp_ob10 a0 y0 a8 a9 a10 a11 a1 y1 r_720 r_721 r_722 r_723 r_724 i_706 i_707 y9 y10 a2 a3 a4 a5 a6 a7 a12 a13 y11 a14 a15 a16 a17 y12 y13 y14 a18 a19 y15 y16 a20 a21 a22 y17 y18 y19 y20 a23 a24 a25 y21), (mp_arI E a1 1 1600 f0)]
                    show mp_W E X 3 131 [(2, .int 1), (1, .int z_18), (0, .ref a0)] [] w32_ 0 0
                    exact mp_sub [1, 2] rfl [0, 1, 2, 3, 4, 5, 6, 7] rfl rfl (ih_402 (d_401 - 1) (by omega) g_762 r_720 r_721 r_722 r_723 r_724 i_706 i_707 p_763 p_764 p_765 p_766 p_767 p_768 l_725 u_726 l_727 u_728 l_729 u_730 (by first | omega | decide) (by first | omega | decide) (by first | omega | decide) x_772 x_773 (by omega))
                  refine mp_run mp_k_cX10_promiseLine_ok hF mp_tabX10_ok [mp_i (.iload_n 2), mp_h (.ifCond .eq 15) [232]] (by decide +kernel) ?_
                  refine And.intro (fun c_777 => absurd c_777 (by decide)) (fun _ => ?_)
                  show mp_W E X 3 220 [(2, .int 1), (1, .int z_18), (0, .ref a0)] [] w31_ 0 0
                  refine mp_run mp_k_cX10_promiseLine_ok hF mp_tabX10_ok [mp_i (.aload_n 0), mp_h (.getfield 47) [21, 6], mp_i (.iload_n 1), mp_c (.iconst 4) 4, mp_i .iadd, mp_c (.iconst 1) 1, mp_h .iastore [4]] (by decide +kernel) ?_
                  refine And.intro rfl (And.intro rfl ?_)
                  intro z_778 h_779
                  have e_780 : z_778.toInt = z_18.toInt + 4 := mp_add (a := z_18.toInt) (b := 4) h_779 rfl (by decide) (by omega) (by omega)
                  refine And.intro rfl (And.intro rfl (And.intro (vp_in_iff.mpr (by omega)) ?_))
                  intro g_781 h_782
                  have p_783 : mp_res g_781 300 6 0 0 5 := mp_res_st h_782 p_383 (by omega) (fun _ => by decide)
                  have p_784 : mp_res g_781 300 6 1 0 5 := mp_res_st h_782 p_384 (by omega) (fun _ => by decide)
                  have p_785 : mp_res g_781 300 6 3 0 99 := mp_res_st h_782 p_385 (by omega) (fun _ => by decide)
                  have p_786 : mp_res g_781 300 6 4 0 1 := mp_res_st h_782 p_386 (by omega) (fun _ => by decide)
                  have p_787 : mp_keep g_781 f6 240 := mp_keep_st h_782 p_387 (by omega)
                  have p_788 : mp_prmo g_781 240 (f2 23).toInt := mp_prmo_st h_782 p_388 (by omega)
                  have e_789 : (g_781 (240 + 6 * (f2 23).toInt.toNat + 5)).toInt = (g_375 (240 + 6 * (f2 23).toInt.toNat + 5)).toInt := mp_st_ne h_782 (by omega)
                  have e_790 : (g_781 (240 + 6 * (f2 23).toInt.toNat + 0)).toInt = (g_375 (240 + 6 * (f2 23).toInt.toNat + 0)).toInt := mp_st_ne h_782 (by omega)
                  have e_791 : (g_781 (240 + 6 * (f2 23).toInt.toNat + 4)).toInt = 1 := mp_st_eq h_782 (by omega)
                  let w33_ : va_W := [(mp_arI E a2 0 5 f1), (mp_arI E a4 0 180 f3), (mp_arI E a5 3 3000 f4), (mp_arI E a6 0 90 f5), (mp_arI E a7 0 300 g_781), (mp_arI E a3 0 25 f2), (mp_ob10 a0 y0 a8 a9 a10 a11 a1 y1 r_720 r_721 r_722 r_723 r_724 i_706 i_707 y9 y10 a2 a3 a4 a5 a6 a7 a12 a13 y11 a14 a15 a16 a17 y12 y13 y14 a18 a19 y15 y16 a20 a21 a22 y17 y18 y19 y20 a23 a24 a25 y21), (mp_arI E a1 1 1600 f0)]
                  show mp_W E X 3 229 [(2, .int 1), (1, .int z_18), (0, .ref a0)] [] w33_ 0 0
                  refine mp_run mp_k_cX10_promiseLine_ok hF mp_tabX10_ok [mp_h (.goto 23) [252]] (by decide +kernel) ?_
                  show mp_W E X 3 252 [(2, .int 1), (1, .int z_18), (0, .ref a0)] [] w33_ 0 0
                  exact mp_sub [0, 1, 2] rfl [0, 1, 2, 3, 4, 5, 6, 7] rfl rfl (jp_775 g_781 p_783 p_784 p_785 p_786 p_787 p_788 (by first | omega | decide) (by first | omega | decide) (by first | omega | decide) (mp_go_p2 (mp_go_qd x_711 (by first | omega | (dsimp only <;> omega) | decide) (by first | omega | (dsimp only <;> omega) | decide) (decide_eq_false (by first | omega | (dsimp only <;> omega) | decide)) nx_760) (Or.inr (mp_om_dru h_782 (by first | omega | (dsimp only <;> omega) | decide) (by first | omega | (dsimp only <;> omega) | decide))) (Or.inr (decide_eq_true (by first | omega | (dsimp only <;> omega) | decide)).symm) (Or.inr (congrArg (fun v : Int => decide (v ≠ -1)) (by first | omega | (dsimp only <;> omega) | decide)))) x_738 (by first | omega | decide))
                · have c_716 : i_706.toInt ≠ 0 := c_716
                  let w34_ : va_W := [(mp_arI E a2 0 5 f1), (mp_arI E a4 0 180 f3), (mp_arI E a5 3 3000 f4), (mp_arI E a6 0 90 f5), (mp_arI E a7 0 300 g_375), (mp_arI E a3 0 25 f2), (mp_ob10 a0 y0 a8 a9 a10 a11 a1 y1 i_376 i_377 i_378 i_379 i_380 i_706 i_707 y9 y10 a2 a3 a4 a5 a6 a7 a12 a13 y11 a14 a15 a16 a17 y12 y13 y14 a18 a19 y15 y16 a20 a21 a22 y17 y18 y19 y20 a23 a24 a25 y21), (mp_arI E a1 1 1600 f0)]
                  show mp_W E X 3 211 [(2, .int 1), (1, .int z_18), (0, .ref a0)] [] w34_ 0 0
                  exact mp_vret hF hQ rfl (Nat.le_of_ble_eq_true rfl) (Nat.le_of_ble_eq_true rfl) [6, 7, 0, 5, 1, 2, 3, 4] (w' := [(mp_ob10 a0 y0 a8 a9 a10 a11 a1 y1 i_376 i_377 i_378 i_379 i_380 i_706 i_707 y9 y10 a2 a3 a4 a5 a6 a7 a12 a13 y11 a14 a15 a16 a17 y12 y13 y14 a18 a19 y15 y16 a20 a21 a22 y17 y18 y19 y20 a23 a24 a25 y21), (mp_arI E a1 1 1600 f0), (mp_arI E a2 0 5 f1), (mp_arI E a3 0 25 f2), (mp_arI E a4 0 180 f3), (mp_arI E a5 3 3000 f4), (mp_arI E a6 0 90 f5), (mp_arI E a7 0 300 g_375)]) rfl rfl ⟨i_376, i_377, i_378, i_379, i_380, i_706, i_707, f2, g_375, rfl, l_389, u_390, l_391, u_392, l_393, u_394, p0, p1, p2, p3, p4, mp_keep_rfl, p_383, p_384, p_385, p_386, p_387, (by first | omega | decide), (by first | omega | decide), (by first | omega | decide), (by first | exact Or.inl (by omega) | exact mp_prmo_add (o := 240) p_388 (by omega) x_397 (by omega)), (mp_go_any x_711 (by omega)), x_713, rfl⟩ (by first | exact mp_fd_ok mp_k_cX10_promiseLine_ok (by decide +kernel) | decide +kernel)
              refine mp_run mp_k_cX10_promiseLine_ok hF mp_tabX10_ok [mp_i (.iload_n 2), mp_h (.ifCond .ne 13) [168]] (by decide +kernel) ?_
              refine And.intro (fun _ => ?_) (fun c_792 => absurd c_792 (by decide))
              show mp_W E X 3 168 [(2, .int 1), (1, .int z_18), (0, .ref a0)] [] w16_ 0 0
              refine mp_run mp_k_cX10_promiseLine_ok hF mp_tabX10_ok [mp_i (.iload_n 2), mp_h (.ifCond .eq 18) [187]] (by decide +kernel) ?_
              refine And.intro (fun c_793 => absurd c_793 (by decide)) (fun _ => ?_)
              show mp_W E X 3 172 [(2, .int 1), (1, .int z_18), (0, .ref a0)] [] w16_ 0 0
              refine mp_run mp_k_cX10_promiseLine_ok hF mp_tabX10_ok [mp_i (.aload_n 0), mp_h (.getfield 47) [21, 6], mp_i (.iload_n 1), mp_c (.iconst 4) 4, mp_i .iadd, mp_h .iaload [4], mp_c (.iconst 1) 1, mp_h (.if_icmp .ne 23) [204]] (by decide +kernel) ?_
              refine And.intro rfl (And.intro rfl ?_)
              intro z_794 h_795
              have e_796 : z_794.toInt = z_18.toInt + 4 := mp_add (a := z_18.toInt) (b := 4) h_795 rfl (by decide) (by omega) (by omega)
              refine And.intro rfl (And.intro rfl (And.intro (vp_in_iff.mpr (by omega)) ?_))
              intro z_797 h_798
              have e_799 : 0 ≤ z_797.toInt ∧ z_797.toInt ≤ 1 := mp_res_ld h_798 p_386 (by omega) (by omega) (by omega)
              have e_800 : z_797.toInt = (g_375 (240 + 6 * (f2 23).toInt.toNat + 4)).toInt := mp_at_i h_798 (by omega)
              refine And.intro (fun c_801 => ?_) (fun c_801 => ?_)
              · have c_801 : z_797.toInt ≠ 1 := c_801
                show mp_W E X 3 204 [(2, .int 1), (1, .int z_18), (0, .ref a0)] [] w16_ 0 0
                exact mp_sub [0, 1, 2] rfl [0, 1, 2, 3, 4, 5, 6, 7] rfl rfl (jp_714 i_381 i_382 (by first | omega | decide) (by first | omega | decide) (by first | omega | decide) x_398 (by omega) x_399)
              · have c_801 : z_797.toInt = 1 := (congrArg Int32.toInt c_801)
                show mp_W E X 3 184 [(2, .int 1), (1, .int z_18), (0, .ref a0)] [] w16_ 0 0
                refine mp_run mp_k_cX10_promiseLine_ok hF mp_tabX10_ok [mp_h (.goto 15) [199], mp_i (.aload_n 0), mp_c (.iconst 1) 1] (by decide +kernel) ?_
                show mp_W E X 3 201 [(2, .int 1), (1, .int z_18), (0, .ref a0)] [.int 1, .ref a0] w16_ 0 0
                refine mp_callV hF (As := [.int 1]) (rest := []) (wr := [(mp_arI E a2 0 5 f1), (mp_arI E a4 0 180 f3), (mp_arI E a5 3 3000 f4), (mp_arI E a6 0 90 f5), (mp_arI E a7 0 300 g_375), (mp_arI E a3 0 25 f2), (mp_arI E a1 1 1600 f0)]) (bX10_fails_20 E a0 a8 a9 a10 a11 a1 a2 a3 a4 a5 a6 a7 a12 a13 a14 a15 a16 a17 a18 a19 a20 a21 a22 a23 a24 a25 y0 y1 i_376 i_377 i_378 i_379 i_380 i_381 i_382 y9 y10 y11 y12 y13 y14 y15 y16 y17 y18 y19 y20 y21 l_y1 u_y1 l_389 u_390 l_391 u_392 l_393 u_394 l_y11 u_y11 l_y12 u_y12 l_y13 u_y13) mp_lkX10_160 6 rfl [6] [0, 1, 2, 3, 4, 5, 7] rfl rfl rfl rfl rfl ⟨(Nat.le_of_ble_eq_true rfl), (Nat.le_of_ble_eq_true rfl), (Nat.le_of_ble_eq_true rfl), (Nat.le_of_ble_eq_true rfl)⟩ (Nat.le_of_ble_eq_true rfl) (by first | exact mp_fd_ok mp_k_cX10_promiseLine_ok (by decide +kernel) | decide +kernel) (fun v_802 w_803 h_804 => ?_)
                refine h_804.elim fun r_805 q_809 => q_809.elim fun r_806 q_810 => q_810.elim fun e_811 q_812 => q_812.elim fun x_807 q_813 => q_813.elim fun x_808 e_814 => ?_
                clear h_804 q_809 q_810 q_812 q_813
                subst e_811
                subst e_814
                have go_815 : mp_GO (mp_aft f0 (y1.toInt).toNat (mp_gPro2 mp_gop f0 (y1.toInt).toNat (y4.toInt).toNat ((f2 20).toInt, (f2 21).toInt, (f2 22).toInt, (f2 23).toInt, (f1 4).toInt) (mp_dM f3 f4 f5 f6))) r_805.toInt r_806.toInt (mp_aft f0 (y1.toInt).toNat (mp_gQm mp_gop f0 (y1.toInt).toNat ((f2 20).toInt, (f2 21).toInt, (f2 22).toInt, (f2 23).toInt + 1, (f1 4).toInt) (f2 23).toInt (mp_rm (decide ((g_375 (240 + 6 * (f2 23).toInt.toNat + 4)).toInt = 1)) (decide ((g_375 (240 + 6 * (f2 23).toInt.toNat + 5)).toInt ≠ -1))) (decide ((g_375 (240 + 6 * (f2 23).toInt.toNat + 4)).toInt = 1)) (decide ((g_375 (240 + 6 * (f2 23).toInt.toNat + 5)).toInt ≠ -1)) (i_378.toInt).toNat (mp_dM f3 f4 f5 g_375))) := mp_go_qm x_398 (by first | omega | (dsimp only <;> omega) | decide) (by first | omega | (dsimp only <;> omega) | decide) (fun q => by have q1 := of_decide_eq_false q.1; have q2 := q.2; omega) (fun q => by have q1 := of_decide_eq_false q.1; have q2 := q.2; omega) (by first | omega | (dsimp only <;> omega) | decide) (by first | omega | (dsimp only <;> omega) | decide) (by first | omega | (dsimp only <;> omega) | decide)
                let w35_ : va_W := [(mp_arI E a2 0 5 f1), (mp_arI E a4 0 180 f3), (mp_arI E a5 3 3000 f4), (mp_arI E a6 0 90 f5), (mp_arI E a7 0 300 g_375), (mp_arI E a3 0 25 f2), (mp_arI E a1 1 1600 f0), (mp_ob10 a0 y0 a8 a9 a10 a11 a1 y1 i_376 i_377 i_378 i_379 i_380 r_805 r_806 y9 y10 a2 a3 a4 a5 a6 a7 a12 a13 y11 a14 a15 a16 a17 y12 y13 y14 a18 a19 y15 y16 a20 a21 a22 y17 y18 y19 y20 a23 a24 a25 y21)]
                show mp_W E X 3 204 [(2, .int 1), (1, .int z_18), (0, .ref a0)] [] w35_ 0 0
                exact mp_sub [0, 1, 2] rfl [0, 1, 2, 3, 4, 5, 7, 6] rfl rfl (jp_714 r_805 r_806 (by first | omega | decide) (by first | omega | decide) (by first | omega | decide) go_815 (by omega) x_399)
    exact mp_sub [0, 1] rfl [0, 1, 2, 3, 4, 5, 6, 7] rfl rfl (lp_400 _ g_364 r_283 r_284 r_285 r_286 r_287 r_288 r_289 p_366 p_367 p_368 p_369 p_370 p_371 l_291 u_292 l_293 u_294 l_295 u_296 (by first | omega | decide) (by first | omega | decide) (by first | omega | decide) (mp_go_q0 go_334 (mp_om_q5 h_71 h_184 h_254 h_337 h_351 h_365 (by first | omega | (dsimp only <;> omega) | decide) (by first | omega | (dsimp only <;> omega) | decide) (by first | omega | (dsimp only <;> omega) | decide) (by first | omega | (dsimp only <;> omega) | decide) (by first | omega | (dsimp only <;> omega) | decide) (by first | omega | (dsimp only <;> omega) | decide) (by first | omega | (dsimp only <;> omega) | decide) (by first | omega | (dsimp only <;> omega) | decide) (by first | omega | (dsimp only <;> omega) | decide) (by first | omega | (dsimp only <;> omega) | decide) (by first | omega | (dsimp only <;> omega) | decide)) (decide_eq_false (by first | omega | (dsimp only <;> omega) | decide)) (decide_eq_false (by first | omega | (dsimp only <;> omega) | decide))) x_303 (Int.self_le_toNat _))
  refine mp_run mp_k_cX10_promiseLine_ok hF mp_tabX10_ok [mp_i (.aload_n 0), mp_h (.getfield 144) [12, 6], mp_h (.ifCond .ne 29) [62]] (by decide +kernel) ?_
  refine And.intro rfl (And.intro rfl ?_)
  refine And.intro (fun c_816 => ?_) (fun c_816 => ?_)
  · have c_816 : r_89.toInt ≠ 0 := c_816
    show mp_W E X 3 62 [(1, .int z_18), (0, .ref a0)] [] w5_ 0 0
    exact mp_sub [0, 1] rfl [0, 1, 2, 3, 4, 5, 6, 7] rfl rfl (jp_129 r_89 r_90 (by first | omega | decide) (by first | omega | decide) (mp_go_sub (K := (fun A_ => (mp_aft f0 (y1.toInt).toNat (mp_kn f0 (y1.toInt).toNat (r_86.toInt).toNat 0 ((f2 22).toInt - 1) A_ ((f2 20).toInt, (f2 21).toInt, (f2 22).toInt, (f2 23).toInt, (f1 4).toInt) (mp_dM f3 f4 f5 f6) (fun b s => mp_kw f0 (y1.toInt).toNat s 12532058 ((f2 20).toInt, (f2 21).toInt, (f2 22).toInt, (f2 23).toInt, (f1 4).toInt) (mp_dM f3 f4 f5 f6) fun s => mp_kn f0 (y1.toInt).toNat s 1 1000000 (-1) ((f2 20).toInt, (f2 21).toInt, (f2 22).toInt, (f2 23).toInt, (f1 4).toInt) (mp_dM f3 f4 f5 f6) fun w s => mp_kw f0 (y1.toInt).toNat s 374953 ((f2 20).toInt, (f2 21).toInt, (f2 22).toInt, (f2 23).toInt, (f1 4).toInt) (mp_dM f3 f4 f5 f6) fun s => mp_kn f0 (y1.toInt).toNat s 0 (f2 21).toInt (-1) ((f2 20).toInt, (f2 21).toInt, (f2 22).toInt, (f2 23).toInt, (f1 4).toInt) (mp_dM f3 f4 f5 f6) fun m s => mp_gQm mp_gop f0 (y1.toInt).toNat ((f2 20).toInt, (f2 21).toInt, (f2 22).toInt, (f2 23).toInt + 1, (f1 4).toInt) (f2 23).toInt 2 false false s (mp_gop (mp_dM f3 f4 f5 f6) 5 (f2 23).toInt A_ b w m)))))) (x := r_31.toInt) go_120 (by first | omega | (dsimp only <;> omega) | decide)) (by first | omega | (have k8 := x_100.2.2.2.1; unfold mp_capR at k8; omega)) x_100)
  · have c_816 : r_89.toInt = 0 := (congrArg Int32.toInt c_816)
    show mp_W E X 3 36 [(1, .int z_18), (0, .ref a0)] [] w5_ 0 0
    refine mp_run mp_k_cX10_promiseLine_ok hF mp_tabX10_ok [mp_i (.aload_n 0), mp_h (.getfield 133) [8, 6], mp_c (.iconst 2) 2, mp_h (.if_icmp .ne 21) [62]] (by decide +kernel) ?_
    refine And.intro rfl (And.intro rfl ?_)
    refine And.intro (fun c_817 => ?_) (fun c_817 => ?_)
    · have c_817 : r_85.toInt ≠ 2 := c_817
      show mp_W E X 3 62 [(1, .int z_18), (0, .ref a0)] [] w5_ 0 0
      exact mp_sub [0, 1] rfl [0, 1, 2, 3, 4, 5, 6, 7] rfl rfl (jp_129 r_89 r_90 (by first | omega | decide) (by first | omega | decide) (mp_go_sub (K := (fun A_ => (mp_aft f0 (y1.toInt).toNat (mp_kn f0 (y1.toInt).toNat (r_86.toInt).toNat 0 ((f2 22).toInt - 1) A_ ((f2 20).toInt, (f2 21).toInt, (f2 22).toInt, (f2 23).toInt, (f1 4).toInt) (mp_dM f3 f4 f5 f6) (fun b s => mp_kw f0 (y1.toInt).toNat s 12532058 ((f2 20).toInt, (f2 21).toInt, (f2 22).toInt, (f2 23).toInt, (f1 4).toInt) (mp_dM f3 f4 f5 f6) fun s => mp_kn f0 (y1.toInt).toNat s 1 1000000 (-1) ((f2 20).toInt, (f2 21).toInt, (f2 22).toInt, (f2 23).toInt, (f1 4).toInt) (mp_dM f3 f4 f5 f6) fun w s => mp_kw f0 (y1.toInt).toNat s 374953 ((f2 20).toInt, (f2 21).toInt, (f2 22).toInt, (f2 23).toInt, (f1 4).toInt) (mp_dM f3 f4 f5 f6) fun s => mp_kn f0 (y1.toInt).toNat s 0 (f2 21).toInt (-1) ((f2 20).toInt, (f2 21).toInt, (f2 22).toInt, (f2 23).toInt, (f1 4).toInt) (mp_dM f3 f4 f5 f6) fun m s => mp_gQm mp_gop f0 (y1.toInt).toNat ((f2 20).toInt, (f2 21).toInt, (f2 22).toInt, (f2 23).toInt + 1, (f1 4).toInt) (f2 23).toInt 2 false false s (mp_gop (mp_dM f3 f4 f5 f6) 5 (f2 23).toInt A_ b w m)))))) (x := r_31.toInt) go_120 (by first | omega | (dsimp only <;> omega) | decide)) (by first | omega | (have k8 := x_100.2.2.2.1; unfold mp_capR at k8; omega)) x_100)
    · have c_817 : r_85.toInt = 2 := (congrArg Int32.toInt c_817)
      show mp_W E X 3 44 [(1, .int z_18), (0, .ref a0)] [] w5_ 0 0
      refine mp_run mp_k_cX10_promiseLine_ok hF mp_tabX10_ok [mp_i (.aload_n 0), mp_h (.getfield 126) [10, 6], mp_i (.aload_n 0), mp_h (.getfield 47) [21, 6], mp_i (.iload_n 1), mp_h .iaload [4], mp_h (.if_icmp .ne 8) [62]] (by decide +kernel) ?_
      refine And.intro rfl (And.intro rfl ?_)
      refine And.intro rfl (And.intro rfl ?_)
      refine And.intro rfl (And.intro rfl (And.intro (vp_in_iff.mpr (by omega)) ?_))
      intro z_818 h_819
      have e_820 : 0 ≤ z_818.toInt ∧ z_818.toInt ≤ 5 := mp_res_ld h_819 p_72 (by omega) (by omega) (by omega)
      have e_821 : z_818.toInt = (g_70 (240 + 6 * (f2 23).toInt.toNat + 0)).toInt := mp_at_i h_819 (by omega)
      refine And.intro (fun c_822 => ?_) (fun c_822 => ?_)
      · have c_822 : r_87.toInt ≠ z_818.toInt := c_822
        show mp_W E X 3 62 [(1, .int z_18), (0, .ref a0)] [] w5_ 0 0
        exact mp_sub [0, 1] rfl [0, 1, 2, 3, 4, 5, 6, 7] rfl rfl (jp_129 r_89 r_90 (by first | omega | decide) (by first | omega | decide) (mp_go_sub (K := (fun A_ => (mp_aft f0 (y1.toInt).toNat (mp_kn f0 (y1.toInt).toNat (r_86.toInt).toNat 0 ((f2 22).toInt - 1) A_ ((f2 20).toInt, (f2 21).toInt, (f2 22).toInt, (f2 23).toInt, (f1 4).toInt) (mp_dM f3 f4 f5 f6) (fun b s => mp_kw f0 (y1.toInt).toNat s 12532058 ((f2 20).toInt, (f2 21).toInt, (f2 22).toInt, (f2 23).toInt, (f1 4).toInt) (mp_dM f3 f4 f5 f6) fun s => mp_kn f0 (y1.toInt).toNat s 1 1000000 (-1) ((f2 20).toInt, (f2 21).toInt, (f2 22).toInt, (f2 23).toInt, (f1 4).toInt) (mp_dM f3 f4 f5 f6) fun w s => mp_kw f0 (y1.toInt).toNat s 374953 ((f2 20).toInt, (f2 21).toInt, (f2 22).toInt, (f2 23).toInt, (f1 4).toInt) (mp_dM f3 f4 f5 f6) fun s => mp_kn f0 (y1.toInt).toNat s 0 (f2 21).toInt (-1) ((f2 20).toInt, (f2 21).toInt, (f2 22).toInt, (f2 23).toInt, (f1 4).toInt) (mp_dM f3 f4 f5 f6) fun m s => mp_gQm mp_gop f0 (y1.toInt).toNat ((f2 20).toInt, (f2 21).toInt, (f2 22).toInt, (f2 23).toInt + 1, (f1 4).toInt) (f2 23).toInt 2 false false s (mp_gop (mp_dM f3 f4 f5 f6) 5 (f2 23).toInt A_ b w m)))))) (x := r_31.toInt) go_120 (by first | omega | (dsimp only <;> omega) | decide)) (by first | omega | (have k8 := x_100.2.2.2.1; unfold mp_capR at k8; omega)) x_100)
      · have c_822 : r_87.toInt = z_818.toInt := (congrArg Int32.toInt c_822)
        show mp_W E X 3 57 [(1, .int z_18), (0, .ref a0)] [] w5_ 0 0
        refine mp_run mp_k_cX10_promiseLine_ok hF mp_tabX10_ok [mp_i (.aload_n 0), mp_c (.iconst 2) 2] (by decide +kernel) ?_
        show mp_W E X 3 59 [(1, .int z_18), (0, .ref a0)] [.int 2, .ref a0] w5_ 0 0
        refine mp_callV hF (As := [.int 2]) (rest := []) (wr := [(mp_arI E a2 0 5 f1), (mp_arI E a4 0 180 f3), (mp_arI E a5 3 3000 f4), (mp_arI E a6 0 90 f5), (mp_arI E a7 0 300 g_70), (mp_arI E a3 0 25 f2), (mp_arI E a1 1 1600 f0)]) (bX10_fails_23 E a0 a8 a9 a10 a11 a1 a2 a3 a4 a5 a6 a7 a12 a13 a14 a15 a16 a17 a18 a19 a20 a21 a22 a23 a24 a25 y0 y1 r_84 r_85 r_86 r_87 r_88 r_89 r_90 y9 y10 y11 y12 y13 y14 y15 y16 y17 y18 y19 y20 y21 l_y1 u_y1 l_91 u_92 l_93 u_94 l_95 u_96 l_y11 u_y11 l_y12 u_y12 l_y13 u_y13) mp_lkX10_160 6 rfl [6] [0, 1, 2, 3, 4, 5, 7] rfl rfl rfl rfl rfl ⟨(Nat.le_of_ble_eq_true rfl), (Nat.le_of_ble_eq_true rfl), (Nat.le_of_ble_eq_true rfl), (Nat.le_of_ble_eq_true rfl)⟩ (Nat.le_of_ble_eq_true rfl) (by first | exact mp_fd_ok mp_k_cX10_promiseLine_ok (by decide +kernel) | decide +kernel) (fun v_823 w_824 h_825 => ?_)
        refine h_825.elim fun r_826 q_830 => q_830.elim fun r_827 q_831 => q_831.elim fun e_832 q_833 => q_833.elim fun x_828 q_834 => q_834.elim fun x_829 e_835 => ?_
        clear h_825 q_830 q_831 q_833 q_834
        subst e_832
        subst e_835
        have go_836 : mp_GO (mp_aft f0 (y1.toInt).toNat (mp_gPro2 mp_gop f0 (y1.toInt).toNat (y4.toInt).toNat ((f2 20).toInt, (f2 21).toInt, (f2 22).toInt, (f2 23).toInt, (f1 4).toInt) (mp_dM f3 f4 f5 f6))) r_826.toInt r_827.toInt (mp_aft f0 (y1.toInt).toNat (mp_kn f0 (y1.toInt).toNat (r_86.toInt).toNat 0 ((f2 22).toInt - 1) (g_70 (240 + 6 * (f2 23).toInt.toNat + 0)).toInt ((f2 20).toInt, (f2 21).toInt, (f2 22).toInt, (f2 23).toInt, (f1 4).toInt) (mp_dM f3 f4 f5 f6) (fun b s => mp_kw f0 (y1.toInt).toNat s 12532058 ((f2 20).toInt, (f2 21).toInt, (f2 22).toInt, (f2 23).toInt, (f1 4).toInt) (mp_dM f3 f4 f5 f6) fun s => mp_kn f0 (y1.toInt).toNat s 1 1000000 (-1) ((f2 20).toInt, (f2 21).toInt, (f2 22).toInt, (f2 23).toInt, (f1 4).toInt) (mp_dM f3 f4 f5 f6) fun w s => mp_kw f0 (y1.toInt).toNat s 374953 ((f2 20).toInt, (f2 21).toInt, (f2 22).toInt, (f2 23).toInt, (f1 4).toInt) (mp_dM f3 f4 f5 f6) fun s => mp_kn f0 (y1.toInt).toNat s 0 (f2 21).toInt (-1) ((f2 20).toInt, (f2 21).toInt, (f2 22).toInt, (f2 23).toInt, (f1 4).toInt) (mp_dM f3 f4 f5 f6) fun m s => mp_gQm mp_gop f0 (y1.toInt).toNat ((f2 20).toInt, (f2 21).toInt, (f2 22).toInt, (f2 23).toInt + 1, (f1 4).toInt) (f2 23).toInt 2 false false s (mp_gop (mp_dM f3 f4 f5 f6) 5 (f2 23).toInt (g_70 (240 + 6 * (f2 23).toInt.toNat + 0)).toInt b w m)))) := mp_go_bar (mp_go_sub (K := (fun A_ => (mp_aft f0 (y1.toInt).toNat (mp_kn f0 (y1.toInt).toNat (r_86.toInt).toNat 0 ((f2 22).toInt - 1) A_ ((f2 20).toInt, (f2 21).toInt, (f2 22).toInt, (f2 23).toInt, (f1 4).toInt) (mp_dM f3 f4 f5 f6) (fun b s => mp_kw f0 (y1.toInt).toNat s 12532058 ((f2 20).toInt, (f2 21).toInt, (f2 22).toInt, (f2 23).toInt, (f1 4).toInt) (mp_dM f3 f4 f5 f6) fun s => mp_kn f0 (y1.toInt).toNat s 1 1000000 (-1) ((f2 20).toInt, (f2 21).toInt, (f2 22).toInt, (f2 23).toInt, (f1 4).toInt) (mp_dM f3 f4 f5 f6) fun w s => mp_kw f0 (y1.toInt).toNat s 374953 ((f2 20).toInt, (f2 21).toInt, (f2 22).toInt, (f2 23).toInt, (f1 4).toInt) (mp_dM f3 f4 f5 f6) fun s => mp_kn f0 (y1.toInt).toNat s 0 (f2 21).toInt (-1) ((f2 20).toInt, (f2 21).toInt, (f2 22).toInt, (f2 23).toInt, (f1 4).toInt) (mp_dM f3 f4 f5 f6) fun m s => mp_gQm mp_gop f0 (y1.toInt).toNat ((f2 20).toInt, (f2 21).toInt, (f2 22).toInt, (f2 23).toInt + 1, (f1 4).toInt) (f2 23).toInt 2 false false s (mp_gop (mp_dM f3 f4 f5 f6) 5 (f2 23).toInt A_ b w m)))))) (x := r_31.toInt) go_120 (by first | omega | (dsimp only <;> omega) | decide)) (by first | omega | (dsimp only <;> omega) | decide) (by first | omega | (dsimp only <;> omega) | decide) (by have k8 := x_100.2.2.2.1; unfold mp_capR at k8; omega) (by first | omega | (dsimp only <;> omega) | decide) (by first | omega | (dsimp only <;> omega) | decide) (by first | omega | (dsimp only <;> omega) | decide)
        let w36_ : va_W := [(mp_arI E a2 0 5 f1), (mp_arI E a4 0 180 f3), (mp_arI E a5 3 3000 f4), (mp_arI E a6 0 90 f5), (mp_arI E a7 0 300 g_70), (mp_arI E a3 0 25 f2), (mp_arI E a1 1 1600 f0), (mp_ob10 a0 y0 a8 a9 a10 a11 a1 y1 r_84 r_85 r_86 r_87 r_88 r_826 r_827 y9 y10 a2 a3 a4 a5 a6 a7 a12 a13 y11 a14 a15 a16 a17 y12 y13 y14 a18 a19 y15 y16 a20 a21 a22 y17 y18 y19 y20 a23 a24 a25 y21)]
        show mp_W E X 3 62 [(1, .int z_18), (0, .ref a0)] [] w36_ 0 0
        exact mp_sub [0, 1] rfl [0, 1, 2, 3, 4, 5, 7, 6] rfl rfl (jp_129 r_826 r_827 (by first | omega | decide) (by first | omega | decide) go_836 (by first | omega | (have k8 := x_100.2.2.2.1; unfold mp_capR at k8; omega)) x_100)
