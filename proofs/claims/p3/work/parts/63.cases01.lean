set_option maxHeartbeats 4000000 in
set_option maxRecDepth 100000 in
theorem mp_case_58 {E : mp_E} {X : mp_X} {b L : Nat} {xs : Nat → Int32} (hL : mp_Lw E X b L xs) (h3 : L ≤ 3072) {i : Int32} (hi0 : 0 ≤ i.toInt) (hi6 : i.toInt + 6 ≤ L) {q1 q2 : Nat} {len : Int} {sw sl mw mm : Nat → Int32} {A B : va_W} {k n : Nat} (hSL : mp_SL sw sl mw mm) (hA : mp_IC E q1 len sw sl A) (hB : mp_IM E q2 len mw mm B) (hk : k + 13 ≤ 706714) (hn : n + 204 ≤ 6982106) (kk : ∀ (len2 : Int) (sw2 sl2 mw2 mm2 : Nat → Int32) (A2 B2 : va_W) (k2 n2 : Nat), mp_SL sw2 sl2 mw2 mm2 → mp_IC E q1 len2 sw2 sl2 A2 → mp_IM E q2 len2 mw2 mm2 B2 → k2 ≤ k + 13 → n2 ≤ n + 204 → mp_W E X 4 2218 [(3, .int i), (2, .ref q2), (1, .ref q1), (0, .ref b)] [] (A2 ++ B2) k2 n2) : mp_W E X 4 2082 [(3, .int i), (2, .ref q2), (1, .ref q1), (0, .ref b)] [] (A ++ B) k n := by
  have hF : mp_F E X mp_ML := hL.1
  show mp_W E X 4 2082 [(3, .int i), (2, .ref q2), (1, .ref q1), (0, .ref b)] [] (A ++ B) k n
  refine mp_run hF mp_tabL_ok [mp_i (.aload_n 1), mp_i (.aload_n 0), mp_i (.iload_n 3), mp_c (.iconst 1) 1, mp_i .iadd] (by decide +kernel) ?_
  intro z_1 h_2
  have e_3 : z_1.toInt = i.toInt + 1 := mp_add (a := i.toInt) (b := 1) h_2 rfl (by decide) (by omega) (by omega)
  show mp_W E X 4 2087 [(3, .int i), (2, .ref q2), (1, .ref q1), (0, .ref b)] [.int z_1, .ref b, .ref q1] (A ++ B) k n
  refine mp_lsld hL (by omega) (by omega) (by decide +kernel) (fun v_4 hv_5 => ?_)
  show mp_W E X 4 2088 [(3, .int i), (2, .ref q2), (1, .ref q1), (0, .ref b)] [.int v_4, .ref q1] (A ++ B) k n
  refine mp_run hF mp_tabL_ok [mp_i (.aload_n 0), mp_i (.iload_n 3), mp_c (.iconst 2) 2, mp_i .iadd] (by decide +kernel) ?_
  intro z_6 h_7
  have e_8 : z_6.toInt = i.toInt + 2 := mp_add (a := i.toInt) (b := 2) h_7 rfl (by decide) (by omega) (by omega)
  show mp_W E X 4 2092 [(3, .int i), (2, .ref q2), (1, .ref q1), (0, .ref b)] [.int z_6, .ref b, .int v_4, .ref q1] (A ++ B) k n
  refine mp_lsld hL (by omega) (by omega) (by decide +kernel) (fun v_9 hv_10 => ?_)
  show mp_W E X 4 2093 [(3, .int i), (2, .ref q2), (1, .ref q1), (0, .ref b)] [.int v_9, .int v_4, .ref q1] (A ++ B) k n
  refine mp_run hF mp_tabL_ok [mp_i (.aload_n 0), mp_i (.iload_n 3), mp_c (.iconst 3) 3, mp_i .iadd] (by decide +kernel) ?_
  intro z_11 h_12
  have e_13 : z_11.toInt = i.toInt + 3 := mp_add (a := i.toInt) (b := 3) h_12 rfl (by decide) (by omega) (by omega)
  show mp_W E X 4 2097 [(3, .int i), (2, .ref q2), (1, .ref q1), (0, .ref b)] [.int z_11, .ref b, .int v_9, .int v_4, .ref q1] (A ++ B) k n
  refine mp_lsld hL (by omega) (by omega) (by decide +kernel) (fun v_14 hv_15 => ?_)
  show mp_W E X 4 2098 [(3, .int i), (2, .ref q2), (1, .ref q1), (0, .ref b)] [.int v_14, .int v_9, .int v_4, .ref q1] (A ++ B) k n
  refine mp_run hF mp_tabL_ok [mp_i .i2l, mp_c (.bipush 32) 32, mp_i .lshl, mp_i (.aload_n 0), mp_i (.iload_n 3), mp_c (.iconst 4) 4, mp_i .iadd] (by decide +kernel) ?_
  intro z_16 h_17
  have e_18 : z_16.toInt = v_14.toInt := mp_i2l h_17
  intro z_19 h_20
  intro z_21 h_22
  have e_23 : z_21.toInt = i.toInt + 4 := mp_add (a := i.toInt) (b := 4) h_22 rfl (by decide) (by omega) (by omega)
  show mp_W E X 4 2106 [(3, .int i), (2, .ref q2), (1, .ref q1), (0, .ref b)] [.int z_21, .ref b, .long z_19, .int v_9, .int v_4, .ref q1] (A ++ B) k n
  refine mp_lsld hL (by omega) (by omega) (by decide +kernel) (fun v_24 hv_25 => ?_)
  show mp_W E X 4 2107 [(3, .int i), (2, .ref q2), (1, .ref q1), (0, .ref b)] [.int v_24, .long z_19, .int v_9, .int v_4, .ref q1] (A ++ B) k n
  refine mp_run hF mp_tabL_ok [mp_i .i2l, mp_cl (.ldc2_w 252) 4294967295, mp_i .land, mp_i .lor] (by decide +kernel) ?_
  intro z_26 h_27
  have e_28 : z_26.toInt = v_24.toInt := mp_i2l h_27
  intro z_29 h_30
  intro z_31 h_32
  show mp_W E X 4 2113 [(3, .int i), (2, .ref q2), (1, .ref q1), (0, .ref b)] [.long z_31, .int v_9, .int v_4, .ref q1] (A ++ B) k n
  refine mp_cc_write hF v_4 v_9 z_31 hA (by decide +kernel) (by omega) (by omega) (Nat.le_of_ble_eq_true rfl) (fun r_33 A_34 l_35 k_36 n_37 hI_38 hr_39 hk_40 hn_41 => ?_)
  show mp_W E X 4 2116 [(3, .int i), (2, .ref q2), (1, .ref q1), (0, .ref b)] [.int r_33] (A_34 ++ B) k_36 n_37
  refine mp_run hF mp_tabL_ok [mp_i .pop, mp_i (.aload_n 2), mp_i (.aload_n 0), mp_i (.iload_n 3), mp_c (.iconst 1) 1, mp_i .iadd] (by decide +kernel) ?_
  refine And.intro rfl ?_
  intro z_44 h_45
  have e_46 : z_44.toInt = i.toInt + 1 := mp_add (a := i.toInt) (b := 1) h_45 rfl (by decide) (by omega) (by omega)
  show mp_W E X 4 2122 [(3, .int i), (2, .ref q2), (1, .ref q1), (0, .ref b)] [.int z_44, .ref b, .ref q2] (A_34 ++ B) k_36 n_37
  refine mp_lsld hL (by omega) (by omega) (by decide +kernel) (fun v_47 hv_48 => ?_)
  have e_49 := mp_xs_same hv_5 hv_48 (by omega)
  subst e_49
  show mp_W E X 4 2123 [(3, .int i), (2, .ref q2), (1, .ref q1), (0, .ref b)] [.int v_4, .ref q2] (A_34 ++ B) k_36 n_37
  refine mp_run hF mp_tabL_ok [mp_i (.aload_n 0), mp_i (.iload_n 3), mp_c (.iconst 2) 2, mp_i .iadd] (by decide +kernel) ?_
  intro z_50 h_51
  have e_52 : z_50.toInt = i.toInt + 2 := mp_add (a := i.toInt) (b := 2) h_51 rfl (by decide) (by omega) (by omega)
  show mp_W E X 4 2127 [(3, .int i), (2, .ref q2), (1, .ref q1), (0, .ref b)] [.int z_50, .ref b, .int v_4, .ref q2] (A_34 ++ B) k_36 n_37
  refine mp_lsld hL (by omega) (by omega) (by decide +kernel) (fun v_53 hv_54 => ?_)
  have e_55 := mp_xs_same hv_10 hv_54 (by omega)
  subst e_55
  show mp_W E X 4 2128 [(3, .int i), (2, .ref q2), (1, .ref q1), (0, .ref b)] [.int v_9, .int v_4, .ref q2] (A_34 ++ B) k_36 n_37
  refine mp_run hF mp_tabL_ok [mp_i (.aload_n 0), mp_i (.iload_n 3), mp_c (.iconst 3) 3, mp_i .iadd] (by decide +kernel) ?_
  intro z_56 h_57
  have e_58 : z_56.toInt = i.toInt + 3 := mp_add (a := i.toInt) (b := 3) h_57 rfl (by decide) (by omega) (by omega)
  show mp_W E X 4 2132 [(3, .int i), (2, .ref q2), (1, .ref q1), (0, .ref b)] [.int z_56, .ref b, .int v_9, .int v_4, .ref q2] (A_34 ++ B) k_36 n_37
  refine mp_lsld hL (by omega) (by omega) (by decide +kernel) (fun v_59 hv_60 => ?_)
  have e_61 := mp_xs_same hv_15 hv_60 (by omega)
  subst e_61
  show mp_W E X 4 2133 [(3, .int i), (2, .ref q2), (1, .ref q1), (0, .ref b)] [.int v_14, .int v_9, .int v_4, .ref q2] (A_34 ++ B) k_36 n_37
  refine mp_run hF mp_tabL_ok [mp_i .i2l, mp_c (.bipush 32) 32, mp_i .lshl, mp_i (.aload_n 0), mp_i (.iload_n 3), mp_c (.iconst 4) 4, mp_i .iadd] (by decide +kernel) ?_
  intro z_62 h_63
  have e_64 : z_62.toInt = v_14.toInt := mp_i2l h_63
  intro z_65 h_66
  intro z_67 h_68
  have e_69 : z_67.toInt = i.toInt + 4 := mp_add (a := i.toInt) (b := 4) h_68 rfl (by decide) (by omega) (by omega)
  show mp_W E X 4 2141 [(3, .int i), (2, .ref q2), (1, .ref q1), (0, .ref b)] [.int z_67, .ref b, .long z_65, .int v_9, .int v_4, .ref q2] (A_34 ++ B) k_36 n_37
  refine mp_lsld hL (by omega) (by omega) (by decide +kernel) (fun v_70 hv_71 => ?_)
  have e_72 := mp_xs_same hv_25 hv_71 (by omega)
  subst e_72
  show mp_W E X 4 2142 [(3, .int i), (2, .ref q2), (1, .ref q1), (0, .ref b)] [.int v_24, .long z_65, .int v_9, .int v_4, .ref q2] (A_34 ++ B) k_36 n_37
  refine mp_run hF mp_tabL_ok [mp_i .i2l, mp_cl (.ldc2_w 252) 4294967295, mp_i .land, mp_i .lor] (by decide +kernel) ?_
  intro z_73 h_74
  have e_75 : z_73.toInt = v_24.toInt := mp_i2l h_74
  intro z_76 h_77
  intro z_78 h_79
  show mp_W E X 4 2148 [(3, .int i), (2, .ref q2), (1, .ref q1), (0, .ref b)] [.long z_78, .int v_9, .int v_4, .ref q2] (A_34 ++ B) k_36 n_37
  refine mp_swap ?_
  refine mp_cm_write hF v_4 v_9 z_78 hB (by decide +kernel) (by omega) (by omega) (Nat.le_of_ble_eq_true rfl) (fun r_80 A_81 l_82 k_83 n_84 hI_85 hr_86 hk_87 hn_88 => ?_)
  refine mp_swap ?_
  have hx_91 := mp_wrt_eq hSL hr_39.2 hr_86.2
  show mp_W E X 4 2151 [(3, .int i), (2, .ref q2), (1, .ref q1), (0, .ref b)] [.int r_80] (A_34 ++ A_81) k_83 n_84
  refine mp_run hF mp_tabL_ok [mp_i .pop, mp_h (.goto 66) [2218]] (by decide +kernel) ?_
  refine And.intro rfl ?_
  show mp_W E X 4 2218 [(3, .int i), (2, .ref q2), (1, .ref q1), (0, .ref b)] [] (A_34 ++ A_81) k_83 n_84
  have hl_ : l_35 = l_82 := by omega
  exact kk _ _ _ _ _ _ _ _ _ hSL hI_38 (hl_ ▸ hI_85) (by omega) (by omega)
set_option maxHeartbeats 4000000 in
set_option maxRecDepth 100000 in
theorem mp_case_59 {E : mp_E} {X : mp_X} {b L : Nat} {xs : Nat → Int32} (hL : mp_Lw E X b L xs) (h3 : L ≤ 3072) {i : Int32} (hi0 : 0 ≤ i.toInt) (hi6 : i.toInt + 6 ≤ L) {q1 q2 : Nat} {len : Int} {sw sl mw mm : Nat → Int32} {A B : va_W} {k n : Nat} (hSL : mp_SL sw sl mw mm) (hA : mp_IC E q1 len sw sl A) (hB : mp_IM E q2 len mw mm B) (hk : k + 13 ≤ 706714) (hn : n + 204 ≤ 6982106) (kk : ∀ (len2 : Int) (sw2 sl2 mw2 mm2 : Nat → Int32) (A2 B2 : va_W) (k2 n2 : Nat), mp_SL sw2 sl2 mw2 mm2 → mp_IC E q1 len2 sw2 sl2 A2 → mp_IM E q2 len2 mw2 mm2 B2 → k2 ≤ k + 13 → n2 ≤ n + 204 → mp_W E X 4 2218 [(3, .int i), (2, .ref q2), (1, .ref q1), (0, .ref b)] [] (A2 ++ B2) k2 n2) : mp_W E X 4 2155 [(3, .int i), (2, .ref q2), (1, .ref q1), (0, .ref b)] [] (A ++ B) k n := by
  have hF : mp_F E X mp_ML := hL.1
  show mp_W E X 4 2155 [(3, .int i), (2, .ref q2), (1, .ref q1), (0, .ref b)] [] (A ++ B) k n
  refine mp_run hF mp_tabL_ok [mp_i (.aload_n 1), mp_i (.aload_n 0), mp_i (.iload_n 3), mp_c (.iconst 1) 1, mp_i .iadd] (by decide +kernel) ?_
  intro z_1 h_2
  have e_3 : z_1.toInt = i.toInt + 1 := mp_add (a := i.toInt) (b := 1) h_2 rfl (by decide) (by omega) (by omega)
  show mp_W E X 4 2160 [(3, .int i), (2, .ref q2), (1, .ref q1), (0, .ref b)] [.int z_1, .ref b, .ref q1] (A ++ B) k n
  refine mp_lsld hL (by omega) (by omega) (by decide +kernel) (fun v_4 hv_5 => ?_)
  show mp_W E X 4 2161 [(3, .int i), (2, .ref q2), (1, .ref q1), (0, .ref b)] [.int v_4, .ref q1] (A ++ B) k n
  refine mp_run hF mp_tabL_ok [mp_i (.aload_n 0), mp_i (.iload_n 3), mp_c (.iconst 2) 2, mp_i .iadd] (by decide +kernel) ?_
  intro z_6 h_7
  have e_8 : z_6.toInt = i.toInt + 2 := mp_add (a := i.toInt) (b := 2) h_7 rfl (by decide) (by omega) (by omega)
  show mp_W E X 4 2165 [(3, .int i), (2, .ref q2), (1, .ref q1), (0, .ref b)] [.int z_6, .ref b, .int v_4, .ref q1] (A ++ B) k n
  refine mp_lsld hL (by omega) (by omega) (by decide +kernel) (fun v_9 hv_10 => ?_)
  show mp_W E X 4 2166 [(3, .int i), (2, .ref q2), (1, .ref q1), (0, .ref b)] [.int v_9, .int v_4, .ref q1] (A ++ B) k n
  refine mp_run hF mp_tabL_ok [mp_i (.aload_n 0), mp_i (.iload_n 3), mp_c (.iconst 3) 3, mp_i .iadd] (by decide +kernel) ?_
  intro z_11 h_12
  have e_13 : z_11.toInt = i.toInt + 3 := mp_add (a := i.toInt) (b := 3) h_12 rfl (by decide) (by omega) (by omega)
  show mp_W E X 4 2170 [(3, .int i), (2, .ref q2), (1, .ref q1), (0, .ref b)] [.int z_11, .ref b, .int v_9, .int v_4, .ref q1] (A ++ B) k n
  refine mp_lsld hL (by omega) (by omega) (by decide +kernel) (fun v_14 hv_15 => ?_)
  show mp_W E X 4 2171 [(3, .int i), (2, .ref q2), (1, .ref q1), (0, .ref b)] [.int v_14, .int v_9, .int v_4, .ref q1] (A ++ B) k n
  refine mp_run hF mp_tabL_ok [mp_i (.aload_n 0), mp_i (.iload_n 3), mp_c (.iconst 4) 4, mp_i .iadd] (by decide +kernel) ?_
  intro z_16 h_17
  have e_18 : z_16.toInt = i.toInt + 4 := mp_add (a := i.toInt) (b := 4) h_17 rfl (by decide) (by omega) (by omega)
  show mp_W E X 4 2175 [(3, .int i), (2, .ref q2), (1, .ref q1), (0, .ref b)] [.int z_16, .ref b, .int v_14, .int v_9, .int v_4, .ref q1] (A ++ B) k n
  refine mp_lsld hL (by omega) (by omega) (by decide +kernel) (fun v_19 hv_20 => ?_)
  show mp_W E X 4 2176 [(3, .int i), (2, .ref q2), (1, .ref q1), (0, .ref b)] [.int v_19, .int v_14, .int v_9, .int v_4, .ref q1] (A ++ B) k n
  refine mp_run hF mp_tabL_ok [mp_i (.aload_n 0), mp_i (.iload_n 3), mp_c (.iconst 5) 5, mp_i .iadd] (by decide +kernel) ?_
  intro z_21 h_22
  have e_23 : z_21.toInt = i.toInt + 5 := mp_add (a := i.toInt) (b := 5) h_22 rfl (by decide) (by omega) (by omega)
  show mp_W E X 4 2180 [(3, .int i), (2, .ref q2), (1, .ref q1), (0, .ref b)] [.int z_21, .ref b, .int v_19, .int v_14, .int v_9, .int v_4, .ref q1] (A ++ B) k n
  refine mp_lsld hL (by omega) (by omega) (by decide +kernel) (fun v_24 hv_25 => ?_)
  show mp_W E X 4 2181 [(3, .int i), (2, .ref q2), (1, .ref q1), (0, .ref b)] [.int v_24, .int v_19, .int v_14, .int v_9, .int v_4, .ref q1] (A ++ B) k n
  refine mp_cc_paste hF v_4 v_9 v_14 v_19 v_24 hA (by decide +kernel) (by omega) (by omega) (Nat.le_of_ble_eq_true rfl) (fun r_26 A_27 l_28 k_29 n_30 hI_31 hr_32 hk_33 hn_34 => ?_)
  show mp_W E X 4 2184 [(3, .int i), (2, .ref q2), (1, .ref q1), (0, .ref b)] [.int r_26] (A_27 ++ B) k_29 n_30
  refine mp_run hF mp_tabL_ok [mp_i .pop, mp_i (.aload_n 2), mp_i (.aload_n 0), mp_i (.iload_n 3), mp_c (.iconst 1) 1, mp_i .iadd] (by decide +kernel) ?_
  refine And.intro rfl ?_
  intro z_37 h_38
  have e_39 : z_37.toInt = i.toInt + 1 := mp_add (a := i.toInt) (b := 1) h_38 rfl (by decide) (by omega) (by omega)
  show mp_W E X 4 2190 [(3, .int i), (2, .ref q2), (1, .ref q1), (0, .ref b)] [.int z_37, .ref b, .ref q2] (A_27 ++ B) k_29 n_30
  refine mp_lsld hL (by omega) (by omega) (by decide +kernel) (fun v_40 hv_41 => ?_)
  have e_42 := mp_xs_same hv_5 hv_41 (by omega)
  subst e_42
  show mp_W E X 4 2191 [(3, .int i), (2, .ref q2), (1, .ref q1), (0, .ref b)] [.int v_4, .ref q2] (A_27 ++ B) k_29 n_30
  refine mp_run hF mp_tabL_ok [mp_i (.aload_n 0), mp_i (.iload_n 3), mp_c (.iconst 2) 2, mp_i .iadd] (by decide +kernel) ?_
  intro z_43 h_44
  have e_45 : z_43.toInt = i.toInt + 2 := mp_add (a := i.toInt) (b := 2) h_44 rfl (by decide) (by omega) (by omega)
  show mp_W E X 4 2195 [(3, .int i), (2, .ref q2), (1, .ref q1), (0, .ref b)] [.int z_43, .ref b, .int v_4, .ref q2] (A_27 ++ B) k_29 n_30
  refine mp_lsld hL (by omega) (by omega) (by decide +kernel) (fun v_46 hv_47 => ?_)
  have e_48 := mp_xs_same hv_10 hv_47 (by omega)
  subst e_48
  show mp_W E X 4 2196 [(3, .int i), (2, .ref q2), (1, .ref q1), (0, .ref b)] [.int v_9, .int v_4, .ref q2] (A_27 ++ B) k_29 n_30
  refine mp_run hF mp_tabL_ok [mp_i (.aload_n 0), mp_i (.iload_n 3), mp_c (.iconst 3) 3, mp_i .iadd] (by decide +kernel) ?_
  intro z_49 h_50
  have e_51 : z_49.toInt = i.toInt + 3 := mp_add (a := i.toInt) (b := 3) h_50 rfl (by decide) (by omega) (by omega)
  show mp_W E X 4 2200 [(3, .int i), (2, .ref q2), (1, .ref q1), (0, .ref b)] [.int z_49, .ref b, .int v_9, .int v_4, .ref q2] (A_27 ++ B) k_29 n_30
  refine mp_lsld hL (by omega) (by omega) (by decide +kernel) (fun v_52 hv_53 => ?_)
  have e_54 := mp_xs_same hv_15 hv_53 (by omega)
  subst e_54
  show mp_W E X 4 2201 [(3, .int i), (2, .ref q2), (1, .ref q1), (0, .ref b)] [.int v_14, .int v_9, .int v_4, .ref q2] (A_27 ++ B) k_29 n_30
  refine mp_run hF mp_tabL_ok [mp_i (.aload_n 0), mp_i (.iload_n 3), mp_c (.iconst 4) 4, mp_i .iadd] (by decide +kernel) ?_
  intro z_55 h_56
  have e_57 : z_55.toInt = i.toInt + 4 := mp_add (a := i.toInt) (b := 4) h_56 rfl (by decide) (by omega) (by omega)
  show mp_W E X 4 2205 [(3, .int i), (2, .ref q2), (1, .ref q1), (0, .ref b)] [.int z_55, .ref b, .int v_14, .int v_9, .int v_4, .ref q2] (A_27 ++ B) k_29 n_30
  refine mp_lsld hL (by omega) (by omega) (by decide +kernel) (fun v_58 hv_59 => ?_)
  have e_60 := mp_xs_same hv_20 hv_59 (by omega)
  subst e_60
  show mp_W E X 4 2206 [(3, .int i), (2, .ref q2), (1, .ref q1), (0, .ref b)] [.int v_19, .int v_14, .int v_9, .int v_4, .ref q2] (A_27 ++ B) k_29 n_30
  refine mp_run hF mp_tabL_ok [mp_i (.aload_n 0), mp_i (.iload_n 3), mp_c (.iconst 5) 5, mp_i .iadd] (by decide +kernel) ?_
  intro z_61 h_62
  have e_63 : z_61.toInt = i.toInt + 5 := mp_add (a := i.toInt) (b := 5) h_62 rfl (by decide) (by omega) (by omega)
  show mp_W E X 4 2210 [(3, .int i), (2, .ref q2), (1, .ref q1), (0, .ref b)] [.int z_61, .ref b, .int v_19, .int v_14, .int v_9, .int v_4, .ref q2] (A_27 ++ B) k_29 n_30
  refine mp_lsld hL (by omega) (by omega) (by decide +kernel) (fun v_64 hv_65 => ?_)
  have e_66 := mp_xs_same hv_25 hv_65 (by omega)
  subst e_66
  show mp_W E X 4 2211 [(3, .int i), (2, .ref q2), (1, .ref q1), (0, .ref b)] [.int v_24, .int v_19, .int v_14, .int v_9, .int v_4, .ref q2] (A_27 ++ B) k_29 n_30
  refine mp_swap ?_
  refine mp_cm_paste hF v_4 v_9 v_14 v_19 v_24 hB (by decide +kernel) (by omega) (by omega) (Nat.le_of_ble_eq_true rfl) (fun r_67 A_68 l_69 k_70 n_71 hI_72 hr_73 hk_74 hn_75 => ?_)
  refine mp_swap ?_
  have hx_78 := mp_pst_eq hSL hr_32.2 hr_73.2
  show mp_W E X 4 2214 [(3, .int i), (2, .ref q2), (1, .ref q1), (0, .ref b)] [.int r_67] (A_27 ++ A_68) k_70 n_71
  refine mp_run hF mp_tabL_ok [mp_i .pop, mp_h (.goto 3) [2218]] (by decide +kernel) ?_
  refine And.intro rfl ?_
  show mp_W E X 4 2218 [(3, .int i), (2, .ref q2), (1, .ref q1), (0, .ref b)] [] (A_27 ++ A_68) k_70 n_71
  have hl_ : l_28 = l_69 := by omega
  exact kk _ _ _ _ _ _ _ _ _ hSL hI_31 (hl_ ▸ hI_72) (by omega) (by omega)
