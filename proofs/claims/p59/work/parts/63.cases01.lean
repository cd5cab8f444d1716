set_option maxHeartbeats 4000000 in
set_option maxRecDepth 100000 in
theorem mp_case_57 {E : mp_E} {X : mp_X} {b L : Nat} {xs : Nat → Int32} (hL : mp_Lw E X b L xs) (h3 : L ≤ 3072) {i : Int32} (hi0 : 0 ≤ i.toInt) (hi6 : i.toInt + 6 ≤ L) {q1 q2 : Nat} {len : Int} {sw sl mw mm : Nat → Int32} {kp kq : Nat → Bool} {A B : va_W} {k n : Nat} (hSL : mp_SL sw sl mw mm) (hKP : mp_KP kp kq) (hA : mp_IC E q1 len sw sl kp A) (hB : mp_IM E q2 len mw mm kq B) (hk : k + 13 ≤ 600000) (hn : n + 204 ≤ 7302250) (kk : ∀ (len2 : Int) (sw2 sl2 mw2 mm2 : Nat → Int32) (kp2 kq2 : Nat → Bool) (A2 B2 : va_W) (k2 n2 : Nat), mp_SL sw2 sl2 mw2 mm2 → mp_KP kp2 kq2 → mp_IC E q1 len2 sw2 sl2 kp2 A2 → mp_IM E q2 len2 mw2 mm2 kq2 B2 → k2 ≤ k + 13 → n2 ≤ n + 204 → mp_W E X 4 2218 [(3, .int i), (2, .ref q2), (1, .ref q1), (0, .ref b)] [] (A2 ++ B2) k2 n2) : mp_W E X 4 2039 [(3, .int i), (2, .ref q2), (1, .ref q1), (0, .ref b)] [] (A ++ B) k n := by
  have hF : mp_F E X mp_ML := hL.1
  show mp_W E X 4 2039 [(3, .int i), (2, .ref q2), (1, .ref q1), (0, .ref b)] [] (A ++ B) k n
  refine mp_run hF mp_tabL_ok [mp_i (.aload_n 1), mp_i (.aload_n 0), mp_i (.iload_n 3), mp_c (.iconst 1) 1, mp_i .iadd] (by decide +kernel) ?_
  intro z_1 h_2
  have e_3 : z_1.toInt = i.toInt + 1 := mp_add (a := i.toInt) (b := 1) h_2 rfl (by decide) (by omega) (by omega)
  show mp_W E X 4 2044 [(3, .int i), (2, .ref q2), (1, .ref q1), (0, .ref b)] [.int z_1, .ref b, .ref q1] (A ++ B) k n
  refine mp_lsld hL (by omega) (by omega) (by decide +kernel) (fun v_4 hv_5 => ?_)
  show mp_W E X 4 2045 [(3, .int i), (2, .ref q2), (1, .ref q1), (0, .ref b)] [.int v_4, .ref q1] (A ++ B) k n
  refine mp_run hF mp_tabL_ok [mp_i (.aload_n 0), mp_i (.iload_n 3), mp_c (.iconst 2) 2, mp_i .iadd] (by decide +kernel) ?_
  intro z_6 h_7
  have e_8 : z_6.toInt = i.toInt + 2 := mp_add (a := i.toInt) (b := 2) h_7 rfl (by decide) (by omega) (by omega)
  show mp_W E X 4 2049 [(3, .int i), (2, .ref q2), (1, .ref q1), (0, .ref b)] [.int z_6, .ref b, .int v_4, .ref q1] (A ++ B) k n
  refine mp_lsld hL (by omega) (by omega) (by decide +kernel) (fun v_9 hv_10 => ?_)
  show mp_W E X 4 2050 [(3, .int i), (2, .ref q2), (1, .ref q1), (0, .ref b)] [.int v_9, .int v_4, .ref q1] (A ++ B) k n
  refine mp_run hF mp_tabL_ok [mp_i (.aload_n 0), mp_i (.iload_n 3), mp_c (.iconst 3) 3, mp_i .iadd] (by decide +kernel) ?_
  intro z_11 h_12
  have e_13 : z_11.toInt = i.toInt + 3 := mp_add (a := i.toInt) (b := 3) h_12 rfl (by decide) (by omega) (by omega)
  show mp_W E X 4 2054 [(3, .int i), (2, .ref q2), (1, .ref q1), (0, .ref b)] [.int z_11, .ref b, .int v_9, .int v_4, .ref q1] (A ++ B) k n
  refine mp_lsld hL (by omega) (by omega) (by decide +kernel) (fun v_14 hv_15 => ?_)
  show mp_W E X 4 2055 [(3, .int i), (2, .ref q2), (1, .ref q1), (0, .ref b)] [.int v_14, .int v_9, .int v_4, .ref q1] (A ++ B) k n
  refine mp_cc_row hF v_4 v_9 v_14 hA (by decide +kernel) (by omega) (by omega) (Nat.le_of_ble_eq_true rfl) (fun r_16 A_17 l_18 sw_25 sl_26 k_19 n_20 hI_21 hr_22 hk_23 hn_24 => ?_)
  show mp_W E X 4 2058 [(3, .int i), (2, .ref q2), (1, .ref q1), (0, .ref b)] [.int r_16] (A_17 ++ B) k_19 n_20
  refine mp_run hF mp_tabL_ok [mp_i (.aload_n 2), mp_i (.aload_n 0), mp_i (.iload_n 3), mp_c (.iconst 1) 1, mp_i .iadd] (by decide +kernel) ?_
  intro z_28 h_29
  have e_30 : z_28.toInt = i.toInt + 1 := mp_add (a := i.toInt) (b := 1) h_29 rfl (by decide) (by omega) (by omega)
  show mp_W E X 4 2063 [(3, .int i), (2, .ref q2), (1, .ref q1), (0, .ref b)] [.int z_28, .ref b, .ref q2, .int r_16] (A_17 ++ B) k_19 n_20
  refine mp_lsld hL (by omega) (by omega) (by decide +kernel) (fun v_31 hv_32 => ?_)
  have e_33 := mp_xs_same hv_5 hv_32 (by omega)
  subst e_33
  show mp_W E X 4 2064 [(3, .int i), (2, .ref q2), (1, .ref q1), (0, .ref b)] [.int v_4, .ref q2, .int r_16] (A_17 ++ B) k_19 n_20
  refine mp_run hF mp_tabL_ok [mp_i (.aload_n 0), mp_i (.iload_n 3), mp_c (.iconst 2) 2, mp_i .iadd] (by decide +kernel) ?_
  intro z_34 h_35
  have e_36 : z_34.toInt = i.toInt + 2 := mp_add (a := i.toInt) (b := 2) h_35 rfl (by decide) (by omega) (by omega)
  show mp_W E X 4 2068 [(3, .int i), (2, .ref q2), (1, .ref q1), (0, .ref b)] [.int z_34, .ref b, .int v_4, .ref q2, .int r_16] (A_17 ++ B) k_19 n_20
  refine mp_lsld hL (by omega) (by omega) (by decide +kernel) (fun v_37 hv_38 => ?_)
  have e_39 := mp_xs_same hv_10 hv_38 (by omega)
  subst e_39
  show mp_W E X 4 2069 [(3, .int i), (2, .ref q2), (1, .ref q1), (0, .ref b)] [.int v_9, .int v_4, .ref q2, .int r_16] (A_17 ++ B) k_19 n_20
  refine mp_run hF mp_tabL_ok [mp_i (.aload_n 0), mp_i (.iload_n 3), mp_c (.iconst 3) 3, mp_i .iadd] (by decide +kernel) ?_
  intro z_40 h_41
  have e_42 : z_40.toInt = i.toInt + 3 := mp_add (a := i.toInt) (b := 3) h_41 rfl (by decide) (by omega) (by omega)
  show mp_W E X 4 2073 [(3, .int i), (2, .ref q2), (1, .ref q1), (0, .ref b)] [.int z_40, .ref b, .int v_9, .int v_4, .ref q2, .int r_16] (A_17 ++ B) k_19 n_20
  refine mp_lsld hL (by omega) (by omega) (by decide +kernel) (fun v_43 hv_44 => ?_)
  have e_45 := mp_xs_same hv_15 hv_44 (by omega)
  subst e_45
  show mp_W E X 4 2074 [(3, .int i), (2, .ref q2), (1, .ref q1), (0, .ref b)] [.int v_14, .int v_9, .int v_4, .ref q2, .int r_16] (A_17 ++ B) k_19 n_20
  refine mp_swap ?_
  refine mp_cm_row hF v_4 v_9 v_14 hB (by decide +kernel) (by omega) (by omega) (Nat.le_of_ble_eq_true rfl) (fun r_46 A_47 l_48 sw_55 sl_56 k_49 n_50 hI_51 hr_52 hk_53 hn_54 => ?_)
  refine mp_swap ?_
  have hx_58 := mp_row_eq hSL hr_22.2 hr_52.2
  have hq_59 := hx_58.1
  show mp_W E X 4 2077 [(3, .int i), (2, .ref q2), (1, .ref q1), (0, .ref b)] [.int r_46, .int r_16] (A_17 ++ A_47) k_49 n_50
  refine mp_run hF mp_tabL_ok [mp_h (.if_icmp .eq 141) [2218]] (by decide +kernel) ?_
  refine And.intro (fun c_60 => ?_) (fun c_60 => ?_)
  · have c_60 : r_16.toInt = r_46.toInt := (congrArg Int32.toInt c_60)
    show mp_W E X 4 2218 [(3, .int i), (2, .ref q2), (1, .ref q1), (0, .ref b)] [] (A_17 ++ A_47) k_49 n_50
    have hl_ : l_18 = l_48 := by omega
    exact kk _ _ _ _ _ _ _ _ _ _ _ hx_58.2 hKP hI_21 (hl_ ▸ hI_51) (by omega) (by omega)
  · have c_60 : r_16.toInt ≠ r_46.toInt := c_60
    show mp_W E X 4 2080 [(3, .int i), (2, .ref q2), (1, .ref q1), (0, .ref b)] [] (A_17 ++ A_47) k_49 n_50
    refine mp_run hF mp_tabL_ok [mp_c (.iconst 0) 0] (by decide +kernel) ?_
    show mp_W E X 4 2081 [(3, .int i), (2, .ref q2), (1, .ref q1), (0, .ref b)] [.int 0] (A_17 ++ A_47) k_49 n_50
    exfalso; omega
set_option maxHeartbeats 4000000 in
set_option maxRecDepth 100000 in
theorem mp_case_58 {E : mp_E} {X : mp_X} {b L : Nat} {xs : Nat → Int32} (hL : mp_Lw E X b L xs) (h3 : L ≤ 3072) {i : Int32} (hi0 : 0 ≤ i.toInt) (hi6 : i.toInt + 6 ≤ L) {q1 q2 : Nat} {len : Int} {sw sl mw mm : Nat → Int32} {kp kq : Nat → Bool} {A B : va_W} {k n : Nat} (hSL : mp_SL sw sl mw mm) (hKP : mp_KP kp kq) (hA : mp_IC E q1 len sw sl kp A) (hB : mp_IM E q2 len mw mm kq B) (hk : k + 13 ≤ 600000) (hn : n + 204 ≤ 7302250) (kk : ∀ (len2 : Int) (sw2 sl2 mw2 mm2 : Nat → Int32) (kp2 kq2 : Nat → Bool) (A2 B2 : va_W) (k2 n2 : Nat), mp_SL sw2 sl2 mw2 mm2 → mp_KP kp2 kq2 → mp_IC E q1 len2 sw2 sl2 kp2 A2 → mp_IM E q2 len2 mw2 mm2 kq2 B2 → k2 ≤ k + 13 → n2 ≤ n + 204 → mp_W E X 4 2218 [(3, .int i), (2, .ref q2), (1, .ref q1), (0, .ref b)] [] (A2 ++ B2) k2 n2) : mp_W E X 4 2082 [(3, .int i), (2, .ref q2), (1, .ref q1), (0, .ref b)] [] (A ++ B) k n := by
  have hF : mp_F E X mp_ML := hL.1
  show mp_W E X 4 2082 [(3, .int i), (2, .ref q2), (1, .ref q1), (0, .ref b)] [] (A ++ B) k n
  refine mp_run hF mp_tabL_ok [mp_i (.aload_n 1), mp_i (.aload_n 0), mp_i (.iload_n 3), mp_c (.iconst 1) 1, mp_i .iadd] (by decide +kernel) ?_
  intro z_1 h_2
  have e_3 : z_1.toInt = i.toInt + 1 := mp_add (a := i.toInt) (b := 1) h_2 rfl (by decide) (by omega) (by omega)
  show mp_W E X 4 2087 [(3, .int i), (2, .ref q2), (1, .ref q1), (0, .ref b)] [.int z_1, .ref b, .ref q1] (A ++ B) k n
  refine mp_lsld hL (by omega) (by omega) (by decide +kernel) (fun v_4 hv_5 => ?_)
  show mp_W E X 4 2088 [(3, .int i), (2, .ref q2), (1, .ref q1), (0, .ref b)] [.int v_4, .ref q1] (A ++ B) k n
  refine mp_run hF mp_tabL_ok [mp_i (.aload_n 0), mp_i (.iload_n 3), mp_c (.iconst 2) 2, mp_i .iadd] (by decide +kernel) ?_
  intro z_6 h_7
  have e_8 : z_6.toInt = i.toInt + 2 := mp_add (a := i.toInt) (b := 2) h_7 rfl (by decide) (by omega) (by omega)
  show mp_W E X 4 2092 [(3, .int i), (2, .ref q2), (1, .ref q1), (0, .ref b)] [.int z_6, .ref b, .int v_4, .ref q1] (A ++ B) k n
  refine mp_lsld hL (by omega) (by omega) (by decide +kernel) (fun v_9 hv_10 => ?_)
  show mp_W E X 4 2093 [(3, .int i), (2, .ref q2), (1, .ref q1), (0, .ref b)] [.int v_9, .int v_4, .ref q1] (A ++ B) k n
  refine mp_run hF mp_tabL_ok [mp_i (.aload_n 0), mp_i (.iload_n 3), mp_c (.iconst 3) 3, mp_i .iadd] (by decide +kernel) ?_
  intro z_11 h_12
  have e_13 : z_11.toInt = i.toInt + 3 := mp_add (a := i.toInt) (b := 3) h_12 rfl (by decide) (by omega) (by omega)
  show mp_W E X 4 2097 [(3, .int i), (2, .ref q2), (1, .ref q1), (0, .ref b)] [.int z_11, .ref b, .int v_9, .int v_4, .ref q1] (A ++ B) k n
  refine mp_lsld hL (by omega) (by omega) (by decide +kernel) (fun v_14 hv_15 => ?_)
  show mp_W E X 4 2098 [(3, .int i), (2, .ref q2), (1, .ref q1), (0, .ref b)] [.int v_14, .int v_9, .int v_4, .ref q1] (A ++ B) k n
  refine mp_run hF mp_tabL_ok [mp_i .i2l, mp_c (.bipush 32) 32, mp_i .lshl, mp_i (.aload_n 0), mp_i (.iload_n 3), mp_c (.iconst 4) 4, mp_i .iadd] (by decide +kernel) ?_
  intro z_16 h_17
  have e_18 : z_16.toInt = v_14.toInt := mp_i2l h_17
  intro z_19 h_20
  intro z_21 h_22
  have e_23 : z_21.toInt = i.toInt + 4 := mp_add (a := i.toInt) (b := 4) h_22 rfl (by decide) (by omega) (by omega)
  show mp_W E X 4 2106 [(3, .int i), (2, .ref q2), (1, .ref q1), (0, .ref b)] [.int z_21, .ref b, .long z_19, .int v_9, .int v_4, .ref q1] (A ++ B) k n
  refine mp_lsld hL (by omega) (by omega) (by decide +kernel) (fun v_24 hv_25 => ?_)
  show mp_W E X 4 2107 [(3, .int i), (2, .ref q2), (1, .ref q1), (0, .ref b)] [.int v_24, .long z_19, .int v_9, .int v_4, .ref q1] (A ++ B) k n
  refine mp_run hF mp_tabL_ok [mp_i .i2l, mp_cl (.ldc2_w 252) 4294967295, mp_i .land, mp_i .lor] (by decide +kernel) ?_
  intro z_26 h_27
  have e_28 : z_26.toInt = v_24.toInt := mp_i2l h_27
  intro z_29 h_30
  intro z_31 h_32
  show mp_W E X 4 2113 [(3, .int i), (2, .ref q2), (1, .ref q1), (0, .ref b)] [.long z_31, .int v_9, .int v_4, .ref q1] (A ++ B) k n
  refine mp_cc_write hF v_4 v_9 z_31 hA (by decide +kernel) (by omega) (by omega) (Nat.le_of_ble_eq_true rfl) (fun r_33 A_34 l_35 k_36 n_37 hI_38 hr_39 hk_40 hn_41 => ?_)
  show mp_W E X 4 2116 [(3, .int i), (2, .ref q2), (1, .ref q1), (0, .ref b)] [.int r_33] (A_34 ++ B) k_36 n_37
  refine mp_run hF mp_tabL_ok [mp_i .pop, mp_i (.aload_n 2), mp_i (.aload_n 0), mp_i (.iload_n 3), mp_c (.iconst 1) 1, mp_i .iadd] (by decide +kernel) ?_
  refine And.intro rfl ?_
  intro z_45 h_46
  have e_47 : z_45.toInt = i.toInt + 1 := mp_add (a := i.toInt) (b := 1) h_46 rfl (by decide) (by omega) (by omega)
  show mp_W E X 4 2122 [(3, .int i), (2, .ref q2), (1, .ref q1), (0, .ref b)] [.int z_45, .ref b, .ref q2] (A_34 ++ B) k_36 n_37
  refine mp_lsld hL (by omega) (by omega) (by decide +kernel) (fun v_48 hv_49 => ?_)
  have e_50 := mp_xs_same hv_5 hv_49 (by omega)
  subst e_50
  show mp_W E X 4 2123 [(3, .int i), (2, .ref q2), (1, .ref q1), (0, .ref b)] [.int v_4, .ref q2] (A_34 ++ B) k_36 n_37
  refine mp_run hF mp_tabL_ok [mp_i (.aload_n 0), mp_i (.iload_n 3), mp_c (.iconst 2) 2, mp_i .iadd] (by decide +kernel) ?_
  intro z_51 h_52
  have e_53 : z_51.toInt = i.toInt + 2 := mp_add (a := i.toInt) (b := 2) h_52 rfl (by decide) (by omega) (by omega)
  show mp_W E X 4 2127 [(3, .int i), (2, .ref q2), (1, .ref q1), (0, .ref b)] [.int z_51, .ref b, .int v_4, .ref q2] (A_34 ++ B) k_36 n_37
  refine mp_lsld hL (by omega) (by omega) (by decide +kernel) (fun v_54 hv_55 => ?_)
  have e_56 := mp_xs_same hv_10 hv_55 (by omega)
  subst e_56
  show mp_W E X 4 2128 [(3, .int i), (2, .ref q2), (1, .ref q1), (0, .ref b)] [.int v_9, .int v_4, .ref q2] (A_34 ++ B) k_36 n_37
  refine mp_run hF mp_tabL_ok [mp_i (.aload_n 0), mp_i (.iload_n 3), mp_c (.iconst 3) 3, mp_i .iadd] (by decide +kernel) ?_
  intro z_57 h_58
  have e_59 : z_57.toInt = i.toInt + 3 := mp_add (a := i.toInt) (b := 3) h_58 rfl (by decide) (by omega) (by omega)
  show mp_W E X 4 2132 [(3, .int i), (2, .ref q2), (1, .ref q1), (0, .ref b)] [.int z_57, .ref b, .int v_9, .int v_4, .ref q2] (A_34 ++ B) k_36 n_37
  refine mp_lsld hL (by omega) (by omega) (by decide +kernel) (fun v_60 hv_61 => ?_)
  have e_62 := mp_xs_same hv_15 hv_61 (by omega)
  subst e_62
  show mp_W E X 4 2133 [(3, .int i), (2, .ref q2), (1, .ref q1), (0, .ref b)] [.int v_14, .int v_9, .int v_4, .ref q2] (A_34 ++ B) k_36 n_37
  refine mp_run hF mp_tabL_ok [mp_i .i2l, mp_c (.bipush 32) 32, mp_i .lshl, mp_i (.aload_n 0), mp_i (.iload_n 3), mp_c (.iconst 4) 4, mp_i .iadd] (by decide +kernel) ?_
  intro z_63 h_64
  have e_65 : z_63.toInt = v_14.toInt := mp_i2l h_64
  intro z_66 h_67
  intro z_68 h_69
  have e_70 : z_68.toInt = i.toInt + 4 := mp_add (a := i.toInt) (b := 4) h_69 rfl (by decide) (by omega) (by omega)
  show mp_W E X 4 2141 [(3, .int i), (2, .ref q2), (1, .ref q1), (0, .ref b)] [.int z_68, .ref b, .long z_66, .int v_9, .int v_4, .ref q2] (A_34 ++ B) k_36 n_37
  refine mp_lsld hL (by omega) (by omega) (by decide +kernel) (fun v_71 hv_72 => ?_)
  have e_73 := mp_xs_same hv_25 hv_72 (by omega)
  subst e_73
  show mp_W E X 4 2142 [(3, .int i), (2, .ref q2), (1, .ref q1), (0, .ref b)] [.int v_24, .long z_66, .int v_9, .int v_4, .ref q2] (A_34 ++ B) k_36 n_37
  refine mp_run hF mp_tabL_ok [mp_i .i2l, mp_cl (.ldc2_w 252) 4294967295, mp_i .land, mp_i .lor] (by decide +kernel) ?_
  intro z_74 h_75
  have e_76 : z_74.toInt = v_24.toInt := mp_i2l h_75
  intro z_77 h_78
  intro z_79 h_80
  show mp_W E X 4 2148 [(3, .int i), (2, .ref q2), (1, .ref q1), (0, .ref b)] [.long z_79, .int v_9, .int v_4, .ref q2] (A_34 ++ B) k_36 n_37
  refine mp_swap ?_
  refine mp_cm_write hF v_4 v_9 z_79 hB (by decide +kernel) (by omega) (by omega) (Nat.le_of_ble_eq_true rfl) (fun r_81 A_82 l_83 k_84 n_85 hI_86 hr_87 hk_88 hn_89 => ?_)
  refine mp_swap ?_
  have hx_93 := mp_wrt_eq hSL hr_39.2 hr_87.2
  show mp_W E X 4 2151 [(3, .int i), (2, .ref q2), (1, .ref q1), (0, .ref b)] [.int r_81] (A_34 ++ A_82) k_84 n_85
  refine mp_run hF mp_tabL_ok [mp_i .pop, mp_h (.goto 66) [2218]] (by decide +kernel) ?_
  refine And.intro rfl ?_
  show mp_W E X 4 2218 [(3, .int i), (2, .ref q2), (1, .ref q1), (0, .ref b)] [] (A_34 ++ A_82) k_84 n_85
  have hl_ : l_35 = l_83 := by omega
  exact kk _ _ _ _ _ _ _ _ _ _ _ hSL hKP hI_38 (hl_ ▸ hI_86) (by omega) (by omega)
set_option maxHeartbeats 4000000 in
set_option maxRecDepth 100000 in
theorem mp_case_59 {E : mp_E} {X : mp_X} {b L : Nat} {xs : Nat → Int32} (hL : mp_Lw E X b L xs) (h3 : L ≤ 3072) {i : Int32} (hi0 : 0 ≤ i.toInt) (hi6 : i.toInt + 6 ≤ L) {q1 q2 : Nat} {len : Int} {sw sl mw mm : Nat → Int32} {kp kq : Nat → Bool} {A B : va_W} {k n : Nat} (hSL : mp_SL sw sl mw mm) (hKP : mp_KP kp kq) (hA : mp_IC E q1 len sw sl kp A) (hB : mp_IM E q2 len mw mm kq B) (hk : k + 13 ≤ 600000) (hn : n + 204 ≤ 7302250) (kk : ∀ (len2 : Int) (sw2 sl2 mw2 mm2 : Nat → Int32) (kp2 kq2 : Nat → Bool) (A2 B2 : va_W) (k2 n2 : Nat), mp_SL sw2 sl2 mw2 mm2 → mp_KP kp2 kq2 → mp_IC E q1 len2 sw2 sl2 kp2 A2 → mp_IM E q2 len2 mw2 mm2 kq2 B2 → k2 ≤ k + 13 → n2 ≤ n + 204 → mp_W E X 4 2218 [(3, .int i), (2, .ref q2), (1, .ref q1), (0, .ref b)] [] (A2 ++ B2) k2 n2) : mp_W E X 4 2155 [(3, .int i), (2, .ref q2), (1, .ref q1), (0, .ref b)] [] (A ++ B) k n := by
  have hF : mp_F E X mp_ML := hL.1
  show mp_W E X 4 2155 [(3, .int i), (2, .ref q2), (1, .ref q1), (0, .ref b)] [] (A ++ B) k n
  refine mp_run hF mp_tabL_ok [mp_i (.aload_n 1), mp_i (.aload_n 0), mp_i (.iload_n 3), mp_c (.iconst 1) 1, mp_i .iadd] (by decide +kernel) ?_
  intro z_1 h_2
  have e_3 : z_1.toInt = i.toInt + 1 := mp_add (a := i.toInt) (b := 1) h_2 rfl (by decide) (by omega) (by omega)
  show mp_W E X 4 2160 [(3, .int i), (2, .ref q2), (1, .ref q1), (0, .ref b)] [.int z_1, .ref b, .ref q1] (A ++ B) k n
  refine mp_lsld hL (by omega) (by omega) (by decide +kernel) (fun v_4 hv_5 => ?_)
  show mp_W E X 4 2161 [(3, .int i), (2, .ref q2), (1, .ref q1), (0, .ref b)] [.int v_4, .ref q1] (A ++ B) k n
  refine mp_run hF mp_tabL_ok [mp_i (.aload_n 0), mp_i (.iload_n 3), mp_c (.iconst 2) 2, mp_i .iadd] (by decide +kernel) ?_
  intro z_6 h_7
  have e_8 : z_6.toInt = i.toInt + 2 := mp_add (a := i.toInt) (b := 2) h_7 rfl (by decide) (by omega) (by omega)
  show mp_W E X 4 2165 [(3, .int i), (2, .ref q2), (1, .ref q1), (0, .ref b)] [.int z_6, .ref b, .int v_4, .ref q1] (A ++ B) k n
  refine mp_lsld hL (by omega) (by omega) (by decide +kernel) (fun v_9 hv_10 => ?_)
  show mp_W E X 4 2166 [(3, .int i), (2, .ref q2), (1, .ref q1), (0, .ref b)] [.int v_9, .int v_4, .ref q1] (A ++ B) k n
  refine mp_run hF mp_tabL_ok [mp_i (.aload_n 0), mp_i (.iload_n 3), mp_c (.iconst 3) 3, mp_i .iadd] (by decide +kernel) ?_
  intro z_11 h_12
  have e_13 : z_11.toInt = i.toInt + 3 := mp_add (a := i.toInt) (b := 3) h_12 rfl (by decide) (by omega) (by omega)
  show mp_W E X 4 2170 [(3, .int i), (2, .ref q2), (1, .ref q1), (0, .ref b)] [.int z_11, .ref b, .int v_9, .int v_4, .ref q1] (A ++ B) k n
  refine mp_lsld hL (by omega) (by omega) (by decide +kernel) (fun v_14 hv_15 => ?_)
  show mp_W E X 4 2171 [(3, .int i), (2, .ref q2), (1, .ref q1), (0, .ref b)] [.int v_14, .int v_9, .int v_4, .ref q1] (A ++ B) k n
  refine mp_run hF mp_tabL_ok [mp_i (.aload_n 0), mp_i (.iload_n 3), mp_c (.iconst 4) 4, mp_i .iadd] (by decide +kernel) ?_
  intro z_16 h_17
  have e_18 : z_16.toInt = i.toInt + 4 := mp_add (a := i.toInt) (b := 4) h_17 rfl (by decide) (by omega) (by omega)
  show mp_W E X 4 2175 [(3, .int i), (2, .ref q2), (1, .ref q1), (0, .ref b)] [.int z_16, .ref b, .int v_14, .int v_9, .int v_4, .ref q1] (A ++ B) k n
  refine mp_lsld hL (by omega) (by omega) (by decide +kernel) (fun v_19 hv_20 => ?_)
  show mp_W E X 4 2176 [(3, .int i), (2, .ref q2), (1, .ref q1), (0, .ref b)] [.int v_19, .int v_14, .int v_9, .int v_4, .ref q1] (A ++ B) k n
  refine mp_run hF mp_tabL_ok [mp_i (.aload_n 0), mp_i (.iload_n 3), mp_c (.iconst 5) 5, mp_i .iadd] (by decide +kernel) ?_
  intro z_21 h_22
  have e_23 : z_21.toInt = i.toInt + 5 := mp_add (a := i.toInt) (b := 5) h_22 rfl (by decide) (by omega) (by omega)
  show mp_W E X 4 2180 [(3, .int i), (2, .ref q2), (1, .ref q1), (0, .ref b)] [.int z_21, .ref b, .int v_19, .int v_14, .int v_9, .int v_4, .ref q1] (A ++ B) k n
  refine mp_lsld hL (by omega) (by omega) (by decide +kernel) (fun v_24 hv_25 => ?_)
  show mp_W E X 4 2181 [(3, .int i), (2, .ref q2), (1, .ref q1), (0, .ref b)] [.int v_24, .int v_19, .int v_14, .int v_9, .int v_4, .ref q1] (A ++ B) k n
  refine mp_cc_paste hF v_4 v_9 v_14 v_19 v_24 hA (by decide +kernel) (by omega) (by omega) (Nat.le_of_ble_eq_true rfl) (fun r_26 A_27 l_28 k_29 n_30 hI_31 hr_32 hk_33 hn_34 => ?_)
  show mp_W E X 4 2184 [(3, .int i), (2, .ref q2), (1, .ref q1), (0, .ref b)] [.int r_26] (A_27 ++ B) k_29 n_30
  refine mp_run hF mp_tabL_ok [mp_i .pop, mp_i (.aload_n 2), mp_i (.aload_n 0), mp_i (.iload_n 3), mp_c (.iconst 1) 1, mp_i .iadd] (by decide +kernel) ?_
  refine And.intro rfl ?_
  intro z_38 h_39
  have e_40 : z_38.toInt = i.toInt + 1 := mp_add (a := i.toInt) (b := 1) h_39 rfl (by decide) (by omega) (by omega)
  show mp_W E X 4 2190 [(3, .int i), (2, .ref q2), (1, .ref q1), (0, .ref b)] [.int z_38, .ref b, .ref q2] (A_27 ++ B) k_29 n_30
  refine mp_lsld hL (by omega) (by omega) (by decide +kernel) (fun v_41 hv_42 => ?_)
  have e_43 := mp_xs_same hv_5 hv_42 (by omega)
  subst e_43
  show mp_W E X 4 2191 [(3, .int i), (2, .ref q2), (1, .ref q1), (0, .ref b)] [.int v_4, .ref q2] (A_27 ++ B) k_29 n_30
  refine mp_run hF mp_tabL_ok [mp_i (.aload_n 0), mp_i (.iload_n 3), mp_c (.iconst 2) 2, mp_i .iadd] (by decide +kernel) ?_
  intro z_44 h_45
  have e_46 : z_44.toInt = i.toInt + 2 := mp_add (a := i.toInt) (b := 2) h_45 rfl (by decide) (by omega) (by omega)
  show mp_W E X 4 2195 [(3, .int i), (2, .ref q2), (1, .ref q1), (0, .ref b)] [.int z_44, .ref b, .int v_4, .ref q2] (A_27 ++ B) k_29 n_30
  refine mp_lsld hL (by omega) (by omega) (by decide +kernel) (fun v_47 hv_48 => ?_)
  have e_49 := mp_xs_same hv_10 hv_48 (by omega)
  subst e_49
  show mp_W E X 4 2196 [(3, .int i), (2, .ref q2), (1, .ref q1), (0, .ref b)] [.int v_9, .int v_4, .ref q2] (A_27 ++ B) k_29 n_30
  refine mp_run hF mp_tabL_ok [mp_i (.aload_n 0), mp_i (.iload_n 3), mp_c (.iconst 3) 3, mp_i .iadd] (by decide +kernel) ?_
  intro z_50 h_51
  have e_52 : z_50.toInt = i.toInt + 3 := mp_add (a := i.toInt) (b := 3) h_51 rfl (by decide) (by omega) (by omega)
  show mp_W E X 4 2200 [(3, .int i), (2, .ref q2), (1, .ref q1), (0, .ref b)] [.int z_50, .ref b, .int v_9, .int v_4, .ref q2] (A_27 ++ B) k_29 n_30
  refine mp_lsld hL (by omega) (by omega) (by decide +kernel) (fun v_53 hv_54 => ?_)
  have e_55 := mp_xs_same hv_15 hv_54 (by omega)
  subst e_55
  show mp_W E X 4 2201 [(3, .int i), (2, .ref q2), (1, .ref q1), (0, .ref b)] [.int v_14, .int v_9, .int v_4, .ref q2] (A_27 ++ B) k_29 n_30
  refine mp_run hF mp_tabL_ok [mp_i (.aload_n 0), mp_i (.iload_n 3), mp_c (.iconst 4) 4, mp_i .iadd] (by decide +kernel) ?_
  intro z_56 h_57
  have e_58 : z_56.toInt = i.toInt + 4 := mp_add (a := i.toInt) (b := 4) h_57 rfl (by decide) (by omega) (by omega)
  show mp_W E X 4 2205 [(3, .int i), (2, .ref q2), (1, .ref q1), (0, .ref b)] [.int z_56, .ref b, .int v_14, .int v_9, .int v_4, .ref q2] (A_27 ++ B) k_29 n_30
  refine mp_lsld hL (by omega) (by omega) (by decide +kernel) (fun v_59 hv_60 => ?_)
  have e_61 := mp_xs_same hv_20 hv_60 (by omega)
  subst e_61
  show mp_W E X 4 2206 [(3, .int i), (2, .ref q2), (1, .ref q1), (0, .ref b)] [.int v_19, .int v_14, .int v_9, .int v_4, .ref q2] (A_27 ++ B) k_29 n_30
  refine mp_run hF mp_tabL_ok [mp_i (.aload_n 0), mp_i (.iload_n 3), mp_c (.iconst 5) 5, mp_i .iadd] (by decide +kernel) ?_
  intro z_62 h_63
  have e_64 : z_62.toInt = i.toInt + 5 := mp_add (a := i.toInt) (b := 5) h_63 rfl (by decide) (by omega) (by omega)
  show mp_W E X 4 2210 [(3, .int i), (2, .ref q2), (1, .ref q1), (0, .ref b)] [.int z_62, .ref b, .int v_19, .int v_14, .int v_9, .int v_4, .ref q2] (A_27 ++ B) k_29 n_30
  refine mp_lsld hL (by omega) (by omega) (by decide +kernel) (fun v_65 hv_66 => ?_)
  have e_67 := mp_xs_same hv_25 hv_66 (by omega)
  subst e_67
  show mp_W E X 4 2211 [(3, .int i), (2, .ref q2), (1, .ref q1), (0, .ref b)] [.int v_24, .int v_19, .int v_14, .int v_9, .int v_4, .ref q2] (A_27 ++ B) k_29 n_30
  refine mp_swap ?_
  refine mp_cm_paste hF v_4 v_9 v_14 v_19 v_24 hB (by decide +kernel) (by omega) (by omega) (Nat.le_of_ble_eq_true rfl) (fun r_68 A_69 l_70 k_71 n_72 hI_73 hr_74 hk_75 hn_76 => ?_)
  refine mp_swap ?_
  have hx_80 := mp_pst_eq hSL hr_32.2 hr_74.2
  show mp_W E X 4 2214 [(3, .int i), (2, .ref q2), (1, .ref q1), (0, .ref b)] [.int r_68] (A_27 ++ A_69) k_71 n_72
  refine mp_run hF mp_tabL_ok [mp_i .pop, mp_h (.goto 3) [2218]] (by decide +kernel) ?_
  refine And.intro rfl ?_
  show mp_W E X 4 2218 [(3, .int i), (2, .ref q2), (1, .ref q1), (0, .ref b)] [] (A_27 ++ A_69) k_71 n_72
  have hl_ : l_28 = l_70 := by omega
  exact kk _ _ _ _ _ _ _ _ _ _ _ hSL hKP hI_31 (hl_ ▸ hI_73) (by omega) (by omega)
