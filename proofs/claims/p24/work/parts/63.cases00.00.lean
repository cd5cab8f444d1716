set_option maxHeartbeats 4000000 in
set_option maxRecDepth 100000 in
theorem mp_case_0 {E : mp_E} {X : mp_X} {b L : Nat} {xs : Nat → Int32} (hL : mp_Lw E X b L xs) (h3 : L ≤ 3072) {i : Int32} (hi0 : 0 ≤ i.toInt) (hi6 : i.toInt + 6 ≤ L) {q1 q2 : Nat} {len : Int} {sw sl mw mm : Nat → Int32} {kp : Nat → Bool} {tp : Nat → Int32} {ft fp : Int} {td : mp_TD} {it : Nat → mp_TD} {A B : va_W} {k n : Nat} (hSL : mp_SL sw sl mw mm) (hW : mp_WF td) (hWI : ∀ j : Nat, mp_WF (it j)) (hA : mp_IC E q1 len sw sl kp tp ft fp td it A) (hB : mp_IM E q2 len mw mm kp tp ft fp td it B) (hk : k + 13 ≤ 600000) (hn : n + 204 ≤ 7302250) (kk : ∀ (len2 : Int) (sw2 sl2 mw2 mm2 : Nat → Int32) (kp2 : Nat → Bool) (tp2 : Nat → Int32) (ft2 fp2 : Int) (td2 : mp_TD) (it2 : Nat → mp_TD) (A2 B2 : va_W) (k2 n2 : Nat), mp_SL sw2 sl2 mw2 mm2 → mp_WF td2 → (∀ j : Nat, mp_WF (it2 j)) → mp_IC E q1 len2 sw2 sl2 kp2 tp2 ft2 fp2 td2 it2 A2 → mp_IM E q2 len2 mw2 mm2 kp2 tp2 ft2 fp2 td2 it2 B2 → k2 ≤ k + 13 → n2 ≤ n + 204 → mp_W E X 4 2218 [(3, .int i), (2, .ref q2), (1, .ref q1), (0, .ref b)] [] (A2 ++ B2) k2 n2) : mp_W E X 4 288 [(3, .int i), (2, .ref q2), (1, .ref q1), (0, .ref b)] [] (A ++ B) k n := by
  have hF : mp_F E X mp_ML := hL.1
  show mp_W E X 4 288 [(3, .int i), (2, .ref q2), (1, .ref q1), (0, .ref b)] [] (A ++ B) k n
  refine mp_run mp_k_code_ok hF mp_tabL_ok [mp_i (.aload_n 1), mp_i (.aload_n 0), mp_i (.iload_n 3), mp_c (.iconst 1) 1, mp_i .iadd] (by decide +kernel) ?_
  intro z_1 h_2
  have e_3 : z_1.toInt = i.toInt + 1 := mp_add (a := i.toInt) (b := 1) h_2 rfl (by decide) (by first | exact mp_cwa1 hi0 | omega) (by first | exact mp_cwb1 h3 hi6 | omega)
  show mp_W E X 4 293 [(3, .int i), (2, .ref q2), (1, .ref q1), (0, .ref b)] [.int z_1, .ref b, .ref q1] (A ++ B) k n
  refine mp_lsld hL (by first | exact mp_cwc1 hi0 e_3 | omega) (by first | exact mp_cwd1 hi6 e_3 | omega) (by first | exact mp_fd_ok mp_k_code_ok (by decide +kernel) | decide +kernel) (fun v_4 hv_5 => ?_)
  show mp_W E X 4 294 [(3, .int i), (2, .ref q2), (1, .ref q1), (0, .ref b)] [.int v_4, .ref q1] (A ++ B) k n
  refine mp_run mp_k_code_ok hF mp_tabL_ok [mp_i (.aload_n 0), mp_i (.iload_n 3), mp_c (.iconst 2) 2, mp_i .iadd] (by decide +kernel) ?_
  intro z_6 h_7
  have e_8 : z_6.toInt = i.toInt + 2 := mp_add (a := i.toInt) (b := 2) h_7 rfl (by decide) (by first | exact mp_cwa2 hi0 | omega) (by first | exact mp_cwb2 h3 hi6 | omega)
  show mp_W E X 4 298 [(3, .int i), (2, .ref q2), (1, .ref q1), (0, .ref b)] [.int z_6, .ref b, .int v_4, .ref q1] (A ++ B) k n
  refine mp_lsld hL (by first | exact mp_cwc2 hi0 e_8 | omega) (by first | exact mp_cwd2 hi6 e_8 | omega) (by first | exact mp_fd_ok mp_k_code_ok (by decide +kernel) | decide +kernel) (fun v_9 hv_10 => ?_)
  show mp_W E X 4 299 [(3, .int i), (2, .ref q2), (1, .ref q1), (0, .ref b)] [.int v_9, .int v_4, .ref q1] (A ++ B) k n
  refine mp_run mp_k_code_ok hF mp_tabL_ok [mp_i (.aload_n 0), mp_i (.iload_n 3), mp_c (.iconst 3) 3, mp_i .iadd] (by decide +kernel) ?_
  intro z_11 h_12
  have e_13 : z_11.toInt = i.toInt + 3 := mp_add (a := i.toInt) (b := 3) h_12 rfl (by decide) (by first | exact mp_cwa3 hi0 | omega) (by first | exact mp_cwb3 h3 hi6 | omega)
  show mp_W E X 4 303 [(3, .int i), (2, .ref q2), (1, .ref q1), (0, .ref b)] [.int z_11, .ref b, .int v_9, .int v_4, .ref q1] (A ++ B) k n
  refine mp_lsld hL (by first | exact mp_cwc3 hi0 e_13 | omega) (by first | exact mp_cwd3 hi6 e_13 | omega) (by first | exact mp_fd_ok mp_k_code_ok (by decide +kernel) | decide +kernel) (fun v_14 hv_15 => ?_)
  show mp_W E X 4 304 [(3, .int i), (2, .ref q2), (1, .ref q1), (0, .ref b)] [.int v_14, .int v_9, .int v_4, .ref q1] (A ++ B) k n
  refine mp_run mp_k_code_ok hF mp_tabL_ok [mp_i (.aload_n 0), mp_i (.iload_n 3), mp_c (.iconst 4) 4, mp_i .iadd] (by decide +kernel) ?_
  intro z_16 h_17
  have e_18 : z_16.toInt = i.toInt + 4 := mp_add (a := i.toInt) (b := 4) h_17 rfl (by decide) (by first | exact mp_cwa4 hi0 | omega) (by first | exact mp_cwb4 h3 hi6 | omega)
  show mp_W E X 4 308 [(3, .int i), (2, .ref q2), (1, .ref q1), (0, .ref b)] [.int z_16, .ref b, .int v_14, .int v_9, .int v_4, .ref q1] (A ++ B) k n
  refine mp_lsld hL (by first | exact mp_cwc4 hi0 e_18 | omega) (by first | exact mp_cwd4 hi6 e_18 | omega) (by first | exact mp_fd_ok mp_k_code_ok (by decide +kernel) | decide +kernel) (fun v_19 hv_20 => ?_)
  show mp_W E X 4 309 [(3, .int i), (2, .ref q2), (1, .ref q1), (0, .ref b)] [.int v_19, .int v_14, .int v_9, .int v_4, .ref q1] (A ++ B) k n
  refine mp_run mp_k_code_ok hF mp_tabL_ok [mp_i (.aload_n 0), mp_i (.iload_n 3), mp_c (.iconst 5) 5, mp_i .iadd] (by decide +kernel) ?_
  intro z_21 h_22
  have e_23 : z_21.toInt = i.toInt + 5 := mp_add (a := i.toInt) (b := 5) h_22 rfl (by decide) (by first | exact mp_cwa5 hi0 | omega) (by first | exact mp_cwb5 h3 hi6 | omega)
  show mp_W E X 4 313 [(3, .int i), (2, .ref q2), (1, .ref q1), (0, .ref b)] [.int z_21, .ref b, .int v_19, .int v_14, .int v_9, .int v_4, .ref q1] (A ++ B) k n
  refine mp_lsld hL (by first | exact mp_cwc5 hi0 e_23 | omega) (by first | exact mp_cwd5 hi6 e_23 | omega) (by first | exact mp_fd_ok mp_k_code_ok (by decide +kernel) | decide +kernel) (fun v_24 hv_25 => ?_)
  show mp_W E X 4 314 [(3, .int i), (2, .ref q2), (1, .ref q1), (0, .ref b)] [.int v_24, .int v_19, .int v_14, .int v_9, .int v_4, .ref q1] (A ++ B) k n
  refine mp_cc_feed hF v_4 v_9 v_14 v_19 v_24 hA hW hWI (by first | exact mp_fd_ok mp_k_code_ok (by decide +kernel) | decide +kernel) (by omega) (by omega) (Nat.le_of_ble_eq_true rfl) (fun r_26 A_27 l_28 tp_35 k_29 n_30 hI_31 hr_32 hk_33 hn_34 => ?_)
  show mp_W E X 4 317 [(3, .int i), (2, .ref q2), (1, .ref q1), (0, .ref b)] [.int r_26] (A_27 ++ B) k_29 n_30
  refine mp_run mp_k_code_ok hF mp_tabL_ok [mp_i .pop, mp_i (.aload_n 2), mp_i (.aload_n 0), mp_i (.iload_n 3), mp_c (.iconst 1) 1, mp_i .iadd] (by decide +kernel) ?_
  refine And.intro rfl ?_
  intro z_36 h_37
  have e_38 : z_36.toInt = i.toInt + 1 := mp_add (a := i.toInt) (b := 1) h_37 rfl (by decide) (by first | exact mp_cwa1 hi0 | omega) (by first | exact mp_cwb1 h3 hi6 | omega)
  show mp_W E X 4 323 [(3, .int i), (2, .ref q2), (1, .ref q1), (0, .ref b)] [.int z_36, .ref b, .ref q2] (A_27 ++ B) k_29 n_30
  refine mp_lsld hL (by first | exact mp_cwc1 hi0 e_38 | omega) (by first | exact mp_cwd1 hi6 e_38 | omega) (by first | exact mp_fd_ok mp_k_code_ok (by decide +kernel) | decide +kernel) (fun v_39 hv_40 => ?_)
  have e_41 := mp_xs_same hv_5 hv_40 (by first | exact e_38.trans e_3.symm | omega)
  subst e_41
  show mp_W E X 4 324 [(3, .int i), (2, .ref q2), (1, .ref q1), (0, .ref b)] [.int v_4, .ref q2] (A_27 ++ B) k_29 n_30
  refine mp_run mp_k_code_ok hF mp_tabL_ok [mp_i (.aload_n 0), mp_i (.iload_n 3), mp_c (.iconst 2) 2, mp_i .iadd] (by decide +kernel) ?_
  intro z_42 h_43
  have e_44 : z_42.toInt = i.toInt + 2 := mp_add (a := i.toInt) (b := 2) h_43 rfl (by decide) (by first | exact mp_cwa2 hi0 | omega) (by first | exact mp_cwb2 h3 hi6 | omega)
  show mp_W E X 4 328 [(3, .int i), (2, .ref q2), (1, .ref q1), (0, .ref b)] [.int z_42, .ref b, .int v_4, .ref q2] (A_27 ++ B) k_29 n_30
  refine mp_lsld hL (by first | exact mp_cwc2 hi0 e_44 | omega) (by first | exact mp_cwd2 hi6 e_44 | omega) (by first | exact mp_fd_ok mp_k_code_ok (by decide +kernel) | decide +kernel) (fun v_45 hv_46 => ?_)
  have e_47 := mp_xs_same hv_10 hv_46 (by first | exact e_44.trans e_8.symm | omega)
  subst e_47
  show mp_W E X 4 329 [(3, .int i), (2, .ref q2), (1, .ref q1), (0, .ref b)] [.int v_9, .int v_4, .ref q2] (A_27 ++ B) k_29 n_30
  refine mp_run mp_k_code_ok hF mp_tabL_ok [mp_i (.aload_n 0), mp_i (.iload_n 3), mp_c (.iconst 3) 3, mp_i .iadd] (by decide +kernel) ?_
  intro z_48 h_49
  have e_50 : z_48.toInt = i.toInt + 3 := mp_add (a := i.toInt) (b := 3) h_49 rfl (by decide) (by first | exact mp_cwa3 hi0 | omega) (by first | exact mp_cwb3 h3 hi6 | omega)
  show mp_W E X 4 333 [(3, .int i), (2, .ref q2), (1, .ref q1), (0, .ref b)] [.int z_48, .ref b, .int v_9, .int v_4, .ref q2] (A_27 ++ B) k_29 n_30
  refine mp_lsld hL (by first | exact mp_cwc3 hi0 e_50 | omega) (by first | exact mp_cwd3 hi6 e_50 | omega) (by first | exact mp_fd_ok mp_k_code_ok (by decide +kernel) | decide +kernel) (fun v_51 hv_52 => ?_)
  have e_53 := mp_xs_same hv_15 hv_52 (by first | exact e_50.trans e_13.symm | omega)
  subst e_53
  show mp_W E X 4 334 [(3, .int i), (2, .ref q2), (1, .ref q1), (0, .ref b)] [.int v_14, .int v_9, .int v_4, .ref q2] (A_27 ++ B) k_29 n_30
  refine mp_run mp_k_code_ok hF mp_tabL_ok [mp_i (.aload_n 0), mp_i (.iload_n 3), mp_c (.iconst 4) 4, mp_i .iadd] (by decide +kernel) ?_
  intro z_54 h_55
  have e_56 : z_54.toInt = i.toInt + 4 := mp_add (a := i.toInt) (b := 4) h_55 rfl (by decide) (by first | exact mp_cwa4 hi0 | omega) (by first | exact mp_cwb4 h3 hi6 | omega)
  show mp_W E X 4 338 [(3, .int i), (2, .ref q2), (1, .ref q1), (0, .ref b)] [.int z_54, .ref b, .int v_14, .int v_9, .int v_4, .ref q2] (A_27 ++ B) k_29 n_30
  refine mp_lsld hL (by first | exact mp_cwc4 hi0 e_56 | omega) (by first | exact mp_cwd4 hi6 e_56 | omega) (by first | exact mp_fd_ok mp_k_code_ok (by decide +kernel) | decide +kernel) (fun v_57 hv_58 => ?_)
  have e_59 := mp_xs_same hv_20 hv_58 (by first | exact e_56.trans e_18.symm | omega)
  subst e_59
  show mp_W E X 4 339 [(3, .int i), (2, .ref q2), (1, .ref q1), (0, .ref b)] [.int v_19, .int v_14, .int v_9, .int v_4, .ref q2] (A_27 ++ B) k_29 n_30
  refine mp_run mp_k_code_ok hF mp_tabL_ok [mp_i (.aload_n 0), mp_i (.iload_n 3), mp_c (.iconst 5) 5, mp_i .iadd] (by decide +kernel) ?_
  intro z_60 h_61
  have e_62 : z_60.toInt = i.toInt + 5 := mp_add (a := i.toInt) (b := 5) h_61 rfl (by decide) (by first | exact mp_cwa5 hi0 | omega) (by first | exact mp_cwb5 h3 hi6 | omega)
  show mp_W E X 4 343 [(3, .int i), (2, .ref q2), (1, .ref q1), (0, .ref b)] [.int z_60, .ref b, .int v_19, .int v_14, .int v_9, .int v_4, .ref q2] (A_27 ++ B) k_29 n_30
  refine mp_lsld hL (by first | exact mp_cwc5 hi0 e_62 | omega) (by first | exact mp_cwd5 hi6 e_62 | omega) (by first | exact mp_fd_ok mp_k_code_ok (by decide +kernel) | decide +kernel) (fun v_63 hv_64 => ?_)
  have e_65 := mp_xs_same hv_25 hv_64 (by first | exact e_62.trans e_23.symm | omega)
  subst e_65
  show mp_W E X 4 344 [(3, .int i), (2, .ref q2), (1, .ref q1), (0, .ref b)] [.int v_24, .int v_19, .int v_14, .int v_9, .int v_4, .ref q2] (A_27 ++ B) k_29 n_30
  refine mp_swap ?_
  refine mp_cm_feed hF v_4 v_9 v_14 v_19 v_24 hB hW hWI (by first | exact mp_fd_ok mp_k_code_ok (by decide +kernel) | decide +kernel) (by omega) (by omega) (Nat.le_of_ble_eq_true rfl) (fun r_66 A_67 l_68 tp_75 k_69 n_70 hI_71 hr_72 hk_73 hn_74 => ?_)
  refine mp_swap ?_
  obtain rfl := mp_fd_eq hr_32.2 hr_72.2
  show mp_W E X 4 347 [(3, .int i), (2, .ref q2), (1, .ref q1), (0, .ref b)] [.int r_66] (A_27 ++ A_67) k_69 n_70
  refine mp_run mp_k_code_ok hF mp_tabL_ok [mp_i .pop, mp_h (.goto 1870) [2218]] (by decide +kernel) ?_
  refine And.intro rfl ?_
  show mp_W E X 4 2218 [(3, .int i), (2, .ref q2), (1, .ref q1), (0, .ref b)] [] (A_27 ++ A_67) k_69 n_70
  have hl_ : l_28 = l_68 := by omega
  exact kk _ _ _ _ _ _ _ _ _ _ _ _ _ _ _ hSL hW hWI hI_31 (hl_ ▸ hI_71) (by omega) (by omega)
set_option maxHeartbeats 4000000 in
set_option maxRecDepth 100000 in
theorem mp_case_1 {E : mp_E} {X : mp_X} {b L : Nat} {xs : Nat → Int32} (hL : mp_Lw E X b L xs) (h3 : L ≤ 3072) {i : Int32} (hi0 : 0 ≤ i.toInt) (hi6 : i.toInt + 6 ≤ L) {q1 q2 : Nat} {len : Int} {sw sl mw mm : Nat → Int32} {kp : Nat → Bool} {tp : Nat → Int32} {ft fp : Int} {td : mp_TD} {it : Nat → mp_TD} {A B : va_W} {k n : Nat} (hSL : mp_SL sw sl mw mm) (hW : mp_WF td) (hWI : ∀ j : Nat, mp_WF (it j)) (hA : mp_IC E q1 len sw sl kp tp ft fp td it A) (hB : mp_IM E q2 len mw mm kp tp ft fp td it B) (hk : k + 13 ≤ 600000) (hn : n + 204 ≤ 7302250) (kk : ∀ (len2 : Int) (sw2 sl2 mw2 mm2 : Nat → Int32) (kp2 : Nat → Bool) (tp2 : Nat → Int32) (ft2 fp2 : Int) (td2 : mp_TD) (it2 : Nat → mp_TD) (A2 B2 : va_W) (k2 n2 : Nat), mp_SL sw2 sl2 mw2 mm2 → mp_WF td2 → (∀ j : Nat, mp_WF (it2 j)) → mp_IC E q1 len2 sw2 sl2 kp2 tp2 ft2 fp2 td2 it2 A2 → mp_IM E q2 len2 mw2 mm2 kp2 tp2 ft2 fp2 td2 it2 B2 → k2 ≤ k + 13 → n2 ≤ n + 204 → mp_W E X 4 2218 [(3, .int i), (2, .ref q2), (1, .ref q1), (0, .ref b)] [] (A2 ++ B2) k2 n2) : mp_W E X 4 351 [(3, .int i), (2, .ref q2), (1, .ref q1), (0, .ref b)] [] (A ++ B) k n := by
  have hF : mp_F E X mp_ML := hL.1
  show mp_W E X 4 351 [(3, .int i), (2, .ref q2), (1, .ref q1), (0, .ref b)] [] (A ++ B) k n
  refine mp_run mp_k_code_ok hF mp_tabL_ok [mp_i (.aload_n 1), mp_i (.aload_n 0), mp_i (.iload_n 3), mp_c (.iconst 1) 1, mp_i .iadd] (by decide +kernel) ?_
  intro z_1 h_2
  have e_3 : z_1.toInt = i.toInt + 1 := mp_add (a := i.toInt) (b := 1) h_2 rfl (by decide) (by first | exact mp_cwa1 hi0 | omega) (by first | exact mp_cwb1 h3 hi6 | omega)
  show mp_W E X 4 356 [(3, .int i), (2, .ref q2), (1, .ref q1), (0, .ref b)] [.int z_1, .ref b, .ref q1] (A ++ B) k n
  refine mp_lsld hL (by first | exact mp_cwc1 hi0 e_3 | omega) (by first | exact mp_cwd1 hi6 e_3 | omega) (by first | exact mp_fd_ok mp_k_code_ok (by decide +kernel) | decide +kernel) (fun v_4 hv_5 => ?_)
  show mp_W E X 4 357 [(3, .int i), (2, .ref q2), (1, .ref q1), (0, .ref b)] [.int v_4, .ref q1] (A ++ B) k n
  refine mp_cc_end hF v_4 hA hW hWI (by first | exact mp_fd_ok mp_k_code_ok (by decide +kernel) | decide +kernel) (by omega) (by omega) (Nat.le_of_ble_eq_true rfl) (fun r_6 A_7 l_8 k_9 n_10 hI_11 hr_12 hk_13 hn_14 => ?_)
  show mp_W E X 4 360 [(3, .int i), (2, .ref q2), (1, .ref q1), (0, .ref b)] [.int r_6] (A_7 ++ B) k_9 n_10
  refine mp_run mp_k_code_ok hF mp_tabL_ok [mp_i .pop, mp_i (.aload_n 2), mp_i (.aload_n 0), mp_i (.iload_n 3), mp_c (.iconst 1) 1, mp_i .iadd] (by decide +kernel) ?_
  refine And.intro rfl ?_
  intro z_15 h_16
  have e_17 : z_15.toInt = i.toInt + 1 := mp_add (a := i.toInt) (b := 1) h_16 rfl (by decide) (by first | exact mp_cwa1 hi0 | omega) (by first | exact mp_cwb1 h3 hi6 | omega)
  show mp_W E X 4 366 [(3, .int i), (2, .ref q2), (1, .ref q1), (0, .ref b)] [.int z_15, .ref b, .ref q2] (A_7 ++ B) k_9 n_10
  refine mp_lsld hL (by first | exact mp_cwc1 hi0 e_17 | omega) (by first | exact mp_cwd1 hi6 e_17 | omega) (by first | exact mp_fd_ok mp_k_code_ok (by decide +kernel) | decide +kernel) (fun v_18 hv_19 => ?_)
  have e_20 := mp_xs_same hv_5 hv_19 (by first | exact e_17.trans e_3.symm | omega)
  subst e_20
  show mp_W E X 4 367 [(3, .int i), (2, .ref q2), (1, .ref q1), (0, .ref b)] [.int v_4, .ref q2] (A_7 ++ B) k_9 n_10
  refine mp_swap ?_
  refine mp_cm_end hF v_4 hB hW hWI (by first | exact mp_fd_ok mp_k_code_ok (by decide +kernel) | decide +kernel) (by omega) (by omega) (Nat.le_of_ble_eq_true rfl) (fun r_21 A_22 l_23 k_24 n_25 hI_26 hr_27 hk_28 hn_29 => ?_)
  refine mp_swap ?_
  show mp_W E X 4 370 [(3, .int i), (2, .ref q2), (1, .ref q1), (0, .ref b)] [.int r_21] (A_7 ++ A_22) k_24 n_25
  refine mp_run mp_k_code_ok hF mp_tabL_ok [mp_i .pop, mp_h (.goto 1847) [2218]] (by decide +kernel) ?_
  refine And.intro rfl ?_
  show mp_W E X 4 2218 [(3, .int i), (2, .ref q2), (1, .ref q1), (0, .ref b)] [] (A_7 ++ A_22) k_24 n_25
  have hl_ : l_8 = l_23 := by omega
  exact kk _ _ _ _ _ _ _ _ _ _ _ _ _ _ _ hSL hW hWI hI_11 (hl_ ▸ hI_26) (by omega) (by omega)
set_option maxHeartbeats 4000000 in
set_option maxRecDepth 100000 in
theorem mp_case_2 {E : mp_E} {X : mp_X} {b L : Nat} {xs : Nat → Int32} (hL : mp_Lw E X b L xs) (h3 : L ≤ 3072) {i : Int32} (hi0 : 0 ≤ i.toInt) (hi6 : i.toInt + 6 ≤ L) {q1 q2 : Nat} {len : Int} {sw sl mw mm : Nat → Int32} {kp : Nat → Bool} {tp : Nat → Int32} {ft fp : Int} {td : mp_TD} {it : Nat → mp_TD} {A B : va_W} {k n : Nat} (hSL : mp_SL sw sl mw mm) (hW : mp_WF td) (hWI : ∀ j : Nat, mp_WF (it j)) (hA : mp_IC E q1 len sw sl kp tp ft fp td it A) (hB : mp_IM E q2 len mw mm kp tp ft fp td it B) (hk : k + 13 ≤ 600000) (hn : n + 204 ≤ 7302250) (kk : ∀ (len2 : Int) (sw2 sl2 mw2 mm2 : Nat → Int32) (kp2 : Nat → Bool) (tp2 : Nat → Int32) (ft2 fp2 : Int) (td2 : mp_TD) (it2 : Nat → mp_TD) (A2 B2 : va_W) (k2 n2 : Nat), mp_SL sw2 sl2 mw2 mm2 → mp_WF td2 → (∀ j : Nat, mp_WF (it2 j)) → mp_IC E q1 len2 sw2 sl2 kp2 tp2 ft2 fp2 td2 it2 A2 → mp_IM E q2 len2 mw2 mm2 kp2 tp2 ft2 fp2 td2 it2 B2 → k2 ≤ k + 13 → n2 ≤ n + 204 → mp_W E X 4 2218 [(3, .int i), (2, .ref q2), (1, .ref q1), (0, .ref b)] [] (A2 ++ B2) k2 n2) : mp_W E X 4 374 [(3, .int i), (2, .ref q2), (1, .ref q1), (0, .ref b)] [] (A ++ B) k n := by
  have hF : mp_F E X mp_ML := hL.1
  show mp_W E X 4 374 [(3, .int i), (2, .ref q2), (1, .ref q1), (0, .ref b)] [] (A ++ B) k n
  refine mp_run mp_k_code_ok hF mp_tabL_ok [mp_i (.aload_n 1)] (by decide +kernel) ?_
  show mp_W E X 4 375 [(3, .int i), (2, .ref q2), (1, .ref q1), (0, .ref b)] [.ref q1] (A ++ B) k n
  refine mp_cc_isles hF  hA hW hWI (by first | exact mp_fd_ok mp_k_code_ok (by decide +kernel) | decide +kernel) (by omega) (by omega) (Nat.le_of_ble_eq_true rfl) (fun r_1 A_2 l_3 ft_10 fp_11 td_12 k_4 n_5 hI_6 hr_7 hk_8 hn_9 => ?_)
  show mp_W E X 4 378 [(3, .int i), (2, .ref q2), (1, .ref q1), (0, .ref b)] [.int r_1] (A_2 ++ B) k_4 n_5
  refine mp_run mp_k_code_ok hF mp_tabL_ok [mp_i .pop, mp_i (.aload_n 2)] (by decide +kernel) ?_
  refine And.intro rfl ?_
  show mp_W E X 4 380 [(3, .int i), (2, .ref q2), (1, .ref q1), (0, .ref b)] [.ref q2] (A_2 ++ B) k_4 n_5
  refine mp_swap ?_
  refine mp_cm_isles hF  hB hW hWI (by first | exact mp_fd_ok mp_k_code_ok (by decide +kernel) | decide +kernel) (by omega) (by omega) (Nat.le_of_ble_eq_true rfl) (fun r_13 A_14 l_15 ft_22 fp_23 td_24 k_16 n_17 hI_18 hr_19 hk_20 hn_21 => ?_)
  refine mp_swap ?_
  obtain ⟨hx_25, rfl, rfl, rfl⟩ := mp_islX_det hr_7.2 hr_19.2
  show mp_W E X 4 383 [(3, .int i), (2, .ref q2), (1, .ref q1), (0, .ref b)] [.int r_13] (A_2 ++ A_14) k_16 n_17
  refine mp_run mp_k_code_ok hF mp_tabL_ok [mp_i .pop, mp_h (.goto 1834) [2218]] (by decide +kernel) ?_
  refine And.intro rfl ?_
  show mp_W E X 4 2218 [(3, .int i), (2, .ref q2), (1, .ref q1), (0, .ref b)] [] (A_2 ++ A_14) k_16 n_17
  have hl_ : l_3 = l_15 := by omega
  exact kk _ _ _ _ _ _ _ _ _ _ _ _ _ _ _ hSL (mp_islX_W hW hr_7.2) hWI hI_6 (hl_ ▸ hI_18) (by omega) (by omega)
set_option maxHeartbeats 4000000 in
set_option maxRecDepth 100000 in
theorem mp_case_3 {E : mp_E} {X : mp_X} {b L : Nat} {xs : Nat → Int32} (hL : mp_Lw E X b L xs) (h3 : L ≤ 3072) {i : Int32} (hi0 : 0 ≤ i.toInt) (hi6 : i.toInt + 6 ≤ L) {q1 q2 : Nat} {len : Int} {sw sl mw mm : Nat → Int32} {kp : Nat → Bool} {tp : Nat → Int32} {ft fp : Int} {td : mp_TD} {it : Nat → mp_TD} {A B : va_W} {k n : Nat} (hSL : mp_SL sw sl mw mm) (hW : mp_WF td) (hWI : ∀ j : Nat, mp_WF (it j)) (hA : mp_IC E q1 len sw sl kp tp ft fp td it A) (hB : mp_IM E q2 len mw mm kp tp ft fp td it B) (hk : k + 13 ≤ 600000) (hn : n + 204 ≤ 7302250) (kk : ∀ (len2 : Int) (sw2 sl2 mw2 mm2 : Nat → Int32) (kp2 : Nat → Bool) (tp2 : Nat → Int32) (ft2 fp2 : Int) (td2 : mp_TD) (it2 : Nat → mp_TD) (A2 B2 : va_W) (k2 n2 : Nat), mp_SL sw2 sl2 mw2 mm2 → mp_WF td2 → (∀ j : Nat, mp_WF (it2 j)) → mp_IC E q1 len2 sw2 sl2 kp2 tp2 ft2 fp2 td2 it2 A2 → mp_IM E q2 len2 mw2 mm2 kp2 tp2 ft2 fp2 td2 it2 B2 → k2 ≤ k + 13 → n2 ≤ n + 204 → mp_W E X 4 2218 [(3, .int i), (2, .ref q2), (1, .ref q1), (0, .ref b)] [] (A2 ++ B2) k2 n2) : mp_W E X 4 387 [(3, .int i), (2, .ref q2), (1, .ref q1), (0, .ref b)] [] (A ++ B) k n := by
  have hF : mp_F E X mp_ML := hL.1
  show mp_W E X 4 387 [(3, .int i), (2, .ref q2), (1, .ref q1), (0, .ref b)] [] (A ++ B) k n
  refine mp_run mp_k_code_ok hF mp_tabL_ok [mp_i (.aload_n 1), mp_i (.aload_n 0), mp_i (.iload_n 3), mp_c (.iconst 1) 1, mp_i .iadd] (by decide +kernel) ?_
  intro z_1 h_2
  have e_3 : z_1.toInt = i.toInt + 1 := mp_add (a := i.toInt) (b := 1) h_2 rfl (by decide) (by first | exact mp_cwa1 hi0 | omega) (by first | exact mp_cwb1 h3 hi6 | omega)
  show mp_W E X 4 392 [(3, .int i), (2, .ref q2), (1, .ref q1), (0, .ref b)] [.int z_1, .ref b, .ref q1] (A ++ B) k n
  refine mp_lsld hL (by first | exact mp_cwc1 hi0 e_3 | omega) (by first | exact mp_cwd1 hi6 e_3 | omega) (by first | exact mp_fd_ok mp_k_code_ok (by decide +kernel) | decide +kernel) (fun v_4 hv_5 => ?_)
  show mp_W E X 4 393 [(3, .int i), (2, .ref q2), (1, .ref q1), (0, .ref b)] [.int v_4, .ref q1] (A ++ B) k n
  refine mp_cc_fault hF v_4 hA hW hWI (by first | exact mp_fd_ok mp_k_code_ok (by decide +kernel) | decide +kernel) (by omega) (by omega) (Nat.le_of_ble_eq_true rfl) (fun r_6 A_7 l_8 k_9 n_10 hI_11 hr_12 hk_13 hn_14 => ?_)
  show mp_W E X 4 396 [(3, .int i), (2, .ref q2), (1, .ref q1), (0, .ref b)] [.int r_6] (A_7 ++ B) k_9 n_10
  refine mp_run mp_k_code_ok hF mp_tabL_ok [mp_i .pop, mp_i (.aload_n 2), mp_i (.aload_n 0), mp_i (.iload_n 3), mp_c (.iconst 1) 1, mp_i .iadd] (by decide +kernel) ?_
  refine And.intro rfl ?_
  intro z_15 h_16
  have e_17 : z_15.toInt = i.toInt + 1 := mp_add (a := i.toInt) (b := 1) h_16 rfl (by decide) (by first | exact mp_cwa1 hi0 | omega) (by first | exact mp_cwb1 h3 hi6 | omega)
  show mp_W E X 4 402 [(3, .int i), (2, .ref q2), (1, .ref q1), (0, .ref b)] [.int z_15, .ref b, .ref q2] (A_7 ++ B) k_9 n_10
  refine mp_lsld hL (by first | exact mp_cwc1 hi0 e_17 | omega) (by first | exact mp_cwd1 hi6 e_17 | omega) (by first | exact mp_fd_ok mp_k_code_ok (by decide +kernel) | decide +kernel) (fun v_18 hv_19 => ?_)
  have e_20 := mp_xs_same hv_5 hv_19 (by first | exact e_17.trans e_3.symm | omega)
  subst e_20
  show mp_W E X 4 403 [(3, .int i), (2, .ref q2), (1, .ref q1), (0, .ref b)] [.int v_4, .ref q2] (A_7 ++ B) k_9 n_10
  refine mp_swap ?_
  refine mp_cm_fault hF v_4 hB hW hWI (by first | exact mp_fd_ok mp_k_code_ok (by decide +kernel) | decide +kernel) (by omega) (by omega) (Nat.le_of_ble_eq_true rfl) (fun r_21 A_22 l_23 k_24 n_25 hI_26 hr_27 hk_28 hn_29 => ?_)
  refine mp_swap ?_
  show mp_W E X 4 406 [(3, .int i), (2, .ref q2), (1, .ref q1), (0, .ref b)] [.int r_21] (A_7 ++ A_22) k_24 n_25
  refine mp_run mp_k_code_ok hF mp_tabL_ok [mp_i .pop, mp_h (.goto 1811) [2218]] (by decide +kernel) ?_
  refine And.intro rfl ?_
  show mp_W E X 4 2218 [(3, .int i), (2, .ref q2), (1, .ref q1), (0, .ref b)] [] (A_7 ++ A_22) k_24 n_25
  have hl_ : l_8 = l_23 := by omega
  exact kk _ _ _ _ _ _ _ _ _ _ _ _ _ _ _ hSL hW hWI hI_11 (hl_ ▸ hI_26) (by omega) (by omega)
set_option maxHeartbeats 4000000 in
set_option maxRecDepth 100000 in
theorem mp_case_4 {E : mp_E} {X : mp_X} {b L : Nat} {xs : Nat → Int32} (hL : mp_Lw E X b L xs) (h3 : L ≤ 3072) {i : Int32} (hi0 : 0 ≤ i.toInt) (hi6 : i.toInt + 6 ≤ L) {q1 q2 : Nat} {len : Int} {sw sl mw mm : Nat → Int32} {kp : Nat → Bool} {tp : Nat → Int32} {ft fp : Int} {td : mp_TD} {it : Nat → mp_TD} {A B : va_W} {k n : Nat} (hSL : mp_SL sw sl mw mm) (hW : mp_WF td) (hWI : ∀ j : Nat, mp_WF (it j)) (hA : mp_IC E q1 len sw sl kp tp ft fp td it A) (hB : mp_IM E q2 len mw mm kp tp ft fp td it B) (hk : k + 13 ≤ 600000) (hn : n + 204 ≤ 7302250) (kk : ∀ (len2 : Int) (sw2 sl2 mw2 mm2 : Nat → Int32) (kp2 : Nat → Bool) (tp2 : Nat → Int32) (ft2 fp2 : Int) (td2 : mp_TD) (it2 : Nat → mp_TD) (A2 B2 : va_W) (k2 n2 : Nat), mp_SL sw2 sl2 mw2 mm2 → mp_WF td2 → (∀ j : Nat, mp_WF (it2 j)) → mp_IC E q1 len2 sw2 sl2 kp2 tp2 ft2 fp2 td2 it2 A2 → mp_IM E q2 len2 mw2 mm2 kp2 tp2 ft2 fp2 td2 it2 B2 → k2 ≤ k + 13 → n2 ≤ n + 204 → mp_W E X 4 2218 [(3, .int i), (2, .ref q2), (1, .ref q1), (0, .ref b)] [] (A2 ++ B2) k2 n2) : mp_W E X 4 410 [(3, .int i), (2, .ref q2), (1, .ref q1), (0, .ref b)] [] (A ++ B) k n := by
  have hF : mp_F E X mp_ML := hL.1
  show mp_W E X 4 410 [(3, .int i), (2, .ref q2), (1, .ref q1), (0, .ref b)] [] (A ++ B) k n
  refine mp_run mp_k_code_ok hF mp_tabL_ok [mp_i (.aload_n 1), mp_i (.aload_n 0), mp_i (.iload_n 3), mp_c (.iconst 1) 1, mp_i .iadd] (by decide +kernel) ?_
  intro z_1 h_2
  have e_3 : z_1.toInt = i.toInt + 1 := mp_add (a := i.toInt) (b := 1) h_2 rfl (by decide) (by first | exact mp_cwa1 hi0 | omega) (by first | exact mp_cwb1 h3 hi6 | omega)
  show mp_W E X 4 415 [(3, .int i), (2, .ref q2), (1, .ref q1), (0, .ref b)] [.int z_1, .ref b, .ref q1] (A ++ B) k n
  refine mp_lsld hL (by first | exact mp_cwc1 hi0 e_3 | omega) (by first | exact mp_cwd1 hi6 e_3 | omega) (by first | exact mp_fd_ok mp_k_code_ok (by decide +kernel) | decide +kernel) (fun v_4 hv_5 => ?_)
  show mp_W E X 4 416 [(3, .int i), (2, .ref q2), (1, .ref q1), (0, .ref b)] [.int v_4, .ref q1] (A ++ B) k n
  refine mp_run mp_k_code_ok hF mp_tabL_ok [mp_i (.aload_n 0), mp_i (.iload_n 3), mp_c (.iconst 2) 2, mp_i .iadd] (by decide +kernel) ?_
  intro z_6 h_7
  have e_8 : z_6.toInt = i.toInt + 2 := mp_add (a := i.toInt) (b := 2) h_7 rfl (by decide) (by first | exact mp_cwa2 hi0 | omega) (by first | exact mp_cwb2 h3 hi6 | omega)
  show mp_W E X 4 420 [(3, .int i), (2, .ref q2), (1, .ref q1), (0, .ref b)] [.int z_6, .ref b, .int v_4, .ref q1] (A ++ B) k n
  refine mp_lsld hL (by first | exact mp_cwc2 hi0 e_8 | omega) (by first | exact mp_cwd2 hi6 e_8 | omega) (by first | exact mp_fd_ok mp_k_code_ok (by decide +kernel) | decide +kernel) (fun v_9 hv_10 => ?_)
  show mp_W E X 4 421 [(3, .int i), (2, .ref q2), (1, .ref q1), (0, .ref b)] [.int v_9, .int v_4, .ref q1] (A ++ B) k n
  refine mp_cc_person hF v_4 v_9 hA hW hWI (by first | exact mp_fd_ok mp_k_code_ok (by decide +kernel) | decide +kernel) (by omega) (by omega) (Nat.le_of_ble_eq_true rfl) (fun r_11 A_12 l_13 k_14 n_15 hI_16 hr_17 hk_18 hn_19 => ?_)
  show mp_W E X 4 424 [(3, .int i), (2, .ref q2), (1, .ref q1), (0, .ref b)] [.int r_11] (A_12 ++ B) k_14 n_15
  refine mp_run mp_k_code_ok hF mp_tabL_ok [mp_i .pop, mp_i (.aload_n 2), mp_i (.aload_n 0), mp_i (.iload_n 3), mp_c (.iconst 1) 1, mp_i .iadd] (by decide +kernel) ?_
  refine And.intro rfl ?_
  intro z_20 h_21
  have e_22 : z_20.toInt = i.toInt + 1 := mp_add (a := i.toInt) (b := 1) h_21 rfl (by decide) (by first | exact mp_cwa1 hi0 | omega) (by first | exact mp_cwb1 h3 hi6 | omega)
  show mp_W E X 4 430 [(3, .int i), (2, .ref q2), (1, .ref q1), (0, .ref b)] [.int z_20, .ref b, .ref q2] (A_12 ++ B) k_14 n_15
  refine mp_lsld hL (by first | exact mp_cwc1 hi0 e_22 | omega) (by first | exact mp_cwd1 hi6 e_22 | omega) (by first | exact mp_fd_ok mp_k_code_ok (by decide +kernel) | decide +kernel) (fun v_23 hv_24 => ?_)
  have e_25 := mp_xs_same hv_5 hv_24 (by first | exact e_22.trans e_3.symm | omega)
  subst e_25
  show mp_W E X 4 431 [(3, .int i), (2, .ref q2), (1, .ref q1), (0, .ref b)] [.int v_4, .ref q2] (A_12 ++ B) k_14 n_15
  refine mp_run mp_k_code_ok hF mp_tabL_ok [mp_i (.aload_n 0), mp_i (.iload_n 3), mp_c (.iconst 2) 2, mp_i .iadd] (by decide +kernel) ?_
  intro z_26 h_27
  have e_28 : z_26.toInt = i.toInt + 2 := mp_add (a := i.toInt) (b := 2) h_27 rfl (by decide) (by first | exact mp_cwa2 hi0 | omega) (by first | exact mp_cwb2 h3 hi6 | omega)
  show mp_W E X 4 435 [(3, .int i), (2, .ref q2), (1, .ref q1), (0, .ref b)] [.int z_26, .ref b, .int v_4, .ref q2] (A_12 ++ B) k_14 n_15
  refine mp_lsld hL (by first | exact mp_cwc2 hi0 e_28 | omega) (by first | exact mp_cwd2 hi6 e_28 | omega) (by first | exact mp_fd_ok mp_k_code_ok (by decide +kernel) | decide +kernel) (fun v_29 hv_30 => ?_)
  have e_31 := mp_xs_same hv_10 hv_30 (by first | exact e_28.trans e_8.symm | omega)
  subst e_31
  show mp_W E X 4 436 [(3, .int i), (2, .ref q2), (1, .ref q1), (0, .ref b)] [.int v_9, .int v_4, .ref q2] (A_12 ++ B) k_14 n_15
  refine mp_swap ?_
  refine mp_cm_person hF v_4 v_9 hB hW hWI (by first | exact mp_fd_ok mp_k_code_ok (by decide +kernel) | decide +kernel) (by omega) (by omega) (Nat.le_of_ble_eq_true rfl) (fun r_32 A_33 l_34 k_35 n_36 hI_37 hr_38 hk_39 hn_40 => ?_)
  refine mp_swap ?_
  have hx_41 := hr_17.2.trans hr_38.2.symm
  show mp_W E X 4 439 [(3, .int i), (2, .ref q2), (1, .ref q1), (0, .ref b)] [.int r_32] (A_12 ++ A_33) k_35 n_36
  refine mp_run mp_k_code_ok hF mp_tabL_ok [mp_i .pop, mp_h (.goto 1778) [2218]] (by decide +kernel) ?_
  refine And.intro rfl ?_
  show mp_W E X 4 2218 [(3, .int i), (2, .ref q2), (1, .ref q1), (0, .ref b)] [] (A_12 ++ A_33) k_35 n_36
  have hl_ : l_13 = l_34 := by omega
  exact kk _ _ _ _ _ _ _ _ _ _ _ _ _ _ _ hSL hW hWI hI_16 (hl_ ▸ hI_37) (by omega) (by omega)
set_option maxHeartbeats 4000000 in
set_option maxRecDepth 100000 in
theorem mp_case_5 {E : mp_E} {X : mp_X} {b L : Nat} {xs : Nat → Int32} (hL : mp_Lw E X b L xs) (h3 : L ≤ 3072) {i : Int32} (hi0 : 0 ≤ i.toInt) (hi6 : i.toInt + 6 ≤ L) {q1 q2 : Nat} {len : Int} {sw sl mw mm : Nat → Int32} {kp : Nat → Bool} {tp : Nat → Int32} {ft fp : Int} {td : mp_TD} {it : Nat → mp_TD} {A B : va_W} {k n : Nat} (hSL : mp_SL sw sl mw mm) (hW : mp_WF td) (hWI : ∀ j : Nat, mp_WF (it j)) (hA : mp_IC E q1 len sw sl kp tp ft fp td it A) (hB : mp_IM E q2 len mw mm kp tp ft fp td it B) (hk : k + 13 ≤ 600000) (hn : n + 204 ≤ 7302250) (kk : ∀ (len2 : Int) (sw2 sl2 mw2 mm2 : Nat → Int32) (kp2 : Nat → Bool) (tp2 : Nat → Int32) (ft2 fp2 : Int) (td2 : mp_TD) (it2 : Nat → mp_TD) (A2 B2 : va_W) (k2 n2 : Nat), mp_SL sw2 sl2 mw2 mm2 → mp_WF td2 → (∀ j : Nat, mp_WF (it2 j)) → mp_IC E q1 len2 sw2 sl2 kp2 tp2 ft2 fp2 td2 it2 A2 → mp_IM E q2 len2 mw2 mm2 kp2 tp2 ft2 fp2 td2 it2 B2 → k2 ≤ k + 13 → n2 ≤ n + 204 → mp_W E X 4 2218 [(3, .int i), (2, .ref q2), (1, .ref q1), (0, .ref b)] [] (A2 ++ B2) k2 n2) : mp_W E X 4 443 [(3, .int i), (2, .ref q2), (1, .ref q1), (0, .ref b)] [] (A ++ B) k n := by
  have hF : mp_F E X mp_ML := hL.1
  show mp_W E X 4 443 [(3, .int i), (2, .ref q2), (1, .ref q1), (0, .ref b)] [] (A ++ B) k n
  refine mp_run mp_k_code_ok hF mp_tabL_ok [mp_i (.aload_n 1), mp_i (.aload_n 0), mp_i (.iload_n 3), mp_c (.iconst 1) 1, mp_i .iadd] (by decide +kernel) ?_
  intro z_1 h_2
  have e_3 : z_1.toInt = i.toInt + 1 := mp_add (a := i.toInt) (b := 1) h_2 rfl (by decide) (by first | exact mp_cwa1 hi0 | omega) (by first | exact mp_cwb1 h3 hi6 | omega)
  show mp_W E X 4 448 [(3, .int i), (2, .ref q2), (1, .ref q1), (0, .ref b)] [.int z_1, .ref b, .ref q1] (A ++ B) k n
  refine mp_lsld hL (by first | exact mp_cwc1 hi0 e_3 | omega) (by first | exact mp_cwd1 hi6 e_3 | omega) (by first | exact mp_fd_ok mp_k_code_ok (by decide +kernel) | decide +kernel) (fun v_4 hv_5 => ?_)
  show mp_W E X 4 449 [(3, .int i), (2, .ref q2), (1, .ref q1), (0, .ref b)] [.int v_4, .ref q1] (A ++ B) k n
  refine mp_run mp_k_code_ok hF mp_tabL_ok [mp_i (.aload_n 0), mp_i (.iload_n 3), mp_c (.iconst 2) 2, mp_i .iadd] (by decide +kernel) ?_
  intro z_6 h_7
  have e_8 : z_6.toInt = i.toInt + 2 := mp_add (a := i.toInt) (b := 2) h_7 rfl (by decide) (by first | exact mp_cwa2 hi0 | omega) (by first | exact mp_cwb2 h3 hi6 | omega)
  show mp_W E X 4 453 [(3, .int i), (2, .ref q2), (1, .ref q1), (0, .ref b)] [.int z_6, .ref b, .int v_4, .ref q1] (A ++ B) k n
  refine mp_lsld hL (by first | exact mp_cwc2 hi0 e_8 | omega) (by first | exact mp_cwd2 hi6 e_8 | omega) (by first | exact mp_fd_ok mp_k_code_ok (by decide +kernel) | decide +kernel) (fun v_9 hv_10 => ?_)
  show mp_W E X 4 454 [(3, .int i), (2, .ref q2), (1, .ref q1), (0, .ref b)] [.int v_9, .int v_4, .ref q1] (A ++ B) k n
  refine mp_cc_promise hF v_4 v_9 hA hW hWI (by first | exact mp_fd_ok mp_k_code_ok (by decide +kernel) | decide +kernel) (by omega) (by omega) (Nat.le_of_ble_eq_true rfl) (fun r_11 A_12 l_13 k_14 n_15 hI_16 hr_17 hk_18 hn_19 => ?_)
  show mp_W E X 4 457 [(3, .int i), (2, .ref q2), (1, .ref q1), (0, .ref b)] [.int r_11] (A_12 ++ B) k_14 n_15
  refine mp_run mp_k_code_ok hF mp_tabL_ok [mp_i .pop, mp_i (.aload_n 2), mp_i (.aload_n 0), mp_i (.iload_n 3), mp_c (.iconst 1) 1, mp_i .iadd] (by decide +kernel) ?_
  refine And.intro rfl ?_
  intro z_20 h_21
  have e_22 : z_20.toInt = i.toInt + 1 := mp_add (a := i.toInt) (b := 1) h_21 rfl (by decide) (by first | exact mp_cwa1 hi0 | omega) (by first | exact mp_cwb1 h3 hi6 | omega)
  show mp_W E X 4 463 [(3, .int i), (2, .ref q2), (1, .ref q1), (0, .ref b)] [.int z_20, .ref b, .ref q2] (A_12 ++ B) k_14 n_15
  refine mp_lsld hL (by first | exact mp_cwc1 hi0 e_22 | omega) (by first | exact mp_cwd1 hi6 e_22 | omega) (by first | exact mp_fd_ok mp_k_code_ok (by decide +kernel) | decide +kernel) (fun v_23 hv_24 => ?_)
  have e_25 := mp_xs_same hv_5 hv_24 (by first | exact e_22.trans e_3.symm | omega)
  subst e_25
  show mp_W E X 4 464 [(3, .int i), (2, .ref q2), (1, .ref q1), (0, .ref b)] [.int v_4, .ref q2] (A_12 ++ B) k_14 n_15
  refine mp_run mp_k_code_ok hF mp_tabL_ok [mp_i (.aload_n 0), mp_i (.iload_n 3), mp_c (.iconst 2) 2, mp_i .iadd] (by decide +kernel) ?_
  intro z_26 h_27
  have e_28 : z_26.toInt = i.toInt + 2 := mp_add (a := i.toInt) (b := 2) h_27 rfl (by decide) (by first | exact mp_cwa2 hi0 | omega) (by first | exact mp_cwb2 h3 hi6 | omega)
  show mp_W E X 4 468 [(3, .int i), (2, .ref q2), (1, .ref q1), (0, .ref b)] [.int z_26, .ref b, .int v_4, .ref q2] (A_12 ++ B) k_14 n_15
  refine mp_lsld hL (by first | exact mp_cwc2 hi0 e_28 | omega) (by first | exact mp_cwd2 hi6 e_28 | omega) (by first | exact mp_fd_ok mp_k_code_ok (by decide +kernel) | decide +kernel) (fun v_29 hv_30 => ?_)
  have e_31 := mp_xs_same hv_10 hv_30 (by first | exact e_28.trans e_8.symm | omega)
  subst e_31
  show mp_W E X 4 469 [(3, .int i), (2, .ref q2), (1, .ref q1), (0, .ref b)] [.int v_9, .int v_4, .ref q2] (A_12 ++ B) k_14 n_15
  refine mp_swap ?_
  refine mp_cm_promise hF v_4 v_9 hB hW hWI (by first | exact mp_fd_ok mp_k_code_ok (by decide +kernel) | decide +kernel) (by omega) (by omega) (Nat.le_of_ble_eq_true rfl) (fun r_32 A_33 l_34 k_35 n_36 hI_37 hr_38 hk_39 hn_40 => ?_)
  refine mp_swap ?_
  have hx_41 := hr_17.2.trans hr_38.2.symm
  show mp_W E X 4 472 [(3, .int i), (2, .ref q2), (1, .ref q1), (0, .ref b)] [.int r_32] (A_12 ++ A_33) k_35 n_36
  refine mp_run mp_k_code_ok hF mp_tabL_ok [mp_i .pop, mp_h (.goto 1745) [2218]] (by decide +kernel) ?_
  refine And.intro rfl ?_
  show mp_W E X 4 2218 [(3, .int i), (2, .ref q2), (1, .ref q1), (0, .ref b)] [] (A_12 ++ A_33) k_35 n_36
  have hl_ : l_13 = l_34 := by omega
  exact kk _ _ _ _ _ _ _ _ _ _ _ _ _ _ _ hSL hW hWI hI_16 (hl_ ▸ hI_37) (by omega) (by omega)
set_option maxHeartbeats 4000000 in
set_option maxRecDepth 100000 in
theorem mp_case_6 {E : mp_E} {X : mp_X} {b L : Nat} {xs : Nat → Int32} (hL : mp_Lw E X b L xs) (h3 : L ≤ 3072) {i : Int32} (hi0 : 0 ≤ i.toInt) (hi6 : i.toInt + 6 ≤ L) {q1 q2 : Nat} {len : Int} {sw sl mw mm : Nat → Int32} {kp : Nat → Bool} {tp : Nat → Int32} {ft fp : Int} {td : mp_TD} {it : Nat → mp_TD} {A B : va_W} {k n : Nat} (hSL : mp_SL sw sl mw mm) (hW : mp_WF td) (hWI : ∀ j : Nat, mp_WF (it j)) (hA : mp_IC E q1 len sw sl kp tp ft fp td it A) (hB : mp_IM E q2 len mw mm kp tp ft fp td it B) (hk : k + 13 ≤ 600000) (hn : n + 204 ≤ 7302250) (kk : ∀ (len2 : Int) (sw2 sl2 mw2 mm2 : Nat → Int32) (kp2 : Nat → Bool) (tp2 : Nat → Int32) (ft2 fp2 : Int) (td2 : mp_TD) (it2 : Nat → mp_TD) (A2 B2 : va_W) (k2 n2 : Nat), mp_SL sw2 sl2 mw2 mm2 → mp_WF td2 → (∀ j : Nat, mp_WF (it2 j)) → mp_IC E q1 len2 sw2 sl2 kp2 tp2 ft2 fp2 td2 it2 A2 → mp_IM E q2 len2 mw2 mm2 kp2 tp2 ft2 fp2 td2 it2 B2 → k2 ≤ k + 13 → n2 ≤ n + 204 → mp_W E X 4 2218 [(3, .int i), (2, .ref q2), (1, .ref q1), (0, .ref b)] [] (A2 ++ B2) k2 n2) : mp_W E X 4 476 [(3, .int i), (2, .ref q2), (1, .ref q1), (0, .ref b)] [] (A ++ B) k n := by
  have hF : mp_F E X mp_ML := hL.1
  show mp_W E X 4 476 [(3, .int i), (2, .ref q2), (1, .ref q1), (0, .ref b)] [] (A ++ B) k n
  refine mp_run mp_k_code_ok hF mp_tabL_ok [mp_i (.aload_n 1), mp_i (.aload_n 0), mp_i (.iload_n 3), mp_c (.iconst 1) 1, mp_i .iadd] (by decide +kernel) ?_
  intro z_1 h_2
  have e_3 : z_1.toInt = i.toInt + 1 := mp_add (a := i.toInt) (b := 1) h_2 rfl (by decide) (by first | exact mp_cwa1 hi0 | omega) (by first | exact mp_cwb1 h3 hi6 | omega)
  show mp_W E X 4 481 [(3, .int i), (2, .ref q2), (1, .ref q1), (0, .ref b)] [.int z_1, .ref b, .ref q1] (A ++ B) k n
  refine mp_lsld hL (by first | exact mp_cwc1 hi0 e_3 | omega) (by first | exact mp_cwd1 hi6 e_3 | omega) (by first | exact mp_fd_ok mp_k_code_ok (by decide +kernel) | decide +kernel) (fun v_4 hv_5 => ?_)
  show mp_W E X 4 482 [(3, .int i), (2, .ref q2), (1, .ref q1), (0, .ref b)] [.int v_4, .ref q1] (A ++ B) k n
  refine mp_run mp_k_code_ok hF mp_tabL_ok [mp_i (.aload_n 0), mp_i (.iload_n 3), mp_c (.iconst 2) 2, mp_i .iadd] (by decide +kernel) ?_
  intro z_6 h_7
  have e_8 : z_6.toInt = i.toInt + 2 := mp_add (a := i.toInt) (b := 2) h_7 rfl (by decide) (by first | exact mp_cwa2 hi0 | omega) (by first | exact mp_cwb2 h3 hi6 | omega)
  show mp_W E X 4 486 [(3, .int i), (2, .ref q2), (1, .ref q1), (0, .ref b)] [.int z_6, .ref b, .int v_4, .ref q1] (A ++ B) k n
  refine mp_lsld hL (by first | exact mp_cwc2 hi0 e_8 | omega) (by first | exact mp_cwd2 hi6 e_8 | omega) (by first | exact mp_fd_ok mp_k_code_ok (by decide +kernel) | decide +kernel) (fun v_9 hv_10 => ?_)
  show mp_W E X 4 487 [(3, .int i), (2, .ref q2), (1, .ref q1), (0, .ref b)] [.int v_9, .int v_4, .ref q1] (A ++ B) k n
  refine mp_cc_sea hF v_4 v_9 hA hW hWI (by first | exact mp_fd_ok mp_k_code_ok (by decide +kernel) | decide +kernel) (by omega) (by omega) (Nat.le_of_ble_eq_true rfl) (fun r_11 A_12 l_13 k_14 n_15 hI_16 hr_17 hk_18 hn_19 => ?_)
  show mp_W E X 4 490 [(3, .int i), (2, .ref q2), (1, .ref q1), (0, .ref b)] [.int r_11] (A_12 ++ B) k_14 n_15
  refine mp_run mp_k_code_ok hF mp_tabL_ok [mp_i .pop, mp_i (.aload_n 2), mp_i (.aload_n 0), mp_i (.iload_n 3), mp_c (.iconst 1) 1, mp_i .iadd] (by decide +kernel) ?_
  refine And.intro rfl ?_
  intro z_20 h_21
  have e_22 : z_20.toInt = i.toInt + 1 := mp_add (a := i.toInt) (b := 1) h_21 rfl (by decide) (by first | exact mp_cwa1 hi0 | omega) (by first | exact mp_cwb1 h3 hi6 | omega)
  show mp_W E X 4 496 [(3, .int i), (2, .ref q2), (1, .ref q1), (0, .ref b)] [.int z_20, .ref b, .ref q2] (A_12 ++ B) k_14 n_15
  refine mp_lsld hL (by first | exact mp_cwc1 hi0 e_22 | omega) (by first | exact mp_cwd1 hi6 e_22 | omega) (by first | exact mp_fd_ok mp_k_code_ok (by decide +kernel) | decide +kernel) (fun v_23 hv_24 => ?_)
  have e_25 := mp_xs_same hv_5 hv_24 (by first | exact e_22.trans e_3.symm | omega)
  subst e_25
  show mp_W E X 4 497 [(3, .int i), (2, .ref q2), (1, .ref q1), (0, .ref b)] [.int v_4, .ref q2] (A_12 ++ B) k_14 n_15
  refine mp_run mp_k_code_ok hF mp_tabL_ok [mp_i (.aload_n 0), mp_i (.iload_n 3), mp_c (.iconst 2) 2, mp_i .iadd] (by decide +kernel) ?_
  intro z_26 h_27
  have e_28 : z_26.toInt = i.toInt + 2 := mp_add (a := i.toInt) (b := 2) h_27 rfl (by decide) (by first | exact mp_cwa2 hi0 | omega) (by first | exact mp_cwb2 h3 hi6 | omega)
  show mp_W E X 4 501 [(3, .int i), (2, .ref q2), (1, .ref q1), (0, .ref b)] [.int z_26, .ref b, .int v_4, .ref q2] (A_12 ++ B) k_14 n_15
  refine mp_lsld hL (by first | exact mp_cwc2 hi0 e_28 | omega) (by first | exact mp_cwd2 hi6 e_28 | omega) (by first | exact mp_fd_ok mp_k_code_ok (by decide +kernel) | decide +kernel) (fun v_29 hv_30 => ?_)
  have e_31 := mp_xs_same hv_10 hv_30 (by first | exact e_28.trans e_8.symm | omega)
  subst e_31
  show mp_W E X 4 502 [(3, .int i), (2, .ref q2), (1, .ref q1), (0, .ref b)] [.int v_9, .int v_4, .ref q2] (A_12 ++ B) k_14 n_15
  refine mp_swap ?_
  refine mp_cm_sea hF v_4 v_9 hB hW hWI (by first | exact mp_fd_ok mp_k_code_ok (by decide +kernel) | decide +kernel) (by omega) (by omega) (Nat.le_of_ble_eq_true rfl) (fun r_32 A_33 l_34 k_35 n_36 hI_37 hr_38 hk_39 hn_40 => ?_)
  refine mp_swap ?_
  have hx_41 := hr_17.2.trans hr_38.2.symm
  show mp_W E X 4 505 [(3, .int i), (2, .ref q2), (1, .ref q1), (0, .ref b)] [.int r_32] (A_12 ++ A_33) k_35 n_36
  refine mp_run mp_k_code_ok hF mp_tabL_ok [mp_i .pop, mp_h (.goto 1712) [2218]] (by decide +kernel) ?_
  refine And.intro rfl ?_
  show mp_W E X 4 2218 [(3, .int i), (2, .ref q2), (1, .ref q1), (0, .ref b)] [] (A_12 ++ A_33) k_35 n_36
  have hl_ : l_13 = l_34 := by omega
  exact kk _ _ _ _ _ _ _ _ _ _ _ _ _ _ _ hSL hW hWI hI_16 (hl_ ▸ hI_37) (by omega) (by omega)
