set_option maxHeartbeats 4000000 in
set_option maxRecDepth 100000 in
theorem mp_case_0 {E : mp_E} {X : mp_X} {b L : Nat} {xs : Nat → Int32} (hL : mp_Lw E X b L xs) (h3 : L ≤ 3072) {i : Int32} (hi0 : 0 ≤ i.toInt) (hi6 : i.toInt + 6 ≤ L) {q1 q2 : Nat} {len : Int} {sw sl mw mm : Nat → Int32} {kp : Nat → Bool} {tp : Nat → Int32} {ft fp : Int} {td : mp_TD} {it : Nat → mp_TD} {A B : va_W} {k n : Nat} (hSL : mp_SL sw sl mw mm) (hW : mp_WF td) (hWI : ∀ j : Nat, mp_WF (it j)) (hA : mp_IC E q1 len sw sl kp tp ft fp td it A) (hB : mp_IM E q2 len mw mm kp tp ft fp td it B) (hk : k + 13 ≤ 600000) (hn : n + 204 ≤ 7302250) (kk : ∀ (len2 : Int) (sw2 sl2 mw2 mm2 : Nat → Int32) (kp2 : Nat → Bool) (tp2 : Nat → Int32) (ft2 fp2 : Int) (td2 : mp_TD) (it2 : Nat → mp_TD) (A2 B2 : va_W) (k2 n2 : Nat), mp_SL sw2 sl2 mw2 mm2 → mp_WF td2 → (∀ j : Nat, mp_WF (it2 j)) → mp_IC E q1 len2 sw2 sl2 kp2 tp2 ft2 fp2 td2 it2 A2 → mp_IM E q2 len2 mw2 mm2 kp2 tp2 ft2 fp2 td2 it2 B2 → k2 ≤ k + 13 → n2 ≤ n + 204 → mp_W E X 4 2218 [(3, .int i), (2, .ref q2), (1, .ref q1), (0, .ref b)] [] (A2 ++ B2) k2 n2) : mp_W E X 4 288 [(3, .int i), (2, .ref q2), (1, .ref q1), (0, .ref b)] [] (A ++ B) k n := by
  have hF : mp_F E X mp_ML := hL.1
  show mp_W E X 4 288 [(3, .int i), (2, .ref q2), (1, .ref q1), (0, .ref b)] [] (A ++ B) k n
  refine mp_run mp_k_code_ok hF mp_tabL_ok [mp_i (.aload_n 1), mp_i (.aload_n 0), mp_i (.iload_n 3), mp_c (.iconst 1) 1, mp_i .iadd] (by decide +kernel) ?_
  intro z_1 h_2
  have e_3 : z_1.toInt = i.toInt + 1 := mp_add (a := i.toInt) (b := 1) h_2 rfl (by decide) (by first | exact mp_cwa1 hi0 | omega) (by first | exact mp_cwb1 h3 hi6 | omega)
  show mp_W E X 4 293 [(3, .int i), (2, .ref q2), (1, .ref q1), (0, .ref b)] [.int z_1, .ref b, .ref q1] (A ++ B) k n
  refine mp_lsld hL (by first | exact mp_cwc1 hi0 e_3 | omega) (by first | exact mp_cwd1 hi6 e_3 | omega) (by first | exact mp_fd_ok mp_k_code_ok (by decide +kernel) | decide +kernel) (fun v_4 hv_5 => ?_)
  show mp_W E X 4 294 [(3, .int i), (2, .ref q2), (1, .ref q1), (0, .ref b)] [.int v_4, .ref q1] (A ++ B) k n
  refine mp_run mp_k_code_ok hF mp_tabL_ok [mp_i (.aload_n 0), mp_i (.iload_n 3), mp_c (.iconst 2) 2, mp_i .iadd] (by decide +kernel) ?_
  intro z_6 h_7
  have e_8 : z_6.toInt = i.toInt + 2 := mp_add (a := i.toInt) (b := 2) h_7 rfl (by decide) (by first | exact mp_cwa2 hi0 | omega) (by first | exact mp_cwb2 h3 hi6 | omega)
  show mp_W E X 4 298 [(3, .int i), (2, .ref q2), (1, .ref q1), (0, .ref b)] [.int z_6, .ref b, .int v_4, .ref q1] (A ++ B) k n
  refine mp_lsld hL (by first | exact mp_cwc2 hi0 e_8 | omega) (by first | exact mp_cwd2 hi6 e_8 | omega) (by first | exact mp_fd_ok mp_k_code_ok (by decide +kernel) | decide +kernel) (fun v_9 hv_10 => ?_)
  show mp_W E X 4 299 [(3, .int i), (2, .ref q2), (1, .ref q1), (0, .ref b)] [.int v_9, .int v_4, .ref q1] (A ++ B) k n
  refine mp_run mp_k_code_ok hF mp_tabL_ok [mp_i (.aload_n 0), mp_i (.iload_n 3), mp_c (.iconst 3) 3, mp_i .iadd] (by decide +kernel) ?_
  intro z_11 h_12
  have e_13 : z_11.toInt = i.toInt + 3 := mp_add (a := i.toInt) (b := 3) h_12 rfl (by decide) (by first | exact mp_cwa3 hi0 | omega) (by first | exact mp_cwb3 h3 hi6 | omega)
  show mp_W E X 4 303 [(3, .int i), (2, .ref q2), (1, .ref q1), (0, .ref b)] [.int z_11, .ref b, .int v_9, .int v_4, .ref q1] (A ++ B) k n
  refine mp_lsld hL (by first | exact mp_cwc3 hi0 e_13 | omega) (by first | exact mp_cwd3 hi6 e_13 | omega) (by first | exact mp_fd_ok mp_k_code_ok (by decide +kernel) | decide +kernel) (fun v_14 hv_15 => ?_)
  show mp_W E X 4 304 [(3, .int i), (2, .ref q2), (1, .ref q1), (0, .ref b)] [.int v_14, .int v_9, .int v_4, .ref q1] (A ++ B) k n
  refine mp_run mp_k_code_ok hF mp_tabL_ok [mp_i (.aload_n 0), mp_i (.iload_n 3), mp_c (.iconst 4) 4, mp_i .iadd] (by decide +kernel) ?_
  intro z_16 h_17
  have e_18 : z_16.toInt = i.toInt + 4 := mp_add (a := i.toInt) (b := 4) h_17 rfl (by decide) (by first | exact mp_cwa4 hi0 | omega) (by first | exact mp_cwb4 h3 hi6 | omega)
  show mp_W E X 4 308 [(3, .int i), (2, .ref q2), (1, .ref q1), (0, .ref b)] [.int z_16, .ref b, .int v_14, .int v_9, .int v_4, .ref q1] (A ++ B) k n
  refine mp_lsld hL (by first | exact mp_cwc4 hi0 e_18 | omega) (by first | exact mp_cwd4 hi6 e_18 | omega) (by first | exact mp_fd_ok mp_k_code_ok (by decide +kernel) | decide +kernel) (fun v_19 hv_20 => ?_)
  show mp_W E X 4 309 [(3, .int i), (2, .ref q2), (1, .ref q1), (0, .ref b)] [.int v_19, .int v_14, .int v_9, .int v_4, .ref q1] (A ++ B) k n
  refine mp_run mp_k_code_ok hF mp_tabL_ok [mp_i (.aload_n 0), mp_i (.iload_n 3), mp_c (.iconst 5) 5, mp_i .iadd] (by decide +kernel) ?_
  intro z_21 h_22
  have e_23 : z_21.toInt = i.toInt + 5 := mp_add (a := i.toInt) (b := 5) h_22 rfl (by decide) (by first | exact mp_cwa5 hi0 | omega) (by first | exact mp_cwb5 h3 hi6 | omega)
  show mp_W E X 4 313 [(3, .int i), (2, .ref q2), (1, .ref q1), (0, .ref b)] [.int z_21, .ref b, .int v_19, .int v_14, .int v_9, .int v_4, .ref q1] (A ++ B) k n
  refine mp_lsld hL (by first | exact mp_cwc5 hi0 e_23 | omega) (by first | exact mp_cwd5 hi6 e_23 | omega) (by first | exact mp_fd_ok mp_k_code_ok (by decide +kernel) | decide +kernel) (fun v_24 hv_25 => ?_)
  show mp_W E X 4 314 [(3, .int i), (2, .ref q2), (1, .ref q1), (0, .ref b)] [.int v_24, .int v_19, .int v_14, .int v_9, .int v_4, .ref q1] (A ++ B) k n
  refine mp_cc_feed hF v_4 v_9 v_14 v_19 v_24 hA hW hWI (by first | exact mp_fd_ok mp_k_code_ok (by decide +kernel) | decide +kernel) (by omega) (by omega) (Nat.le_of_ble_eq_true rfl) (fun r_26 A_27 l_28 tp_35 k_29 n_30 hI_31 hr_32 hk_33 hn_34 => ?_)
  show mp_W E X 4 317 [(3, .int i), (2, .ref q2), (1, .ref q1), (0, .ref b)] [.int r_26] (A_27 ++ B) k_29 n_30
  refine mp_run mp_k_code_ok hF mp_tabL_ok [mp_i .pop, mp_i (.aload_n 2), mp_i (.aload_n 0), mp_i (.iload_n 3), mp_c (.iconst 1) 1, mp_i .iadd] (by decide +kernel) ?_
  refine And.intro rfl ?_
  intro z_36 h_37
  have e_38 : z_36.toInt = i.toInt + 1 := mp_add (a := i.toInt) (b := 1) h_37 rfl (by decide) (by first | exact mp_cwa1 hi0 | omega) (by first | exact mp_cwb1 h3 hi6 | omega)
  show mp_W E X 4 323 [(3, .int i), (2, .ref q2), (1, .ref q1), (0, .ref b)] [.int z_36, .ref b, .ref q2] (A_27 ++ B) k_29 n_30
  refine mp_lsld hL (by first | exact mp_cwc1 hi0 e_38 | omega) (by first | exact mp_cwd1 hi6 e_38 | omega) (by first | exact mp_fd_ok mp_k_code_ok (by decide +kernel) | decide +kernel) (fun v_39 hv_40 => ?_)
  have e_41 := mp_xs_same hv_5 hv_40 (by first | exact e_38.trans e_3.symm | omega)
  subst e_41
  show mp_W E X 4 324 [(3, .int i), (2, .ref q2), (1, .ref q1), (0, .ref b)] [.int v_4, .ref q2] (A_27 ++ B) k_29 n_30
  refine mp_run mp_k_code_ok hF mp_tabL_ok [mp_i (.aload_n 0), mp_i (.iload_n 3), mp_c (.iconst 2) 2, mp_i .iadd] (by decide +kernel) ?_
  intro z_42 h_43
  have e_44 : z_42.toInt = i.toInt + 2 := mp_add (a := i.toInt) (b := 2) h_43 rfl (by decide) (by first | exact mp_cwa2 hi0 | omega) (by first | exact mp_cwb2 h3 hi6 | omega)
  show mp_W E X 4 328 [(3, .int i), (2, .ref q2), (1, .ref q1), (0, .ref b)] [.int z_42, .ref b, .int v_4, .ref q2] (A_27 ++ B) k_29 n_30
  refine mp_lsld hL (by first | exact mp_cwc2 hi0 e_44 | omega) (by first | exact mp_cwd2 hi6 e_44 | omega) (by first | exact mp_fd_ok mp_k_code_ok (by decide +kernel) | decide +kernel) (fun v_45 hv_46 => ?_)
  have e_47 := mp_xs_same hv_10 hv_46 (by first | exact e_44.trans e_8.symm | omega)
  subst e_47
  show mp_W E X 4 329 [(3, .int i), (2, .ref q2), (1, .ref q1), (0, .ref b)] [.int v_9, .int v_4, .ref q2] (A_27 ++ B) k_29 n_30
  refine mp_run mp_k_code_ok hF mp_tabL_ok [mp_i (.aload_n 0), mp_i (.iload_n 3), mp_c (.iconst 3) 3, mp_i .iadd] (by decide +kernel) ?_
  intro z_48 h_49
  have e_50 : z_48.toInt = i.toInt + 3 := mp_add (a := i.toInt) (b := 3) h_49 rfl (by decide) (by first | exact mp_cwa3 hi0 | omega) (by first | exact mp_cwb3 h3 hi6 | omega)
  show mp_W E X 4 333 [(3, .int i), (2, .ref q2), (1, .ref q1), (0, .ref b)] [.int z_48, .ref b, .int v_9, .int v_4, .ref q2] (A_27 ++ B) k_29 n_30
  refine mp_lsld hL (by first | exact mp_cwc3 hi0 e_50 | omega) (by first | exact mp_cwd3 hi6 e_50 | omega) (by first | exact mp_fd_ok mp_k_code_ok (by decide +kernel) | decide +kernel) (fun v_51 hv_52 => ?_)
  have e_53 := mp_xs_same hv_15 hv_52 (by first | exact e_50.trans e_13.symm | omega)
  subst e_53
  show mp_W E X 4 334 [(3, .int i), (2, .ref q2), (1, .ref q1), (0, .ref b)] [.int v_14, .int v_9, .int v_4, .ref q2] (A_27 ++ B) k_29 n_30
  refine mp_run mp_k_code_ok hF mp_tabL_ok [mp_i (.aload_n 0), mp_i (.iload_n 3), mp_c (.iconst 4) 4, mp_i .iadd] (by decide +kernel) ?_
  intro z_54 h_55
  have e_56 : z_54.toInt = i.toInt + 4 := mp_add (a := i.toInt) (b := 4) h_55 rfl (by decide) (by first | exact mp_cwa4 hi0 | omega) (by first | exact mp_cwb4 h3 hi6 | omega)
  show mp_W E X 4 338 [(3, .int i), (2, .ref q2), (1, .ref q1), (0, .ref b)] [.int z_54, .ref b, .int v_14, .int v_9, .int v_4, .ref q2] (A_27 ++ B) k_29 n_30
  refine mp_lsld hL (by first | exact mp_cwc4 hi0 e_56 | omega) (by first | exact mp_cwd4 hi6 e_56 | omega) (by first | exact mp_fd_ok mp_k_code_ok (by decide +kernel) | decide +kernel) (fun v_57 hv_58 => ?_)
  have e_59 := mp_xs_same hv_20 hv_58 (by first | exact e_56.trans e_18.symm | omega)
  subst e_59
  show mp_W E X 4 339 [(3, .int i), (2, .ref q2), (1, .ref q1), (0, .ref b)] [.int v_19, .int v_14, .int v_9, .int v_4, .ref q2] (A_27 ++ B) k_29 n_30
  refine mp_run mp_k_code_ok hF mp_tabL_ok [mp_i (.aload_n 0), mp_i (.iload_n 3), mp_c (.iconst 5) 5, mp_i .iadd] (by decide +kernel) ?_
  intro z_60 h_61
  have e_62 : z_60.toInt = i.toInt + 5 := mp_add (a := i.toInt) (b := 5) h_61 rfl (by decide) (by first | exact mp_cwa5 hi0 | omega) (by first | exact mp_cwb5 h3 hi6 | omega)
  show mp_W E X 4 343 [(3, .int i), (2, .ref q2), (1, .ref q1), (0, .ref b)] [.int z_60, .ref b, .int v_19, .int v_14, .int v_9, .int v_4, .ref q2] (A_27 ++ B) k_29 n_30
  refine mp_lsld hL (by first | exact mp_cwc5 hi0 e_62 | omega) (by first | exact mp_cwd5 hi6 e_62 | omega) (by first | exact mp_fd_ok mp_k_code_ok (by decide +kernel) | decide +kernel) (fun v_63 hv_64 => ?_)
  have e_65 := mp_xs_same hv_25 hv_64 (by first | exact e_62.trans e_23.symm | omega)
  subst e_65
  show mp_W E X 4 344 [(3, .int i), (2, .ref q2), (1, .ref q1), (0, .ref b)] [.int v_24, .int v_19, .int v_14, .int v_9, .int v_4, .ref q2] (A_27 ++ B) k_29 n_30
  refine mp_swap ?_
  refine mp_cm_feed hF v_4 v_9 v_14 v_19 v_24 hB hW hWI (by first | exact mp_fd_ok mp_k_code_ok (by decide +kernel) | decide +kernel) (by omega) (by omega) (Nat.le_of_ble_eq_true rfl) (fun r_66 A_67 l_68 tp_75 k_69 n_70 hI_71 hr_72 hk_73 hn_74 => ?_)
  refine mp_swap ?_
  obtain rfl := mp_fd_eq hr_32.2 hr_72.2
  show mp_W E X 4 347 [(3, .int i), (2, .ref q2), (1, .ref q1), (0, .ref b)] [.int r_66] (A_27 ++ A_67) k_69 n_70
  refine mp_run mp_k_code_ok hF mp_tabL_ok [mp_i .pop, mp_h (.goto 1870) [2218]] (by decide +kernel) ?_
  refine And.intro rfl ?_
  show mp_W E X 4 2218 [(3, .int i), (2, .ref q2), (1, .ref q1), (0, .ref b)] [] (A_27 ++ A_67) k_69 n_70
  have hl_ : l_28 = l_68 := by omega
  exact kk _ _ _ _ _ _ _ _ _ _ _ _ _ _ _ hSL hW hWI hI_31 (hl_ ▸ hI_71) (by omega) (by omega)
set_option maxHeartbeats 4000000 in
set_option maxRecDepth 100000 in
theorem mp_case_1 {E : mp_E} {X : mp_X} {b L : Nat} {xs : Nat → Int32} (hL : mp_Lw E X b L xs) (h3 : L ≤ 3072) {i : Int32} (hi0 : 0 ≤ i.toInt) (hi6 : i.toInt + 6 ≤ L) {q1 q2 : Nat} {len : Int} {sw sl mw mm : Nat → Int32} {kp : Nat → Bool} {tp : Nat → Int32} {ft fp : Int} {td : mp_TD} {it : Nat → mp_TD} {A B : va_W} {k n : Nat} (hSL : mp_SL sw sl mw mm) (hW : mp_WF td) (hWI : ∀ j : Nat, mp_WF (it j)) (hA : mp_IC E q1 len sw sl kp tp ft fp td it A) (hB : mp_IM E q2 len mw mm kp tp ft fp td it B) (hk : k + 13 ≤ 600000) (hn : n + 204 ≤ 7302250) (kk : ∀ (len2 : Int) (sw2 sl2 mw2 mm2 : Nat → Int32) (kp2 : Nat → Bool) (tp2 : Nat → Int32) (ft2 fp2 : Int) (td2 : mp_TD) (it2 : Nat → mp_TD) (A2 B2 : va_W) (k2 n2 : Nat), mp_SL sw2 sl2 mw2 mm2 → mp_WF td2 → (∀ j : Nat, mp_WF (it2 j)) → mp_IC E q1 len2 sw2 sl2 kp2 tp2 ft2 fp2 td2 it2 A2 → mp_IM E q2 len2 mw2 mm2 kp2 tp2 ft2 fp2 td2 it2 B2 → k2 ≤ k + 13 → n2 ≤ n + 204 → mp_W E X 4 2218 [(3, .int i), (2, .ref q2), (1, .ref q1), (0, .ref b)] [] (A2 ++ B2) k2 n2) : mp_W E X 4 351 [(3, .int i), (2, .ref q2), (1, .ref q1), (0, .ref b)] [] (A ++ B) k n := by
  have hF : mp_F E X mp_ML := hL.1
  show mp_W E X 4 351 [(3, .int i), (2, .ref q2), (1, .ref q1), (0, .ref b)] [] (A ++ B) k n
  refine mp_run mp_k_code_ok hF mp_tabL_ok [mp_i (.aload_n 1), mp_i (.aload_n 0), mp_i (.iload_n 3), mp_c (.iconst 1) 1, mp_i .iadd] (by decide +kernel) ?_
  intro z_1 h_2
  have e_3 : z_1.toInt = i.toInt + 1 := mp_add (a := i.toInt) (b := 1) h_2 rfl (by decide) (by first | exact mp_cwa1 hi0 | omega) (by first | exact mp_cwb1 h3 hi6 | omega)
  show mp_W E X 4 356 [(3, .int i), (2, .ref q2), (1, .ref q1), (0, .ref b)] [.int z_1, .ref b, .ref q1] (A ++ B) k n
  refine mp_lsld hL (by first | exact mp_cwc1 hi0 e_3 | omega) (by first | exact mp_cwd1 hi6 e_3 | omega) (by first | exact mp_fd_ok mp_k_code_ok (by decide +kernel) | decide +kernel) (fun v_4 hv_5 => ?_)
  show mp_W E X 4 357 [(3, .int i), (2, .ref q2), (1, .ref q1), (0, .ref b)] [.int v_4, .ref q1] (A ++ B) k n
  refine mp_cc_end hF v_4 hA hW hWI (by first | exact mp_fd_ok mp_k_code_ok (by decide +kernel) | decide +kernel) (by omega) (by omega) (Nat.le_of_ble_eq_true rfl) (fun r_6 A_7 l_8 k_9 n_10 hI_11 hr_12 hk_13 hn_14 => ?_)
  show mp_W E X 4 360 [(3, .int i), (2, .ref q2), (1, .ref q1), (0, .ref b)] [.int r_6] (A_7 ++ B) k_9 n_10
  refine mp_run mp_k_code_ok hF mp_tabL_ok [mp_i .pop, mp_i (.aload_n 2), mp_i (.aload_n 0), mp_i (.iload_n 3), mp_c (.iconst 1) 1, mp_i .iadd] (by decide +kernel) ?_
  refine And.intro rfl ?_
  intro z_15 h_16
  have e_17 : z_15.toInt = i.toInt + 1 := mp_add (a := i.toInt) (b := 1) h_16 rfl (by decide) (by first | exact mp_cwa1 hi0 | omega) (by first | exact mp_cwb1 h3 hi6 | omega)
  show mp_W E X 4 366 [(3, .int i), (2, .ref q2), (1, .ref q1), (0, .ref b)] [.int z_15, .ref b, .ref q2] (A_7 ++ B) k_9 n_10
  refine mp_lsld hL (by first | exact mp_cwc1 hi0 e_17 | omega) (by first | exact mp_cwd1 hi6 e_17 | omega) (by first | exact mp_fd_ok mp_k_code_ok (by decide +kernel) | decide +kernel) (fun v_18 hv_19 => ?_)
  have e_20 := mp_xs_same hv_5 hv_19 (by first | exact e_17.trans e_3.symm | omega)
  subst e_20
  show mp_W E X 4 367 [(3, .int i), (2, .ref q2), (1, .ref q1), (0, .ref b)] [.int v_4, .ref q2] (A_7 ++ B) k_9 n_10
  refine mp_swap ?_
  refine mp_cm_end hF v_4 hB hW hWI (by first | exact mp_fd_ok mp_k_code_ok (by decide +kernel) | decide +kernel) (by omega) (by omega) (Nat.le_of_ble_eq_true rfl) (fun r_21 A_22 l_23 k_24 n_25 hI_26 hr_27 hk_28 hn_29 => ?_)
  refine mp_swap ?_
  show mp_W E X 4 370 [(3, .int i), (2, .ref q2), (1, .ref q1), (0, .ref b)] [.int r_21] (A_7 ++ A_22) k_24 n_25
  refine mp_run mp_k_code_ok hF mp_tabL_ok [mp_i .pop, mp_h (.goto 1847) [2218]] (by decide +kernel) ?_
  refine And.intro rfl ?_
  show mp_W E X 4 2218 [(3, .int i), (2, .ref q2), (1, .ref q1), (0, .ref b)] [] (A_7 ++ A_22) k_24 n_25
  have hl_ : l_8 = l_23 := by omega
  exact kk _ _ _ _ _ _ _ _ _ _ _ _ _ _ _ hSL hW hWI hI_11 (hl_ ▸ hI_26) (by omega) (by omega)
set_option maxHeartbeats 4000000 in
set_option maxRecDepth 100000 in
theorem mp_case_2 {E : mp_E} {X : mp_X} {b L : Nat} {xs : Nat → Int32} (hL : mp_Lw E X b L xs) (h3 : L ≤ 3072) {i : Int32} (hi0 : 0 ≤ i.toInt) (hi6 : i.toInt + 6 ≤ L) {q1 q2 : Nat} {len : Int} {sw sl mw mm : Nat → Int32} {kp : Nat → Bool} {tp : Nat → Int32} {ft fp : Int} {td : mp_TD} {it : Nat → mp_TD} {A B : va_W} {k n : Nat} (hSL : mp_SL sw sl mw mm) (hW : mp_WF td) (hWI : ∀ j : Nat, mp_WF (it j)) (hA : mp_IC E q1 len sw sl kp tp ft fp td it A) (hB : mp_IM E q2 len mw mm kp tp ft fp td it B) (hk : k + 13 ≤ 600000) (hn : n + 204 ≤ 7302250) (kk : ∀ (len2 : Int) (sw2 sl2 mw2 mm2 : Nat → Int32) (kp2 : Nat → Bool) (tp2 : Nat → Int32) (ft2 fp2 : Int) (td2 : mp_TD) (it2 : Nat → mp_TD) (A2 B2 : va_W) (k2 n2 : Nat), mp_SL sw2 sl2 mw2 mm2 → mp_WF td2 → (∀ j : Nat, mp_WF (it2 j)) → mp_IC E q1 len2 sw2 sl2 kp2 tp2 ft2 fp2 td2 it2 A2 → mp_IM E q2 len2 mw2 mm2 kp2 tp2 ft2 fp2 td2 it2 B2 → k2 ≤ k + 13 → n2 ≤ n + 204 → mp_W E X 4 2218 [(3, .int i), (2, .ref q2), (1, .ref q1), (0, .ref b)] [] (A2 ++ B2) k2 n2) : mp_W E X 4 374 [(3, .int i), (2, .ref q2), (1, .ref q1), (0, .ref b)] [] (A ++ B) k n := by
  have hF : mp_F E X mp_ML := hL.1
  show mp_W E X 4 374 [(3, .int i), (2, .ref q2), (1, .ref q1), (0, .ref b)] [] (A ++ B) k n
  refine mp_run mp_k_code_ok hF mp_tabL_ok [mp_i (.aload_n 1)] (by decide +kernel) ?_
  show mp_W E X 4 375 [(3, .int i), (2, .ref q2), (1, .ref q1), (0, .ref b)] [.ref q1] (A ++ B) k n
  refine mp_cc_isles hF  hA hW hWI (by first | exact mp_fd_ok mp_k_code_ok (by decide +kernel) | decide +kernel) (by omega) (by omega) (Nat.le_of_ble_eq_true rfl) (fun r_1 A_2 l_3 ft_10 fp_11 td_12 k_4 n_5 hI_6 hr_7 hk_8 hn_9 => ?_)
  show mp_W E X 4 378 [(3, .int i), (2, .ref q2), (1, .ref q1), (0, .ref b)] [.int r_1] (A_2 ++ B) k_4 n_5
  refine mp_run mp_k_code_ok hF mp_tabL_ok [mp_i .pop, mp_i (.aload_n 2)] (by decide +kernel) ?_
  refine And.intro rfl ?_
  show mp_W E X 4 380 [(3, .int i), (2, .ref q2), (1, .ref q1), (0, .ref b)] [.ref q2] (A_2 ++ B) k_4 n_5
  refine mp_swap ?_
  refine mp_cm_isles hF  hB hW hWI (by first | exact mp_fd_ok mp_k_code_ok (by decide +kernel) | decide +kernel) (by omega) (by omega) (Nat.le_of_ble_eq_true rfl) (fun r_13 A_14 l_15 ft_22 fp_23 td_24 k_16 n_17 hI_18 hr_19 hk_20 hn_21 => ?_)
  refine mp_swap ?_
  obtain ⟨hx_25, rfl, rfl, rfl⟩ := mp_islX_det hr_7.2 hr_19.2
  show mp_W E X 4 383 [(3, .int i), (2, .ref q2), (1, .ref q1), (0, .ref b)] [.int r_13] (A_2 ++ A_14) k_16 n_17
  refine mp_run mp_k_code_ok hF mp_tabL_ok [mp_i .pop, mp_h (.goto 1834) [2218]] (by decide +kernel) ?_
  refine And.intro rfl ?_
  show mp_W E X 4 2218 [(3, .int i), (2, .ref q2), (1, .ref q1), (0, .ref b)] [] (A_2 ++ A_14) k_16 n_17
  have hl_ : l_3 = l_15 := by omega
  exact kk _ _ _ _ _ _ _ _ _ _ _ _ _ _ _ hSL (mp_islX_W hW hr_7.2) hWI hI_6 (hl_ ▸ hI_18) (by omega) (by omega)
set_option maxHeartbeats 4000000 in
set_option maxRecDepth 100000 in
theorem mp_case_3 {E : mp_E} {X : mp_X} {b L : Nat} {xs : Nat → Int32} (hL : mp_Lw E X b L xs) (h3 : L ≤ 3072) {i : Int32} (hi0 : 0 ≤ i.toInt) (hi6 : i.toInt + 6 ≤ L) {q1 q2 : Nat} {len : Int} {sw sl mw mm : Nat → Int32} {kp : Nat → Bool} {tp : Nat → Int32} {ft fp : Int} {td : mp_TD} {it : Nat → mp_TD} {A B : va_W} {k n : Nat} (hSL : mp_SL sw sl mw mm) (hW : mp_WF td) (hWI : ∀ j : Nat, mp_WF (it j)) (hA : mp_IC E q1 len sw sl kp tp ft fp td it A) (hB : mp_IM E q2 len mw mm kp tp ft fp td it B) (hk : k + 13 ≤ 600000) (hn : n + 204 ≤ 7302250) (kk : ∀ (len2 : Int) (sw2 sl2 mw2 mm2 : Nat → Int32) (kp2 : Nat → Bool) (tp2 : Nat → Int32) (ft2 fp2 : Int) (td2 : mp_TD) (it2 : Nat → mp_TD) (A2 B2 : va_W) (k2 n2 : Nat), mp_SL sw2 sl2 mw2 mm2 → mp_WF td2 → (∀ j : Nat, mp_WF (it2 j)) → mp_IC E q1 len2 sw2 sl2 kp2 tp2 ft2 fp2 td2 it2 A2 → mp_IM E q2 len2 mw2 mm2 kp2 tp2 ft2 fp2 td2 it2 B2 → k2 ≤ k + 13 → n2 ≤ n + 204 → mp_W E X 4 2218 [(3, .int i), (2, .ref q2), (1, .ref q1), (0, .ref b)] [] (A2 ++ B2) k2 n2) : mp_W E X 4 387 [(3, .int i), (2, .ref q2), (1, .ref q1), (0, .ref b)] [] (A ++ B) k n := by
  have hF : mp_F E X mp_ML := hL.1
  show mp_W E X 4 387 [(3, .int i), (2, .ref q2), (1, .ref q1), (0, .ref b)] [] (A ++ B) k n
  refine mp_run mp_k_code_ok hF mp_tabL_ok [mp_i (.aload_n 1), mp_i (.aload_n 0), mp_i (.iload_n 3), mp_c (.iconst 1) 1, mp_i .iadd] (by decide +kernel) ?_
  intro z_1 h_2
  have e_3 : z_1.toInt = i.toInt + 1 := mp_add (a := i.toInt) (b := 1) h_2 rfl (by decide) (by first | exact mp_cwa1 hi0 | omega) (by first | exact mp_cwb1 h3 hi6 | omega)
  show mp_W E X 4 392 [(3, .int i), (2, .ref q2), (1, .ref q1), (0, .ref b)] [.int z_1, .ref b, .ref q1] (A ++ B) k n
  refine mp_lsld hL (by first | exact mp_cwc1 hi0 e_3 | omega) (by first | exact mp_cwd1 hi6 e_3 | omega) (by first | exact mp_fd_ok mp_k_code_ok (by decide +kernel) | decide +kernel) (fun v_4 hv_5 => ?_)
  show mp_W E X 4 393 [(3, .int i), (2, .ref q2), (1, .ref q1), (0, .ref b)] [.int v_4, .ref q1] (A ++ B) k n
  refine mp_cc_fault hF v_4 hA hW hWI (by first | exact mp_fd_ok mp_k_code_ok (by decide +kernel) | decide +kernel) (by omega) (by omega) (Nat.le_of_ble_eq_true rfl) (fun r_6 A_7 l_8 k_9 n_10 hI_11 hr_12 hk_13 hn_14 => ?_)
  show mp_W E X 4 396 [(3, .int i), (2, .ref q2), (1, .ref q1), (0, .ref b)] [.int r_6] (A_7 ++ B) k_9 n_10
  refine mp_run mp_k_code_ok hF mp_tabL_ok [mp_i .pop, mp_i (.aload_n 2), mp_i (.aload_n 0), mp_i (.iload_n 3), mp_c (.iconst 1) 1, mp_i .iadd] (by decide +kernel) ?_
  refine And.intro rfl ?_
  intro z_15 h_16
  have e_17 : z_15.toInt = i.toInt + 1 := mp_add (a := i.toInt) (b := 1) h_16 rfl (by decide) (by first | exact mp_cwa1 hi0 | omega) (by first | exact mp_cwb1 h3 hi6 | omega)
  show mp_W E X 4 402 [(3, .int i), (2, .ref q2), (1, .ref q1), (0, .ref b)] [.int z_15, .ref b, .ref q2] (A_7 ++ B) k_9 n_10
  refine mp_lsld hL (by first | exact mp_cwc1 hi0 e_17 | omega) (by first | exact mp_cwd1 hi6 e_17 | omega) (by first | exact mp_fd_ok mp_k_code_ok (by decide +kernel) | decide +kernel) (fun v_18 hv_19 => ?_)
  have e_20 := mp_xs_same hv_5 hv_19 (by first | exact e_17.trans e_3.symm | omega)
  subst e_20
  show mp_W E X 4 403 [(3, .int i), (2, .ref q2), (1, .ref q1), (0, .ref b)] [.int v_4, .ref q2] (A_7 ++ B) k_9 n_10
  refine mp_swap ?_
  refine mp_cm_fault hF v_4 hB hW hWI (by first | exact mp_fd_ok mp_k_code_ok (by decide +kernel) | decide +kernel) (by omega) (by omega) (Nat.le_of_ble_eq_true rfl) (fun r_21 A_22 l_23 k_24 n_25 hI_26 hr_27 hk_28 hn_29 => ?_)
  refine mp_swap ?_
  show mp_W E X 4 406 [(3, .int i), (2, .ref q2), (1, .ref q1), (0, .ref b)] [.int r_21] (A_7 ++ A_22) k_24 n_25
  refine mp_run mp_k_code_ok hF mp_tabL_ok [mp_i .pop, mp_h (.goto 1811) [2218]] (by decide +kernel) ?_
  refine And.intro rfl ?_
  show mp_W E X 4 2218 [(3, .int i), (2, .ref q2), (1, .ref q1), (0, .ref b)] [] (A_7 ++ A_22) k_24 n_25
  have hl_ : l_8 = l_23 := by omega
  exact kk _ _ _ _ _ _ _ _ _ _ _ _ _ _ _ hSL hW hWI hI_11 (hl_ ▸ hI_26) (by omega) (by omega)
set_option maxHeartbeats 4000000 in
set_option maxRecDepth 100000 in
theorem mp_case_4 {E : mp_E} {X : mp_X} {b L : Nat} {xs : Nat → Int32} (hL : mp_Lw E X b L xs) (h3 : L ≤ 3072) {i : Int32} (hi0 : 0 ≤ i.toInt) (hi6 : i.toInt + 6 ≤ L) {q1 q2 : Nat} {len : Int} {sw sl mw mm : Nat → Int32} {kp : Nat → Bool} {tp : Nat → Int32} {ft fp : Int} {td : mp_TD} {it : Nat → mp_TD} {A B : va_W} {k n : Nat} (hSL : mp_SL sw sl mw mm) (hW : mp_WF td) (hWI : ∀ j : Nat, mp_WF (it j)) (hA : mp_IC E q1 len sw sl kp tp ft fp td it A) (hB : mp_IM E q2 len mw mm kp tp ft fp td it B) (hk : k + 13 ≤ 600000) (hn : n + 204 ≤ 7302250) (kk : ∀ (len2 : Int) (sw2 sl2 mw2 mm2 : Nat → Int32) (kp2 : Nat → Bool) (tp2 : Nat → Int32) (ft2 fp2 : Int) (td2 : mp_TD) (it2 : Nat → mp_TD) (A2 B2 : va_W) (k2 n2 : Nat), mp_SL sw2 sl2 mw2 mm2 → mp_WF td2 → (∀ j : Nat, mp_WF (it2 j)) → mp_IC E q1 len2 sw2 sl2 kp2 tp2 ft2 fp2 td2 it2 A2 → mp_IM E q2 len2 mw2 mm2 kp2 tp2 ft2 fp2 td2 it2 B2 → k2 ≤ k + 13 → n2 ≤ n + 204 → mp_W E X 4 2218 [(3, .int i), (2, .ref q2), (1, .ref q1), (0, .ref b)] [] (A2 ++ B2) k2 n2) : mp_W E X 4 410 [(3, .int i), (2, .ref q2), (1, .ref q1), (0, .ref b)] [] (A ++ B) k n := by
  have hF : mp_F E X mp_ML := hL.1
  show mp_W E X 4 410 [(3, .int i), (2, .ref q2), (1, .ref q1), (0, .ref b)] [] (A ++ B) k n
  refine mp_run mp_k_code_ok hF mp_tabL_ok [mp_i (.aload_n 1), mp_i (.aload_n 0), mp_i (.iload_n 3), mp_c (.iconst 1) 1, mp_i .iadd] (by decide +kernel) ?_
  intro z_1 h_2
  have e_3 : z_1.toInt = i.toInt + 1 := mp_add (a := i.toInt) (b := 1) h_2 rfl (by decide) (by first | exact mp_cwa1 hi0 | omega) (by first | exact mp_cwb1 h3 hi6 | omega)
  show mp_W E X 4 415 [(3, .int i), (2, .ref q2), (1, .ref q1), (0, .ref b)] [.int z_1, .ref b, .ref q1] (A ++ B) k n
  refine mp_lsld hL (by first | exact mp_cwc1 hi0 e_3 | omega) (by first | exact mp_cwd1 hi6 e_3 | omega) (by first | exact mp_fd_ok mp_k_code_ok (by decide +kernel) | decide +kernel) (fun v_4 hv_5 => ?_)
  show mp_W E X 4 416 [(3, .int i), (2, .ref q2), (1, .ref q1), (0, .ref b)] [.int v_4, .ref q1] (A ++ B) k n
  refine mp_run mp_k_code_ok hF mp_tabL_ok [mp_i (.aload_n 0), mp_i (.iload_n 3), mp_c (.iconst 2) 2, mp_i .iadd] (by decide +kernel) ?_
  intro z_6 h_7
  have e_8 : z_6.toInt = i.toInt + 2 := mp_add (a := i.toInt) (b := 2) h_7 rfl (by decide) (by first | exact mp_cwa2 hi0 | omega) (by first | exact mp_cwb2 h3 hi6 | omega)
  show mp_W E X 4 420 [(3, .int i), (2, .ref q2), (1, .ref q1), (0, .ref b)] [.int z_6, .ref b, .int v_4, .ref q1] (A ++ B) k n
  refine mp_lsld hL (by first | exact mp_cwc2 hi0 e_8 | omega) (by first | exact mp_cwd2 hi6 e_8 | omega) (by first | exact mp_fd_ok mp_k_code_ok (by decide +kernel) | decide +kernel) (fun v_9 hv_10 => ?_)
  show mp_W E X 4 421 [(3, .int i), (2, .ref q2), (1, .ref q1), (0, .ref b)] [.int v_9, .int v_4, .ref q1] (A ++ B) k n
  refine mp_cc_person hF v_4 v_9 hA hW hWI (by first | exact mp_fd_ok mp_k_code_ok (by decide +kernel) | decide +kernel) (by omega) (by omega) (Nat.le_of_ble_eq_true rfl) (fun r_11 A_12 l_13 k_14 n_15 hI_16 hr_17 hk_18 hn_19 => ?_)
  show mp_W E X 4 424 [(3, .int i), (2, .ref q2), (1, .ref q1), (0, .ref b)] [.int r_11] (A_12 ++ B) k_14 n_15
  refine mp_run mp_k_code_ok hF mp_tabL_ok [mp_i .pop, mp_i (.aload_n 2), mp_i (.aload_n 0), mp_i (.iload_n 3), mp_c (.iconst 1) 1, mp_i .iadd] (by decide +kernel) ?_
  refine And.intro rfl ?_
  intro z_20 h_21
  have e_22 : z_20.toInt = i.toInt + 1 := mp_add (a := i.toInt) (b := 1) h_21 rfl (by decide) (by first | exact mp_cwa1 hi0 | omega) (by first | exact mp_cwb1 h3 hi6 | omega)
  show mp_W E X 4 430 [(3, .int i), (2, .ref q2), (1, .ref q1), (0, .ref b)] [.int z_20, .ref b, .ref q2] (A_12 ++ B) k_14 n_15
  refine mp_lsld hL (by first | exact mp_cwc1 hi0 e_22 | omega) (by first | exact mp_cwd1 hi6 e_22 | omega) (by first | exact mp_fd_ok mp_k_code_ok (by decide +kernel) | decide +kernel) (fun v_23 hv_24 => ?_)
  have e_25 := mp_xs_same hv_5 hv_24 (by first | exact e_22.trans e_3.symm | omega)
  subst e_25
  show mp_W E X 4 431 [(3, .int i), (2, .ref q2), (1, .ref q1), (0, .ref b)] [.int v_4, .ref q2] (A_12 ++ B) k_14 n_15
  refine mp_run mp_k_code_ok hF mp_tabL_ok [mp_i (.aload_n 0), mp_i (.iload_n 3), mp_c (.iconst 2) 2, mp_i .iadd] (by decide +kernel) ?_
  intro z_26 h_27
  have e_28 : z_26.toInt = i.toInt + 2 := mp_add (a := i.toInt) (b := 2) h_27 rfl (by decide) (by first | exact mp_cwa2 hi0 | omega) (by first | exact mp_cwb2 h3 hi6 | omega)
  show mp_W E X 4 435 [(3, .int i), (2, .ref q2), (1, .ref q1), (0, .ref b)] [.int z_26, .ref b, .int v_4, .ref q2] (A_12 ++ B) k_14 n_15
  refine mp_lsld hL (by first | exact mp_cwc2 hi0 e_28 | omega) (by first | exact mp_cwd2 hi6 e_28 | omega) (by first | exact mp_fd_ok mp_k_code_ok (by decide +kernel) | decide +kernel) (fun v_29 hv_30 => ?_)
  have e_31 := mp_xs_same hv_10 hv_30 (by first | exact e_28.trans e_8.symm | omega)
  subst e_31
  show mp_W E X 4 436 [(3, .int i), (2, .ref q2), (1, .ref q1), (0, .ref b)] [.int v_9, .int v_4, .ref q2] (A_12 ++ B) k_14 n_15
  refine mp_swap ?_
  refine mp_cm_person hF v_4 v_9 hB hW hWI (by first | exact mp_fd_ok mp_k_code_ok (by decide +kernel) | decide +kernel) (by omega) (by omega) (Nat.le_of_ble_eq_true rfl) (fun r_32 A_33 l_34 k_35 n_36 hI_37 hr_38 hk_39 hn_40 => ?_)
  refine mp_swap ?_
  have hx_41 := hr_17.2.trans hr_38.2.symm
  show mp_W E X 4 439 [(3, .int i), (2, .ref q2), (1, .ref q1), (0, .ref b)] [.int r_32] (A_12 ++ A_33) k_35 n_36
  refine mp_run mp_k_code_ok hF mp_tabL_ok [mp_i .pop, mp_h (.goto 1778) [2218]] (by decide +kernel) ?_
  refine And.intro rfl ?_
  show mp_W E X 4 2218 [(3, .int i), (2, .ref q2), (1, .ref q1), (0, .ref b)] [] (A_12 ++ A_33) k_35 n_36
  have hl_ : l_13 = l_34 := by omega
  exact kk _ _ _ _ _ _ _ _ _ _ _ _ _ _ _ hSL hW hWI hI_16 (hl_ ▸ hI_37) (by omega) (by omega)
set_option maxHeartbeats 4000000 in
set_option maxRecDepth 100000 in
theorem mp_case_5 {E : mp_E} {X : mp_X} {b L : Nat} {xs : Nat → Int32} (hL : mp_Lw E X b L xs) (h3 : L ≤ 3072) {i : Int32} (hi0 : 0 ≤ i.toInt) (hi6 : i.toInt + 6 ≤ L) {q1 q2 : Nat} {len : Int} {sw sl mw mm : Nat → Int32} {kp : Nat → Bool} {tp : Nat → Int32} {ft fp : Int} {td : mp_TD} {it : Nat → mp_TD} {A B : va_W} {k n : Nat} (hSL : mp_SL sw sl mw mm) (hW : mp_WF td) (hWI : ∀ j : Nat, mp_WF (it j)) (hA : mp_IC E q1 len sw sl kp tp ft fp td it A) (hB : mp_IM E q2 len mw mm kp tp ft fp td it B) (hk : k + 13 ≤ 600000) (hn : n + 204 ≤ 7302250) (kk : ∀ (len2 : Int) (sw2 sl2 mw2 mm2 : Nat → Int32) (kp2 : Nat → Bool) (tp2 : Nat → Int32) (ft2 fp2 : Int) (td2 : mp_TD) (it2 : Nat → mp_TD) (A2 B2 : va_W) (k2 n2 : Nat), mp_SL sw2 sl2 mw2 mm2 → mp_WF td2 → (∀ j : Nat, mp_WF (it2 j)) → mp_IC E q1 len2 sw2 sl2 kp2 tp2 ft2 fp2 td2 it2 A2 → mp_IM E q2 len2 mw2 mm2 kp2 tp2 ft2 fp2 td2 it2 B2 → k2 ≤ k + 13 → n2 ≤ n + 204 → mp_W E X 4 2218 [(3, .int i), (2, .ref q2), (1, .ref q1), (0, .ref b)] [] (A2 ++ B2) k2 n2) : mp_W E X 4 443 [(3, .int i), (2, .ref q2), (1, .ref q1), (0, .ref b)] [] (A ++ B) k n := by
  have hF : mp_F E X mp_ML := hL.1
  show mp_W E X 4 443 [(3, .int i), (2, .ref q2), (1, .ref q1), (0, .ref b)] [] (A ++ B) k n
  refine mp_run mp_k_code_ok hF mp_tabL_ok [mp_i (.aload_n 1), mp_i (.aload_n 0), mp_i (.iload_n 3), mp_c (.iconst 1) 1, mp_i .iadd] (by decide +kernel) ?_
  intro z_1 h_2
  have e_3 : z_1.toInt = i.toInt + 1 := mp_add (a := i.toInt) (b := 1) h_2 rfl (by decide) (by first | exact mp_cwa1 hi0 | omega) (by first | exact mp_cwb1 h3 hi6 | omega)
  show mp_W E X 4 448 [(3, .int i), (2, .ref q2), (1, .ref q1), (0, .ref b)] [.int z_1, .ref b, .ref q1] (A ++ B) k n
  refine mp_lsld hL (by first | exact mp_cwc1 hi0 e_3 | omega) (by first | exact mp_cwd1 hi6 e_3 | omega) (by first | exact mp_fd_ok mp_k_code_ok (by decide +kernel) | decide +kernel) (fun v_4 hv_5 => ?_)
  show mp_W E X 4 449 [(3, .int i), (2, .ref q2), (1, .ref q1), (0, .ref b)] [.int v_4, .ref q1] (A ++ B) k n
  refine mp_run mp_k_code_ok hF mp_tabL_ok [mp_i (.aload_n 0), mp_i (.iload_n 3), mp_c (.iconst 2) 2, mp_i .iadd] (by decide +kernel) ?_
  intro z_6 h_7
  have e_8 : z_6.toInt = i.toInt + 2 := mp_add (a := i.toInt) (b := 2) h_7 rfl (by decide) (by first | exact mp_cwa2 hi0 | omega) (by first | exact mp_cwb2 h3 hi6 | omega)
  show mp_W E X 4 453 [(3, .int i), (2, .ref q2), (1, .ref q1), (0, .ref b)] [.int z_6, .ref b, .int v_4, .ref q1] (A ++ B) k n
  refine mp_lsld hL (by first | exact mp_cwc2 hi0 e_8 | omega) (by first | exact mp_cwd2 hi6 e_8 | omega) (by first | exact mp_fd_ok mp_k_code_ok (by decide +kernel) | decide +kernel) (fun v_9 hv_10 => ?_)
  show mp_W E X 4 454 [(3, .int i), (2, .ref q2), (1, .ref q1), (0, .ref b)] [.int v_9, .int v_4, .ref q1] (A ++ B) k n
  refine mp_cc_promise hF v_4 v_9 hA hW hWI (by first | exact mp_fd_ok mp_k_code_ok (by decide +kernel) | decide +kernel) (by omega) (by omega) (Nat.le_of_ble_eq_true rfl) (fun r_11 A_12 l_13 k_14 n_15 hI_16 hr_17 hk_18 hn_19 => ?_)
  show mp_W E X 4 457 [(3, .int i), (2, .ref q2), (1, .ref q1), (0, .ref b)] [.int r_11] (A_12 ++ B) k_14 n_15
  refine mp_run mp_k_code_ok hF mp_tabL_ok [mp_i .pop, mp_i (.aload_n 2), mp_i (.aload_n 0), mp_i (.iload_n 3), mp_c (.iconst 1) 1, mp_i .iadd] (by decide +kernel) ?_
  refine And.intro rfl ?_
  intro z_20 h_21
  have e_22 : z_20.toInt = i.toInt + 1 := mp_add (a := i.toInt) (b := 1) h_21 rfl (by decide) (by first | exact mp_cwa1 hi0 | omega) (by first | exact mp_cwb1 h3 hi6 | omega)
  show mp_W E X 4 463 [(3, .int i), (2, .ref q2), (1, .ref q1), (0, .ref b)] [.int z_20, .ref b, .ref q2] (A_12 ++ B) k_14 n_15
  refine mp_lsld hL (by first | exact mp_cwc1 hi0 e_22 | omega) (by first | exact mp_cwd1 hi6 e_22 | omega) (by first | exact mp_fd_ok mp_k_code_ok (by decide +kernel) | decide +kernel) (fun v_23 hv_24 => ?_)
  have e_25 := mp_xs_same hv_5 hv_24 (by first | exact e_22.trans e_3.symm | omega)
  subst e_25
  show mp_W E X 4 464 [(3, .int i), (2, .ref q2), (1, .ref q1), (0, .ref b)] [.int v_4, .ref q2] (A_12 ++ B) k_14 n_15
  refine mp_run mp_k_code_ok hF mp_tabL_ok [mp_i (.aload_n 0), mp_i (.iload_n 3), mp_c (.iconst 2) 2, mp_i .iadd] (by decide +kernel) ?_
  intro z_26 h_27
  have e_28 : z_26.toInt = i.toInt + 2 := mp_add (a := i.toInt) (b := 2) h_27 rfl (by decide) (by first | exact mp_cwa2 hi0 | omega) (by first | exact mp_cwb2 h3 hi6 | omega)
  show mp_W E X 4 468 [(3, .int i), (2, .ref q2), (1, .ref q1), (0, .ref b)] [.int z_26, .ref b, .int v_4, .ref q2] (A_12 ++ B) k_14 n_15
  refine mp_lsld hL (by first | exact mp_cwc2 hi0 e_28 | omega) (by first | exact mp_cwd2 hi6 e_28 | omega) (by first | exact mp_fd_ok mp_k_code_ok (by decide +kernel) | decide +kernel) (fun v_29 hv_30 => ?_)
  have e_31 := mp_xs_same hv_10 hv_30 (by first | exact e_28.trans e_8.symm | omega)
  subst e_31
  show mp_W E X 4 469 [(3, .int i), (2, .ref q2), (1, .ref q1), (0, .ref b)] [.int v_9, .int v_4, .ref q2] (A_12 ++ B) k_14 n_15
  refine mp_swap ?_
  refine mp_cm_promise hF v_4 v_9 hB hW hWI (by first | exact mp_fd_ok mp_k_code_ok (by decide +kernel) | decide +kernel) (by omega) (by omega) (Nat.le_of_ble_eq_true rfl) (fun r_32 A_33 l_34 k_35 n_36 hI_37 hr_38 hk_39 hn_40 => ?_)
  refine mp_swap ?_
  have hx_41 := hr_17.2.trans hr_38.2.symm
  show mp_W E X 4 472 [(3, .int i), (2, .ref q2), (1, .ref q1), (0, .ref b)] [.int r_32] (A_12 ++ A_33) k_35 n_36
  refine mp_run mp_k_code_ok hF mp_tabL_ok [mp_i .pop, mp_h (.goto 1745) [2218]] (by decide +kernel) ?_
  refine And.intro rfl ?_
  show mp_W E X 4 2218 [(3, .int i), (2, .ref q2), (1, .ref q1), (0, .ref b)] [] (A_12 ++ A_33) k_35 n_36
  have hl_ : l_13 = l_34 := by omega
  exact kk _ _ _ _ _ _ _ _ _ _ _ _ _ _ _ hSL hW hWI hI_16 (hl_ ▸ hI_37) (by omega) (by omega)
set_option maxHeartbeats 4000000 in
set_option maxRecDepth 100000 in
theorem mp_case_6 {E : mp_E} {X : mp_X} {b L : Nat} {xs : Nat → Int32} (hL : mp_Lw E X b L xs) (h3 : L ≤ 3072) {i : Int32} (hi0 : 0 ≤ i.toInt) (hi6 : i.toInt + 6 ≤ L) {q1 q2 : Nat} {len : Int} {sw sl mw mm : Nat → Int32} {kp : Nat → Bool} {tp : Nat → Int32} {ft fp : Int} {td : mp_TD} {it : Nat → mp_TD} {A B : va_W} {k n : Nat} (hSL : mp_SL sw sl mw mm) (hW : mp_WF td) (hWI : ∀ j : Nat, mp_WF (it j)) (hA : mp_IC E q1 len sw sl kp tp ft fp td it A) (hB : mp_IM E q2 len mw mm kp tp ft fp td it B) (hk : k + 13 ≤ 600000) (hn : n + 204 ≤ 7302250) (kk : ∀ (len2 : Int) (sw2 sl2 mw2 mm2 : Nat → Int32) (kp2 : Nat → Bool) (tp2 : Nat → Int32) (ft2 fp2 : Int) (td2 : mp_TD) (it2 : Nat → mp_TD) (A2 B2 : va_W) (k2 n2 : Nat), mp_SL sw2 sl2 mw2 mm2 → mp_WF td2 → (∀ j : Nat, mp_WF (it2 j)) → mp_IC E q1 len2 sw2 sl2 kp2 tp2 ft2 fp2 td2 it2 A2 → mp_IM E q2 len2 mw2 mm2 kp2 tp2 ft2 fp2 td2 it2 B2 → k2 ≤ k + 13 → n2 ≤ n + 204 → mp_W E X 4 2218 [(3, .int i), (2, .ref q2), (1, .ref q1), (0, .ref b)] [] (A2 ++ B2) k2 n2) : mp_W E X 4 476 [(3, .int i), (2, .ref q2), (1, .ref q1), (0, .ref b)] [] (A ++ B) k n := by
  have hF : mp_F E X mp_ML := hL.1
  show mp_W E X 4 476 [(3, .int i), (2, .ref q2), (1, .ref q1), (0, .ref b)] [] (A ++ B) k n
  refine mp_run mp_k_code_ok hF mp_tabL_ok [mp_i (.aload_n 1), mp_i (.aload_n 0), mp_i (.iload_n 3), mp_c (.iconst 1) 1, mp_i .iadd] (by decide +kernel) ?_
  intro z_1 h_2
  have e_3 : z_1.toInt = i.toInt + 1 := mp_add (a := i.toInt) (b := 1) h_2 rfl (by decide) (by first | exact mp_cwa1 hi0 | omega) (by first | exact mp_cwb1 h3 hi6 | omega)
  show mp_W E X 4 481 [(3, .int i), (2, .ref q2), (1, .ref q1), (0, .ref b)] [.int z_1, .ref b, .ref q1] (A ++ B) k n
  refine mp_lsld hL (by first | exact mp_cwc1 hi0 e_3 | omega) (by first | exact mp_cwd1 hi6 e_3 | omega) (by first | exact mp_fd_ok mp_k_code_ok (by decide +kernel) | decide +kernel) (fun v_4 hv_5 => ?_)
  show mp_W E X 4 482 [(3, .int i), (2, .ref q2), (1, .ref q1), (0, .ref b)] [.int v_4, .ref q1] (A ++ B) k n
  refine mp_run mp_k_code_ok hF mp_tabL_ok [mp_i (.aload_n 0), mp_i (.iload_n 3), mp_c (.iconst 2) 2, mp_i .iadd] (by decide +kernel) ?_
  intro z_6 h_7
  have e_8 : z_6.toInt = i.toInt + 2 := mp_add (a := i.toInt) (b := 2) h_7 rfl (by decide) (by first | exact mp_cwa2 hi0 | omega) (by first | exact mp_cwb2 h3 hi6 | omega)
  show mp_W E X 4 486 [(3, .int i), (2, .ref q2), (1, .ref q1), (0, .ref b)] [.int z_6, .ref b, .int v_4, .ref q1] (A ++ B) k n
  refine mp_lsld hL (by first | exact mp_cwc2 hi0 e_8 | omega) (by first | exact mp_cwd2 hi6 e_8 | omega) (by first | exact mp_fd_ok mp_k_code_ok (by decide +kernel) | decide +kernel) (fun v_9 hv_10 => ?_)
  show mp_W E X 4 487 [(3, .int i), (2, .ref q2), (1, .ref q1), (0, .ref b)] [.int v_9, .int v_4, .ref q1] (A ++ B) k n
  refine mp_cc_sea hF v_4 v_9 hA hW hWI (by first | exact mp_fd_ok mp_k_code_ok (by decide +kernel) | decide +kernel) (by omega) (by omega) (Nat.le_of_ble_eq_true rfl) (fun r_11 A_12 l_13 k_14 n_15 hI_16 hr_17 hk_18 hn_19 => ?_)
  show mp_W E X 4 490 [(3, .int i), (2, .ref q2), (1, .ref q1), (0, .ref b)] [.int r_11] (A_12 ++ B) k_14 n_15
  refine mp_run mp_k_code_ok hF mp_tabL_ok [mp_i .pop, mp_i (.aload_n 2), mp_i (.aload_n 0), mp_i (.iload_n 3), mp_c (.iconst 1) 1, mp_i .iadd] (by decide +kernel) ?_
  refine And.intro rfl ?_
  intro z_20 h_21
  have e_22 : z_20.toInt = i.toInt + 1 := mp_add (a := i.toInt) (b := 1) h_21 rfl (by decide) (by first | exact mp_cwa1 hi0 | omega) (by first | exact mp_cwb1 h3 hi6 | omega)
  show mp_W E X 4 496 [(3, .int i), (2, .ref q2), (1, .ref q1), (0, .ref b)] [.int z_20, .ref b, .ref q2] (A_12 ++ B) k_14 n_15
  refine mp_lsld hL (by first | exact mp_cwc1 hi0 e_22 | omega) (by first | exact mp_cwd1 hi6 e_22 | omega) (by first | exact mp_fd_ok mp_k_code_ok (by decide +kernel) | decide +kernel) (fun v_23 hv_24 => ?_)
  have e_25 := mp_xs_same hv_5 hv_24 (by first | exact e_22.trans e_3.symm | omega)
  subst e_25
  show mp_W E X 4 497 [(3, .int i), (2, .ref q2), (1, .ref q1), (0, .ref b)] [.int v_4, .ref q2] (A_12 ++ B) k_14 n_15
  refine mp_run mp_k_code_ok hF mp_tabL_ok [mp_i (.aload_n 0), mp_i (.iload_n 3), mp_c (.iconst 2) 2, mp_i .iadd] (by decide +kernel) ?_
  intro z_26 h_27
  have e_28 : z_26.toInt = i.toInt + 2 := mp_add (a := i.toInt) (b := 2) h_27 rfl (by decide) (by first | exact mp_cwa2 hi0 | omega) (by first | exact mp_cwb2 h3 hi6 | omega)
  show mp_W E X 4 501 [(3, .int i), (2, .ref q2), (1, .ref q1), (0, .ref b)] [.int z_26, .ref b, .int v_4, .ref q2] (A_12 ++ B) k_14 n_15
  refine mp_lsld hL (by first | exact mp_cwc2 hi0 e_28 | omega) (by first | exact mp_cwd2 hi6 e_28 | omega) (by first | exact mp_fd_ok mp_k_code_ok (by decide +kernel) | decide +kernel) (fun v_29 hv_30 => ?_)
  have e_31 := mp_xs_same hv_10 hv_30 (by first | exact e_28.trans e_8.symm | omega)
  subst e_31
  show mp_W E X 4 502 [(3, .int i), (2, .ref q2), (1, .ref q1), (0, .ref b)] [.int v_9, .int v_4, .ref q2] (A_12 ++ B) k_14 n_15
  refine mp_swap ?_
  refine mp_cm_sea hF v_4 v_9 hB hW hWI (by first | exact mp_fd_ok mp_k_code_ok (by decide +kernel) | decide +kernel) (by omega) (by omega) (Nat.le_of_ble_eq_true rfl) (fun r_32 A_33 l_34 k_35 n_36 hI_37 hr_38 hk_39 hn_40 => ?_)
  refine mp_swap ?_
  have hx_41 := hr_17.2.trans hr_38.2.symm
  show mp_W E X 4 505 [(3, .int i), (2, .ref q2), (1, .ref q1), (0, .ref b)] [.int r_32] (A_12 ++ A_33) k_35 n_36
  refine mp_run mp_k_code_ok hF mp_tabL_ok [mp_i .pop, mp_h (.goto 1712) [2218]] (by decide +kernel) ?_
  refine And.intro rfl ?_
  show mp_W E X 4 2218 [(3, .int i), (2, .ref q2), (1, .ref q1), (0, .ref b)] [] (A_12 ++ A_33) k_35 n_36
  have hl_ : l_13 = l_34 := by omega
  exact kk _ _ _ _ _ _ _ _ _ _ _ _ _ _ _ hSL hW hWI hI_16 (hl_ ▸ hI_37) (by omega) (by omega)
set_option maxHeartbeats 4000000 in
set_option maxRecDepth 100000 in
theorem mp_case_7 {E : mp_E} {X : mp_X} {b L : Nat} {xs : Nat → Int32} (hL : mp_Lw E X b L xs) (h3 : L ≤ 3072) {i : Int32} (hi0 : 0 ≤ i.toInt) (hi6 : i.toInt + 6 ≤ L) {q1 q2 : Nat} {len : Int} {sw sl mw mm : Nat → Int32} {kp : Nat → Bool} {tp : Nat → Int32} {ft fp : Int} {td : mp_TD} {it : Nat → mp_TD} {A B : va_W} {k n : Nat} (hSL : mp_SL sw sl mw mm) (hW : mp_WF td) (hWI : ∀ j : Nat, mp_WF (it j)) (hA : mp_IC E q1 len sw sl kp tp ft fp td it A) (hB : mp_IM E q2 len mw mm kp tp ft fp td it B) (hk : k + 13 ≤ 600000) (hn : n + 204 ≤ 7302250) (kk : ∀ (len2 : Int) (sw2 sl2 mw2 mm2 : Nat → Int32) (kp2 : Nat → Bool) (tp2 : Nat → Int32) (ft2 fp2 : Int) (td2 : mp_TD) (it2 : Nat → mp_TD) (A2 B2 : va_W) (k2 n2 : Nat), mp_SL sw2 sl2 mw2 mm2 → mp_WF td2 → (∀ j : Nat, mp_WF (it2 j)) → mp_IC E q1 len2 sw2 sl2 kp2 tp2 ft2 fp2 td2 it2 A2 → mp_IM E q2 len2 mw2 mm2 kp2 tp2 ft2 fp2 td2 it2 B2 → k2 ≤ k + 13 → n2 ≤ n + 204 → mp_W E X 4 2218 [(3, .int i), (2, .ref q2), (1, .ref q1), (0, .ref b)] [] (A2 ++ B2) k2 n2) : mp_W E X 4 509 [(3, .int i), (2, .ref q2), (1, .ref q1), (0, .ref b)] [] (A ++ B) k n := by
  have hF : mp_F E X mp_ML := hL.1
  show mp_W E X 4 509 [(3, .int i), (2, .ref q2), (1, .ref q1), (0, .ref b)] [] (A ++ B) k n
  refine mp_run mp_k_code_ok hF mp_tabL_ok [mp_i (.aload_n 1), mp_i (.aload_n 0), mp_i (.iload_n 3), mp_c (.iconst 1) 1, mp_i .iadd] (by decide +kernel) ?_
  intro z_1 h_2
  have e_3 : z_1.toInt = i.toInt + 1 := mp_add (a := i.toInt) (b := 1) h_2 rfl (by decide) (by first | exact mp_cwa1 hi0 | omega) (by first | exact mp_cwb1 h3 hi6 | omega)
  show mp_W E X 4 514 [(3, .int i), (2, .ref q2), (1, .ref q1), (0, .ref b)] [.int z_1, .ref b, .ref q1] (A ++ B) k n
  refine mp_lsld hL (by first | exact mp_cwc1 hi0 e_3 | omega) (by first | exact mp_cwd1 hi6 e_3 | omega) (by first | exact mp_fd_ok mp_k_code_ok (by decide +kernel) | decide +kernel) (fun v_4 hv_5 => ?_)
  show mp_W E X 4 515 [(3, .int i), (2, .ref q2), (1, .ref q1), (0, .ref b)] [.int v_4, .ref q1] (A ++ B) k n
  refine mp_run mp_k_code_ok hF mp_tabL_ok [mp_i (.aload_n 0), mp_i (.iload_n 3), mp_c (.iconst 2) 2, mp_i .iadd] (by decide +kernel) ?_
  intro z_6 h_7
  have e_8 : z_6.toInt = i.toInt + 2 := mp_add (a := i.toInt) (b := 2) h_7 rfl (by decide) (by first | exact mp_cwa2 hi0 | omega) (by first | exact mp_cwb2 h3 hi6 | omega)
  show mp_W E X 4 519 [(3, .int i), (2, .ref q2), (1, .ref q1), (0, .ref b)] [.int z_6, .ref b, .int v_4, .ref q1] (A ++ B) k n
  refine mp_lsld hL (by first | exact mp_cwc2 hi0 e_8 | omega) (by first | exact mp_cwd2 hi6 e_8 | omega) (by first | exact mp_fd_ok mp_k_code_ok (by decide +kernel) | decide +kernel) (fun v_9 hv_10 => ?_)
  show mp_W E X 4 520 [(3, .int i), (2, .ref q2), (1, .ref q1), (0, .ref b)] [.int v_9, .int v_4, .ref q1] (A ++ B) k n
  refine mp_cc_open hF v_4 v_9 hA hW hWI (by first | exact mp_fd_ok mp_k_code_ok (by decide +kernel) | decide +kernel) (by omega) (by omega) (Nat.le_of_ble_eq_true rfl) (fun r_11 A_12 l_13 k_14 n_15 hI_16 hr_17 hk_18 hn_19 => ?_)
  show mp_W E X 4 523 [(3, .int i), (2, .ref q2), (1, .ref q1), (0, .ref b)] [.int r_11] (A_12 ++ B) k_14 n_15
  refine mp_run mp_k_code_ok hF mp_tabL_ok [mp_i .pop, mp_i (.aload_n 2), mp_i (.aload_n 0), mp_i (.iload_n 3), mp_c (.iconst 1) 1, mp_i .iadd] (by decide +kernel) ?_
  refine And.intro rfl ?_
  intro z_20 h_21
  have e_22 : z_20.toInt = i.toInt + 1 := mp_add (a := i.toInt) (b := 1) h_21 rfl (by decide) (by first | exact mp_cwa1 hi0 | omega) (by first | exact mp_cwb1 h3 hi6 | omega)
  show mp_W E X 4 529 [(3, .int i), (2, .ref q2), (1, .ref q1), (0, .ref b)] [.int z_20, .ref b, .ref q2] (A_12 ++ B) k_14 n_15
  refine mp_lsld hL (by first | exact mp_cwc1 hi0 e_22 | omega) (by first | exact mp_cwd1 hi6 e_22 | omega) (by first | exact mp_fd_ok mp_k_code_ok (by decide +kernel) | decide +kernel) (fun v_23 hv_24 => ?_)
  have e_25 := mp_xs_same hv_5 hv_24 (by first | exact e_22.trans e_3.symm | omega)
  subst e_25
  show mp_W E X 4 530 [(3, .int i), (2, .ref q2), (1, .ref q1), (0, .ref b)] [.int v_4, .ref q2] (A_12 ++ B) k_14 n_15
  refine mp_run mp_k_code_ok hF mp_tabL_ok [mp_i (.aload_n 0), mp_i (.iload_n 3), mp_c (.iconst 2) 2, mp_i .iadd] (by decide +kernel) ?_
  intro z_26 h_27
  have e_28 : z_26.toInt = i.toInt + 2 := mp_add (a := i.toInt) (b := 2) h_27 rfl (by decide) (by first | exact mp_cwa2 hi0 | omega) (by first | exact mp_cwb2 h3 hi6 | omega)
  show mp_W E X 4 534 [(3, .int i), (2, .ref q2), (1, .ref q1), (0, .ref b)] [.int z_26, .ref b, .int v_4, .ref q2] (A_12 ++ B) k_14 n_15
  refine mp_lsld hL (by first | exact mp_cwc2 hi0 e_28 | omega) (by first | exact mp_cwd2 hi6 e_28 | omega) (by first | exact mp_fd_ok mp_k_code_ok (by decide +kernel) | decide +kernel) (fun v_29 hv_30 => ?_)
  have e_31 := mp_xs_same hv_10 hv_30 (by first | exact e_28.trans e_8.symm | omega)
  subst e_31
  show mp_W E X 4 535 [(3, .int i), (2, .ref q2), (1, .ref q1), (0, .ref b)] [.int v_9, .int v_4, .ref q2] (A_12 ++ B) k_14 n_15
  refine mp_swap ?_
  refine mp_cm_open hF v_4 v_9 hB hW hWI (by first | exact mp_fd_ok mp_k_code_ok (by decide +kernel) | decide +kernel) (by omega) (by omega) (Nat.le_of_ble_eq_true rfl) (fun r_32 A_33 l_34 k_35 n_36 hI_37 hr_38 hk_39 hn_40 => ?_)
  refine mp_swap ?_
  have hx_41 := hr_17.2.trans hr_38.2.symm
  show mp_W E X 4 538 [(3, .int i), (2, .ref q2), (1, .ref q1), (0, .ref b)] [.int r_32] (A_12 ++ A_33) k_35 n_36
  refine mp_run mp_k_code_ok hF mp_tabL_ok [mp_i .pop, mp_h (.goto 1679) [2218]] (by decide +kernel) ?_
  refine And.intro rfl ?_
  show mp_W E X 4 2218 [(3, .int i), (2, .ref q2), (1, .ref q1), (0, .ref b)] [] (A_12 ++ A_33) k_35 n_36
  have hl_ : l_13 = l_34 := by omega
  exact kk _ _ _ _ _ _ _ _ _ _ _ _ _ _ _ hSL hW hWI hI_16 (hl_ ▸ hI_37) (by omega) (by omega)
set_option maxHeartbeats 4000000 in
set_option maxRecDepth 100000 in
theorem mp_case_8 {E : mp_E} {X : mp_X} {b L : Nat} {xs : Nat → Int32} (hL : mp_Lw E X b L xs) (h3 : L ≤ 3072) {i : Int32} (hi0 : 0 ≤ i.toInt) (hi6 : i.toInt + 6 ≤ L) {q1 q2 : Nat} {len : Int} {sw sl mw mm : Nat → Int32} {kp : Nat → Bool} {tp : Nat → Int32} {ft fp : Int} {td : mp_TD} {it : Nat → mp_TD} {A B : va_W} {k n : Nat} (hSL : mp_SL sw sl mw mm) (hW : mp_WF td) (hWI : ∀ j : Nat, mp_WF (it j)) (hA : mp_IC E q1 len sw sl kp tp ft fp td it A) (hB : mp_IM E q2 len mw mm kp tp ft fp td it B) (hk : k + 13 ≤ 600000) (hn : n + 204 ≤ 7302250) (kk : ∀ (len2 : Int) (sw2 sl2 mw2 mm2 : Nat → Int32) (kp2 : Nat → Bool) (tp2 : Nat → Int32) (ft2 fp2 : Int) (td2 : mp_TD) (it2 : Nat → mp_TD) (A2 B2 : va_W) (k2 n2 : Nat), mp_SL sw2 sl2 mw2 mm2 → mp_WF td2 → (∀ j : Nat, mp_WF (it2 j)) → mp_IC E q1 len2 sw2 sl2 kp2 tp2 ft2 fp2 td2 it2 A2 → mp_IM E q2 len2 mw2 mm2 kp2 tp2 ft2 fp2 td2 it2 B2 → k2 ≤ k + 13 → n2 ≤ n + 204 → mp_W E X 4 2218 [(3, .int i), (2, .ref q2), (1, .ref q1), (0, .ref b)] [] (A2 ++ B2) k2 n2) : mp_W E X 4 542 [(3, .int i), (2, .ref q2), (1, .ref q1), (0, .ref b)] [] (A ++ B) k n := by
  have hF : mp_F E X mp_ML := hL.1
  show mp_W E X 4 542 [(3, .int i), (2, .ref q2), (1, .ref q1), (0, .ref b)] [] (A ++ B) k n
  refine mp_run mp_k_code_ok hF mp_tabL_ok [mp_i (.aload_n 1), mp_i (.aload_n 0), mp_i (.iload_n 3), mp_c (.iconst 1) 1, mp_i .iadd] (by decide +kernel) ?_
  intro z_1 h_2
  have e_3 : z_1.toInt = i.toInt + 1 := mp_add (a := i.toInt) (b := 1) h_2 rfl (by decide) (by first | exact mp_cwa1 hi0 | omega) (by first | exact mp_cwb1 h3 hi6 | omega)
  show mp_W E X 4 547 [(3, .int i), (2, .ref q2), (1, .ref q1), (0, .ref b)] [.int z_1, .ref b, .ref q1] (A ++ B) k n
  refine mp_lsld hL (by first | exact mp_cwc1 hi0 e_3 | omega) (by first | exact mp_cwd1 hi6 e_3 | omega) (by first | exact mp_fd_ok mp_k_code_ok (by decide +kernel) | decide +kernel) (fun v_4 hv_5 => ?_)
  show mp_W E X 4 548 [(3, .int i), (2, .ref q2), (1, .ref q1), (0, .ref b)] [.int v_4, .ref q1] (A ++ B) k n
  refine mp_run mp_k_code_ok hF mp_tabL_ok [mp_i (.aload_n 0), mp_i (.iload_n 3), mp_c (.iconst 2) 2, mp_i .iadd] (by decide +kernel) ?_
  intro z_6 h_7
  have e_8 : z_6.toInt = i.toInt + 2 := mp_add (a := i.toInt) (b := 2) h_7 rfl (by decide) (by first | exact mp_cwa2 hi0 | omega) (by first | exact mp_cwb2 h3 hi6 | omega)
  show mp_W E X 4 552 [(3, .int i), (2, .ref q2), (1, .ref q1), (0, .ref b)] [.int z_6, .ref b, .int v_4, .ref q1] (A ++ B) k n
  refine mp_lsld hL (by first | exact mp_cwc2 hi0 e_8 | omega) (by first | exact mp_cwd2 hi6 e_8 | omega) (by first | exact mp_fd_ok mp_k_code_ok (by decide +kernel) | decide +kernel) (fun v_9 hv_10 => ?_)
  show mp_W E X 4 553 [(3, .int i), (2, .ref q2), (1, .ref q1), (0, .ref b)] [.int v_9, .int v_4, .ref q1] (A ++ B) k n
  refine mp_cc_halvings hF v_4 v_9 hA hW hWI (by first | exact mp_fd_ok mp_k_code_ok (by decide +kernel) | decide +kernel) (by omega) (by omega) (Nat.le_of_ble_eq_true rfl) (fun r_11 A_12 l_13 k_14 n_15 hI_16 hr_17 hk_18 hn_19 => ?_)
  show mp_W E X 4 556 [(3, .int i), (2, .ref q2), (1, .ref q1), (0, .ref b)] [.int r_11] (A_12 ++ B) k_14 n_15
  refine mp_run mp_k_code_ok hF mp_tabL_ok [mp_i .pop, mp_i (.aload_n 2), mp_i (.aload_n 0), mp_i (.iload_n 3), mp_c (.iconst 1) 1, mp_i .iadd] (by decide +kernel) ?_
  refine And.intro rfl ?_
  intro z_20 h_21
  have e_22 : z_20.toInt = i.toInt + 1 := mp_add (a := i.toInt) (b := 1) h_21 rfl (by decide) (by first | exact mp_cwa1 hi0 | omega) (by first | exact mp_cwb1 h3 hi6 | omega)
  show mp_W E X 4 562 [(3, .int i), (2, .ref q2), (1, .ref q1), (0, .ref b)] [.int z_20, .ref b, .ref q2] (A_12 ++ B) k_14 n_15
  refine mp_lsld hL (by first | exact mp_cwc1 hi0 e_22 | omega) (by first | exact mp_cwd1 hi6 e_22 | omega) (by first | exact mp_fd_ok mp_k_code_ok (by decide +kernel) | decide +kernel) (fun v_23 hv_24 => ?_)
  have e_25 := mp_xs_same hv_5 hv_24 (by first | exact e_22.trans e_3.symm | omega)
  subst e_25
  show mp_W E X 4 563 [(3, .int i), (2, .ref q2), (1, .ref q1), (0, .ref b)] [.int v_4, .ref q2] (A_12 ++ B) k_14 n_15
  refine mp_run mp_k_code_ok hF mp_tabL_ok [mp_i (.aload_n 0), mp_i (.iload_n 3), mp_c (.iconst 2) 2, mp_i .iadd] (by decide +kernel) ?_
  intro z_26 h_27
  have e_28 : z_26.toInt = i.toInt + 2 := mp_add (a := i.toInt) (b := 2) h_27 rfl (by decide) (by first | exact mp_cwa2 hi0 | omega) (by first | exact mp_cwb2 h3 hi6 | omega)
  show mp_W E X 4 567 [(3, .int i), (2, .ref q2), (1, .ref q1), (0, .ref b)] [.int z_26, .ref b, .int v_4, .ref q2] (A_12 ++ B) k_14 n_15
  refine mp_lsld hL (by first | exact mp_cwc2 hi0 e_28 | omega) (by first | exact mp_cwd2 hi6 e_28 | omega) (by first | exact mp_fd_ok mp_k_code_ok (by decide +kernel) | decide +kernel) (fun v_29 hv_30 => ?_)
  have e_31 := mp_xs_same hv_10 hv_30 (by first | exact e_28.trans e_8.symm | omega)
  subst e_31
  show mp_W E X 4 568 [(3, .int i), (2, .ref q2), (1, .ref q1), (0, .ref b)] [.int v_9, .int v_4, .ref q2] (A_12 ++ B) k_14 n_15
  refine mp_swap ?_
  refine mp_cm_halvings hF v_4 v_9 hB hW hWI (by first | exact mp_fd_ok mp_k_code_ok (by decide +kernel) | decide +kernel) (by omega) (by omega) (Nat.le_of_ble_eq_true rfl) (fun r_32 A_33 l_34 k_35 n_36 hI_37 hr_38 hk_39 hn_40 => ?_)
  refine mp_swap ?_
  show mp_W E X 4 571 [(3, .int i), (2, .ref q2), (1, .ref q1), (0, .ref b)] [.int r_32] (A_12 ++ A_33) k_35 n_36
  refine mp_run mp_k_code_ok hF mp_tabL_ok [mp_i .pop, mp_h (.goto 1646) [2218]] (by decide +kernel) ?_
  refine And.intro rfl ?_
  show mp_W E X 4 2218 [(3, .int i), (2, .ref q2), (1, .ref q1), (0, .ref b)] [] (A_12 ++ A_33) k_35 n_36
  have hl_ : l_13 = l_34 := by omega
  exact kk _ _ _ _ _ _ _ _ _ _ _ _ _ _ _ hSL hW hWI hI_16 (hl_ ▸ hI_37) (by omega) (by omega)
set_option maxHeartbeats 4000000 in
set_option maxRecDepth 100000 in
theorem mp_case_9 {E : mp_E} {X : mp_X} {b L : Nat} {xs : Nat → Int32} (hL : mp_Lw E X b L xs) (h3 : L ≤ 3072) {i : Int32} (hi0 : 0 ≤ i.toInt) (hi6 : i.toInt + 6 ≤ L) {q1 q2 : Nat} {len : Int} {sw sl mw mm : Nat → Int32} {kp : Nat → Bool} {tp : Nat → Int32} {ft fp : Int} {td : mp_TD} {it : Nat → mp_TD} {A B : va_W} {k n : Nat} (hSL : mp_SL sw sl mw mm) (hW : mp_WF td) (hWI : ∀ j : Nat, mp_WF (it j)) (hA : mp_IC E q1 len sw sl kp tp ft fp td it A) (hB : mp_IM E q2 len mw mm kp tp ft fp td it B) (hk : k + 13 ≤ 600000) (hn : n + 204 ≤ 7302250) (kk : ∀ (len2 : Int) (sw2 sl2 mw2 mm2 : Nat → Int32) (kp2 : Nat → Bool) (tp2 : Nat → Int32) (ft2 fp2 : Int) (td2 : mp_TD) (it2 : Nat → mp_TD) (A2 B2 : va_W) (k2 n2 : Nat), mp_SL sw2 sl2 mw2 mm2 → mp_WF td2 → (∀ j : Nat, mp_WF (it2 j)) → mp_IC E q1 len2 sw2 sl2 kp2 tp2 ft2 fp2 td2 it2 A2 → mp_IM E q2 len2 mw2 mm2 kp2 tp2 ft2 fp2 td2 it2 B2 → k2 ≤ k + 13 → n2 ≤ n + 204 → mp_W E X 4 2218 [(3, .int i), (2, .ref q2), (1, .ref q1), (0, .ref b)] [] (A2 ++ B2) k2 n2) : mp_W E X 4 575 [(3, .int i), (2, .ref q2), (1, .ref q1), (0, .ref b)] [] (A ++ B) k n := by
  have hF : mp_F E X mp_ML := hL.1
  show mp_W E X 4 575 [(3, .int i), (2, .ref q2), (1, .ref q1), (0, .ref b)] [] (A ++ B) k n
  refine mp_run mp_k_code_ok hF mp_tabL_ok [mp_i (.aload_n 1), mp_i (.aload_n 0), mp_i (.iload_n 3), mp_c (.iconst 1) 1, mp_i .iadd] (by decide +kernel) ?_
  intro z_1 h_2
  have e_3 : z_1.toInt = i.toInt + 1 := mp_add (a := i.toInt) (b := 1) h_2 rfl (by decide) (by first | exact mp_cwa1 hi0 | omega) (by first | exact mp_cwb1 h3 hi6 | omega)
  show mp_W E X 4 580 [(3, .int i), (2, .ref q2), (1, .ref q1), (0, .ref b)] [.int z_1, .ref b, .ref q1] (A ++ B) k n
  refine mp_lsld hL (by first | exact mp_cwc1 hi0 e_3 | omega) (by first | exact mp_cwd1 hi6 e_3 | omega) (by first | exact mp_fd_ok mp_k_code_ok (by decide +kernel) | decide +kernel) (fun v_4 hv_5 => ?_)
  show mp_W E X 4 581 [(3, .int i), (2, .ref q2), (1, .ref q1), (0, .ref b)] [.int v_4, .ref q1] (A ++ B) k n
  refine mp_run mp_k_code_ok hF mp_tabL_ok [mp_i (.aload_n 0), mp_i (.iload_n 3), mp_c (.iconst 2) 2, mp_i .iadd] (by decide +kernel) ?_
  intro z_6 h_7
  have e_8 : z_6.toInt = i.toInt + 2 := mp_add (a := i.toInt) (b := 2) h_7 rfl (by decide) (by first | exact mp_cwa2 hi0 | omega) (by first | exact mp_cwb2 h3 hi6 | omega)
  show mp_W E X 4 585 [(3, .int i), (2, .ref q2), (1, .ref q1), (0, .ref b)] [.int z_6, .ref b, .int v_4, .ref q1] (A ++ B) k n
  refine mp_lsld hL (by first | exact mp_cwc2 hi0 e_8 | omega) (by first | exact mp_cwd2 hi6 e_8 | omega) (by first | exact mp_fd_ok mp_k_code_ok (by decide +kernel) | decide +kernel) (fun v_9 hv_10 => ?_)
  show mp_W E X 4 586 [(3, .int i), (2, .ref q2), (1, .ref q1), (0, .ref b)] [.int v_9, .int v_4, .ref q1] (A ++ B) k n
  refine mp_cc_worth hF v_4 v_9 hA hW hWI (by first | exact mp_fd_ok mp_k_code_ok (by decide +kernel) | decide +kernel) (by omega) (by omega) (Nat.le_of_ble_eq_true rfl) (fun r_11 A_12 l_13 k_14 n_15 hI_16 hr_17 hk_18 hn_19 => ?_)
  show mp_W E X 4 589 [(3, .int i), (2, .ref q2), (1, .ref q1), (0, .ref b)] [.int r_11] (A_12 ++ B) k_14 n_15
  refine mp_run mp_k_code_ok hF mp_tabL_ok [mp_i .pop, mp_i (.aload_n 2), mp_i (.aload_n 0), mp_i (.iload_n 3), mp_c (.iconst 1) 1, mp_i .iadd] (by decide +kernel) ?_
  refine And.intro rfl ?_
  intro z_20 h_21
  have e_22 : z_20.toInt = i.toInt + 1 := mp_add (a := i.toInt) (b := 1) h_21 rfl (by decide) (by first | exact mp_cwa1 hi0 | omega) (by first | exact mp_cwb1 h3 hi6 | omega)
  show mp_W E X 4 595 [(3, .int i), (2, .ref q2), (1, .ref q1), (0, .ref b)] [.int z_20, .ref b, .ref q2] (A_12 ++ B) k_14 n_15
  refine mp_lsld hL (by first | exact mp_cwc1 hi0 e_22 | omega) (by first | exact mp_cwd1 hi6 e_22 | omega) (by first | exact mp_fd_ok mp_k_code_ok (by decide +kernel) | decide +kernel) (fun v_23 hv_24 => ?_)
  have e_25 := mp_xs_same hv_5 hv_24 (by first | exact e_22.trans e_3.symm | omega)
  subst e_25
  show mp_W E X 4 596 [(3, .int i), (2, .ref q2), (1, .ref q1), (0, .ref b)] [.int v_4, .ref q2] (A_12 ++ B) k_14 n_15
  refine mp_run mp_k_code_ok hF mp_tabL_ok [mp_i (.aload_n 0), mp_i (.iload_n 3), mp_c (.iconst 2) 2, mp_i .iadd] (by decide +kernel) ?_
  intro z_26 h_27
  have e_28 : z_26.toInt = i.toInt + 2 := mp_add (a := i.toInt) (b := 2) h_27 rfl (by decide) (by first | exact mp_cwa2 hi0 | omega) (by first | exact mp_cwb2 h3 hi6 | omega)
  show mp_W E X 4 600 [(3, .int i), (2, .ref q2), (1, .ref q1), (0, .ref b)] [.int z_26, .ref b, .int v_4, .ref q2] (A_12 ++ B) k_14 n_15
  refine mp_lsld hL (by first | exact mp_cwc2 hi0 e_28 | omega) (by first | exact mp_cwd2 hi6 e_28 | omega) (by first | exact mp_fd_ok mp_k_code_ok (by decide +kernel) | decide +kernel) (fun v_29 hv_30 => ?_)
  have e_31 := mp_xs_same hv_10 hv_30 (by first | exact e_28.trans e_8.symm | omega)
  subst e_31
  show mp_W E X 4 601 [(3, .int i), (2, .ref q2), (1, .ref q1), (0, .ref b)] [.int v_9, .int v_4, .ref q2] (A_12 ++ B) k_14 n_15
  refine mp_swap ?_
  refine mp_cm_worth hF v_4 v_9 hB hW hWI (by first | exact mp_fd_ok mp_k_code_ok (by decide +kernel) | decide +kernel) (by omega) (by omega) (Nat.le_of_ble_eq_true rfl) (fun r_32 A_33 l_34 k_35 n_36 hI_37 hr_38 hk_39 hn_40 => ?_)
  refine mp_swap ?_
  show mp_W E X 4 604 [(3, .int i), (2, .ref q2), (1, .ref q1), (0, .ref b)] [.int r_32] (A_12 ++ A_33) k_35 n_36
  refine mp_run mp_k_code_ok hF mp_tabL_ok [mp_i .pop, mp_h (.goto 1613) [2218]] (by decide +kernel) ?_
  refine And.intro rfl ?_
  show mp_W E X 4 2218 [(3, .int i), (2, .ref q2), (1, .ref q1), (0, .ref b)] [] (A_12 ++ A_33) k_35 n_36
  have hl_ : l_13 = l_34 := by omega
  exact kk _ _ _ _ _ _ _ _ _ _ _ _ _ _ _ hSL hW hWI hI_16 (hl_ ▸ hI_37) (by omega) (by omega)
set_option maxHeartbeats 4000000 in
set_option maxRecDepth 100000 in
theorem mp_case_10 {E : mp_E} {X : mp_X} {b L : Nat} {xs : Nat → Int32} (hL : mp_Lw E X b L xs) (h3 : L ≤ 3072) {i : Int32} (hi0 : 0 ≤ i.toInt) (hi6 : i.toInt + 6 ≤ L) {q1 q2 : Nat} {len : Int} {sw sl mw mm : Nat → Int32} {kp : Nat → Bool} {tp : Nat → Int32} {ft fp : Int} {td : mp_TD} {it : Nat → mp_TD} {A B : va_W} {k n : Nat} (hSL : mp_SL sw sl mw mm) (hW : mp_WF td) (hWI : ∀ j : Nat, mp_WF (it j)) (hA : mp_IC E q1 len sw sl kp tp ft fp td it A) (hB : mp_IM E q2 len mw mm kp tp ft fp td it B) (hk : k + 13 ≤ 600000) (hn : n + 204 ≤ 7302250) (kk : ∀ (len2 : Int) (sw2 sl2 mw2 mm2 : Nat → Int32) (kp2 : Nat → Bool) (tp2 : Nat → Int32) (ft2 fp2 : Int) (td2 : mp_TD) (it2 : Nat → mp_TD) (A2 B2 : va_W) (k2 n2 : Nat), mp_SL sw2 sl2 mw2 mm2 → mp_WF td2 → (∀ j : Nat, mp_WF (it2 j)) → mp_IC E q1 len2 sw2 sl2 kp2 tp2 ft2 fp2 td2 it2 A2 → mp_IM E q2 len2 mw2 mm2 kp2 tp2 ft2 fp2 td2 it2 B2 → k2 ≤ k + 13 → n2 ≤ n + 204 → mp_W E X 4 2218 [(3, .int i), (2, .ref q2), (1, .ref q1), (0, .ref b)] [] (A2 ++ B2) k2 n2) : mp_W E X 4 608 [(3, .int i), (2, .ref q2), (1, .ref q1), (0, .ref b)] [] (A ++ B) k n := by
  have hF : mp_F E X mp_ML := hL.1
  show mp_W E X 4 608 [(3, .int i), (2, .ref q2), (1, .ref q1), (0, .ref b)] [] (A ++ B) k n
  refine mp_run mp_k_code_ok hF mp_tabL_ok [mp_i (.aload_n 1), mp_i (.aload_n 0), mp_i (.iload_n 3), mp_c (.iconst 1) 1, mp_i .iadd] (by decide +kernel) ?_
  intro z_1 h_2
  have e_3 : z_1.toInt = i.toInt + 1 := mp_add (a := i.toInt) (b := 1) h_2 rfl (by decide) (by first | exact mp_cwa1 hi0 | omega) (by first | exact mp_cwb1 h3 hi6 | omega)
  show mp_W E X 4 613 [(3, .int i), (2, .ref q2), (1, .ref q1), (0, .ref b)] [.int z_1, .ref b, .ref q1] (A ++ B) k n
  refine mp_lsld hL (by first | exact mp_cwc1 hi0 e_3 | omega) (by first | exact mp_cwd1 hi6 e_3 | omega) (by first | exact mp_fd_ok mp_k_code_ok (by decide +kernel) | decide +kernel) (fun v_4 hv_5 => ?_)
  show mp_W E X 4 614 [(3, .int i), (2, .ref q2), (1, .ref q1), (0, .ref b)] [.int v_4, .ref q1] (A ++ B) k n
  refine mp_run mp_k_code_ok hF mp_tabL_ok [mp_i (.aload_n 0), mp_i (.iload_n 3), mp_c (.iconst 2) 2, mp_i .iadd] (by decide +kernel) ?_
  intro z_6 h_7
  have e_8 : z_6.toInt = i.toInt + 2 := mp_add (a := i.toInt) (b := 2) h_7 rfl (by decide) (by first | exact mp_cwa2 hi0 | omega) (by first | exact mp_cwb2 h3 hi6 | omega)
  show mp_W E X 4 618 [(3, .int i), (2, .ref q2), (1, .ref q1), (0, .ref b)] [.int z_6, .ref b, .int v_4, .ref q1] (A ++ B) k n
  refine mp_lsld hL (by first | exact mp_cwc2 hi0 e_8 | omega) (by first | exact mp_cwd2 hi6 e_8 | omega) (by first | exact mp_fd_ok mp_k_code_ok (by decide +kernel) | decide +kernel) (fun v_9 hv_10 => ?_)
  show mp_W E X 4 619 [(3, .int i), (2, .ref q2), (1, .ref q1), (0, .ref b)] [.int v_9, .int v_4, .ref q1] (A ++ B) k n
  refine mp_cc_falls hF v_4 v_9 hA hW hWI (by first | exact mp_fd_ok mp_k_code_ok (by decide +kernel) | decide +kernel) (by omega) (by omega) (Nat.le_of_ble_eq_true rfl) (fun r_11 A_12 l_13 k_14 n_15 hI_16 hr_17 hk_18 hn_19 => ?_)
  show mp_W E X 4 622 [(3, .int i), (2, .ref q2), (1, .ref q1), (0, .ref b)] [.int r_11] (A_12 ++ B) k_14 n_15
  refine mp_run mp_k_code_ok hF mp_tabL_ok [mp_i .pop, mp_i (.aload_n 2), mp_i (.aload_n 0), mp_i (.iload_n 3), mp_c (.iconst 1) 1, mp_i .iadd] (by decide +kernel) ?_
  refine And.intro rfl ?_
  intro z_20 h_21
  have e_22 : z_20.toInt = i.toInt + 1 := mp_add (a := i.toInt) (b := 1) h_21 rfl (by decide) (by first | exact mp_cwa1 hi0 | omega) (by first | exact mp_cwb1 h3 hi6 | omega)
  show mp_W E X 4 628 [(3, .int i), (2, .ref q2), (1, .ref q1), (0, .ref b)] [.int z_20, .ref b, .ref q2] (A_12 ++ B) k_14 n_15
  refine mp_lsld hL (by first | exact mp_cwc1 hi0 e_22 | omega) (by first | exact mp_cwd1 hi6 e_22 | omega) (by first | exact mp_fd_ok mp_k_code_ok (by decide +kernel) | decide +kernel) (fun v_23 hv_24 => ?_)
  have e_25 := mp_xs_same hv_5 hv_24 (by first | exact e_22.trans e_3.symm | omega)
  subst e_25
  show mp_W E X 4 629 [(3, .int i), (2, .ref q2), (1, .ref q1), (0, .ref b)] [.int v_4, .ref q2] (A_12 ++ B) k_14 n_15
  refine mp_run mp_k_code_ok hF mp_tabL_ok [mp_i (.aload_n 0), mp_i (.iload_n 3), mp_c (.iconst 2) 2, mp_i .iadd] (by decide +kernel) ?_
  intro z_26 h_27
  have e_28 : z_26.toInt = i.toInt + 2 := mp_add (a := i.toInt) (b := 2) h_27 rfl (by decide) (by first | exact mp_cwa2 hi0 | omega) (by first | exact mp_cwb2 h3 hi6 | omega)
  show mp_W E X 4 633 [(3, .int i), (2, .ref q2), (1, .ref q1), (0, .ref b)] [.int z_26, .ref b, .int v_4, .ref q2] (A_12 ++ B) k_14 n_15
  refine mp_lsld hL (by first | exact mp_cwc2 hi0 e_28 | omega) (by first | exact mp_cwd2 hi6 e_28 | omega) (by first | exact mp_fd_ok mp_k_code_ok (by decide +kernel) | decide +kernel) (fun v_29 hv_30 => ?_)
  have e_31 := mp_xs_same hv_10 hv_30 (by first | exact e_28.trans e_8.symm | omega)
  subst e_31
  show mp_W E X 4 634 [(3, .int i), (2, .ref q2), (1, .ref q1), (0, .ref b)] [.int v_9, .int v_4, .ref q2] (A_12 ++ B) k_14 n_15
  refine mp_swap ?_
  refine mp_cm_falls hF v_4 v_9 hB hW hWI (by first | exact mp_fd_ok mp_k_code_ok (by decide +kernel) | decide +kernel) (by omega) (by omega) (Nat.le_of_ble_eq_true rfl) (fun r_32 A_33 l_34 k_35 n_36 hI_37 hr_38 hk_39 hn_40 => ?_)
  refine mp_swap ?_
  show mp_W E X 4 637 [(3, .int i), (2, .ref q2), (1, .ref q1), (0, .ref b)] [.int r_32] (A_12 ++ A_33) k_35 n_36
  refine mp_run mp_k_code_ok hF mp_tabL_ok [mp_i .pop, mp_h (.goto 1580) [2218]] (by decide +kernel) ?_
  refine And.intro rfl ?_
  show mp_W E X 4 2218 [(3, .int i), (2, .ref q2), (1, .ref q1), (0, .ref b)] [] (A_12 ++ A_33) k_35 n_36
  have hl_ : l_13 = l_34 := by omega
  exact kk _ _ _ _ _ _ _ _ _ _ _ _ _ _ _ hSL hW hWI hI_16 (hl_ ▸ hI_37) (by omega) (by omega)
set_option maxHeartbeats 4000000 in
set_option maxRecDepth 100000 in
theorem mp_case_11 {E : mp_E} {X : mp_X} {b L : Nat} {xs : Nat → Int32} (hL : mp_Lw E X b L xs) (h3 : L ≤ 3072) {i : Int32} (hi0 : 0 ≤ i.toInt) (hi6 : i.toInt + 6 ≤ L) {q1 q2 : Nat} {len : Int} {sw sl mw mm : Nat → Int32} {kp : Nat → Bool} {tp : Nat → Int32} {ft fp : Int} {td : mp_TD} {it : Nat → mp_TD} {A B : va_W} {k n : Nat} (hSL : mp_SL sw sl mw mm) (hW : mp_WF td) (hWI : ∀ j : Nat, mp_WF (it j)) (hA : mp_IC E q1 len sw sl kp tp ft fp td it A) (hB : mp_IM E q2 len mw mm kp tp ft fp td it B) (hk : k + 13 ≤ 600000) (hn : n + 204 ≤ 7302250) (kk : ∀ (len2 : Int) (sw2 sl2 mw2 mm2 : Nat → Int32) (kp2 : Nat → Bool) (tp2 : Nat → Int32) (ft2 fp2 : Int) (td2 : mp_TD) (it2 : Nat → mp_TD) (A2 B2 : va_W) (k2 n2 : Nat), mp_SL sw2 sl2 mw2 mm2 → mp_WF td2 → (∀ j : Nat, mp_WF (it2 j)) → mp_IC E q1 len2 sw2 sl2 kp2 tp2 ft2 fp2 td2 it2 A2 → mp_IM E q2 len2 mw2 mm2 kp2 tp2 ft2 fp2 td2 it2 B2 → k2 ≤ k + 13 → n2 ≤ n + 204 → mp_W E X 4 2218 [(3, .int i), (2, .ref q2), (1, .ref q1), (0, .ref b)] [] (A2 ++ B2) k2 n2) : mp_W E X 4 641 [(3, .int i), (2, .ref q2), (1, .ref q1), (0, .ref b)] [] (A ++ B) k n := by
  have hF : mp_F E X mp_ML := hL.1
  show mp_W E X 4 641 [(3, .int i), (2, .ref q2), (1, .ref q1), (0, .ref b)] [] (A ++ B) k n
  refine mp_run mp_k_code_ok hF mp_tabL_ok [mp_i (.aload_n 1), mp_i (.aload_n 0), mp_i (.iload_n 3), mp_c (.iconst 1) 1, mp_i .iadd] (by decide +kernel) ?_
  intro z_1 h_2
  have e_3 : z_1.toInt = i.toInt + 1 := mp_add (a := i.toInt) (b := 1) h_2 rfl (by decide) (by first | exact mp_cwa1 hi0 | omega) (by first | exact mp_cwb1 h3 hi6 | omega)
  show mp_W E X 4 646 [(3, .int i), (2, .ref q2), (1, .ref q1), (0, .ref b)] [.int z_1, .ref b, .ref q1] (A ++ B) k n
  refine mp_lsld hL (by first | exact mp_cwc1 hi0 e_3 | omega) (by first | exact mp_cwd1 hi6 e_3 | omega) (by first | exact mp_fd_ok mp_k_code_ok (by decide +kernel) | decide +kernel) (fun v_4 hv_5 => ?_)
  show mp_W E X 4 647 [(3, .int i), (2, .ref q2), (1, .ref q1), (0, .ref b)] [.int v_4, .ref q1] (A ++ B) k n
  refine mp_run mp_k_code_ok hF mp_tabL_ok [mp_i (.aload_n 0), mp_i (.iload_n 3), mp_c (.iconst 2) 2, mp_i .iadd] (by decide +kernel) ?_
  intro z_6 h_7
  have e_8 : z_6.toInt = i.toInt + 2 := mp_add (a := i.toInt) (b := 2) h_7 rfl (by decide) (by first | exact mp_cwa2 hi0 | omega) (by first | exact mp_cwb2 h3 hi6 | omega)
  show mp_W E X 4 651 [(3, .int i), (2, .ref q2), (1, .ref q1), (0, .ref b)] [.int z_6, .ref b, .int v_4, .ref q1] (A ++ B) k n
  refine mp_lsld hL (by first | exact mp_cwc2 hi0 e_8 | omega) (by first | exact mp_cwd2 hi6 e_8 | omega) (by first | exact mp_fd_ok mp_k_code_ok (by decide +kernel) | decide +kernel) (fun v_9 hv_10 => ?_)
  show mp_W E X 4 652 [(3, .int i), (2, .ref q2), (1, .ref q1), (0, .ref b)] [.int v_9, .int v_4, .ref q1] (A ++ B) k n
  refine mp_run mp_k_code_ok hF mp_tabL_ok [mp_i (.aload_n 0), mp_i (.iload_n 3), mp_c (.iconst 3) 3, mp_i .iadd] (by decide +kernel) ?_
  intro z_11 h_12
  have e_13 : z_11.toInt = i.toInt + 3 := mp_add (a := i.toInt) (b := 3) h_12 rfl (by decide) (by first | exact mp_cwa3 hi0 | omega) (by first | exact mp_cwb3 h3 hi6 | omega)
  show mp_W E X 4 656 [(3, .int i), (2, .ref q2), (1, .ref q1), (0, .ref b)] [.int z_11, .ref b, .int v_9, .int v_4, .ref q1] (A ++ B) k n
  refine mp_lsld hL (by first | exact mp_cwc3 hi0 e_13 | omega) (by first | exact mp_cwd3 hi6 e_13 | omega) (by first | exact mp_fd_ok mp_k_code_ok (by decide +kernel) | decide +kernel) (fun v_14 hv_15 => ?_)
  show mp_W E X 4 657 [(3, .int i), (2, .ref q2), (1, .ref q1), (0, .ref b)] [.int v_14, .int v_9, .int v_4, .ref q1] (A ++ B) k n
  refine mp_cc_owed hF v_4 v_9 v_14 hA hW hWI (by first | exact mp_fd_ok mp_k_code_ok (by decide +kernel) | decide +kernel) (by omega) (by omega) (Nat.le_of_ble_eq_true rfl) (fun r_16 A_17 l_18 k_19 n_20 hI_21 hr_22 hk_23 hn_24 => ?_)
  show mp_W E X 4 660 [(3, .int i), (2, .ref q2), (1, .ref q1), (0, .ref b)] [.int r_16] (A_17 ++ B) k_19 n_20
  refine mp_run mp_k_code_ok hF mp_tabL_ok [mp_i .pop, mp_i (.aload_n 2), mp_i (.aload_n 0), mp_i (.iload_n 3), mp_c (.iconst 1) 1, mp_i .iadd] (by decide +kernel) ?_
  refine And.intro rfl ?_
  intro z_25 h_26
  have e_27 : z_25.toInt = i.toInt + 1 := mp_add (a := i.toInt) (b := 1) h_26 rfl (by decide) (by first | exact mp_cwa1 hi0 | omega) (by first | exact mp_cwb1 h3 hi6 | omega)
  show mp_W E X 4 666 [(3, .int i), (2, .ref q2), (1, .ref q1), (0, .ref b)] [.int z_25, .ref b, .ref q2] (A_17 ++ B) k_19 n_20
  refine mp_lsld hL (by first | exact mp_cwc1 hi0 e_27 | omega) (by first | exact mp_cwd1 hi6 e_27 | omega) (by first | exact mp_fd_ok mp_k_code_ok (by decide +kernel) | decide +kernel) (fun v_28 hv_29 => ?_)
  have e_30 := mp_xs_same hv_5 hv_29 (by first | exact e_27.trans e_3.symm | omega)
  subst e_30
  show mp_W E X 4 667 [(3, .int i), (2, .ref q2), (1, .ref q1), (0, .ref b)] [.int v_4, .ref q2] (A_17 ++ B) k_19 n_20
  refine mp_run mp_k_code_ok hF mp_tabL_ok [mp_i (.aload_n 0), mp_i (.iload_n 3), mp_c (.iconst 2) 2, mp_i .iadd] (by decide +kernel) ?_
  intro z_31 h_32
  have e_33 : z_31.toInt = i.toInt + 2 := mp_add (a := i.toInt) (b := 2) h_32 rfl (by decide) (by first | exact mp_cwa2 hi0 | omega) (by first | exact mp_cwb2 h3 hi6 | omega)
  show mp_W E X 4 671 [(3, .int i), (2, .ref q2), (1, .ref q1), (0, .ref b)] [.int z_31, .ref b, .int v_4, .ref q2] (A_17 ++ B) k_19 n_20
  refine mp_lsld hL (by first | exact mp_cwc2 hi0 e_33 | omega) (by first | exact mp_cwd2 hi6 e_33 | omega) (by first | exact mp_fd_ok mp_k_code_ok (by decide +kernel) | decide +kernel) (fun v_34 hv_35 => ?_)
  have e_36 := mp_xs_same hv_10 hv_35 (by first | exact e_33.trans e_8.symm | omega)
  subst e_36
  show mp_W E X 4 672 [(3, .int i), (2, .ref q2), (1, .ref q1), (0, .ref b)] [.int v_9, .int v_4, .ref q2] (A_17 ++ B) k_19 n_20
  refine mp_run mp_k_code_ok hF mp_tabL_ok [mp_i (.aload_n 0), mp_i (.iload_n 3), mp_c (.iconst 3) 3, mp_i .iadd] (by decide +kernel) ?_
  intro z_37 h_38
  have e_39 : z_37.toInt = i.toInt + 3 := mp_add (a := i.toInt) (b := 3) h_38 rfl (by decide) (by first | exact mp_cwa3 hi0 | omega) (by first | exact mp_cwb3 h3 hi6 | omega)
  show mp_W E X 4 676 [(3, .int i), (2, .ref q2), (1, .ref q1), (0, .ref b)] [.int z_37, .ref b, .int v_9, .int v_4, .ref q2] (A_17 ++ B) k_19 n_20
  refine mp_lsld hL (by first | exact mp_cwc3 hi0 e_39 | omega) (by first | exact mp_cwd3 hi6 e_39 | omega) (by first | exact mp_fd_ok mp_k_code_ok (by decide +kernel) | decide +kernel) (fun v_40 hv_41 => ?_)
  have e_42 := mp_xs_same hv_15 hv_41 (by first | exact e_39.trans e_13.symm | omega)
  subst e_42
  show mp_W E X 4 677 [(3, .int i), (2, .ref q2), (1, .ref q1), (0, .ref b)] [.int v_14, .int v_9, .int v_4, .ref q2] (A_17 ++ B) k_19 n_20
  refine mp_swap ?_
  refine mp_cm_owed hF v_4 v_9 v_14 hB hW hWI (by first | exact mp_fd_ok mp_k_code_ok (by decide +kernel) | decide +kernel) (by omega) (by omega) (Nat.le_of_ble_eq_true rfl) (fun r_43 A_44 l_45 k_46 n_47 hI_48 hr_49 hk_50 hn_51 => ?_)
  refine mp_swap ?_
  show mp_W E X 4 680 [(3, .int i), (2, .ref q2), (1, .ref q1), (0, .ref b)] [.int r_43] (A_17 ++ A_44) k_46 n_47
  refine mp_run mp_k_code_ok hF mp_tabL_ok [mp_i .pop, mp_h (.goto 1537) [2218]] (by decide +kernel) ?_
  refine And.intro rfl ?_
  show mp_W E X 4 2218 [(3, .int i), (2, .ref q2), (1, .ref q1), (0, .ref b)] [] (A_17 ++ A_44) k_46 n_47
  have hl_ : l_18 = l_45 := by omega
  exact kk _ _ _ _ _ _ _ _ _ _ _ _ _ _ _ hSL hW hWI hI_21 (hl_ ▸ hI_48) (by omega) (by omega)
set_option maxHeartbeats 4000000 in
set_option maxRecDepth 100000 in
theorem mp_case_12 {E : mp_E} {X : mp_X} {b L : Nat} {xs : Nat → Int32} (hL : mp_Lw E X b L xs) (h3 : L ≤ 3072) {i : Int32} (hi0 : 0 ≤ i.toInt) (hi6 : i.toInt + 6 ≤ L) {q1 q2 : Nat} {len : Int} {sw sl mw mm : Nat → Int32} {kp : Nat → Bool} {tp : Nat → Int32} {ft fp : Int} {td : mp_TD} {it : Nat → mp_TD} {A B : va_W} {k n : Nat} (hSL : mp_SL sw sl mw mm) (hW : mp_WF td) (hWI : ∀ j : Nat, mp_WF (it j)) (hA : mp_IC E q1 len sw sl kp tp ft fp td it A) (hB : mp_IM E q2 len mw mm kp tp ft fp td it B) (hk : k + 13 ≤ 600000) (hn : n + 204 ≤ 7302250) (kk : ∀ (len2 : Int) (sw2 sl2 mw2 mm2 : Nat → Int32) (kp2 : Nat → Bool) (tp2 : Nat → Int32) (ft2 fp2 : Int) (td2 : mp_TD) (it2 : Nat → mp_TD) (A2 B2 : va_W) (k2 n2 : Nat), mp_SL sw2 sl2 mw2 mm2 → mp_WF td2 → (∀ j : Nat, mp_WF (it2 j)) → mp_IC E q1 len2 sw2 sl2 kp2 tp2 ft2 fp2 td2 it2 A2 → mp_IM E q2 len2 mw2 mm2 kp2 tp2 ft2 fp2 td2 it2 B2 → k2 ≤ k + 13 → n2 ≤ n + 204 → mp_W E X 4 2218 [(3, .int i), (2, .ref q2), (1, .ref q1), (0, .ref b)] [] (A2 ++ B2) k2 n2) : mp_W E X 4 684 [(3, .int i), (2, .ref q2), (1, .ref q1), (0, .ref b)] [] (A ++ B) k n := by
  have hF : mp_F E X mp_ML := hL.1
  show mp_W E X 4 684 [(3, .int i), (2, .ref q2), (1, .ref q1), (0, .ref b)] [] (A ++ B) k n
  refine mp_run mp_k_code_ok hF mp_tabL_ok [mp_i (.aload_n 1), mp_i (.aload_n 0), mp_i (.iload_n 3), mp_c (.iconst 1) 1, mp_i .iadd] (by decide +kernel) ?_
  intro z_1 h_2
  have e_3 : z_1.toInt = i.toInt + 1 := mp_add (a := i.toInt) (b := 1) h_2 rfl (by decide) (by first | exact mp_cwa1 hi0 | omega) (by first | exact mp_cwb1 h3 hi6 | omega)
  show mp_W E X 4 689 [(3, .int i), (2, .ref q2), (1, .ref q1), (0, .ref b)] [.int z_1, .ref b, .ref q1] (A ++ B) k n
  refine mp_lsld hL (by first | exact mp_cwc1 hi0 e_3 | omega) (by first | exact mp_cwd1 hi6 e_3 | omega) (by first | exact mp_fd_ok mp_k_code_ok (by decide +kernel) | decide +kernel) (fun v_4 hv_5 => ?_)
  show mp_W E X 4 690 [(3, .int i), (2, .ref q2), (1, .ref q1), (0, .ref b)] [.int v_4, .ref q1] (A ++ B) k n
  refine mp_run mp_k_code_ok hF mp_tabL_ok [mp_i (.aload_n 0), mp_i (.iload_n 3), mp_c (.iconst 2) 2, mp_i .iadd] (by decide +kernel) ?_
  intro z_6 h_7
  have e_8 : z_6.toInt = i.toInt + 2 := mp_add (a := i.toInt) (b := 2) h_7 rfl (by decide) (by first | exact mp_cwa2 hi0 | omega) (by first | exact mp_cwb2 h3 hi6 | omega)
  show mp_W E X 4 694 [(3, .int i), (2, .ref q2), (1, .ref q1), (0, .ref b)] [.int z_6, .ref b, .int v_4, .ref q1] (A ++ B) k n
  refine mp_lsld hL (by first | exact mp_cwc2 hi0 e_8 | omega) (by first | exact mp_cwd2 hi6 e_8 | omega) (by first | exact mp_fd_ok mp_k_code_ok (by decide +kernel) | decide +kernel) (fun v_9 hv_10 => ?_)
  show mp_W E X 4 695 [(3, .int i), (2, .ref q2), (1, .ref q1), (0, .ref b)] [.int v_9, .int v_4, .ref q1] (A ++ B) k n
  refine mp_run mp_k_code_ok hF mp_tabL_ok [mp_i (.aload_n 0), mp_i (.iload_n 3), mp_c (.iconst 3) 3, mp_i .iadd] (by decide +kernel) ?_
  intro z_11 h_12
  have e_13 : z_11.toInt = i.toInt + 3 := mp_add (a := i.toInt) (b := 3) h_12 rfl (by decide) (by first | exact mp_cwa3 hi0 | omega) (by first | exact mp_cwb3 h3 hi6 | omega)
  show mp_W E X 4 699 [(3, .int i), (2, .ref q2), (1, .ref q1), (0, .ref b)] [.int z_11, .ref b, .int v_9, .int v_4, .ref q1] (A ++ B) k n
  refine mp_lsld hL (by first | exact mp_cwc3 hi0 e_13 | omega) (by first | exact mp_cwd3 hi6 e_13 | omega) (by first | exact mp_fd_ok mp_k_code_ok (by decide +kernel) | decide +kernel) (fun v_14 hv_15 => ?_)
  show mp_W E X 4 700 [(3, .int i), (2, .ref q2), (1, .ref q1), (0, .ref b)] [.int v_14, .int v_9, .int v_4, .ref q1] (A ++ B) k n
  refine mp_cc_sum hF v_4 v_9 v_14 hA hW hWI (by first | exact mp_fd_ok mp_k_code_ok (by decide +kernel) | decide +kernel) (by omega) (by omega) (Nat.le_of_ble_eq_true rfl) (fun r_16 A_17 l_18 k_19 n_20 hI_21 hr_22 hk_23 hn_24 => ?_)
  show mp_W E X 4 703 [(3, .int i), (2, .ref q2), (1, .ref q1), (0, .ref b)] [.int r_16] (A_17 ++ B) k_19 n_20
  refine mp_run mp_k_code_ok hF mp_tabL_ok [mp_i .pop, mp_i (.aload_n 2), mp_i (.aload_n 0), mp_i (.iload_n 3), mp_c (.iconst 1) 1, mp_i .iadd] (by decide +kernel) ?_
  refine And.intro rfl ?_
  intro z_25 h_26
  have e_27 : z_25.toInt = i.toInt + 1 := mp_add (a := i.toInt) (b := 1) h_26 rfl (by decide) (by first | exact mp_cwa1 hi0 | omega) (by first | exact mp_cwb1 h3 hi6 | omega)
  show mp_W E X 4 709 [(3, .int i), (2, .ref q2), (1, .ref q1), (0, .ref b)] [.int z_25, .ref b, .ref q2] (A_17 ++ B) k_19 n_20
  refine mp_lsld hL (by first | exact mp_cwc1 hi0 e_27 | omega) (by first | exact mp_cwd1 hi6 e_27 | omega) (by first | exact mp_fd_ok mp_k_code_ok (by decide +kernel) | decide +kernel) (fun v_28 hv_29 => ?_)
  have e_30 := mp_xs_same hv_5 hv_29 (by first | exact e_27.trans e_3.symm | omega)
  subst e_30
  show mp_W E X 4 710 [(3, .int i), (2, .ref q2), (1, .ref q1), (0, .ref b)] [.int v_4, .ref q2] (A_17 ++ B) k_19 n_20
  refine mp_run mp_k_code_ok hF mp_tabL_ok [mp_i (.aload_n 0), mp_i (.iload_n 3), mp_c (.iconst 2) 2, mp_i .iadd] (by decide +kernel) ?_
  intro z_31 h_32
  have e_33 : z_31.toInt = i.toInt + 2 := mp_add (a := i.toInt) (b := 2) h_32 rfl (by decide) (by first | exact mp_cwa2 hi0 | omega) (by first | exact mp_cwb2 h3 hi6 | omega)
  show mp_W E X 4 714 [(3, .int i), (2, .ref q2), (1, .ref q1), (0, .ref b)] [.int z_31, .ref b, .int v_4, .ref q2] (A_17 ++ B) k_19 n_20
  refine mp_lsld hL (by first | exact mp_cwc2 hi0 e_33 | omega) (by first | exact mp_cwd2 hi6 e_33 | omega) (by first | exact mp_fd_ok mp_k_code_ok (by decide +kernel) | decide +kernel) (fun v_34 hv_35 => ?_)
  have e_36 := mp_xs_same hv_10 hv_35 (by first | exact e_33.trans e_8.symm | omega)
  subst e_36
  show mp_W E X 4 715 [(3, .int i), (2, .ref q2), (1, .ref q1), (0, .ref b)] [.int v_9, .int v_4, .ref q2] (A_17 ++ B) k_19 n_20
  refine mp_run mp_k_code_ok hF mp_tabL_ok [mp_i (.aload_n 0), mp_i (.iload_n 3), mp_c (.iconst 3) 3, mp_i .iadd] (by decide +kernel) ?_
  intro z_37 h_38
  have e_39 : z_37.toInt = i.toInt + 3 := mp_add (a := i.toInt) (b := 3) h_38 rfl (by decide) (by first | exact mp_cwa3 hi0 | omega) (by first | exact mp_cwb3 h3 hi6 | omega)
  show mp_W E X 4 719 [(3, .int i), (2, .ref q2), (1, .ref q1), (0, .ref b)] [.int z_37, .ref b, .int v_9, .int v_4, .ref q2] (A_17 ++ B) k_19 n_20
  refine mp_lsld hL (by first | exact mp_cwc3 hi0 e_39 | omega) (by first | exact mp_cwd3 hi6 e_39 | omega) (by first | exact mp_fd_ok mp_k_code_ok (by decide +kernel) | decide +kernel) (fun v_40 hv_41 => ?_)
  have e_42 := mp_xs_same hv_15 hv_41 (by first | exact e_39.trans e_13.symm | omega)
  subst e_42
  show mp_W E X 4 720 [(3, .int i), (2, .ref q2), (1, .ref q1), (0, .ref b)] [.int v_14, .int v_9, .int v_4, .ref q2] (A_17 ++ B) k_19 n_20
  refine mp_swap ?_
  refine mp_cm_sum hF v_4 v_9 v_14 hB hW hWI (by first | exact mp_fd_ok mp_k_code_ok (by decide +kernel) | decide +kernel) (by omega) (by omega) (Nat.le_of_ble_eq_true rfl) (fun r_43 A_44 l_45 k_46 n_47 hI_48 hr_49 hk_50 hn_51 => ?_)
  refine mp_swap ?_
  show mp_W E X 4 723 [(3, .int i), (2, .ref q2), (1, .ref q1), (0, .ref b)] [.int r_43] (A_17 ++ A_44) k_46 n_47
  refine mp_run mp_k_code_ok hF mp_tabL_ok [mp_i .pop, mp_h (.goto 1494) [2218]] (by decide +kernel) ?_
  refine And.intro rfl ?_
  show mp_W E X 4 2218 [(3, .int i), (2, .ref q2), (1, .ref q1), (0, .ref b)] [] (A_17 ++ A_44) k_46 n_47
  have hl_ : l_18 = l_45 := by omega
  exact kk _ _ _ _ _ _ _ _ _ _ _ _ _ _ _ hSL hW hWI hI_21 (hl_ ▸ hI_48) (by omega) (by omega)
set_option maxHeartbeats 4000000 in
set_option maxRecDepth 100000 in
theorem mp_case_13 {E : mp_E} {X : mp_X} {b L : Nat} {xs : Nat → Int32} (hL : mp_Lw E X b L xs) (h3 : L ≤ 3072) {i : Int32} (hi0 : 0 ≤ i.toInt) (hi6 : i.toInt + 6 ≤ L) {q1 q2 : Nat} {len : Int} {sw sl mw mm : Nat → Int32} {kp : Nat → Bool} {tp : Nat → Int32} {ft fp : Int} {td : mp_TD} {it : Nat → mp_TD} {A B : va_W} {k n : Nat} (hSL : mp_SL sw sl mw mm) (hW : mp_WF td) (hWI : ∀ j : Nat, mp_WF (it j)) (hA : mp_IC E q1 len sw sl kp tp ft fp td it A) (hB : mp_IM E q2 len mw mm kp tp ft fp td it B) (hk : k + 13 ≤ 600000) (hn : n + 204 ≤ 7302250) (kk : ∀ (len2 : Int) (sw2 sl2 mw2 mm2 : Nat → Int32) (kp2 : Nat → Bool) (tp2 : Nat → Int32) (ft2 fp2 : Int) (td2 : mp_TD) (it2 : Nat → mp_TD) (A2 B2 : va_W) (k2 n2 : Nat), mp_SL sw2 sl2 mw2 mm2 → mp_WF td2 → (∀ j : Nat, mp_WF (it2 j)) → mp_IC E q1 len2 sw2 sl2 kp2 tp2 ft2 fp2 td2 it2 A2 → mp_IM E q2 len2 mw2 mm2 kp2 tp2 ft2 fp2 td2 it2 B2 → k2 ≤ k + 13 → n2 ≤ n + 204 → mp_W E X 4 2218 [(3, .int i), (2, .ref q2), (1, .ref q1), (0, .ref b)] [] (A2 ++ B2) k2 n2) : mp_W E X 4 727 [(3, .int i), (2, .ref q2), (1, .ref q1), (0, .ref b)] [] (A ++ B) k n := by
  have hF : mp_F E X mp_ML := hL.1
  show mp_W E X 4 727 [(3, .int i), (2, .ref q2), (1, .ref q1), (0, .ref b)] [] (A ++ B) k n
  refine mp_run mp_k_code_ok hF mp_tabL_ok [mp_i (.aload_n 1), mp_i (.aload_n 0), mp_i (.iload_n 3), mp_c (.iconst 1) 1, mp_i .iadd] (by decide +kernel) ?_
  intro z_1 h_2
  have e_3 : z_1.toInt = i.toInt + 1 := mp_add (a := i.toInt) (b := 1) h_2 rfl (by decide) (by first | exact mp_cwa1 hi0 | omega) (by first | exact mp_cwb1 h3 hi6 | omega)
  show mp_W E X 4 732 [(3, .int i), (2, .ref q2), (1, .ref q1), (0, .ref b)] [.int z_1, .ref b, .ref q1] (A ++ B) k n
  refine mp_lsld hL (by first | exact mp_cwc1 hi0 e_3 | omega) (by first | exact mp_cwd1 hi6 e_3 | omega) (by first | exact mp_fd_ok mp_k_code_ok (by decide +kernel) | decide +kernel) (fun v_4 hv_5 => ?_)
  show mp_W E X 4 733 [(3, .int i), (2, .ref q2), (1, .ref q1), (0, .ref b)] [.int v_4, .ref q1] (A ++ B) k n
  refine mp_cc_richest hF v_4 hA hW hWI (by first | exact mp_fd_ok mp_k_code_ok (by decide +kernel) | decide +kernel) (by omega) (by omega) (Nat.le_of_ble_eq_true rfl) (fun r_6 A_7 l_8 k_9 n_10 hI_11 hr_12 hk_13 hn_14 => ?_)
  show mp_W E X 4 736 [(3, .int i), (2, .ref q2), (1, .ref q1), (0, .ref b)] [.int r_6] (A_7 ++ B) k_9 n_10
  refine mp_run mp_k_code_ok hF mp_tabL_ok [mp_i .pop, mp_i (.aload_n 2), mp_i (.aload_n 0), mp_i (.iload_n 3), mp_c (.iconst 1) 1, mp_i .iadd] (by decide +kernel) ?_
  refine And.intro rfl ?_
  intro z_15 h_16
  have e_17 : z_15.toInt = i.toInt + 1 := mp_add (a := i.toInt) (b := 1) h_16 rfl (by decide) (by first | exact mp_cwa1 hi0 | omega) (by first | exact mp_cwb1 h3 hi6 | omega)
  show mp_W E X 4 742 [(3, .int i), (2, .ref q2), (1, .ref q1), (0, .ref b)] [.int z_15, .ref b, .ref q2] (A_7 ++ B) k_9 n_10
  refine mp_lsld hL (by first | exact mp_cwc1 hi0 e_17 | omega) (by first | exact mp_cwd1 hi6 e_17 | omega) (by first | exact mp_fd_ok mp_k_code_ok (by decide +kernel) | decide +kernel) (fun v_18 hv_19 => ?_)
  have e_20 := mp_xs_same hv_5 hv_19 (by first | exact e_17.trans e_3.symm | omega)
  subst e_20
  show mp_W E X 4 743 [(3, .int i), (2, .ref q2), (1, .ref q1), (0, .ref b)] [.int v_4, .ref q2] (A_7 ++ B) k_9 n_10
  refine mp_swap ?_
  refine mp_cm_richest hF v_4 hB hW hWI (by first | exact mp_fd_ok mp_k_code_ok (by decide +kernel) | decide +kernel) (by omega) (by omega) (Nat.le_of_ble_eq_true rfl) (fun r_21 A_22 l_23 k_24 n_25 hI_26 hr_27 hk_28 hn_29 => ?_)
  refine mp_swap ?_
  show mp_W E X 4 746 [(3, .int i), (2, .ref q2), (1, .ref q1), (0, .ref b)] [.int r_21] (A_7 ++ A_22) k_24 n_25
  refine mp_run mp_k_code_ok hF mp_tabL_ok [mp_i .pop, mp_h (.goto 1471) [2218]] (by decide +kernel) ?_
  refine And.intro rfl ?_
  show mp_W E X 4 2218 [(3, .int i), (2, .ref q2), (1, .ref q1), (0, .ref b)] [] (A_7 ++ A_22) k_24 n_25
  have hl_ : l_8 = l_23 := by omega
  exact kk _ _ _ _ _ _ _ _ _ _ _ _ _ _ _ hSL hW hWI hI_11 (hl_ ▸ hI_26) (by omega) (by omega)
set_option maxHeartbeats 4000000 in
set_option maxRecDepth 100000 in
theorem mp_case_14 {E : mp_E} {X : mp_X} {b L : Nat} {xs : Nat → Int32} (hL : mp_Lw E X b L xs) (h3 : L ≤ 3072) {i : Int32} (hi0 : 0 ≤ i.toInt) (hi6 : i.toInt + 6 ≤ L) {q1 q2 : Nat} {len : Int} {sw sl mw mm : Nat → Int32} {kp : Nat → Bool} {tp : Nat → Int32} {ft fp : Int} {td : mp_TD} {it : Nat → mp_TD} {A B : va_W} {k n : Nat} (hSL : mp_SL sw sl mw mm) (hW : mp_WF td) (hWI : ∀ j : Nat, mp_WF (it j)) (hA : mp_IC E q1 len sw sl kp tp ft fp td it A) (hB : mp_IM E q2 len mw mm kp tp ft fp td it B) (hk : k + 13 ≤ 600000) (hn : n + 204 ≤ 7302250) (kk : ∀ (len2 : Int) (sw2 sl2 mw2 mm2 : Nat → Int32) (kp2 : Nat → Bool) (tp2 : Nat → Int32) (ft2 fp2 : Int) (td2 : mp_TD) (it2 : Nat → mp_TD) (A2 B2 : va_W) (k2 n2 : Nat), mp_SL sw2 sl2 mw2 mm2 → mp_WF td2 → (∀ j : Nat, mp_WF (it2 j)) → mp_IC E q1 len2 sw2 sl2 kp2 tp2 ft2 fp2 td2 it2 A2 → mp_IM E q2 len2 mw2 mm2 kp2 tp2 ft2 fp2 td2 it2 B2 → k2 ≤ k + 13 → n2 ≤ n + 204 → mp_W E X 4 2218 [(3, .int i), (2, .ref q2), (1, .ref q1), (0, .ref b)] [] (A2 ++ B2) k2 n2) : mp_W E X 4 750 [(3, .int i), (2, .ref q2), (1, .ref q1), (0, .ref b)] [] (A ++ B) k n := by
  have hF : mp_F E X mp_ML := hL.1
  show mp_W E X 4 750 [(3, .int i), (2, .ref q2), (1, .ref q1), (0, .ref b)] [] (A ++ B) k n
  refine mp_run mp_k_code_ok hF mp_tabL_ok [mp_i (.aload_n 1), mp_i (.aload_n 0), mp_i (.iload_n 3), mp_c (.iconst 1) 1, mp_i .iadd] (by decide +kernel) ?_
  intro z_1 h_2
  have e_3 : z_1.toInt = i.toInt + 1 := mp_add (a := i.toInt) (b := 1) h_2 rfl (by decide) (by first | exact mp_cwa1 hi0 | omega) (by first | exact mp_cwb1 h3 hi6 | omega)
  show mp_W E X 4 755 [(3, .int i), (2, .ref q2), (1, .ref q1), (0, .ref b)] [.int z_1, .ref b, .ref q1] (A ++ B) k n
  refine mp_lsld hL (by first | exact mp_cwc1 hi0 e_3 | omega) (by first | exact mp_cwd1 hi6 e_3 | omega) (by first | exact mp_fd_ok mp_k_code_ok (by decide +kernel) | decide +kernel) (fun v_4 hv_5 => ?_)
  show mp_W E X 4 756 [(3, .int i), (2, .ref q2), (1, .ref q1), (0, .ref b)] [.int v_4, .ref q1] (A ++ B) k n
  refine mp_cc_greatest hF v_4 hA hW hWI (by first | exact mp_fd_ok mp_k_code_ok (by decide +kernel) | decide +kernel) (by omega) (by omega) (Nat.le_of_ble_eq_true rfl) (fun r_6 A_7 l_8 k_9 n_10 hI_11 hr_12 hk_13 hn_14 => ?_)
  show mp_W E X 4 759 [(3, .int i), (2, .ref q2), (1, .ref q1), (0, .ref b)] [.int r_6] (A_7 ++ B) k_9 n_10
  refine mp_run mp_k_code_ok hF mp_tabL_ok [mp_i .pop, mp_i (.aload_n 2), mp_i (.aload_n 0), mp_i (.iload_n 3), mp_c (.iconst 1) 1, mp_i .iadd] (by decide +kernel) ?_
  refine And.intro rfl ?_
  intro z_15 h_16
  have e_17 : z_15.toInt = i.toInt + 1 := mp_add (a := i.toInt) (b := 1) h_16 rfl (by decide) (by first | exact mp_cwa1 hi0 | omega) (by first | exact mp_cwb1 h3 hi6 | omega)
  show mp_W E X 4 765 [(3, .int i), (2, .ref q2), (1, .ref q1), (0, .ref b)] [.int z_15, .ref b, .ref q2] (A_7 ++ B) k_9 n_10
  refine mp_lsld hL (by first | exact mp_cwc1 hi0 e_17 | omega) (by first | exact mp_cwd1 hi6 e_17 | omega) (by first | exact mp_fd_ok mp_k_code_ok (by decide +kernel) | decide +kernel) (fun v_18 hv_19 => ?_)
  have e_20 := mp_xs_same hv_5 hv_19 (by first | exact e_17.trans e_3.symm | omega)
  subst e_20
  show mp_W E X 4 766 [(3, .int i), (2, .ref q2), (1, .ref q1), (0, .ref b)] [.int v_4, .ref q2] (A_7 ++ B) k_9 n_10
  refine mp_swap ?_
  refine mp_cm_greatest hF v_4 hB hW hWI (by first | exact mp_fd_ok mp_k_code_ok (by decide +kernel) | decide +kernel) (by omega) (by omega) (Nat.le_of_ble_eq_true rfl) (fun r_21 A_22 l_23 k_24 n_25 hI_26 hr_27 hk_28 hn_29 => ?_)
  refine mp_swap ?_
  show mp_W E X 4 769 [(3, .int i), (2, .ref q2), (1, .ref q1), (0, .ref b)] [.int r_21] (A_7 ++ A_22) k_24 n_25
  refine mp_run mp_k_code_ok hF mp_tabL_ok [mp_i .pop, mp_h (.goto 1448) [2218]] (by decide +kernel) ?_
  refine And.intro rfl ?_
  show mp_W E X 4 2218 [(3, .int i), (2, .ref q2), (1, .ref q1), (0, .ref b)] [] (A_7 ++ A_22) k_24 n_25
  have hl_ : l_8 = l_23 := by omega
  exact kk _ _ _ _ _ _ _ _ _ _ _ _ _ _ _ hSL hW hWI hI_11 (hl_ ▸ hI_26) (by omega) (by omega)
set_option maxHeartbeats 4000000 in
set_option maxRecDepth 100000 in
theorem mp_case_15 {E : mp_E} {X : mp_X} {b L : Nat} {xs : Nat → Int32} (hL : mp_Lw E X b L xs) (h3 : L ≤ 3072) {i : Int32} (hi0 : 0 ≤ i.toInt) (hi6 : i.toInt + 6 ≤ L) {q1 q2 : Nat} {len : Int} {sw sl mw mm : Nat → Int32} {kp : Nat → Bool} {tp : Nat → Int32} {ft fp : Int} {td : mp_TD} {it : Nat → mp_TD} {A B : va_W} {k n : Nat} (hSL : mp_SL sw sl mw mm) (hW : mp_WF td) (hWI : ∀ j : Nat, mp_WF (it j)) (hA : mp_IC E q1 len sw sl kp tp ft fp td it A) (hB : mp_IM E q2 len mw mm kp tp ft fp td it B) (hk : k + 13 ≤ 600000) (hn : n + 204 ≤ 7302250) (kk : ∀ (len2 : Int) (sw2 sl2 mw2 mm2 : Nat → Int32) (kp2 : Nat → Bool) (tp2 : Nat → Int32) (ft2 fp2 : Int) (td2 : mp_TD) (it2 : Nat → mp_TD) (A2 B2 : va_W) (k2 n2 : Nat), mp_SL sw2 sl2 mw2 mm2 → mp_WF td2 → (∀ j : Nat, mp_WF (it2 j)) → mp_IC E q1 len2 sw2 sl2 kp2 tp2 ft2 fp2 td2 it2 A2 → mp_IM E q2 len2 mw2 mm2 kp2 tp2 ft2 fp2 td2 it2 B2 → k2 ≤ k + 13 → n2 ≤ n + 204 → mp_W E X 4 2218 [(3, .int i), (2, .ref q2), (1, .ref q1), (0, .ref b)] [] (A2 ++ B2) k2 n2) : mp_W E X 4 773 [(3, .int i), (2, .ref q2), (1, .ref q1), (0, .ref b)] [] (A ++ B) k n := by
  have hF : mp_F E X mp_ML := hL.1
  show mp_W E X 4 773 [(3, .int i), (2, .ref q2), (1, .ref q1), (0, .ref b)] [] (A ++ B) k n
  refine mp_run mp_k_code_ok hF mp_tabL_ok [mp_i (.aload_n 1), mp_i (.aload_n 0), mp_i (.iload_n 3), mp_c (.iconst 1) 1, mp_i .iadd] (by decide +kernel) ?_
  intro z_1 h_2
  have e_3 : z_1.toInt = i.toInt + 1 := mp_add (a := i.toInt) (b := 1) h_2 rfl (by decide) (by first | exact mp_cwa1 hi0 | omega) (by first | exact mp_cwb1 h3 hi6 | omega)
  show mp_W E X 4 778 [(3, .int i), (2, .ref q2), (1, .ref q1), (0, .ref b)] [.int z_1, .ref b, .ref q1] (A ++ B) k n
  refine mp_lsld hL (by first | exact mp_cwc1 hi0 e_3 | omega) (by first | exact mp_cwd1 hi6 e_3 | omega) (by first | exact mp_fd_ok mp_k_code_ok (by decide +kernel) | decide +kernel) (fun v_4 hv_5 => ?_)
  show mp_W E X 4 779 [(3, .int i), (2, .ref q2), (1, .ref q1), (0, .ref b)] [.int v_4, .ref q1] (A ++ B) k n
  refine mp_cc_root hF v_4 hA hW hWI (by first | exact mp_fd_ok mp_k_code_ok (by decide +kernel) | decide +kernel) (by omega) (by omega) (Nat.le_of_ble_eq_true rfl) (fun r_6 A_7 l_8 k_9 n_10 hI_11 hr_12 hk_13 hn_14 => ?_)
  show mp_W E X 4 782 [(3, .int i), (2, .ref q2), (1, .ref q1), (0, .ref b)] [.int r_6] (A_7 ++ B) k_9 n_10
  refine mp_run mp_k_code_ok hF mp_tabL_ok [mp_i .pop, mp_i (.aload_n 2), mp_i (.aload_n 0), mp_i (.iload_n 3), mp_c (.iconst 1) 1, mp_i .iadd] (by decide +kernel) ?_
  refine And.intro rfl ?_
  intro z_15 h_16
  have e_17 : z_15.toInt = i.toInt + 1 := mp_add (a := i.toInt) (b := 1) h_16 rfl (by decide) (by first | exact mp_cwa1 hi0 | omega) (by first | exact mp_cwb1 h3 hi6 | omega)
  show mp_W E X 4 788 [(3, .int i), (2, .ref q2), (1, .ref q1), (0, .ref b)] [.int z_15, .ref b, .ref q2] (A_7 ++ B) k_9 n_10
  refine mp_lsld hL (by first | exact mp_cwc1 hi0 e_17 | omega) (by first | exact mp_cwd1 hi6 e_17 | omega) (by first | exact mp_fd_ok mp_k_code_ok (by decide +kernel) | decide +kernel) (fun v_18 hv_19 => ?_)
  have e_20 := mp_xs_same hv_5 hv_19 (by first | exact e_17.trans e_3.symm | omega)
  subst e_20
  show mp_W E X 4 789 [(3, .int i), (2, .ref q2), (1, .ref q1), (0, .ref b)] [.int v_4, .ref q2] (A_7 ++ B) k_9 n_10
  refine mp_swap ?_
  refine mp_cm_root hF v_4 hB hW hWI (by first | exact mp_fd_ok mp_k_code_ok (by decide +kernel) | decide +kernel) (by omega) (by omega) (Nat.le_of_ble_eq_true rfl) (fun r_21 A_22 l_23 k_24 n_25 hI_26 hr_27 hk_28 hn_29 => ?_)
  refine mp_swap ?_
  have hx_30 := hr_12.2.trans hr_27.2.symm
  show mp_W E X 4 792 [(3, .int i), (2, .ref q2), (1, .ref q1), (0, .ref b)] [.int r_21] (A_7 ++ A_22) k_24 n_25
  refine mp_run mp_k_code_ok hF mp_tabL_ok [mp_i .pop, mp_h (.goto 1425) [2218]] (by decide +kernel) ?_
  refine And.intro rfl ?_
  show mp_W E X 4 2218 [(3, .int i), (2, .ref q2), (1, .ref q1), (0, .ref b)] [] (A_7 ++ A_22) k_24 n_25
  have hl_ : l_8 = l_23 := by omega
  exact kk _ _ _ _ _ _ _ _ _ _ _ _ _ _ _ hSL hW hWI hI_11 (hl_ ▸ hI_26) (by omega) (by omega)
set_option maxHeartbeats 4000000 in
set_option maxRecDepth 100000 in
theorem mp_case_16 {E : mp_E} {X : mp_X} {b L : Nat} {xs : Nat → Int32} (hL : mp_Lw E X b L xs) (h3 : L ≤ 3072) {i : Int32} (hi0 : 0 ≤ i.toInt) (hi6 : i.toInt + 6 ≤ L) {q1 q2 : Nat} {len : Int} {sw sl mw mm : Nat → Int32} {kp : Nat → Bool} {tp : Nat → Int32} {ft fp : Int} {td : mp_TD} {it : Nat → mp_TD} {A B : va_W} {k n : Nat} (hSL : mp_SL sw sl mw mm) (hW : mp_WF td) (hWI : ∀ j : Nat, mp_WF (it j)) (hA : mp_IC E q1 len sw sl kp tp ft fp td it A) (hB : mp_IM E q2 len mw mm kp tp ft fp td it B) (hk : k + 13 ≤ 600000) (hn : n + 204 ≤ 7302250) (kk : ∀ (len2 : Int) (sw2 sl2 mw2 mm2 : Nat → Int32) (kp2 : Nat → Bool) (tp2 : Nat → Int32) (ft2 fp2 : Int) (td2 : mp_TD) (it2 : Nat → mp_TD) (A2 B2 : va_W) (k2 n2 : Nat), mp_SL sw2 sl2 mw2 mm2 → mp_WF td2 → (∀ j : Nat, mp_WF (it2 j)) → mp_IC E q1 len2 sw2 sl2 kp2 tp2 ft2 fp2 td2 it2 A2 → mp_IM E q2 len2 mw2 mm2 kp2 tp2 ft2 fp2 td2 it2 B2 → k2 ≤ k + 13 → n2 ≤ n + 204 → mp_W E X 4 2218 [(3, .int i), (2, .ref q2), (1, .ref q1), (0, .ref b)] [] (A2 ++ B2) k2 n2) : mp_W E X 4 796 [(3, .int i), (2, .ref q2), (1, .ref q1), (0, .ref b)] [] (A ++ B) k n := by
  have hF : mp_F E X mp_ML := hL.1
  show mp_W E X 4 796 [(3, .int i), (2, .ref q2), (1, .ref q1), (0, .ref b)] [] (A ++ B) k n
  refine mp_run mp_k_code_ok hF mp_tabL_ok [mp_i (.aload_n 1), mp_i (.aload_n 0), mp_i (.iload_n 3), mp_c (.iconst 1) 1, mp_i .iadd] (by decide +kernel) ?_
  intro z_1 h_2
  have e_3 : z_1.toInt = i.toInt + 1 := mp_add (a := i.toInt) (b := 1) h_2 rfl (by decide) (by first | exact mp_cwa1 hi0 | omega) (by first | exact mp_cwb1 h3 hi6 | omega)
  show mp_W E X 4 801 [(3, .int i), (2, .ref q2), (1, .ref q1), (0, .ref b)] [.int z_1, .ref b, .ref q1] (A ++ B) k n
  refine mp_lsld hL (by first | exact mp_cwc1 hi0 e_3 | omega) (by first | exact mp_cwd1 hi6 e_3 | omega) (by first | exact mp_fd_ok mp_k_code_ok (by decide +kernel) | decide +kernel) (fun v_4 hv_5 => ?_)
  show mp_W E X 4 802 [(3, .int i), (2, .ref q2), (1, .ref q1), (0, .ref b)] [.int v_4, .ref q1] (A ++ B) k n
  refine mp_cc_upon hF v_4 hA hW hWI (by first | exact mp_fd_ok mp_k_code_ok (by decide +kernel) | decide +kernel) (by omega) (by omega) (Nat.le_of_ble_eq_true rfl) (fun r_6 A_7 l_8 k_9 n_10 hI_11 hr_12 hk_13 hn_14 => ?_)
  show mp_W E X 4 805 [(3, .int i), (2, .ref q2), (1, .ref q1), (0, .ref b)] [.int r_6] (A_7 ++ B) k_9 n_10
  refine mp_run mp_k_code_ok hF mp_tabL_ok [mp_i .pop, mp_i (.aload_n 2), mp_i (.aload_n 0), mp_i (.iload_n 3), mp_c (.iconst 1) 1, mp_i .iadd] (by decide +kernel) ?_
  refine And.intro rfl ?_
  intro z_15 h_16
  have e_17 : z_15.toInt = i.toInt + 1 := mp_add (a := i.toInt) (b := 1) h_16 rfl (by decide) (by first | exact mp_cwa1 hi0 | omega) (by first | exact mp_cwb1 h3 hi6 | omega)
  show mp_W E X 4 811 [(3, .int i), (2, .ref q2), (1, .ref q1), (0, .ref b)] [.int z_15, .ref b, .ref q2] (A_7 ++ B) k_9 n_10
  refine mp_lsld hL (by first | exact mp_cwc1 hi0 e_17 | omega) (by first | exact mp_cwd1 hi6 e_17 | omega) (by first | exact mp_fd_ok mp_k_code_ok (by decide +kernel) | decide +kernel) (fun v_18 hv_19 => ?_)
  have e_20 := mp_xs_same hv_5 hv_19 (by first | exact e_17.trans e_3.symm | omega)
  subst e_20
  show mp_W E X 4 812 [(3, .int i), (2, .ref q2), (1, .ref q1), (0, .ref b)] [.int v_4, .ref q2] (A_7 ++ B) k_9 n_10
  refine mp_swap ?_
  refine mp_cm_upon hF v_4 hB hW hWI (by first | exact mp_fd_ok mp_k_code_ok (by decide +kernel) | decide +kernel) (by omega) (by omega) (Nat.le_of_ble_eq_true rfl) (fun r_21 A_22 l_23 k_24 n_25 hI_26 hr_27 hk_28 hn_29 => ?_)
  refine mp_swap ?_
  have hx_30 := hr_12.2.trans hr_27.2.symm
  show mp_W E X 4 815 [(3, .int i), (2, .ref q2), (1, .ref q1), (0, .ref b)] [.int r_21] (A_7 ++ A_22) k_24 n_25
  refine mp_run mp_k_code_ok hF mp_tabL_ok [mp_i .pop, mp_h (.goto 1402) [2218]] (by decide +kernel) ?_
  refine And.intro rfl ?_
  show mp_W E X 4 2218 [(3, .int i), (2, .ref q2), (1, .ref q1), (0, .ref b)] [] (A_7 ++ A_22) k_24 n_25
  have hl_ : l_8 = l_23 := by omega
  exact kk _ _ _ _ _ _ _ _ _ _ _ _ _ _ _ hSL hW hWI hI_11 (hl_ ▸ hI_26) (by omega) (by omega)
set_option maxHeartbeats 4000000 in
set_option maxRecDepth 100000 in
theorem mp_case_17 {E : mp_E} {X : mp_X} {b L : Nat} {xs : Nat → Int32} (hL : mp_Lw E X b L xs) (h3 : L ≤ 3072) {i : Int32} (hi0 : 0 ≤ i.toInt) (hi6 : i.toInt + 6 ≤ L) {q1 q2 : Nat} {len : Int} {sw sl mw mm : Nat → Int32} {kp : Nat → Bool} {tp : Nat → Int32} {ft fp : Int} {td : mp_TD} {it : Nat → mp_TD} {A B : va_W} {k n : Nat} (hSL : mp_SL sw sl mw mm) (hW : mp_WF td) (hWI : ∀ j : Nat, mp_WF (it j)) (hA : mp_IC E q1 len sw sl kp tp ft fp td it A) (hB : mp_IM E q2 len mw mm kp tp ft fp td it B) (hk : k + 13 ≤ 600000) (hn : n + 204 ≤ 7302250) (kk : ∀ (len2 : Int) (sw2 sl2 mw2 mm2 : Nat → Int32) (kp2 : Nat → Bool) (tp2 : Nat → Int32) (ft2 fp2 : Int) (td2 : mp_TD) (it2 : Nat → mp_TD) (A2 B2 : va_W) (k2 n2 : Nat), mp_SL sw2 sl2 mw2 mm2 → mp_WF td2 → (∀ j : Nat, mp_WF (it2 j)) → mp_IC E q1 len2 sw2 sl2 kp2 tp2 ft2 fp2 td2 it2 A2 → mp_IM E q2 len2 mw2 mm2 kp2 tp2 ft2 fp2 td2 it2 B2 → k2 ≤ k + 13 → n2 ≤ n + 204 → mp_W E X 4 2218 [(3, .int i), (2, .ref q2), (1, .ref q1), (0, .ref b)] [] (A2 ++ B2) k2 n2) : mp_W E X 4 819 [(3, .int i), (2, .ref q2), (1, .ref q1), (0, .ref b)] [] (A ++ B) k n := by
  have hF : mp_F E X mp_ML := hL.1
  show mp_W E X 4 819 [(3, .int i), (2, .ref q2), (1, .ref q1), (0, .ref b)] [] (A ++ B) k n
  refine mp_run mp_k_code_ok hF mp_tabL_ok [mp_i (.aload_n 1)] (by decide +kernel) ?_
  show mp_W E X 4 820 [(3, .int i), (2, .ref q2), (1, .ref q1), (0, .ref b)] [.ref q1] (A ++ B) k n
  refine mp_cc_now hF  hA hW hWI (by first | exact mp_fd_ok mp_k_code_ok (by decide +kernel) | decide +kernel) (by omega) (by omega) (Nat.le_of_ble_eq_true rfl) (fun r_1 A_2 l_3 k_4 n_5 hI_6 hr_7 hk_8 hn_9 => ?_)
  show mp_W E X 4 823 [(3, .int i), (2, .ref q2), (1, .ref q1), (0, .ref b)] [.int r_1] (A_2 ++ B) k_4 n_5
  refine mp_run mp_k_code_ok hF mp_tabL_ok [mp_i .pop, mp_i (.aload_n 2)] (by decide +kernel) ?_
  refine And.intro rfl ?_
  show mp_W E X 4 825 [(3, .int i), (2, .ref q2), (1, .ref q1), (0, .ref b)] [.ref q2] (A_2 ++ B) k_4 n_5
  refine mp_swap ?_
  refine mp_cm_now hF  hB hW hWI (by first | exact mp_fd_ok mp_k_code_ok (by decide +kernel) | decide +kernel) (by omega) (by omega) (Nat.le_of_ble_eq_true rfl) (fun r_10 A_11 l_12 k_13 n_14 hI_15 hr_16 hk_17 hn_18 => ?_)
  refine mp_swap ?_
  have hx_19 := hr_7.2.trans hr_16.2.symm
  show mp_W E X 4 828 [(3, .int i), (2, .ref q2), (1, .ref q1), (0, .ref b)] [.int r_10] (A_2 ++ A_11) k_13 n_14
  refine mp_run mp_k_code_ok hF mp_tabL_ok [mp_i .pop, mp_h (.goto 1389) [2218]] (by decide +kernel) ?_
  refine And.intro rfl ?_
  show mp_W E X 4 2218 [(3, .int i), (2, .ref q2), (1, .ref q1), (0, .ref b)] [] (A_2 ++ A_11) k_13 n_14
  have hl_ : l_3 = l_12 := by omega
  exact kk _ _ _ _ _ _ _ _ _ _ _ _ _ _ _ hSL hW hWI hI_6 (hl_ ▸ hI_15) (by omega) (by omega)
set_option maxHeartbeats 4000000 in
set_option maxRecDepth 100000 in
theorem mp_case_18 {E : mp_E} {X : mp_X} {b L : Nat} {xs : Nat → Int32} (hL : mp_Lw E X b L xs) (h3 : L ≤ 3072) {i : Int32} (hi0 : 0 ≤ i.toInt) (hi6 : i.toInt + 6 ≤ L) {q1 q2 : Nat} {len : Int} {sw sl mw mm : Nat → Int32} {kp : Nat → Bool} {tp : Nat → Int32} {ft fp : Int} {td : mp_TD} {it : Nat → mp_TD} {A B : va_W} {k n : Nat} (hSL : mp_SL sw sl mw mm) (hW : mp_WF td) (hWI : ∀ j : Nat, mp_WF (it j)) (hA : mp_IC E q1 len sw sl kp tp ft fp td it A) (hB : mp_IM E q2 len mw mm kp tp ft fp td it B) (hk : k + 13 ≤ 600000) (hn : n + 204 ≤ 7302250) (kk : ∀ (len2 : Int) (sw2 sl2 mw2 mm2 : Nat → Int32) (kp2 : Nat → Bool) (tp2 : Nat → Int32) (ft2 fp2 : Int) (td2 : mp_TD) (it2 : Nat → mp_TD) (A2 B2 : va_W) (k2 n2 : Nat), mp_SL sw2 sl2 mw2 mm2 → mp_WF td2 → (∀ j : Nat, mp_WF (it2 j)) → mp_IC E q1 len2 sw2 sl2 kp2 tp2 ft2 fp2 td2 it2 A2 → mp_IM E q2 len2 mw2 mm2 kp2 tp2 ft2 fp2 td2 it2 B2 → k2 ≤ k + 13 → n2 ≤ n + 204 → mp_W E X 4 2218 [(3, .int i), (2, .ref q2), (1, .ref q1), (0, .ref b)] [] (A2 ++ B2) k2 n2) : mp_W E X 4 832 [(3, .int i), (2, .ref q2), (1, .ref q1), (0, .ref b)] [] (A ++ B) k n := by
  have hF : mp_F E X mp_ML := hL.1
  show mp_W E X 4 832 [(3, .int i), (2, .ref q2), (1, .ref q1), (0, .ref b)] [] (A ++ B) k n
  refine mp_run mp_k_code_ok hF mp_tabL_ok [mp_i (.aload_n 1), mp_i (.aload_n 0), mp_i (.iload_n 3), mp_c (.iconst 1) 1, mp_i .iadd] (by decide +kernel) ?_
  intro z_1 h_2
  have e_3 : z_1.toInt = i.toInt + 1 := mp_add (a := i.toInt) (b := 1) h_2 rfl (by decide) (by first | exact mp_cwa1 hi0 | omega) (by first | exact mp_cwb1 h3 hi6 | omega)
  show mp_W E X 4 837 [(3, .int i), (2, .ref q2), (1, .ref q1), (0, .ref b)] [.int z_1, .ref b, .ref q1] (A ++ B) k n
  refine mp_lsld hL (by first | exact mp_cwc1 hi0 e_3 | omega) (by first | exact mp_cwd1 hi6 e_3 | omega) (by first | exact mp_fd_ok mp_k_code_ok (by decide +kernel) | decide +kernel) (fun v_4 hv_5 => ?_)
  show mp_W E X 4 838 [(3, .int i), (2, .ref q2), (1, .ref q1), (0, .ref b)] [.int v_4, .ref q1] (A ++ B) k n
  refine mp_cc_where hF v_4 hA hW hWI (by first | exact mp_fd_ok mp_k_code_ok (by decide +kernel) | decide +kernel) (by omega) (by omega) (Nat.le_of_ble_eq_true rfl) (fun r_6 A_7 l_8 k_9 n_10 hI_11 hr_12 hk_13 hn_14 => ?_)
  show mp_W E X 4 841 [(3, .int i), (2, .ref q2), (1, .ref q1), (0, .ref b)] [.int r_6] (A_7 ++ B) k_9 n_10
  refine mp_run mp_k_code_ok hF mp_tabL_ok [mp_i .pop, mp_i (.aload_n 2), mp_i (.aload_n 0), mp_i (.iload_n 3), mp_c (.iconst 1) 1, mp_i .iadd] (by decide +kernel) ?_
  refine And.intro rfl ?_
  intro z_15 h_16
  have e_17 : z_15.toInt = i.toInt + 1 := mp_add (a := i.toInt) (b := 1) h_16 rfl (by decide) (by first | exact mp_cwa1 hi0 | omega) (by first | exact mp_cwb1 h3 hi6 | omega)
  show mp_W E X 4 847 [(3, .int i), (2, .ref q2), (1, .ref q1), (0, .ref b)] [.int z_15, .ref b, .ref q2] (A_7 ++ B) k_9 n_10
  refine mp_lsld hL (by first | exact mp_cwc1 hi0 e_17 | omega) (by first | exact mp_cwd1 hi6 e_17 | omega) (by first | exact mp_fd_ok mp_k_code_ok (by decide +kernel) | decide +kernel) (fun v_18 hv_19 => ?_)
  have e_20 := mp_xs_same hv_5 hv_19 (by first | exact e_17.trans e_3.symm | omega)
  subst e_20
  show mp_W E X 4 848 [(3, .int i), (2, .ref q2), (1, .ref q1), (0, .ref b)] [.int v_4, .ref q2] (A_7 ++ B) k_9 n_10
  refine mp_swap ?_
  refine mp_cm_where hF v_4 hB hW hWI (by first | exact mp_fd_ok mp_k_code_ok (by decide +kernel) | decide +kernel) (by omega) (by omega) (Nat.le_of_ble_eq_true rfl) (fun r_21 A_22 l_23 k_24 n_25 hI_26 hr_27 hk_28 hn_29 => ?_)
  refine mp_swap ?_
  have hx_30 := hr_12.2.trans hr_27.2.symm
  show mp_W E X 4 851 [(3, .int i), (2, .ref q2), (1, .ref q1), (0, .ref b)] [.int r_21] (A_7 ++ A_22) k_24 n_25
  refine mp_run mp_k_code_ok hF mp_tabL_ok [mp_i .pop, mp_h (.goto 1366) [2218]] (by decide +kernel) ?_
  refine And.intro rfl ?_
  show mp_W E X 4 2218 [(3, .int i), (2, .ref q2), (1, .ref q1), (0, .ref b)] [] (A_7 ++ A_22) k_24 n_25
  have hl_ : l_8 = l_23 := by omega
  exact kk _ _ _ _ _ _ _ _ _ _ _ _ _ _ _ hSL hW hWI hI_11 (hl_ ▸ hI_26) (by omega) (by omega)
set_option maxHeartbeats 4000000 in
set_option maxRecDepth 100000 in
theorem mp_case_19 {E : mp_E} {X : mp_X} {b L : Nat} {xs : Nat → Int32} (hL : mp_Lw E X b L xs) (h3 : L ≤ 3072) {i : Int32} (hi0 : 0 ≤ i.toInt) (hi6 : i.toInt + 6 ≤ L) {q1 q2 : Nat} {len : Int} {sw sl mw mm : Nat → Int32} {kp : Nat → Bool} {tp : Nat → Int32} {ft fp : Int} {td : mp_TD} {it : Nat → mp_TD} {A B : va_W} {k n : Nat} (hSL : mp_SL sw sl mw mm) (hW : mp_WF td) (hWI : ∀ j : Nat, mp_WF (it j)) (hA : mp_IC E q1 len sw sl kp tp ft fp td it A) (hB : mp_IM E q2 len mw mm kp tp ft fp td it B) (hk : k + 13 ≤ 600000) (hn : n + 204 ≤ 7302250) (kk : ∀ (len2 : Int) (sw2 sl2 mw2 mm2 : Nat → Int32) (kp2 : Nat → Bool) (tp2 : Nat → Int32) (ft2 fp2 : Int) (td2 : mp_TD) (it2 : Nat → mp_TD) (A2 B2 : va_W) (k2 n2 : Nat), mp_SL sw2 sl2 mw2 mm2 → mp_WF td2 → (∀ j : Nat, mp_WF (it2 j)) → mp_IC E q1 len2 sw2 sl2 kp2 tp2 ft2 fp2 td2 it2 A2 → mp_IM E q2 len2 mw2 mm2 kp2 tp2 ft2 fp2 td2 it2 B2 → k2 ≤ k + 13 → n2 ≤ n + 204 → mp_W E X 4 2218 [(3, .int i), (2, .ref q2), (1, .ref q1), (0, .ref b)] [] (A2 ++ B2) k2 n2) : mp_W E X 4 855 [(3, .int i), (2, .ref q2), (1, .ref q1), (0, .ref b)] [] (A ++ B) k n := by
  have hF : mp_F E X mp_ML := hL.1
  show mp_W E X 4 855 [(3, .int i), (2, .ref q2), (1, .ref q1), (0, .ref b)] [] (A ++ B) k n
  refine mp_run mp_k_code_ok hF mp_tabL_ok [mp_i (.aload_n 1), mp_i (.aload_n 0), mp_i (.iload_n 3), mp_c (.iconst 1) 1, mp_i .iadd] (by decide +kernel) ?_
  intro z_1 h_2
  have e_3 : z_1.toInt = i.toInt + 1 := mp_add (a := i.toInt) (b := 1) h_2 rfl (by decide) (by first | exact mp_cwa1 hi0 | omega) (by first | exact mp_cwb1 h3 hi6 | omega)
  show mp_W E X 4 860 [(3, .int i), (2, .ref q2), (1, .ref q1), (0, .ref b)] [.int z_1, .ref b, .ref q1] (A ++ B) k n
  refine mp_lsld hL (by first | exact mp_cwc1 hi0 e_3 | omega) (by first | exact mp_cwd1 hi6 e_3 | omega) (by first | exact mp_fd_ok mp_k_code_ok (by decide +kernel) | decide +kernel) (fun v_4 hv_5 => ?_)
  show mp_W E X 4 861 [(3, .int i), (2, .ref q2), (1, .ref q1), (0, .ref b)] [.int v_4, .ref q1] (A ++ B) k n
  refine mp_cc_rowed hF v_4 hA hW hWI (by first | exact mp_fd_ok mp_k_code_ok (by decide +kernel) | decide +kernel) (by omega) (by omega) (Nat.le_of_ble_eq_true rfl) (fun r_6 A_7 l_8 k_9 n_10 hI_11 hr_12 hk_13 hn_14 => ?_)
  show mp_W E X 4 864 [(3, .int i), (2, .ref q2), (1, .ref q1), (0, .ref b)] [.int r_6] (A_7 ++ B) k_9 n_10
  refine mp_run mp_k_code_ok hF mp_tabL_ok [mp_i .pop, mp_i (.aload_n 2), mp_i (.aload_n 0), mp_i (.iload_n 3), mp_c (.iconst 1) 1, mp_i .iadd] (by decide +kernel) ?_
  refine And.intro rfl ?_
  intro z_15 h_16
  have e_17 : z_15.toInt = i.toInt + 1 := mp_add (a := i.toInt) (b := 1) h_16 rfl (by decide) (by first | exact mp_cwa1 hi0 | omega) (by first | exact mp_cwb1 h3 hi6 | omega)
  show mp_W E X 4 870 [(3, .int i), (2, .ref q2), (1, .ref q1), (0, .ref b)] [.int z_15, .ref b, .ref q2] (A_7 ++ B) k_9 n_10
  refine mp_lsld hL (by first | exact mp_cwc1 hi0 e_17 | omega) (by first | exact mp_cwd1 hi6 e_17 | omega) (by first | exact mp_fd_ok mp_k_code_ok (by decide +kernel) | decide +kernel) (fun v_18 hv_19 => ?_)
  have e_20 := mp_xs_same hv_5 hv_19 (by first | exact e_17.trans e_3.symm | omega)
  subst e_20
  show mp_W E X 4 871 [(3, .int i), (2, .ref q2), (1, .ref q1), (0, .ref b)] [.int v_4, .ref q2] (A_7 ++ B) k_9 n_10
  refine mp_swap ?_
  refine mp_cm_rowed hF v_4 hB hW hWI (by first | exact mp_fd_ok mp_k_code_ok (by decide +kernel) | decide +kernel) (by omega) (by omega) (Nat.le_of_ble_eq_true rfl) (fun r_21 A_22 l_23 k_24 n_25 hI_26 hr_27 hk_28 hn_29 => ?_)
  refine mp_swap ?_
  have hx_30 := hr_12.2.trans hr_27.2.symm
  show mp_W E X 4 874 [(3, .int i), (2, .ref q2), (1, .ref q1), (0, .ref b)] [.int r_21] (A_7 ++ A_22) k_24 n_25
  refine mp_run mp_k_code_ok hF mp_tabL_ok [mp_i .pop, mp_h (.goto 1343) [2218]] (by decide +kernel) ?_
  refine And.intro rfl ?_
  show mp_W E X 4 2218 [(3, .int i), (2, .ref q2), (1, .ref q1), (0, .ref b)] [] (A_7 ++ A_22) k_24 n_25
  have hl_ : l_8 = l_23 := by omega
  exact kk _ _ _ _ _ _ _ _ _ _ _ _ _ _ _ hSL hW hWI hI_11 (hl_ ▸ hI_26) (by omega) (by omega)
set_option maxHeartbeats 4000000 in
set_option maxRecDepth 100000 in
theorem mp_case_20 {E : mp_E} {X : mp_X} {b L : Nat} {xs : Nat → Int32} (hL : mp_Lw E X b L xs) (h3 : L ≤ 3072) {i : Int32} (hi0 : 0 ≤ i.toInt) (hi6 : i.toInt + 6 ≤ L) {q1 q2 : Nat} {len : Int} {sw sl mw mm : Nat → Int32} {kp : Nat → Bool} {tp : Nat → Int32} {ft fp : Int} {td : mp_TD} {it : Nat → mp_TD} {A B : va_W} {k n : Nat} (hSL : mp_SL sw sl mw mm) (hW : mp_WF td) (hWI : ∀ j : Nat, mp_WF (it j)) (hA : mp_IC E q1 len sw sl kp tp ft fp td it A) (hB : mp_IM E q2 len mw mm kp tp ft fp td it B) (hk : k + 13 ≤ 600000) (hn : n + 204 ≤ 7302250) (kk : ∀ (len2 : Int) (sw2 sl2 mw2 mm2 : Nat → Int32) (kp2 : Nat → Bool) (tp2 : Nat → Int32) (ft2 fp2 : Int) (td2 : mp_TD) (it2 : Nat → mp_TD) (A2 B2 : va_W) (k2 n2 : Nat), mp_SL sw2 sl2 mw2 mm2 → mp_WF td2 → (∀ j : Nat, mp_WF (it2 j)) → mp_IC E q1 len2 sw2 sl2 kp2 tp2 ft2 fp2 td2 it2 A2 → mp_IM E q2 len2 mw2 mm2 kp2 tp2 ft2 fp2 td2 it2 B2 → k2 ≤ k + 13 → n2 ≤ n + 204 → mp_W E X 4 2218 [(3, .int i), (2, .ref q2), (1, .ref q1), (0, .ref b)] [] (A2 ++ B2) k2 n2) : mp_W E X 4 878 [(3, .int i), (2, .ref q2), (1, .ref q1), (0, .ref b)] [] (A ++ B) k n := by
  have hF : mp_F E X mp_ML := hL.1
  show mp_W E X 4 878 [(3, .int i), (2, .ref q2), (1, .ref q1), (0, .ref b)] [] (A ++ B) k n
  refine mp_run mp_k_code_ok hF mp_tabL_ok [mp_i (.aload_n 1), mp_i (.aload_n 0), mp_i (.iload_n 3), mp_c (.iconst 1) 1, mp_i .iadd] (by decide +kernel) ?_
  intro z_1 h_2
  have e_3 : z_1.toInt = i.toInt + 1 := mp_add (a := i.toInt) (b := 1) h_2 rfl (by decide) (by first | exact mp_cwa1 hi0 | omega) (by first | exact mp_cwb1 h3 hi6 | omega)
  show mp_W E X 4 883 [(3, .int i), (2, .ref q2), (1, .ref q1), (0, .ref b)] [.int z_1, .ref b, .ref q1] (A ++ B) k n
  refine mp_lsld hL (by first | exact mp_cwc1 hi0 e_3 | omega) (by first | exact mp_cwd1 hi6 e_3 | omega) (by first | exact mp_fd_ok mp_k_code_ok (by decide +kernel) | decide +kernel) (fun v_4 hv_5 => ?_)
  show mp_W E X 4 884 [(3, .int i), (2, .ref q2), (1, .ref q1), (0, .ref b)] [.int v_4, .ref q1] (A ++ B) k n
  refine mp_run mp_k_code_ok hF mp_tabL_ok [mp_i (.aload_n 0), mp_i (.iload_n 3), mp_c (.iconst 2) 2, mp_i .iadd] (by decide +kernel) ?_
  intro z_6 h_7
  have e_8 : z_6.toInt = i.toInt + 2 := mp_add (a := i.toInt) (b := 2) h_7 rfl (by decide) (by first | exact mp_cwa2 hi0 | omega) (by first | exact mp_cwb2 h3 hi6 | omega)
  show mp_W E X 4 888 [(3, .int i), (2, .ref q2), (1, .ref q1), (0, .ref b)] [.int z_6, .ref b, .int v_4, .ref q1] (A ++ B) k n
  refine mp_lsld hL (by first | exact mp_cwc2 hi0 e_8 | omega) (by first | exact mp_cwd2 hi6 e_8 | omega) (by first | exact mp_fd_ok mp_k_code_ok (by decide +kernel) | decide +kernel) (fun v_9 hv_10 => ?_)
  show mp_W E X 4 889 [(3, .int i), (2, .ref q2), (1, .ref q1), (0, .ref b)] [.int v_9, .int v_4, .ref q1] (A ++ B) k n
  refine mp_cc_rows hF v_4 v_9 hA hW hWI (by first | exact mp_fd_ok mp_k_code_ok (by decide +kernel) | decide +kernel) (by omega) (by omega) (Nat.le_of_ble_eq_true rfl) (fun r_11 A_12 l_13 k_14 n_15 hI_16 hr_17 hk_18 hn_19 => ?_)
  show mp_W E X 4 892 [(3, .int i), (2, .ref q2), (1, .ref q1), (0, .ref b)] [.int r_11] (A_12 ++ B) k_14 n_15
  refine mp_run mp_k_code_ok hF mp_tabL_ok [mp_i .pop, mp_i (.aload_n 2), mp_i (.aload_n 0), mp_i (.iload_n 3), mp_c (.iconst 1) 1, mp_i .iadd] (by decide +kernel) ?_
  refine And.intro rfl ?_
  intro z_20 h_21
  have e_22 : z_20.toInt = i.toInt + 1 := mp_add (a := i.toInt) (b := 1) h_21 rfl (by decide) (by first | exact mp_cwa1 hi0 | omega) (by first | exact mp_cwb1 h3 hi6 | omega)
  show mp_W E X 4 898 [(3, .int i), (2, .ref q2), (1, .ref q1), (0, .ref b)] [.int z_20, .ref b, .ref q2] (A_12 ++ B) k_14 n_15
  refine mp_lsld hL (by first | exact mp_cwc1 hi0 e_22 | omega) (by first | exact mp_cwd1 hi6 e_22 | omega) (by first | exact mp_fd_ok mp_k_code_ok (by decide +kernel) | decide +kernel) (fun v_23 hv_24 => ?_)
  have e_25 := mp_xs_same hv_5 hv_24 (by first | exact e_22.trans e_3.symm | omega)
  subst e_25
  show mp_W E X 4 899 [(3, .int i), (2, .ref q2), (1, .ref q1), (0, .ref b)] [.int v_4, .ref q2] (A_12 ++ B) k_14 n_15
  refine mp_run mp_k_code_ok hF mp_tabL_ok [mp_i (.aload_n 0), mp_i (.iload_n 3), mp_c (.iconst 2) 2, mp_i .iadd] (by decide +kernel) ?_
  intro z_26 h_27
  have e_28 : z_26.toInt = i.toInt + 2 := mp_add (a := i.toInt) (b := 2) h_27 rfl (by decide) (by first | exact mp_cwa2 hi0 | omega) (by first | exact mp_cwb2 h3 hi6 | omega)
  show mp_W E X 4 903 [(3, .int i), (2, .ref q2), (1, .ref q1), (0, .ref b)] [.int z_26, .ref b, .int v_4, .ref q2] (A_12 ++ B) k_14 n_15
  refine mp_lsld hL (by first | exact mp_cwc2 hi0 e_28 | omega) (by first | exact mp_cwd2 hi6 e_28 | omega) (by first | exact mp_fd_ok mp_k_code_ok (by decide +kernel) | decide +kernel) (fun v_29 hv_30 => ?_)
  have e_31 := mp_xs_same hv_10 hv_30 (by first | exact e_28.trans e_8.symm | omega)
  subst e_31
  show mp_W E X 4 904 [(3, .int i), (2, .ref q2), (1, .ref q1), (0, .ref b)] [.int v_9, .int v_4, .ref q2] (A_12 ++ B) k_14 n_15
  refine mp_swap ?_
  refine mp_cm_rows hF v_4 v_9 hB hW hWI (by first | exact mp_fd_ok mp_k_code_ok (by decide +kernel) | decide +kernel) (by omega) (by omega) (Nat.le_of_ble_eq_true rfl) (fun r_32 A_33 l_34 k_35 n_36 hI_37 hr_38 hk_39 hn_40 => ?_)
  refine mp_swap ?_
  have hx_41 := hr_17.2.trans hr_38.2.symm
  show mp_W E X 4 907 [(3, .int i), (2, .ref q2), (1, .ref q1), (0, .ref b)] [.int r_32] (A_12 ++ A_33) k_35 n_36
  refine mp_run mp_k_code_ok hF mp_tabL_ok [mp_i .pop, mp_h (.goto 1310) [2218]] (by decide +kernel) ?_
  refine And.intro rfl ?_
  show mp_W E X 4 2218 [(3, .int i), (2, .ref q2), (1, .ref q1), (0, .ref b)] [] (A_12 ++ A_33) k_35 n_36
  have hl_ : l_13 = l_34 := by omega
  exact kk _ _ _ _ _ _ _ _ _ _ _ _ _ _ _ hSL (mp_rws_W hW) hWI hI_16 (hl_ ▸ hI_37) (by omega) (by omega)
set_option maxHeartbeats 4000000 in
set_option maxRecDepth 100000 in
theorem mp_case_21 {E : mp_E} {X : mp_X} {b L : Nat} {xs : Nat → Int32} (hL : mp_Lw E X b L xs) (h3 : L ≤ 3072) {i : Int32} (hi0 : 0 ≤ i.toInt) (hi6 : i.toInt + 6 ≤ L) {q1 q2 : Nat} {len : Int} {sw sl mw mm : Nat → Int32} {kp : Nat → Bool} {tp : Nat → Int32} {ft fp : Int} {td : mp_TD} {it : Nat → mp_TD} {A B : va_W} {k n : Nat} (hSL : mp_SL sw sl mw mm) (hW : mp_WF td) (hWI : ∀ j : Nat, mp_WF (it j)) (hA : mp_IC E q1 len sw sl kp tp ft fp td it A) (hB : mp_IM E q2 len mw mm kp tp ft fp td it B) (hk : k + 13 ≤ 600000) (hn : n + 204 ≤ 7302250) (kk : ∀ (len2 : Int) (sw2 sl2 mw2 mm2 : Nat → Int32) (kp2 : Nat → Bool) (tp2 : Nat → Int32) (ft2 fp2 : Int) (td2 : mp_TD) (it2 : Nat → mp_TD) (A2 B2 : va_W) (k2 n2 : Nat), mp_SL sw2 sl2 mw2 mm2 → mp_WF td2 → (∀ j : Nat, mp_WF (it2 j)) → mp_IC E q1 len2 sw2 sl2 kp2 tp2 ft2 fp2 td2 it2 A2 → mp_IM E q2 len2 mw2 mm2 kp2 tp2 ft2 fp2 td2 it2 B2 → k2 ≤ k + 13 → n2 ≤ n + 204 → mp_W E X 4 2218 [(3, .int i), (2, .ref q2), (1, .ref q1), (0, .ref b)] [] (A2 ++ B2) k2 n2) : mp_W E X 4 911 [(3, .int i), (2, .ref q2), (1, .ref q1), (0, .ref b)] [] (A ++ B) k n := by
  have hF : mp_F E X mp_ML := hL.1
  show mp_W E X 4 911 [(3, .int i), (2, .ref q2), (1, .ref q1), (0, .ref b)] [] (A ++ B) k n
  refine mp_run mp_k_code_ok hF mp_tabL_ok [mp_i (.aload_n 1), mp_i (.aload_n 0), mp_i (.iload_n 3), mp_c (.iconst 1) 1, mp_i .iadd] (by decide +kernel) ?_
  intro z_1 h_2
  have e_3 : z_1.toInt = i.toInt + 1 := mp_add (a := i.toInt) (b := 1) h_2 rfl (by decide) (by first | exact mp_cwa1 hi0 | omega) (by first | exact mp_cwb1 h3 hi6 | omega)
  show mp_W E X 4 916 [(3, .int i), (2, .ref q2), (1, .ref q1), (0, .ref b)] [.int z_1, .ref b, .ref q1] (A ++ B) k n
  refine mp_lsld hL (by first | exact mp_cwc1 hi0 e_3 | omega) (by first | exact mp_cwd1 hi6 e_3 | omega) (by first | exact mp_fd_ok mp_k_code_ok (by decide +kernel) | decide +kernel) (fun v_4 hv_5 => ?_)
  show mp_W E X 4 917 [(3, .int i), (2, .ref q2), (1, .ref q1), (0, .ref b)] [.int v_4, .ref q1] (A ++ B) k n
  refine mp_cc_says hF v_4 hA hW hWI (by first | exact mp_fd_ok mp_k_code_ok (by decide +kernel) | decide +kernel) (by omega) (by omega) (Nat.le_of_ble_eq_true rfl) (fun r_6 A_7 l_8 k_9 n_10 hI_11 hr_12 hk_13 hn_14 => ?_)
  show mp_W E X 4 920 [(3, .int i), (2, .ref q2), (1, .ref q1), (0, .ref b)] [.int r_6] (A_7 ++ B) k_9 n_10
  refine mp_run mp_k_code_ok hF mp_tabL_ok [mp_i .pop, mp_i (.aload_n 2), mp_i (.aload_n 0), mp_i (.iload_n 3), mp_c (.iconst 1) 1, mp_i .iadd] (by decide +kernel) ?_
  refine And.intro rfl ?_
  intro z_15 h_16
  have e_17 : z_15.toInt = i.toInt + 1 := mp_add (a := i.toInt) (b := 1) h_16 rfl (by decide) (by first | exact mp_cwa1 hi0 | omega) (by first | exact mp_cwb1 h3 hi6 | omega)
  show mp_W E X 4 926 [(3, .int i), (2, .ref q2), (1, .ref q1), (0, .ref b)] [.int z_15, .ref b, .ref q2] (A_7 ++ B) k_9 n_10
  refine mp_lsld hL (by first | exact mp_cwc1 hi0 e_17 | omega) (by first | exact mp_cwd1 hi6 e_17 | omega) (by first | exact mp_fd_ok mp_k_code_ok (by decide +kernel) | decide +kernel) (fun v_18 hv_19 => ?_)
  have e_20 := mp_xs_same hv_5 hv_19 (by first | exact e_17.trans e_3.symm | omega)
  subst e_20
  show mp_W E X 4 927 [(3, .int i), (2, .ref q2), (1, .ref q1), (0, .ref b)] [.int v_4, .ref q2] (A_7 ++ B) k_9 n_10
  refine mp_swap ?_
  refine mp_cm_says hF v_4 hB hW hWI (by first | exact mp_fd_ok mp_k_code_ok (by decide +kernel) | decide +kernel) (by omega) (by omega) (Nat.le_of_ble_eq_true rfl) (fun r_21 A_22 l_23 k_24 n_25 hI_26 hr_27 hk_28 hn_29 => ?_)
  refine mp_swap ?_
  show mp_W E X 4 930 [(3, .int i), (2, .ref q2), (1, .ref q1), (0, .ref b)] [.int r_21] (A_7 ++ A_22) k_24 n_25
  refine mp_run mp_k_code_ok hF mp_tabL_ok [mp_i .pop, mp_h (.goto 1287) [2218]] (by decide +kernel) ?_
  refine And.intro rfl ?_
  show mp_W E X 4 2218 [(3, .int i), (2, .ref q2), (1, .ref q1), (0, .ref b)] [] (A_7 ++ A_22) k_24 n_25
  have hl_ : l_8 = l_23 := by omega
  exact kk _ _ _ _ _ _ _ _ _ _ _ _ _ _ _ hSL (mp_say_W hW) hWI hI_11 (hl_ ▸ hI_26) (by omega) (by omega)
set_option maxHeartbeats 4000000 in
set_option maxRecDepth 100000 in
theorem mp_case_22 {E : mp_E} {X : mp_X} {b L : Nat} {xs : Nat → Int32} (hL : mp_Lw E X b L xs) (h3 : L ≤ 3072) {i : Int32} (hi0 : 0 ≤ i.toInt) (hi6 : i.toInt + 6 ≤ L) {q1 q2 : Nat} {len : Int} {sw sl mw mm : Nat → Int32} {kp : Nat → Bool} {tp : Nat → Int32} {ft fp : Int} {td : mp_TD} {it : Nat → mp_TD} {A B : va_W} {k n : Nat} (hSL : mp_SL sw sl mw mm) (hW : mp_WF td) (hWI : ∀ j : Nat, mp_WF (it j)) (hA : mp_IC E q1 len sw sl kp tp ft fp td it A) (hB : mp_IM E q2 len mw mm kp tp ft fp td it B) (hk : k + 13 ≤ 600000) (hn : n + 204 ≤ 7302250) (kk : ∀ (len2 : Int) (sw2 sl2 mw2 mm2 : Nat → Int32) (kp2 : Nat → Bool) (tp2 : Nat → Int32) (ft2 fp2 : Int) (td2 : mp_TD) (it2 : Nat → mp_TD) (A2 B2 : va_W) (k2 n2 : Nat), mp_SL sw2 sl2 mw2 mm2 → mp_WF td2 → (∀ j : Nat, mp_WF (it2 j)) → mp_IC E q1 len2 sw2 sl2 kp2 tp2 ft2 fp2 td2 it2 A2 → mp_IM E q2 len2 mw2 mm2 kp2 tp2 ft2 fp2 td2 it2 B2 → k2 ≤ k + 13 → n2 ≤ n + 204 → mp_W E X 4 2218 [(3, .int i), (2, .ref q2), (1, .ref q1), (0, .ref b)] [] (A2 ++ B2) k2 n2) : mp_W E X 4 934 [(3, .int i), (2, .ref q2), (1, .ref q1), (0, .ref b)] [] (A ++ B) k n := by
  have hF : mp_F E X mp_ML := hL.1
  show mp_W E X 4 934 [(3, .int i), (2, .ref q2), (1, .ref q1), (0, .ref b)] [] (A ++ B) k n
  refine mp_run mp_k_code_ok hF mp_tabL_ok [mp_i (.aload_n 1)] (by decide +kernel) ?_
  show mp_W E X 4 935 [(3, .int i), (2, .ref q2), (1, .ref q1), (0, .ref b)] [.ref q1] (A ++ B) k n
  refine mp_cc_passes hF  hA hW hWI (by first | exact mp_fd_ok mp_k_code_ok (by decide +kernel) | decide +kernel) (by omega) (by omega) (Nat.le_of_ble_eq_true rfl) (fun r_1 A_2 l_3 k_4 n_5 hI_6 hr_7 hk_8 hn_9 => ?_)
  show mp_W E X 4 938 [(3, .int i), (2, .ref q2), (1, .ref q1), (0, .ref b)] [.int r_1] (A_2 ++ B) k_4 n_5
  refine mp_run mp_k_code_ok hF mp_tabL_ok [mp_i .pop, mp_i (.aload_n 2)] (by decide +kernel) ?_
  refine And.intro rfl ?_
  show mp_W E X 4 940 [(3, .int i), (2, .ref q2), (1, .ref q1), (0, .ref b)] [.ref q2] (A_2 ++ B) k_4 n_5
  refine mp_swap ?_
  refine mp_cm_passes hF  hB hW hWI (by first | exact mp_fd_ok mp_k_code_ok (by decide +kernel) | decide +kernel) (by omega) (by omega) (Nat.le_of_ble_eq_true rfl) (fun r_10 A_11 l_12 k_13 n_14 hI_15 hr_16 hk_17 hn_18 => ?_)
  refine mp_swap ?_
  have hx_19 := hr_7.2.trans hr_16.2.symm
  show mp_W E X 4 943 [(3, .int i), (2, .ref q2), (1, .ref q1), (0, .ref b)] [.int r_10] (A_2 ++ A_11) k_13 n_14
  refine mp_run mp_k_code_ok hF mp_tabL_ok [mp_i .pop, mp_h (.goto 1274) [2218]] (by decide +kernel) ?_
  refine And.intro rfl ?_
  show mp_W E X 4 2218 [(3, .int i), (2, .ref q2), (1, .ref q1), (0, .ref b)] [] (A_2 ++ A_11) k_13 n_14
  have hl_ : l_3 = l_12 := by omega
  exact kk _ _ _ _ _ _ _ _ _ _ _ _ _ _ _ hSL (mp_pas_W hW) hWI hI_6 (hl_ ▸ hI_15) (by omega) (by omega)
set_option maxHeartbeats 4000000 in
set_option maxRecDepth 100000 in
theorem mp_case_23 {E : mp_E} {X : mp_X} {b L : Nat} {xs : Nat → Int32} (hL : mp_Lw E X b L xs) (h3 : L ≤ 3072) {i : Int32} (hi0 : 0 ≤ i.toInt) (hi6 : i.toInt + 6 ≤ L) {q1 q2 : Nat} {len : Int} {sw sl mw mm : Nat → Int32} {kp : Nat → Bool} {tp : Nat → Int32} {ft fp : Int} {td : mp_TD} {it : Nat → mp_TD} {A B : va_W} {k n : Nat} (hSL : mp_SL sw sl mw mm) (hW : mp_WF td) (hWI : ∀ j : Nat, mp_WF (it j)) (hA : mp_IC E q1 len sw sl kp tp ft fp td it A) (hB : mp_IM E q2 len mw mm kp tp ft fp td it B) (hk : k + 13 ≤ 600000) (hn : n + 204 ≤ 7302250) (kk : ∀ (len2 : Int) (sw2 sl2 mw2 mm2 : Nat → Int32) (kp2 : Nat → Bool) (tp2 : Nat → Int32) (ft2 fp2 : Int) (td2 : mp_TD) (it2 : Nat → mp_TD) (A2 B2 : va_W) (k2 n2 : Nat), mp_SL sw2 sl2 mw2 mm2 → mp_WF td2 → (∀ j : Nat, mp_WF (it2 j)) → mp_IC E q1 len2 sw2 sl2 kp2 tp2 ft2 fp2 td2 it2 A2 → mp_IM E q2 len2 mw2 mm2 kp2 tp2 ft2 fp2 td2 it2 B2 → k2 ≤ k + 13 → n2 ≤ n + 204 → mp_W E X 4 2218 [(3, .int i), (2, .ref q2), (1, .ref q1), (0, .ref b)] [] (A2 ++ B2) k2 n2) : mp_W E X 4 947 [(3, .int i), (2, .ref q2), (1, .ref q1), (0, .ref b)] [] (A ++ B) k n := by
  have hF : mp_F E X mp_ML := hL.1
  show mp_W E X 4 947 [(3, .int i), (2, .ref q2), (1, .ref q1), (0, .ref b)] [] (A ++ B) k n
  refine mp_run mp_k_code_ok hF mp_tabL_ok [mp_i (.aload_n 1)] (by decide +kernel) ?_
  show mp_W E X 4 948 [(3, .int i), (2, .ref q2), (1, .ref q1), (0, .ref b)] [.ref q1] (A ++ B) k n
  refine mp_cc_undo hF  hA hW hWI (by first | exact mp_fd_ok mp_k_code_ok (by decide +kernel) | decide +kernel) (by omega) (by omega) (Nat.le_of_ble_eq_true rfl) (fun r_1 A_2 l_3 k_4 n_5 hI_6 hr_7 hk_8 hn_9 => ?_)
  show mp_W E X 4 951 [(3, .int i), (2, .ref q2), (1, .ref q1), (0, .ref b)] [.int r_1] (A_2 ++ B) k_4 n_5
  refine mp_run mp_k_code_ok hF mp_tabL_ok [mp_i .pop, mp_i (.aload_n 2)] (by decide +kernel) ?_
  refine And.intro rfl ?_
  show mp_W E X 4 953 [(3, .int i), (2, .ref q2), (1, .ref q1), (0, .ref b)] [.ref q2] (A_2 ++ B) k_4 n_5
  refine mp_swap ?_
  refine mp_cm_undo hF  hB hW hWI (by first | exact mp_fd_ok mp_k_code_ok (by decide +kernel) | decide +kernel) (by omega) (by omega) (Nat.le_of_ble_eq_true rfl) (fun r_10 A_11 l_12 k_13 n_14 hI_15 hr_16 hk_17 hn_18 => ?_)
  refine mp_swap ?_
  have hx_19 := hr_7.2.trans hr_16.2.symm
  show mp_W E X 4 956 [(3, .int i), (2, .ref q2), (1, .ref q1), (0, .ref b)] [.int r_10] (A_2 ++ A_11) k_13 n_14
  refine mp_run mp_k_code_ok hF mp_tabL_ok [mp_i .pop, mp_h (.goto 1261) [2218]] (by decide +kernel) ?_
  refine And.intro rfl ?_
  show mp_W E X 4 2218 [(3, .int i), (2, .ref q2), (1, .ref q1), (0, .ref b)] [] (A_2 ++ A_11) k_13 n_14
  have hl_ : l_3 = l_12 := by omega
  exact kk _ _ _ _ _ _ _ _ _ _ _ _ _ _ _ hSL (mp_und_W hW) hWI hI_6 (hl_ ▸ hI_15) (by omega) (by omega)
set_option maxHeartbeats 4000000 in
set_option maxRecDepth 100000 in
theorem mp_case_24 {E : mp_E} {X : mp_X} {b L : Nat} {xs : Nat → Int32} (hL : mp_Lw E X b L xs) (h3 : L ≤ 3072) {i : Int32} (hi0 : 0 ≤ i.toInt) (hi6 : i.toInt + 6 ≤ L) {q1 q2 : Nat} {len : Int} {sw sl mw mm : Nat → Int32} {kp : Nat → Bool} {tp : Nat → Int32} {ft fp : Int} {td : mp_TD} {it : Nat → mp_TD} {A B : va_W} {k n : Nat} (hSL : mp_SL sw sl mw mm) (hW : mp_WF td) (hWI : ∀ j : Nat, mp_WF (it j)) (hA : mp_IC E q1 len sw sl kp tp ft fp td it A) (hB : mp_IM E q2 len mw mm kp tp ft fp td it B) (hk : k + 13 ≤ 600000) (hn : n + 204 ≤ 7302250) (kk : ∀ (len2 : Int) (sw2 sl2 mw2 mm2 : Nat → Int32) (kp2 : Nat → Bool) (tp2 : Nat → Int32) (ft2 fp2 : Int) (td2 : mp_TD) (it2 : Nat → mp_TD) (A2 B2 : va_W) (k2 n2 : Nat), mp_SL sw2 sl2 mw2 mm2 → mp_WF td2 → (∀ j : Nat, mp_WF (it2 j)) → mp_IC E q1 len2 sw2 sl2 kp2 tp2 ft2 fp2 td2 it2 A2 → mp_IM E q2 len2 mw2 mm2 kp2 tp2 ft2 fp2 td2 it2 B2 → k2 ≤ k + 13 → n2 ≤ n + 204 → mp_W E X 4 2218 [(3, .int i), (2, .ref q2), (1, .ref q1), (0, .ref b)] [] (A2 ++ B2) k2 n2) : mp_W E X 4 960 [(3, .int i), (2, .ref q2), (1, .ref q1), (0, .ref b)] [] (A ++ B) k n := by
  have hF : mp_F E X mp_ML := hL.1
  show mp_W E X 4 960 [(3, .int i), (2, .ref q2), (1, .ref q1), (0, .ref b)] [] (A ++ B) k n
  refine mp_run mp_k_code_ok hF mp_tabL_ok [mp_i (.aload_n 1)] (by decide +kernel) ?_
  show mp_W E X 4 961 [(3, .int i), (2, .ref q2), (1, .ref q1), (0, .ref b)] [.ref q1] (A ++ B) k n
  refine mp_cc_anew hF  hA hW hWI (by first | exact mp_fd_ok mp_k_code_ok (by decide +kernel) | decide +kernel) (by omega) (by omega) (Nat.le_of_ble_eq_true rfl) (fun r_1 A_2 l_3 k_4 n_5 hI_6 hr_7 hk_8 hn_9 => ?_)
  show mp_W E X 4 964 [(3, .int i), (2, .ref q2), (1, .ref q1), (0, .ref b)] [.int r_1] (A_2 ++ B) k_4 n_5
  refine mp_run mp_k_code_ok hF mp_tabL_ok [mp_i .pop, mp_i (.aload_n 2)] (by decide +kernel) ?_
  refine And.intro rfl ?_
  show mp_W E X 4 966 [(3, .int i), (2, .ref q2), (1, .ref q1), (0, .ref b)] [.ref q2] (A_2 ++ B) k_4 n_5
  refine mp_swap ?_
  refine mp_cm_anew hF  hB hW hWI (by first | exact mp_fd_ok mp_k_code_ok (by decide +kernel) | decide +kernel) (by omega) (by omega) (Nat.le_of_ble_eq_true rfl) (fun r_10 A_11 l_12 k_13 n_14 hI_15 hr_16 hk_17 hn_18 => ?_)
  refine mp_swap ?_
  have hx_19 := hr_7.2.trans hr_16.2.symm
  show mp_W E X 4 969 [(3, .int i), (2, .ref q2), (1, .ref q1), (0, .ref b)] [.int r_10] (A_2 ++ A_11) k_13 n_14
  refine mp_run mp_k_code_ok hF mp_tabL_ok [mp_i .pop, mp_h (.goto 1248) [2218]] (by decide +kernel) ?_
  refine And.intro rfl ?_
  show mp_W E X 4 2218 [(3, .int i), (2, .ref q2), (1, .ref q1), (0, .ref b)] [] (A_2 ++ A_11) k_13 n_14
  have hl_ : l_3 = l_12 := by omega
  exact kk _ _ _ _ _ _ _ _ _ _ _ _ _ _ _ hSL (mp_ane_W hW) hWI hI_6 (hl_ ▸ hI_15) (by omega) (by omega)
set_option maxHeartbeats 4000000 in
set_option maxRecDepth 100000 in
theorem mp_case_25 {E : mp_E} {X : mp_X} {b L : Nat} {xs : Nat → Int32} (hL : mp_Lw E X b L xs) (h3 : L ≤ 3072) {i : Int32} (hi0 : 0 ≤ i.toInt) (hi6 : i.toInt + 6 ≤ L) {q1 q2 : Nat} {len : Int} {sw sl mw mm : Nat → Int32} {kp : Nat → Bool} {tp : Nat → Int32} {ft fp : Int} {td : mp_TD} {it : Nat → mp_TD} {A B : va_W} {k n : Nat} (hSL : mp_SL sw sl mw mm) (hW : mp_WF td) (hWI : ∀ j : Nat, mp_WF (it j)) (hA : mp_IC E q1 len sw sl kp tp ft fp td it A) (hB : mp_IM E q2 len mw mm kp tp ft fp td it B) (hk : k + 13 ≤ 600000) (hn : n + 204 ≤ 7302250) (kk : ∀ (len2 : Int) (sw2 sl2 mw2 mm2 : Nat → Int32) (kp2 : Nat → Bool) (tp2 : Nat → Int32) (ft2 fp2 : Int) (td2 : mp_TD) (it2 : Nat → mp_TD) (A2 B2 : va_W) (k2 n2 : Nat), mp_SL sw2 sl2 mw2 mm2 → mp_WF td2 → (∀ j : Nat, mp_WF (it2 j)) → mp_IC E q1 len2 sw2 sl2 kp2 tp2 ft2 fp2 td2 it2 A2 → mp_IM E q2 len2 mw2 mm2 kp2 tp2 ft2 fp2 td2 it2 B2 → k2 ≤ k + 13 → n2 ≤ n + 204 → mp_W E X 4 2218 [(3, .int i), (2, .ref q2), (1, .ref q1), (0, .ref b)] [] (A2 ++ B2) k2 n2) : mp_W E X 4 973 [(3, .int i), (2, .ref q2), (1, .ref q1), (0, .ref b)] [] (A ++ B) k n := by
  have hF : mp_F E X mp_ML := hL.1
  show mp_W E X 4 973 [(3, .int i), (2, .ref q2), (1, .ref q1), (0, .ref b)] [] (A ++ B) k n
  refine mp_run mp_k_code_ok hF mp_tabL_ok [mp_i (.aload_n 1), mp_i (.aload_n 0), mp_i (.iload_n 3), mp_c (.iconst 1) 1, mp_i .iadd] (by decide +kernel) ?_
  intro z_1 h_2
  have e_3 : z_1.toInt = i.toInt + 1 := mp_add (a := i.toInt) (b := 1) h_2 rfl (by decide) (by first | exact mp_cwa1 hi0 | omega) (by first | exact mp_cwb1 h3 hi6 | omega)
  show mp_W E X 4 978 [(3, .int i), (2, .ref q2), (1, .ref q1), (0, .ref b)] [.int z_1, .ref b, .ref q1] (A ++ B) k n
  refine mp_lsld hL (by first | exact mp_cwc1 hi0 e_3 | omega) (by first | exact mp_cwd1 hi6 e_3 | omega) (by first | exact mp_fd_ok mp_k_code_ok (by decide +kernel) | decide +kernel) (fun v_4 hv_5 => ?_)
  show mp_W E X 4 979 [(3, .int i), (2, .ref q2), (1, .ref q1), (0, .ref b)] [.int v_4, .ref q1] (A ++ B) k n
  refine mp_cc_act hF v_4 hA hW hWI (by first | exact mp_fd_ok mp_k_code_ok (by decide +kernel) | decide +kernel) (by omega) (by omega) (Nat.le_of_ble_eq_true rfl) (fun r_6 A_7 l_8 k_9 n_10 hI_11 hr_12 hk_13 hn_14 => ?_)
  show mp_W E X 4 982 [(3, .int i), (2, .ref q2), (1, .ref q1), (0, .ref b)] [.int r_6] (A_7 ++ B) k_9 n_10
  refine mp_run mp_k_code_ok hF mp_tabL_ok [mp_i .pop, mp_i (.aload_n 2), mp_i (.aload_n 0), mp_i (.iload_n 3), mp_c (.iconst 1) 1, mp_i .iadd] (by decide +kernel) ?_
  refine And.intro rfl ?_
  intro z_15 h_16
  have e_17 : z_15.toInt = i.toInt + 1 := mp_add (a := i.toInt) (b := 1) h_16 rfl (by decide) (by first | exact mp_cwa1 hi0 | omega) (by first | exact mp_cwb1 h3 hi6 | omega)
  show mp_W E X 4 988 [(3, .int i), (2, .ref q2), (1, .ref q1), (0, .ref b)] [.int z_15, .ref b, .ref q2] (A_7 ++ B) k_9 n_10
  refine mp_lsld hL (by first | exact mp_cwc1 hi0 e_17 | omega) (by first | exact mp_cwd1 hi6 e_17 | omega) (by first | exact mp_fd_ok mp_k_code_ok (by decide +kernel) | decide +kernel) (fun v_18 hv_19 => ?_)
  have e_20 := mp_xs_same hv_5 hv_19 (by first | exact e_17.trans e_3.symm | omega)
  subst e_20
  show mp_W E X 4 989 [(3, .int i), (2, .ref q2), (1, .ref q1), (0, .ref b)] [.int v_4, .ref q2] (A_7 ++ B) k_9 n_10
  refine mp_swap ?_
  refine mp_cm_act hF v_4 hB hW hWI (by first | exact mp_fd_ok mp_k_code_ok (by decide +kernel) | decide +kernel) (by omega) (by omega) (Nat.le_of_ble_eq_true rfl) (fun r_21 A_22 l_23 k_24 n_25 hI_26 hr_27 hk_28 hn_29 => ?_)
  refine mp_swap ?_
  have hx_30 := hr_12.2.trans hr_27.2.symm
  show mp_W E X 4 992 [(3, .int i), (2, .ref q2), (1, .ref q1), (0, .ref b)] [.int r_21] (A_7 ++ A_22) k_24 n_25
  refine mp_run mp_k_code_ok hF mp_tabL_ok [mp_i .pop, mp_h (.goto 1225) [2218]] (by decide +kernel) ?_
  refine And.intro rfl ?_
  show mp_W E X 4 2218 [(3, .int i), (2, .ref q2), (1, .ref q1), (0, .ref b)] [] (A_7 ++ A_22) k_24 n_25
  have hl_ : l_8 = l_23 := by omega
  exact kk _ _ _ _ _ _ _ _ _ _ _ _ _ _ _ hSL hW hWI hI_11 (hl_ ▸ hI_26) (by omega) (by omega)
set_option maxHeartbeats 4000000 in
set_option maxRecDepth 100000 in
theorem mp_case_26 {E : mp_E} {X : mp_X} {b L : Nat} {xs : Nat → Int32} (hL : mp_Lw E X b L xs) (h3 : L ≤ 3072) {i : Int32} (hi0 : 0 ≤ i.toInt) (hi6 : i.toInt + 6 ≤ L) {q1 q2 : Nat} {len : Int} {sw sl mw mm : Nat → Int32} {kp : Nat → Bool} {tp : Nat → Int32} {ft fp : Int} {td : mp_TD} {it : Nat → mp_TD} {A B : va_W} {k n : Nat} (hSL : mp_SL sw sl mw mm) (hW : mp_WF td) (hWI : ∀ j : Nat, mp_WF (it j)) (hA : mp_IC E q1 len sw sl kp tp ft fp td it A) (hB : mp_IM E q2 len mw mm kp tp ft fp td it B) (hk : k + 13 ≤ 600000) (hn : n + 204 ≤ 7302250) (kk : ∀ (len2 : Int) (sw2 sl2 mw2 mm2 : Nat → Int32) (kp2 : Nat → Bool) (tp2 : Nat → Int32) (ft2 fp2 : Int) (td2 : mp_TD) (it2 : Nat → mp_TD) (A2 B2 : va_W) (k2 n2 : Nat), mp_SL sw2 sl2 mw2 mm2 → mp_WF td2 → (∀ j : Nat, mp_WF (it2 j)) → mp_IC E q1 len2 sw2 sl2 kp2 tp2 ft2 fp2 td2 it2 A2 → mp_IM E q2 len2 mw2 mm2 kp2 tp2 ft2 fp2 td2 it2 B2 → k2 ≤ k + 13 → n2 ≤ n + 204 → mp_W E X 4 2218 [(3, .int i), (2, .ref q2), (1, .ref q1), (0, .ref b)] [] (A2 ++ B2) k2 n2) : mp_W E X 4 996 [(3, .int i), (2, .ref q2), (1, .ref q1), (0, .ref b)] [] (A ++ B) k n := by
  have hF : mp_F E X mp_ML := hL.1
  show mp_W E X 4 996 [(3, .int i), (2, .ref q2), (1, .ref q1), (0, .ref b)] [] (A ++ B) k n
  refine mp_run mp_k_code_ok hF mp_tabL_ok [mp_i (.aload_n 1)] (by decide +kernel) ?_
  show mp_W E X 4 997 [(3, .int i), (2, .ref q2), (1, .ref q1), (0, .ref b)] [.ref q1] (A ++ B) k n
  refine mp_cc_can hF  hA hW hWI (by first | exact mp_fd_ok mp_k_code_ok (by decide +kernel) | decide +kernel) (by omega) (by omega) (Nat.le_of_ble_eq_true rfl) (fun r_1 A_2 l_3 k_4 n_5 hI_6 hr_7 hk_8 hn_9 => ?_)
  show mp_W E X 4 1000 [(3, .int i), (2, .ref q2), (1, .ref q1), (0, .ref b)] [.int r_1] (A_2 ++ B) k_4 n_5
  refine mp_run mp_k_code_ok hF mp_tabL_ok [mp_i .pop, mp_i (.aload_n 2)] (by decide +kernel) ?_
  refine And.intro rfl ?_
  show mp_W E X 4 1002 [(3, .int i), (2, .ref q2), (1, .ref q1), (0, .ref b)] [.ref q2] (A_2 ++ B) k_4 n_5
  refine mp_swap ?_
  refine mp_cm_can hF  hB hW hWI (by first | exact mp_fd_ok mp_k_code_ok (by decide +kernel) | decide +kernel) (by omega) (by omega) (Nat.le_of_ble_eq_true rfl) (fun r_10 A_11 l_12 k_13 n_14 hI_15 hr_16 hk_17 hn_18 => ?_)
  refine mp_swap ?_
  have hx_19 := hr_7.2.trans hr_16.2.symm
  show mp_W E X 4 1005 [(3, .int i), (2, .ref q2), (1, .ref q1), (0, .ref b)] [.int r_10] (A_2 ++ A_11) k_13 n_14
  refine mp_run mp_k_code_ok hF mp_tabL_ok [mp_i .pop, mp_h (.goto 1212) [2218]] (by decide +kernel) ?_
  refine And.intro rfl ?_
  show mp_W E X 4 2218 [(3, .int i), (2, .ref q2), (1, .ref q1), (0, .ref b)] [] (A_2 ++ A_11) k_13 n_14
  have hl_ : l_3 = l_12 := by omega
  exact kk _ _ _ _ _ _ _ _ _ _ _ _ _ _ _ hSL hW hWI hI_6 (hl_ ▸ hI_15) (by omega) (by omega)
set_option maxHeartbeats 4000000 in
set_option maxRecDepth 100000 in
theorem mp_case_27 {E : mp_E} {X : mp_X} {b L : Nat} {xs : Nat → Int32} (hL : mp_Lw E X b L xs) (h3 : L ≤ 3072) {i : Int32} (hi0 : 0 ≤ i.toInt) (hi6 : i.toInt + 6 ≤ L) {q1 q2 : Nat} {len : Int} {sw sl mw mm : Nat → Int32} {kp : Nat → Bool} {tp : Nat → Int32} {ft fp : Int} {td : mp_TD} {it : Nat → mp_TD} {A B : va_W} {k n : Nat} (hSL : mp_SL sw sl mw mm) (hW : mp_WF td) (hWI : ∀ j : Nat, mp_WF (it j)) (hA : mp_IC E q1 len sw sl kp tp ft fp td it A) (hB : mp_IM E q2 len mw mm kp tp ft fp td it B) (hk : k + 13 ≤ 600000) (hn : n + 204 ≤ 7302250) (kk : ∀ (len2 : Int) (sw2 sl2 mw2 mm2 : Nat → Int32) (kp2 : Nat → Bool) (tp2 : Nat → Int32) (ft2 fp2 : Int) (td2 : mp_TD) (it2 : Nat → mp_TD) (A2 B2 : va_W) (k2 n2 : Nat), mp_SL sw2 sl2 mw2 mm2 → mp_WF td2 → (∀ j : Nat, mp_WF (it2 j)) → mp_IC E q1 len2 sw2 sl2 kp2 tp2 ft2 fp2 td2 it2 A2 → mp_IM E q2 len2 mw2 mm2 kp2 tp2 ft2 fp2 td2 it2 B2 → k2 ≤ k + 13 → n2 ≤ n + 204 → mp_W E X 4 2218 [(3, .int i), (2, .ref q2), (1, .ref q1), (0, .ref b)] [] (A2 ++ B2) k2 n2) : mp_W E X 4 1009 [(3, .int i), (2, .ref q2), (1, .ref q1), (0, .ref b)] [] (A ++ B) k n := by
  have hF : mp_F E X mp_ML := hL.1
  show mp_W E X 4 1009 [(3, .int i), (2, .ref q2), (1, .ref q1), (0, .ref b)] [] (A ++ B) k n
  refine mp_run mp_k_code_ok hF mp_tabL_ok [mp_i (.aload_n 1), mp_i (.aload_n 0), mp_i (.iload_n 3), mp_c (.iconst 1) 1, mp_i .iadd] (by decide +kernel) ?_
  intro z_1 h_2
  have e_3 : z_1.toInt = i.toInt + 1 := mp_add (a := i.toInt) (b := 1) h_2 rfl (by decide) (by first | exact mp_cwa1 hi0 | omega) (by first | exact mp_cwb1 h3 hi6 | omega)
  show mp_W E X 4 1014 [(3, .int i), (2, .ref q2), (1, .ref q1), (0, .ref b)] [.int z_1, .ref b, .ref q1] (A ++ B) k n
  refine mp_lsld hL (by first | exact mp_cwc1 hi0 e_3 | omega) (by first | exact mp_cwd1 hi6 e_3 | omega) (by first | exact mp_fd_ok mp_k_code_ok (by decide +kernel) | decide +kernel) (fun v_4 hv_5 => ?_)
  show mp_W E X 4 1015 [(3, .int i), (2, .ref q2), (1, .ref q1), (0, .ref b)] [.int v_4, .ref q1] (A ++ B) k n
  refine mp_cc_sails hF v_4 hA hW hWI (by first | exact mp_fd_ok mp_k_code_ok (by decide +kernel) | decide +kernel) (by omega) (by omega) (Nat.le_of_ble_eq_true rfl) (fun r_6 A_7 l_8 k_9 n_10 hI_11 hr_12 hk_13 hn_14 => ?_)
  show mp_W E X 4 1018 [(3, .int i), (2, .ref q2), (1, .ref q1), (0, .ref b)] [.int r_6] (A_7 ++ B) k_9 n_10
  refine mp_run mp_k_code_ok hF mp_tabL_ok [mp_i .pop, mp_i (.aload_n 2), mp_i (.aload_n 0), mp_i (.iload_n 3), mp_c (.iconst 1) 1, mp_i .iadd] (by decide +kernel) ?_
  refine And.intro rfl ?_
  intro z_15 h_16
  have e_17 : z_15.toInt = i.toInt + 1 := mp_add (a := i.toInt) (b := 1) h_16 rfl (by decide) (by first | exact mp_cwa1 hi0 | omega) (by first | exact mp_cwb1 h3 hi6 | omega)
  show mp_W E X 4 1024 [(3, .int i), (2, .ref q2), (1, .ref q1), (0, .ref b)] [.int z_15, .ref b, .ref q2] (A_7 ++ B) k_9 n_10
  refine mp_lsld hL (by first | exact mp_cwc1 hi0 e_17 | omega) (by first | exact mp_cwd1 hi6 e_17 | omega) (by first | exact mp_fd_ok mp_k_code_ok (by decide +kernel) | decide +kernel) (fun v_18 hv_19 => ?_)
  have e_20 := mp_xs_same hv_5 hv_19 (by first | exact e_17.trans e_3.symm | omega)
  subst e_20
  show mp_W E X 4 1025 [(3, .int i), (2, .ref q2), (1, .ref q1), (0, .ref b)] [.int v_4, .ref q2] (A_7 ++ B) k_9 n_10
  refine mp_swap ?_
  refine mp_cm_sails hF v_4 hB hW hWI (by first | exact mp_fd_ok mp_k_code_ok (by decide +kernel) | decide +kernel) (by omega) (by omega) (Nat.le_of_ble_eq_true rfl) (fun r_21 A_22 l_23 k_24 n_25 hI_26 hr_27 hk_28 hn_29 => ?_)
  refine mp_swap ?_
  have hx_30 := hr_12.2.trans hr_27.2.symm
  show mp_W E X 4 1028 [(3, .int i), (2, .ref q2), (1, .ref q1), (0, .ref b)] [.int r_21] (A_7 ++ A_22) k_24 n_25
  refine mp_run mp_k_code_ok hF mp_tabL_ok [mp_i .pop, mp_h (.goto 1189) [2218]] (by decide +kernel) ?_
  refine And.intro rfl ?_
  show mp_W E X 4 2218 [(3, .int i), (2, .ref q2), (1, .ref q1), (0, .ref b)] [] (A_7 ++ A_22) k_24 n_25
  have hl_ : l_8 = l_23 := by omega
  exact kk _ _ _ _ _ _ _ _ _ _ _ _ _ _ _ hSL hW hWI hI_11 (hl_ ▸ hI_26) (by omega) (by omega)
set_option maxHeartbeats 4000000 in
set_option maxRecDepth 100000 in
theorem mp_case_28 {E : mp_E} {X : mp_X} {b L : Nat} {xs : Nat → Int32} (hL : mp_Lw E X b L xs) (h3 : L ≤ 3072) {i : Int32} (hi0 : 0 ≤ i.toInt) (hi6 : i.toInt + 6 ≤ L) {q1 q2 : Nat} {len : Int} {sw sl mw mm : Nat → Int32} {kp : Nat → Bool} {tp : Nat → Int32} {ft fp : Int} {td : mp_TD} {it : Nat → mp_TD} {A B : va_W} {k n : Nat} (hSL : mp_SL sw sl mw mm) (hW : mp_WF td) (hWI : ∀ j : Nat, mp_WF (it j)) (hA : mp_IC E q1 len sw sl kp tp ft fp td it A) (hB : mp_IM E q2 len mw mm kp tp ft fp td it B) (hk : k + 13 ≤ 600000) (hn : n + 204 ≤ 7302250) (kk : ∀ (len2 : Int) (sw2 sl2 mw2 mm2 : Nat → Int32) (kp2 : Nat → Bool) (tp2 : Nat → Int32) (ft2 fp2 : Int) (td2 : mp_TD) (it2 : Nat → mp_TD) (A2 B2 : va_W) (k2 n2 : Nat), mp_SL sw2 sl2 mw2 mm2 → mp_WF td2 → (∀ j : Nat, mp_WF (it2 j)) → mp_IC E q1 len2 sw2 sl2 kp2 tp2 ft2 fp2 td2 it2 A2 → mp_IM E q2 len2 mw2 mm2 kp2 tp2 ft2 fp2 td2 it2 B2 → k2 ≤ k + 13 → n2 ≤ n + 204 → mp_W E X 4 2218 [(3, .int i), (2, .ref q2), (1, .ref q1), (0, .ref b)] [] (A2 ++ B2) k2 n2) : mp_W E X 4 1032 [(3, .int i), (2, .ref q2), (1, .ref q1), (0, .ref b)] [] (A ++ B) k n := by
  have hF : mp_F E X mp_ML := hL.1
  show mp_W E X 4 1032 [(3, .int i), (2, .ref q2), (1, .ref q1), (0, .ref b)] [] (A ++ B) k n
  refine mp_run mp_k_code_ok hF mp_tabL_ok [mp_i (.aload_n 1), mp_i (.aload_n 0), mp_i (.iload_n 3), mp_c (.iconst 1) 1, mp_i .iadd] (by decide +kernel) ?_
  intro z_1 h_2
  have e_3 : z_1.toInt = i.toInt + 1 := mp_add (a := i.toInt) (b := 1) h_2 rfl (by decide) (by first | exact mp_cwa1 hi0 | omega) (by first | exact mp_cwb1 h3 hi6 | omega)
  show mp_W E X 4 1037 [(3, .int i), (2, .ref q2), (1, .ref q1), (0, .ref b)] [.int z_1, .ref b, .ref q1] (A ++ B) k n
  refine mp_lsld hL (by first | exact mp_cwc1 hi0 e_3 | omega) (by first | exact mp_cwd1 hi6 e_3 | omega) (by first | exact mp_fd_ok mp_k_code_ok (by decide +kernel) | decide +kernel) (fun v_4 hv_5 => ?_)
  show mp_W E X 4 1038 [(3, .int i), (2, .ref q2), (1, .ref q1), (0, .ref b)] [.int v_4, .ref q1] (A ++ B) k n
  refine mp_run mp_k_code_ok hF mp_tabL_ok [mp_i (.aload_n 0), mp_i (.iload_n 3), mp_c (.iconst 2) 2, mp_i .iadd] (by decide +kernel) ?_
  intro z_6 h_7
  have e_8 : z_6.toInt = i.toInt + 2 := mp_add (a := i.toInt) (b := 2) h_7 rfl (by decide) (by first | exact mp_cwa2 hi0 | omega) (by first | exact mp_cwb2 h3 hi6 | omega)
  show mp_W E X 4 1042 [(3, .int i), (2, .ref q2), (1, .ref q1), (0, .ref b)] [.int z_6, .ref b, .int v_4, .ref q1] (A ++ B) k n
  refine mp_lsld hL (by first | exact mp_cwc2 hi0 e_8 | omega) (by first | exact mp_cwd2 hi6 e_8 | omega) (by first | exact mp_fd_ok mp_k_code_ok (by decide +kernel) | decide +kernel) (fun v_9 hv_10 => ?_)
  show mp_W E X 4 1043 [(3, .int i), (2, .ref q2), (1, .ref q1), (0, .ref b)] [.int v_9, .int v_4, .ref q1] (A ++ B) k n
  refine mp_cc_keeps hF v_4 v_9 hA hW hWI (by first | exact mp_fd_ok mp_k_code_ok (by decide +kernel) | decide +kernel) (by omega) (by omega) (Nat.le_of_ble_eq_true rfl) (fun r_11 A_12 l_13 k_14 n_15 hI_16 hr_17 hk_18 hn_19 => ?_)
  show mp_W E X 4 1046 [(3, .int i), (2, .ref q2), (1, .ref q1), (0, .ref b)] [.int r_11] (A_12 ++ B) k_14 n_15
  refine mp_run mp_k_code_ok hF mp_tabL_ok [mp_i .pop, mp_i (.aload_n 2), mp_i (.aload_n 0), mp_i (.iload_n 3), mp_c (.iconst 1) 1, mp_i .iadd] (by decide +kernel) ?_
  refine And.intro rfl ?_
  intro z_20 h_21
  have e_22 : z_20.toInt = i.toInt + 1 := mp_add (a := i.toInt) (b := 1) h_21 rfl (by decide) (by first | exact mp_cwa1 hi0 | omega) (by first | exact mp_cwb1 h3 hi6 | omega)
  show mp_W E X 4 1052 [(3, .int i), (2, .ref q2), (1, .ref q1), (0, .ref b)] [.int z_20, .ref b, .ref q2] (A_12 ++ B) k_14 n_15
  refine mp_lsld hL (by first | exact mp_cwc1 hi0 e_22 | omega) (by first | exact mp_cwd1 hi6 e_22 | omega) (by first | exact mp_fd_ok mp_k_code_ok (by decide +kernel) | decide +kernel) (fun v_23 hv_24 => ?_)
  have e_25 := mp_xs_same hv_5 hv_24 (by first | exact e_22.trans e_3.symm | omega)
  subst e_25
  show mp_W E X 4 1053 [(3, .int i), (2, .ref q2), (1, .ref q1), (0, .ref b)] [.int v_4, .ref q2] (A_12 ++ B) k_14 n_15
  refine mp_run mp_k_code_ok hF mp_tabL_ok [mp_i (.aload_n 0), mp_i (.iload_n 3), mp_c (.iconst 2) 2, mp_i .iadd] (by decide +kernel) ?_
  intro z_26 h_27
  have e_28 : z_26.toInt = i.toInt + 2 := mp_add (a := i.toInt) (b := 2) h_27 rfl (by decide) (by first | exact mp_cwa2 hi0 | omega) (by first | exact mp_cwb2 h3 hi6 | omega)
  show mp_W E X 4 1057 [(3, .int i), (2, .ref q2), (1, .ref q1), (0, .ref b)] [.int z_26, .ref b, .int v_4, .ref q2] (A_12 ++ B) k_14 n_15
  refine mp_lsld hL (by first | exact mp_cwc2 hi0 e_28 | omega) (by first | exact mp_cwd2 hi6 e_28 | omega) (by first | exact mp_fd_ok mp_k_code_ok (by decide +kernel) | decide +kernel) (fun v_29 hv_30 => ?_)
  have e_31 := mp_xs_same hv_10 hv_30 (by first | exact e_28.trans e_8.symm | omega)
  subst e_31
  show mp_W E X 4 1058 [(3, .int i), (2, .ref q2), (1, .ref q1), (0, .ref b)] [.int v_9, .int v_4, .ref q2] (A_12 ++ B) k_14 n_15
  refine mp_swap ?_
  refine mp_cm_keeps hF v_4 v_9 hB hW hWI (by first | exact mp_fd_ok mp_k_code_ok (by decide +kernel) | decide +kernel) (by omega) (by omega) (Nat.le_of_ble_eq_true rfl) (fun r_32 A_33 l_34 k_35 n_36 hI_37 hr_38 hk_39 hn_40 => ?_)
  refine mp_swap ?_
  show mp_W E X 4 1061 [(3, .int i), (2, .ref q2), (1, .ref q1), (0, .ref b)] [.int r_32] (A_12 ++ A_33) k_35 n_36
  refine mp_run mp_k_code_ok hF mp_tabL_ok [mp_i .pop, mp_h (.goto 1156) [2218]] (by decide +kernel) ?_
  refine And.intro rfl ?_
  show mp_W E X 4 2218 [(3, .int i), (2, .ref q2), (1, .ref q1), (0, .ref b)] [] (A_12 ++ A_33) k_35 n_36
  have hl_ : l_13 = l_34 := by omega
  exact kk _ _ _ _ _ _ _ _ _ _ _ _ _ _ _ hSL hW hWI hI_16 (hl_ ▸ hI_37) (by omega) (by omega)
set_option maxHeartbeats 4000000 in
set_option maxRecDepth 100000 in
theorem mp_case_29 {E : mp_E} {X : mp_X} {b L : Nat} {xs : Nat → Int32} (hL : mp_Lw E X b L xs) (h3 : L ≤ 3072) {i : Int32} (hi0 : 0 ≤ i.toInt) (hi6 : i.toInt + 6 ≤ L) {q1 q2 : Nat} {len : Int} {sw sl mw mm : Nat → Int32} {kp : Nat → Bool} {tp : Nat → Int32} {ft fp : Int} {td : mp_TD} {it : Nat → mp_TD} {A B : va_W} {k n : Nat} (hSL : mp_SL sw sl mw mm) (hW : mp_WF td) (hWI : ∀ j : Nat, mp_WF (it j)) (hA : mp_IC E q1 len sw sl kp tp ft fp td it A) (hB : mp_IM E q2 len mw mm kp tp ft fp td it B) (hk : k + 13 ≤ 600000) (hn : n + 204 ≤ 7302250) (kk : ∀ (len2 : Int) (sw2 sl2 mw2 mm2 : Nat → Int32) (kp2 : Nat → Bool) (tp2 : Nat → Int32) (ft2 fp2 : Int) (td2 : mp_TD) (it2 : Nat → mp_TD) (A2 B2 : va_W) (k2 n2 : Nat), mp_SL sw2 sl2 mw2 mm2 → mp_WF td2 → (∀ j : Nat, mp_WF (it2 j)) → mp_IC E q1 len2 sw2 sl2 kp2 tp2 ft2 fp2 td2 it2 A2 → mp_IM E q2 len2 mw2 mm2 kp2 tp2 ft2 fp2 td2 it2 B2 → k2 ≤ k + 13 → n2 ≤ n + 204 → mp_W E X 4 2218 [(3, .int i), (2, .ref q2), (1, .ref q1), (0, .ref b)] [] (A2 ++ B2) k2 n2) : mp_W E X 4 1065 [(3, .int i), (2, .ref q2), (1, .ref q1), (0, .ref b)] [] (A ++ B) k n := by
  have hF : mp_F E X mp_ML := hL.1
  show mp_W E X 4 1065 [(3, .int i), (2, .ref q2), (1, .ref q1), (0, .ref b)] [] (A ++ B) k n
  refine mp_run mp_k_code_ok hF mp_tabL_ok [mp_i (.aload_n 1), mp_i (.aload_n 0), mp_i (.iload_n 3), mp_c (.iconst 1) 1, mp_i .iadd] (by decide +kernel) ?_
  intro z_1 h_2
  have e_3 : z_1.toInt = i.toInt + 1 := mp_add (a := i.toInt) (b := 1) h_2 rfl (by decide) (by first | exact mp_cwa1 hi0 | omega) (by first | exact mp_cwb1 h3 hi6 | omega)
  show mp_W E X 4 1070 [(3, .int i), (2, .ref q2), (1, .ref q1), (0, .ref b)] [.int z_1, .ref b, .ref q1] (A ++ B) k n
  refine mp_lsld hL (by first | exact mp_cwc1 hi0 e_3 | omega) (by first | exact mp_cwd1 hi6 e_3 | omega) (by first | exact mp_fd_ok mp_k_code_ok (by decide +kernel) | decide +kernel) (fun v_4 hv_5 => ?_)
  show mp_W E X 4 1071 [(3, .int i), (2, .ref q2), (1, .ref q1), (0, .ref b)] [.int v_4, .ref q1] (A ++ B) k n
  refine mp_run mp_k_code_ok hF mp_tabL_ok [mp_i (.aload_n 0), mp_i (.iload_n 3), mp_c (.iconst 2) 2, mp_i .iadd] (by decide +kernel) ?_
  intro z_6 h_7
  have e_8 : z_6.toInt = i.toInt + 2 := mp_add (a := i.toInt) (b := 2) h_7 rfl (by decide) (by first | exact mp_cwa2 hi0 | omega) (by first | exact mp_cwb2 h3 hi6 | omega)
  show mp_W E X 4 1075 [(3, .int i), (2, .ref q2), (1, .ref q1), (0, .ref b)] [.int z_6, .ref b, .int v_4, .ref q1] (A ++ B) k n
  refine mp_lsld hL (by first | exact mp_cwc2 hi0 e_8 | omega) (by first | exact mp_cwd2 hi6 e_8 | omega) (by first | exact mp_fd_ok mp_k_code_ok (by decide +kernel) | decide +kernel) (fun v_9 hv_10 => ?_)
  show mp_W E X 4 1076 [(3, .int i), (2, .ref q2), (1, .ref q1), (0, .ref b)] [.int v_9, .int v_4, .ref q1] (A ++ B) k n
  refine mp_run mp_k_code_ok hF mp_tabL_ok [mp_i (.aload_n 0), mp_i (.iload_n 3), mp_c (.iconst 3) 3, mp_i .iadd] (by decide +kernel) ?_
  intro z_11 h_12
  have e_13 : z_11.toInt = i.toInt + 3 := mp_add (a := i.toInt) (b := 3) h_12 rfl (by decide) (by first | exact mp_cwa3 hi0 | omega) (by first | exact mp_cwb3 h3 hi6 | omega)
  show mp_W E X 4 1080 [(3, .int i), (2, .ref q2), (1, .ref q1), (0, .ref b)] [.int z_11, .ref b, .int v_9, .int v_4, .ref q1] (A ++ B) k n
  refine mp_lsld hL (by first | exact mp_cwc3 hi0 e_13 | omega) (by first | exact mp_cwd3 hi6 e_13 | omega) (by first | exact mp_fd_ok mp_k_code_ok (by decide +kernel) | decide +kernel) (fun v_14 hv_15 => ?_)
  show mp_W E X 4 1081 [(3, .int i), (2, .ref q2), (1, .ref q1), (0, .ref b)] [.int v_14, .int v_9, .int v_4, .ref q1] (A ++ B) k n
  refine mp_cc_plan hF v_4 v_9 v_14 hA hW hWI (by first | exact mp_fd_ok mp_k_code_ok (by decide +kernel) | decide +kernel) (by omega) (by omega) (Nat.le_of_ble_eq_true rfl) (fun r_16 A_17 l_18 k_19 n_20 hI_21 hr_22 hk_23 hn_24 => ?_)
  show mp_W E X 4 1084 [(3, .int i), (2, .ref q2), (1, .ref q1), (0, .ref b)] [.int r_16] (A_17 ++ B) k_19 n_20
  refine mp_run mp_k_code_ok hF mp_tabL_ok [mp_i .pop, mp_i (.aload_n 2), mp_i (.aload_n 0), mp_i (.iload_n 3), mp_c (.iconst 1) 1, mp_i .iadd] (by decide +kernel) ?_
  refine And.intro rfl ?_
  intro z_25 h_26
  have e_27 : z_25.toInt = i.toInt + 1 := mp_add (a := i.toInt) (b := 1) h_26 rfl (by decide) (by first | exact mp_cwa1 hi0 | omega) (by first | exact mp_cwb1 h3 hi6 | omega)
  show mp_W E X 4 1090 [(3, .int i), (2, .ref q2), (1, .ref q1), (0, .ref b)] [.int z_25, .ref b, .ref q2] (A_17 ++ B) k_19 n_20
  refine mp_lsld hL (by first | exact mp_cwc1 hi0 e_27 | omega) (by first | exact mp_cwd1 hi6 e_27 | omega) (by first | exact mp_fd_ok mp_k_code_ok (by decide +kernel) | decide +kernel) (fun v_28 hv_29 => ?_)
  have e_30 := mp_xs_same hv_5 hv_29 (by first | exact e_27.trans e_3.symm | omega)
  subst e_30
  show mp_W E X 4 1091 [(3, .int i), (2, .ref q2), (1, .ref q1), (0, .ref b)] [.int v_4, .ref q2] (A_17 ++ B) k_19 n_20
  refine mp_run mp_k_code_ok hF mp_tabL_ok [mp_i (.aload_n 0), mp_i (.iload_n 3), mp_c (.iconst 2) 2, mp_i .iadd] (by decide +kernel) ?_
  intro z_31 h_32
  have e_33 : z_31.toInt = i.toInt + 2 := mp_add (a := i.toInt) (b := 2) h_32 rfl (by decide) (by first | exact mp_cwa2 hi0 | omega) (by first | exact mp_cwb2 h3 hi6 | omega)
  show mp_W E X 4 1095 [(3, .int i), (2, .ref q2), (1, .ref q1), (0, .ref b)] [.int z_31, .ref b, .int v_4, .ref q2] (A_17 ++ B) k_19 n_20
  refine mp_lsld hL (by first | exact mp_cwc2 hi0 e_33 | omega) (by first | exact mp_cwd2 hi6 e_33 | omega) (by first | exact mp_fd_ok mp_k_code_ok (by decide +kernel) | decide +kernel) (fun v_34 hv_35 => ?_)
  have e_36 := mp_xs_same hv_10 hv_35 (by first | exact e_33.trans e_8.symm | omega)
  subst e_36
  show mp_W E X 4 1096 [(3, .int i), (2, .ref q2), (1, .ref q1), (0, .ref b)] [.int v_9, .int v_4, .ref q2] (A_17 ++ B) k_19 n_20
  refine mp_run mp_k_code_ok hF mp_tabL_ok [mp_i (.aload_n 0), mp_i (.iload_n 3), mp_c (.iconst 3) 3, mp_i .iadd] (by decide +kernel) ?_
  intro z_37 h_38
  have e_39 : z_37.toInt = i.toInt + 3 := mp_add (a := i.toInt) (b := 3) h_38 rfl (by decide) (by first | exact mp_cwa3 hi0 | omega) (by first | exact mp_cwb3 h3 hi6 | omega)
  show mp_W E X 4 1100 [(3, .int i), (2, .ref q2), (1, .ref q1), (0, .ref b)] [.int z_37, .ref b, .int v_9, .int v_4, .ref q2] (A_17 ++ B) k_19 n_20
  refine mp_lsld hL (by first | exact mp_cwc3 hi0 e_39 | omega) (by first | exact mp_cwd3 hi6 e_39 | omega) (by first | exact mp_fd_ok mp_k_code_ok (by decide +kernel) | decide +kernel) (fun v_40 hv_41 => ?_)
  have e_42 := mp_xs_same hv_15 hv_41 (by first | exact e_39.trans e_13.symm | omega)
  subst e_42
  show mp_W E X 4 1101 [(3, .int i), (2, .ref q2), (1, .ref q1), (0, .ref b)] [.int v_14, .int v_9, .int v_4, .ref q2] (A_17 ++ B) k_19 n_20
  refine mp_swap ?_
  refine mp_cm_plan hF v_4 v_9 v_14 hB hW hWI (by first | exact mp_fd_ok mp_k_code_ok (by decide +kernel) | decide +kernel) (by omega) (by omega) (Nat.le_of_ble_eq_true rfl) (fun r_43 A_44 l_45 k_46 n_47 hI_48 hr_49 hk_50 hn_51 => ?_)
  refine mp_swap ?_
  show mp_W E X 4 1104 [(3, .int i), (2, .ref q2), (1, .ref q1), (0, .ref b)] [.int r_43] (A_17 ++ A_44) k_46 n_47
  refine mp_run mp_k_code_ok hF mp_tabL_ok [mp_i .pop, mp_h (.goto 1113) [2218]] (by decide +kernel) ?_
  refine And.intro rfl ?_
  show mp_W E X 4 2218 [(3, .int i), (2, .ref q2), (1, .ref q1), (0, .ref b)] [] (A_17 ++ A_44) k_46 n_47
  have hl_ : l_18 = l_45 := by omega
  exact kk _ _ _ _ _ _ _ _ _ _ _ _ _ _ _ hSL hW hWI hI_21 (hl_ ▸ hI_48) (by omega) (by omega)
set_option maxHeartbeats 4000000 in
set_option maxRecDepth 100000 in
theorem mp_case_30 {E : mp_E} {X : mp_X} {b L : Nat} {xs : Nat → Int32} (hL : mp_Lw E X b L xs) (h3 : L ≤ 3072) {i : Int32} (hi0 : 0 ≤ i.toInt) (hi6 : i.toInt + 6 ≤ L) {q1 q2 : Nat} {len : Int} {sw sl mw mm : Nat → Int32} {kp : Nat → Bool} {tp : Nat → Int32} {ft fp : Int} {td : mp_TD} {it : Nat → mp_TD} {A B : va_W} {k n : Nat} (hSL : mp_SL sw sl mw mm) (hW : mp_WF td) (hWI : ∀ j : Nat, mp_WF (it j)) (hA : mp_IC E q1 len sw sl kp tp ft fp td it A) (hB : mp_IM E q2 len mw mm kp tp ft fp td it B) (hk : k + 13 ≤ 600000) (hn : n + 204 ≤ 7302250) (kk : ∀ (len2 : Int) (sw2 sl2 mw2 mm2 : Nat → Int32) (kp2 : Nat → Bool) (tp2 : Nat → Int32) (ft2 fp2 : Int) (td2 : mp_TD) (it2 : Nat → mp_TD) (A2 B2 : va_W) (k2 n2 : Nat), mp_SL sw2 sl2 mw2 mm2 → mp_WF td2 → (∀ j : Nat, mp_WF (it2 j)) → mp_IC E q1 len2 sw2 sl2 kp2 tp2 ft2 fp2 td2 it2 A2 → mp_IM E q2 len2 mw2 mm2 kp2 tp2 ft2 fp2 td2 it2 B2 → k2 ≤ k + 13 → n2 ≤ n + 204 → mp_W E X 4 2218 [(3, .int i), (2, .ref q2), (1, .ref q1), (0, .ref b)] [] (A2 ++ B2) k2 n2) : mp_W E X 4 1108 [(3, .int i), (2, .ref q2), (1, .ref q1), (0, .ref b)] [] (A ++ B) k n := by
  have hF : mp_F E X mp_ML := hL.1
  show mp_W E X 4 1108 [(3, .int i), (2, .ref q2), (1, .ref q1), (0, .ref b)] [] (A ++ B) k n
  refine mp_run mp_k_code_ok hF mp_tabL_ok [mp_i (.aload_n 1), mp_i (.aload_n 0), mp_i (.iload_n 3), mp_c (.iconst 1) 1, mp_i .iadd] (by decide +kernel) ?_
  intro z_1 h_2
  have e_3 : z_1.toInt = i.toInt + 1 := mp_add (a := i.toInt) (b := 1) h_2 rfl (by decide) (by first | exact mp_cwa1 hi0 | omega) (by first | exact mp_cwb1 h3 hi6 | omega)
  show mp_W E X 4 1113 [(3, .int i), (2, .ref q2), (1, .ref q1), (0, .ref b)] [.int z_1, .ref b, .ref q1] (A ++ B) k n
  refine mp_lsld hL (by first | exact mp_cwc1 hi0 e_3 | omega) (by first | exact mp_cwd1 hi6 e_3 | omega) (by first | exact mp_fd_ok mp_k_code_ok (by decide +kernel) | decide +kernel) (fun v_4 hv_5 => ?_)
  show mp_W E X 4 1114 [(3, .int i), (2, .ref q2), (1, .ref q1), (0, .ref b)] [.int v_4, .ref q1] (A ++ B) k n
  refine mp_run mp_k_code_ok hF mp_tabL_ok [mp_i (.aload_n 0), mp_i (.iload_n 3), mp_c (.iconst 2) 2, mp_i .iadd] (by decide +kernel) ?_
  intro z_6 h_7
  have e_8 : z_6.toInt = i.toInt + 2 := mp_add (a := i.toInt) (b := 2) h_7 rfl (by decide) (by first | exact mp_cwa2 hi0 | omega) (by first | exact mp_cwb2 h3 hi6 | omega)
  show mp_W E X 4 1118 [(3, .int i), (2, .ref q2), (1, .ref q1), (0, .ref b)] [.int z_6, .ref b, .int v_4, .ref q1] (A ++ B) k n
  refine mp_lsld hL (by first | exact mp_cwc2 hi0 e_8 | omega) (by first | exact mp_cwd2 hi6 e_8 | omega) (by first | exact mp_fd_ok mp_k_code_ok (by decide +kernel) | decide +kernel) (fun v_9 hv_10 => ?_)
  show mp_W E X 4 1119 [(3, .int i), (2, .ref q2), (1, .ref q1), (0, .ref b)] [.int v_9, .int v_4, .ref q1] (A ++ B) k n
  refine mp_cc_lets hF v_4 v_9 hA hW hWI (by first | exact mp_fd_ok mp_k_code_ok (by decide +kernel) | decide +kernel) (by omega) (by omega) (Nat.le_of_ble_eq_true rfl) (fun r_11 A_12 l_13 k_14 n_15 hI_16 hr_17 hk_18 hn_19 => ?_)
  show mp_W E X 4 1122 [(3, .int i), (2, .ref q2), (1, .ref q1), (0, .ref b)] [.int r_11] (A_12 ++ B) k_14 n_15
  refine mp_run mp_k_code_ok hF mp_tabL_ok [mp_i .pop, mp_i (.aload_n 2), mp_i (.aload_n 0), mp_i (.iload_n 3), mp_c (.iconst 1) 1, mp_i .iadd] (by decide +kernel) ?_
  refine And.intro rfl ?_
  intro z_20 h_21
  have e_22 : z_20.toInt = i.toInt + 1 := mp_add (a := i.toInt) (b := 1) h_21 rfl (by decide) (by first | exact mp_cwa1 hi0 | omega) (by first | exact mp_cwb1 h3 hi6 | omega)
  show mp_W E X 4 1128 [(3, .int i), (2, .ref q2), (1, .ref q1), (0, .ref b)] [.int z_20, .ref b, .ref q2] (A_12 ++ B) k_14 n_15
  refine mp_lsld hL (by first | exact mp_cwc1 hi0 e_22 | omega) (by first | exact mp_cwd1 hi6 e_22 | omega) (by first | exact mp_fd_ok mp_k_code_ok (by decide +kernel) | decide +kernel) (fun v_23 hv_24 => ?_)
  have e_25 := mp_xs_same hv_5 hv_24 (by first | exact e_22.trans e_3.symm | omega)
  subst e_25
  show mp_W E X 4 1129 [(3, .int i), (2, .ref q2), (1, .ref q1), (0, .ref b)] [.int v_4, .ref q2] (A_12 ++ B) k_14 n_15
  refine mp_run mp_k_code_ok hF mp_tabL_ok [mp_i (.aload_n 0), mp_i (.iload_n 3), mp_c (.iconst 2) 2, mp_i .iadd] (by decide +kernel) ?_
  intro z_26 h_27
  have e_28 : z_26.toInt = i.toInt + 2 := mp_add (a := i.toInt) (b := 2) h_27 rfl (by decide) (by first | exact mp_cwa2 hi0 | omega) (by first | exact mp_cwb2 h3 hi6 | omega)
  show mp_W E X 4 1133 [(3, .int i), (2, .ref q2), (1, .ref q1), (0, .ref b)] [.int z_26, .ref b, .int v_4, .ref q2] (A_12 ++ B) k_14 n_15
  refine mp_lsld hL (by first | exact mp_cwc2 hi0 e_28 | omega) (by first | exact mp_cwd2 hi6 e_28 | omega) (by first | exact mp_fd_ok mp_k_code_ok (by decide +kernel) | decide +kernel) (fun v_29 hv_30 => ?_)
  have e_31 := mp_xs_same hv_10 hv_30 (by first | exact e_28.trans e_8.symm | omega)
  subst e_31
  show mp_W E X 4 1134 [(3, .int i), (2, .ref q2), (1, .ref q1), (0, .ref b)] [.int v_9, .int v_4, .ref q2] (A_12 ++ B) k_14 n_15
  refine mp_swap ?_
  refine mp_cm_lets hF v_4 v_9 hB hW hWI (by first | exact mp_fd_ok mp_k_code_ok (by decide +kernel) | decide +kernel) (by omega) (by omega) (Nat.le_of_ble_eq_true rfl) (fun r_32 A_33 l_34 k_35 n_36 hI_37 hr_38 hk_39 hn_40 => ?_)
  refine mp_swap ?_
  show mp_W E X 4 1137 [(3, .int i), (2, .ref q2), (1, .ref q1), (0, .ref b)] [.int r_32] (A_12 ++ A_33) k_35 n_36
  refine mp_run mp_k_code_ok hF mp_tabL_ok [mp_i .pop, mp_h (.goto 1080) [2218]] (by decide +kernel) ?_
  refine And.intro rfl ?_
  show mp_W E X 4 2218 [(3, .int i), (2, .ref q2), (1, .ref q1), (0, .ref b)] [] (A_12 ++ A_33) k_35 n_36
  have hl_ : l_13 = l_34 := by omega
  exact kk _ _ _ _ _ _ _ _ _ _ _ _ _ _ _ hSL hW hWI hI_16 (hl_ ▸ hI_37) (by omega) (by omega)
set_option maxHeartbeats 4000000 in
set_option maxRecDepth 100000 in
theorem mp_case_31 {E : mp_E} {X : mp_X} {b L : Nat} {xs : Nat → Int32} (hL : mp_Lw E X b L xs) (h3 : L ≤ 3072) {i : Int32} (hi0 : 0 ≤ i.toInt) (hi6 : i.toInt + 6 ≤ L) {q1 q2 : Nat} {len : Int} {sw sl mw mm : Nat → Int32} {kp : Nat → Bool} {tp : Nat → Int32} {ft fp : Int} {td : mp_TD} {it : Nat → mp_TD} {A B : va_W} {k n : Nat} (hSL : mp_SL sw sl mw mm) (hW : mp_WF td) (hWI : ∀ j : Nat, mp_WF (it j)) (hA : mp_IC E q1 len sw sl kp tp ft fp td it A) (hB : mp_IM E q2 len mw mm kp tp ft fp td it B) (hk : k + 13 ≤ 600000) (hn : n + 204 ≤ 7302250) (kk : ∀ (len2 : Int) (sw2 sl2 mw2 mm2 : Nat → Int32) (kp2 : Nat → Bool) (tp2 : Nat → Int32) (ft2 fp2 : Int) (td2 : mp_TD) (it2 : Nat → mp_TD) (A2 B2 : va_W) (k2 n2 : Nat), mp_SL sw2 sl2 mw2 mm2 → mp_WF td2 → (∀ j : Nat, mp_WF (it2 j)) → mp_IC E q1 len2 sw2 sl2 kp2 tp2 ft2 fp2 td2 it2 A2 → mp_IM E q2 len2 mw2 mm2 kp2 tp2 ft2 fp2 td2 it2 B2 → k2 ≤ k + 13 → n2 ≤ n + 204 → mp_W E X 4 2218 [(3, .int i), (2, .ref q2), (1, .ref q1), (0, .ref b)] [] (A2 ++ B2) k2 n2) : mp_W E X 4 1141 [(3, .int i), (2, .ref q2), (1, .ref q1), (0, .ref b)] [] (A ++ B) k n := by
  have hF : mp_F E X mp_ML := hL.1
  show mp_W E X 4 1141 [(3, .int i), (2, .ref q2), (1, .ref q1), (0, .ref b)] [] (A ++ B) k n
  refine mp_run mp_k_code_ok hF mp_tabL_ok [mp_i (.aload_n 1), mp_i (.aload_n 0), mp_i (.iload_n 3), mp_c (.iconst 1) 1, mp_i .iadd] (by decide +kernel) ?_
  intro z_1 h_2
  have e_3 : z_1.toInt = i.toInt + 1 := mp_add (a := i.toInt) (b := 1) h_2 rfl (by decide) (by first | exact mp_cwa1 hi0 | omega) (by first | exact mp_cwb1 h3 hi6 | omega)
  show mp_W E X 4 1146 [(3, .int i), (2, .ref q2), (1, .ref q1), (0, .ref b)] [.int z_1, .ref b, .ref q1] (A ++ B) k n
  refine mp_lsld hL (by first | exact mp_cwc1 hi0 e_3 | omega) (by first | exact mp_cwd1 hi6 e_3 | omega) (by first | exact mp_fd_ok mp_k_code_ok (by decide +kernel) | decide +kernel) (fun v_4 hv_5 => ?_)
  show mp_W E X 4 1147 [(3, .int i), (2, .ref q2), (1, .ref q1), (0, .ref b)] [.int v_4, .ref q1] (A ++ B) k n
  refine mp_run mp_k_code_ok hF mp_tabL_ok [mp_i (.aload_n 0), mp_i (.iload_n 3), mp_c (.iconst 2) 2, mp_i .iadd] (by decide +kernel) ?_
  intro z_6 h_7
  have e_8 : z_6.toInt = i.toInt + 2 := mp_add (a := i.toInt) (b := 2) h_7 rfl (by decide) (by first | exact mp_cwa2 hi0 | omega) (by first | exact mp_cwb2 h3 hi6 | omega)
  show mp_W E X 4 1151 [(3, .int i), (2, .ref q2), (1, .ref q1), (0, .ref b)] [.int z_6, .ref b, .int v_4, .ref q1] (A ++ B) k n
  refine mp_lsld hL (by first | exact mp_cwc2 hi0 e_8 | omega) (by first | exact mp_cwd2 hi6 e_8 | omega) (by first | exact mp_fd_ok mp_k_code_ok (by decide +kernel) | decide +kernel) (fun v_9 hv_10 => ?_)
  show mp_W E X 4 1152 [(3, .int i), (2, .ref q2), (1, .ref q1), (0, .ref b)] [.int v_9, .int v_4, .ref q1] (A ++ B) k n
  refine mp_cc_fallen hF v_4 v_9 hA hW hWI (by first | exact mp_fd_ok mp_k_code_ok (by decide +kernel) | decide +kernel) (by omega) (by omega) (Nat.le_of_ble_eq_true rfl) (fun r_11 A_12 l_13 k_14 n_15 hI_16 hr_17 hk_18 hn_19 => ?_)
  show mp_W E X 4 1155 [(3, .int i), (2, .ref q2), (1, .ref q1), (0, .ref b)] [.int r_11] (A_12 ++ B) k_14 n_15
  refine mp_run mp_k_code_ok hF mp_tabL_ok [mp_i .pop, mp_i (.aload_n 2), mp_i (.aload_n 0), mp_i (.iload_n 3), mp_c (.iconst 1) 1, mp_i .iadd] (by decide +kernel) ?_
  refine And.intro rfl ?_
  intro z_20 h_21
  have e_22 : z_20.toInt = i.toInt + 1 := mp_add (a := i.toInt) (b := 1) h_21 rfl (by decide) (by first | exact mp_cwa1 hi0 | omega) (by first | exact mp_cwb1 h3 hi6 | omega)
  show mp_W E X 4 1161 [(3, .int i), (2, .ref q2), (1, .ref q1), (0, .ref b)] [.int z_20, .ref b, .ref q2] (A_12 ++ B) k_14 n_15
  refine mp_lsld hL (by first | exact mp_cwc1 hi0 e_22 | omega) (by first | exact mp_cwd1 hi6 e_22 | omega) (by first | exact mp_fd_ok mp_k_code_ok (by decide +kernel) | decide +kernel) (fun v_23 hv_24 => ?_)
  have e_25 := mp_xs_same hv_5 hv_24 (by first | exact e_22.trans e_3.symm | omega)
  subst e_25
  show mp_W E X 4 1162 [(3, .int i), (2, .ref q2), (1, .ref q1), (0, .ref b)] [.int v_4, .ref q2] (A_12 ++ B) k_14 n_15
  refine mp_run mp_k_code_ok hF mp_tabL_ok [mp_i (.aload_n 0), mp_i (.iload_n 3), mp_c (.iconst 2) 2, mp_i .iadd] (by decide +kernel) ?_
  intro z_26 h_27
  have e_28 : z_26.toInt = i.toInt + 2 := mp_add (a := i.toInt) (b := 2) h_27 rfl (by decide) (by first | exact mp_cwa2 hi0 | omega) (by first | exact mp_cwb2 h3 hi6 | omega)
  show mp_W E X 4 1166 [(3, .int i), (2, .ref q2), (1, .ref q1), (0, .ref b)] [.int z_26, .ref b, .int v_4, .ref q2] (A_12 ++ B) k_14 n_15
  refine mp_lsld hL (by first | exact mp_cwc2 hi0 e_28 | omega) (by first | exact mp_cwd2 hi6 e_28 | omega) (by first | exact mp_fd_ok mp_k_code_ok (by decide +kernel) | decide +kernel) (fun v_29 hv_30 => ?_)
  have e_31 := mp_xs_same hv_10 hv_30 (by first | exact e_28.trans e_8.symm | omega)
  subst e_31
  show mp_W E X 4 1167 [(3, .int i), (2, .ref q2), (1, .ref q1), (0, .ref b)] [.int v_9, .int v_4, .ref q2] (A_12 ++ B) k_14 n_15
  refine mp_swap ?_
  refine mp_cm_fallen hF v_4 v_9 hB hW hWI (by first | exact mp_fd_ok mp_k_code_ok (by decide +kernel) | decide +kernel) (by omega) (by omega) (Nat.le_of_ble_eq_true rfl) (fun r_32 A_33 l_34 k_35 n_36 hI_37 hr_38 hk_39 hn_40 => ?_)
  refine mp_swap ?_
  show mp_W E X 4 1170 [(3, .int i), (2, .ref q2), (1, .ref q1), (0, .ref b)] [.int r_32] (A_12 ++ A_33) k_35 n_36
  refine mp_run mp_k_code_ok hF mp_tabL_ok [mp_i .pop, mp_h (.goto 1047) [2218]] (by decide +kernel) ?_
  refine And.intro rfl ?_
  show mp_W E X 4 2218 [(3, .int i), (2, .ref q2), (1, .ref q1), (0, .ref b)] [] (A_12 ++ A_33) k_35 n_36
  have hl_ : l_13 = l_34 := by omega
  exact kk _ _ _ _ _ _ _ _ _ _ _ _ _ _ _ hSL hW hWI hI_16 (hl_ ▸ hI_37) (by omega) (by omega)
set_option maxHeartbeats 4000000 in
set_option maxRecDepth 100000 in
theorem mp_case_32 {E : mp_E} {X : mp_X} {b L : Nat} {xs : Nat → Int32} (hL : mp_Lw E X b L xs) (h3 : L ≤ 3072) {i : Int32} (hi0 : 0 ≤ i.toInt) (hi6 : i.toInt + 6 ≤ L) {q1 q2 : Nat} {len : Int} {sw sl mw mm : Nat → Int32} {kp : Nat → Bool} {tp : Nat → Int32} {ft fp : Int} {td : mp_TD} {it : Nat → mp_TD} {A B : va_W} {k n : Nat} (hSL : mp_SL sw sl mw mm) (hW : mp_WF td) (hWI : ∀ j : Nat, mp_WF (it j)) (hA : mp_IC E q1 len sw sl kp tp ft fp td it A) (hB : mp_IM E q2 len mw mm kp tp ft fp td it B) (hk : k + 13 ≤ 600000) (hn : n + 204 ≤ 7302250) (kk : ∀ (len2 : Int) (sw2 sl2 mw2 mm2 : Nat → Int32) (kp2 : Nat → Bool) (tp2 : Nat → Int32) (ft2 fp2 : Int) (td2 : mp_TD) (it2 : Nat → mp_TD) (A2 B2 : va_W) (k2 n2 : Nat), mp_SL sw2 sl2 mw2 mm2 → mp_WF td2 → (∀ j : Nat, mp_WF (it2 j)) → mp_IC E q1 len2 sw2 sl2 kp2 tp2 ft2 fp2 td2 it2 A2 → mp_IM E q2 len2 mw2 mm2 kp2 tp2 ft2 fp2 td2 it2 B2 → k2 ≤ k + 13 → n2 ≤ n + 204 → mp_W E X 4 2218 [(3, .int i), (2, .ref q2), (1, .ref q1), (0, .ref b)] [] (A2 ++ B2) k2 n2) : mp_W E X 4 1174 [(3, .int i), (2, .ref q2), (1, .ref q1), (0, .ref b)] [] (A ++ B) k n := by
  have hF : mp_F E X mp_ML := hL.1
  show mp_W E X 4 1174 [(3, .int i), (2, .ref q2), (1, .ref q1), (0, .ref b)] [] (A ++ B) k n
  refine mp_run mp_k_code_ok hF mp_tabL_ok [mp_i (.aload_n 1), mp_i (.aload_n 0), mp_i (.iload_n 3), mp_c (.iconst 1) 1, mp_i .iadd] (by decide +kernel) ?_
  intro z_1 h_2
  have e_3 : z_1.toInt = i.toInt + 1 := mp_add (a := i.toInt) (b := 1) h_2 rfl (by decide) (by first | exact mp_cwa1 hi0 | omega) (by first | exact mp_cwb1 h3 hi6 | omega)
  show mp_W E X 4 1179 [(3, .int i), (2, .ref q2), (1, .ref q1), (0, .ref b)] [.int z_1, .ref b, .ref q1] (A ++ B) k n
  refine mp_lsld hL (by first | exact mp_cwc1 hi0 e_3 | omega) (by first | exact mp_cwd1 hi6 e_3 | omega) (by first | exact mp_fd_ok mp_k_code_ok (by decide +kernel) | decide +kernel) (fun v_4 hv_5 => ?_)
  show mp_W E X 4 1180 [(3, .int i), (2, .ref q2), (1, .ref q1), (0, .ref b)] [.int v_4, .ref q1] (A ++ B) k n
  refine mp_run mp_k_code_ok hF mp_tabL_ok [mp_i (.aload_n 0), mp_i (.iload_n 3), mp_c (.iconst 2) 2, mp_i .iadd] (by decide +kernel) ?_
  intro z_6 h_7
  have e_8 : z_6.toInt = i.toInt + 2 := mp_add (a := i.toInt) (b := 2) h_7 rfl (by decide) (by first | exact mp_cwa2 hi0 | omega) (by first | exact mp_cwb2 h3 hi6 | omega)
  show mp_W E X 4 1184 [(3, .int i), (2, .ref q2), (1, .ref q1), (0, .ref b)] [.int z_6, .ref b, .int v_4, .ref q1] (A ++ B) k n
  refine mp_lsld hL (by first | exact mp_cwc2 hi0 e_8 | omega) (by first | exact mp_cwd2 hi6 e_8 | omega) (by first | exact mp_fd_ok mp_k_code_ok (by decide +kernel) | decide +kernel) (fun v_9 hv_10 => ?_)
  show mp_W E X 4 1185 [(3, .int i), (2, .ref q2), (1, .ref q1), (0, .ref b)] [.int v_9, .int v_4, .ref q1] (A ++ B) k n
  refine mp_cc_plans hF v_4 v_9 hA hW hWI (by first | exact mp_fd_ok mp_k_code_ok (by decide +kernel) | decide +kernel) (by omega) (by omega) (Nat.le_of_ble_eq_true rfl) (fun r_11 A_12 l_13 k_14 n_15 hI_16 hr_17 hk_18 hn_19 => ?_)
  show mp_W E X 4 1188 [(3, .int i), (2, .ref q2), (1, .ref q1), (0, .ref b)] [.long r_11] (A_12 ++ B) k_14 n_15
  refine mp_pop2l hF (by first | exact mp_fd_ok mp_k_code_ok (by decide +kernel) | decide +kernel) ?_
  show mp_W E X 4 1189 [(3, .int i), (2, .ref q2), (1, .ref q1), (0, .ref b)] [] (A_12 ++ B) k_14 n_15
  refine mp_run mp_k_code_ok hF mp_tabL_ok [mp_i (.aload_n 2), mp_i (.aload_n 0), mp_i (.iload_n 3), mp_c (.iconst 1) 1, mp_i .iadd] (by decide +kernel) ?_
  intro z_20 h_21
  have e_22 : z_20.toInt = i.toInt + 1 := mp_add (a := i.toInt) (b := 1) h_21 rfl (by decide) (by first | exact mp_cwa1 hi0 | omega) (by first | exact mp_cwb1 h3 hi6 | omega)
  show mp_W E X 4 1194 [(3, .int i), (2, .ref q2), (1, .ref q1), (0, .ref b)] [.int z_20, .ref b, .ref q2] (A_12 ++ B) k_14 n_15
  refine mp_lsld hL (by first | exact mp_cwc1 hi0 e_22 | omega) (by first | exact mp_cwd1 hi6 e_22 | omega) (by first | exact mp_fd_ok mp_k_code_ok (by decide +kernel) | decide +kernel) (fun v_23 hv_24 => ?_)
  have e_25 := mp_xs_same hv_5 hv_24 (by first | exact e_22.trans e_3.symm | omega)
  subst e_25
  show mp_W E X 4 1195 [(3, .int i), (2, .ref q2), (1, .ref q1), (0, .ref b)] [.int v_4, .ref q2] (A_12 ++ B) k_14 n_15
  refine mp_run mp_k_code_ok hF mp_tabL_ok [mp_i (.aload_n 0), mp_i (.iload_n 3), mp_c (.iconst 2) 2, mp_i .iadd] (by decide +kernel) ?_
  intro z_26 h_27
  have e_28 : z_26.toInt = i.toInt + 2 := mp_add (a := i.toInt) (b := 2) h_27 rfl (by decide) (by first | exact mp_cwa2 hi0 | omega) (by first | exact mp_cwb2 h3 hi6 | omega)
  show mp_W E X 4 1199 [(3, .int i), (2, .ref q2), (1, .ref q1), (0, .ref b)] [.int z_26, .ref b, .int v_4, .ref q2] (A_12 ++ B) k_14 n_15
  refine mp_lsld hL (by first | exact mp_cwc2 hi0 e_28 | omega) (by first | exact mp_cwd2 hi6 e_28 | omega) (by first | exact mp_fd_ok mp_k_code_ok (by decide +kernel) | decide +kernel) (fun v_29 hv_30 => ?_)
  have e_31 := mp_xs_same hv_10 hv_30 (by first | exact e_28.trans e_8.symm | omega)
  subst e_31
  show mp_W E X 4 1200 [(3, .int i), (2, .ref q2), (1, .ref q1), (0, .ref b)] [.int v_9, .int v_4, .ref q2] (A_12 ++ B) k_14 n_15
  refine mp_swap ?_
  refine mp_cm_plans hF v_4 v_9 hB hW hWI (by first | exact mp_fd_ok mp_k_code_ok (by decide +kernel) | decide +kernel) (by omega) (by omega) (Nat.le_of_ble_eq_true rfl) (fun r_32 A_33 l_34 k_35 n_36 hI_37 hr_38 hk_39 hn_40 => ?_)
  refine mp_swap ?_
  show mp_W E X 4 1203 [(3, .int i), (2, .ref q2), (1, .ref q1), (0, .ref b)] [.long r_32] (A_12 ++ A_33) k_35 n_36
  refine mp_pop2l hF (by first | exact mp_fd_ok mp_k_code_ok (by decide +kernel) | decide +kernel) ?_
  show mp_W E X 4 1204 [(3, .int i), (2, .ref q2), (1, .ref q1), (0, .ref b)] [] (A_12 ++ A_33) k_35 n_36
  refine mp_run mp_k_code_ok hF mp_tabL_ok [mp_h (.goto 1014) [2218]] (by decide +kernel) ?_
  show mp_W E X 4 2218 [(3, .int i), (2, .ref q2), (1, .ref q1), (0, .ref b)] [] (A_12 ++ A_33) k_35 n_36
  have hl_ : l_13 = l_34 := by omega
  exact kk _ _ _ _ _ _ _ _ _ _ _ _ _ _ _ hSL hW hWI hI_16 (hl_ ▸ hI_37) (by omega) (by omega)
set_option maxHeartbeats 4000000 in
set_option maxRecDepth 100000 in
theorem mp_case_33 {E : mp_E} {X : mp_X} {b L : Nat} {xs : Nat → Int32} (hL : mp_Lw E X b L xs) (h3 : L ≤ 3072) {i : Int32} (hi0 : 0 ≤ i.toInt) (hi6 : i.toInt + 6 ≤ L) {q1 q2 : Nat} {len : Int} {sw sl mw mm : Nat → Int32} {kp : Nat → Bool} {tp : Nat → Int32} {ft fp : Int} {td : mp_TD} {it : Nat → mp_TD} {A B : va_W} {k n : Nat} (hSL : mp_SL sw sl mw mm) (hW : mp_WF td) (hWI : ∀ j : Nat, mp_WF (it j)) (hA : mp_IC E q1 len sw sl kp tp ft fp td it A) (hB : mp_IM E q2 len mw mm kp tp ft fp td it B) (hk : k + 13 ≤ 600000) (hn : n + 204 ≤ 7302250) (kk : ∀ (len2 : Int) (sw2 sl2 mw2 mm2 : Nat → Int32) (kp2 : Nat → Bool) (tp2 : Nat → Int32) (ft2 fp2 : Int) (td2 : mp_TD) (it2 : Nat → mp_TD) (A2 B2 : va_W) (k2 n2 : Nat), mp_SL sw2 sl2 mw2 mm2 → mp_WF td2 → (∀ j : Nat, mp_WF (it2 j)) → mp_IC E q1 len2 sw2 sl2 kp2 tp2 ft2 fp2 td2 it2 A2 → mp_IM E q2 len2 mw2 mm2 kp2 tp2 ft2 fp2 td2 it2 B2 → k2 ≤ k + 13 → n2 ≤ n + 204 → mp_W E X 4 2218 [(3, .int i), (2, .ref q2), (1, .ref q1), (0, .ref b)] [] (A2 ++ B2) k2 n2) : mp_W E X 4 1207 [(3, .int i), (2, .ref q2), (1, .ref q1), (0, .ref b)] [] (A ++ B) k n := by
  have hF : mp_F E X mp_ML := hL.1
  show mp_W E X 4 1207 [(3, .int i), (2, .ref q2), (1, .ref q1), (0, .ref b)] [] (A ++ B) k n
  refine mp_run mp_k_code_ok hF mp_tabL_ok [mp_i (.aload_n 1), mp_i (.aload_n 0), mp_i (.iload_n 3), mp_c (.iconst 1) 1, mp_i .iadd] (by decide +kernel) ?_
  intro z_1 h_2
  have e_3 : z_1.toInt = i.toInt + 1 := mp_add (a := i.toInt) (b := 1) h_2 rfl (by decide) (by first | exact mp_cwa1 hi0 | omega) (by first | exact mp_cwb1 h3 hi6 | omega)
  show mp_W E X 4 1212 [(3, .int i), (2, .ref q2), (1, .ref q1), (0, .ref b)] [.int z_1, .ref b, .ref q1] (A ++ B) k n
  refine mp_lsld hL (by first | exact mp_cwc1 hi0 e_3 | omega) (by first | exact mp_cwd1 hi6 e_3 | omega) (by first | exact mp_fd_ok mp_k_code_ok (by decide +kernel) | decide +kernel) (fun v_4 hv_5 => ?_)
  show mp_W E X 4 1213 [(3, .int i), (2, .ref q2), (1, .ref q1), (0, .ref b)] [.int v_4, .ref q1] (A ++ B) k n
  refine mp_run mp_k_code_ok hF mp_tabL_ok [mp_i (.aload_n 0), mp_i (.iload_n 3), mp_c (.iconst 2) 2, mp_i .iadd] (by decide +kernel) ?_
  intro z_6 h_7
  have e_8 : z_6.toInt = i.toInt + 2 := mp_add (a := i.toInt) (b := 2) h_7 rfl (by decide) (by first | exact mp_cwa2 hi0 | omega) (by first | exact mp_cwb2 h3 hi6 | omega)
  show mp_W E X 4 1217 [(3, .int i), (2, .ref q2), (1, .ref q1), (0, .ref b)] [.int z_6, .ref b, .int v_4, .ref q1] (A ++ B) k n
  refine mp_lsld hL (by first | exact mp_cwc2 hi0 e_8 | omega) (by first | exact mp_cwd2 hi6 e_8 | omega) (by first | exact mp_fd_ok mp_k_code_ok (by decide +kernel) | decide +kernel) (fun v_9 hv_10 => ?_)
  show mp_W E X 4 1218 [(3, .int i), (2, .ref q2), (1, .ref q1), (0, .ref b)] [.int v_9, .int v_4, .ref q1] (A ++ B) k n
  refine mp_run mp_k_code_ok hF mp_tabL_ok [mp_i (.aload_n 0), mp_i (.iload_n 3), mp_c (.iconst 3) 3, mp_i .iadd] (by decide +kernel) ?_
  intro z_11 h_12
  have e_13 : z_11.toInt = i.toInt + 3 := mp_add (a := i.toInt) (b := 3) h_12 rfl (by decide) (by first | exact mp_cwa3 hi0 | omega) (by first | exact mp_cwb3 h3 hi6 | omega)
  show mp_W E X 4 1222 [(3, .int i), (2, .ref q2), (1, .ref q1), (0, .ref b)] [.int z_11, .ref b, .int v_9, .int v_4, .ref q1] (A ++ B) k n
  refine mp_lsld hL (by first | exact mp_cwc3 hi0 e_13 | omega) (by first | exact mp_cwd3 hi6 e_13 | omega) (by first | exact mp_fd_ok mp_k_code_ok (by decide +kernel) | decide +kernel) (fun v_14 hv_15 => ?_)
  show mp_W E X 4 1223 [(3, .int i), (2, .ref q2), (1, .ref q1), (0, .ref b)] [.int v_14, .int v_9, .int v_4, .ref q1] (A ++ B) k n
  refine mp_cc_love hF v_4 v_9 v_14 hA hW hWI (by first | exact mp_fd_ok mp_k_code_ok (by decide +kernel) | decide +kernel) (by omega) (by omega) (Nat.le_of_ble_eq_true rfl) (fun r_16 A_17 l_18 k_19 n_20 hI_21 hr_22 hk_23 hn_24 => ?_)
  show mp_W E X 4 1226 [(3, .int i), (2, .ref q2), (1, .ref q1), (0, .ref b)] [.int r_16] (A_17 ++ B) k_19 n_20
  refine mp_run mp_k_code_ok hF mp_tabL_ok [mp_i .pop, mp_i (.aload_n 2), mp_i (.aload_n 0), mp_i (.iload_n 3), mp_c (.iconst 1) 1, mp_i .iadd] (by decide +kernel) ?_
  refine And.intro rfl ?_
  intro z_25 h_26
  have e_27 : z_25.toInt = i.toInt + 1 := mp_add (a := i.toInt) (b := 1) h_26 rfl (by decide) (by first | exact mp_cwa1 hi0 | omega) (by first | exact mp_cwb1 h3 hi6 | omega)
  show mp_W E X 4 1232 [(3, .int i), (2, .ref q2), (1, .ref q1), (0, .ref b)] [.int z_25, .ref b, .ref q2] (A_17 ++ B) k_19 n_20
  refine mp_lsld hL (by first | exact mp_cwc1 hi0 e_27 | omega) (by first | exact mp_cwd1 hi6 e_27 | omega) (by first | exact mp_fd_ok mp_k_code_ok (by decide +kernel) | decide +kernel) (fun v_28 hv_29 => ?_)
  have e_30 := mp_xs_same hv_5 hv_29 (by first | exact e_27.trans e_3.symm | omega)
  subst e_30
  show mp_W E X 4 1233 [(3, .int i), (2, .ref q2), (1, .ref q1), (0, .ref b)] [.int v_4, .ref q2] (A_17 ++ B) k_19 n_20
  refine mp_run mp_k_code_ok hF mp_tabL_ok [mp_i (.aload_n 0), mp_i (.iload_n 3), mp_c (.iconst 2) 2, mp_i .iadd] (by decide +kernel) ?_
  intro z_31 h_32
  have e_33 : z_31.toInt = i.toInt + 2 := mp_add (a := i.toInt) (b := 2) h_32 rfl (by decide) (by first | exact mp_cwa2 hi0 | omega) (by first | exact mp_cwb2 h3 hi6 | omega)
  show mp_W E X 4 1237 [(3, .int i), (2, .ref q2), (1, .ref q1), (0, .ref b)] [.int z_31, .ref b, .int v_4, .ref q2] (A_17 ++ B) k_19 n_20
  refine mp_lsld hL (by first | exact mp_cwc2 hi0 e_33 | omega) (by first | exact mp_cwd2 hi6 e_33 | omega) (by first | exact mp_fd_ok mp_k_code_ok (by decide +kernel) | decide +kernel) (fun v_34 hv_35 => ?_)
  have e_36 := mp_xs_same hv_10 hv_35 (by first | exact e_33.trans e_8.symm | omega)
  subst e_36
  show mp_W E X 4 1238 [(3, .int i), (2, .ref q2), (1, .ref q1), (0, .ref b)] [.int v_9, .int v_4, .ref q2] (A_17 ++ B) k_19 n_20
  refine mp_run mp_k_code_ok hF mp_tabL_ok [mp_i (.aload_n 0), mp_i (.iload_n 3), mp_c (.iconst 3) 3, mp_i .iadd] (by decide +kernel) ?_
  intro z_37 h_38
  have e_39 : z_37.toInt = i.toInt + 3 := mp_add (a := i.toInt) (b := 3) h_38 rfl (by decide) (by first | exact mp_cwa3 hi0 | omega) (by first | exact mp_cwb3 h3 hi6 | omega)
  show mp_W E X 4 1242 [(3, .int i), (2, .ref q2), (1, .ref q1), (0, .ref b)] [.int z_37, .ref b, .int v_9, .int v_4, .ref q2] (A_17 ++ B) k_19 n_20
  refine mp_lsld hL (by first | exact mp_cwc3 hi0 e_39 | omega) (by first | exact mp_cwd3 hi6 e_39 | omega) (by first | exact mp_fd_ok mp_k_code_ok (by decide +kernel) | decide +kernel) (fun v_40 hv_41 => ?_)
  have e_42 := mp_xs_same hv_15 hv_41 (by first | exact e_39.trans e_13.symm | omega)
  subst e_42
  show mp_W E X 4 1243 [(3, .int i), (2, .ref q2), (1, .ref q1), (0, .ref b)] [.int v_14, .int v_9, .int v_4, .ref q2] (A_17 ++ B) k_19 n_20
  refine mp_swap ?_
  refine mp_cm_love hF v_4 v_9 v_14 hB hW hWI (by first | exact mp_fd_ok mp_k_code_ok (by decide +kernel) | decide +kernel) (by omega) (by omega) (Nat.le_of_ble_eq_true rfl) (fun r_43 A_44 l_45 k_46 n_47 hI_48 hr_49 hk_50 hn_51 => ?_)
  refine mp_swap ?_
  show mp_W E X 4 1246 [(3, .int i), (2, .ref q2), (1, .ref q1), (0, .ref b)] [.int r_43] (A_17 ++ A_44) k_46 n_47
  refine mp_run mp_k_code_ok hF mp_tabL_ok [mp_i .pop, mp_h (.goto 971) [2218]] (by decide +kernel) ?_
  refine And.intro rfl ?_
  show mp_W E X 4 2218 [(3, .int i), (2, .ref q2), (1, .ref q1), (0, .ref b)] [] (A_17 ++ A_44) k_46 n_47
  have hl_ : l_18 = l_45 := by omega
  exact kk _ _ _ _ _ _ _ _ _ _ _ _ _ _ _ hSL hW hWI hI_21 (hl_ ▸ hI_48) (by omega) (by omega)
set_option maxHeartbeats 4000000 in
set_option maxRecDepth 100000 in
theorem mp_case_34 {E : mp_E} {X : mp_X} {b L : Nat} {xs : Nat → Int32} (hL : mp_Lw E X b L xs) (h3 : L ≤ 3072) {i : Int32} (hi0 : 0 ≤ i.toInt) (hi6 : i.toInt + 6 ≤ L) {q1 q2 : Nat} {len : Int} {sw sl mw mm : Nat → Int32} {kp : Nat → Bool} {tp : Nat → Int32} {ft fp : Int} {td : mp_TD} {it : Nat → mp_TD} {A B : va_W} {k n : Nat} (hSL : mp_SL sw sl mw mm) (hW : mp_WF td) (hWI : ∀ j : Nat, mp_WF (it j)) (hA : mp_IC E q1 len sw sl kp tp ft fp td it A) (hB : mp_IM E q2 len mw mm kp tp ft fp td it B) (hk : k + 13 ≤ 600000) (hn : n + 204 ≤ 7302250) (kk : ∀ (len2 : Int) (sw2 sl2 mw2 mm2 : Nat → Int32) (kp2 : Nat → Bool) (tp2 : Nat → Int32) (ft2 fp2 : Int) (td2 : mp_TD) (it2 : Nat → mp_TD) (A2 B2 : va_W) (k2 n2 : Nat), mp_SL sw2 sl2 mw2 mm2 → mp_WF td2 → (∀ j : Nat, mp_WF (it2 j)) → mp_IC E q1 len2 sw2 sl2 kp2 tp2 ft2 fp2 td2 it2 A2 → mp_IM E q2 len2 mw2 mm2 kp2 tp2 ft2 fp2 td2 it2 B2 → k2 ≤ k + 13 → n2 ≤ n + 204 → mp_W E X 4 2218 [(3, .int i), (2, .ref q2), (1, .ref q1), (0, .ref b)] [] (A2 ++ B2) k2 n2) : mp_W E X 4 1250 [(3, .int i), (2, .ref q2), (1, .ref q1), (0, .ref b)] [] (A ++ B) k n := by
  have hF : mp_F E X mp_ML := hL.1
  show mp_W E X 4 1250 [(3, .int i), (2, .ref q2), (1, .ref q1), (0, .ref b)] [] (A ++ B) k n
  refine mp_run mp_k_code_ok hF mp_tabL_ok [mp_i (.aload_n 1), mp_i (.aload_n 0), mp_i (.iload_n 3), mp_c (.iconst 1) 1, mp_i .iadd] (by decide +kernel) ?_
  intro z_1 h_2
  have e_3 : z_1.toInt = i.toInt + 1 := mp_add (a := i.toInt) (b := 1) h_2 rfl (by decide) (by first | exact mp_cwa1 hi0 | omega) (by first | exact mp_cwb1 h3 hi6 | omega)
  show mp_W E X 4 1255 [(3, .int i), (2, .ref q2), (1, .ref q1), (0, .ref b)] [.int z_1, .ref b, .ref q1] (A ++ B) k n
  refine mp_lsld hL (by first | exact mp_cwc1 hi0 e_3 | omega) (by first | exact mp_cwd1 hi6 e_3 | omega) (by first | exact mp_fd_ok mp_k_code_ok (by decide +kernel) | decide +kernel) (fun v_4 hv_5 => ?_)
  show mp_W E X 4 1256 [(3, .int i), (2, .ref q2), (1, .ref q1), (0, .ref b)] [.int v_4, .ref q1] (A ++ B) k n
  refine mp_run mp_k_code_ok hF mp_tabL_ok [mp_i (.aload_n 0), mp_i (.iload_n 3), mp_c (.iconst 2) 2, mp_i .iadd] (by decide +kernel) ?_
  intro z_6 h_7
  have e_8 : z_6.toInt = i.toInt + 2 := mp_add (a := i.toInt) (b := 2) h_7 rfl (by decide) (by first | exact mp_cwa2 hi0 | omega) (by first | exact mp_cwb2 h3 hi6 | omega)
  show mp_W E X 4 1260 [(3, .int i), (2, .ref q2), (1, .ref q1), (0, .ref b)] [.int z_6, .ref b, .int v_4, .ref q1] (A ++ B) k n
  refine mp_lsld hL (by first | exact mp_cwc2 hi0 e_8 | omega) (by first | exact mp_cwd2 hi6 e_8 | omega) (by first | exact mp_fd_ok mp_k_code_ok (by decide +kernel) | decide +kernel) (fun v_9 hv_10 => ?_)
  show mp_W E X 4 1261 [(3, .int i), (2, .ref q2), (1, .ref q1), (0, .ref b)] [.int v_9, .int v_4, .ref q1] (A ++ B) k n
  refine mp_run mp_k_code_ok hF mp_tabL_ok [mp_i (.aload_n 0), mp_i (.iload_n 3), mp_c (.iconst 3) 3, mp_i .iadd] (by decide +kernel) ?_
  intro z_11 h_12
  have e_13 : z_11.toInt = i.toInt + 3 := mp_add (a := i.toInt) (b := 3) h_12 rfl (by decide) (by first | exact mp_cwa3 hi0 | omega) (by first | exact mp_cwb3 h3 hi6 | omega)
  show mp_W E X 4 1265 [(3, .int i), (2, .ref q2), (1, .ref q1), (0, .ref b)] [.int z_11, .ref b, .int v_9, .int v_4, .ref q1] (A ++ B) k n
  refine mp_lsld hL (by first | exact mp_cwc3 hi0 e_13 | omega) (by first | exact mp_cwd3 hi6 e_13 | omega) (by first | exact mp_fd_ok mp_k_code_ok (by decide +kernel) | decide +kernel) (fun v_14 hv_15 => ?_)
  show mp_W E X 4 1266 [(3, .int i), (2, .ref q2), (1, .ref q1), (0, .ref b)] [.int v_14, .int v_9, .int v_4, .ref q1] (A ++ B) k n
  refine mp_cc_when hF v_4 v_9 v_14 hA hW hWI (by first | exact mp_fd_ok mp_k_code_ok (by decide +kernel) | decide +kernel) (by omega) (by omega) (Nat.le_of_ble_eq_true rfl) (fun r_16 A_17 l_18 k_19 n_20 hI_21 hr_22 hk_23 hn_24 => ?_)
  show mp_W E X 4 1269 [(3, .int i), (2, .ref q2), (1, .ref q1), (0, .ref b)] [.int r_16] (A_17 ++ B) k_19 n_20
  refine mp_run mp_k_code_ok hF mp_tabL_ok [mp_i .pop, mp_i (.aload_n 2), mp_i (.aload_n 0), mp_i (.iload_n 3), mp_c (.iconst 1) 1, mp_i .iadd] (by decide +kernel) ?_
  refine And.intro rfl ?_
  intro z_25 h_26
  have e_27 : z_25.toInt = i.toInt + 1 := mp_add (a := i.toInt) (b := 1) h_26 rfl (by decide) (by first | exact mp_cwa1 hi0 | omega) (by first | exact mp_cwb1 h3 hi6 | omega)
  show mp_W E X 4 1275 [(3, .int i), (2, .ref q2), (1, .ref q1), (0, .ref b)] [.int z_25, .ref b, .ref q2] (A_17 ++ B) k_19 n_20
  refine mp_lsld hL (by first | exact mp_cwc1 hi0 e_27 | omega) (by first | exact mp_cwd1 hi6 e_27 | omega) (by first | exact mp_fd_ok mp_k_code_ok (by decide +kernel) | decide +kernel) (fun v_28 hv_29 => ?_)
  have e_30 := mp_xs_same hv_5 hv_29 (by first | exact e_27.trans e_3.symm | omega)
  subst e_30
  show mp_W E X 4 1276 [(3, .int i), (2, .ref q2), (1, .ref q1), (0, .ref b)] [.int v_4, .ref q2] (A_17 ++ B) k_19 n_20
  refine mp_run mp_k_code_ok hF mp_tabL_ok [mp_i (.aload_n 0), mp_i (.iload_n 3), mp_c (.iconst 2) 2, mp_i .iadd] (by decide +kernel) ?_
  intro z_31 h_32
  have e_33 : z_31.toInt = i.toInt + 2 := mp_add (a := i.toInt) (b := 2) h_32 rfl (by decide) (by first | exact mp_cwa2 hi0 | omega) (by first | exact mp_cwb2 h3 hi6 | omega)
  show mp_W E X 4 1280 [(3, .int i), (2, .ref q2), (1, .ref q1), (0, .ref b)] [.int z_31, .ref b, .int v_4, .ref q2] (A_17 ++ B) k_19 n_20
  refine mp_lsld hL (by first | exact mp_cwc2 hi0 e_33 | omega) (by first | exact mp_cwd2 hi6 e_33 | omega) (by first | exact mp_fd_ok mp_k_code_ok (by decide +kernel) | decide +kernel) (fun v_34 hv_35 => ?_)
  have e_36 := mp_xs_same hv_10 hv_35 (by first | exact e_33.trans e_8.symm | omega)
  subst e_36
  show mp_W E X 4 1281 [(3, .int i), (2, .ref q2), (1, .ref q1), (0, .ref b)] [.int v_9, .int v_4, .ref q2] (A_17 ++ B) k_19 n_20
  refine mp_run mp_k_code_ok hF mp_tabL_ok [mp_i (.aload_n 0), mp_i (.iload_n 3), mp_c (.iconst 3) 3, mp_i .iadd] (by decide +kernel) ?_
  intro z_37 h_38
  have e_39 : z_37.toInt = i.toInt + 3 := mp_add (a := i.toInt) (b := 3) h_38 rfl (by decide) (by first | exact mp_cwa3 hi0 | omega) (by first | exact mp_cwb3 h3 hi6 | omega)
  show mp_W E X 4 1285 [(3, .int i), (2, .ref q2), (1, .ref q1), (0, .ref b)] [.int z_37, .ref b, .int v_9, .int v_4, .ref q2] (A_17 ++ B) k_19 n_20
  refine mp_lsld hL (by first | exact mp_cwc3 hi0 e_39 | omega) (by first | exact mp_cwd3 hi6 e_39 | omega) (by first | exact mp_fd_ok mp_k_code_ok (by decide +kernel) | decide +kernel) (fun v_40 hv_41 => ?_)
  have e_42 := mp_xs_same hv_15 hv_41 (by first | exact e_39.trans e_13.symm | omega)
  subst e_42
  show mp_W E X 4 1286 [(3, .int i), (2, .ref q2), (1, .ref q1), (0, .ref b)] [.int v_14, .int v_9, .int v_4, .ref q2] (A_17 ++ B) k_19 n_20
  refine mp_swap ?_
  refine mp_cm_when hF v_4 v_9 v_14 hB hW hWI (by first | exact mp_fd_ok mp_k_code_ok (by decide +kernel) | decide +kernel) (by omega) (by omega) (Nat.le_of_ble_eq_true rfl) (fun r_43 A_44 l_45 k_46 n_47 hI_48 hr_49 hk_50 hn_51 => ?_)
  refine mp_swap ?_
  show mp_W E X 4 1289 [(3, .int i), (2, .ref q2), (1, .ref q1), (0, .ref b)] [.int r_43] (A_17 ++ A_44) k_46 n_47
  refine mp_run mp_k_code_ok hF mp_tabL_ok [mp_i .pop, mp_h (.goto 928) [2218]] (by decide +kernel) ?_
  refine And.intro rfl ?_
  show mp_W E X 4 2218 [(3, .int i), (2, .ref q2), (1, .ref q1), (0, .ref b)] [] (A_17 ++ A_44) k_46 n_47
  have hl_ : l_18 = l_45 := by omega
  exact kk _ _ _ _ _ _ _ _ _ _ _ _ _ _ _ hSL hW hWI hI_21 (hl_ ▸ hI_48) (by omega) (by omega)
set_option maxHeartbeats 4000000 in
set_option maxRecDepth 100000 in
theorem mp_case_35 {E : mp_E} {X : mp_X} {b L : Nat} {xs : Nat → Int32} (hL : mp_Lw E X b L xs) (h3 : L ≤ 3072) {i : Int32} (hi0 : 0 ≤ i.toInt) (hi6 : i.toInt + 6 ≤ L) {q1 q2 : Nat} {len : Int} {sw sl mw mm : Nat → Int32} {kp : Nat → Bool} {tp : Nat → Int32} {ft fp : Int} {td : mp_TD} {it : Nat → mp_TD} {A B : va_W} {k n : Nat} (hSL : mp_SL sw sl mw mm) (hW : mp_WF td) (hWI : ∀ j : Nat, mp_WF (it j)) (hA : mp_IC E q1 len sw sl kp tp ft fp td it A) (hB : mp_IM E q2 len mw mm kp tp ft fp td it B) (hk : k + 13 ≤ 600000) (hn : n + 204 ≤ 7302250) (kk : ∀ (len2 : Int) (sw2 sl2 mw2 mm2 : Nat → Int32) (kp2 : Nat → Bool) (tp2 : Nat → Int32) (ft2 fp2 : Int) (td2 : mp_TD) (it2 : Nat → mp_TD) (A2 B2 : va_W) (k2 n2 : Nat), mp_SL sw2 sl2 mw2 mm2 → mp_WF td2 → (∀ j : Nat, mp_WF (it2 j)) → mp_IC E q1 len2 sw2 sl2 kp2 tp2 ft2 fp2 td2 it2 A2 → mp_IM E q2 len2 mw2 mm2 kp2 tp2 ft2 fp2 td2 it2 B2 → k2 ≤ k + 13 → n2 ≤ n + 204 → mp_W E X 4 2218 [(3, .int i), (2, .ref q2), (1, .ref q1), (0, .ref b)] [] (A2 ++ B2) k2 n2) : mp_W E X 4 1293 [(3, .int i), (2, .ref q2), (1, .ref q1), (0, .ref b)] [] (A ++ B) k n := by
  have hF : mp_F E X mp_ML := hL.1
  show mp_W E X 4 1293 [(3, .int i), (2, .ref q2), (1, .ref q1), (0, .ref b)] [] (A ++ B) k n
  refine mp_run mp_k_code_ok hF mp_tabL_ok [mp_i (.aload_n 1), mp_i (.aload_n 0), mp_i (.iload_n 3), mp_c (.iconst 1) 1, mp_i .iadd] (by decide +kernel) ?_
  intro z_1 h_2
  have e_3 : z_1.toInt = i.toInt + 1 := mp_add (a := i.toInt) (b := 1) h_2 rfl (by decide) (by first | exact mp_cwa1 hi0 | omega) (by first | exact mp_cwb1 h3 hi6 | omega)
  show mp_W E X 4 1298 [(3, .int i), (2, .ref q2), (1, .ref q1), (0, .ref b)] [.int z_1, .ref b, .ref q1] (A ++ B) k n
  refine mp_lsld hL (by first | exact mp_cwc1 hi0 e_3 | omega) (by first | exact mp_cwd1 hi6 e_3 | omega) (by first | exact mp_fd_ok mp_k_code_ok (by decide +kernel) | decide +kernel) (fun v_4 hv_5 => ?_)
  show mp_W E X 4 1299 [(3, .int i), (2, .ref q2), (1, .ref q1), (0, .ref b)] [.int v_4, .ref q1] (A ++ B) k n
  refine mp_run mp_k_code_ok hF mp_tabL_ok [mp_i (.aload_n 0), mp_i (.iload_n 3), mp_c (.iconst 2) 2, mp_i .iadd] (by decide +kernel) ?_
  intro z_6 h_7
  have e_8 : z_6.toInt = i.toInt + 2 := mp_add (a := i.toInt) (b := 2) h_7 rfl (by decide) (by first | exact mp_cwa2 hi0 | omega) (by first | exact mp_cwb2 h3 hi6 | omega)
  show mp_W E X 4 1303 [(3, .int i), (2, .ref q2), (1, .ref q1), (0, .ref b)] [.int z_6, .ref b, .int v_4, .ref q1] (A ++ B) k n
  refine mp_lsld hL (by first | exact mp_cwc2 hi0 e_8 | omega) (by first | exact mp_cwd2 hi6 e_8 | omega) (by first | exact mp_fd_ok mp_k_code_ok (by decide +kernel) | decide +kernel) (fun v_9 hv_10 => ?_)
  show mp_W E X 4 1304 [(3, .int i), (2, .ref q2), (1, .ref q1), (0, .ref b)] [.int v_9, .int v_4, .ref q1] (A ++ B) k n
  refine mp_cc_joins hF v_4 v_9 hA hW hWI (by first | exact mp_fd_ok mp_k_code_ok (by decide +kernel) | decide +kernel) (by omega) (by omega) (Nat.le_of_ble_eq_true rfl) (fun r_11 A_12 l_13 k_14 n_15 hI_16 hr_17 hk_18 hn_19 => ?_)
  show mp_W E X 4 1307 [(3, .int i), (2, .ref q2), (1, .ref q1), (0, .ref b)] [.int r_11] (A_12 ++ B) k_14 n_15
  refine mp_run mp_k_code_ok hF mp_tabL_ok [mp_i .pop, mp_i (.aload_n 2), mp_i (.aload_n 0), mp_i (.iload_n 3), mp_c (.iconst 1) 1, mp_i .iadd] (by decide +kernel) ?_
  refine And.intro rfl ?_
  intro z_20 h_21
  have e_22 : z_20.toInt = i.toInt + 1 := mp_add (a := i.toInt) (b := 1) h_21 rfl (by decide) (by first | exact mp_cwa1 hi0 | omega) (by first | exact mp_cwb1 h3 hi6 | omega)
  show mp_W E X 4 1313 [(3, .int i), (2, .ref q2), (1, .ref q1), (0, .ref b)] [.int z_20, .ref b, .ref q2] (A_12 ++ B) k_14 n_15
  refine mp_lsld hL (by first | exact mp_cwc1 hi0 e_22 | omega) (by first | exact mp_cwd1 hi6 e_22 | omega) (by first | exact mp_fd_ok mp_k_code_ok (by decide +kernel) | decide +kernel) (fun v_23 hv_24 => ?_)
  have e_25 := mp_xs_same hv_5 hv_24 (by first | exact e_22.trans e_3.symm | omega)
  subst e_25
  show mp_W E X 4 1314 [(3, .int i), (2, .ref q2), (1, .ref q1), (0, .ref b)] [.int v_4, .ref q2] (A_12 ++ B) k_14 n_15
  refine mp_run mp_k_code_ok hF mp_tabL_ok [mp_i (.aload_n 0), mp_i (.iload_n 3), mp_c (.iconst 2) 2, mp_i .iadd] (by decide +kernel) ?_
  intro z_26 h_27
  have e_28 : z_26.toInt = i.toInt + 2 := mp_add (a := i.toInt) (b := 2) h_27 rfl (by decide) (by first | exact mp_cwa2 hi0 | omega) (by first | exact mp_cwb2 h3 hi6 | omega)
  show mp_W E X 4 1318 [(3, .int i), (2, .ref q2), (1, .ref q1), (0, .ref b)] [.int z_26, .ref b, .int v_4, .ref q2] (A_12 ++ B) k_14 n_15
  refine mp_lsld hL (by first | exact mp_cwc2 hi0 e_28 | omega) (by first | exact mp_cwd2 hi6 e_28 | omega) (by first | exact mp_fd_ok mp_k_code_ok (by decide +kernel) | decide +kernel) (fun v_29 hv_30 => ?_)
  have e_31 := mp_xs_same hv_10 hv_30 (by first | exact e_28.trans e_8.symm | omega)
  subst e_31
  show mp_W E X 4 1319 [(3, .int i), (2, .ref q2), (1, .ref q1), (0, .ref b)] [.int v_9, .int v_4, .ref q2] (A_12 ++ B) k_14 n_15
  refine mp_swap ?_
  refine mp_cm_joins hF v_4 v_9 hB hW hWI (by first | exact mp_fd_ok mp_k_code_ok (by decide +kernel) | decide +kernel) (by omega) (by omega) (Nat.le_of_ble_eq_true rfl) (fun r_32 A_33 l_34 k_35 n_36 hI_37 hr_38 hk_39 hn_40 => ?_)
  refine mp_swap ?_
  show mp_W E X 4 1322 [(3, .int i), (2, .ref q2), (1, .ref q1), (0, .ref b)] [.int r_32] (A_12 ++ A_33) k_35 n_36
  refine mp_run mp_k_code_ok hF mp_tabL_ok [mp_i .pop, mp_h (.goto 895) [2218]] (by decide +kernel) ?_
  refine And.intro rfl ?_
  show mp_W E X 4 2218 [(3, .int i), (2, .ref q2), (1, .ref q1), (0, .ref b)] [] (A_12 ++ A_33) k_35 n_36
  have hl_ : l_13 = l_34 := by omega
  exact kk _ _ _ _ _ _ _ _ _ _ _ _ _ _ _ hSL hW hWI hI_16 (hl_ ▸ hI_37) (by omega) (by omega)
set_option maxHeartbeats 4000000 in
set_option maxRecDepth 100000 in
theorem mp_case_36 {E : mp_E} {X : mp_X} {b L : Nat} {xs : Nat → Int32} (hL : mp_Lw E X b L xs) (h3 : L ≤ 3072) {i : Int32} (hi0 : 0 ≤ i.toInt) (hi6 : i.toInt + 6 ≤ L) {q1 q2 : Nat} {len : Int} {sw sl mw mm : Nat → Int32} {kp : Nat → Bool} {tp : Nat → Int32} {ft fp : Int} {td : mp_TD} {it : Nat → mp_TD} {A B : va_W} {k n : Nat} (hSL : mp_SL sw sl mw mm) (hW : mp_WF td) (hWI : ∀ j : Nat, mp_WF (it j)) (hA : mp_IC E q1 len sw sl kp tp ft fp td it A) (hB : mp_IM E q2 len mw mm kp tp ft fp td it B) (hk : k + 13 ≤ 600000) (hn : n + 204 ≤ 7302250) (kk : ∀ (len2 : Int) (sw2 sl2 mw2 mm2 : Nat → Int32) (kp2 : Nat → Bool) (tp2 : Nat → Int32) (ft2 fp2 : Int) (td2 : mp_TD) (it2 : Nat → mp_TD) (A2 B2 : va_W) (k2 n2 : Nat), mp_SL sw2 sl2 mw2 mm2 → mp_WF td2 → (∀ j : Nat, mp_WF (it2 j)) → mp_IC E q1 len2 sw2 sl2 kp2 tp2 ft2 fp2 td2 it2 A2 → mp_IM E q2 len2 mw2 mm2 kp2 tp2 ft2 fp2 td2 it2 B2 → k2 ≤ k + 13 → n2 ≤ n + 204 → mp_W E X 4 2218 [(3, .int i), (2, .ref q2), (1, .ref q1), (0, .ref b)] [] (A2 ++ B2) k2 n2) : mp_W E X 4 1326 [(3, .int i), (2, .ref q2), (1, .ref q1), (0, .ref b)] [] (A ++ B) k n := by
  have hF : mp_F E X mp_ML := hL.1
  show mp_W E X 4 1326 [(3, .int i), (2, .ref q2), (1, .ref q1), (0, .ref b)] [] (A ++ B) k n
  refine mp_run mp_k_code_ok hF mp_tabL_ok [mp_i (.aload_n 1)] (by decide +kernel) ?_
  show mp_W E X 4 1327 [(3, .int i), (2, .ref q2), (1, .ref q1), (0, .ref b)] [.ref q1] (A ++ B) k n
  refine mp_cc_joined hF  hA hW hWI (by first | exact mp_fd_ok mp_k_code_ok (by decide +kernel) | decide +kernel) (by omega) (by omega) (Nat.le_of_ble_eq_true rfl) (fun r_1 A_2 l_3 k_4 n_5 hI_6 hr_7 hk_8 hn_9 => ?_)
  show mp_W E X 4 1330 [(3, .int i), (2, .ref q2), (1, .ref q1), (0, .ref b)] [.int r_1] (A_2 ++ B) k_4 n_5
  refine mp_run mp_k_code_ok hF mp_tabL_ok [mp_i .pop, mp_i (.aload_n 2)] (by decide +kernel) ?_
  refine And.intro rfl ?_
  show mp_W E X 4 1332 [(3, .int i), (2, .ref q2), (1, .ref q1), (0, .ref b)] [.ref q2] (A_2 ++ B) k_4 n_5
  refine mp_swap ?_
  refine mp_cm_joined hF  hB hW hWI (by first | exact mp_fd_ok mp_k_code_ok (by decide +kernel) | decide +kernel) (by omega) (by omega) (Nat.le_of_ble_eq_true rfl) (fun r_10 A_11 l_12 k_13 n_14 hI_15 hr_16 hk_17 hn_18 => ?_)
  refine mp_swap ?_
  show mp_W E X 4 1335 [(3, .int i), (2, .ref q2), (1, .ref q1), (0, .ref b)] [.int r_10] (A_2 ++ A_11) k_13 n_14
  refine mp_run mp_k_code_ok hF mp_tabL_ok [mp_i .pop, mp_h (.goto 882) [2218]] (by decide +kernel) ?_
  refine And.intro rfl ?_
  show mp_W E X 4 2218 [(3, .int i), (2, .ref q2), (1, .ref q1), (0, .ref b)] [] (A_2 ++ A_11) k_13 n_14
  have hl_ : l_3 = l_12 := by omega
  exact kk _ _ _ _ _ _ _ _ _ _ _ _ _ _ _ hSL hW hWI hI_6 (hl_ ▸ hI_15) (by omega) (by omega)
set_option maxHeartbeats 4000000 in
set_option maxRecDepth 100000 in
theorem mp_case_37 {E : mp_E} {X : mp_X} {b L : Nat} {xs : Nat → Int32} (hL : mp_Lw E X b L xs) (h3 : L ≤ 3072) {i : Int32} (hi0 : 0 ≤ i.toInt) (hi6 : i.toInt + 6 ≤ L) {q1 q2 : Nat} {len : Int} {sw sl mw mm : Nat → Int32} {kp : Nat → Bool} {tp : Nat → Int32} {ft fp : Int} {td : mp_TD} {it : Nat → mp_TD} {A B : va_W} {k n : Nat} (hSL : mp_SL sw sl mw mm) (hW : mp_WF td) (hWI : ∀ j : Nat, mp_WF (it j)) (hA : mp_IC E q1 len sw sl kp tp ft fp td it A) (hB : mp_IM E q2 len mw mm kp tp ft fp td it B) (hk : k + 13 ≤ 600000) (hn : n + 204 ≤ 7302250) (kk : ∀ (len2 : Int) (sw2 sl2 mw2 mm2 : Nat → Int32) (kp2 : Nat → Bool) (tp2 : Nat → Int32) (ft2 fp2 : Int) (td2 : mp_TD) (it2 : Nat → mp_TD) (A2 B2 : va_W) (k2 n2 : Nat), mp_SL sw2 sl2 mw2 mm2 → mp_WF td2 → (∀ j : Nat, mp_WF (it2 j)) → mp_IC E q1 len2 sw2 sl2 kp2 tp2 ft2 fp2 td2 it2 A2 → mp_IM E q2 len2 mw2 mm2 kp2 tp2 ft2 fp2 td2 it2 B2 → k2 ≤ k + 13 → n2 ≤ n + 204 → mp_W E X 4 2218 [(3, .int i), (2, .ref q2), (1, .ref q1), (0, .ref b)] [] (A2 ++ B2) k2 n2) : mp_W E X 4 1339 [(3, .int i), (2, .ref q2), (1, .ref q1), (0, .ref b)] [] (A ++ B) k n := by
  have hF : mp_F E X mp_ML := hL.1
  show mp_W E X 4 1339 [(3, .int i), (2, .ref q2), (1, .ref q1), (0, .ref b)] [] (A ++ B) k n
  refine mp_run mp_k_code_ok hF mp_tabL_ok [mp_i (.aload_n 1), mp_i (.aload_n 0), mp_i (.iload_n 3), mp_c (.iconst 1) 1, mp_i .iadd] (by decide +kernel) ?_
  intro z_1 h_2
  have e_3 : z_1.toInt = i.toInt + 1 := mp_add (a := i.toInt) (b := 1) h_2 rfl (by decide) (by first | exact mp_cwa1 hi0 | omega) (by first | exact mp_cwb1 h3 hi6 | omega)
  show mp_W E X 4 1344 [(3, .int i), (2, .ref q2), (1, .ref q1), (0, .ref b)] [.int z_1, .ref b, .ref q1] (A ++ B) k n
  refine mp_lsld hL (by first | exact mp_cwc1 hi0 e_3 | omega) (by first | exact mp_cwd1 hi6 e_3 | omega) (by first | exact mp_fd_ok mp_k_code_ok (by decide +kernel) | decide +kernel) (fun v_4 hv_5 => ?_)
  show mp_W E X 4 1345 [(3, .int i), (2, .ref q2), (1, .ref q1), (0, .ref b)] [.int v_4, .ref q1] (A ++ B) k n
  refine mp_cc_ring hF v_4 hA hW hWI (by first | exact mp_fd_ok mp_k_code_ok (by decide +kernel) | decide +kernel) (by omega) (by omega) (Nat.le_of_ble_eq_true rfl) (fun r_6 A_7 l_8 k_9 n_10 hI_11 hr_12 hk_13 hn_14 => ?_)
  show mp_W E X 4 1348 [(3, .int i), (2, .ref q2), (1, .ref q1), (0, .ref b)] [.int r_6] (A_7 ++ B) k_9 n_10
  refine mp_run mp_k_code_ok hF mp_tabL_ok [mp_i .pop, mp_i (.aload_n 2), mp_i (.aload_n 0), mp_i (.iload_n 3), mp_c (.iconst 1) 1, mp_i .iadd] (by decide +kernel) ?_
  refine And.intro rfl ?_
  intro z_15 h_16
  have e_17 : z_15.toInt = i.toInt + 1 := mp_add (a := i.toInt) (b := 1) h_16 rfl (by decide) (by first | exact mp_cwa1 hi0 | omega) (by first | exact mp_cwb1 h3 hi6 | omega)
  show mp_W E X 4 1354 [(3, .int i), (2, .ref q2), (1, .ref q1), (0, .ref b)] [.int z_15, .ref b, .ref q2] (A_7 ++ B) k_9 n_10
  refine mp_lsld hL (by first | exact mp_cwc1 hi0 e_17 | omega) (by first | exact mp_cwd1 hi6 e_17 | omega) (by first | exact mp_fd_ok mp_k_code_ok (by decide +kernel) | decide +kernel) (fun v_18 hv_19 => ?_)
  have e_20 := mp_xs_same hv_5 hv_19 (by first | exact e_17.trans e_3.symm | omega)
  subst e_20
  show mp_W E X 4 1355 [(3, .int i), (2, .ref q2), (1, .ref q1), (0, .ref b)] [.int v_4, .ref q2] (A_7 ++ B) k_9 n_10
  refine mp_swap ?_
  refine mp_cm_ring hF v_4 hB hW hWI (by first | exact mp_fd_ok mp_k_code_ok (by decide +kernel) | decide +kernel) (by omega) (by omega) (Nat.le_of_ble_eq_true rfl) (fun r_21 A_22 l_23 k_24 n_25 hI_26 hr_27 hk_28 hn_29 => ?_)
  refine mp_swap ?_
  show mp_W E X 4 1358 [(3, .int i), (2, .ref q2), (1, .ref q1), (0, .ref b)] [.int r_21] (A_7 ++ A_22) k_24 n_25
  refine mp_run mp_k_code_ok hF mp_tabL_ok [mp_i .pop, mp_h (.goto 859) [2218]] (by decide +kernel) ?_
  refine And.intro rfl ?_
  show mp_W E X 4 2218 [(3, .int i), (2, .ref q2), (1, .ref q1), (0, .ref b)] [] (A_7 ++ A_22) k_24 n_25
  have hl_ : l_8 = l_23 := by omega
  exact kk _ _ _ _ _ _ _ _ _ _ _ _ _ _ _ hSL hW hWI hI_11 (hl_ ▸ hI_26) (by omega) (by omega)
set_option maxHeartbeats 4000000 in
set_option maxRecDepth 100000 in
theorem mp_case_38 {E : mp_E} {X : mp_X} {b L : Nat} {xs : Nat → Int32} (hL : mp_Lw E X b L xs) (h3 : L ≤ 3072) {i : Int32} (hi0 : 0 ≤ i.toInt) (hi6 : i.toInt + 6 ≤ L) {q1 q2 : Nat} {len : Int} {sw sl mw mm : Nat → Int32} {kp : Nat → Bool} {tp : Nat → Int32} {ft fp : Int} {td : mp_TD} {it : Nat → mp_TD} {A B : va_W} {k n : Nat} (hSL : mp_SL sw sl mw mm) (hW : mp_WF td) (hWI : ∀ j : Nat, mp_WF (it j)) (hA : mp_IC E q1 len sw sl kp tp ft fp td it A) (hB : mp_IM E q2 len mw mm kp tp ft fp td it B) (hk : k + 13 ≤ 600000) (hn : n + 204 ≤ 7302250) (kk : ∀ (len2 : Int) (sw2 sl2 mw2 mm2 : Nat → Int32) (kp2 : Nat → Bool) (tp2 : Nat → Int32) (ft2 fp2 : Int) (td2 : mp_TD) (it2 : Nat → mp_TD) (A2 B2 : va_W) (k2 n2 : Nat), mp_SL sw2 sl2 mw2 mm2 → mp_WF td2 → (∀ j : Nat, mp_WF (it2 j)) → mp_IC E q1 len2 sw2 sl2 kp2 tp2 ft2 fp2 td2 it2 A2 → mp_IM E q2 len2 mw2 mm2 kp2 tp2 ft2 fp2 td2 it2 B2 → k2 ≤ k + 13 → n2 ≤ n + 204 → mp_W E X 4 2218 [(3, .int i), (2, .ref q2), (1, .ref q1), (0, .ref b)] [] (A2 ++ B2) k2 n2) : mp_W E X 4 1362 [(3, .int i), (2, .ref q2), (1, .ref q1), (0, .ref b)] [] (A ++ B) k n := by
  have hF : mp_F E X mp_ML := hL.1
  show mp_W E X 4 1362 [(3, .int i), (2, .ref q2), (1, .ref q1), (0, .ref b)] [] (A ++ B) k n
  refine mp_run mp_k_code_ok hF mp_tabL_ok [mp_i (.aload_n 1), mp_i (.aload_n 0), mp_i (.iload_n 3), mp_c (.iconst 1) 1, mp_i .iadd] (by decide +kernel) ?_
  intro z_1 h_2
  have e_3 : z_1.toInt = i.toInt + 1 := mp_add (a := i.toInt) (b := 1) h_2 rfl (by decide) (by first | exact mp_cwa1 hi0 | omega) (by first | exact mp_cwb1 h3 hi6 | omega)
  show mp_W E X 4 1367 [(3, .int i), (2, .ref q2), (1, .ref q1), (0, .ref b)] [.int z_1, .ref b, .ref q1] (A ++ B) k n
  refine mp_lsld hL (by first | exact mp_cwc1 hi0 e_3 | omega) (by first | exact mp_cwd1 hi6 e_3 | omega) (by first | exact mp_fd_ok mp_k_code_ok (by decide +kernel) | decide +kernel) (fun v_4 hv_5 => ?_)
  show mp_W E X 4 1368 [(3, .int i), (2, .ref q2), (1, .ref q1), (0, .ref b)] [.int v_4, .ref q1] (A ++ B) k n
  refine mp_run mp_k_code_ok hF mp_tabL_ok [mp_i (.aload_n 0), mp_i (.iload_n 3), mp_c (.iconst 2) 2, mp_i .iadd] (by decide +kernel) ?_
  intro z_6 h_7
  have e_8 : z_6.toInt = i.toInt + 2 := mp_add (a := i.toInt) (b := 2) h_7 rfl (by decide) (by first | exact mp_cwa2 hi0 | omega) (by first | exact mp_cwb2 h3 hi6 | omega)
  show mp_W E X 4 1372 [(3, .int i), (2, .ref q2), (1, .ref q1), (0, .ref b)] [.int z_6, .ref b, .int v_4, .ref q1] (A ++ B) k n
  refine mp_lsld hL (by first | exact mp_cwc2 hi0 e_8 | omega) (by first | exact mp_cwd2 hi6 e_8 | omega) (by first | exact mp_fd_ok mp_k_code_ok (by decide +kernel) | decide +kernel) (fun v_9 hv_10 => ?_)
  show mp_W E X 4 1373 [(3, .int i), (2, .ref q2), (1, .ref q1), (0, .ref b)] [.int v_9, .int v_4, .ref q1] (A ++ B) k n
  refine mp_cc_ringed hF v_4 v_9 hA hW hWI (by first | exact mp_fd_ok mp_k_code_ok (by decide +kernel) | decide +kernel) (by omega) (by omega) (Nat.le_of_ble_eq_true rfl) (fun r_11 A_12 l_13 k_14 n_15 hI_16 hr_17 hk_18 hn_19 => ?_)
  show mp_W E X 4 1376 [(3, .int i), (2, .ref q2), (1, .ref q1), (0, .ref b)] [.int r_11] (A_12 ++ B) k_14 n_15
  refine mp_run mp_k_code_ok hF mp_tabL_ok [mp_i .pop, mp_i (.aload_n 2), mp_i (.aload_n 0), mp_i (.iload_n 3), mp_c (.iconst 1) 1, mp_i .iadd] (by decide +kernel) ?_
  refine And.intro rfl ?_
  intro z_20 h_21
  have e_22 : z_20.toInt = i.toInt + 1 := mp_add (a := i.toInt) (b := 1) h_21 rfl (by decide) (by first | exact mp_cwa1 hi0 | omega) (by first | exact mp_cwb1 h3 hi6 | omega)
  show mp_W E X 4 1382 [(3, .int i), (2, .ref q2), (1, .ref q1), (0, .ref b)] [.int z_20, .ref b, .ref q2] (A_12 ++ B) k_14 n_15
  refine mp_lsld hL (by first | exact mp_cwc1 hi0 e_22 | omega) (by first | exact mp_cwd1 hi6 e_22 | omega) (by first | exact mp_fd_ok mp_k_code_ok (by decide +kernel) | decide +kernel) (fun v_23 hv_24 => ?_)
  have e_25 := mp_xs_same hv_5 hv_24 (by first | exact e_22.trans e_3.symm | omega)
  subst e_25
  show mp_W E X 4 1383 [(3, .int i), (2, .ref q2), (1, .ref q1), (0, .ref b)] [.int v_4, .ref q2] (A_12 ++ B) k_14 n_15
  refine mp_run mp_k_code_ok hF mp_tabL_ok [mp_i (.aload_n 0), mp_i (.iload_n 3), mp_c (.iconst 2) 2, mp_i .iadd] (by decide +kernel) ?_
  intro z_26 h_27
  have e_28 : z_26.toInt = i.toInt + 2 := mp_add (a := i.toInt) (b := 2) h_27 rfl (by decide) (by first | exact mp_cwa2 hi0 | omega) (by first | exact mp_cwb2 h3 hi6 | omega)
  show mp_W E X 4 1387 [(3, .int i), (2, .ref q2), (1, .ref q1), (0, .ref b)] [.int z_26, .ref b, .int v_4, .ref q2] (A_12 ++ B) k_14 n_15
  refine mp_lsld hL (by first | exact mp_cwc2 hi0 e_28 | omega) (by first | exact mp_cwd2 hi6 e_28 | omega) (by first | exact mp_fd_ok mp_k_code_ok (by decide +kernel) | decide +kernel) (fun v_29 hv_30 => ?_)
  have e_31 := mp_xs_same hv_10 hv_30 (by first | exact e_28.trans e_8.symm | omega)
  subst e_31
  show mp_W E X 4 1388 [(3, .int i), (2, .ref q2), (1, .ref q1), (0, .ref b)] [.int v_9, .int v_4, .ref q2] (A_12 ++ B) k_14 n_15
  refine mp_swap ?_
  refine mp_cm_ringed hF v_4 v_9 hB hW hWI (by first | exact mp_fd_ok mp_k_code_ok (by decide +kernel) | decide +kernel) (by omega) (by omega) (Nat.le_of_ble_eq_true rfl) (fun r_32 A_33 l_34 k_35 n_36 hI_37 hr_38 hk_39 hn_40 => ?_)
  refine mp_swap ?_
  show mp_W E X 4 1391 [(3, .int i), (2, .ref q2), (1, .ref q1), (0, .ref b)] [.int r_32] (A_12 ++ A_33) k_35 n_36
  refine mp_run mp_k_code_ok hF mp_tabL_ok [mp_i .pop, mp_h (.goto 826) [2218]] (by decide +kernel) ?_
  refine And.intro rfl ?_
  show mp_W E X 4 2218 [(3, .int i), (2, .ref q2), (1, .ref q1), (0, .ref b)] [] (A_12 ++ A_33) k_35 n_36
  have hl_ : l_13 = l_34 := by omega
  exact kk _ _ _ _ _ _ _ _ _ _ _ _ _ _ _ hSL hW hWI hI_16 (hl_ ▸ hI_37) (by omega) (by omega)
set_option maxHeartbeats 4000000 in
set_option maxRecDepth 100000 in
theorem mp_case_39 {E : mp_E} {X : mp_X} {b L : Nat} {xs : Nat → Int32} (hL : mp_Lw E X b L xs) (h3 : L ≤ 3072) {i : Int32} (hi0 : 0 ≤ i.toInt) (hi6 : i.toInt + 6 ≤ L) {q1 q2 : Nat} {len : Int} {sw sl mw mm : Nat → Int32} {kp : Nat → Bool} {tp : Nat → Int32} {ft fp : Int} {td : mp_TD} {it : Nat → mp_TD} {A B : va_W} {k n : Nat} (hSL : mp_SL sw sl mw mm) (hW : mp_WF td) (hWI : ∀ j : Nat, mp_WF (it j)) (hA : mp_IC E q1 len sw sl kp tp ft fp td it A) (hB : mp_IM E q2 len mw mm kp tp ft fp td it B) (hk : k + 13 ≤ 600000) (hn : n + 204 ≤ 7302250) (kk : ∀ (len2 : Int) (sw2 sl2 mw2 mm2 : Nat → Int32) (kp2 : Nat → Bool) (tp2 : Nat → Int32) (ft2 fp2 : Int) (td2 : mp_TD) (it2 : Nat → mp_TD) (A2 B2 : va_W) (k2 n2 : Nat), mp_SL sw2 sl2 mw2 mm2 → mp_WF td2 → (∀ j : Nat, mp_WF (it2 j)) → mp_IC E q1 len2 sw2 sl2 kp2 tp2 ft2 fp2 td2 it2 A2 → mp_IM E q2 len2 mw2 mm2 kp2 tp2 ft2 fp2 td2 it2 B2 → k2 ≤ k + 13 → n2 ≤ n + 204 → mp_W E X 4 2218 [(3, .int i), (2, .ref q2), (1, .ref q1), (0, .ref b)] [] (A2 ++ B2) k2 n2) : mp_W E X 4 1395 [(3, .int i), (2, .ref q2), (1, .ref q1), (0, .ref b)] [] (A ++ B) k n := by
  have hF : mp_F E X mp_ML := hL.1
  show mp_W E X 4 1395 [(3, .int i), (2, .ref q2), (1, .ref q1), (0, .ref b)] [] (A ++ B) k n
  refine mp_run mp_k_code_ok hF mp_tabL_ok [mp_i (.aload_n 1), mp_i (.aload_n 0), mp_i (.iload_n 3), mp_c (.iconst 1) 1, mp_i .iadd] (by decide +kernel) ?_
  intro z_1 h_2
  have e_3 : z_1.toInt = i.toInt + 1 := mp_add (a := i.toInt) (b := 1) h_2 rfl (by decide) (by first | exact mp_cwa1 hi0 | omega) (by first | exact mp_cwb1 h3 hi6 | omega)
  show mp_W E X 4 1400 [(3, .int i), (2, .ref q2), (1, .ref q1), (0, .ref b)] [.int z_1, .ref b, .ref q1] (A ++ B) k n
  refine mp_lsld hL (by first | exact mp_cwc1 hi0 e_3 | omega) (by first | exact mp_cwd1 hi6 e_3 | omega) (by first | exact mp_fd_ok mp_k_code_ok (by decide +kernel) | decide +kernel) (fun v_4 hv_5 => ?_)
  show mp_W E X 4 1401 [(3, .int i), (2, .ref q2), (1, .ref q1), (0, .ref b)] [.int v_4, .ref q1] (A ++ B) k n
  refine mp_run mp_k_code_ok hF mp_tabL_ok [mp_i (.aload_n 0), mp_i (.iload_n 3), mp_c (.iconst 2) 2, mp_i .iadd] (by decide +kernel) ?_
  intro z_6 h_7
  have e_8 : z_6.toInt = i.toInt + 2 := mp_add (a := i.toInt) (b := 2) h_7 rfl (by decide) (by first | exact mp_cwa2 hi0 | omega) (by first | exact mp_cwb2 h3 hi6 | omega)
  show mp_W E X 4 1405 [(3, .int i), (2, .ref q2), (1, .ref q1), (0, .ref b)] [.int z_6, .ref b, .int v_4, .ref q1] (A ++ B) k n
  refine mp_lsld hL (by first | exact mp_cwc2 hi0 e_8 | omega) (by first | exact mp_cwd2 hi6 e_8 | omega) (by first | exact mp_fd_ok mp_k_code_ok (by decide +kernel) | decide +kernel) (fun v_9 hv_10 => ?_)
  show mp_W E X 4 1406 [(3, .int i), (2, .ref q2), (1, .ref q1), (0, .ref b)] [.int v_9, .int v_4, .ref q1] (A ++ B) k n
  refine mp_run mp_k_code_ok hF mp_tabL_ok [mp_i (.aload_n 0), mp_i (.iload_n 3), mp_c (.iconst 3) 3, mp_i .iadd] (by decide +kernel) ?_
  intro z_11 h_12
  have e_13 : z_11.toInt = i.toInt + 3 := mp_add (a := i.toInt) (b := 3) h_12 rfl (by decide) (by first | exact mp_cwa3 hi0 | omega) (by first | exact mp_cwb3 h3 hi6 | omega)
  show mp_W E X 4 1410 [(3, .int i), (2, .ref q2), (1, .ref q1), (0, .ref b)] [.int z_11, .ref b, .int v_9, .int v_4, .ref q1] (A ++ B) k n
  refine mp_lsld hL (by first | exact mp_cwc3 hi0 e_13 | omega) (by first | exact mp_cwd3 hi6 e_13 | omega) (by first | exact mp_fd_ok mp_k_code_ok (by decide +kernel) | decide +kernel) (fun v_14 hv_15 => ?_)
  show mp_W E X 4 1411 [(3, .int i), (2, .ref q2), (1, .ref q1), (0, .ref b)] [.int v_14, .int v_9, .int v_4, .ref q1] (A ++ B) k n
  refine mp_run mp_k_code_ok hF mp_tabL_ok [mp_i (.aload_n 0), mp_i (.iload_n 3), mp_c (.iconst 4) 4, mp_i .iadd] (by decide +kernel) ?_
  intro z_16 h_17
  have e_18 : z_16.toInt = i.toInt + 4 := mp_add (a := i.toInt) (b := 4) h_17 rfl (by decide) (by first | exact mp_cwa4 hi0 | omega) (by first | exact mp_cwb4 h3 hi6 | omega)
  show mp_W E X 4 1415 [(3, .int i), (2, .ref q2), (1, .ref q1), (0, .ref b)] [.int z_16, .ref b, .int v_14, .int v_9, .int v_4, .ref q1] (A ++ B) k n
  refine mp_lsld hL (by first | exact mp_cwc4 hi0 e_18 | omega) (by first | exact mp_cwd4 hi6 e_18 | omega) (by first | exact mp_fd_ok mp_k_code_ok (by decide +kernel) | decide +kernel) (fun v_19 hv_20 => ?_)
  show mp_W E X 4 1416 [(3, .int i), (2, .ref q2), (1, .ref q1), (0, .ref b)] [.int v_19, .int v_14, .int v_9, .int v_4, .ref q1] (A ++ B) k n
  refine mp_cc_strikes hF v_4 v_9 v_14 v_19 hA hW hWI (by first | exact mp_fd_ok mp_k_code_ok (by decide +kernel) | decide +kernel) (by omega) (by omega) (Nat.le_of_ble_eq_true rfl) (fun r_21 A_22 l_23 k_24 n_25 hI_26 hr_27 hk_28 hn_29 => ?_)
  show mp_W E X 4 1419 [(3, .int i), (2, .ref q2), (1, .ref q1), (0, .ref b)] [.int r_21] (A_22 ++ B) k_24 n_25
  refine mp_run mp_k_code_ok hF mp_tabL_ok [mp_i .pop, mp_i (.aload_n 2), mp_i (.aload_n 0), mp_i (.iload_n 3), mp_c (.iconst 1) 1, mp_i .iadd] (by decide +kernel) ?_
  refine And.intro rfl ?_
  intro z_30 h_31
  have e_32 : z_30.toInt = i.toInt + 1 := mp_add (a := i.toInt) (b := 1) h_31 rfl (by decide) (by first | exact mp_cwa1 hi0 | omega) (by first | exact mp_cwb1 h3 hi6 | omega)
  show mp_W E X 4 1425 [(3, .int i), (2, .ref q2), (1, .ref q1), (0, .ref b)] [.int z_30, .ref b, .ref q2] (A_22 ++ B) k_24 n_25
  refine mp_lsld hL (by first | exact mp_cwc1 hi0 e_32 | omega) (by first | exact mp_cwd1 hi6 e_32 | omega) (by first | exact mp_fd_ok mp_k_code_ok (by decide +kernel) | decide +kernel) (fun v_33 hv_34 => ?_)
  have e_35 := mp_xs_same hv_5 hv_34 (by first | exact e_32.trans e_3.symm | omega)
  subst e_35
  show mp_W E X 4 1426 [(3, .int i), (2, .ref q2), (1, .ref q1), (0, .ref b)] [.int v_4, .ref q2] (A_22 ++ B) k_24 n_25
  refine mp_run mp_k_code_ok hF mp_tabL_ok [mp_i (.aload_n 0), mp_i (.iload_n 3), mp_c (.iconst 2) 2, mp_i .iadd] (by decide +kernel) ?_
  intro z_36 h_37
  have e_38 : z_36.toInt = i.toInt + 2 := mp_add (a := i.toInt) (b := 2) h_37 rfl (by decide) (by first | exact mp_cwa2 hi0 | omega) (by first | exact mp_cwb2 h3 hi6 | omega)
  show mp_W E X 4 1430 [(3, .int i), (2, .ref q2), (1, .ref q1), (0, .ref b)] [.int z_36, .ref b, .int v_4, .ref q2] (A_22 ++ B) k_24 n_25
  refine mp_lsld hL (by first | exact mp_cwc2 hi0 e_38 | omega) (by first | exact mp_cwd2 hi6 e_38 | omega) (by first | exact mp_fd_ok mp_k_code_ok (by decide +kernel) | decide +kernel) (fun v_39 hv_40 => ?_)
  have e_41 := mp_xs_same hv_10 hv_40 (by first | exact e_38.trans e_8.symm | omega)
  subst e_41
  show mp_W E X 4 1431 [(3, .int i), (2, .ref q2), (1, .ref q1), (0, .ref b)] [.int v_9, .int v_4, .ref q2] (A_22 ++ B) k_24 n_25
  refine mp_run mp_k_code_ok hF mp_tabL_ok [mp_i (.aload_n 0), mp_i (.iload_n 3), mp_c (.iconst 3) 3, mp_i .iadd] (by decide +kernel) ?_
  intro z_42 h_43
  have e_44 : z_42.toInt = i.toInt + 3 := mp_add (a := i.toInt) (b := 3) h_43 rfl (by decide) (by first | exact mp_cwa3 hi0 | omega) (by first | exact mp_cwb3 h3 hi6 | omega)
  show mp_W E X 4 1435 [(3, .int i), (2, .ref q2), (1, .ref q1), (0, .ref b)] [.int z_42, .ref b, .int v_9, .int v_4, .ref q2] (A_22 ++ B) k_24 n_25
  refine mp_lsld hL (by first | exact mp_cwc3 hi0 e_44 | omega) (by first | exact mp_cwd3 hi6 e_44 | omega) (by first | exact mp_fd_ok mp_k_code_ok (by decide +kernel) | decide +kernel) (fun v_45 hv_46 => ?_)
  have e_47 := mp_xs_same hv_15 hv_46 (by first | exact e_44.trans e_13.symm | omega)
  subst e_47
  show mp_W E X 4 1436 [(3, .int i), (2, .ref q2), (1, .ref q1), (0, .ref b)] [.int v_14, .int v_9, .int v_4, .ref q2] (A_22 ++ B) k_24 n_25
  refine mp_run mp_k_code_ok hF mp_tabL_ok [mp_i (.aload_n 0), mp_i (.iload_n 3), mp_c (.iconst 4) 4, mp_i .iadd] (by decide +kernel) ?_
  intro z_48 h_49
  have e_50 : z_48.toInt = i.toInt + 4 := mp_add (a := i.toInt) (b := 4) h_49 rfl (by decide) (by first | exact mp_cwa4 hi0 | omega) (by first | exact mp_cwb4 h3 hi6 | omega)
  show mp_W E X 4 1440 [(3, .int i), (2, .ref q2), (1, .ref q1), (0, .ref b)] [.int z_48, .ref b, .int v_14, .int v_9, .int v_4, .ref q2] (A_22 ++ B) k_24 n_25
  refine mp_lsld hL (by first | exact mp_cwc4 hi0 e_50 | omega) (by first | exact mp_cwd4 hi6 e_50 | omega) (by first | exact mp_fd_ok mp_k_code_ok (by decide +kernel) | decide +kernel) (fun v_51 hv_52 => ?_)
  have e_53 := mp_xs_same hv_20 hv_52 (by first | exact e_50.trans e_18.symm | omega)
  subst e_53
  show mp_W E X 4 1441 [(3, .int i), (2, .ref q2), (1, .ref q1), (0, .ref b)] [.int v_19, .int v_14, .int v_9, .int v_4, .ref q2] (A_22 ++ B) k_24 n_25
  refine mp_swap ?_
  refine mp_cm_strikes hF v_4 v_9 v_14 v_19 hB hW hWI (by first | exact mp_fd_ok mp_k_code_ok (by decide +kernel) | decide +kernel) (by omega) (by omega) (Nat.le_of_ble_eq_true rfl) (fun r_54 A_55 l_56 k_57 n_58 hI_59 hr_60 hk_61 hn_62 => ?_)
  refine mp_swap ?_
  show mp_W E X 4 1444 [(3, .int i), (2, .ref q2), (1, .ref q1), (0, .ref b)] [.int r_54] (A_22 ++ A_55) k_57 n_58
  refine mp_run mp_k_code_ok hF mp_tabL_ok [mp_i .pop, mp_h (.goto 773) [2218]] (by decide +kernel) ?_
  refine And.intro rfl ?_
  show mp_W E X 4 2218 [(3, .int i), (2, .ref q2), (1, .ref q1), (0, .ref b)] [] (A_22 ++ A_55) k_57 n_58
  have hl_ : l_23 = l_56 := by omega
  exact kk _ _ _ _ _ _ _ _ _ _ _ _ _ _ _ hSL hW hWI hI_26 (hl_ ▸ hI_59) (by omega) (by omega)
set_option maxHeartbeats 4000000 in
set_option maxRecDepth 100000 in
theorem mp_case_40 {E : mp_E} {X : mp_X} {b L : Nat} {xs : Nat → Int32} (hL : mp_Lw E X b L xs) (h3 : L ≤ 3072) {i : Int32} (hi0 : 0 ≤ i.toInt) (hi6 : i.toInt + 6 ≤ L) {q1 q2 : Nat} {len : Int} {sw sl mw mm : Nat → Int32} {kp : Nat → Bool} {tp : Nat → Int32} {ft fp : Int} {td : mp_TD} {it : Nat → mp_TD} {A B : va_W} {k n : Nat} (hSL : mp_SL sw sl mw mm) (hW : mp_WF td) (hWI : ∀ j : Nat, mp_WF (it j)) (hA : mp_IC E q1 len sw sl kp tp ft fp td it A) (hB : mp_IM E q2 len mw mm kp tp ft fp td it B) (hk : k + 13 ≤ 600000) (hn : n + 204 ≤ 7302250) (kk : ∀ (len2 : Int) (sw2 sl2 mw2 mm2 : Nat → Int32) (kp2 : Nat → Bool) (tp2 : Nat → Int32) (ft2 fp2 : Int) (td2 : mp_TD) (it2 : Nat → mp_TD) (A2 B2 : va_W) (k2 n2 : Nat), mp_SL sw2 sl2 mw2 mm2 → mp_WF td2 → (∀ j : Nat, mp_WF (it2 j)) → mp_IC E q1 len2 sw2 sl2 kp2 tp2 ft2 fp2 td2 it2 A2 → mp_IM E q2 len2 mw2 mm2 kp2 tp2 ft2 fp2 td2 it2 B2 → k2 ≤ k + 13 → n2 ≤ n + 204 → mp_W E X 4 2218 [(3, .int i), (2, .ref q2), (1, .ref q1), (0, .ref b)] [] (A2 ++ B2) k2 n2) : mp_W E X 4 1448 [(3, .int i), (2, .ref q2), (1, .ref q1), (0, .ref b)] [] (A ++ B) k n := by
  have hF : mp_F E X mp_ML := hL.1
  show mp_W E X 4 1448 [(3, .int i), (2, .ref q2), (1, .ref q1), (0, .ref b)] [] (A ++ B) k n
  refine mp_run mp_k_code_ok hF mp_tabL_ok [mp_i (.aload_n 1), mp_i (.aload_n 0), mp_i (.iload_n 3), mp_c (.iconst 1) 1, mp_i .iadd] (by decide +kernel) ?_
  intro z_1 h_2
  have e_3 : z_1.toInt = i.toInt + 1 := mp_add (a := i.toInt) (b := 1) h_2 rfl (by decide) (by first | exact mp_cwa1 hi0 | omega) (by first | exact mp_cwb1 h3 hi6 | omega)
  show mp_W E X 4 1453 [(3, .int i), (2, .ref q2), (1, .ref q1), (0, .ref b)] [.int z_1, .ref b, .ref q1] (A ++ B) k n
  refine mp_lsld hL (by first | exact mp_cwc1 hi0 e_3 | omega) (by first | exact mp_cwd1 hi6 e_3 | omega) (by first | exact mp_fd_ok mp_k_code_ok (by decide +kernel) | decide +kernel) (fun v_4 hv_5 => ?_)
  show mp_W E X 4 1454 [(3, .int i), (2, .ref q2), (1, .ref q1), (0, .ref b)] [.int v_4, .ref q1] (A ++ B) k n
  refine mp_run mp_k_code_ok hF mp_tabL_ok [mp_i (.aload_n 0), mp_i (.iload_n 3), mp_c (.iconst 2) 2, mp_i .iadd] (by decide +kernel) ?_
  intro z_6 h_7
  have e_8 : z_6.toInt = i.toInt + 2 := mp_add (a := i.toInt) (b := 2) h_7 rfl (by decide) (by first | exact mp_cwa2 hi0 | omega) (by first | exact mp_cwb2 h3 hi6 | omega)
  show mp_W E X 4 1458 [(3, .int i), (2, .ref q2), (1, .ref q1), (0, .ref b)] [.int z_6, .ref b, .int v_4, .ref q1] (A ++ B) k n
  refine mp_lsld hL (by first | exact mp_cwc2 hi0 e_8 | omega) (by first | exact mp_cwd2 hi6 e_8 | omega) (by first | exact mp_fd_ok mp_k_code_ok (by decide +kernel) | decide +kernel) (fun v_9 hv_10 => ?_)
  show mp_W E X 4 1459 [(3, .int i), (2, .ref q2), (1, .ref q1), (0, .ref b)] [.int v_9, .int v_4, .ref q1] (A ++ B) k n
  refine mp_cc_weighed hF v_4 v_9 hA hW hWI (by first | exact mp_fd_ok mp_k_code_ok (by decide +kernel) | decide +kernel) (by omega) (by omega) (Nat.le_of_ble_eq_true rfl) (fun r_11 A_12 l_13 k_14 n_15 hI_16 hr_17 hk_18 hn_19 => ?_)
  show mp_W E X 4 1462 [(3, .int i), (2, .ref q2), (1, .ref q1), (0, .ref b)] [.int r_11] (A_12 ++ B) k_14 n_15
  refine mp_run mp_k_code_ok hF mp_tabL_ok [mp_i .pop, mp_i (.aload_n 2), mp_i (.aload_n 0), mp_i (.iload_n 3), mp_c (.iconst 1) 1, mp_i .iadd] (by decide +kernel) ?_
  refine And.intro rfl ?_
  intro z_20 h_21
  have e_22 : z_20.toInt = i.toInt + 1 := mp_add (a := i.toInt) (b := 1) h_21 rfl (by decide) (by first | exact mp_cwa1 hi0 | omega) (by first | exact mp_cwb1 h3 hi6 | omega)
  show mp_W E X 4 1468 [(3, .int i), (2, .ref q2), (1, .ref q1), (0, .ref b)] [.int z_20, .ref b, .ref q2] (A_12 ++ B) k_14 n_15
  refine mp_lsld hL (by first | exact mp_cwc1 hi0 e_22 | omega) (by first | exact mp_cwd1 hi6 e_22 | omega) (by first | exact mp_fd_ok mp_k_code_ok (by decide +kernel) | decide +kernel) (fun v_23 hv_24 => ?_)
  have e_25 := mp_xs_same hv_5 hv_24 (by first | exact e_22.trans e_3.symm | omega)
  subst e_25
  show mp_W E X 4 1469 [(3, .int i), (2, .ref q2), (1, .ref q1), (0, .ref b)] [.int v_4, .ref q2] (A_12 ++ B) k_14 n_15
  refine mp_run mp_k_code_ok hF mp_tabL_ok [mp_i (.aload_n 0), mp_i (.iload_n 3), mp_c (.iconst 2) 2, mp_i .iadd] (by decide +kernel) ?_
  intro z_26 h_27
  have e_28 : z_26.toInt = i.toInt + 2 := mp_add (a := i.toInt) (b := 2) h_27 rfl (by decide) (by first | exact mp_cwa2 hi0 | omega) (by first | exact mp_cwb2 h3 hi6 | omega)
  show mp_W E X 4 1473 [(3, .int i), (2, .ref q2), (1, .ref q1), (0, .ref b)] [.int z_26, .ref b, .int v_4, .ref q2] (A_12 ++ B) k_14 n_15
  refine mp_lsld hL (by first | exact mp_cwc2 hi0 e_28 | omega) (by first | exact mp_cwd2 hi6 e_28 | omega) (by first | exact mp_fd_ok mp_k_code_ok (by decide +kernel) | decide +kernel) (fun v_29 hv_30 => ?_)
  have e_31 := mp_xs_same hv_10 hv_30 (by first | exact e_28.trans e_8.symm | omega)
  subst e_31
  show mp_W E X 4 1474 [(3, .int i), (2, .ref q2), (1, .ref q1), (0, .ref b)] [.int v_9, .int v_4, .ref q2] (A_12 ++ B) k_14 n_15
  refine mp_swap ?_
  refine mp_cm_weighed hF v_4 v_9 hB hW hWI (by first | exact mp_fd_ok mp_k_code_ok (by decide +kernel) | decide +kernel) (by omega) (by omega) (Nat.le_of_ble_eq_true rfl) (fun r_32 A_33 l_34 k_35 n_36 hI_37 hr_38 hk_39 hn_40 => ?_)
  refine mp_swap ?_
  show mp_W E X 4 1477 [(3, .int i), (2, .ref q2), (1, .ref q1), (0, .ref b)] [.int r_32] (A_12 ++ A_33) k_35 n_36
  refine mp_run mp_k_code_ok hF mp_tabL_ok [mp_i .pop, mp_h (.goto 740) [2218]] (by decide +kernel) ?_
  refine And.intro rfl ?_
  show mp_W E X 4 2218 [(3, .int i), (2, .ref q2), (1, .ref q1), (0, .ref b)] [] (A_12 ++ A_33) k_35 n_36
  have hl_ : l_13 = l_34 := by omega
  exact kk _ _ _ _ _ _ _ _ _ _ _ _ _ _ _ hSL hW hWI hI_16 (hl_ ▸ hI_37) (by omega) (by omega)
set_option maxHeartbeats 4000000 in
set_option maxRecDepth 100000 in
theorem mp_case_41 {E : mp_E} {X : mp_X} {b L : Nat} {xs : Nat → Int32} (hL : mp_Lw E X b L xs) (h3 : L ≤ 3072) {i : Int32} (hi0 : 0 ≤ i.toInt) (hi6 : i.toInt + 6 ≤ L) {q1 q2 : Nat} {len : Int} {sw sl mw mm : Nat → Int32} {kp : Nat → Bool} {tp : Nat → Int32} {ft fp : Int} {td : mp_TD} {it : Nat → mp_TD} {A B : va_W} {k n : Nat} (hSL : mp_SL sw sl mw mm) (hW : mp_WF td) (hWI : ∀ j : Nat, mp_WF (it j)) (hA : mp_IC E q1 len sw sl kp tp ft fp td it A) (hB : mp_IM E q2 len mw mm kp tp ft fp td it B) (hk : k + 13 ≤ 600000) (hn : n + 204 ≤ 7302250) (kk : ∀ (len2 : Int) (sw2 sl2 mw2 mm2 : Nat → Int32) (kp2 : Nat → Bool) (tp2 : Nat → Int32) (ft2 fp2 : Int) (td2 : mp_TD) (it2 : Nat → mp_TD) (A2 B2 : va_W) (k2 n2 : Nat), mp_SL sw2 sl2 mw2 mm2 → mp_WF td2 → (∀ j : Nat, mp_WF (it2 j)) → mp_IC E q1 len2 sw2 sl2 kp2 tp2 ft2 fp2 td2 it2 A2 → mp_IM E q2 len2 mw2 mm2 kp2 tp2 ft2 fp2 td2 it2 B2 → k2 ≤ k + 13 → n2 ≤ n + 204 → mp_W E X 4 2218 [(3, .int i), (2, .ref q2), (1, .ref q1), (0, .ref b)] [] (A2 ++ B2) k2 n2) : mp_W E X 4 1481 [(3, .int i), (2, .ref q2), (1, .ref q1), (0, .ref b)] [] (A ++ B) k n := by
  have hF : mp_F E X mp_ML := hL.1
  show mp_W E X 4 1481 [(3, .int i), (2, .ref q2), (1, .ref q1), (0, .ref b)] [] (A ++ B) k n
  refine mp_run mp_k_code_ok hF mp_tabL_ok [mp_i (.aload_n 1), mp_i (.aload_n 0), mp_i (.iload_n 3), mp_c (.iconst 1) 1, mp_i .iadd] (by decide +kernel) ?_
  intro z_1 h_2
  have e_3 : z_1.toInt = i.toInt + 1 := mp_add (a := i.toInt) (b := 1) h_2 rfl (by decide) (by first | exact mp_cwa1 hi0 | omega) (by first | exact mp_cwb1 h3 hi6 | omega)
  show mp_W E X 4 1486 [(3, .int i), (2, .ref q2), (1, .ref q1), (0, .ref b)] [.int z_1, .ref b, .ref q1] (A ++ B) k n
  refine mp_lsld hL (by first | exact mp_cwc1 hi0 e_3 | omega) (by first | exact mp_cwd1 hi6 e_3 | omega) (by first | exact mp_fd_ok mp_k_code_ok (by decide +kernel) | decide +kernel) (fun v_4 hv_5 => ?_)
  show mp_W E X 4 1487 [(3, .int i), (2, .ref q2), (1, .ref q1), (0, .ref b)] [.int v_4, .ref q1] (A ++ B) k n
  refine mp_run mp_k_code_ok hF mp_tabL_ok [mp_i (.aload_n 0), mp_i (.iload_n 3), mp_c (.iconst 2) 2, mp_i .iadd] (by decide +kernel) ?_
  intro z_6 h_7
  have e_8 : z_6.toInt = i.toInt + 2 := mp_add (a := i.toInt) (b := 2) h_7 rfl (by decide) (by first | exact mp_cwa2 hi0 | omega) (by first | exact mp_cwb2 h3 hi6 | omega)
  show mp_W E X 4 1491 [(3, .int i), (2, .ref q2), (1, .ref q1), (0, .ref b)] [.int z_6, .ref b, .int v_4, .ref q1] (A ++ B) k n
  refine mp_lsld hL (by first | exact mp_cwc2 hi0 e_8 | omega) (by first | exact mp_cwd2 hi6 e_8 | omega) (by first | exact mp_fd_ok mp_k_code_ok (by decide +kernel) | decide +kernel) (fun v_9 hv_10 => ?_)
  show mp_W E X 4 1492 [(3, .int i), (2, .ref q2), (1, .ref q1), (0, .ref b)] [.int v_9, .int v_4, .ref q1] (A ++ B) k n
  refine mp_run mp_k_code_ok hF mp_tabL_ok [mp_i (.aload_n 0), mp_i (.iload_n 3), mp_c (.iconst 3) 3, mp_i .iadd] (by decide +kernel) ?_
  intro z_11 h_12
  have e_13 : z_11.toInt = i.toInt + 3 := mp_add (a := i.toInt) (b := 3) h_12 rfl (by decide) (by first | exact mp_cwa3 hi0 | omega) (by first | exact mp_cwb3 h3 hi6 | omega)
  show mp_W E X 4 1496 [(3, .int i), (2, .ref q2), (1, .ref q1), (0, .ref b)] [.int z_11, .ref b, .int v_9, .int v_4, .ref q1] (A ++ B) k n
  refine mp_lsld hL (by first | exact mp_cwc3 hi0 e_13 | omega) (by first | exact mp_cwd3 hi6 e_13 | omega) (by first | exact mp_fd_ok mp_k_code_ok (by decide +kernel) | decide +kernel) (fun v_14 hv_15 => ?_)
  show mp_W E X 4 1497 [(3, .int i), (2, .ref q2), (1, .ref q1), (0, .ref b)] [.int v_14, .int v_9, .int v_4, .ref q1] (A ++ B) k n
  refine mp_cc_must hF v_4 v_9 v_14 hA hW hWI (by first | exact mp_fd_ok mp_k_code_ok (by decide +kernel) | decide +kernel) (by omega) (by omega) (Nat.le_of_ble_eq_true rfl) (fun r_16 A_17 l_18 k_19 n_20 hI_21 hr_22 hk_23 hn_24 => ?_)
  show mp_W E X 4 1500 [(3, .int i), (2, .ref q2), (1, .ref q1), (0, .ref b)] [.int r_16] (A_17 ++ B) k_19 n_20
  refine mp_run mp_k_code_ok hF mp_tabL_ok [mp_i .pop, mp_i (.aload_n 2), mp_i (.aload_n 0), mp_i (.iload_n 3), mp_c (.iconst 1) 1, mp_i .iadd] (by decide +kernel) ?_
  refine And.intro rfl ?_
  intro z_25 h_26
  have e_27 : z_25.toInt = i.toInt + 1 := mp_add (a := i.toInt) (b := 1) h_26 rfl (by decide) (by first | exact mp_cwa1 hi0 | omega) (by first | exact mp_cwb1 h3 hi6 | omega)
  show mp_W E X 4 1506 [(3, .int i), (2, .ref q2), (1, .ref q1), (0, .ref b)] [.int z_25, .ref b, .ref q2] (A_17 ++ B) k_19 n_20
  refine mp_lsld hL (by first | exact mp_cwc1 hi0 e_27 | omega) (by first | exact mp_cwd1 hi6 e_27 | omega) (by first | exact mp_fd_ok mp_k_code_ok (by decide +kernel) | decide +kernel) (fun v_28 hv_29 => ?_)
  have e_30 := mp_xs_same hv_5 hv_29 (by first | exact e_27.trans e_3.symm | omega)
  subst e_30
  show mp_W E X 4 1507 [(3, .int i), (2, .ref q2), (1, .ref q1), (0, .ref b)] [.int v_4, .ref q2] (A_17 ++ B) k_19 n_20
  refine mp_run mp_k_code_ok hF mp_tabL_ok [mp_i (.aload_n 0), mp_i (.iload_n 3), mp_c (.iconst 2) 2, mp_i .iadd] (by decide +kernel) ?_
  intro z_31 h_32
  have e_33 : z_31.toInt = i.toInt + 2 := mp_add (a := i.toInt) (b := 2) h_32 rfl (by decide) (by first | exact mp_cwa2 hi0 | omega) (by first | exact mp_cwb2 h3 hi6 | omega)
  show mp_W E X 4 1511 [(3, .int i), (2, .ref q2), (1, .ref q1), (0, .ref b)] [.int z_31, .ref b, .int v_4, .ref q2] (A_17 ++ B) k_19 n_20
  refine mp_lsld hL (by first | exact mp_cwc2 hi0 e_33 | omega) (by first | exact mp_cwd2 hi6 e_33 | omega) (by first | exact mp_fd_ok mp_k_code_ok (by decide +kernel) | decide +kernel) (fun v_34 hv_35 => ?_)
  have e_36 := mp_xs_same hv_10 hv_35 (by first | exact e_33.trans e_8.symm | omega)
  subst e_36
  show mp_W E X 4 1512 [(3, .int i), (2, .ref q2), (1, .ref q1), (0, .ref b)] [.int v_9, .int v_4, .ref q2] (A_17 ++ B) k_19 n_20
  refine mp_run mp_k_code_ok hF mp_tabL_ok [mp_i (.aload_n 0), mp_i (.iload_n 3), mp_c (.iconst 3) 3, mp_i .iadd] (by decide +kernel) ?_
  intro z_37 h_38
  have e_39 : z_37.toInt = i.toInt + 3 := mp_add (a := i.toInt) (b := 3) h_38 rfl (by decide) (by first | exact mp_cwa3 hi0 | omega) (by first | exact mp_cwb3 h3 hi6 | omega)
  show mp_W E X 4 1516 [(3, .int i), (2, .ref q2), (1, .ref q1), (0, .ref b)] [.int z_37, .ref b, .int v_9, .int v_4, .ref q2] (A_17 ++ B) k_19 n_20
  refine mp_lsld hL (by first | exact mp_cwc3 hi0 e_39 | omega) (by first | exact mp_cwd3 hi6 e_39 | omega) (by first | exact mp_fd_ok mp_k_code_ok (by decide +kernel) | decide +kernel) (fun v_40 hv_41 => ?_)
  have e_42 := mp_xs_same hv_15 hv_41 (by first | exact e_39.trans e_13.symm | omega)
  subst e_42
  show mp_W E X 4 1517 [(3, .int i), (2, .ref q2), (1, .ref q1), (0, .ref b)] [.int v_14, .int v_9, .int v_4, .ref q2] (A_17 ++ B) k_19 n_20
  refine mp_swap ?_
  refine mp_cm_must hF v_4 v_9 v_14 hB hW hWI (by first | exact mp_fd_ok mp_k_code_ok (by decide +kernel) | decide +kernel) (by omega) (by omega) (Nat.le_of_ble_eq_true rfl) (fun r_43 A_44 l_45 k_46 n_47 hI_48 hr_49 hk_50 hn_51 => ?_)
  refine mp_swap ?_
  show mp_W E X 4 1520 [(3, .int i), (2, .ref q2), (1, .ref q1), (0, .ref b)] [.int r_43] (A_17 ++ A_44) k_46 n_47
  refine mp_run mp_k_code_ok hF mp_tabL_ok [mp_i .pop, mp_h (.goto 697) [2218]] (by decide +kernel) ?_
  refine And.intro rfl ?_
  show mp_W E X 4 2218 [(3, .int i), (2, .ref q2), (1, .ref q1), (0, .ref b)] [] (A_17 ++ A_44) k_46 n_47
  have hl_ : l_18 = l_45 := by omega
  exact kk _ _ _ _ _ _ _ _ _ _ _ _ _ _ _ hSL hW hWI hI_21 (hl_ ▸ hI_48) (by omega) (by omega)
set_option maxHeartbeats 4000000 in
set_option maxRecDepth 100000 in
theorem mp_case_42 {E : mp_E} {X : mp_X} {b L : Nat} {xs : Nat → Int32} (hL : mp_Lw E X b L xs) (h3 : L ≤ 3072) {i : Int32} (hi0 : 0 ≤ i.toInt) (hi6 : i.toInt + 6 ≤ L) {q1 q2 : Nat} {len : Int} {sw sl mw mm : Nat → Int32} {kp : Nat → Bool} {tp : Nat → Int32} {ft fp : Int} {td : mp_TD} {it : Nat → mp_TD} {A B : va_W} {k n : Nat} (hSL : mp_SL sw sl mw mm) (hW : mp_WF td) (hWI : ∀ j : Nat, mp_WF (it j)) (hA : mp_IC E q1 len sw sl kp tp ft fp td it A) (hB : mp_IM E q2 len mw mm kp tp ft fp td it B) (hk : k + 13 ≤ 600000) (hn : n + 204 ≤ 7302250) (kk : ∀ (len2 : Int) (sw2 sl2 mw2 mm2 : Nat → Int32) (kp2 : Nat → Bool) (tp2 : Nat → Int32) (ft2 fp2 : Int) (td2 : mp_TD) (it2 : Nat → mp_TD) (A2 B2 : va_W) (k2 n2 : Nat), mp_SL sw2 sl2 mw2 mm2 → mp_WF td2 → (∀ j : Nat, mp_WF (it2 j)) → mp_IC E q1 len2 sw2 sl2 kp2 tp2 ft2 fp2 td2 it2 A2 → mp_IM E q2 len2 mw2 mm2 kp2 tp2 ft2 fp2 td2 it2 B2 → k2 ≤ k + 13 → n2 ≤ n + 204 → mp_W E X 4 2218 [(3, .int i), (2, .ref q2), (1, .ref q1), (0, .ref b)] [] (A2 ++ B2) k2 n2) : mp_W E X 4 1524 [(3, .int i), (2, .ref q2), (1, .ref q1), (0, .ref b)] [] (A ++ B) k n := by
  have hF : mp_F E X mp_ML := hL.1
  show mp_W E X 4 1524 [(3, .int i), (2, .ref q2), (1, .ref q1), (0, .ref b)] [] (A ++ B) k n
  refine mp_run mp_k_code_ok hF mp_tabL_ok [mp_i (.aload_n 1), mp_i (.aload_n 0), mp_i (.iload_n 3), mp_c (.iconst 1) 1, mp_i .iadd] (by decide +kernel) ?_
  intro z_1 h_2
  have e_3 : z_1.toInt = i.toInt + 1 := mp_add (a := i.toInt) (b := 1) h_2 rfl (by decide) (by first | exact mp_cwa1 hi0 | omega) (by first | exact mp_cwb1 h3 hi6 | omega)
  show mp_W E X 4 1529 [(3, .int i), (2, .ref q2), (1, .ref q1), (0, .ref b)] [.int z_1, .ref b, .ref q1] (A ++ B) k n
  refine mp_lsld hL (by first | exact mp_cwc1 hi0 e_3 | omega) (by first | exact mp_cwd1 hi6 e_3 | omega) (by first | exact mp_fd_ok mp_k_code_ok (by decide +kernel) | decide +kernel) (fun v_4 hv_5 => ?_)
  show mp_W E X 4 1530 [(3, .int i), (2, .ref q2), (1, .ref q1), (0, .ref b)] [.int v_4, .ref q1] (A ++ B) k n
  refine mp_run mp_k_code_ok hF mp_tabL_ok [mp_i (.aload_n 0), mp_i (.iload_n 3), mp_c (.iconst 2) 2, mp_i .iadd] (by decide +kernel) ?_
  intro z_6 h_7
  have e_8 : z_6.toInt = i.toInt + 2 := mp_add (a := i.toInt) (b := 2) h_7 rfl (by decide) (by first | exact mp_cwa2 hi0 | omega) (by first | exact mp_cwb2 h3 hi6 | omega)
  show mp_W E X 4 1534 [(3, .int i), (2, .ref q2), (1, .ref q1), (0, .ref b)] [.int z_6, .ref b, .int v_4, .ref q1] (A ++ B) k n
  refine mp_lsld hL (by first | exact mp_cwc2 hi0 e_8 | omega) (by first | exact mp_cwd2 hi6 e_8 | omega) (by first | exact mp_fd_ok mp_k_code_ok (by decide +kernel) | decide +kernel) (fun v_9 hv_10 => ?_)
  show mp_W E X 4 1535 [(3, .int i), (2, .ref q2), (1, .ref q1), (0, .ref b)] [.int v_9, .int v_4, .ref q1] (A ++ B) k n
  refine mp_cc_times hF v_4 v_9 hA hW hWI (by first | exact mp_fd_ok mp_k_code_ok (by decide +kernel) | decide +kernel) (by omega) (by omega) (Nat.le_of_ble_eq_true rfl) (fun r_11 A_12 l_13 k_14 n_15 hI_16 hr_17 hk_18 hn_19 => ?_)
  show mp_W E X 4 1538 [(3, .int i), (2, .ref q2), (1, .ref q1), (0, .ref b)] [.int r_11] (A_12 ++ B) k_14 n_15
  refine mp_run mp_k_code_ok hF mp_tabL_ok [mp_i .pop, mp_i (.aload_n 2), mp_i (.aload_n 0), mp_i (.iload_n 3), mp_c (.iconst 1) 1, mp_i .iadd] (by decide +kernel) ?_
  refine And.intro rfl ?_
  intro z_20 h_21
  have e_22 : z_20.toInt = i.toInt + 1 := mp_add (a := i.toInt) (b := 1) h_21 rfl (by decide) (by first | exact mp_cwa1 hi0 | omega) (by first | exact mp_cwb1 h3 hi6 | omega)
  show mp_W E X 4 1544 [(3, .int i), (2, .ref q2), (1, .ref q1), (0, .ref b)] [.int z_20, .ref b, .ref q2] (A_12 ++ B) k_14 n_15
  refine mp_lsld hL (by first | exact mp_cwc1 hi0 e_22 | omega) (by first | exact mp_cwd1 hi6 e_22 | omega) (by first | exact mp_fd_ok mp_k_code_ok (by decide +kernel) | decide +kernel) (fun v_23 hv_24 => ?_)
  have e_25 := mp_xs_same hv_5 hv_24 (by first | exact e_22.trans e_3.symm | omega)
  subst e_25
  show mp_W E X 4 1545 [(3, .int i), (2, .ref q2), (1, .ref q1), (0, .ref b)] [.int v_4, .ref q2] (A_12 ++ B) k_14 n_15
  refine mp_run mp_k_code_ok hF mp_tabL_ok [mp_i (.aload_n 0), mp_i (.iload_n 3), mp_c (.iconst 2) 2, mp_i .iadd] (by decide +kernel) ?_
  intro z_26 h_27
  have e_28 : z_26.toInt = i.toInt + 2 := mp_add (a := i.toInt) (b := 2) h_27 rfl (by decide) (by first | exact mp_cwa2 hi0 | omega) (by first | exact mp_cwb2 h3 hi6 | omega)
  show mp_W E X 4 1549 [(3, .int i), (2, .ref q2), (1, .ref q1), (0, .ref b)] [.int z_26, .ref b, .int v_4, .ref q2] (A_12 ++ B) k_14 n_15
  refine mp_lsld hL (by first | exact mp_cwc2 hi0 e_28 | omega) (by first | exact mp_cwd2 hi6 e_28 | omega) (by first | exact mp_fd_ok mp_k_code_ok (by decide +kernel) | decide +kernel) (fun v_29 hv_30 => ?_)
  have e_31 := mp_xs_same hv_10 hv_30 (by first | exact e_28.trans e_8.symm | omega)
  subst e_31
  show mp_W E X 4 1550 [(3, .int i), (2, .ref q2), (1, .ref q1), (0, .ref b)] [.int v_9, .int v_4, .ref q2] (A_12 ++ B) k_14 n_15
  refine mp_swap ?_
  refine mp_cm_times hF v_4 v_9 hB hW hWI (by first | exact mp_fd_ok mp_k_code_ok (by decide +kernel) | decide +kernel) (by omega) (by omega) (Nat.le_of_ble_eq_true rfl) (fun r_32 A_33 l_34 k_35 n_36 hI_37 hr_38 hk_39 hn_40 => ?_)
  refine mp_swap ?_
  show mp_W E X 4 1553 [(3, .int i), (2, .ref q2), (1, .ref q1), (0, .ref b)] [.int r_32] (A_12 ++ A_33) k_35 n_36
  refine mp_run mp_k_code_ok hF mp_tabL_ok [mp_i .pop, mp_h (.goto 664) [2218]] (by decide +kernel) ?_
  refine And.intro rfl ?_
  show mp_W E X 4 2218 [(3, .int i), (2, .ref q2), (1, .ref q1), (0, .ref b)] [] (A_12 ++ A_33) k_35 n_36
  have hl_ : l_13 = l_34 := by omega
  exact kk _ _ _ _ _ _ _ _ _ _ _ _ _ _ _ hSL hW hWI hI_16 (hl_ ▸ hI_37) (by omega) (by omega)
set_option maxHeartbeats 4000000 in
set_option maxRecDepth 100000 in
theorem mp_case_43 {E : mp_E} {X : mp_X} {b L : Nat} {xs : Nat → Int32} (hL : mp_Lw E X b L xs) (h3 : L ≤ 3072) {i : Int32} (hi0 : 0 ≤ i.toInt) (hi6 : i.toInt + 6 ≤ L) {q1 q2 : Nat} {len : Int} {sw sl mw mm : Nat → Int32} {kp : Nat → Bool} {tp : Nat → Int32} {ft fp : Int} {td : mp_TD} {it : Nat → mp_TD} {A B : va_W} {k n : Nat} (hSL : mp_SL sw sl mw mm) (hW : mp_WF td) (hWI : ∀ j : Nat, mp_WF (it j)) (hA : mp_IC E q1 len sw sl kp tp ft fp td it A) (hB : mp_IM E q2 len mw mm kp tp ft fp td it B) (hk : k + 13 ≤ 600000) (hn : n + 204 ≤ 7302250) (kk : ∀ (len2 : Int) (sw2 sl2 mw2 mm2 : Nat → Int32) (kp2 : Nat → Bool) (tp2 : Nat → Int32) (ft2 fp2 : Int) (td2 : mp_TD) (it2 : Nat → mp_TD) (A2 B2 : va_W) (k2 n2 : Nat), mp_SL sw2 sl2 mw2 mm2 → mp_WF td2 → (∀ j : Nat, mp_WF (it2 j)) → mp_IC E q1 len2 sw2 sl2 kp2 tp2 ft2 fp2 td2 it2 A2 → mp_IM E q2 len2 mw2 mm2 kp2 tp2 ft2 fp2 td2 it2 B2 → k2 ≤ k + 13 → n2 ≤ n + 204 → mp_W E X 4 2218 [(3, .int i), (2, .ref q2), (1, .ref q1), (0, .ref b)] [] (A2 ++ B2) k2 n2) : mp_W E X 4 1557 [(3, .int i), (2, .ref q2), (1, .ref q1), (0, .ref b)] [] (A ++ B) k n := by
  have hF : mp_F E X mp_ML := hL.1
  show mp_W E X 4 1557 [(3, .int i), (2, .ref q2), (1, .ref q1), (0, .ref b)] [] (A ++ B) k n
  refine mp_run mp_k_code_ok hF mp_tabL_ok [mp_i (.aload_n 1), mp_i (.aload_n 0), mp_i (.iload_n 3), mp_c (.iconst 1) 1, mp_i .iadd] (by decide +kernel) ?_
  intro z_1 h_2
  have e_3 : z_1.toInt = i.toInt + 1 := mp_add (a := i.toInt) (b := 1) h_2 rfl (by decide) (by first | exact mp_cwa1 hi0 | omega) (by first | exact mp_cwb1 h3 hi6 | omega)
  show mp_W E X 4 1562 [(3, .int i), (2, .ref q2), (1, .ref q1), (0, .ref b)] [.int z_1, .ref b, .ref q1] (A ++ B) k n
  refine mp_lsld hL (by first | exact mp_cwc1 hi0 e_3 | omega) (by first | exact mp_cwd1 hi6 e_3 | omega) (by first | exact mp_fd_ok mp_k_code_ok (by decide +kernel) | decide +kernel) (fun v_4 hv_5 => ?_)
  show mp_W E X 4 1563 [(3, .int i), (2, .ref q2), (1, .ref q1), (0, .ref b)] [.int v_4, .ref q1] (A ++ B) k n
  refine mp_run mp_k_code_ok hF mp_tabL_ok [mp_i (.aload_n 0), mp_i (.iload_n 3), mp_c (.iconst 2) 2, mp_i .iadd] (by decide +kernel) ?_
  intro z_6 h_7
  have e_8 : z_6.toInt = i.toInt + 2 := mp_add (a := i.toInt) (b := 2) h_7 rfl (by decide) (by first | exact mp_cwa2 hi0 | omega) (by first | exact mp_cwb2 h3 hi6 | omega)
  show mp_W E X 4 1567 [(3, .int i), (2, .ref q2), (1, .ref q1), (0, .ref b)] [.int z_6, .ref b, .int v_4, .ref q1] (A ++ B) k n
  refine mp_lsld hL (by first | exact mp_cwc2 hi0 e_8 | omega) (by first | exact mp_cwd2 hi6 e_8 | omega) (by first | exact mp_fd_ok mp_k_code_ok (by decide +kernel) | decide +kernel) (fun v_9 hv_10 => ?_)
  show mp_W E X 4 1568 [(3, .int i), (2, .ref q2), (1, .ref q1), (0, .ref b)] [.int v_9, .int v_4, .ref q1] (A ++ B) k n
  refine mp_cc_weigh hF v_4 v_9 hA hW hWI (by first | exact mp_fd_ok mp_k_code_ok (by decide +kernel) | decide +kernel) (by omega) (by omega) (Nat.le_of_ble_eq_true rfl) (fun r_11 A_12 l_13 k_14 n_15 hI_16 hr_17 hk_18 hn_19 => ?_)
  show mp_W E X 4 1571 [(3, .int i), (2, .ref q2), (1, .ref q1), (0, .ref b)] [.int r_11] (A_12 ++ B) k_14 n_15
  refine mp_run mp_k_code_ok hF mp_tabL_ok [mp_i .pop, mp_i (.aload_n 2), mp_i (.aload_n 0), mp_i (.iload_n 3), mp_c (.iconst 1) 1, mp_i .iadd] (by decide +kernel) ?_
  refine And.intro rfl ?_
  intro z_20 h_21
  have e_22 : z_20.toInt = i.toInt + 1 := mp_add (a := i.toInt) (b := 1) h_21 rfl (by decide) (by first | exact mp_cwa1 hi0 | omega) (by first | exact mp_cwb1 h3 hi6 | omega)
  show mp_W E X 4 1577 [(3, .int i), (2, .ref q2), (1, .ref q1), (0, .ref b)] [.int z_20, .ref b, .ref q2] (A_12 ++ B) k_14 n_15
  refine mp_lsld hL (by first | exact mp_cwc1 hi0 e_22 | omega) (by first | exact mp_cwd1 hi6 e_22 | omega) (by first | exact mp_fd_ok mp_k_code_ok (by decide +kernel) | decide +kernel) (fun v_23 hv_24 => ?_)
  have e_25 := mp_xs_same hv_5 hv_24 (by first | exact e_22.trans e_3.symm | omega)
  subst e_25
  show mp_W E X 4 1578 [(3, .int i), (2, .ref q2), (1, .ref q1), (0, .ref b)] [.int v_4, .ref q2] (A_12 ++ B) k_14 n_15
  refine mp_run mp_k_code_ok hF mp_tabL_ok [mp_i (.aload_n 0), mp_i (.iload_n 3), mp_c (.iconst 2) 2, mp_i .iadd] (by decide +kernel) ?_
  intro z_26 h_27
  have e_28 : z_26.toInt = i.toInt + 2 := mp_add (a := i.toInt) (b := 2) h_27 rfl (by decide) (by first | exact mp_cwa2 hi0 | omega) (by first | exact mp_cwb2 h3 hi6 | omega)
  show mp_W E X 4 1582 [(3, .int i), (2, .ref q2), (1, .ref q1), (0, .ref b)] [.int z_26, .ref b, .int v_4, .ref q2] (A_12 ++ B) k_14 n_15
  refine mp_lsld hL (by first | exact mp_cwc2 hi0 e_28 | omega) (by first | exact mp_cwd2 hi6 e_28 | omega) (by first | exact mp_fd_ok mp_k_code_ok (by decide +kernel) | decide +kernel) (fun v_29 hv_30 => ?_)
  have e_31 := mp_xs_same hv_10 hv_30 (by first | exact e_28.trans e_8.symm | omega)
  subst e_31
  show mp_W E X 4 1583 [(3, .int i), (2, .ref q2), (1, .ref q1), (0, .ref b)] [.int v_9, .int v_4, .ref q2] (A_12 ++ B) k_14 n_15
  refine mp_swap ?_
  refine mp_cm_weigh hF v_4 v_9 hB hW hWI (by first | exact mp_fd_ok mp_k_code_ok (by decide +kernel) | decide +kernel) (by omega) (by omega) (Nat.le_of_ble_eq_true rfl) (fun r_32 A_33 l_34 k_35 n_36 hI_37 hr_38 hk_39 hn_40 => ?_)
  refine mp_swap ?_
  show mp_W E X 4 1586 [(3, .int i), (2, .ref q2), (1, .ref q1), (0, .ref b)] [.int r_32] (A_12 ++ A_33) k_35 n_36
  refine mp_run mp_k_code_ok hF mp_tabL_ok [mp_i .pop, mp_h (.goto 631) [2218]] (by decide +kernel) ?_
  refine And.intro rfl ?_
  show mp_W E X 4 2218 [(3, .int i), (2, .ref q2), (1, .ref q1), (0, .ref b)] [] (A_12 ++ A_33) k_35 n_36
  have hl_ : l_13 = l_34 := by omega
  exact kk _ _ _ _ _ _ _ _ _ _ _ _ _ _ _ hSL hW hWI hI_16 (hl_ ▸ hI_37) (by omega) (by omega)
set_option maxHeartbeats 4000000 in
set_option maxRecDepth 100000 in
theorem mp_case_44 {E : mp_E} {X : mp_X} {b L : Nat} {xs : Nat → Int32} (hL : mp_Lw E X b L xs) (h3 : L ≤ 3072) {i : Int32} (hi0 : 0 ≤ i.toInt) (hi6 : i.toInt + 6 ≤ L) {q1 q2 : Nat} {len : Int} {sw sl mw mm : Nat → Int32} {kp : Nat → Bool} {tp : Nat → Int32} {ft fp : Int} {td : mp_TD} {it : Nat → mp_TD} {A B : va_W} {k n : Nat} (hSL : mp_SL sw sl mw mm) (hW : mp_WF td) (hWI : ∀ j : Nat, mp_WF (it j)) (hA : mp_IC E q1 len sw sl kp tp ft fp td it A) (hB : mp_IM E q2 len mw mm kp tp ft fp td it B) (hk : k + 13 ≤ 600000) (hn : n + 204 ≤ 7302250) (kk : ∀ (len2 : Int) (sw2 sl2 mw2 mm2 : Nat → Int32) (kp2 : Nat → Bool) (tp2 : Nat → Int32) (ft2 fp2 : Int) (td2 : mp_TD) (it2 : Nat → mp_TD) (A2 B2 : va_W) (k2 n2 : Nat), mp_SL sw2 sl2 mw2 mm2 → mp_WF td2 → (∀ j : Nat, mp_WF (it2 j)) → mp_IC E q1 len2 sw2 sl2 kp2 tp2 ft2 fp2 td2 it2 A2 → mp_IM E q2 len2 mw2 mm2 kp2 tp2 ft2 fp2 td2 it2 B2 → k2 ≤ k + 13 → n2 ≤ n + 204 → mp_W E X 4 2218 [(3, .int i), (2, .ref q2), (1, .ref q1), (0, .ref b)] [] (A2 ++ B2) k2 n2) : mp_W E X 4 1590 [(3, .int i), (2, .ref q2), (1, .ref q1), (0, .ref b)] [] (A ++ B) k n := by
  have hF : mp_F E X mp_ML := hL.1
  show mp_W E X 4 1590 [(3, .int i), (2, .ref q2), (1, .ref q1), (0, .ref b)] [] (A ++ B) k n
  refine mp_run mp_k_code_ok hF mp_tabL_ok [mp_i (.aload_n 1), mp_i (.aload_n 0), mp_i (.iload_n 3), mp_c (.iconst 1) 1, mp_i .iadd] (by decide +kernel) ?_
  intro z_1 h_2
  have e_3 : z_1.toInt = i.toInt + 1 := mp_add (a := i.toInt) (b := 1) h_2 rfl (by decide) (by first | exact mp_cwa1 hi0 | omega) (by first | exact mp_cwb1 h3 hi6 | omega)
  show mp_W E X 4 1595 [(3, .int i), (2, .ref q2), (1, .ref q1), (0, .ref b)] [.int z_1, .ref b, .ref q1] (A ++ B) k n
  refine mp_lsld hL (by first | exact mp_cwc1 hi0 e_3 | omega) (by first | exact mp_cwd1 hi6 e_3 | omega) (by first | exact mp_fd_ok mp_k_code_ok (by decide +kernel) | decide +kernel) (fun v_4 hv_5 => ?_)
  show mp_W E X 4 1596 [(3, .int i), (2, .ref q2), (1, .ref q1), (0, .ref b)] [.int v_4, .ref q1] (A ++ B) k n
  refine mp_run mp_k_code_ok hF mp_tabL_ok [mp_i (.aload_n 0), mp_i (.iload_n 3), mp_c (.iconst 2) 2, mp_i .iadd] (by decide +kernel) ?_
  intro z_6 h_7
  have e_8 : z_6.toInt = i.toInt + 2 := mp_add (a := i.toInt) (b := 2) h_7 rfl (by decide) (by first | exact mp_cwa2 hi0 | omega) (by first | exact mp_cwb2 h3 hi6 | omega)
  show mp_W E X 4 1600 [(3, .int i), (2, .ref q2), (1, .ref q1), (0, .ref b)] [.int z_6, .ref b, .int v_4, .ref q1] (A ++ B) k n
  refine mp_lsld hL (by first | exact mp_cwc2 hi0 e_8 | omega) (by first | exact mp_cwd2 hi6 e_8 | omega) (by first | exact mp_fd_ok mp_k_code_ok (by decide +kernel) | decide +kernel) (fun v_9 hv_10 => ?_)
  show mp_W E X 4 1601 [(3, .int i), (2, .ref q2), (1, .ref q1), (0, .ref b)] [.int v_9, .int v_4, .ref q1] (A ++ B) k n
  refine mp_cc_said hF v_4 v_9 hA hW hWI (by first | exact mp_fd_ok mp_k_code_ok (by decide +kernel) | decide +kernel) (by omega) (by omega) (Nat.le_of_ble_eq_true rfl) (fun r_11 A_12 l_13 k_14 n_15 hI_16 hr_17 hk_18 hn_19 => ?_)
  show mp_W E X 4 1604 [(3, .int i), (2, .ref q2), (1, .ref q1), (0, .ref b)] [.int r_11] (A_12 ++ B) k_14 n_15
  refine mp_run mp_k_code_ok hF mp_tabL_ok [mp_i .pop, mp_i (.aload_n 2), mp_i (.aload_n 0), mp_i (.iload_n 3), mp_c (.iconst 1) 1, mp_i .iadd] (by decide +kernel) ?_
  refine And.intro rfl ?_
  intro z_20 h_21
  have e_22 : z_20.toInt = i.toInt + 1 := mp_add (a := i.toInt) (b := 1) h_21 rfl (by decide) (by first | exact mp_cwa1 hi0 | omega) (by first | exact mp_cwb1 h3 hi6 | omega)
  show mp_W E X 4 1610 [(3, .int i), (2, .ref q2), (1, .ref q1), (0, .ref b)] [.int z_20, .ref b, .ref q2] (A_12 ++ B) k_14 n_15
  refine mp_lsld hL (by first | exact mp_cwc1 hi0 e_22 | omega) (by first | exact mp_cwd1 hi6 e_22 | omega) (by first | exact mp_fd_ok mp_k_code_ok (by decide +kernel) | decide +kernel) (fun v_23 hv_24 => ?_)
  have e_25 := mp_xs_same hv_5 hv_24 (by first | exact e_22.trans e_3.symm | omega)
  subst e_25
  show mp_W E X 4 1611 [(3, .int i), (2, .ref q2), (1, .ref q1), (0, .ref b)] [.int v_4, .ref q2] (A_12 ++ B) k_14 n_15
  refine mp_run mp_k_code_ok hF mp_tabL_ok [mp_i (.aload_n 0), mp_i (.iload_n 3), mp_c (.iconst 2) 2, mp_i .iadd] (by decide +kernel) ?_
  intro z_26 h_27
  have e_28 : z_26.toInt = i.toInt + 2 := mp_add (a := i.toInt) (b := 2) h_27 rfl (by decide) (by first | exact mp_cwa2 hi0 | omega) (by first | exact mp_cwb2 h3 hi6 | omega)
  show mp_W E X 4 1615 [(3, .int i), (2, .ref q2), (1, .ref q1), (0, .ref b)] [.int z_26, .ref b, .int v_4, .ref q2] (A_12 ++ B) k_14 n_15
  refine mp_lsld hL (by first | exact mp_cwc2 hi0 e_28 | omega) (by first | exact mp_cwd2 hi6 e_28 | omega) (by first | exact mp_fd_ok mp_k_code_ok (by decide +kernel) | decide +kernel) (fun v_29 hv_30 => ?_)
  have e_31 := mp_xs_same hv_10 hv_30 (by first | exact e_28.trans e_8.symm | omega)
  subst e_31
  show mp_W E X 4 1616 [(3, .int i), (2, .ref q2), (1, .ref q1), (0, .ref b)] [.int v_9, .int v_4, .ref q2] (A_12 ++ B) k_14 n_15
  refine mp_swap ?_
  refine mp_cm_said hF v_4 v_9 hB hW hWI (by first | exact mp_fd_ok mp_k_code_ok (by decide +kernel) | decide +kernel) (by omega) (by omega) (Nat.le_of_ble_eq_true rfl) (fun r_32 A_33 l_34 k_35 n_36 hI_37 hr_38 hk_39 hn_40 => ?_)
  refine mp_swap ?_
  show mp_W E X 4 1619 [(3, .int i), (2, .ref q2), (1, .ref q1), (0, .ref b)] [.int r_32] (A_12 ++ A_33) k_35 n_36
  refine mp_run mp_k_code_ok hF mp_tabL_ok [mp_i .pop, mp_h (.goto 598) [2218]] (by decide +kernel) ?_
  refine And.intro rfl ?_
  show mp_W E X 4 2218 [(3, .int i), (2, .ref q2), (1, .ref q1), (0, .ref b)] [] (A_12 ++ A_33) k_35 n_36
  have hl_ : l_13 = l_34 := by omega
  exact kk _ _ _ _ _ _ _ _ _ _ _ _ _ _ _ hSL hW hWI hI_16 (hl_ ▸ hI_37) (by omega) (by omega)
set_option maxHeartbeats 4000000 in
set_option maxRecDepth 100000 in
theorem mp_case_45 {E : mp_E} {X : mp_X} {b L : Nat} {xs : Nat → Int32} (hL : mp_Lw E X b L xs) (h3 : L ≤ 3072) {i : Int32} (hi0 : 0 ≤ i.toInt) (hi6 : i.toInt + 6 ≤ L) {q1 q2 : Nat} {len : Int} {sw sl mw mm : Nat → Int32} {kp : Nat → Bool} {tp : Nat → Int32} {ft fp : Int} {td : mp_TD} {it : Nat → mp_TD} {A B : va_W} {k n : Nat} (hSL : mp_SL sw sl mw mm) (hW : mp_WF td) (hWI : ∀ j : Nat, mp_WF (it j)) (hA : mp_IC E q1 len sw sl kp tp ft fp td it A) (hB : mp_IM E q2 len mw mm kp tp ft fp td it B) (hk : k + 13 ≤ 600000) (hn : n + 204 ≤ 7302250) (kk : ∀ (len2 : Int) (sw2 sl2 mw2 mm2 : Nat → Int32) (kp2 : Nat → Bool) (tp2 : Nat → Int32) (ft2 fp2 : Int) (td2 : mp_TD) (it2 : Nat → mp_TD) (A2 B2 : va_W) (k2 n2 : Nat), mp_SL sw2 sl2 mw2 mm2 → mp_WF td2 → (∀ j : Nat, mp_WF (it2 j)) → mp_IC E q1 len2 sw2 sl2 kp2 tp2 ft2 fp2 td2 it2 A2 → mp_IM E q2 len2 mw2 mm2 kp2 tp2 ft2 fp2 td2 it2 B2 → k2 ≤ k + 13 → n2 ≤ n + 204 → mp_W E X 4 2218 [(3, .int i), (2, .ref q2), (1, .ref q1), (0, .ref b)] [] (A2 ++ B2) k2 n2) : mp_W E X 4 1623 [(3, .int i), (2, .ref q2), (1, .ref q1), (0, .ref b)] [] (A ++ B) k n := by
  have hF : mp_F E X mp_ML := hL.1
  show mp_W E X 4 1623 [(3, .int i), (2, .ref q2), (1, .ref q1), (0, .ref b)] [] (A ++ B) k n
  refine mp_run mp_k_code_ok hF mp_tabL_ok [mp_i (.aload_n 1), mp_i (.aload_n 0), mp_i (.iload_n 3), mp_c (.iconst 1) 1, mp_i .iadd] (by decide +kernel) ?_
  intro z_1 h_2
  have e_3 : z_1.toInt = i.toInt + 1 := mp_add (a := i.toInt) (b := 1) h_2 rfl (by decide) (by first | exact mp_cwa1 hi0 | omega) (by first | exact mp_cwb1 h3 hi6 | omega)
  show mp_W E X 4 1628 [(3, .int i), (2, .ref q2), (1, .ref q1), (0, .ref b)] [.int z_1, .ref b, .ref q1] (A ++ B) k n
  refine mp_lsld hL (by first | exact mp_cwc1 hi0 e_3 | omega) (by first | exact mp_cwd1 hi6 e_3 | omega) (by first | exact mp_fd_ok mp_k_code_ok (by decide +kernel) | decide +kernel) (fun v_4 hv_5 => ?_)
  show mp_W E X 4 1629 [(3, .int i), (2, .ref q2), (1, .ref q1), (0, .ref b)] [.int v_4, .ref q1] (A ++ B) k n
  refine mp_run mp_k_code_ok hF mp_tabL_ok [mp_i (.aload_n 0), mp_i (.iload_n 3), mp_c (.iconst 2) 2, mp_i .iadd] (by decide +kernel) ?_
  intro z_6 h_7
  have e_8 : z_6.toInt = i.toInt + 2 := mp_add (a := i.toInt) (b := 2) h_7 rfl (by decide) (by first | exact mp_cwa2 hi0 | omega) (by first | exact mp_cwb2 h3 hi6 | omega)
  show mp_W E X 4 1633 [(3, .int i), (2, .ref q2), (1, .ref q1), (0, .ref b)] [.int z_6, .ref b, .int v_4, .ref q1] (A ++ B) k n
  refine mp_lsld hL (by first | exact mp_cwc2 hi0 e_8 | omega) (by first | exact mp_cwd2 hi6 e_8 | omega) (by first | exact mp_fd_ok mp_k_code_ok (by decide +kernel) | decide +kernel) (fun v_9 hv_10 => ?_)
  show mp_W E X 4 1634 [(3, .int i), (2, .ref q2), (1, .ref q1), (0, .ref b)] [.int v_9, .int v_4, .ref q1] (A ++ B) k n
  refine mp_run mp_k_code_ok hF mp_tabL_ok [mp_i (.aload_n 0), mp_i (.iload_n 3), mp_c (.iconst 3) 3, mp_i .iadd] (by decide +kernel) ?_
  intro z_11 h_12
  have e_13 : z_11.toInt = i.toInt + 3 := mp_add (a := i.toInt) (b := 3) h_12 rfl (by decide) (by first | exact mp_cwa3 hi0 | omega) (by first | exact mp_cwb3 h3 hi6 | omega)
  show mp_W E X 4 1638 [(3, .int i), (2, .ref q2), (1, .ref q1), (0, .ref b)] [.int z_11, .ref b, .int v_9, .int v_4, .ref q1] (A ++ B) k n
  refine mp_lsld hL (by first | exact mp_cwc3 hi0 e_13 | omega) (by first | exact mp_cwd3 hi6 e_13 | omega) (by first | exact mp_fd_ok mp_k_code_ok (by decide +kernel) | decide +kernel) (fun v_14 hv_15 => ?_)
  show mp_W E X 4 1639 [(3, .int i), (2, .ref q2), (1, .ref q1), (0, .ref b)] [.int v_14, .int v_9, .int v_4, .ref q1] (A ++ B) k n
  refine mp_cc_span hF v_4 v_9 v_14 hA hW hWI (by first | exact mp_fd_ok mp_k_code_ok (by decide +kernel) | decide +kernel) (by omega) (by omega) (Nat.le_of_ble_eq_true rfl) (fun r_16 A_17 l_18 k_19 n_20 hI_21 hr_22 hk_23 hn_24 => ?_)
  show mp_W E X 4 1642 [(3, .int i), (2, .ref q2), (1, .ref q1), (0, .ref b)] [.int r_16] (A_17 ++ B) k_19 n_20
  refine mp_run mp_k_code_ok hF mp_tabL_ok [mp_i .pop, mp_i (.aload_n 2), mp_i (.aload_n 0), mp_i (.iload_n 3), mp_c (.iconst 1) 1, mp_i .iadd] (by decide +kernel) ?_
  refine And.intro rfl ?_
  intro z_25 h_26
  have e_27 : z_25.toInt = i.toInt + 1 := mp_add (a := i.toInt) (b := 1) h_26 rfl (by decide) (by first | exact mp_cwa1 hi0 | omega) (by first | exact mp_cwb1 h3 hi6 | omega)
  show mp_W E X 4 1648 [(3, .int i), (2, .ref q2), (1, .ref q1), (0, .ref b)] [.int z_25, .ref b, .ref q2] (A_17 ++ B) k_19 n_20
  refine mp_lsld hL (by first | exact mp_cwc1 hi0 e_27 | omega) (by first | exact mp_cwd1 hi6 e_27 | omega) (by first | exact mp_fd_ok mp_k_code_ok (by decide +kernel) | decide +kernel) (fun v_28 hv_29 => ?_)
  have e_30 := mp_xs_same hv_5 hv_29 (by first | exact e_27.trans e_3.symm | omega)
  subst e_30
  show mp_W E X 4 1649 [(3, .int i), (2, .ref q2), (1, .ref q1), (0, .ref b)] [.int v_4, .ref q2] (A_17 ++ B) k_19 n_20
  refine mp_run mp_k_code_ok hF mp_tabL_ok [mp_i (.aload_n 0), mp_i (.iload_n 3), mp_c (.iconst 2) 2, mp_i .iadd] (by decide +kernel) ?_
  intro z_31 h_32
  have e_33 : z_31.toInt = i.toInt + 2 := mp_add (a := i.toInt) (b := 2) h_32 rfl (by decide) (by first | exact mp_cwa2 hi0 | omega) (by first | exact mp_cwb2 h3 hi6 | omega)
  show mp_W E X 4 1653 [(3, .int i), (2, .ref q2), (1, .ref q1), (0, .ref b)] [.int z_31, .ref b, .int v_4, .ref q2] (A_17 ++ B) k_19 n_20
  refine mp_lsld hL (by first | exact mp_cwc2 hi0 e_33 | omega) (by first | exact mp_cwd2 hi6 e_33 | omega) (by first | exact mp_fd_ok mp_k_code_ok (by decide +kernel) | decide +kernel) (fun v_34 hv_35 => ?_)
  have e_36 := mp_xs_same hv_10 hv_35 (by first | exact e_33.trans e_8.symm | omega)
  subst e_36
  show mp_W E X 4 1654 [(3, .int i), (2, .ref q2), (1, .ref q1), (0, .ref b)] [.int v_9, .int v_4, .ref q2] (A_17 ++ B) k_19 n_20
  refine mp_run mp_k_code_ok hF mp_tabL_ok [mp_i (.aload_n 0), mp_i (.iload_n 3), mp_c (.iconst 3) 3, mp_i .iadd] (by decide +kernel) ?_
  intro z_37 h_38
  have e_39 : z_37.toInt = i.toInt + 3 := mp_add (a := i.toInt) (b := 3) h_38 rfl (by decide) (by first | exact mp_cwa3 hi0 | omega) (by first | exact mp_cwb3 h3 hi6 | omega)
  show mp_W E X 4 1658 [(3, .int i), (2, .ref q2), (1, .ref q1), (0, .ref b)] [.int z_37, .ref b, .int v_9, .int v_4, .ref q2] (A_17 ++ B) k_19 n_20
  refine mp_lsld hL (by first | exact mp_cwc3 hi0 e_39 | omega) (by first | exact mp_cwd3 hi6 e_39 | omega) (by first | exact mp_fd_ok mp_k_code_ok (by decide +kernel) | decide +kernel) (fun v_40 hv_41 => ?_)
  have e_42 := mp_xs_same hv_15 hv_41 (by first | exact e_39.trans e_13.symm | omega)
  subst e_42
  show mp_W E X 4 1659 [(3, .int i), (2, .ref q2), (1, .ref q1), (0, .ref b)] [.int v_14, .int v_9, .int v_4, .ref q2] (A_17 ++ B) k_19 n_20
  refine mp_swap ?_
  refine mp_cm_span hF v_4 v_9 v_14 hB hW hWI (by first | exact mp_fd_ok mp_k_code_ok (by decide +kernel) | decide +kernel) (by omega) (by omega) (Nat.le_of_ble_eq_true rfl) (fun r_43 A_44 l_45 k_46 n_47 hI_48 hr_49 hk_50 hn_51 => ?_)
  refine mp_swap ?_
  show mp_W E X 4 1662 [(3, .int i), (2, .ref q2), (1, .ref q1), (0, .ref b)] [.int r_43] (A_17 ++ A_44) k_46 n_47
  refine mp_run mp_k_code_ok hF mp_tabL_ok [mp_i .pop, mp_h (.goto 555) [2218]] (by decide +kernel) ?_
  refine And.intro rfl ?_
  show mp_W E X 4 2218 [(3, .int i), (2, .ref q2), (1, .ref q1), (0, .ref b)] [] (A_17 ++ A_44) k_46 n_47
  have hl_ : l_18 = l_45 := by omega
  exact kk _ _ _ _ _ _ _ _ _ _ _ _ _ _ _ hSL hW hWI hI_21 (hl_ ▸ hI_48) (by omega) (by omega)
set_option maxHeartbeats 4000000 in
set_option maxRecDepth 100000 in
theorem mp_case_46 {E : mp_E} {X : mp_X} {b L : Nat} {xs : Nat → Int32} (hL : mp_Lw E X b L xs) (h3 : L ≤ 3072) {i : Int32} (hi0 : 0 ≤ i.toInt) (hi6 : i.toInt + 6 ≤ L) {q1 q2 : Nat} {len : Int} {sw sl mw mm : Nat → Int32} {kp : Nat → Bool} {tp : Nat → Int32} {ft fp : Int} {td : mp_TD} {it : Nat → mp_TD} {A B : va_W} {k n : Nat} (hSL : mp_SL sw sl mw mm) (hW : mp_WF td) (hWI : ∀ j : Nat, mp_WF (it j)) (hA : mp_IC E q1 len sw sl kp tp ft fp td it A) (hB : mp_IM E q2 len mw mm kp tp ft fp td it B) (hk : k + 13 ≤ 600000) (hn : n + 204 ≤ 7302250) (kk : ∀ (len2 : Int) (sw2 sl2 mw2 mm2 : Nat → Int32) (kp2 : Nat → Bool) (tp2 : Nat → Int32) (ft2 fp2 : Int) (td2 : mp_TD) (it2 : Nat → mp_TD) (A2 B2 : va_W) (k2 n2 : Nat), mp_SL sw2 sl2 mw2 mm2 → mp_WF td2 → (∀ j : Nat, mp_WF (it2 j)) → mp_IC E q1 len2 sw2 sl2 kp2 tp2 ft2 fp2 td2 it2 A2 → mp_IM E q2 len2 mw2 mm2 kp2 tp2 ft2 fp2 td2 it2 B2 → k2 ≤ k + 13 → n2 ≤ n + 204 → mp_W E X 4 2218 [(3, .int i), (2, .ref q2), (1, .ref q1), (0, .ref b)] [] (A2 ++ B2) k2 n2) : mp_W E X 4 1666 [(3, .int i), (2, .ref q2), (1, .ref q1), (0, .ref b)] [] (A ++ B) k n := by
  have hF : mp_F E X mp_ML := hL.1
  show mp_W E X 4 1666 [(3, .int i), (2, .ref q2), (1, .ref q1), (0, .ref b)] [] (A ++ B) k n
  refine mp_run mp_k_code_ok hF mp_tabL_ok [mp_i (.aload_n 1), mp_i (.aload_n 0), mp_i (.iload_n 3), mp_c (.iconst 1) 1, mp_i .iadd] (by decide +kernel) ?_
  intro z_1 h_2
  have e_3 : z_1.toInt = i.toInt + 1 := mp_add (a := i.toInt) (b := 1) h_2 rfl (by decide) (by first | exact mp_cwa1 hi0 | omega) (by first | exact mp_cwb1 h3 hi6 | omega)
  show mp_W E X 4 1671 [(3, .int i), (2, .ref q2), (1, .ref q1), (0, .ref b)] [.int z_1, .ref b, .ref q1] (A ++ B) k n
  refine mp_lsld hL (by first | exact mp_cwc1 hi0 e_3 | omega) (by first | exact mp_cwd1 hi6 e_3 | omega) (by first | exact mp_fd_ok mp_k_code_ok (by decide +kernel) | decide +kernel) (fun v_4 hv_5 => ?_)
  show mp_W E X 4 1672 [(3, .int i), (2, .ref q2), (1, .ref q1), (0, .ref b)] [.int v_4, .ref q1] (A ++ B) k n
  refine mp_cc_wins hF v_4 hA hW hWI (by first | exact mp_fd_ok mp_k_code_ok (by decide +kernel) | decide +kernel) (by omega) (by omega) (Nat.le_of_ble_eq_true rfl) (fun r_6 A_7 l_8 k_9 n_10 hI_11 hr_12 hk_13 hn_14 => ?_)
  show mp_W E X 4 1675 [(3, .int i), (2, .ref q2), (1, .ref q1), (0, .ref b)] [.int r_6] (A_7 ++ B) k_9 n_10
  refine mp_run mp_k_code_ok hF mp_tabL_ok [mp_i .pop, mp_i (.aload_n 2), mp_i (.aload_n 0), mp_i (.iload_n 3), mp_c (.iconst 1) 1, mp_i .iadd] (by decide +kernel) ?_
  refine And.intro rfl ?_
  intro z_15 h_16
  have e_17 : z_15.toInt = i.toInt + 1 := mp_add (a := i.toInt) (b := 1) h_16 rfl (by decide) (by first | exact mp_cwa1 hi0 | omega) (by first | exact mp_cwb1 h3 hi6 | omega)
  show mp_W E X 4 1681 [(3, .int i), (2, .ref q2), (1, .ref q1), (0, .ref b)] [.int z_15, .ref b, .ref q2] (A_7 ++ B) k_9 n_10
  refine mp_lsld hL (by first | exact mp_cwc1 hi0 e_17 | omega) (by first | exact mp_cwd1 hi6 e_17 | omega) (by first | exact mp_fd_ok mp_k_code_ok (by decide +kernel) | decide +kernel) (fun v_18 hv_19 => ?_)
  have e_20 := mp_xs_same hv_5 hv_19 (by first | exact e_17.trans e_3.symm | omega)
  subst e_20
  show mp_W E X 4 1682 [(3, .int i), (2, .ref q2), (1, .ref q1), (0, .ref b)] [.int v_4, .ref q2] (A_7 ++ B) k_9 n_10
  refine mp_swap ?_
  refine mp_cm_wins hF v_4 hB hW hWI (by first | exact mp_fd_ok mp_k_code_ok (by decide +kernel) | decide +kernel) (by omega) (by omega) (Nat.le_of_ble_eq_true rfl) (fun r_21 A_22 l_23 k_24 n_25 hI_26 hr_27 hk_28 hn_29 => ?_)
  refine mp_swap ?_
  show mp_W E X 4 1685 [(3, .int i), (2, .ref q2), (1, .ref q1), (0, .ref b)] [.int r_21] (A_7 ++ A_22) k_24 n_25
  refine mp_run mp_k_code_ok hF mp_tabL_ok [mp_i .pop, mp_h (.goto 532) [2218]] (by decide +kernel) ?_
  refine And.intro rfl ?_
  show mp_W E X 4 2218 [(3, .int i), (2, .ref q2), (1, .ref q1), (0, .ref b)] [] (A_7 ++ A_22) k_24 n_25
  have hl_ : l_8 = l_23 := by omega
  exact kk _ _ _ _ _ _ _ _ _ _ _ _ _ _ _ hSL hW hWI hI_11 (hl_ ▸ hI_26) (by omega) (by omega)
set_option maxHeartbeats 4000000 in
set_option maxRecDepth 100000 in
theorem mp_case_47 {E : mp_E} {X : mp_X} {b L : Nat} {xs : Nat → Int32} (hL : mp_Lw E X b L xs) (h3 : L ≤ 3072) {i : Int32} (hi0 : 0 ≤ i.toInt) (hi6 : i.toInt + 6 ≤ L) {q1 q2 : Nat} {len : Int} {sw sl mw mm : Nat → Int32} {kp : Nat → Bool} {tp : Nat → Int32} {ft fp : Int} {td : mp_TD} {it : Nat → mp_TD} {A B : va_W} {k n : Nat} (hSL : mp_SL sw sl mw mm) (hW : mp_WF td) (hWI : ∀ j : Nat, mp_WF (it j)) (hA : mp_IC E q1 len sw sl kp tp ft fp td it A) (hB : mp_IM E q2 len mw mm kp tp ft fp td it B) (hk : k + 13 ≤ 600000) (hn : n + 204 ≤ 7302250) (kk : ∀ (len2 : Int) (sw2 sl2 mw2 mm2 : Nat → Int32) (kp2 : Nat → Bool) (tp2 : Nat → Int32) (ft2 fp2 : Int) (td2 : mp_TD) (it2 : Nat → mp_TD) (A2 B2 : va_W) (k2 n2 : Nat), mp_SL sw2 sl2 mw2 mm2 → mp_WF td2 → (∀ j : Nat, mp_WF (it2 j)) → mp_IC E q1 len2 sw2 sl2 kp2 tp2 ft2 fp2 td2 it2 A2 → mp_IM E q2 len2 mw2 mm2 kp2 tp2 ft2 fp2 td2 it2 B2 → k2 ≤ k + 13 → n2 ≤ n + 204 → mp_W E X 4 2218 [(3, .int i), (2, .ref q2), (1, .ref q1), (0, .ref b)] [] (A2 ++ B2) k2 n2) : mp_W E X 4 1689 [(3, .int i), (2, .ref q2), (1, .ref q1), (0, .ref b)] [] (A ++ B) k n := by
  have hF : mp_F E X mp_ML := hL.1
  show mp_W E X 4 1689 [(3, .int i), (2, .ref q2), (1, .ref q1), (0, .ref b)] [] (A ++ B) k n
  refine mp_run mp_k_code_ok hF mp_tabL_ok [mp_i (.aload_n 1), mp_i (.aload_n 0), mp_i (.iload_n 3), mp_c (.iconst 1) 1, mp_i .iadd] (by decide +kernel) ?_
  intro z_1 h_2
  have e_3 : z_1.toInt = i.toInt + 1 := mp_add (a := i.toInt) (b := 1) h_2 rfl (by decide) (by first | exact mp_cwa1 hi0 | omega) (by first | exact mp_cwb1 h3 hi6 | omega)
  show mp_W E X 4 1694 [(3, .int i), (2, .ref q2), (1, .ref q1), (0, .ref b)] [.int z_1, .ref b, .ref q1] (A ++ B) k n
  refine mp_lsld hL (by first | exact mp_cwc1 hi0 e_3 | omega) (by first | exact mp_cwd1 hi6 e_3 | omega) (by first | exact mp_fd_ok mp_k_code_ok (by decide +kernel) | decide +kernel) (fun v_4 hv_5 => ?_)
  show mp_W E X 4 1695 [(3, .int i), (2, .ref q2), (1, .ref q1), (0, .ref b)] [.int v_4, .ref q1] (A ++ B) k n
  refine mp_cc_turn hF v_4 hA hW hWI (by first | exact mp_fd_ok mp_k_code_ok (by decide +kernel) | decide +kernel) (by omega) (by omega) (Nat.le_of_ble_eq_true rfl) (fun r_6 A_7 l_8 k_9 n_10 hI_11 hr_12 hk_13 hn_14 => ?_)
  show mp_W E X 4 1698 [(3, .int i), (2, .ref q2), (1, .ref q1), (0, .ref b)] [.int r_6] (A_7 ++ B) k_9 n_10
  refine mp_run mp_k_code_ok hF mp_tabL_ok [mp_i .pop, mp_i (.aload_n 2), mp_i (.aload_n 0), mp_i (.iload_n 3), mp_c (.iconst 1) 1, mp_i .iadd] (by decide +kernel) ?_
  refine And.intro rfl ?_
  intro z_15 h_16
  have e_17 : z_15.toInt = i.toInt + 1 := mp_add (a := i.toInt) (b := 1) h_16 rfl (by decide) (by first | exact mp_cwa1 hi0 | omega) (by first | exact mp_cwb1 h3 hi6 | omega)
  show mp_W E X 4 1704 [(3, .int i), (2, .ref q2), (1, .ref q1), (0, .ref b)] [.int z_15, .ref b, .ref q2] (A_7 ++ B) k_9 n_10
  refine mp_lsld hL (by first | exact mp_cwc1 hi0 e_17 | omega) (by first | exact mp_cwd1 hi6 e_17 | omega) (by first | exact mp_fd_ok mp_k_code_ok (by decide +kernel) | decide +kernel) (fun v_18 hv_19 => ?_)
  have e_20 := mp_xs_same hv_5 hv_19 (by first | exact e_17.trans e_3.symm | omega)
  subst e_20
  show mp_W E X 4 1705 [(3, .int i), (2, .ref q2), (1, .ref q1), (0, .ref b)] [.int v_4, .ref q2] (A_7 ++ B) k_9 n_10
  refine mp_swap ?_
  refine mp_cm_turn hF v_4 hB hW hWI (by first | exact mp_fd_ok mp_k_code_ok (by decide +kernel) | decide +kernel) (by omega) (by omega) (Nat.le_of_ble_eq_true rfl) (fun r_21 A_22 l_23 k_24 n_25 hI_26 hr_27 hk_28 hn_29 => ?_)
  refine mp_swap ?_
  show mp_W E X 4 1708 [(3, .int i), (2, .ref q2), (1, .ref q1), (0, .ref b)] [.int r_21] (A_7 ++ A_22) k_24 n_25
  refine mp_run mp_k_code_ok hF mp_tabL_ok [mp_i .pop, mp_h (.goto 509) [2218]] (by decide +kernel) ?_
  refine And.intro rfl ?_
  show mp_W E X 4 2218 [(3, .int i), (2, .ref q2), (1, .ref q1), (0, .ref b)] [] (A_7 ++ A_22) k_24 n_25
  have hl_ : l_8 = l_23 := by omega
  exact kk _ _ _ _ _ _ _ _ _ _ _ _ _ _ _ hSL hW hWI hI_11 (hl_ ▸ hI_26) (by omega) (by omega)
set_option maxHeartbeats 4000000 in
set_option maxRecDepth 100000 in
theorem mp_case_48 {E : mp_E} {X : mp_X} {b L : Nat} {xs : Nat → Int32} (hL : mp_Lw E X b L xs) (h3 : L ≤ 3072) {i : Int32} (hi0 : 0 ≤ i.toInt) (hi6 : i.toInt + 6 ≤ L) {q1 q2 : Nat} {len : Int} {sw sl mw mm : Nat → Int32} {kp : Nat → Bool} {tp : Nat → Int32} {ft fp : Int} {td : mp_TD} {it : Nat → mp_TD} {A B : va_W} {k n : Nat} (hSL : mp_SL sw sl mw mm) (hW : mp_WF td) (hWI : ∀ j : Nat, mp_WF (it j)) (hA : mp_IC E q1 len sw sl kp tp ft fp td it A) (hB : mp_IM E q2 len mw mm kp tp ft fp td it B) (hk : k + 13 ≤ 600000) (hn : n + 204 ≤ 7302250) (kk : ∀ (len2 : Int) (sw2 sl2 mw2 mm2 : Nat → Int32) (kp2 : Nat → Bool) (tp2 : Nat → Int32) (ft2 fp2 : Int) (td2 : mp_TD) (it2 : Nat → mp_TD) (A2 B2 : va_W) (k2 n2 : Nat), mp_SL sw2 sl2 mw2 mm2 → mp_WF td2 → (∀ j : Nat, mp_WF (it2 j)) → mp_IC E q1 len2 sw2 sl2 kp2 tp2 ft2 fp2 td2 it2 A2 → mp_IM E q2 len2 mw2 mm2 kp2 tp2 ft2 fp2 td2 it2 B2 → k2 ≤ k + 13 → n2 ≤ n + 204 → mp_W E X 4 2218 [(3, .int i), (2, .ref q2), (1, .ref q1), (0, .ref b)] [] (A2 ++ B2) k2 n2) : mp_W E X 4 1712 [(3, .int i), (2, .ref q2), (1, .ref q1), (0, .ref b)] [] (A ++ B) k n := by
  have hF : mp_F E X mp_ML := hL.1
  show mp_W E X 4 1712 [(3, .int i), (2, .ref q2), (1, .ref q1), (0, .ref b)] [] (A ++ B) k n
  refine mp_run mp_k_code_ok hF mp_tabL_ok [mp_i (.aload_n 1), mp_i (.aload_n 0), mp_i (.iload_n 3), mp_c (.iconst 1) 1, mp_i .iadd] (by decide +kernel) ?_
  intro z_1 h_2
  have e_3 : z_1.toInt = i.toInt + 1 := mp_add (a := i.toInt) (b := 1) h_2 rfl (by decide) (by first | exact mp_cwa1 hi0 | omega) (by first | exact mp_cwb1 h3 hi6 | omega)
  show mp_W E X 4 1717 [(3, .int i), (2, .ref q2), (1, .ref q1), (0, .ref b)] [.int z_1, .ref b, .ref q1] (A ++ B) k n
  refine mp_lsld hL (by first | exact mp_cwc1 hi0 e_3 | omega) (by first | exact mp_cwd1 hi6 e_3 | omega) (by first | exact mp_fd_ok mp_k_code_ok (by decide +kernel) | decide +kernel) (fun v_4 hv_5 => ?_)
  show mp_W E X 4 1718 [(3, .int i), (2, .ref q2), (1, .ref q1), (0, .ref b)] [.int v_4, .ref q1] (A ++ B) k n
  refine mp_run mp_k_code_ok hF mp_tabL_ok [mp_i (.aload_n 0), mp_i (.iload_n 3), mp_c (.iconst 2) 2, mp_i .iadd] (by decide +kernel) ?_
  intro z_6 h_7
  have e_8 : z_6.toInt = i.toInt + 2 := mp_add (a := i.toInt) (b := 2) h_7 rfl (by decide) (by first | exact mp_cwa2 hi0 | omega) (by first | exact mp_cwb2 h3 hi6 | omega)
  show mp_W E X 4 1722 [(3, .int i), (2, .ref q2), (1, .ref q1), (0, .ref b)] [.int z_6, .ref b, .int v_4, .ref q1] (A ++ B) k n
  refine mp_lsld hL (by first | exact mp_cwc2 hi0 e_8 | omega) (by first | exact mp_cwd2 hi6 e_8 | omega) (by first | exact mp_fd_ok mp_k_code_ok (by decide +kernel) | decide +kernel) (fun v_9 hv_10 => ?_)
  show mp_W E X 4 1723 [(3, .int i), (2, .ref q2), (1, .ref q1), (0, .ref b)] [.int v_9, .int v_4, .ref q1] (A ++ B) k n
  refine mp_run mp_k_code_ok hF mp_tabL_ok [mp_i (.aload_n 0), mp_i (.iload_n 3), mp_c (.iconst 3) 3, mp_i .iadd] (by decide +kernel) ?_
  intro z_11 h_12
  have e_13 : z_11.toInt = i.toInt + 3 := mp_add (a := i.toInt) (b := 3) h_12 rfl (by decide) (by first | exact mp_cwa3 hi0 | omega) (by first | exact mp_cwb3 h3 hi6 | omega)
  show mp_W E X 4 1727 [(3, .int i), (2, .ref q2), (1, .ref q1), (0, .ref b)] [.int z_11, .ref b, .int v_9, .int v_4, .ref q1] (A ++ B) k n
  refine mp_lsld hL (by first | exact mp_cwc3 hi0 e_13 | omega) (by first | exact mp_cwd3 hi6 e_13 | omega) (by first | exact mp_fd_ok mp_k_code_ok (by decide +kernel) | decide +kernel) (fun v_14 hv_15 => ?_)
  show mp_W E X 4 1728 [(3, .int i), (2, .ref q2), (1, .ref q1), (0, .ref b)] [.int v_14, .int v_9, .int v_4, .ref q1] (A ++ B) k n
  refine mp_cc_drawn hF v_4 v_9 v_14 hA hW hWI (by first | exact mp_fd_ok mp_k_code_ok (by decide +kernel) | decide +kernel) (by omega) (by omega) (Nat.le_of_ble_eq_true rfl) (fun r_16 A_17 l_18 k_19 n_20 hI_21 hr_22 hk_23 hn_24 => ?_)
  show mp_W E X 4 1731 [(3, .int i), (2, .ref q2), (1, .ref q1), (0, .ref b)] [.int r_16] (A_17 ++ B) k_19 n_20
  refine mp_run mp_k_code_ok hF mp_tabL_ok [mp_i .pop, mp_i (.aload_n 2), mp_i (.aload_n 0), mp_i (.iload_n 3), mp_c (.iconst 1) 1, mp_i .iadd] (by decide +kernel) ?_
  refine And.intro rfl ?_
  intro z_25 h_26
  have e_27 : z_25.toInt = i.toInt + 1 := mp_add (a := i.toInt) (b := 1) h_26 rfl (by decide) (by first | exact mp_cwa1 hi0 | omega) (by first | exact mp_cwb1 h3 hi6 | omega)
  show mp_W E X 4 1737 [(3, .int i), (2, .ref q2), (1, .ref q1), (0, .ref b)] [.int z_25, .ref b, .ref q2] (A_17 ++ B) k_19 n_20
  refine mp_lsld hL (by first | exact mp_cwc1 hi0 e_27 | omega) (by first | exact mp_cwd1 hi6 e_27 | omega) (by first | exact mp_fd_ok mp_k_code_ok (by decide +kernel) | decide +kernel) (fun v_28 hv_29 => ?_)
  have e_30 := mp_xs_same hv_5 hv_29 (by first | exact e_27.trans e_3.symm | omega)
  subst e_30
  show mp_W E X 4 1738 [(3, .int i), (2, .ref q2), (1, .ref q1), (0, .ref b)] [.int v_4, .ref q2] (A_17 ++ B) k_19 n_20
  refine mp_run mp_k_code_ok hF mp_tabL_ok [mp_i (.aload_n 0), mp_i (.iload_n 3), mp_c (.iconst 2) 2, mp_i .iadd] (by decide +kernel) ?_
  intro z_31 h_32
  have e_33 : z_31.toInt = i.toInt + 2 := mp_add (a := i.toInt) (b := 2) h_32 rfl (by decide) (by first | exact mp_cwa2 hi0 | omega) (by first | exact mp_cwb2 h3 hi6 | omega)
  show mp_W E X 4 1742 [(3, .int i), (2, .ref q2), (1, .ref q1), (0, .ref b)] [.int z_31, .ref b, .int v_4, .ref q2] (A_17 ++ B) k_19 n_20
  refine mp_lsld hL (by first | exact mp_cwc2 hi0 e_33 | omega) (by first | exact mp_cwd2 hi6 e_33 | omega) (by first | exact mp_fd_ok mp_k_code_ok (by decide +kernel) | decide +kernel) (fun v_34 hv_35 => ?_)
  have e_36 := mp_xs_same hv_10 hv_35 (by first | exact e_33.trans e_8.symm | omega)
  subst e_36
  show mp_W E X 4 1743 [(3, .int i), (2, .ref q2), (1, .ref q1), (0, .ref b)] [.int v_9, .int v_4, .ref q2] (A_17 ++ B) k_19 n_20
  refine mp_run mp_k_code_ok hF mp_tabL_ok [mp_i (.aload_n 0), mp_i (.iload_n 3), mp_c (.iconst 3) 3, mp_i .iadd] (by decide +kernel) ?_
  intro z_37 h_38
  have e_39 : z_37.toInt = i.toInt + 3 := mp_add (a := i.toInt) (b := 3) h_38 rfl (by decide) (by first | exact mp_cwa3 hi0 | omega) (by first | exact mp_cwb3 h3 hi6 | omega)
  show mp_W E X 4 1747 [(3, .int i), (2, .ref q2), (1, .ref q1), (0, .ref b)] [.int z_37, .ref b, .int v_9, .int v_4, .ref q2] (A_17 ++ B) k_19 n_20
  refine mp_lsld hL (by first | exact mp_cwc3 hi0 e_39 | omega) (by first | exact mp_cwd3 hi6 e_39 | omega) (by first | exact mp_fd_ok mp_k_code_ok (by decide +kernel) | decide +kernel) (fun v_40 hv_41 => ?_)
  have e_42 := mp_xs_same hv_15 hv_41 (by first | exact e_39.trans e_13.symm | omega)
  subst e_42
  show mp_W E X 4 1748 [(3, .int i), (2, .ref q2), (1, .ref q1), (0, .ref b)] [.int v_14, .int v_9, .int v_4, .ref q2] (A_17 ++ B) k_19 n_20
  refine mp_swap ?_
  refine mp_cm_drawn hF v_4 v_9 v_14 hB hW hWI (by first | exact mp_fd_ok mp_k_code_ok (by decide +kernel) | decide +kernel) (by omega) (by omega) (Nat.le_of_ble_eq_true rfl) (fun r_43 A_44 l_45 k_46 n_47 hI_48 hr_49 hk_50 hn_51 => ?_)
  refine mp_swap ?_
  show mp_W E X 4 1751 [(3, .int i), (2, .ref q2), (1, .ref q1), (0, .ref b)] [.int r_43] (A_17 ++ A_44) k_46 n_47
  refine mp_run mp_k_code_ok hF mp_tabL_ok [mp_i .pop, mp_h (.goto 466) [2218]] (by decide +kernel) ?_
  refine And.intro rfl ?_
  show mp_W E X 4 2218 [(3, .int i), (2, .ref q2), (1, .ref q1), (0, .ref b)] [] (A_17 ++ A_44) k_46 n_47
  have hl_ : l_18 = l_45 := by omega
  exact kk _ _ _ _ _ _ _ _ _ _ _ _ _ _ _ hSL hW hWI hI_21 (hl_ ▸ hI_48) (by omega) (by omega)
set_option maxHeartbeats 4000000 in
set_option maxRecDepth 100000 in
theorem mp_case_49 {E : mp_E} {X : mp_X} {b L : Nat} {xs : Nat → Int32} (hL : mp_Lw E X b L xs) (h3 : L ≤ 3072) {i : Int32} (hi0 : 0 ≤ i.toInt) (hi6 : i.toInt + 6 ≤ L) {q1 q2 : Nat} {len : Int} {sw sl mw mm : Nat → Int32} {kp : Nat → Bool} {tp : Nat → Int32} {ft fp : Int} {td : mp_TD} {it : Nat → mp_TD} {A B : va_W} {k n : Nat} (hSL : mp_SL sw sl mw mm) (hW : mp_WF td) (hWI : ∀ j : Nat, mp_WF (it j)) (hA : mp_IC E q1 len sw sl kp tp ft fp td it A) (hB : mp_IM E q2 len mw mm kp tp ft fp td it B) (hk : k + 13 ≤ 600000) (hn : n + 204 ≤ 7302250) (kk : ∀ (len2 : Int) (sw2 sl2 mw2 mm2 : Nat → Int32) (kp2 : Nat → Bool) (tp2 : Nat → Int32) (ft2 fp2 : Int) (td2 : mp_TD) (it2 : Nat → mp_TD) (A2 B2 : va_W) (k2 n2 : Nat), mp_SL sw2 sl2 mw2 mm2 → mp_WF td2 → (∀ j : Nat, mp_WF (it2 j)) → mp_IC E q1 len2 sw2 sl2 kp2 tp2 ft2 fp2 td2 it2 A2 → mp_IM E q2 len2 mw2 mm2 kp2 tp2 ft2 fp2 td2 it2 B2 → k2 ≤ k + 13 → n2 ≤ n + 204 → mp_W E X 4 2218 [(3, .int i), (2, .ref q2), (1, .ref q1), (0, .ref b)] [] (A2 ++ B2) k2 n2) : mp_W E X 4 1755 [(3, .int i), (2, .ref q2), (1, .ref q1), (0, .ref b)] [] (A ++ B) k n := by
  have hF : mp_F E X mp_ML := hL.1
  show mp_W E X 4 1755 [(3, .int i), (2, .ref q2), (1, .ref q1), (0, .ref b)] [] (A ++ B) k n
  refine mp_run mp_k_code_ok hF mp_tabL_ok [mp_i (.aload_n 1), mp_i (.aload_n 0), mp_i (.iload_n 3), mp_c (.iconst 1) 1, mp_i .iadd] (by decide +kernel) ?_
  intro z_1 h_2
  have e_3 : z_1.toInt = i.toInt + 1 := mp_add (a := i.toInt) (b := 1) h_2 rfl (by decide) (by first | exact mp_cwa1 hi0 | omega) (by first | exact mp_cwb1 h3 hi6 | omega)
  show mp_W E X 4 1760 [(3, .int i), (2, .ref q2), (1, .ref q1), (0, .ref b)] [.int z_1, .ref b, .ref q1] (A ++ B) k n
  refine mp_lsld hL (by first | exact mp_cwc1 hi0 e_3 | omega) (by first | exact mp_cwd1 hi6 e_3 | omega) (by first | exact mp_fd_ok mp_k_code_ok (by decide +kernel) | decide +kernel) (fun v_4 hv_5 => ?_)
  show mp_W E X 4 1761 [(3, .int i), (2, .ref q2), (1, .ref q1), (0, .ref b)] [.int v_4, .ref q1] (A ++ B) k n
  refine mp_run mp_k_code_ok hF mp_tabL_ok [mp_i (.aload_n 0), mp_i (.iload_n 3), mp_c (.iconst 2) 2, mp_i .iadd] (by decide +kernel) ?_
  intro z_6 h_7
  have e_8 : z_6.toInt = i.toInt + 2 := mp_add (a := i.toInt) (b := 2) h_7 rfl (by decide) (by first | exact mp_cwa2 hi0 | omega) (by first | exact mp_cwb2 h3 hi6 | omega)
  show mp_W E X 4 1765 [(3, .int i), (2, .ref q2), (1, .ref q1), (0, .ref b)] [.int z_6, .ref b, .int v_4, .ref q1] (A ++ B) k n
  refine mp_lsld hL (by first | exact mp_cwc2 hi0 e_8 | omega) (by first | exact mp_cwd2 hi6 e_8 | omega) (by first | exact mp_fd_ok mp_k_code_ok (by decide +kernel) | decide +kernel) (fun v_9 hv_10 => ?_)
  show mp_W E X 4 1766 [(3, .int i), (2, .ref q2), (1, .ref q1), (0, .ref b)] [.int v_9, .int v_4, .ref q1] (A ++ B) k n
  refine mp_run mp_k_code_ok hF mp_tabL_ok [mp_i (.aload_n 0), mp_i (.iload_n 3), mp_c (.iconst 3) 3, mp_i .iadd] (by decide +kernel) ?_
  intro z_11 h_12
  have e_13 : z_11.toInt = i.toInt + 3 := mp_add (a := i.toInt) (b := 3) h_12 rfl (by decide) (by first | exact mp_cwa3 hi0 | omega) (by first | exact mp_cwb3 h3 hi6 | omega)
  show mp_W E X 4 1770 [(3, .int i), (2, .ref q2), (1, .ref q1), (0, .ref b)] [.int z_11, .ref b, .int v_9, .int v_4, .ref q1] (A ++ B) k n
  refine mp_lsld hL (by first | exact mp_cwc3 hi0 e_13 | omega) (by first | exact mp_cwd3 hi6 e_13 | omega) (by first | exact mp_fd_ok mp_k_code_ok (by decide +kernel) | decide +kernel) (fun v_14 hv_15 => ?_)
  show mp_W E X 4 1771 [(3, .int i), (2, .ref q2), (1, .ref q1), (0, .ref b)] [.int v_14, .int v_9, .int v_4, .ref q1] (A ++ B) k n
  refine mp_cc_often hF v_4 v_9 v_14 hA hW hWI (by first | exact mp_fd_ok mp_k_code_ok (by decide +kernel) | decide +kernel) (by omega) (by omega) (Nat.le_of_ble_eq_true rfl) (fun r_16 A_17 l_18 k_19 n_20 hI_21 hr_22 hk_23 hn_24 => ?_)
  show mp_W E X 4 1774 [(3, .int i), (2, .ref q2), (1, .ref q1), (0, .ref b)] [.int r_16] (A_17 ++ B) k_19 n_20
  refine mp_run mp_k_code_ok hF mp_tabL_ok [mp_i .pop, mp_i (.aload_n 2), mp_i (.aload_n 0), mp_i (.iload_n 3), mp_c (.iconst 1) 1, mp_i .iadd] (by decide +kernel) ?_
  refine And.intro rfl ?_
  intro z_25 h_26
  have e_27 : z_25.toInt = i.toInt + 1 := mp_add (a := i.toInt) (b := 1) h_26 rfl (by decide) (by first | exact mp_cwa1 hi0 | omega) (by first | exact mp_cwb1 h3 hi6 | omega)
  show mp_W E X 4 1780 [(3, .int i), (2, .ref q2), (1, .ref q1), (0, .ref b)] [.int z_25, .ref b, .ref q2] (A_17 ++ B) k_19 n_20
  refine mp_lsld hL (by first | exact mp_cwc1 hi0 e_27 | omega) (by first | exact mp_cwd1 hi6 e_27 | omega) (by first | exact mp_fd_ok mp_k_code_ok (by decide +kernel) | decide +kernel) (fun v_28 hv_29 => ?_)
  have e_30 := mp_xs_same hv_5 hv_29 (by first | exact e_27.trans e_3.symm | omega)
  subst e_30
  show mp_W E X 4 1781 [(3, .int i), (2, .ref q2), (1, .ref q1), (0, .ref b)] [.int v_4, .ref q2] (A_17 ++ B) k_19 n_20
  refine mp_run mp_k_code_ok hF mp_tabL_ok [mp_i (.aload_n 0), mp_i (.iload_n 3), mp_c (.iconst 2) 2, mp_i .iadd] (by decide +kernel) ?_
  intro z_31 h_32
  have e_33 : z_31.toInt = i.toInt + 2 := mp_add (a := i.toInt) (b := 2) h_32 rfl (by decide) (by first | exact mp_cwa2 hi0 | omega) (by first | exact mp_cwb2 h3 hi6 | omega)
  show mp_W E X 4 1785 [(3, .int i), (2, .ref q2), (1, .ref q1), (0, .ref b)] [.int z_31, .ref b, .int v_4, .ref q2] (A_17 ++ B) k_19 n_20
  refine mp_lsld hL (by first | exact mp_cwc2 hi0 e_33 | omega) (by first | exact mp_cwd2 hi6 e_33 | omega) (by first | exact mp_fd_ok mp_k_code_ok (by decide +kernel) | decide +kernel) (fun v_34 hv_35 => ?_)
  have e_36 := mp_xs_same hv_10 hv_35 (by first | exact e_33.trans e_8.symm | omega)
  subst e_36
  show mp_W E X 4 1786 [(3, .int i), (2, .ref q2), (1, .ref q1), (0, .ref b)] [.int v_9, .int v_4, .ref q2] (A_17 ++ B) k_19 n_20
  refine mp_run mp_k_code_ok hF mp_tabL_ok [mp_i (.aload_n 0), mp_i (.iload_n 3), mp_c (.iconst 3) 3, mp_i .iadd] (by decide +kernel) ?_
  intro z_37 h_38
  have e_39 : z_37.toInt = i.toInt + 3 := mp_add (a := i.toInt) (b := 3) h_38 rfl (by decide) (by first | exact mp_cwa3 hi0 | omega) (by first | exact mp_cwb3 h3 hi6 | omega)
  show mp_W E X 4 1790 [(3, .int i), (2, .ref q2), (1, .ref q1), (0, .ref b)] [.int z_37, .ref b, .int v_9, .int v_4, .ref q2] (A_17 ++ B) k_19 n_20
  refine mp_lsld hL (by first | exact mp_cwc3 hi0 e_39 | omega) (by first | exact mp_cwd3 hi6 e_39 | omega) (by first | exact mp_fd_ok mp_k_code_ok (by decide +kernel) | decide +kernel) (fun v_40 hv_41 => ?_)
  have e_42 := mp_xs_same hv_15 hv_41 (by first | exact e_39.trans e_13.symm | omega)
  subst e_42
  show mp_W E X 4 1791 [(3, .int i), (2, .ref q2), (1, .ref q1), (0, .ref b)] [.int v_14, .int v_9, .int v_4, .ref q2] (A_17 ++ B) k_19 n_20
  refine mp_swap ?_
  refine mp_cm_often hF v_4 v_9 v_14 hB hW hWI (by first | exact mp_fd_ok mp_k_code_ok (by decide +kernel) | decide +kernel) (by omega) (by omega) (Nat.le_of_ble_eq_true rfl) (fun r_43 A_44 l_45 k_46 n_47 hI_48 hr_49 hk_50 hn_51 => ?_)
  refine mp_swap ?_
  show mp_W E X 4 1794 [(3, .int i), (2, .ref q2), (1, .ref q1), (0, .ref b)] [.int r_43] (A_17 ++ A_44) k_46 n_47
  refine mp_run mp_k_code_ok hF mp_tabL_ok [mp_i .pop, mp_h (.goto 423) [2218]] (by decide +kernel) ?_
  refine And.intro rfl ?_
  show mp_W E X 4 2218 [(3, .int i), (2, .ref q2), (1, .ref q1), (0, .ref b)] [] (A_17 ++ A_44) k_46 n_47
  have hl_ : l_18 = l_45 := by omega
  exact kk _ _ _ _ _ _ _ _ _ _ _ _ _ _ _ hSL hW hWI hI_21 (hl_ ▸ hI_48) (by omega) (by omega)
set_option maxHeartbeats 4000000 in
set_option maxRecDepth 100000 in
theorem mp_case_50 {E : mp_E} {X : mp_X} {b L : Nat} {xs : Nat → Int32} (hL : mp_Lw E X b L xs) (h3 : L ≤ 3072) {i : Int32} (hi0 : 0 ≤ i.toInt) (hi6 : i.toInt + 6 ≤ L) {q1 q2 : Nat} {len : Int} {sw sl mw mm : Nat → Int32} {kp : Nat → Bool} {tp : Nat → Int32} {ft fp : Int} {td : mp_TD} {it : Nat → mp_TD} {A B : va_W} {k n : Nat} (hSL : mp_SL sw sl mw mm) (hW : mp_WF td) (hWI : ∀ j : Nat, mp_WF (it j)) (hA : mp_IC E q1 len sw sl kp tp ft fp td it A) (hB : mp_IM E q2 len mw mm kp tp ft fp td it B) (hk : k + 13 ≤ 600000) (hn : n + 204 ≤ 7302250) (kk : ∀ (len2 : Int) (sw2 sl2 mw2 mm2 : Nat → Int32) (kp2 : Nat → Bool) (tp2 : Nat → Int32) (ft2 fp2 : Int) (td2 : mp_TD) (it2 : Nat → mp_TD) (A2 B2 : va_W) (k2 n2 : Nat), mp_SL sw2 sl2 mw2 mm2 → mp_WF td2 → (∀ j : Nat, mp_WF (it2 j)) → mp_IC E q1 len2 sw2 sl2 kp2 tp2 ft2 fp2 td2 it2 A2 → mp_IM E q2 len2 mw2 mm2 kp2 tp2 ft2 fp2 td2 it2 B2 → k2 ≤ k + 13 → n2 ≤ n + 204 → mp_W E X 4 2218 [(3, .int i), (2, .ref q2), (1, .ref q1), (0, .ref b)] [] (A2 ++ B2) k2 n2) : mp_W E X 4 1798 [(3, .int i), (2, .ref q2), (1, .ref q1), (0, .ref b)] [] (A ++ B) k n := by
  have hF : mp_F E X mp_ML := hL.1
  show mp_W E X 4 1798 [(3, .int i), (2, .ref q2), (1, .ref q1), (0, .ref b)] [] (A ++ B) k n
  refine mp_run mp_k_code_ok hF mp_tabL_ok [mp_i (.aload_n 1), mp_i (.aload_n 0), mp_i (.iload_n 3), mp_c (.iconst 1) 1, mp_i .iadd] (by decide +kernel) ?_
  intro z_1 h_2
  have e_3 : z_1.toInt = i.toInt + 1 := mp_add (a := i.toInt) (b := 1) h_2 rfl (by decide) (by first | exact mp_cwa1 hi0 | omega) (by first | exact mp_cwb1 h3 hi6 | omega)
  show mp_W E X 4 1803 [(3, .int i), (2, .ref q2), (1, .ref q1), (0, .ref b)] [.int z_1, .ref b, .ref q1] (A ++ B) k n
  refine mp_lsld hL (by first | exact mp_cwc1 hi0 e_3 | omega) (by first | exact mp_cwd1 hi6 e_3 | omega) (by first | exact mp_fd_ok mp_k_code_ok (by decide +kernel) | decide +kernel) (fun v_4 hv_5 => ?_)
  show mp_W E X 4 1804 [(3, .int i), (2, .ref q2), (1, .ref q1), (0, .ref b)] [.int v_4, .ref q1] (A ++ B) k n
  refine mp_run mp_k_code_ok hF mp_tabL_ok [mp_i (.aload_n 0), mp_i (.iload_n 3), mp_c (.iconst 2) 2, mp_i .iadd] (by decide +kernel) ?_
  intro z_6 h_7
  have e_8 : z_6.toInt = i.toInt + 2 := mp_add (a := i.toInt) (b := 2) h_7 rfl (by decide) (by first | exact mp_cwa2 hi0 | omega) (by first | exact mp_cwb2 h3 hi6 | omega)
  show mp_W E X 4 1808 [(3, .int i), (2, .ref q2), (1, .ref q1), (0, .ref b)] [.int z_6, .ref b, .int v_4, .ref q1] (A ++ B) k n
  refine mp_lsld hL (by first | exact mp_cwc2 hi0 e_8 | omega) (by first | exact mp_cwd2 hi6 e_8 | omega) (by first | exact mp_fd_ok mp_k_code_ok (by decide +kernel) | decide +kernel) (fun v_9 hv_10 => ?_)
  show mp_W E X 4 1809 [(3, .int i), (2, .ref q2), (1, .ref q1), (0, .ref b)] [.int v_9, .int v_4, .ref q1] (A ++ B) k n
  refine mp_run mp_k_code_ok hF mp_tabL_ok [mp_i (.aload_n 0), mp_i (.iload_n 3), mp_c (.iconst 3) 3, mp_i .iadd] (by decide +kernel) ?_
  intro z_11 h_12
  have e_13 : z_11.toInt = i.toInt + 3 := mp_add (a := i.toInt) (b := 3) h_12 rfl (by decide) (by first | exact mp_cwa3 hi0 | omega) (by first | exact mp_cwb3 h3 hi6 | omega)
  show mp_W E X 4 1813 [(3, .int i), (2, .ref q2), (1, .ref q1), (0, .ref b)] [.int z_11, .ref b, .int v_9, .int v_4, .ref q1] (A ++ B) k n
  refine mp_lsld hL (by first | exact mp_cwc3 hi0 e_13 | omega) (by first | exact mp_cwd3 hi6 e_13 | omega) (by first | exact mp_fd_ok mp_k_code_ok (by decide +kernel) | decide +kernel) (fun v_14 hv_15 => ?_)
  show mp_W E X 4 1814 [(3, .int i), (2, .ref q2), (1, .ref q1), (0, .ref b)] [.int v_14, .int v_9, .int v_4, .ref q1] (A ++ B) k n
  refine mp_run mp_k_code_ok hF mp_tabL_ok [mp_i (.aload_n 0), mp_i (.iload_n 3), mp_c (.iconst 4) 4, mp_i .iadd] (by decide +kernel) ?_
  intro z_16 h_17
  have e_18 : z_16.toInt = i.toInt + 4 := mp_add (a := i.toInt) (b := 4) h_17 rfl (by decide) (by first | exact mp_cwa4 hi0 | omega) (by first | exact mp_cwb4 h3 hi6 | omega)
  show mp_W E X 4 1818 [(3, .int i), (2, .ref q2), (1, .ref q1), (0, .ref b)] [.int z_16, .ref b, .int v_14, .int v_9, .int v_4, .ref q1] (A ++ B) k n
  refine mp_lsld hL (by first | exact mp_cwc4 hi0 e_18 | omega) (by first | exact mp_cwd4 hi6 e_18 | omega) (by first | exact mp_fd_ok mp_k_code_ok (by decide +kernel) | decide +kernel) (fun v_19 hv_20 => ?_)
  show mp_W E X 4 1819 [(3, .int i), (2, .ref q2), (1, .ref q1), (0, .ref b)] [.int v_19, .int v_14, .int v_9, .int v_4, .ref q1] (A ++ B) k n
  refine mp_cc_lucky hF v_4 v_9 v_14 v_19 hA hW hWI (by first | exact mp_fd_ok mp_k_code_ok (by decide +kernel) | decide +kernel) (by omega) (by omega) (Nat.le_of_ble_eq_true rfl) (fun r_21 A_22 l_23 k_24 n_25 hI_26 hr_27 hk_28 hn_29 => ?_)
  show mp_W E X 4 1822 [(3, .int i), (2, .ref q2), (1, .ref q1), (0, .ref b)] [.int r_21] (A_22 ++ B) k_24 n_25
  refine mp_run mp_k_code_ok hF mp_tabL_ok [mp_i .pop, mp_i (.aload_n 2), mp_i (.aload_n 0), mp_i (.iload_n 3), mp_c (.iconst 1) 1, mp_i .iadd] (by decide +kernel) ?_
  refine And.intro rfl ?_
  intro z_30 h_31
  have e_32 : z_30.toInt = i.toInt + 1 := mp_add (a := i.toInt) (b := 1) h_31 rfl (by decide) (by first | exact mp_cwa1 hi0 | omega) (by first | exact mp_cwb1 h3 hi6 | omega)
  show mp_W E X 4 1828 [(3, .int i), (2, .ref q2), (1, .ref q1), (0, .ref b)] [.int z_30, .ref b, .ref q2] (A_22 ++ B) k_24 n_25
  refine mp_lsld hL (by first | exact mp_cwc1 hi0 e_32 | omega) (by first | exact mp_cwd1 hi6 e_32 | omega) (by first | exact mp_fd_ok mp_k_code_ok (by decide +kernel) | decide +kernel) (fun v_33 hv_34 => ?_)
  have e_35 := mp_xs_same hv_5 hv_34 (by first | exact e_32.trans e_3.symm | omega)
  subst e_35
  show mp_W E X 4 1829 [(3, .int i), (2, .ref q2), (1, .ref q1), (0, .ref b)] [.int v_4, .ref q2] (A_22 ++ B) k_24 n_25
  refine mp_run mp_k_code_ok hF mp_tabL_ok [mp_i (.aload_n 0), mp_i (.iload_n 3), mp_c (.iconst 2) 2, mp_i .iadd] (by decide +kernel) ?_
  intro z_36 h_37
  have e_38 : z_36.toInt = i.toInt + 2 := mp_add (a := i.toInt) (b := 2) h_37 rfl (by decide) (by first | exact mp_cwa2 hi0 | omega) (by first | exact mp_cwb2 h3 hi6 | omega)
  show mp_W E X 4 1833 [(3, .int i), (2, .ref q2), (1, .ref q1), (0, .ref b)] [.int z_36, .ref b, .int v_4, .ref q2] (A_22 ++ B) k_24 n_25
  refine mp_lsld hL (by first | exact mp_cwc2 hi0 e_38 | omega) (by first | exact mp_cwd2 hi6 e_38 | omega) (by first | exact mp_fd_ok mp_k_code_ok (by decide +kernel) | decide +kernel) (fun v_39 hv_40 => ?_)
  have e_41 := mp_xs_same hv_10 hv_40 (by first | exact e_38.trans e_8.symm | omega)
  subst e_41
  show mp_W E X 4 1834 [(3, .int i), (2, .ref q2), (1, .ref q1), (0, .ref b)] [.int v_9, .int v_4, .ref q2] (A_22 ++ B) k_24 n_25
  refine mp_run mp_k_code_ok hF mp_tabL_ok [mp_i (.aload_n 0), mp_i (.iload_n 3), mp_c (.iconst 3) 3, mp_i .iadd] (by decide +kernel) ?_
  intro z_42 h_43
  have e_44 : z_42.toInt = i.toInt + 3 := mp_add (a := i.toInt) (b := 3) h_43 rfl (by decide) (by first | exact mp_cwa3 hi0 | omega) (by first | exact mp_cwb3 h3 hi6 | omega)
  show mp_W E X 4 1838 [(3, .int i), (2, .ref q2), (1, .ref q1), (0, .ref b)] [.int z_42, .ref b, .int v_9, .int v_4, .ref q2] (A_22 ++ B) k_24 n_25
  refine mp_lsld hL (by first | exact mp_cwc3 hi0 e_44 | omega) (by first | exact mp_cwd3 hi6 e_44 | omega) (by first | exact mp_fd_ok mp_k_code_ok (by decide +kernel) | decide +kernel) (fun v_45 hv_46 => ?_)
  have e_47 := mp_xs_same hv_15 hv_46 (by first | exact e_44.trans e_13.symm | omega)
  subst e_47
  show mp_W E X 4 1839 [(3, .int i), (2, .ref q2), (1, .ref q1), (0, .ref b)] [.int v_14, .int v_9, .int v_4, .ref q2] (A_22 ++ B) k_24 n_25
  refine mp_run mp_k_code_ok hF mp_tabL_ok [mp_i (.aload_n 0), mp_i (.iload_n 3), mp_c (.iconst 4) 4, mp_i .iadd] (by decide +kernel) ?_
  intro z_48 h_49
  have e_50 : z_48.toInt = i.toInt + 4 := mp_add (a := i.toInt) (b := 4) h_49 rfl (by decide) (by first | exact mp_cwa4 hi0 | omega) (by first | exact mp_cwb4 h3 hi6 | omega)
  show mp_W E X 4 1843 [(3, .int i), (2, .ref q2), (1, .ref q1), (0, .ref b)] [.int z_48, .ref b, .int v_14, .int v_9, .int v_4, .ref q2] (A_22 ++ B) k_24 n_25
  refine mp_lsld hL (by first | exact mp_cwc4 hi0 e_50 | omega) (by first | exact mp_cwd4 hi6 e_50 | omega) (by first | exact mp_fd_ok mp_k_code_ok (by decide +kernel) | decide +kernel) (fun v_51 hv_52 => ?_)
  have e_53 := mp_xs_same hv_20 hv_52 (by first | exact e_50.trans e_18.symm | omega)
  subst e_53
  show mp_W E X 4 1844 [(3, .int i), (2, .ref q2), (1, .ref q1), (0, .ref b)] [.int v_19, .int v_14, .int v_9, .int v_4, .ref q2] (A_22 ++ B) k_24 n_25
  refine mp_swap ?_
  refine mp_cm_lucky hF v_4 v_9 v_14 v_19 hB hW hWI (by first | exact mp_fd_ok mp_k_code_ok (by decide +kernel) | decide +kernel) (by omega) (by omega) (Nat.le_of_ble_eq_true rfl) (fun r_54 A_55 l_56 k_57 n_58 hI_59 hr_60 hk_61 hn_62 => ?_)
  refine mp_swap ?_
  show mp_W E X 4 1847 [(3, .int i), (2, .ref q2), (1, .ref q1), (0, .ref b)] [.int r_54] (A_22 ++ A_55) k_57 n_58
  refine mp_run mp_k_code_ok hF mp_tabL_ok [mp_i .pop, mp_h (.goto 370) [2218]] (by decide +kernel) ?_
  refine And.intro rfl ?_
  show mp_W E X 4 2218 [(3, .int i), (2, .ref q2), (1, .ref q1), (0, .ref b)] [] (A_22 ++ A_55) k_57 n_58
  have hl_ : l_23 = l_56 := by omega
  exact kk _ _ _ _ _ _ _ _ _ _ _ _ _ _ _ hSL hW hWI hI_26 (hl_ ▸ hI_59) (by omega) (by omega)
set_option maxHeartbeats 4000000 in
set_option maxRecDepth 100000 in
theorem mp_case_51 {E : mp_E} {X : mp_X} {b L : Nat} {xs : Nat → Int32} (hL : mp_Lw E X b L xs) (h3 : L ≤ 3072) {i : Int32} (hi0 : 0 ≤ i.toInt) (hi6 : i.toInt + 6 ≤ L) {q1 q2 : Nat} {len : Int} {sw sl mw mm : Nat → Int32} {kp : Nat → Bool} {tp : Nat → Int32} {ft fp : Int} {td : mp_TD} {it : Nat → mp_TD} {A B : va_W} {k n : Nat} (hSL : mp_SL sw sl mw mm) (hW : mp_WF td) (hWI : ∀ j : Nat, mp_WF (it j)) (hA : mp_IC E q1 len sw sl kp tp ft fp td it A) (hB : mp_IM E q2 len mw mm kp tp ft fp td it B) (hk : k + 13 ≤ 600000) (hn : n + 204 ≤ 7302250) (kk : ∀ (len2 : Int) (sw2 sl2 mw2 mm2 : Nat → Int32) (kp2 : Nat → Bool) (tp2 : Nat → Int32) (ft2 fp2 : Int) (td2 : mp_TD) (it2 : Nat → mp_TD) (A2 B2 : va_W) (k2 n2 : Nat), mp_SL sw2 sl2 mw2 mm2 → mp_WF td2 → (∀ j : Nat, mp_WF (it2 j)) → mp_IC E q1 len2 sw2 sl2 kp2 tp2 ft2 fp2 td2 it2 A2 → mp_IM E q2 len2 mw2 mm2 kp2 tp2 ft2 fp2 td2 it2 B2 → k2 ≤ k + 13 → n2 ≤ n + 204 → mp_W E X 4 2218 [(3, .int i), (2, .ref q2), (1, .ref q1), (0, .ref b)] [] (A2 ++ B2) k2 n2) : mp_W E X 4 1851 [(3, .int i), (2, .ref q2), (1, .ref q1), (0, .ref b)] [] (A ++ B) k n := by
  have hF : mp_F E X mp_ML := hL.1
  show mp_W E X 4 1851 [(3, .int i), (2, .ref q2), (1, .ref q1), (0, .ref b)] [] (A ++ B) k n
  refine mp_run mp_k_code_ok hF mp_tabL_ok [mp_i (.aload_n 1), mp_i (.aload_n 0), mp_i (.iload_n 3), mp_c (.iconst 1) 1, mp_i .iadd] (by decide +kernel) ?_
  intro z_1 h_2
  have e_3 : z_1.toInt = i.toInt + 1 := mp_add (a := i.toInt) (b := 1) h_2 rfl (by decide) (by first | exact mp_cwa1 hi0 | omega) (by first | exact mp_cwb1 h3 hi6 | omega)
  show mp_W E X 4 1856 [(3, .int i), (2, .ref q2), (1, .ref q1), (0, .ref b)] [.int z_1, .ref b, .ref q1] (A ++ B) k n
  refine mp_lsld hL (by first | exact mp_cwc1 hi0 e_3 | omega) (by first | exact mp_cwd1 hi6 e_3 | omega) (by first | exact mp_fd_ok mp_k_code_ok (by decide +kernel) | decide +kernel) (fun v_4 hv_5 => ?_)
  show mp_W E X 4 1857 [(3, .int i), (2, .ref q2), (1, .ref q1), (0, .ref b)] [.int v_4, .ref q1] (A ++ B) k n
  refine mp_run mp_k_code_ok hF mp_tabL_ok [mp_i (.aload_n 0), mp_i (.iload_n 3), mp_c (.iconst 2) 2, mp_i .iadd] (by decide +kernel) ?_
  intro z_6 h_7
  have e_8 : z_6.toInt = i.toInt + 2 := mp_add (a := i.toInt) (b := 2) h_7 rfl (by decide) (by first | exact mp_cwa2 hi0 | omega) (by first | exact mp_cwb2 h3 hi6 | omega)
  show mp_W E X 4 1861 [(3, .int i), (2, .ref q2), (1, .ref q1), (0, .ref b)] [.int z_6, .ref b, .int v_4, .ref q1] (A ++ B) k n
  refine mp_lsld hL (by first | exact mp_cwc2 hi0 e_8 | omega) (by first | exact mp_cwd2 hi6 e_8 | omega) (by first | exact mp_fd_ok mp_k_code_ok (by decide +kernel) | decide +kernel) (fun v_9 hv_10 => ?_)
  show mp_W E X 4 1862 [(3, .int i), (2, .ref q2), (1, .ref q1), (0, .ref b)] [.int v_9, .int v_4, .ref q1] (A ++ B) k n
  refine mp_run mp_k_code_ok hF mp_tabL_ok [mp_i (.aload_n 0), mp_i (.iload_n 3), mp_c (.iconst 3) 3, mp_i .iadd] (by decide +kernel) ?_
  intro z_11 h_12
  have e_13 : z_11.toInt = i.toInt + 3 := mp_add (a := i.toInt) (b := 3) h_12 rfl (by decide) (by first | exact mp_cwa3 hi0 | omega) (by first | exact mp_cwb3 h3 hi6 | omega)
  show mp_W E X 4 1866 [(3, .int i), (2, .ref q2), (1, .ref q1), (0, .ref b)] [.int z_11, .ref b, .int v_9, .int v_4, .ref q1] (A ++ B) k n
  refine mp_lsld hL (by first | exact mp_cwc3 hi0 e_13 | omega) (by first | exact mp_cwd3 hi6 e_13 | omega) (by first | exact mp_fd_ok mp_k_code_ok (by decide +kernel) | decide +kernel) (fun v_14 hv_15 => ?_)
  show mp_W E X 4 1867 [(3, .int i), (2, .ref q2), (1, .ref q1), (0, .ref b)] [.int v_14, .int v_9, .int v_4, .ref q1] (A ++ B) k n
  refine mp_cc_promises hF v_4 v_9 v_14 hA hW hWI (by first | exact mp_fd_ok mp_k_code_ok (by decide +kernel) | decide +kernel) (by omega) (by omega) (Nat.le_of_ble_eq_true rfl) (fun r_16 A_17 l_18 k_19 n_20 hI_21 hr_22 hk_23 hn_24 => ?_)
  show mp_W E X 4 1870 [(3, .int i), (2, .ref q2), (1, .ref q1), (0, .ref b)] [.int r_16] (A_17 ++ B) k_19 n_20
  refine mp_run mp_k_code_ok hF mp_tabL_ok [mp_i .pop, mp_i (.aload_n 2), mp_i (.aload_n 0), mp_i (.iload_n 3), mp_c (.iconst 1) 1, mp_i .iadd] (by decide +kernel) ?_
  refine And.intro rfl ?_
  intro z_25 h_26
  have e_27 : z_25.toInt = i.toInt + 1 := mp_add (a := i.toInt) (b := 1) h_26 rfl (by decide) (by first | exact mp_cwa1 hi0 | omega) (by first | exact mp_cwb1 h3 hi6 | omega)
  show mp_W E X 4 1876 [(3, .int i), (2, .ref q2), (1, .ref q1), (0, .ref b)] [.int z_25, .ref b, .ref q2] (A_17 ++ B) k_19 n_20
  refine mp_lsld hL (by first | exact mp_cwc1 hi0 e_27 | omega) (by first | exact mp_cwd1 hi6 e_27 | omega) (by first | exact mp_fd_ok mp_k_code_ok (by decide +kernel) | decide +kernel) (fun v_28 hv_29 => ?_)
  have e_30 := mp_xs_same hv_5 hv_29 (by first | exact e_27.trans e_3.symm | omega)
  subst e_30
  show mp_W E X 4 1877 [(3, .int i), (2, .ref q2), (1, .ref q1), (0, .ref b)] [.int v_4, .ref q2] (A_17 ++ B) k_19 n_20
  refine mp_run mp_k_code_ok hF mp_tabL_ok [mp_i (.aload_n 0), mp_i (.iload_n 3), mp_c (.iconst 2) 2, mp_i .iadd] (by decide +kernel) ?_
  intro z_31 h_32
  have e_33 : z_31.toInt = i.toInt + 2 := mp_add (a := i.toInt) (b := 2) h_32 rfl (by decide) (by first | exact mp_cwa2 hi0 | omega) (by first | exact mp_cwb2 h3 hi6 | omega)
  show mp_W E X 4 1881 [(3, .int i), (2, .ref q2), (1, .ref q1), (0, .ref b)] [.int z_31, .ref b, .int v_4, .ref q2] (A_17 ++ B) k_19 n_20
  refine mp_lsld hL (by first | exact mp_cwc2 hi0 e_33 | omega) (by first | exact mp_cwd2 hi6 e_33 | omega) (by first | exact mp_fd_ok mp_k_code_ok (by decide +kernel) | decide +kernel) (fun v_34 hv_35 => ?_)
  have e_36 := mp_xs_same hv_10 hv_35 (by first | exact e_33.trans e_8.symm | omega)
  subst e_36
  show mp_W E X 4 1882 [(3, .int i), (2, .ref q2), (1, .ref q1), (0, .ref b)] [.int v_9, .int v_4, .ref q2] (A_17 ++ B) k_19 n_20
  refine mp_run mp_k_code_ok hF mp_tabL_ok [mp_i (.aload_n 0), mp_i (.iload_n 3), mp_c (.iconst 3) 3, mp_i .iadd] (by decide +kernel) ?_
  intro z_37 h_38
  have e_39 : z_37.toInt = i.toInt + 3 := mp_add (a := i.toInt) (b := 3) h_38 rfl (by decide) (by first | exact mp_cwa3 hi0 | omega) (by first | exact mp_cwb3 h3 hi6 | omega)
  show mp_W E X 4 1886 [(3, .int i), (2, .ref q2), (1, .ref q1), (0, .ref b)] [.int z_37, .ref b, .int v_9, .int v_4, .ref q2] (A_17 ++ B) k_19 n_20
  refine mp_lsld hL (by first | exact mp_cwc3 hi0 e_39 | omega) (by first | exact mp_cwd3 hi6 e_39 | omega) (by first | exact mp_fd_ok mp_k_code_ok (by decide +kernel) | decide +kernel) (fun v_40 hv_41 => ?_)
  have e_42 := mp_xs_same hv_15 hv_41 (by first | exact e_39.trans e_13.symm | omega)
  subst e_42
  show mp_W E X 4 1887 [(3, .int i), (2, .ref q2), (1, .ref q1), (0, .ref b)] [.int v_14, .int v_9, .int v_4, .ref q2] (A_17 ++ B) k_19 n_20
  refine mp_swap ?_
  refine mp_cm_promises hF v_4 v_9 v_14 hB hW hWI (by first | exact mp_fd_ok mp_k_code_ok (by decide +kernel) | decide +kernel) (by omega) (by omega) (Nat.le_of_ble_eq_true rfl) (fun r_43 A_44 l_45 k_46 n_47 hI_48 hr_49 hk_50 hn_51 => ?_)
  refine mp_swap ?_
  have hx_52 := hr_22.2.trans hr_49.2.symm
  show mp_W E X 4 1890 [(3, .int i), (2, .ref q2), (1, .ref q1), (0, .ref b)] [.int r_43] (A_17 ++ A_44) k_46 n_47
  refine mp_run mp_k_code_ok hF mp_tabL_ok [mp_i .pop, mp_h (.goto 327) [2218]] (by decide +kernel) ?_
  refine And.intro rfl ?_
  show mp_W E X 4 2218 [(3, .int i), (2, .ref q2), (1, .ref q1), (0, .ref b)] [] (A_17 ++ A_44) k_46 n_47
  have hl_ : l_18 = l_45 := by omega
  exact kk _ _ _ _ _ _ _ _ _ _ _ _ _ _ _ hSL (mp_prs_W hW) hWI hI_21 (hl_ ▸ hI_48) (by omega) (by omega)
set_option maxHeartbeats 4000000 in
set_option maxRecDepth 100000 in
theorem mp_case_52 {E : mp_E} {X : mp_X} {b L : Nat} {xs : Nat → Int32} (hL : mp_Lw E X b L xs) (h3 : L ≤ 3072) {i : Int32} (hi0 : 0 ≤ i.toInt) (hi6 : i.toInt + 6 ≤ L) {q1 q2 : Nat} {len : Int} {sw sl mw mm : Nat → Int32} {kp : Nat → Bool} {tp : Nat → Int32} {ft fp : Int} {td : mp_TD} {it : Nat → mp_TD} {A B : va_W} {k n : Nat} (hSL : mp_SL sw sl mw mm) (hW : mp_WF td) (hWI : ∀ j : Nat, mp_WF (it j)) (hA : mp_IC E q1 len sw sl kp tp ft fp td it A) (hB : mp_IM E q2 len mw mm kp tp ft fp td it B) (hk : k + 13 ≤ 600000) (hn : n + 204 ≤ 7302250) (kk : ∀ (len2 : Int) (sw2 sl2 mw2 mm2 : Nat → Int32) (kp2 : Nat → Bool) (tp2 : Nat → Int32) (ft2 fp2 : Int) (td2 : mp_TD) (it2 : Nat → mp_TD) (A2 B2 : va_W) (k2 n2 : Nat), mp_SL sw2 sl2 mw2 mm2 → mp_WF td2 → (∀ j : Nat, mp_WF (it2 j)) → mp_IC E q1 len2 sw2 sl2 kp2 tp2 ft2 fp2 td2 it2 A2 → mp_IM E q2 len2 mw2 mm2 kp2 tp2 ft2 fp2 td2 it2 B2 → k2 ≤ k + 13 → n2 ≤ n + 204 → mp_W E X 4 2218 [(3, .int i), (2, .ref q2), (1, .ref q1), (0, .ref b)] [] (A2 ++ B2) k2 n2) : mp_W E X 4 1894 [(3, .int i), (2, .ref q2), (1, .ref q1), (0, .ref b)] [] (A ++ B) k n := by
  have hF : mp_F E X mp_ML := hL.1
  show mp_W E X 4 1894 [(3, .int i), (2, .ref q2), (1, .ref q1), (0, .ref b)] [] (A ++ B) k n
  refine mp_run mp_k_code_ok hF mp_tabL_ok [mp_i (.aload_n 1), mp_i (.aload_n 0), mp_i (.iload_n 3), mp_c (.iconst 1) 1, mp_i .iadd] (by decide +kernel) ?_
  intro z_1 h_2
  have e_3 : z_1.toInt = i.toInt + 1 := mp_add (a := i.toInt) (b := 1) h_2 rfl (by decide) (by first | exact mp_cwa1 hi0 | omega) (by first | exact mp_cwb1 h3 hi6 | omega)
  show mp_W E X 4 1899 [(3, .int i), (2, .ref q2), (1, .ref q1), (0, .ref b)] [.int z_1, .ref b, .ref q1] (A ++ B) k n
  refine mp_lsld hL (by first | exact mp_cwc1 hi0 e_3 | omega) (by first | exact mp_cwd1 hi6 e_3 | omega) (by first | exact mp_fd_ok mp_k_code_ok (by decide +kernel) | decide +kernel) (fun v_4 hv_5 => ?_)
  show mp_W E X 4 1900 [(3, .int i), (2, .ref q2), (1, .ref q1), (0, .ref b)] [.int v_4, .ref q1] (A ++ B) k n
  refine mp_run mp_k_code_ok hF mp_tabL_ok [mp_i (.aload_n 0), mp_i (.iload_n 3), mp_c (.iconst 2) 2, mp_i .iadd] (by decide +kernel) ?_
  intro z_6 h_7
  have e_8 : z_6.toInt = i.toInt + 2 := mp_add (a := i.toInt) (b := 2) h_7 rfl (by decide) (by first | exact mp_cwa2 hi0 | omega) (by first | exact mp_cwb2 h3 hi6 | omega)
  show mp_W E X 4 1904 [(3, .int i), (2, .ref q2), (1, .ref q1), (0, .ref b)] [.int z_6, .ref b, .int v_4, .ref q1] (A ++ B) k n
  refine mp_lsld hL (by first | exact mp_cwc2 hi0 e_8 | omega) (by first | exact mp_cwd2 hi6 e_8 | omega) (by first | exact mp_fd_ok mp_k_code_ok (by decide +kernel) | decide +kernel) (fun v_9 hv_10 => ?_)
  show mp_W E X 4 1905 [(3, .int i), (2, .ref q2), (1, .ref q1), (0, .ref b)] [.int v_9, .int v_4, .ref q1] (A ++ B) k n
  refine mp_run mp_k_code_ok hF mp_tabL_ok [mp_i (.aload_n 0), mp_i (.iload_n 3), mp_c (.iconst 3) 3, mp_i .iadd] (by decide +kernel) ?_
  intro z_11 h_12
  have e_13 : z_11.toInt = i.toInt + 3 := mp_add (a := i.toInt) (b := 3) h_12 rfl (by decide) (by first | exact mp_cwa3 hi0 | omega) (by first | exact mp_cwb3 h3 hi6 | omega)
  show mp_W E X 4 1909 [(3, .int i), (2, .ref q2), (1, .ref q1), (0, .ref b)] [.int z_11, .ref b, .int v_9, .int v_4, .ref q1] (A ++ B) k n
  refine mp_lsld hL (by first | exact mp_cwc3 hi0 e_13 | omega) (by first | exact mp_cwd3 hi6 e_13 | omega) (by first | exact mp_fd_ok mp_k_code_ok (by decide +kernel) | decide +kernel) (fun v_14 hv_15 => ?_)
  show mp_W E X 4 1910 [(3, .int i), (2, .ref q2), (1, .ref q1), (0, .ref b)] [.int v_14, .int v_9, .int v_4, .ref q1] (A ++ B) k n
  refine mp_cc_shuts hF v_4 v_9 v_14 hA hW hWI (by first | exact mp_fd_ok mp_k_code_ok (by decide +kernel) | decide +kernel) (by omega) (by omega) (Nat.le_of_ble_eq_true rfl) (fun r_16 A_17 l_18 k_19 n_20 hI_21 hr_22 hk_23 hn_24 => ?_)
  show mp_W E X 4 1913 [(3, .int i), (2, .ref q2), (1, .ref q1), (0, .ref b)] [.int r_16] (A_17 ++ B) k_19 n_20
  refine mp_run mp_k_code_ok hF mp_tabL_ok [mp_i .pop, mp_i (.aload_n 2), mp_i (.aload_n 0), mp_i (.iload_n 3), mp_c (.iconst 1) 1, mp_i .iadd] (by decide +kernel) ?_
  refine And.intro rfl ?_
  intro z_25 h_26
  have e_27 : z_25.toInt = i.toInt + 1 := mp_add (a := i.toInt) (b := 1) h_26 rfl (by decide) (by first | exact mp_cwa1 hi0 | omega) (by first | exact mp_cwb1 h3 hi6 | omega)
  show mp_W E X 4 1919 [(3, .int i), (2, .ref q2), (1, .ref q1), (0, .ref b)] [.int z_25, .ref b, .ref q2] (A_17 ++ B) k_19 n_20
  refine mp_lsld hL (by first | exact mp_cwc1 hi0 e_27 | omega) (by first | exact mp_cwd1 hi6 e_27 | omega) (by first | exact mp_fd_ok mp_k_code_ok (by decide +kernel) | decide +kernel) (fun v_28 hv_29 => ?_)
  have e_30 := mp_xs_same hv_5 hv_29 (by first | exact e_27.trans e_3.symm | omega)
  subst e_30
  show mp_W E X 4 1920 [(3, .int i), (2, .ref q2), (1, .ref q1), (0, .ref b)] [.int v_4, .ref q2] (A_17 ++ B) k_19 n_20
  refine mp_run mp_k_code_ok hF mp_tabL_ok [mp_i (.aload_n 0), mp_i (.iload_n 3), mp_c (.iconst 2) 2, mp_i .iadd] (by decide +kernel) ?_
  intro z_31 h_32
  have e_33 : z_31.toInt = i.toInt + 2 := mp_add (a := i.toInt) (b := 2) h_32 rfl (by decide) (by first | exact mp_cwa2 hi0 | omega) (by first | exact mp_cwb2 h3 hi6 | omega)
  show mp_W E X 4 1924 [(3, .int i), (2, .ref q2), (1, .ref q1), (0, .ref b)] [.int z_31, .ref b, .int v_4, .ref q2] (A_17 ++ B) k_19 n_20
  refine mp_lsld hL (by first | exact mp_cwc2 hi0 e_33 | omega) (by first | exact mp_cwd2 hi6 e_33 | omega) (by first | exact mp_fd_ok mp_k_code_ok (by decide +kernel) | decide +kernel) (fun v_34 hv_35 => ?_)
  have e_36 := mp_xs_same hv_10 hv_35 (by first | exact e_33.trans e_8.symm | omega)
  subst e_36
  show mp_W E X 4 1925 [(3, .int i), (2, .ref q2), (1, .ref q1), (0, .ref b)] [.int v_9, .int v_4, .ref q2] (A_17 ++ B) k_19 n_20
  refine mp_run mp_k_code_ok hF mp_tabL_ok [mp_i (.aload_n 0), mp_i (.iload_n 3), mp_c (.iconst 3) 3, mp_i .iadd] (by decide +kernel) ?_
  intro z_37 h_38
  have e_39 : z_37.toInt = i.toInt + 3 := mp_add (a := i.toInt) (b := 3) h_38 rfl (by decide) (by first | exact mp_cwa3 hi0 | omega) (by first | exact mp_cwb3 h3 hi6 | omega)
  show mp_W E X 4 1929 [(3, .int i), (2, .ref q2), (1, .ref q1), (0, .ref b)] [.int z_37, .ref b, .int v_9, .int v_4, .ref q2] (A_17 ++ B) k_19 n_20
  refine mp_lsld hL (by first | exact mp_cwc3 hi0 e_39 | omega) (by first | exact mp_cwd3 hi6 e_39 | omega) (by first | exact mp_fd_ok mp_k_code_ok (by decide +kernel) | decide +kernel) (fun v_40 hv_41 => ?_)
  have e_42 := mp_xs_same hv_15 hv_41 (by first | exact e_39.trans e_13.symm | omega)
  subst e_42
  show mp_W E X 4 1930 [(3, .int i), (2, .ref q2), (1, .ref q1), (0, .ref b)] [.int v_14, .int v_9, .int v_4, .ref q2] (A_17 ++ B) k_19 n_20
  refine mp_swap ?_
  refine mp_cm_shuts hF v_4 v_9 v_14 hB hW hWI (by first | exact mp_fd_ok mp_k_code_ok (by decide +kernel) | decide +kernel) (by omega) (by omega) (Nat.le_of_ble_eq_true rfl) (fun r_43 A_44 l_45 k_46 n_47 hI_48 hr_49 hk_50 hn_51 => ?_)
  refine mp_swap ?_
  have hx_52 := hr_22.2.trans hr_49.2.symm
  show mp_W E X 4 1933 [(3, .int i), (2, .ref q2), (1, .ref q1), (0, .ref b)] [.int r_43] (A_17 ++ A_44) k_46 n_47
  refine mp_run mp_k_code_ok hF mp_tabL_ok [mp_i .pop, mp_h (.goto 284) [2218]] (by decide +kernel) ?_
  refine And.intro rfl ?_
  show mp_W E X 4 2218 [(3, .int i), (2, .ref q2), (1, .ref q1), (0, .ref b)] [] (A_17 ++ A_44) k_46 n_47
  have hl_ : l_18 = l_45 := by omega
  exact kk _ _ _ _ _ _ _ _ _ _ _ _ _ _ _ hSL (mp_shu_W hW) hWI hI_21 (hl_ ▸ hI_48) (by omega) (by omega)
