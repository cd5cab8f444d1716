set_option maxHeartbeats 4000000 in
set_option maxRecDepth 100000 in
theorem mp_case_51 {E : mp_E} {X : mp_X} {b L : Nat} {xs : Nat → Int32} (hL : mp_Lw E X b L xs) (h3 : L ≤ 3072) {i : Int32} (hi0 : 0 ≤ i.toInt) (hi6 : i.toInt + 6 ≤ L) {q1 q2 : Nat} {len : Int} {sw sl mw mm : Nat → Int32} {kp : Nat → Bool} {tp : Nat → Int32} {ft fp : Int} {td : mp_TD} {it : Nat → mp_TD} {A B : va_W} {k n : Nat} (hSL : mp_SL sw sl mw mm) (hW : mp_WF td) (hWI : ∀ j : Nat, mp_WF (it j)) (hA : mp_IC E q1 len sw sl kp tp ft fp td it A) (hB : mp_IM E q2 len mw mm kp tp ft fp td it B) (hk : k + 13 ≤ 600000) (hn : n + 204 ≤ 7302250) (kk : ∀ (len2 : Int) (sw2 sl2 mw2 mm2 : Nat → Int32) (kp2 : Nat → Bool) (tp2 : Nat → Int32) (ft2 fp2 : Int) (td2 : mp_TD) (it2 : Nat → mp_TD) (A2 B2 : va_W) (k2 n2 : Nat), mp_SL sw2 sl2 mw2 mm2 → mp_WF td2 → (∀ j : Nat, mp_WF (it2 j)) → mp_IC E q1 len2 sw2 sl2 kp2 tp2 ft2 fp2 td2 it2 A2 → mp_IM E q2 len2 mw2 mm2 kp2 tp2 ft2 fp2 td2 it2 B2 → k2 ≤ k + 13 → n2 ≤ n + 204 → mp_W E X 4 2218 [(3, .int i), (2, .ref q2), (1, .ref q1), (0, .ref b)] [] (A2 ++ B2) k2 n2) : mp_W E X 4 1851 [(3, .int i), (2, .ref q2), (1, .ref q1), (0, .ref b)] [] (A ++ B) k n := by
  have hF : mp_F E X mp_ML := hL.1
  show mp_W E X 4 1851 [(3, .int i), (2, .ref q2), (1, .ref q1), (0, .ref b)] [] (A ++ B) k n
  refine mp_run mp_k_code_ok hF mp_tabL_ok [mp_i (.aload_n 1), mp_i (.aload_n 0), mp_i (.iload_n 3), mp_c (.iconst 1) 1, mp_i .iadd] (by decide +kernel) ?_
  intro z_1 h_2
  have e_3 : z_1.toInt = i.toInt + 1 := mp_add (a := i.toInt) (b := 1) h_2 rfl (by decide) (by first | exact mp_cwa1 hi0 | omega) (by first | exact mp_cwb1 h3 hi6 | omega)
  show mp_W E X 4 1856 [(3, .int i), (2, .ref q2), (1, .ref q1), (0, .ref b)] [.int z_1, .ref b, .ref q1] (A ++ B) k n
  refine mp_lsld hL (by first | exact mp_cwc1 hi0 e_3 | omega) (by first | exact mp_cwd1 hi6 e_3 | omega) (by first | exact mp_fd_ok mp_k_code_ok (by decide +kernel) | decide +kernel) (fun v_4 hv_5 => ?_)
  show mp_W E X 4 1857 [(3, .int i), (2, .ref q2), (1, .ref q1), (0, .ref b)] [.int v_4, .ref q1] (A ++ B) k n
  refine mp_run mp_k_code_ok hF mp_tabL_ok [mp_i (.aload_n 0), mp_i (.iload_n 3), mp_c (.iconst 2) 2, mp_i .iadd] (by decide +kernel) ?_
  intro z_6 h_7
  have e_8 : z_6.toInt = i.toInt + 2 := mp_add (a := i.toInt) (b := 2) h_7 rfl (by decide) (by first | exact mp_cwa2 hi0 | omega) (by first | exact mp_cwb2 h3 hi6 | omega)
  show mp_W E X 4 1861 [(3, .int i), (2, .ref q2), (1, .ref q1), (0, .ref b)] [.int z_6, .ref b, .int v_4, .ref q1] (A ++ B) k n
  refine mp_lsld hL (by first | exact mp_cwc2 hi0 e_8 | omega) (by first | exact mp_cwd2 hi6 e_8 | omega) (by first | exact mp_fd_ok mp_k_code_ok (by decide +kernel) | decide +kernel) (fun v_9 hv_10 => ?_)
  show mp_W E X 4 1862 [(3, .int i), (2, .ref q2), (1, .ref q1), (0, .ref b)] [.int v_9, .int v_4, .ref q1] (A ++ B) k n
  refine mp_run mp_k_code_ok hF mp_tabL_ok [mp_i (.aload_n 0), mp_i (.iload_n 3), mp_c (.iconst 3) 3, mp_i .iadd] (by decide +kernel) ?_
  intro z_11 h_12
  have e_13 : z_11.toInt = i.toInt + 3 := mp_add (a := i.toInt) (b := 3) h_12 rfl (by decide) (by first | exact mp_cwa3 hi0 | omega) (by first | exact mp_cwb3 h3 hi6 | omega)
  show mp_W E X 4 1866 [(3, .int i), (2, .ref q2), (1, .ref q1), (0, .ref b)] [.int z_11, .ref b, .int v_9, .int v_4, .ref q1] (A ++ B) k n
  refine mp_lsld hL (by first | exact mp_cwc3 hi0 e_13 | omega) (by first | exact mp_cwd3 hi6 e_13 | omega) (by first | exact mp_fd_ok mp_k_code_ok (by decide +kernel) | decide +kernel) (fun v_14 hv_15 => ?_)
  show mp_W E X 4 1867 [(3, .int i), (2, .ref q2), (1, .ref q1), (0, .ref b)] [.int v_14, .int v_9, .int v_4, .ref q1] (A ++ B) k n
  refine mp_cc_promises hF v_4 v_9 v_14 hA hW hWI (by first | exact mp_fd_ok mp_k_code_ok (by decide +kernel) | decide +kernel) (by omega) (by omega) (Nat.le_of_ble_eq_true rfl) (fun r_16 A_17 l_18 k_19 n_20 hI_21 hr_22 hk_23 hn_24 => ?_)
  show mp_W E X 4 1870 [(3, .int i), (2, .ref q2), (1, .ref q1), (0, .ref b)] [.int r_16] (A_17 ++ B) k_19 n_20
  refine mp_run mp_k_code_ok hF mp_tabL_ok [mp_i .pop, mp_i (.aload_n 2), mp_i (.aload_n 0), mp_i (.iload_n 3), mp_c (.iconst 1) 1, mp_i .iadd] (by decide +kernel) ?_
  refine And.intro rfl ?_
  intro z_25 h_26
  have e_27 : z_25.toInt = i.toInt + 1 := mp_add (a := i.toInt) (b := 1) h_26 rfl (by decide) (by first | exact mp_cwa1 hi0 | omega) (by first | exact mp_cwb1 h3 hi6 | omega)
  show mp_W E X 4 1876 [(3, .int i), (2, .ref q2), (1, .ref q1), (0, .ref b)] [.int z_25, .ref b, .ref q2] (A_17 ++ B) k_19 n_20
  refine mp_lsld hL (by first | exact mp_cwc1 hi0 e_27 | omega) (by first | exact mp_cwd1 hi6 e_27 | omega) (by first | exact mp_fd_ok mp_k_code_ok (by decide +kernel) | decide +kernel) (fun v_28 hv_29 => ?_)
  have e_30 := mp_xs_same hv_5 hv_29 (by first | exact e_27.trans e_3.symm | omega)
  subst e_30
  show mp_W E X 4 1877 [(3, .int i), (2, .ref q2), (1, .ref q1), (0, .ref b)] [.int v_4, .ref q2] (A_17 ++ B) k_19 n_20
  refine mp_run mp_k_code_ok hF mp_tabL_ok [mp_i (.aload_n 0), mp_i (.iload_n 3), mp_c (.iconst 2) 2, mp_i .iadd] (by decide +kernel) ?_
  intro z_31 h_32
  have e_33 : z_31.toInt = i.toInt + 2 := mp_add (a := i.toInt) (b := 2) h_32 rfl (by decide) (by first | exact mp_cwa2 hi0 | omega) (by first | exact mp_cwb2 h3 hi6 | omega)
  show mp_W E X 4 1881 [(3, .int i), (2, .ref q2), (1, .ref q1), (0, .ref b)] [.int z_31, .ref b, .int v_4, .ref q2] (A_17 ++ B) k_19 n_20
  refine mp_lsld hL (by first | exact mp_cwc2 hi0 e_33 | omega) (by first | exact mp_cwd2 hi6 e_33 | omega) (by first | exact mp_fd_ok mp_k_code_ok (by decide +kernel) | decide +kernel) (fun v_34 hv_35 => ?_)
  have e_36 := mp_xs_same hv_10 hv_35 (by first | exact e_33.trans e_8.symm | omega)
  subst e_36
  show mp_W E X 4 1882 [(3, .int i), (2, .ref q2), (1, .ref q1), (0, .ref b)] [.int v_9, .int v_4, .ref q2] (A_17 ++ B) k_19 n_20
  refine mp_run mp_k_code_ok hF mp_tabL_ok [mp_i (.aload_n 0), mp_i (.iload_n 3), mp_c (.iconst 3) 3, mp_i .iadd] (by decide +kernel) ?_
  intro z_37 h_38
  have e_39 : z_37.toInt = i.toInt + 3 := mp_add (a := i.toInt) (b := 3) h_38 rfl (by decide) (by first | exact mp_cwa3 hi0 | omega) (by first | exact mp_cwb3 h3 hi6 | omega)
  show mp_W E X 4 1886 [(3, .int i), (2, .ref q2), (1, .ref q1), (0, .ref b)] [.int z_37, .ref b, .int v_9, .int v_4, .ref q2] (A_17 ++ B) k_19 n_20
  refine mp_lsld hL (by first | exact mp_cwc3 hi0 e_39 | omega) (by first | exact mp_cwd3 hi6 e_39 | omega) (by first | exact mp_fd_ok mp_k_code_ok (by decide +kernel) | decide +kernel) (fun v_40 hv_41 => ?_)
  have e_42 := mp_xs_same hv_15 hv_41 (by first | exact e_39.trans e_13.symm | omega)
  subst e_42
  show mp_W E X 4 1887 [(3, .int i), (2, .ref q2), (1, .ref q1), (0, .ref b)] [.int v_14, .int v_9, .int v_4, .ref q2] (A_17 ++ B) k_19 n_20
  refine mp_swap ?_
  refine mp_cm_promises hF v_4 v_9 v_14 hB hW hWI (by first | exact mp_fd_ok mp_k_code_ok (by decide +kernel) | decide +kernel) (by omega) (by omega) (Nat.le_of_ble_eq_true rfl) (fun r_43 A_44 l_45 k_46 n_47 hI_48 hr_49 hk_50 hn_51 => ?_)
  refine mp_swap ?_
  have hx_52 := hr_22.2.trans hr_49.2.symm
  show mp_W E X 4 1890 [(3, .int i), (2, .ref q2), (1, .ref q1), (0, .ref b)] [.int r_43] (A_17 ++ A_44) k_46 n_47
  refine mp_run mp_k_code_ok hF mp_tabL_ok [mp_i .pop, mp_h (.goto 327) [2218]] (by decide +kernel) ?_
  refine And.intro rfl ?_
  show mp_W E X 4 2218 [(3, .int i), (2, .ref q2), (1, .ref q1), (0, .ref b)] [] (A_17 ++ A_44) k_46 n_47
  have hl_ : l_18 = l_45 := by omega
  exact kk _ _ _ _ _ _ _ _ _ _ _ _ _ _ _ hSL (mp_prs_W hW) hWI hI_21 (hl_ ▸ hI_48) (by omega) (by omega)
set_option maxHeartbeats 4000000 in
set_option maxRecDepth 100000 in
theorem mp_case_52 {E : mp_E} {X : mp_X} {b L : Nat} {xs : Nat → Int32} (hL : mp_Lw E X b L xs) (h3 : L ≤ 3072) {i : Int32} (hi0 : 0 ≤ i.toInt) (hi6 : i.toInt + 6 ≤ L) {q1 q2 : Nat} {len : Int} {sw sl mw mm : Nat → Int32} {kp : Nat → Bool} {tp : Nat → Int32} {ft fp : Int} {td : mp_TD} {it : Nat → mp_TD} {A B : va_W} {k n : Nat} (hSL : mp_SL sw sl mw mm) (hW : mp_WF td) (hWI : ∀ j : Nat, mp_WF (it j)) (hA : mp_IC E q1 len sw sl kp tp ft fp td it A) (hB : mp_IM E q2 len mw mm kp tp ft fp td it B) (hk : k + 13 ≤ 600000) (hn : n + 204 ≤ 7302250) (kk : ∀ (len2 : Int) (sw2 sl2 mw2 mm2 : Nat → Int32) (kp2 : Nat → Bool) (tp2 : Nat → Int32) (ft2 fp2 : Int) (td2 : mp_TD) (it2 : Nat → mp_TD) (A2 B2 : va_W) (k2 n2 : Nat), mp_SL sw2 sl2 mw2 mm2 → mp_WF td2 → (∀ j : Nat, mp_WF (it2 j)) → mp_IC E q1 len2 sw2 sl2 kp2 tp2 ft2 fp2 td2 it2 A2 → mp_IM E q2 len2 mw2 mm2 kp2 tp2 ft2 fp2 td2 it2 B2 → k2 ≤ k + 13 → n2 ≤ n + 204 → mp_W E X 4 2218 [(3, .int i), (2, .ref q2), (1, .ref q1), (0, .ref b)] [] (A2 ++ B2) k2 n2) : mp_W E X 4 1894 [(3, .int i), (2, .ref q2), (1, .ref q1), (0, .ref b)] [] (A ++ B) k n := by
  have hF : mp_F E X mp_ML := hL.1
  show mp_W E X 4 1894 [(3, .int i), (2, .ref q2), (1, .ref q1), (0, .ref b)] [] (A ++ B) k n
  refine mp_run mp_k_code_ok hF mp_tabL_ok [mp_i (.aload_n 1), mp_i (.aload_n 0), mp_i (.iload_n 3), mp_c (.iconst 1) 1, mp_i .iadd] (by decide +kernel) ?_
  intro z_1 h_2
  have e_3 : z_1.toInt = i.toInt + 1 := mp_add (a := i.toInt) (b := 1) h_2 rfl (by decide) (by first | exact mp_cwa1 hi0 | omega) (by first | exact mp_cwb1 h3 hi6 | omega)
  show mp_W E X 4 1899 [(3, .int i), (2, .ref q2), (1, .ref q1), (0, .ref b)] [.int z_1, .ref b, .ref q1] (A ++ B) k n
  refine mp_lsld hL (by first | exact mp_cwc1 hi0 e_3 | omega) (by first | exact mp_cwd1 hi6 e_3 | omega) (by first | exact mp_fd_ok mp_k_code_ok (by decide +kernel) | decide +kernel) (fun v_4 hv_5 => ?_)
  show mp_W E X 4 1900 [(3, .int i), (2, .ref q2), (1, .ref q1), (0, .ref b)] [.int v_4, .ref q1] (A ++ B) k n
  refine mp_run mp_k_code_ok hF mp_tabL_ok [mp_i (.aload_n 0), mp_i (.iload_n 3), mp_c (.iconst 2) 2, mp_i .iadd] (by decide +kernel) ?_
  intro z_6 h_7
  have e_8 : z_6.toInt = i.toInt + 2 := mp_add (a := i.toInt) (b := 2) h_7 rfl (by decide) (by first | exact mp_cwa2 hi0 | omega) (by first | exact mp_cwb2 h3 hi6 | omega)
  show mp_W E X 4 1904 [(3, .int i), (2, .ref q2), (1, .ref q1), (0, .ref b)] [.int z_6, .ref b, .int v_4, .ref q1] (A ++ B) k n
  refine mp_lsld hL (by first | exact mp_cwc2 hi0 e_8 | omega) (by first | exact mp_cwd2 hi6 e_8 | omega) (by first | exact mp_fd_ok mp_k_code_ok (by decide +kernel) | decide +kernel) (fun v_9 hv_10 => ?_)
  show mp_W E X 4 1905 [(3, .int i), (2, .ref q2), (1, .ref q1), (0, .ref b)] [.int v_9, .int v_4, .ref q1] (A ++ B) k n
  refine mp_run mp_k_code_ok hF mp_tabL_ok [mp_i (.aload_n 0), mp_i (.iload_n 3), mp_c (.iconst 3) 3, mp_i .iadd] (by decide +kernel) ?_
  intro z_11 h_12
  have e_13 : z_11.toInt = i.toInt + 3 := mp_add (a := i.toInt) (b := 3) h_12 rfl (by decide) (by first | exact mp_cwa3 hi0 | omega) (by first | exact mp_cwb3 h3 hi6 | omega)
  show mp_W E X 4 1909 [(3, .int i), (2, .ref q2), (1, .ref q1), (0, .ref b)] [.int z_11, .ref b, .int v_9, .int v_4, .ref q1] (A ++ B) k n
  refine mp_lsld hL (by first | exact mp_cwc3 hi0 e_13 | omega) (by first | exact mp_cwd3 hi6 e_13 | omega) (by first | exact mp_fd_ok mp_k_code_ok (by decide +kernel) | decide +kernel) (fun v_14 hv_15 => ?_)
  show mp_W E X 4 1910 [(3, .int i), (2, .ref q2), (1, .ref q1), (0, .ref b)] [.int v_14, .int v_9, .int v_4, .ref q1] (A ++ B) k n
  refine mp_cc_shuts hF v_4 v_9 v_14 hA hW hWI (by first | exact mp_fd_ok mp_k_code_ok (by decide +kernel) | decide +kernel) (by omega) (by omega) (Nat.le_of_ble_eq_true rfl) (fun r_16 A_17 l_18 k_19 n_20 hI_21 hr_22 hk_23 hn_24 => ?_)
  show mp_W E X 4 1913 [(3, .int i), (2, .ref q2), (1, .ref q1), (0, .ref b)] [.int r_16] (A_17 ++ B) k_19 n_20
  refine mp_run mp_k_code_ok hF mp_tabL_ok [mp_i .pop, mp_i (.aload_n 2), mp_i (.aload_n 0), mp_i (.iload_n 3), mp_c (.iconst 1) 1, mp_i .iadd] (by decide +kernel) ?_
  refine And.intro rfl ?_
  intro z_25 h_26
  have e_27 : z_25.toInt = i.toInt + 1 := mp_add (a := i.toInt) (b := 1) h_26 rfl (by decide) (by first | exact mp_cwa1 hi0 | omega) (by first | exact mp_cwb1 h3 hi6 | omega)
  show mp_W E X 4 1919 [(3, .int i), (2, .ref q2), (1, .ref q1), (0, .ref b)] [.int z_25, .ref b, .ref q2] (A_17 ++ B) k_19 n_20
  refine mp_lsld hL (by first | exact mp_cwc1 hi0 e_27 | omega) (by first | exact mp_cwd1 hi6 e_27 | omega) (by first | exact mp_fd_ok mp_k_code_ok (by decide +kernel) | decide +kernel) (fun v_28 hv_29 => ?_)
  have e_30 := mp_xs_same hv_5 hv_29 (by first | exact e_27.trans e_3.symm | omega)
  subst e_30
  show mp_W E X 4 1920 [(3, .int i), (2, .ref q2), (1, .ref q1), (0, .ref b)] [.int v_4, .ref q2] (A_17 ++ B) k_19 n_20
  refine mp_run mp_k_code_ok hF mp_tabL_ok [mp_i (.aload_n 0), mp_i (.iload_n 3), mp_c (.iconst 2) 2, mp_i .iadd] (by decide +kernel) ?_
  intro z_31 h_32
  have e_33 : z_31.toInt = i.toInt + 2 := mp_add (a := i.toInt) (b := 2) h_32 rfl (by decide) (by first | exact mp_cwa2 hi0 | omega) (by first | exact mp_cwb2 h3 hi6 | omega)
  show mp_W E X 4 1924 [(3, .int i), (2, .ref q2), (1, .ref q1), (0, .ref b)] [.int z_31, .ref b, .int v_4, .ref q2] (A_17 ++ B) k_19 n_20
  refine mp_lsld hL (by first | exact mp_cwc2 hi0 e_33 | omega) (by first | exact mp_cwd2 hi6 e_33 | omega) (by first | exact mp_fd_ok mp_k_code_ok (by decide +kernel) | decide +kernel) (fun v_34 hv_35 => ?_)
  have e_36 := mp_xs_same hv_10 hv_35 (by first | exact e_33.trans e_8.symm | omega)
  subst e_36
  show mp_W E X 4 1925 [(3, .int i), (2, .ref q2), (1, .ref q1), (0, .ref b)] [.int v_9, .int v_4, .ref q2] (A_17 ++ B) k_19 n_20
  refine mp_run mp_k_code_ok hF mp_tabL_ok [mp_i (.aload_n 0), mp_i (.iload_n 3), mp_c (.iconst 3) 3, mp_i .iadd] (by decide +kernel) ?_
  intro z_37 h_38
  have e_39 : z_37.toInt = i.toInt + 3 := mp_add (a := i.toInt) (b := 3) h_38 rfl (by decide) (by first | exact mp_cwa3 hi0 | omega) (by first | exact mp_cwb3 h3 hi6 | omega)
  show mp_W E X 4 1929 [(3, .int i), (2, .ref q2), (1, .ref q1), (0, .ref b)] [.int z_37, .ref b, .int v_9, .int v_4, .ref q2] (A_17 ++ B) k_19 n_20
  refine mp_lsld hL (by first | exact mp_cwc3 hi0 e_39 | omega) (by first | exact mp_cwd3 hi6 e_39 | omega) (by first | exact mp_fd_ok mp_k_code_ok (by decide +kernel) | decide +kernel) (fun v_40 hv_41 => ?_)
  have e_42 := mp_xs_same hv_15 hv_41 (by first | exact e_39.trans e_13.symm | omega)
  subst e_42
  show mp_W E X 4 1930 [(3, .int i), (2, .ref q2), (1, .ref q1), (0, .ref b)] [.int v_14, .int v_9, .int v_4, .ref q2] (A_17 ++ B) k_19 n_20
  refine mp_swap ?_
  refine mp_cm_shuts hF v_4 v_9 v_14 hB hW hWI (by first | exact mp_fd_ok mp_k_code_ok (by decide +kernel) | decide +kernel) (by omega) (by omega) (Nat.le_of_ble_eq_true rfl) (fun r_43 A_44 l_45 k_46 n_47 hI_48 hr_49 hk_50 hn_51 => ?_)
  refine mp_swap ?_
  have hx_52 := hr_22.2.trans hr_49.2.symm
  show mp_W E X 4 1933 [(3, .int i), (2, .ref q2), (1, .ref q1), (0, .ref b)] [.int r_43] (A_17 ++ A_44) k_46 n_47
  refine mp_run mp_k_code_ok hF mp_tabL_ok [mp_i .pop, mp_h (.goto 284) [2218]] (by decide +kernel) ?_
  refine And.intro rfl ?_
  show mp_W E X 4 2218 [(3, .int i), (2, .ref q2), (1, .ref q1), (0, .ref b)] [] (A_17 ++ A_44) k_46 n_47
  have hl_ : l_18 = l_45 := by omega
  exact kk _ _ _ _ _ _ _ _ _ _ _ _ _ _ _ hSL (mp_shu_W hW) hWI hI_21 (hl_ ▸ hI_48) (by omega) (by omega)

