set_option maxHeartbeats 4000000 in
set_option maxRecDepth 100000 in
theorem mp_case_53 {E : mp_E} {X : mp_X} {b L : Nat} {xs : Nat → Int32} (hL : mp_Lw E X b L xs) (h3 : L ≤ 3072) {i : Int32} (hi0 : 0 ≤ i.toInt) (hi6 : i.toInt + 6 ≤ L) {q1 q2 : Nat} {len : Int} {sw sl mw mm : Nat → Int32} {kp : Nat → Bool} {tp : Nat → Int32} {ft fp : Int} {td : mp_TD} {it : Nat → mp_TD} {A B : va_W} {k n : Nat} (hSL : mp_SL sw sl mw mm) (hW : mp_WF td) (hWI : ∀ j : Nat, mp_WF (it j)) (hA : mp_IC E q1 len sw sl kp tp ft fp td it A) (hB : mp_IM E q2 len mw mm kp tp ft fp td it B) (hk : k + 13 ≤ 600000) (hn : n + 204 ≤ 7302250) (kk : ∀ (len2 : Int) (sw2 sl2 mw2 mm2 : Nat → Int32) (kp2 : Nat → Bool) (tp2 : Nat → Int32) (ft2 fp2 : Int) (td2 : mp_TD) (it2 : Nat → mp_TD) (A2 B2 : va_W) (k2 n2 : Nat), mp_SL sw2 sl2 mw2 mm2 → mp_WF td2 → (∀ j : Nat, mp_WF (it2 j)) → mp_IC E q1 len2 sw2 sl2 kp2 tp2 ft2 fp2 td2 it2 A2 → mp_IM E q2 len2 mw2 mm2 kp2 tp2 ft2 fp2 td2 it2 B2 → k2 ≤ k + 13 → n2 ≤ n + 204 → mp_W E X 4 2218 [(3, .int i), (2, .ref q2), (1, .ref q1), (0, .ref b)] [] (A2 ++ B2) k2 n2) : mp_W E X 4 1937 [(3, .int i), (2, .ref q2), (1, .ref q1), (0, .ref b)] [] (A ++ B) k n := by
  have hF : mp_F E X mp_ML := hL.1
  show mp_W E X 4 1937 [(3, .int i), (2, .ref q2), (1, .ref q1), (0, .ref b)] [] (A ++ B) k n
  refine mp_run mp_k_code_ok hF mp_tabL_ok [mp_i (.aload_n 1), mp_i (.aload_n 0), mp_i (.iload_n 3), mp_c (.iconst 1) 1, mp_i .iadd] (by decide +kernel) ?_
  intro z_1 h_2
  have e_3 : z_1.toInt = i.toInt + 1 := mp_add (a := i.toInt) (b := 1) h_2 rfl (by decide) (by first | exact mp_cwa1 hi0 | omega) (by first | exact mp_cwb1 h3 hi6 | omega)
  show mp_W E X 4 1942 [(3, .int i), (2, .ref q2), (1, .ref q1), (0, .ref b)] [.int z_1, .ref b, .ref q1] (A ++ B) k n
  refine mp_lsld hL (by first | exact mp_cwc1 hi0 e_3 | omega) (by first | exact mp_cwd1 hi6 e_3 | omega) (by first | exact mp_fd_ok mp_k_code_ok (by decide +kernel) | decide +kernel) (fun v_4 hv_5 => ?_)
  show mp_W E X 4 1943 [(3, .int i), (2, .ref q2), (1, .ref q1), (0, .ref b)] [.int v_4, .ref q1] (A ++ B) k n
  refine mp_run mp_k_code_ok hF mp_tabL_ok [mp_i (.aload_n 0), mp_i (.iload_n 3), mp_c (.iconst 2) 2, mp_i .iadd] (by decide +kernel) ?_
  intro z_6 h_7
  have e_8 : z_6.toInt = i.toInt + 2 := mp_add (a := i.toInt) (b := 2) h_7 rfl (by decide) (by first | exact mp_cwa2 hi0 | omega) (by first | exact mp_cwb2 h3 hi6 | omega)
  show mp_W E X 4 1947 [(3, .int i), (2, .ref q2), (1, .ref q1), (0, .ref b)] [.int z_6, .ref b, .int v_4, .ref q1] (A ++ B) k n
  refine mp_lsld hL (by first | exact mp_cwc2 hi0 e_8 | omega) (by first | exact mp_cwd2 hi6 e_8 | omega) (by first | exact mp_fd_ok mp_k_code_ok (by decide +kernel) | decide +kernel) (fun v_9 hv_10 => ?_)
  show mp_W E X 4 1948 [(3, .int i), (2, .ref q2), (1, .ref q1), (0, .ref b)] [.int v_9, .int v_4, .ref q1] (A ++ B) k n
  refine mp_cc_tends hF v_4 v_9 hA hW hWI (by first | exact mp_fd_ok mp_k_code_ok (by decide +kernel) | decide +kernel) (by omega) (by omega) (Nat.le_of_ble_eq_true rfl) (fun r_11 A_12 l_13 k_14 n_15 hI_16 hr_17 hk_18 hn_19 => ?_)
  show mp_W E X 4 1951 [(3, .int i), (2, .ref q2), (1, .ref q1), (0, .ref b)] [.int r_11] (A_12 ++ B) k_14 n_15
  refine mp_run mp_k_code_ok hF mp_tabL_ok [mp_i .pop, mp_i (.aload_n 2), mp_i (.aload_n 0), mp_i (.iload_n 3), mp_c (.iconst 1) 1, mp_i .iadd] (by decide +kernel) ?_
  refine And.intro rfl ?_
  intro z_20 h_21
  have e_22 : z_20.toInt = i.toInt + 1 := mp_add (a := i.toInt) (b := 1) h_21 rfl (by decide) (by first | exact mp_cwa1 hi0 | omega) (by first | exact mp_cwb1 h3 hi6 | omega)
  show mp_W E X 4 1957 [(3, .int i), (2, .ref q2), (1, .ref q1), (0, .ref b)] [.int z_20, .ref b, .ref q2] (A_12 ++ B) k_14 n_15
  refine mp_lsld hL (by first | exact mp_cwc1 hi0 e_22 | omega) (by first | exact mp_cwd1 hi6 e_22 | omega) (by first | exact mp_fd_ok mp_k_code_ok (by decide +kernel) | decide +kernel) (fun v_23 hv_24 => ?_)
  have e_25 := mp_xs_same hv_5 hv_24 (by first | exact e_22.trans e_3.symm | omega)
  subst e_25
  show mp_W E X 4 1958 [(3, .int i), (2, .ref q2), (1, .ref q1), (0, .ref b)] [.int v_4, .ref q2] (A_12 ++ B) k_14 n_15
  refine mp_run mp_k_code_ok hF mp_tabL_ok [mp_i (.aload_n 0), mp_i (.iload_n 3), mp_c (.iconst 2) 2, mp_i .iadd] (by decide +kernel) ?_
  intro z_26 h_27
  have e_28 : z_26.toInt = i.toInt + 2 := mp_add (a := i.toInt) (b := 2) h_27 rfl (by decide) (by first | exact mp_cwa2 hi0 | omega) (by first | exact mp_cwb2 h3 hi6 | omega)
  show mp_W E X 4 1962 [(3, .int i), (2, .ref q2), (1, .ref q1), (0, .ref b)] [.int z_26, .ref b, .int v_4, .ref q2] (A_12 ++ B) k_14 n_15
  refine mp_lsld hL (by first | exact mp_cwc2 hi0 e_28 | omega) (by first | exact mp_cwd2 hi6 e_28 | omega) (by first | exact mp_fd_ok mp_k_code_ok (by decide +kernel) | decide +kernel) (fun v_29 hv_30 => ?_)
  have e_31 := mp_xs_same hv_10 hv_30 (by first | exact e_28.trans e_8.symm | omega)
  subst e_31
  show mp_W E X 4 1963 [(3, .int i), (2, .ref q2), (1, .ref q1), (0, .ref b)] [.int v_9, .int v_4, .ref q2] (A_12 ++ B) k_14 n_15
  refine mp_swap ?_
  refine mp_cm_tends hF v_4 v_9 hB hW hWI (by first | exact mp_fd_ok mp_k_code_ok (by decide +kernel) | decide +kernel) (by omega) (by omega) (Nat.le_of_ble_eq_true rfl) (fun r_32 A_33 l_34 k_35 n_36 hI_37 hr_38 hk_39 hn_40 => ?_)
  refine mp_swap ?_
  have hx_41 := hr_17.2.trans hr_38.2.symm
  show mp_W E X 4 1966 [(3, .int i), (2, .ref q2), (1, .ref q1), (0, .ref b)] [.int r_32] (A_12 ++ A_33) k_35 n_36
  refine mp_run mp_k_code_ok hF mp_tabL_ok [mp_i .pop, mp_h (.goto 251) [2218]] (by decide +kernel) ?_
  refine And.intro rfl ?_
  show mp_W E X 4 2218 [(3, .int i), (2, .ref q2), (1, .ref q1), (0, .ref b)] [] (A_12 ++ A_33) k_35 n_36
  have hl_ : l_13 = l_34 := by omega
  exact kk _ _ _ _ _ _ _ _ _ _ _ _ _ _ _ hSL (mp_ten_W hW) hWI hI_16 (hl_ ▸ hI_37) (by omega) (by omega)
set_option maxHeartbeats 4000000 in
set_option maxRecDepth 100000 in
theorem mp_case_54 {E : mp_E} {X : mp_X} {b L : Nat} {xs : Nat → Int32} (hL : mp_Lw E X b L xs) (h3 : L ≤ 3072) {i : Int32} (hi0 : 0 ≤ i.toInt) (hi6 : i.toInt + 6 ≤ L) {q1 q2 : Nat} {len : Int} {sw sl mw mm : Nat → Int32} {kp : Nat → Bool} {tp : Nat → Int32} {ft fp : Int} {td : mp_TD} {it : Nat → mp_TD} {A B : va_W} {k n : Nat} (hSL : mp_SL sw sl mw mm) (hW : mp_WF td) (hWI : ∀ j : Nat, mp_WF (it j)) (hA : mp_IC E q1 len sw sl kp tp ft fp td it A) (hB : mp_IM E q2 len mw mm kp tp ft fp td it B) (hk : k + 13 ≤ 600000) (hn : n + 204 ≤ 7302250) (kk : ∀ (len2 : Int) (sw2 sl2 mw2 mm2 : Nat → Int32) (kp2 : Nat → Bool) (tp2 : Nat → Int32) (ft2 fp2 : Int) (td2 : mp_TD) (it2 : Nat → mp_TD) (A2 B2 : va_W) (k2 n2 : Nat), mp_SL sw2 sl2 mw2 mm2 → mp_WF td2 → (∀ j : Nat, mp_WF (it2 j)) → mp_IC E q1 len2 sw2 sl2 kp2 tp2 ft2 fp2 td2 it2 A2 → mp_IM E q2 len2 mw2 mm2 kp2 tp2 ft2 fp2 td2 it2 B2 → k2 ≤ k + 13 → n2 ≤ n + 204 → mp_W E X 4 2218 [(3, .int i), (2, .ref q2), (1, .ref q1), (0, .ref b)] [] (A2 ++ B2) k2 n2) : mp_W E X 4 1970 [(3, .int i), (2, .ref q2), (1, .ref q1), (0, .ref b)] [] (A ++ B) k n := by
  have hF : mp_F E X mp_ML := hL.1
  show mp_W E X 4 1970 [(3, .int i), (2, .ref q2), (1, .ref q1), (0, .ref b)] [] (A ++ B) k n
  refine mp_run mp_k_code_ok hF mp_tabL_ok [mp_i (.aload_n 1), mp_i (.aload_n 0), mp_i (.iload_n 3), mp_c (.iconst 1) 1, mp_i .iadd] (by decide +kernel) ?_
  intro z_1 h_2
  have e_3 : z_1.toInt = i.toInt + 1 := mp_add (a := i.toInt) (b := 1) h_2 rfl (by decide) (by first | exact mp_cwa1 hi0 | omega) (by first | exact mp_cwb1 h3 hi6 | omega)
  show mp_W E X 4 1975 [(3, .int i), (2, .ref q2), (1, .ref q1), (0, .ref b)] [.int z_1, .ref b, .ref q1] (A ++ B) k n
  refine mp_lsld hL (by first | exact mp_cwc1 hi0 e_3 | omega) (by first | exact mp_cwd1 hi6 e_3 | omega) (by first | exact mp_fd_ok mp_k_code_ok (by decide +kernel) | decide +kernel) (fun v_4 hv_5 => ?_)
  show mp_W E X 4 1976 [(3, .int i), (2, .ref q2), (1, .ref q1), (0, .ref b)] [.int v_4, .ref q1] (A ++ B) k n
  refine mp_cc_count hF v_4 hA hW hWI (by first | exact mp_fd_ok mp_k_code_ok (by decide +kernel) | decide +kernel) (by omega) (by omega) (Nat.le_of_ble_eq_true rfl) (fun r_6 A_7 l_8 k_9 n_10 hI_11 hr_12 hk_13 hn_14 => ?_)
  show mp_W E X 4 1979 [(3, .int i), (2, .ref q2), (1, .ref q1), (0, .ref b)] [.int r_6] (A_7 ++ B) k_9 n_10
  refine mp_run mp_k_code_ok hF mp_tabL_ok [mp_i .pop, mp_i (.aload_n 2), mp_i (.aload_n 0), mp_i (.iload_n 3), mp_c (.iconst 1) 1, mp_i .iadd] (by decide +kernel) ?_
  refine And.intro rfl ?_
  intro z_15 h_16
  have e_17 : z_15.toInt = i.toInt + 1 := mp_add (a := i.toInt) (b := 1) h_16 rfl (by decide) (by first | exact mp_cwa1 hi0 | omega) (by first | exact mp_cwb1 h3 hi6 | omega)
  show mp_W E X 4 1985 [(3, .int i), (2, .ref q2), (1, .ref q1), (0, .ref b)] [.int z_15, .ref b, .ref q2] (A_7 ++ B) k_9 n_10
  refine mp_lsld hL (by first | exact mp_cwc1 hi0 e_17 | omega) (by first | exact mp_cwd1 hi6 e_17 | omega) (by first | exact mp_fd_ok mp_k_code_ok (by decide +kernel) | decide +kernel) (fun v_18 hv_19 => ?_)
  have e_20 := mp_xs_same hv_5 hv_19 (by first | exact e_17.trans e_3.symm | omega)
  subst e_20
  show mp_W E X 4 1986 [(3, .int i), (2, .ref q2), (1, .ref q1), (0, .ref b)] [.int v_4, .ref q2] (A_7 ++ B) k_9 n_10
  refine mp_swap ?_
  refine mp_cm_count hF v_4 hB hW hWI (by first | exact mp_fd_ok mp_k_code_ok (by decide +kernel) | decide +kernel) (by omega) (by omega) (Nat.le_of_ble_eq_true rfl) (fun r_21 A_22 l_23 k_24 n_25 hI_26 hr_27 hk_28 hn_29 => ?_)
  refine mp_swap ?_
  show mp_W E X 4 1989 [(3, .int i), (2, .ref q2), (1, .ref q1), (0, .ref b)] [.int r_21] (A_7 ++ A_22) k_24 n_25
  refine mp_run mp_k_code_ok hF mp_tabL_ok [mp_i .pop, mp_h (.goto 228) [2218]] (by decide +kernel) ?_
  refine And.intro rfl ?_
  show mp_W E X 4 2218 [(3, .int i), (2, .ref q2), (1, .ref q1), (0, .ref b)] [] (A_7 ++ A_22) k_24 n_25
  have hl_ : l_8 = l_23 := by omega
  exact kk _ _ _ _ _ _ _ _ _ _ _ _ _ _ _ hSL hW hWI hI_11 (hl_ ▸ hI_26) (by omega) (by omega)
set_option maxHeartbeats 4000000 in
set_option maxRecDepth 100000 in
theorem mp_case_55 {E : mp_E} {X : mp_X} {b L : Nat} {xs : Nat → Int32} (hL : mp_Lw E X b L xs) (h3 : L ≤ 3072) {i : Int32} (hi0 : 0 ≤ i.toInt) (hi6 : i.toInt + 6 ≤ L) {q1 q2 : Nat} {len : Int} {sw sl mw mm : Nat → Int32} {kp : Nat → Bool} {tp : Nat → Int32} {ft fp : Int} {td : mp_TD} {it : Nat → mp_TD} {A B : va_W} {k n : Nat} (hSL : mp_SL sw sl mw mm) (hW : mp_WF td) (hWI : ∀ j : Nat, mp_WF (it j)) (hA : mp_IC E q1 len sw sl kp tp ft fp td it A) (hB : mp_IM E q2 len mw mm kp tp ft fp td it B) (hk : k + 13 ≤ 600000) (hn : n + 204 ≤ 7302250) (kk : ∀ (len2 : Int) (sw2 sl2 mw2 mm2 : Nat → Int32) (kp2 : Nat → Bool) (tp2 : Nat → Int32) (ft2 fp2 : Int) (td2 : mp_TD) (it2 : Nat → mp_TD) (A2 B2 : va_W) (k2 n2 : Nat), mp_SL sw2 sl2 mw2 mm2 → mp_WF td2 → (∀ j : Nat, mp_WF (it2 j)) → mp_IC E q1 len2 sw2 sl2 kp2 tp2 ft2 fp2 td2 it2 A2 → mp_IM E q2 len2 mw2 mm2 kp2 tp2 ft2 fp2 td2 it2 B2 → k2 ≤ k + 13 → n2 ≤ n + 204 → mp_W E X 4 2218 [(3, .int i), (2, .ref q2), (1, .ref q1), (0, .ref b)] [] (A2 ++ B2) k2 n2) : mp_W E X 4 1993 [(3, .int i), (2, .ref q2), (1, .ref q1), (0, .ref b)] [] (A ++ B) k n := by
  have hF : mp_F E X mp_ML := hL.1
  show mp_W E X 4 1993 [(3, .int i), (2, .ref q2), (1, .ref q1), (0, .ref b)] [] (A ++ B) k n
  refine mp_run mp_k_code_ok hF mp_tabL_ok [mp_i (.aload_n 1), mp_i (.aload_n 0), mp_i (.iload_n 3), mp_c (.iconst 1) 1, mp_i .iadd] (by decide +kernel) ?_
  intro z_1 h_2
  have e_3 : z_1.toInt = i.toInt + 1 := mp_add (a := i.toInt) (b := 1) h_2 rfl (by decide) (by first | exact mp_cwa1 hi0 | omega) (by first | exact mp_cwb1 h3 hi6 | omega)
  show mp_W E X 4 1998 [(3, .int i), (2, .ref q2), (1, .ref q1), (0, .ref b)] [.int z_1, .ref b, .ref q1] (A ++ B) k n
  refine mp_lsld hL (by first | exact mp_cwc1 hi0 e_3 | omega) (by first | exact mp_cwd1 hi6 e_3 | omega) (by first | exact mp_fd_ok mp_k_code_ok (by decide +kernel) | decide +kernel) (fun v_4 hv_5 => ?_)
  show mp_W E X 4 1999 [(3, .int i), (2, .ref q2), (1, .ref q1), (0, .ref b)] [.int v_4, .ref q1] (A ++ B) k n
  refine mp_cc_image hF v_4 hA hW hWI (by first | exact mp_fd_ok mp_k_code_ok (by decide +kernel) | decide +kernel) (by omega) (by omega) (Nat.le_of_ble_eq_true rfl) (fun r_6 A_7 l_8 k_9 n_10 hI_11 hr_12 hk_13 hn_14 => ?_)
  show mp_W E X 4 2002 [(3, .int i), (2, .ref q2), (1, .ref q1), (0, .ref b)] [.int r_6] (A_7 ++ B) k_9 n_10
  refine mp_run mp_k_code_ok hF mp_tabL_ok [mp_i .pop, mp_i (.aload_n 2), mp_i (.aload_n 0), mp_i (.iload_n 3), mp_c (.iconst 1) 1, mp_i .iadd] (by decide +kernel) ?_
  refine And.intro rfl ?_
  intro z_15 h_16
  have e_17 : z_15.toInt = i.toInt + 1 := mp_add (a := i.toInt) (b := 1) h_16 rfl (by decide) (by first | exact mp_cwa1 hi0 | omega) (by first | exact mp_cwb1 h3 hi6 | omega)
  show mp_W E X 4 2008 [(3, .int i), (2, .ref q2), (1, .ref q1), (0, .ref b)] [.int z_15, .ref b, .ref q2] (A_7 ++ B) k_9 n_10
  refine mp_lsld hL (by first | exact mp_cwc1 hi0 e_17 | omega) (by first | exact mp_cwd1 hi6 e_17 | omega) (by first | exact mp_fd_ok mp_k_code_ok (by decide +kernel) | decide +kernel) (fun v_18 hv_19 => ?_)
  have e_20 := mp_xs_same hv_5 hv_19 (by first | exact e_17.trans e_3.symm | omega)
  subst e_20
  show mp_W E X 4 2009 [(3, .int i), (2, .ref q2), (1, .ref q1), (0, .ref b)] [.int v_4, .ref q2] (A_7 ++ B) k_9 n_10
  refine mp_swap ?_
  refine mp_cm_image hF v_4 hB hW hWI (by first | exact mp_fd_ok mp_k_code_ok (by decide +kernel) | decide +kernel) (by omega) (by omega) (Nat.le_of_ble_eq_true rfl) (fun r_21 A_22 l_23 k_24 n_25 hI_26 hr_27 hk_28 hn_29 => ?_)
  refine mp_swap ?_
  have hx_30 := hr_12.2.trans hr_27.2.symm
  show mp_W E X 4 2012 [(3, .int i), (2, .ref q2), (1, .ref q1), (0, .ref b)] [.int r_21] (A_7 ++ A_22) k_24 n_25
  refine mp_run mp_k_code_ok hF mp_tabL_ok [mp_i .pop, mp_h (.goto 205) [2218]] (by decide +kernel) ?_
  refine And.intro rfl ?_
  show mp_W E X 4 2218 [(3, .int i), (2, .ref q2), (1, .ref q1), (0, .ref b)] [] (A_7 ++ A_22) k_24 n_25
  have hl_ : l_8 = l_23 := by omega
  exact kk _ _ _ _ _ _ _ _ _ _ _ _ _ _ _ hSL hW (mp_it_W hWI hW) hI_11 (hl_ ▸ hI_26) (by omega) (by omega)
set_option maxHeartbeats 4000000 in
set_option maxRecDepth 100000 in
theorem mp_case_56 {E : mp_E} {X : mp_X} {b L : Nat} {xs : Nat → Int32} (hL : mp_Lw E X b L xs) (h3 : L ≤ 3072) {i : Int32} (hi0 : 0 ≤ i.toInt) (hi6 : i.toInt + 6 ≤ L) {q1 q2 : Nat} {len : Int} {sw sl mw mm : Nat → Int32} {kp : Nat → Bool} {tp : Nat → Int32} {ft fp : Int} {td : mp_TD} {it : Nat → mp_TD} {A B : va_W} {k n : Nat} (hSL : mp_SL sw sl mw mm) (hW : mp_WF td) (hWI : ∀ j : Nat, mp_WF (it j)) (hA : mp_IC E q1 len sw sl kp tp ft fp td it A) (hB : mp_IM E q2 len mw mm kp tp ft fp td it B) (hk : k + 13 ≤ 600000) (hn : n + 204 ≤ 7302250) (kk : ∀ (len2 : Int) (sw2 sl2 mw2 mm2 : Nat → Int32) (kp2 : Nat → Bool) (tp2 : Nat → Int32) (ft2 fp2 : Int) (td2 : mp_TD) (it2 : Nat → mp_TD) (A2 B2 : va_W) (k2 n2 : Nat), mp_SL sw2 sl2 mw2 mm2 → mp_WF td2 → (∀ j : Nat, mp_WF (it2 j)) → mp_IC E q1 len2 sw2 sl2 kp2 tp2 ft2 fp2 td2 it2 A2 → mp_IM E q2 len2 mw2 mm2 kp2 tp2 ft2 fp2 td2 it2 B2 → k2 ≤ k + 13 → n2 ≤ n + 204 → mp_W E X 4 2218 [(3, .int i), (2, .ref q2), (1, .ref q1), (0, .ref b)] [] (A2 ++ B2) k2 n2) : mp_W E X 4 2016 [(3, .int i), (2, .ref q2), (1, .ref q1), (0, .ref b)] [] (A ++ B) k n := by
  have hF : mp_F E X mp_ML := hL.1
  show mp_W E X 4 2016 [(3, .int i), (2, .ref q2), (1, .ref q1), (0, .ref b)] [] (A ++ B) k n
  refine mp_run mp_k_code_ok hF mp_tabL_ok [mp_i (.aload_n 1), mp_i (.aload_n 0), mp_i (.iload_n 3), mp_c (.iconst 1) 1, mp_i .iadd] (by decide +kernel) ?_
  intro z_1 h_2
  have e_3 : z_1.toInt = i.toInt + 1 := mp_add (a := i.toInt) (b := 1) h_2 rfl (by decide) (by first | exact mp_cwa1 hi0 | omega) (by first | exact mp_cwb1 h3 hi6 | omega)
  show mp_W E X 4 2021 [(3, .int i), (2, .ref q2), (1, .ref q1), (0, .ref b)] [.int z_1, .ref b, .ref q1] (A ++ B) k n
  refine mp_lsld hL (by first | exact mp_cwc1 hi0 e_3 | omega) (by first | exact mp_cwd1 hi6 e_3 | omega) (by first | exact mp_fd_ok mp_k_code_ok (by decide +kernel) | decide +kernel) (fun v_4 hv_5 => ?_)
  show mp_W E X 4 2022 [(3, .int i), (2, .ref q2), (1, .ref q1), (0, .ref b)] [.int v_4, .ref q1] (A ++ B) k n
  refine mp_cc_back hF v_4 hA hW hWI (by first | exact mp_fd_ok mp_k_code_ok (by decide +kernel) | decide +kernel) (by omega) (by omega) (Nat.le_of_ble_eq_true rfl) (fun r_6 A_7 l_8 k_9 n_10 hI_11 hr_12 hk_13 hn_14 => ?_)
  show mp_W E X 4 2025 [(3, .int i), (2, .ref q2), (1, .ref q1), (0, .ref b)] [.int r_6] (A_7 ++ B) k_9 n_10
  refine mp_run mp_k_code_ok hF mp_tabL_ok [mp_i .pop, mp_i (.aload_n 2), mp_i (.aload_n 0), mp_i (.iload_n 3), mp_c (.iconst 1) 1, mp_i .iadd] (by decide +kernel) ?_
  refine And.intro rfl ?_
  intro z_15 h_16
  have e_17 : z_15.toInt = i.toInt + 1 := mp_add (a := i.toInt) (b := 1) h_16 rfl (by decide) (by first | exact mp_cwa1 hi0 | omega) (by first | exact mp_cwb1 h3 hi6 | omega)
  show mp_W E X 4 2031 [(3, .int i), (2, .ref q2), (1, .ref q1), (0, .ref b)] [.int z_15, .ref b, .ref q2] (A_7 ++ B) k_9 n_10
  refine mp_lsld hL (by first | exact mp_cwc1 hi0 e_17 | omega) (by first | exact mp_cwd1 hi6 e_17 | omega) (by first | exact mp_fd_ok mp_k_code_ok (by decide +kernel) | decide +kernel) (fun v_18 hv_19 => ?_)
  have e_20 := mp_xs_same hv_5 hv_19 (by first | exact e_17.trans e_3.symm | omega)
  subst e_20
  show mp_W E X 4 2032 [(3, .int i), (2, .ref q2), (1, .ref q1), (0, .ref b)] [.int v_4, .ref q2] (A_7 ++ B) k_9 n_10
  refine mp_swap ?_
  refine mp_cm_back hF v_4 hB hW hWI (by first | exact mp_fd_ok mp_k_code_ok (by decide +kernel) | decide +kernel) (by omega) (by omega) (Nat.le_of_ble_eq_true rfl) (fun r_21 A_22 l_23 k_24 n_25 hI_26 hr_27 hk_28 hn_29 => ?_)
  refine mp_swap ?_
  have hx_30 := hr_12.2.trans hr_27.2.symm
  show mp_W E X 4 2035 [(3, .int i), (2, .ref q2), (1, .ref q1), (0, .ref b)] [.int r_21] (A_7 ++ A_22) k_24 n_25
  refine mp_run mp_k_code_ok hF mp_tabL_ok [mp_i .pop, mp_h (.goto 182) [2218]] (by decide +kernel) ?_
  refine And.intro rfl ?_
  show mp_W E X 4 2218 [(3, .int i), (2, .ref q2), (1, .ref q1), (0, .ref b)] [] (A_7 ++ A_22) k_24 n_25
  have hl_ : l_8 = l_23 := by omega
  exact kk _ _ _ _ _ _ _ _ _ _ _ _ _ _ _ hSL (mp_bck_W hWI hW) hWI hI_11 (hl_ ▸ hI_26) (by omega) (by omega)
set_option maxHeartbeats 4000000 in
set_option maxRecDepth 100000 in
theorem mp_case_57 {E : mp_E} {X : mp_X} {b L : Nat} {xs : Nat → Int32} (hL : mp_Lw E X b L xs) (h3 : L ≤ 3072) {i : Int32} (hi0 : 0 ≤ i.toInt) (hi6 : i.toInt + 6 ≤ L) {q1 q2 : Nat} {len : Int} {sw sl mw mm : Nat → Int32} {kp : Nat → Bool} {tp : Nat → Int32} {ft fp : Int} {td : mp_TD} {it : Nat → mp_TD} {A B : va_W} {k n : Nat} (hSL : mp_SL sw sl mw mm) (hW : mp_WF td) (hWI : ∀ j : Nat, mp_WF (it j)) (hA : mp_IC E q1 len sw sl kp tp ft fp td it A) (hB : mp_IM E q2 len mw mm kp tp ft fp td it B) (hk : k + 13 ≤ 600000) (hn : n + 204 ≤ 7302250) (kk : ∀ (len2 : Int) (sw2 sl2 mw2 mm2 : Nat → Int32) (kp2 : Nat → Bool) (tp2 : Nat → Int32) (ft2 fp2 : Int) (td2 : mp_TD) (it2 : Nat → mp_TD) (A2 B2 : va_W) (k2 n2 : Nat), mp_SL sw2 sl2 mw2 mm2 → mp_WF td2 → (∀ j : Nat, mp_WF (it2 j)) → mp_IC E q1 len2 sw2 sl2 kp2 tp2 ft2 fp2 td2 it2 A2 → mp_IM E q2 len2 mw2 mm2 kp2 tp2 ft2 fp2 td2 it2 B2 → k2 ≤ k + 13 → n2 ≤ n + 204 → mp_W E X 4 2218 [(3, .int i), (2, .ref q2), (1, .ref q1), (0, .ref b)] [] (A2 ++ B2) k2 n2) : mp_W E X 4 2039 [(3, .int i), (2, .ref q2), (1, .ref q1), (0, .ref b)] [] (A ++ B) k n := by
  have hF : mp_F E X mp_ML := hL.1
  show mp_W E X 4 2039 [(3, .int i), (2, .ref q2), (1, .ref q1), (0, .ref b)] [] (A ++ B) k n
  refine mp_run mp_k_code_ok hF mp_tabL_ok [mp_i (.aload_n 1), mp_i (.aload_n 0), mp_i (.iload_n 3), mp_c (.iconst 1) 1, mp_i .iadd] (by decide +kernel) ?_
  intro z_1 h_2
  have e_3 : z_1.toInt = i.toInt + 1 := mp_add (a := i.toInt) (b := 1) h_2 rfl (by decide) (by first | exact mp_cwa1 hi0 | omega) (by first | exact mp_cwb1 h3 hi6 | omega)
  show mp_W E X 4 2044 [(3, .int i), (2, .ref q2), (1, .ref q1), (0, .ref b)] [.int z_1, .ref b, .ref q1] (A ++ B) k n
  refine mp_lsld hL (by first | exact mp_cwc1 hi0 e_3 | omega) (by first | exact mp_cwd1 hi6 e_3 | omega) (by first | exact mp_fd_ok mp_k_code_ok (by decide +kernel) | decide +kernel) (fun v_4 hv_5 => ?_)
  show mp_W E X 4 2045 [(3, .int i), (2, .ref q2), (1, .ref q1), (0, .ref b)] [.int v_4, .ref q1] (A ++ B) k n
  refine mp_run mp_k_code_ok hF mp_tabL_ok [mp_i (.aload_n 0), mp_i (.iload_n 3), mp_c (.iconst 2) 2, mp_i .iadd] (by decide +kernel) ?_
  intro z_6 h_7
  have e_8 : z_6.toInt = i.toInt + 2 := mp_add (a := i.toInt) (b := 2) h_7 rfl (by decide) (by first | exact mp_cwa2 hi0 | omega) (by first | exact mp_cwb2 h3 hi6 | omega)
  show mp_W E X 4 2049 [(3, .int i), (2, .ref q2), (1, .ref q1), (0, .ref b)] [.int z_6, .ref b, .int v_4, .ref q1] (A ++ B) k n
  refine mp_lsld hL (by first | exact mp_cwc2 hi0 e_8 | omega) (by first | exact mp_cwd2 hi6 e_8 | omega) (by first | exact mp_fd_ok mp_k_code_ok (by decide +kernel) | decide +kernel) (fun v_9 hv_10 => ?_)
  show mp_W E X 4 2050 [(3, .int i), (2, .ref q2), (1, .ref q1), (0, .ref b)] [.int v_9, .int v_4, .ref q1] (A ++ B) k n
  refine mp_run mp_k_code_ok hF mp_tabL_ok [mp_i (.aload_n 0), mp_i (.iload_n 3), mp_c (.iconst 3) 3, mp_i .iadd] (by decide +kernel) ?_
  intro z_11 h_12
  have e_13 : z_11.toInt = i.toInt + 3 := mp_add (a := i.toInt) (b := 3) h_12 rfl (by decide) (by first | exact mp_cwa3 hi0 | omega) (by first | exact mp_cwb3 h3 hi6 | omega)
  show mp_W E X 4 2054 [(3, .int i), (2, .ref q2), (1, .ref q1), (0, .ref b)] [.int z_11, .ref b, .int v_9, .int v_4, .ref q1] (A ++ B) k n
  refine mp_lsld hL (by first | exact mp_cwc3 hi0 e_13 | omega) (by first | exact mp_cwd3 hi6 e_13 | omega) (by first | exact mp_fd_ok mp_k_code_ok (by decide +kernel) | decide +kernel) (fun v_14 hv_15 => ?_)
  show mp_W E X 4 2055 [(3, .int i), (2, .ref q2), (1, .ref q1), (0, .ref b)] [.int v_14, .int v_9, .int v_4, .ref q1] (A ++ B) k n
  refine mp_cc_row hF v_4 v_9 v_14 hA hW hWI (by first | exact mp_fd_ok mp_k_code_ok (by decide +kernel) | decide +kernel) (by omega) (by omega) (Nat.le_of_ble_eq_true rfl) (fun r_16 A_17 l_18 sw_25 sl_26 k_19 n_20 hI_21 hr_22 hk_23 hn_24 => ?_)
  show mp_W E X 4 2058 [(3, .int i), (2, .ref q2), (1, .ref q1), (0, .ref b)] [.int r_16] (A_17 ++ B) k_19 n_20
  refine mp_run mp_k_code_ok hF mp_tabL_ok [mp_i .pop, mp_i (.aload_n 2), mp_i (.aload_n 0), mp_i (.iload_n 3), mp_c (.iconst 1) 1, mp_i .iadd] (by decide +kernel) ?_
  refine And.intro rfl ?_
  intro z_27 h_28
  have e_29 : z_27.toInt = i.toInt + 1 := mp_add (a := i.toInt) (b := 1) h_28 rfl (by decide) (by first | exact mp_cwa1 hi0 | omega) (by first | exact mp_cwb1 h3 hi6 | omega)
  show mp_W E X 4 2064 [(3, .int i), (2, .ref q2), (1, .ref q1), (0, .ref b)] [.int z_27, .ref b, .ref q2] (A_17 ++ B) k_19 n_20
  refine mp_lsld hL (by first | exact mp_cwc1 hi0 e_29 | omega) (by first | exact mp_cwd1 hi6 e_29 | omega) (by first | exact mp_fd_ok mp_k_code_ok (by decide +kernel) | decide +kernel) (fun v_30 hv_31 => ?_)
  have e_32 := mp_xs_same hv_5 hv_31 (by first | exact e_29.trans e_3.symm | omega)
  subst e_32
  show mp_W E X 4 2065 [(3, .int i), (2, .ref q2), (1, .ref q1), (0, .ref b)] [.int v_4, .ref q2] (A_17 ++ B) k_19 n_20
  refine mp_run mp_k_code_ok hF mp_tabL_ok [mp_i (.aload_n 0), mp_i (.iload_n 3), mp_c (.iconst 2) 2, mp_i .iadd] (by decide +kernel) ?_
  intro z_33 h_34
  have e_35 : z_33.toInt = i.toInt + 2 := mp_add (a := i.toInt) (b := 2) h_34 rfl (by decide) (by first | exact mp_cwa2 hi0 | omega) (by first | exact mp_cwb2 h3 hi6 | omega)
  show mp_W E X 4 2069 [(3, .int i), (2, .ref q2), (1, .ref q1), (0, .ref b)] [.int z_33, .ref b, .int v_4, .ref q2] (A_17 ++ B) k_19 n_20
  refine mp_lsld hL (by first | exact mp_cwc2 hi0 e_35 | omega) (by first | exact mp_cwd2 hi6 e_35 | omega) (by first | exact mp_fd_ok mp_k_code_ok (by decide +kernel) | decide +kernel) (fun v_36 hv_37 => ?_)
  have e_38 := mp_xs_same hv_10 hv_37 (by first | exact e_35.trans e_8.symm | omega)
  subst e_38
  show mp_W E X 4 2070 [(3, .int i), (2, .ref q2), (1, .ref q1), (0, .ref b)] [.int v_9, .int v_4, .ref q2] (A_17 ++ B) k_19 n_20
  refine mp_run mp_k_code_ok hF mp_tabL_ok [mp_i (.aload_n 0), mp_i (.iload_n 3), mp_c (.iconst 3) 3, mp_i .iadd] (by decide +kernel) ?_
  intro z_39 h_40
  have e_41 : z_39.toInt = i.toInt + 3 := mp_add (a := i.toInt) (b := 3) h_40 rfl (by decide) (by first | exact mp_cwa3 hi0 | omega) (by first | exact mp_cwb3 h3 hi6 | omega)
  show mp_W E X 4 2074 [(3, .int i), (2, .ref q2), (1, .ref q1), (0, .ref b)] [.int z_39, .ref b, .int v_9, .int v_4, .ref q2] (A_17 ++ B) k_19 n_20
  refine mp_lsld hL (by first | exact mp_cwc3 hi0 e_41 | omega) (by first | exact mp_cwd3 hi6 e_41 | omega) (by first | exact mp_fd_ok mp_k_code_ok (by decide +kernel) | decide +kernel) (fun v_42 hv_43 => ?_)
  have e_44 := mp_xs_same hv_15 hv_43 (by first | exact e_41.trans e_13.symm | omega)
  subst e_44
  show mp_W E X 4 2075 [(3, .int i), (2, .ref q2), (1, .ref q1), (0, .ref b)] [.int v_14, .int v_9, .int v_4, .ref q2] (A_17 ++ B) k_19 n_20
  refine mp_swap ?_
  refine mp_cm_row hF v_4 v_9 v_14 hB hW hWI (by first | exact mp_fd_ok mp_k_code_ok (by decide +kernel) | decide +kernel) (by omega) (by omega) (Nat.le_of_ble_eq_true rfl) (fun r_45 A_46 l_47 sw_54 sl_55 k_48 n_49 hI_50 hr_51 hk_52 hn_53 => ?_)
  refine mp_swap ?_
  have hx_56 := mp_row_eq hSL hr_22.2 hr_51.2
  have hq_57 := hx_56.1
  show mp_W E X 4 2078 [(3, .int i), (2, .ref q2), (1, .ref q1), (0, .ref b)] [.int r_45] (A_17 ++ A_46) k_48 n_49
  refine mp_run mp_k_code_ok hF mp_tabL_ok [mp_i .pop, mp_h (.goto 139) [2218]] (by decide +kernel) ?_
  refine And.intro rfl ?_
  show mp_W E X 4 2218 [(3, .int i), (2, .ref q2), (1, .ref q1), (0, .ref b)] [] (A_17 ++ A_46) k_48 n_49
  have hl_ : l_18 = l_47 := by omega
  exact kk _ _ _ _ _ _ _ _ _ _ _ _ _ _ _ hx_56.2 hW hWI hI_21 (hl_ ▸ hI_50) (by omega) (by omega)
set_option maxHeartbeats 4000000 in
set_option maxRecDepth 100000 in
theorem mp_case_58 {E : mp_E} {X : mp_X} {b L : Nat} {xs : Nat → Int32} (hL : mp_Lw E X b L xs) (h3 : L ≤ 3072) {i : Int32} (hi0 : 0 ≤ i.toInt) (hi6 : i.toInt + 6 ≤ L) {q1 q2 : Nat} {len : Int} {sw sl mw mm : Nat → Int32} {kp : Nat → Bool} {tp : Nat → Int32} {ft fp : Int} {td : mp_TD} {it : Nat → mp_TD} {A B : va_W} {k n : Nat} (hSL : mp_SL sw sl mw mm) (hW : mp_WF td) (hWI : ∀ j : Nat, mp_WF (it j)) (hA : mp_IC E q1 len sw sl kp tp ft fp td it A) (hB : mp_IM E q2 len mw mm kp tp ft fp td it B) (hk : k + 13 ≤ 600000) (hn : n + 204 ≤ 7302250) (kk : ∀ (len2 : Int) (sw2 sl2 mw2 mm2 : Nat → Int32) (kp2 : Nat → Bool) (tp2 : Nat → Int32) (ft2 fp2 : Int) (td2 : mp_TD) (it2 : Nat → mp_TD) (A2 B2 : va_W) (k2 n2 : Nat), mp_SL sw2 sl2 mw2 mm2 → mp_WF td2 → (∀ j : Nat, mp_WF (it2 j)) → mp_IC E q1 len2 sw2 sl2 kp2 tp2 ft2 fp2 td2 it2 A2 → mp_IM E q2 len2 mw2 mm2 kp2 tp2 ft2 fp2 td2 it2 B2 → k2 ≤ k + 13 → n2 ≤ n + 204 → mp_W E X 4 2218 [(3, .int i), (2, .ref q2), (1, .ref q1), (0, .ref b)] [] (A2 ++ B2) k2 n2) : mp_W E X 4 2082 [(3, .int i), (2, .ref q2), (1, .ref q1), (0, .ref b)] [] (A ++ B) k n := by
  have hF : mp_F E X mp_ML := hL.1
  show mp_W E X 4 2082 [(3, .int i), (2, .ref q2), (1, .ref q1), (0, .ref b)] [] (A ++ B) k n
  refine mp_run mp_k_code_ok hF mp_tabL_ok [mp_i (.aload_n 1), mp_i (.aload_n 0), mp_i (.iload_n 3), mp_c (.iconst 1) 1, mp_i .iadd] (by decide +kernel) ?_
  intro z_1 h_2
  have e_3 : z_1.toInt = i.toInt + 1 := mp_add (a := i.toInt) (b := 1) h_2 rfl (by decide) (by first | exact mp_cwa1 hi0 | omega) (by first | exact mp_cwb1 h3 hi6 | omega)
  show mp_W E X 4 2087 [(3, .int i), (2, .ref q2), (1, .ref q1), (0, .ref b)] [.int z_1, .ref b, .ref q1] (A ++ B) k n
  refine mp_lsld hL (by first | exact mp_cwc1 hi0 e_3 | omega) (by first | exact mp_cwd1 hi6 e_3 | omega) (by first | exact mp_fd_ok mp_k_code_ok (by decide +kernel) | decide +kernel) (fun v_4 hv_5 => ?_)
  show mp_W E X 4 2088 [(3, .int i), (2, .ref q2), (1, .ref q1), (0, .ref b)] [.int v_4, .ref q1] (A ++ B) k n
  refine mp_run mp_k_code_ok hF mp_tabL_ok [mp_i (.aload_n 0), mp_i (.iload_n 3), mp_c (.iconst 2) 2, mp_i .iadd] (by decide +kernel) ?_
  intro z_6 h_7
  have e_8 : z_6.toInt = i.toInt + 2 := mp_add (a := i.toInt) (b := 2) h_7 rfl (by decide) (by first | exact mp_cwa2 hi0 | omega) (by first | exact mp_cwb2 h3 hi6 | omega)
  show mp_W E X 4 2092 [(3, .int i), (2, .ref q2), (1, .ref q1), (0, .ref b)] [.int z_6, .ref b, .int v_4, .ref q1] (A ++ B) k n
  refine mp_lsld hL (by first | exact mp_cwc2 hi0 e_8 | omega) (by first | exact mp_cwd2 hi6 e_8 | omega) (by first | exact mp_fd_ok mp_k_code_ok (by decide +kernel) | decide +kernel) (fun v_9 hv_10 => ?_)
  show mp_W E X 4 2093 [(3, .int i), (2, .ref q2), (1, .ref q1), (0, .ref b)] [.int v_9, .int v_4, .ref q1] (A ++ B) k n
  refine mp_run mp_k_code_ok hF mp_tabL_ok [mp_i (.aload_n 0), mp_i (.iload_n 3), mp_c (.iconst 3) 3, mp_i .iadd] (by decide +kernel) ?_
  intro z_11 h_12
  have e_13 : z_11.toInt = i.toInt + 3 := mp_add (a := i.toInt) (b := 3) h_12 rfl (by decide) (by first | exact mp_cwa3 hi0 | omega) (by first | exact mp_cwb3 h3 hi6 | omega)
  show mp_W E X 4 2097 [(3, .int i), (2, .ref q2), (1, .ref q1), (0, .ref b)] [.int z_11, .ref b, .int v_9, .int v_4, .ref q1] (A ++ B) k n
  refine mp_lsld hL (by first | exact mp_cwc3 hi0 e_13 | omega) (by first | exact mp_cwd3 hi6 e_13 | omega) (by first | exact mp_fd_ok mp_k_code_ok (by decide +kernel) | decide +kernel) (fun v_14 hv_15 => ?_)
  show mp_W E X 4 2098 [(3, .int i), (2, .ref q2), (1, .ref q1), (0, .ref b)] [.int v_14, .int v_9, .int v_4, .ref q1] (A ++ B) k n
  refine mp_run mp_k_code_ok hF mp_tabL_ok [mp_i .i2l, mp_c (.bipush 32) 32, mp_i .lshl, mp_i (.aload_n 0), mp_i (.iload_n 3), mp_c (.iconst 4) 4, mp_i .iadd] (by decide +kernel) ?_
  intro z_16 h_17
  have e_18 : z_16.toInt = v_14.toInt := mp_i2l h_17
  intro z_19 h_20
  intro z_21 h_22
  have e_23 : z_21.toInt = i.toInt + 4 := mp_add (a := i.toInt) (b := 4) h_22 rfl (by decide) (by first | exact mp_cwa4 hi0 | omega) (by first | exact mp_cwb4 h3 hi6 | omega)
  show mp_W E X 4 2106 [(3, .int i), (2, .ref q2), (1, .ref q1), (0, .ref b)] [.int z_21, .ref b, .long z_19, .int v_9, .int v_4, .ref q1] (A ++ B) k n
  refine mp_lsld hL (by first | exact mp_cwc4 hi0 e_23 | omega) (by first | exact mp_cwd4 hi6 e_23 | omega) (by first | exact mp_fd_ok mp_k_code_ok (by decide +kernel) | decide +kernel) (fun v_24 hv_25 => ?_)
  show mp_W E X 4 2107 [(3, .int i), (2, .ref q2), (1, .ref q1), (0, .ref b)] [.int v_24, .long z_19, .int v_9, .int v_4, .ref q1] (A ++ B) k n
  refine mp_run mp_k_code_ok hF mp_tabL_ok [mp_i .i2l, mp_cl (.ldc2_w 252) 4294967295, mp_i .land, mp_i .lor] (by decide +kernel) ?_
  intro z_26 h_27
  have e_28 : z_26.toInt = v_24.toInt := mp_i2l h_27
  intro z_29 h_30
  intro z_31 h_32
  show mp_W E X 4 2113 [(3, .int i), (2, .ref q2), (1, .ref q1), (0, .ref b)] [.long z_31, .int v_9, .int v_4, .ref q1] (A ++ B) k n
  refine mp_cc_write hF v_4 v_9 z_31 hA hW hWI (by first | exact mp_fd_ok mp_k_code_ok (by decide +kernel) | decide +kernel) (by omega) (by omega) (Nat.le_of_ble_eq_true rfl) (fun r_33 A_34 l_35 k_36 n_37 hI_38 hr_39 hk_40 hn_41 => ?_)
  show mp_W E X 4 2116 [(3, .int i), (2, .ref q2), (1, .ref q1), (0, .ref b)] [.int r_33] (A_34 ++ B) k_36 n_37
  refine mp_run mp_k_code_ok hF mp_tabL_ok [mp_i .pop, mp_i (.aload_n 2), mp_i (.aload_n 0), mp_i (.iload_n 3), mp_c (.iconst 1) 1, mp_i .iadd] (by decide +kernel) ?_
  refine And.intro rfl ?_
  intro z_42 h_43
  have e_44 : z_42.toInt = i.toInt + 1 := mp_add (a := i.toInt) (b := 1) h_43 rfl (by decide) (by first | exact mp_cwa1 hi0 | omega) (by first | exact mp_cwb1 h3 hi6 | omega)
  show mp_W E X 4 2122 [(3, .int i), (2, .ref q2), (1, .ref q1), (0, .ref b)] [.int z_42, .ref b, .ref q2] (A_34 ++ B) k_36 n_37
  refine mp_lsld hL (by first | exact mp_cwc1 hi0 e_44 | omega) (by first | exact mp_cwd1 hi6 e_44 | omega) (by first | exact mp_fd_ok mp_k_code_ok (by decide +kernel) | decide +kernel) (fun v_45 hv_46 => ?_)
  have e_47 := mp_xs_same hv_5 hv_46 (by first | exact e_44.trans e_3.symm | omega)
  subst e_47
  show mp_W E X 4 2123 [(3, .int i), (2, .ref q2), (1, .ref q1), (0, .ref b)] [.int v_4, .ref q2] (A_34 ++ B) k_36 n_37
  refine mp_run mp_k_code_ok hF mp_tabL_ok [mp_i (.aload_n 0), mp_i (.iload_n 3), mp_c (.iconst 2) 2, mp_i .iadd] (by decide +kernel) ?_
  intro z_48 h_49
  have e_50 : z_48.toInt = i.toInt + 2 := mp_add (a := i.toInt) (b := 2) h_49 rfl (by decide) (by first | exact mp_cwa2 hi0 | omega) (by first | exact mp_cwb2 h3 hi6 | omega)
  show mp_W E X 4 2127 [(3, .int i), (2, .ref q2), (1, .ref q1), (0, .ref b)] [.int z_48, .ref b, .int v_4, .ref q2] (A_34 ++ B) k_36 n_37
  refine mp_lsld hL (by first | exact mp_cwc2 hi0 e_50 | omega) (by first | exact mp_cwd2 hi6 e_50 | omega) (by first | exact mp_fd_ok mp_k_code_ok (by decide +kernel) | decide +kernel) (fun v_51 hv_52 => ?_)
  have e_53 := mp_xs_same hv_10 hv_52 (by first | exact e_50.trans e_8.symm | omega)
  subst e_53
  show mp_W E X 4 2128 [(3, .int i), (2, .ref q2), (1, .ref q1), (0, .ref b)] [.int v_9, .int v_4, .ref q2] (A_34 ++ B) k_36 n_37
  refine mp_run mp_k_code_ok hF mp_tabL_ok [mp_i (.aload_n 0), mp_i (.iload_n 3), mp_c (.iconst 3) 3, mp_i .iadd] (by decide +kernel) ?_
  intro z_54 h_55
  have e_56 : z_54.toInt = i.toInt + 3 := mp_add (a := i.toInt) (b := 3) h_55 rfl (by decide) (by first | exact mp_cwa3 hi0 | omega) (by first | exact mp_cwb3 h3 hi6 | omega)
  show mp_W E X 4 2132 [(3, .int i), (2, .ref q2), (1, .ref q1), (0, .ref b)] [.int z_54, .ref b, .int v_9, .int v_4, .ref q2] (A_34 ++ B) k_36 n_37
  refine mp_lsld hL (by first | exact mp_cwc3 hi0 e_56 | omega) (by first | exact mp_cwd3 hi6 e_56 | omega) (by first | exact mp_fd_ok mp_k_code_ok (by decide +kernel) | decide +kernel) (fun v_57 hv_58 => ?_)
  have e_59 := mp_xs_same hv_15 hv_58 (by first | exact e_56.trans e_13.symm | omega)
  subst e_59
  show mp_W E X 4 2133 [(3, .int i), (2, .ref q2), (1, .ref q1), (0, .ref b)] [.int v_14, .int v_9, .int v_4, .ref q2] (A_34 ++ B) k_36 n_37
  refine mp_run mp_k_code_ok hF mp_tabL_ok [mp_i .i2l, mp_c (.bipush 32) 32, mp_i .lshl, mp_i (.aload_n 0), mp_i (.iload_n 3), mp_c (.iconst 4) 4, mp_i .iadd] (by decide +kernel) ?_
  intro z_60 h_61
  have e_62 : z_60.toInt = v_14.toInt := mp_i2l h_61
  intro z_63 h_64
  intro z_65 h_66
  have e_67 : z_65.toInt = i.toInt + 4 := mp_add (a := i.toInt) (b := 4) h_66 rfl (by decide) (by first | exact mp_cwa4 hi0 | omega) (by first | exact mp_cwb4 h3 hi6 | omega)
  show mp_W E X 4 2141 [(3, .int i), (2, .ref q2), (1, .ref q1), (0, .ref b)] [.int z_65, .ref b, .long z_63, .int v_9, .int v_4, .ref q2] (A_34 ++ B) k_36 n_37
  refine mp_lsld hL (by first | exact mp_cwc4 hi0 e_67 | omega) (by first | exact mp_cwd4 hi6 e_67 | omega) (by first | exact mp_fd_ok mp_k_code_ok (by decide +kernel) | decide +kernel) (fun v_68 hv_69 => ?_)
  have e_70 := mp_xs_same hv_25 hv_69 (by first | exact e_67.trans e_23.symm | omega)
  subst e_70
  show mp_W E X 4 2142 [(3, .int i), (2, .ref q2), (1, .ref q1), (0, .ref b)] [.int v_24, .long z_63, .int v_9, .int v_4, .ref q2] (A_34 ++ B) k_36 n_37
  refine mp_run mp_k_code_ok hF mp_tabL_ok [mp_i .i2l, mp_cl (.ldc2_w 252) 4294967295, mp_i .land, mp_i .lor] (by decide +kernel) ?_
  intro z_71 h_72
  have e_73 : z_71.toInt = v_24.toInt := mp_i2l h_72
  intro z_74 h_75
  intro z_76 h_77
  show mp_W E X 4 2148 [(3, .int i), (2, .ref q2), (1, .ref q1), (0, .ref b)] [.long z_76, .int v_9, .int v_4, .ref q2] (A_34 ++ B) k_36 n_37
  refine mp_swap ?_
  refine mp_cm_write hF v_4 v_9 z_76 hB hW hWI (by first | exact mp_fd_ok mp_k_code_ok (by decide +kernel) | decide +kernel) (by omega) (by omega) (Nat.le_of_ble_eq_true rfl) (fun r_78 A_79 l_80 k_81 n_82 hI_83 hr_84 hk_85 hn_86 => ?_)
  refine mp_swap ?_
  have hx_87 := mp_wrt_eq hSL hr_39.2 hr_84.2
  show mp_W E X 4 2151 [(3, .int i), (2, .ref q2), (1, .ref q1), (0, .ref b)] [.int r_78] (A_34 ++ A_79) k_81 n_82
  refine mp_run mp_k_code_ok hF mp_tabL_ok [mp_i .pop, mp_h (.goto 66) [2218]] (by decide +kernel) ?_
  refine And.intro rfl ?_
  show mp_W E X 4 2218 [(3, .int i), (2, .ref q2), (1, .ref q1), (0, .ref b)] [] (A_34 ++ A_79) k_81 n_82
  have hl_ : l_35 = l_80 := by omega
  exact kk _ _ _ _ _ _ _ _ _ _ _ _ _ _ _ hSL hW hWI hI_38 (hl_ ▸ hI_83) (by omega) (by omega)
set_option maxHeartbeats 4000000 in
set_option maxRecDepth 100000 in
theorem mp_case_59 {E : mp_E} {X : mp_X} {b L : Nat} {xs : Nat → Int32} (hL : mp_Lw E X b L xs) (h3 : L ≤ 3072) {i : Int32} (hi0 : 0 ≤ i.toInt) (hi6 : i.toInt + 6 ≤ L) {q1 q2 : Nat} {len : Int} {sw sl mw mm : Nat → Int32} {kp : Nat → Bool} {tp : Nat → Int32} {ft fp : Int} {td : mp_TD} {it : Nat → mp_TD} {A B : va_W} {k n : Nat} (hSL : mp_SL sw sl mw mm) (hW : mp_WF td) (hWI : ∀ j : Nat, mp_WF (it j)) (hA : mp_IC E q1 len sw sl kp tp ft fp td it A) (hB : mp_IM E q2 len mw mm kp tp ft fp td it B) (hk : k + 13 ≤ 600000) (hn : n + 204 ≤ 7302250) (kk : ∀ (len2 : Int) (sw2 sl2 mw2 mm2 : Nat → Int32) (kp2 : Nat → Bool) (tp2 : Nat → Int32) (ft2 fp2 : Int) (td2 : mp_TD) (it2 : Nat → mp_TD) (A2 B2 : va_W) (k2 n2 : Nat), mp_SL sw2 sl2 mw2 mm2 → mp_WF td2 → (∀ j : Nat, mp_WF (it2 j)) → mp_IC E q1 len2 sw2 sl2 kp2 tp2 ft2 fp2 td2 it2 A2 → mp_IM E q2 len2 mw2 mm2 kp2 tp2 ft2 fp2 td2 it2 B2 → k2 ≤ k + 13 → n2 ≤ n + 204 → mp_W E X 4 2218 [(3, .int i), (2, .ref q2), (1, .ref q1), (0, .ref b)] [] (A2 ++ B2) k2 n2) : mp_W E X 4 2155 [(3, .int i), (2, .ref q2), (1, .ref q1), (0, .ref b)] [] (A ++ B) k n := by
  have hF : mp_F E X mp_ML := hL.1
  show mp_W E X 4 2155 [(3, .int i), (2, .ref q2), (1, .ref q1), (0, .ref b)] [] (A ++ B) k n
  refine mp_run mp_k_code_ok hF mp_tabL_ok [mp_i (.aload_n 1), mp_i (.aload_n 0), mp_i (.iload_n 3), mp_c (.iconst 1) 1, mp_i .iadd] (by decide +kernel) ?_
  intro z_1 h_2
  have e_3 : z_1.toInt = i.toInt + 1 := mp_add (a := i.toInt) (b := 1) h_2 rfl (by decide) (by first | exact mp_cwa1 hi0 | omega) (by first | exact mp_cwb1 h3 hi6 | omega)
  show mp_W E X 4 2160 [(3, .int i), (2, .ref q2), (1, .ref q1), (0, .ref b)] [.int z_1, .ref b, .ref q1] (A ++ B) k n
  refine mp_lsld hL (by first | exact mp_cwc1 hi0 e_3 | omega) (by first | exact mp_cwd1 hi6 e_3 | omega) (by first | exact mp_fd_ok mp_k_code_ok (by decide +kernel) | decide +kernel) (fun v_4 hv_5 => ?_)
  show mp_W E X 4 2161 [(3, .int i), (2, .ref q2), (1, .ref q1), (0, .ref b)] [.int v_4, .ref q1] (A ++ B) k n
  refine mp_run mp_k_code_ok hF mp_tabL_ok [mp_i (.aload_n 0), mp_i (.iload_n 3), mp_c (.iconst 2) 2, mp_i .iadd] (by decide +kernel) ?_
  intro z_6 h_7
  have e_8 : z_6.toInt = i.toInt + 2 := mp_add (a := i.toInt) (b := 2) h_7 rfl (by decide) (by first | exact mp_cwa2 hi0 | omega) (by first | exact mp_cwb2 h3 hi6 | omega)
  show mp_W E X 4 2165 [(3, .int i), (2, .ref q2), (1, .ref q1), (0, .ref b)] [.int z_6, .ref b, .int v_4, .ref q1] (A ++ B) k n
  refine mp_lsld hL (by first | exact mp_cwc2 hi0 e_8 | omega) (by first | exact mp_cwd2 hi6 e_8 | omega) (by first | exact mp_fd_ok mp_k_code_ok (by decide +kernel) | decide +kernel) (fun v_9 hv_10 => ?_)
  show mp_W E X 4 2166 [(3, .int i), (2, .ref q2), (1, .ref q1), (0, .ref b)] [.int v_9, .int v_4, .ref q1] (A ++ B) k n
  refine mp_run mp_k_code_ok hF mp_tabL_ok [mp_i (.aload_n 0), mp_i (.iload_n 3), mp_c (.iconst 3) 3, mp_i .iadd] (by decide +kernel) ?_
  intro z_11 h_12
  have e_13 : z_11.toInt = i.toInt + 3 := mp_add (a := i.toInt) (b := 3) h_12 rfl (by decide) (by first | exact mp_cwa3 hi0 | omega) (by first | exact mp_cwb3 h3 hi6 | omega)
  show mp_W E X 4 2170 [(3, .int i), (2, .ref q2), (1, .ref q1), (0, .ref b)] [.int z_11, .ref b, .int v_9, .int v_4, .ref q1] (A ++ B) k n
  refine mp_lsld hL (by first | exact mp_cwc3 hi0 e_13 | omega) (by first | exact mp_cwd3 hi6 e_13 | omega) (by first | exact mp_fd_ok mp_k_code_ok (by decide +kernel) | decide +kernel) (fun v_14 hv_15 => ?_)
  show mp_W E X 4 2171 [(3, .int i), (2, .ref q2), (1, .ref q1), (0, .ref b)] [.int v_14, .int v_9, .int v_4, .ref q1] (A ++ B) k n
  refine mp_run mp_k_code_ok hF mp_tabL_ok [mp_i (.aload_n 0), mp_i (.iload_n 3), mp_c (.iconst 4) 4, mp_i .iadd] (by decide +kernel) ?_
  intro z_16 h_17
  have e_18 : z_16.toInt = i.toInt + 4 := mp_add (a := i.toInt) (b := 4) h_17 rfl (by decide) (by first | exact mp_cwa4 hi0 | omega) (by first | exact mp_cwb4 h3 hi6 | omega)
  show mp_W E X 4 2175 [(3, .int i), (2, .ref q2), (1, .ref q1), (0, .ref b)] [.int z_16, .ref b, .int v_14, .int v_9, .int v_4, .ref q1] (A ++ B) k n
  refine mp_lsld hL (by first | exact mp_cwc4 hi0 e_18 | omega) (by first | exact mp_cwd4 hi6 e_18 | omega) (by first | exact mp_fd_ok mp_k_code_ok (by decide +kernel) | decide +kernel) (fun v_19 hv_20 => ?_)
  show mp_W E X 4 2176 [(3, .int i), (2, .ref q2), (1, .ref q1), (0, .ref b)] [.int v_19, .int v_14, .int v_9, .int v_4, .ref q1] (A ++ B) k n
  refine mp_run mp_k_code_ok hF mp_tabL_ok [mp_i (.aload_n 0), mp_i (.iload_n 3), mp_c (.iconst 5) 5, mp_i .iadd] (by decide +kernel) ?_
  intro z_21 h_22
  have e_23 : z_21.toInt = i.toInt + 5 := mp_add (a := i.toInt) (b := 5) h_22 rfl (by decide) (by first | exact mp_cwa5 hi0 | omega) (by first | exact mp_cwb5 h3 hi6 | omega)
  show mp_W E X 4 2180 [(3, .int i), (2, .ref q2), (1, .ref q1), (0, .ref b)] [.int z_21, .ref b, .int v_19, .int v_14, .int v_9, .int v_4, .ref q1] (A ++ B) k n
  refine mp_lsld hL (by first | exact mp_cwc5 hi0 e_23 | omega) (by first | exact mp_cwd5 hi6 e_23 | omega) (by first | exact mp_fd_ok mp_k_code_ok (by decide +kernel) | decide +kernel) (fun v_24 hv_25 => ?_)
  show mp_W E X 4 2181 [(3, .int i), (2, .ref q2), (1, .ref q1), (0, .ref b)] [.int v_24, .int v_19, .int v_14, .int v_9, .int v_4, .ref q1] (A ++ B) k n
  refine mp_cc_paste hF v_4 v_9 v_14 v_19 v_24 hA hW hWI (by first | exact mp_fd_ok mp_k_code_ok (by decide +kernel) | decide +kernel) (by omega) (by omega) (Nat.le_of_ble_eq_true rfl) (fun r_26 A_27 l_28 k_29 n_30 hI_31 hr_32 hk_33 hn_34 => ?_)
  show mp_W E X 4 2184 [(3, .int i), (2, .ref q2), (1, .ref q1), (0, .ref b)] [.int r_26] (A_27 ++ B) k_29 n_30
  refine mp_run mp_k_code_ok hF mp_tabL_ok [mp_i (.aload_n 2), mp_i (.aload_n 0), mp_i (.iload_n 3), mp_c (.iconst 1) 1, mp_i .iadd] (by decide +kernel) ?_
  intro z_35 h_36
  have e_37 : z_35.toInt = i.toInt + 1 := mp_add (a := i.toInt) (b := 1) h_36 rfl (by decide) (by first | exact mp_cwa1 hi0 | omega) (by first | exact mp_cwb1 h3 hi6 | omega)
  show mp_W E X 4 2189 [(3, .int i), (2, .ref q2), (1, .ref q1), (0, .ref b)] [.int z_35, .ref b, .ref q2, .int r_26] (A_27 ++ B) k_29 n_30
  refine mp_lsld hL (by first | exact mp_cwc1 hi0 e_37 | omega) (by first | exact mp_cwd1 hi6 e_37 | omega) (by first | exact mp_fd_ok mp_k_code_ok (by decide +kernel) | decide +kernel) (fun v_38 hv_39 => ?_)
  have e_40 := mp_xs_same hv_5 hv_39 (by first | exact e_37.trans e_3.symm | omega)
  subst e_40
  show mp_W E X 4 2190 [(3, .int i), (2, .ref q2), (1, .ref q1), (0, .ref b)] [.int v_4, .ref q2, .int r_26] (A_27 ++ B) k_29 n_30
  refine mp_run mp_k_code_ok hF mp_tabL_ok [mp_i (.aload_n 0), mp_i (.iload_n 3), mp_c (.iconst 2) 2, mp_i .iadd] (by decide +kernel) ?_
  intro z_41 h_42
  have e_43 : z_41.toInt = i.toInt + 2 := mp_add (a := i.toInt) (b := 2) h_42 rfl (by decide) (by first | exact mp_cwa2 hi0 | omega) (by first | exact mp_cwb2 h3 hi6 | omega)
  show mp_W E X 4 2194 [(3, .int i), (2, .ref q2), (1, .ref q1), (0, .ref b)] [.int z_41, .ref b, .int v_4, .ref q2, .int r_26] (A_27 ++ B) k_29 n_30
  refine mp_lsld hL (by first | exact mp_cwc2 hi0 e_43 | omega) (by first | exact mp_cwd2 hi6 e_43 | omega) (by first | exact mp_fd_ok mp_k_code_ok (by decide +kernel) | decide +kernel) (fun v_44 hv_45 => ?_)
  have e_46 := mp_xs_same hv_10 hv_45 (by first | exact e_43.trans e_8.symm | omega)
  subst e_46
  show mp_W E X 4 2195 [(3, .int i), (2, .ref q2), (1, .ref q1), (0, .ref b)] [.int v_9, .int v_4, .ref q2, .int r_26] (A_27 ++ B) k_29 n_30
  refine mp_run mp_k_code_ok hF mp_tabL_ok [mp_i (.aload_n 0), mp_i (.iload_n 3), mp_c (.iconst 3) 3, mp_i .iadd] (by decide +kernel) ?_
  intro z_47 h_48
  have e_49 : z_47.toInt = i.toInt + 3 := mp_add (a := i.toInt) (b := 3) h_48 rfl (by decide) (by first | exact mp_cwa3 hi0 | omega) (by first | exact mp_cwb3 h3 hi6 | omega)
  show mp_W E X 4 2199 [(3, .int i), (2, .ref q2), (1, .ref q1), (0, .ref b)] [.int z_47, .ref b, .int v_9, .int v_4, .ref q2, .int r_26] (A_27 ++ B) k_29 n_30
  refine mp_lsld hL (by first | exact mp_cwc3 hi0 e_49 | omega) (by first | exact mp_cwd3 hi6 e_49 | omega) (by first | exact mp_fd_ok mp_k_code_ok (by decide +kernel) | decide +kernel) (fun v_50 hv_51 => ?_)
  have e_52 := mp_xs_same hv_15 hv_51 (by first | exact e_49.trans e_13.symm | omega)
  subst e_52
  show mp_W E X 4 2200 [(3, .int i), (2, .ref q2), (1, .ref q1), (0, .ref b)] [.int v_14, .int v_9, .int v_4, .ref q2, .int r_26] (A_27 ++ B) k_29 n_30
  refine mp_run mp_k_code_ok hF mp_tabL_ok [mp_i (.aload_n 0), mp_i (.iload_n 3), mp_c (.iconst 4) 4, mp_i .iadd] (by decide +kernel) ?_
  intro z_53 h_54
  have e_55 : z_53.toInt = i.toInt + 4 := mp_add (a := i.toInt) (b := 4) h_54 rfl (by decide) (by first | exact mp_cwa4 hi0 | omega) (by first | exact mp_cwb4 h3 hi6 | omega)
  show mp_W E X 4 2204 [(3, .int i), (2, .ref q2), (1, .ref q1), (0, .ref b)] [.int z_53, .ref b, .int v_14, .int v_9, .int v_4, .ref q2, .int r_26] (A_27 ++ B) k_29 n_30
  refine mp_lsld hL (by first | exact mp_cwc4 hi0 e_55 | omega) (by first | exact mp_cwd4 hi6 e_55 | omega) (by first | exact mp_fd_ok mp_k_code_ok (by decide +kernel) | decide +kernel) (fun v_56 hv_57 => ?_)
  have e_58 := mp_xs_same hv_20 hv_57 (by first | exact e_55.trans e_18.symm | omega)
  subst e_58
  show mp_W E X 4 2205 [(3, .int i), (2, .ref q2), (1, .ref q1), (0, .ref b)] [.int v_19, .int v_14, .int v_9, .int v_4, .ref q2, .int r_26] (A_27 ++ B) k_29 n_30
  refine mp_run mp_k_code_ok hF mp_tabL_ok [mp_i (.aload_n 0), mp_i (.iload_n 3), mp_c (.iconst 5) 5, mp_i .iadd] (by decide +kernel) ?_
  intro z_59 h_60
  have e_61 : z_59.toInt = i.toInt + 5 := mp_add (a := i.toInt) (b := 5) h_60 rfl (by decide) (by first | exact mp_cwa5 hi0 | omega) (by first | exact mp_cwb5 h3 hi6 | omega)
  show mp_W E X 4 2209 [(3, .int i), (2, .ref q2), (1, .ref q1), (0, .ref b)] [.int z_59, .ref b, .int v_19, .int v_14, .int v_9, .int v_4, .ref q2, .int r_26] (A_27 ++ B) k_29 n_30
  refine mp_lsld hL (by first | exact mp_cwc5 hi0 e_61 | omega) (by first | exact mp_cwd5 hi6 e_61 | omega) (by first | exact mp_fd_ok mp_k_code_ok (by decide +kernel) | decide +kernel) (fun v_62 hv_63 => ?_)
  have e_64 := mp_xs_same hv_25 hv_63 (by first | exact e_61.trans e_23.symm | omega)
  subst e_64
  show mp_W E X 4 2210 [(3, .int i), (2, .ref q2), (1, .ref q1), (0, .ref b)] [.int v_24, .int v_19, .int v_14, .int v_9, .int v_4, .ref q2, .int r_26] (A_27 ++ B) k_29 n_30
  refine mp_swap ?_
  refine mp_cm_paste hF v_4 v_9 v_14 v_19 v_24 hB hW hWI (by first | exact mp_fd_ok mp_k_code_ok (by decide +kernel) | decide +kernel) (by omega) (by omega) (Nat.le_of_ble_eq_true rfl) (fun r_65 A_66 l_67 k_68 n_69 hI_70 hr_71 hk_72 hn_73 => ?_)
  refine mp_swap ?_
  have hx_74 := mp_pst_eq hSL hr_32.2 hr_71.2
  show mp_W E X 4 2213 [(3, .int i), (2, .ref q2), (1, .ref q1), (0, .ref b)] [.int r_65, .int r_26] (A_27 ++ A_66) k_68 n_69
  refine mp_run mp_k_code_ok hF mp_tabL_ok [mp_h (.if_icmp .eq 5) [2218]] (by decide +kernel) ?_
  refine And.intro (fun c_75 => ?_) (fun c_75 => ?_)
  · have c_75 : r_26.toInt = r_65.toInt := (congrArg Int32.toInt c_75)
    show mp_W E X 4 2218 [(3, .int i), (2, .ref q2), (1, .ref q1), (0, .ref b)] [] (A_27 ++ A_66) k_68 n_69
    have hl_ : l_28 = l_67 := by omega
    exact kk _ _ _ _ _ _ _ _ _ _ _ _ _ _ _ hSL hW hWI hI_31 (hl_ ▸ hI_70) (by omega) (by omega)
  · have c_75 : r_26.toInt ≠ r_65.toInt := c_75
    show mp_W E X 4 2216 [(3, .int i), (2, .ref q2), (1, .ref q1), (0, .ref b)] [] (A_27 ++ A_66) k_68 n_69
    refine mp_run mp_k_code_ok hF mp_tabL_ok [mp_c (.iconst 0) 0] (by decide +kernel) ?_
    show mp_W E X 4 2217 [(3, .int i), (2, .ref q2), (1, .ref q1), (0, .ref b)] [.int 0] (A_27 ++ A_66) k_68 n_69
    exfalso; omega
