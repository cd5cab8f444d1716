set_option maxHeartbeats 4000000 in
set_option maxRecDepth 100000 in
theorem mp_case_13 {E : mp_E} {X : mp_X} {b L : Nat} {xs : Nat → Int32} (hL : mp_Lw E X b L xs) (h3 : L ≤ 3072) {i : Int32} (hi0 : 0 ≤ i.toInt) (hi6 : i.toInt + 6 ≤ L) {q1 q2 : Nat} {len : Int} {sw sl mw mm : Nat → Int32} {kp : Nat → Bool} {tp : Nat → Int32} {ft fp : Int} {td : mp_TD} {it : Nat → mp_TD} {A B : va_W} {k n : Nat} (hSL : mp_SL sw sl mw mm) (hW : mp_WF td) (hWI : ∀ j : Nat, mp_WF (it j)) (hA : mp_IC E q1 len sw sl kp tp ft fp td it A) (hB : mp_IM E q2 len mw mm kp tp ft fp td it B) (hk : k + 13 ≤ 600000) (hn : n + 204 ≤ 7302250) (kk : ∀ (len2 : Int) (sw2 sl2 mw2 mm2 : Nat → Int32) (kp2 : Nat → Bool) (tp2 : Nat → Int32) (ft2 fp2 : Int) (td2 : mp_TD) (it2 : Nat → mp_TD) (A2 B2 : va_W) (k2 n2 : Nat), mp_SL sw2 sl2 mw2 mm2 → mp_WF td2 → (∀ j : Nat, mp_WF (it2 j)) → mp_IC E q1 len2 sw2 sl2 kp2 tp2 ft2 fp2 td2 it2 A2 → mp_IM E q2 len2 mw2 mm2 kp2 tp2 ft2 fp2 td2 it2 B2 → k2 ≤ k + 13 → n2 ≤ n + 204 → mp_W E X 4 2218 [(3, .int i), (2, .ref q2), (1, .ref q1), (0, .ref b)] [] (A2 ++ B2) k2 n2) : mp_W E X 4 727 [(3, .int i), (2, .ref q2), (1, .ref q1), (0, .ref b)] [] (A ++ B) k n := by
  have hF : mp_F E X mp_ML := hL.1
  show mp_W E X 4 727 [(3, .int i), (2, .ref q2), (1, .ref q1), (0, .ref b)] [] (A ++ B) k n
  refine mp_run mp_k_code_ok hF mp_tabL_ok [mp_i (.aload_n 1), mp_i (.aload_n 0), mp_i (.iload_n 3), mp_c (.iconst 1) 1, mp_i .iadd] (by decide +kernel) ?_
  intro z_1 h_2
  have e_3 : z_1.toInt = i.toInt + 1 := mp_add (a := i.toInt) (b := 1) h_2 rfl (by decide) (by first | exact mp_cwa1 hi0 | omega) (by first | exact mp_cwb1 h3 hi6 | omega)
  show mp_W E X 4 732 [(3, .int i), (2, .ref q2), (1, .ref q1), (0, .ref b)] [.int z_1, .ref b, .ref q1] (A ++ B) k n
  refine mp_lsld hL (by first | exact mp_cwc1 hi0 e_3 | omega) (by first | exact mp_cwd1 hi6 e_3 | omega) (by first | exact mp_fd_ok mp_k_code_ok (by decide +kernel) | decide +kernel) (fun v_4 hv_5 => ?_)
  show mp_W E X 4 733 [(3, .int i), (2, .ref q2), (1, .ref q1), (0, .ref b)] [.int v_4, .ref q1] (A ++ B) k n
  refine mp_cc_richest hF v_4 hA hW hWI (by first | exact mp_fd_ok mp_k_code_ok (by decide +kernel) | decide +kernel) (by omega) (by omega) (Nat.le_of_ble_eq_true rfl) (fun r_6 A_7 l_8 k_9 n_10 hI_11 hr_12 hk_13 hn_14 => ?_)
  show mp_W E X 4 736 [(3, .int i), (2, .ref q2), (1, .ref q1), (0, .ref b)] [.int r_6] (A_7 ++ B) k_9 n_10
  refine mp_run mp_k_code_ok hF mp_tabL_ok [mp_i .pop, mp_i (.aload_n 2), mp_i (.aload_n 0), mp_i (.iload_n 3), mp_c (.iconst 1) 1, mp_i .iadd] (by decide +kernel) ?_
  refine And.intro rfl ?_
  intro z_15 h_16
  have e_17 : z_15.toInt = i.toInt + 1 := mp_add (a := i.toInt) (b := 1) h_16 rfl (by decide) (by first | exact mp_cwa1 hi0 | omega) (by first | exact mp_cwb1 h3 hi6 | omega)
  show mp_W E X 4 742 [(3, .int i), (2, .ref q2), (1, .ref q1), (0, .ref b)] [.int z_15, .ref b, .ref q2] (A_7 ++ B) k_9 n_10
  refine mp_lsld hL (by first | exact mp_cwc1 hi0 e_17 | omega) (by first | exact mp_cwd1 hi6 e_17 | omega) (by first | exact mp_fd_ok mp_k_code_ok (by decide +kernel) | decide +kernel) (fun v_18 hv_19 => ?_)
  have e_20 := mp_xs_same hv_5 hv_19 (by first | exact e_17.trans e_3.symm | omega)
  subst e_20
  show mp_W E X 4 743 [(3, .int i), (2, .ref q2), (1, .ref q1), (0, .ref b)] [.int v_4, .ref q2] (A_7 ++ B) k_9 n_10
  refine mp_swap ?_
  refine mp_cm_richest hF v_4 hB hW hWI (by first | exact mp_fd_ok mp_k_code_ok (by decide +kernel) | decide +kernel) (by omega) (by omega) (Nat.le_of_ble_eq_true rfl) (fun r_21 A_22 l_23 k_24 n_25 hI_26 hr_27 hk_28 hn_29 => ?_)
  refine mp_swap ?_
  show mp_W E X 4 746 [(3, .int i), (2, .ref q2), (1, .ref q1), (0, .ref b)] [.int r_21] (A_7 ++ A_22) k_24 n_25
  refine mp_run mp_k_code_ok hF mp_tabL_ok [mp_i .pop, mp_h (.goto 1471) [2218]] (by decide +kernel) ?_
  refine And.intro rfl ?_
  show mp_W E X 4 2218 [(3, .int i), (2, .ref q2), (1, .ref q1), (0, .ref b)] [] (A_7 ++ A_22) k_24 n_25
  have hl_ : l_8 = l_23 := by omega
  exact kk _ _ _ _ _ _ _ _ _ _ _ _ _ _ _ hSL hW hWI hI_11 (hl_ ▸ hI_26) (by omega) (by omega)
set_option maxHeartbeats 4000000 in
set_option maxRecDepth 100000 in
theorem mp_case_14 {E : mp_E} {X : mp_X} {b L : Nat} {xs : Nat → Int32} (hL : mp_Lw E X b L xs) (h3 : L ≤ 3072) {i : Int32} (hi0 : 0 ≤ i.toInt) (hi6 : i.toInt + 6 ≤ L) {q1 q2 : Nat} {len : Int} {sw sl mw mm : Nat → Int32} {kp : Nat → Bool} {tp : Nat → Int32} {ft fp : Int} {td : mp_TD} {it : Nat → mp_TD} {A B : va_W} {k n : Nat} (hSL : mp_SL sw sl mw mm) (hW : mp_WF td) (hWI : ∀ j : Nat, mp_WF (it j)) (hA : mp_IC E q1 len sw sl kp tp ft fp td it A) (hB : mp_IM E q2 len mw mm kp tp ft fp td it B) (hk : k + 13 ≤ 600000) (hn : n + 204 ≤ 7302250) (kk : ∀ (len2 : Int) (sw2 sl2 mw2 mm2 : Nat → Int32) (kp2 : Nat → Bool) (tp2 : Nat → Int32) (ft2 fp2 : Int) (td2 : mp_TD) (it2 : Nat → mp_TD) (A2 B2 : va_W) (k2 n2 : Nat), mp_SL sw2 sl2 mw2 mm2 → mp_WF td2 → (∀ j : Nat, mp_WF (it2 j)) → mp_IC E q1 len2 sw2 sl2 kp2 tp2 ft2 fp2 td2 it2 A2 → mp_IM E q2 len2 mw2 mm2 kp2 tp2 ft2 fp2 td2 it2 B2 → k2 ≤ k + 13 → n2 ≤ n + 204 → mp_W E X 4 2218 [(3, .int i), (2, .ref q2), (1, .ref q1), (0, .ref b)] [] (A2 ++ B2) k2 n2) : mp_W E X 4 750 [(3, .int i), (2, .ref q2), (1, .ref q1), (0, .ref b)] [] (A ++ B) k n := by
  have hF : mp_F E X mp_ML := hL.1
  show mp_W E X 4 750 [(3, .int i), (2, .ref q2), (1, .ref q1), (0, .ref b)] [] (A ++ B) k n
  refine mp_run mp_k_code_ok hF mp_tabL_ok [mp_i (.aload_n 1), mp_i (.aload_n 0), mp_i (.iload_n 3), mp_c (.iconst 1) 1, mp_i .iadd] (by decide +kernel) ?_
  intro z_1 h_2
  have e_3 : z_1.toInt = i.toInt + 1 := mp_add (a := i.toInt) (b := 1) h_2 rfl (by decide) (by first | exact mp_cwa1 hi0 | omega) (by first | exact mp_cwb1 h3 hi6 | omega)
  show mp_W E X 4 755 [(3, .int i), (2, .ref q2), (1, .ref q1), (0, .ref b)] [.int z_1, .ref b, .ref q1] (A ++ B) k n
  refine mp_lsld hL (by first | exact mp_cwc1 hi0 e_3 | omega) (by first | exact mp_cwd1 hi6 e_3 | omega) (by first | exact mp_fd_ok mp_k_code_ok (by decide +kernel) | decide +kernel) (fun v_4 hv_5 => ?_)
  show mp_W E X 4 756 [(3, .int i), (2, .ref q2), (1, .ref q1), (0, .ref b)] [.int v_4, .ref q1] (A ++ B) k n
  refine mp_cc_greatest hF v_4 hA hW hWI (by first | exact mp_fd_ok mp_k_code_ok (by decide +kernel) | decide +kernel) (by omega) (by omega) (Nat.le_of_ble_eq_true rfl) (fun r_6 A_7 l_8 k_9 n_10 hI_11 hr_12 hk_13 hn_14 => ?_)
  show mp_W E X 4 759 [(3, .int i), (2, .ref q2), (1, .ref q1), (0, .ref b)] [.int r_6] (A_7 ++ B) k_9 n_10
  refine mp_run mp_k_code_ok hF mp_tabL_ok [mp_i .pop, mp_i (.aload_n 2), mp_i (.aload_n 0), mp_i (.iload_n 3), mp_c (.iconst 1) 1, mp_i .iadd] (by decide +kernel) ?_
  refine And.intro rfl ?_
  intro z_15 h_16
  have e_17 : z_15.toInt = i.toInt + 1 := mp_add (a := i.toInt) (b := 1) h_16 rfl (by decide) (by first | exact mp_cwa1 hi0 | omega) (by first | exact mp_cwb1 h3 hi6 | omega)
  show mp_W E X 4 765 [(3, .int i), (2, .ref q2), (1, .ref q1), (0, .ref b)] [.int z_15, .ref b, .ref q2] (A_7 ++ B) k_9 n_10
  refine mp_lsld hL (by first | exact mp_cwc1 hi0 e_17 | omega) (by first | exact mp_cwd1 hi6 e_17 | omega) (by first | exact mp_fd_ok mp_k_code_ok (by decide +kernel) | decide +kernel) (fun v_18 hv_19 => ?_)
  have e_20 := mp_xs_same hv_5 hv_19 (by first | exact e_17.trans e_3.symm | omega)
  subst e_20
  show mp_W E X 4 766 [(3, .int i), (2, .ref q2), (1, .ref q1), (0, .ref b)] [.int v_4, .ref q2] (A_7 ++ B) k_9 n_10
  refine mp_swap ?_
  refine mp_cm_greatest hF v_4 hB hW hWI (by first | exact mp_fd_ok mp_k_code_ok (by decide +kernel) | decide +kernel) (by omega) (by omega) (Nat.le_of_ble_eq_true rfl) (fun r_21 A_22 l_23 k_24 n_25 hI_26 hr_27 hk_28 hn_29 => ?_)
  refine mp_swap ?_
  show mp_W E X 4 769 [(3, .int i), (2, .ref q2), (1, .ref q1), (0, .ref b)] [.int r_21] (A_7 ++ A_22) k_24 n_25
  refine mp_run mp_k_code_ok hF mp_tabL_ok [mp_i .pop, mp_h (.goto 1448) [2218]] (by decide +kernel) ?_
  refine And.intro rfl ?_
  show mp_W E X 4 2218 [(3, .int i), (2, .ref q2), (1, .ref q1), (0, .ref b)] [] (A_7 ++ A_22) k_24 n_25
  have hl_ : l_8 = l_23 := by omega
  exact kk _ _ _ _ _ _ _ _ _ _ _ _ _ _ _ hSL hW hWI hI_11 (hl_ ▸ hI_26) (by omega) (by omega)
set_option maxHeartbeats 4000000 in
set_option maxRecDepth 100000 in
theorem mp_case_15 {E : mp_E} {X : mp_X} {b L : Nat} {xs : Nat → Int32} (hL : mp_Lw E X b L xs) (h3 : L ≤ 3072) {i : Int32} (hi0 : 0 ≤ i.toInt) (hi6 : i.toInt + 6 ≤ L) {q1 q2 : Nat} {len : Int} {sw sl mw mm : Nat → Int32} {kp : Nat → Bool} {tp : Nat → Int32} {ft fp : Int} {td : mp_TD} {it : Nat → mp_TD} {A B : va_W} {k n : Nat} (hSL : mp_SL sw sl mw mm) (hW : mp_WF td) (hWI : ∀ j : Nat, mp_WF (it j)) (hA : mp_IC E q1 len sw sl kp tp ft fp td it A) (hB : mp_IM E q2 len mw mm kp tp ft fp td it B) (hk : k + 13 ≤ 600000) (hn : n + 204 ≤ 7302250) (kk : ∀ (len2 : Int) (sw2 sl2 mw2 mm2 : Nat → Int32) (kp2 : Nat → Bool) (tp2 : Nat → Int32) (ft2 fp2 : Int) (td2 : mp_TD) (it2 : Nat → mp_TD) (A2 B2 : va_W) (k2 n2 : Nat), mp_SL sw2 sl2 mw2 mm2 → mp_WF td2 → (∀ j : Nat, mp_WF (it2 j)) → mp_IC E q1 len2 sw2 sl2 kp2 tp2 ft2 fp2 td2 it2 A2 → mp_IM E q2 len2 mw2 mm2 kp2 tp2 ft2 fp2 td2 it2 B2 → k2 ≤ k + 13 → n2 ≤ n + 204 → mp_W E X 4 2218 [(3, .int i), (2, .ref q2), (1, .ref q1), (0, .ref b)] [] (A2 ++ B2) k2 n2) : mp_W E X 4 773 [(3, .int i), (2, .ref q2), (1, .ref q1), (0, .ref b)] [] (A ++ B) k n := by
  have hF : mp_F E X mp_ML := hL.1
  show mp_W E X 4 773 [(3, .int i), (2, .ref q2), (1, .ref q1), (0, .ref b)] [] (A ++ B) k n
  refine mp_run mp_k_code_ok hF mp_tabL_ok [mp_i (.aload_n 1), mp_i (.aload_n 0), mp_i (.iload_n 3), mp_c (.iconst 1) 1, mp_i .iadd] (by decide +kernel) ?_
  intro z_1 h_2
  have e_3 : z_1.toInt = i.toInt + 1 := mp_add (a := i.toInt) (b := 1) h_2 rfl (by decide) (by first | exact mp_cwa1 hi0 | omega) (by first | exact mp_cwb1 h3 hi6 | omega)
  show mp_W E X 4 778 [(3, .int i), (2, .ref q2), (1, .ref q1), (0, .ref b)] [.int z_1, .ref b, .ref q1] (A ++ B) k n
  refine mp_lsld hL (by first | exact mp_cwc1 hi0 e_3 | omega) (by first | exact mp_cwd1 hi6 e_3 | omega) (by first | exact mp_fd_ok mp_k_code_ok (by decide +kernel) | decide +kernel) (fun v_4 hv_5 => ?_)
  show mp_W E X 4 779 [(3, .int i), (2, .ref q2), (1, .ref q1), (0, .ref b)] [.int v_4, .ref q1] (A ++ B) k n
  refine mp_cc_root hF v_4 hA hW hWI (by first | exact mp_fd_ok mp_k_code_ok (by decide +kernel) | decide +kernel) (by omega) (by omega) (Nat.le_of_ble_eq_true rfl) (fun r_6 A_7 l_8 k_9 n_10 hI_11 hr_12 hk_13 hn_14 => ?_)
  show mp_W E X 4 782 [(3, .int i), (2, .ref q2), (1, .ref q1), (0, .ref b)] [.int r_6] (A_7 ++ B) k_9 n_10
  refine mp_run mp_k_code_ok hF mp_tabL_ok [mp_i .pop, mp_i (.aload_n 2), mp_i (.aload_n 0), mp_i (.iload_n 3), mp_c (.iconst 1) 1, mp_i .iadd] (by decide +kernel) ?_
  refine And.intro rfl ?_
  intro z_15 h_16
  have e_17 : z_15.toInt = i.toInt + 1 := mp_add (a := i.toInt) (b := 1) h_16 rfl (by decide) (by first | exact mp_cwa1 hi0 | omega) (by first | exact mp_cwb1 h3 hi6 | omega)
  show mp_W E X 4 788 [(3, .int i), (2, .ref q2), (1, .ref q1), (0, .ref b)] [.int z_15, .ref b, .ref q2] (A_7 ++ B) k_9 n_10
  refine mp_lsld hL (by first | exact mp_cwc1 hi0 e_17 | omega) (by first | exact mp_cwd1 hi6 e_17 | omega) (by first | exact mp_fd_ok mp_k_code_ok (by decide +kernel) | decide +kernel) (fun v_18 hv_19 => ?_)
  have e_20 := mp_xs_same hv_5 hv_19 (by first | exact e_17.trans e_3.symm | omega)
  subst e_20
  show mp_W E X 4 789 [(3, .int i), (2, .ref q2), (1, .ref q1), (0, .ref b)] [.int v_4, .ref q2] (A_7 ++ B) k_9 n_10
  refine mp_swap ?_
  refine mp_cm_root hF v_4 hB hW hWI (by first | exact mp_fd_ok mp_k_code_ok (by decide +kernel) | decide +kernel) (by omega) (by omega) (Nat.le_of_ble_eq_true rfl) (fun r_21 A_22 l_23 k_24 n_25 hI_26 hr_27 hk_28 hn_29 => ?_)
  refine mp_swap ?_
  have hx_30 := hr_12.2.trans hr_27.2.symm
  show mp_W E X 4 792 [(3, .int i), (2, .ref q2), (1, .ref q1), (0, .ref b)] [.int r_21] (A_7 ++ A_22) k_24 n_25
  refine mp_run mp_k_code_ok hF mp_tabL_ok [mp_i .pop, mp_h (.goto 1425) [2218]] (by decide +kernel) ?_
  refine And.intro rfl ?_
  show mp_W E X 4 2218 [(3, .int i), (2, .ref q2), (1, .ref q1), (0, .ref b)] [] (A_7 ++ A_22) k_24 n_25
  have hl_ : l_8 = l_23 := by omega
  exact kk _ _ _ _ _ _ _ _ _ _ _ _ _ _ _ hSL hW hWI hI_11 (hl_ ▸ hI_26) (by omega) (by omega)
set_option maxHeartbeats 4000000 in
set_option maxRecDepth 100000 in
theorem mp_case_16 {E : mp_E} {X : mp_X} {b L : Nat} {xs : Nat → Int32} (hL : mp_Lw E X b L xs) (h3 : L ≤ 3072) {i : Int32} (hi0 : 0 ≤ i.toInt) (hi6 : i.toInt + 6 ≤ L) {q1 q2 : Nat} {len : Int} {sw sl mw mm : Nat → Int32} {kp : Nat → Bool} {tp : Nat → Int32} {ft fp : Int} {td : mp_TD} {it : Nat → mp_TD} {A B : va_W} {k n : Nat} (hSL : mp_SL sw sl mw mm) (hW : mp_WF td) (hWI : ∀ j : Nat, mp_WF (it j)) (hA : mp_IC E q1 len sw sl kp tp ft fp td it A) (hB : mp_IM E q2 len mw mm kp tp ft fp td it B) (hk : k + 13 ≤ 600000) (hn : n + 204 ≤ 7302250) (kk : ∀ (len2 : Int) (sw2 sl2 mw2 mm2 : Nat → Int32) (kp2 : Nat → Bool) (tp2 : Nat → Int32) (ft2 fp2 : Int) (td2 : mp_TD) (it2 : Nat → mp_TD) (A2 B2 : va_W) (k2 n2 : Nat), mp_SL sw2 sl2 mw2 mm2 → mp_WF td2 → (∀ j : Nat, mp_WF (it2 j)) → mp_IC E q1 len2 sw2 sl2 kp2 tp2 ft2 fp2 td2 it2 A2 → mp_IM E q2 len2 mw2 mm2 kp2 tp2 ft2 fp2 td2 it2 B2 → k2 ≤ k + 13 → n2 ≤ n + 204 → mp_W E X 4 2218 [(3, .int i), (2, .ref q2), (1, .ref q1), (0, .ref b)] [] (A2 ++ B2) k2 n2) : mp_W E X 4 796 [(3, .int i), (2, .ref q2), (1, .ref q1), (0, .ref b)] [] (A ++ B) k n := by
  have hF : mp_F E X mp_ML := hL.1
  show mp_W E X 4 796 [(3, .int i), (2, .ref q2), (1, .ref q1), (0, .ref b)] [] (A ++ B) k n
  refine mp_run mp_k_code_ok hF mp_tabL_ok [mp_i (.aload_n 1), mp_i (.aload_n 0), mp_i (.iload_n 3), mp_c (.iconst 1) 1, mp_i .iadd] (by decide +kernel) ?_
  intro z_1 h_2
  have e_3 : z_1.toInt = i.toInt + 1 := mp_add (a := i.toInt) (b := 1) h_2 rfl (by decide) (by first | exact mp_cwa1 hi0 | omega) (by first | exact mp_cwb1 h3 hi6 | omega)
  show mp_W E X 4 801 [(3, .int i), (2, .ref q2), (1, .ref q1), (0, .ref b)] [.int z_1, .ref b, .ref q1] (A ++ B) k n
  refine mp_lsld hL (by first | exact mp_cwc1 hi0 e_3 | omega) (by first | exact mp_cwd1 hi6 e_3 | omega) (by first | exact mp_fd_ok mp_k_code_ok (by decide +kernel) | decide +kernel) (fun v_4 hv_5 => ?_)
  show mp_W E X 4 802 [(3, .int i), (2, .ref q2), (1, .ref q1), (0, .ref b)] [.int v_4, .ref q1] (A ++ B) k n
  refine mp_cc_upon hF v_4 hA hW hWI (by first | exact mp_fd_ok mp_k_code_ok (by decide +kernel) | decide +kernel) (by omega) (by omega) (Nat.le_of_ble_eq_true rfl) (fun r_6 A_7 l_8 k_9 n_10 hI_11 hr_12 hk_13 hn_14 => ?_)
  show mp_W E X 4 805 [(3, .int i), (2, .ref q2), (1, .ref q1), (0, .ref b)] [.int r_6] (A_7 ++ B) k_9 n_10
  refine mp_run mp_k_code_ok hF mp_tabL_ok [mp_i .pop, mp_i (.aload_n 2), mp_i (.aload_n 0), mp_i (.iload_n 3), mp_c (.iconst 1) 1, mp_i .iadd] (by decide +kernel) ?_
  refine And.intro rfl ?_
  intro z_15 h_16
  have e_17 : z_15.toInt = i.toInt + 1 := mp_add (a := i.toInt) (b := 1) h_16 rfl (by decide) (by first | exact mp_cwa1 hi0 | omega) (by first | exact mp_cwb1 h3 hi6 | omega)
  show mp_W E X 4 811 [(3, .int i), (2, .ref q2), (1, .ref q1), (0, .ref b)] [.int z_15, .ref b, .ref q2] (A_7 ++ B) k_9 n_10
  refine mp_lsld hL (by first | exact mp_cwc1 hi0 e_17 | omega) (by first | exact mp_cwd1 hi6 e_17 | omega) (by first | exact mp_fd_ok mp_k_code_ok (by decide +kernel) | decide +kernel) (fun v_18 hv_19 => ?_)
  have e_20 := mp_xs_same hv_5 hv_19 (by first | exact e_17.trans e_3.symm | omega)
  subst e_20
  show mp_W E X 4 812 [(3, .int i), (2, .ref q2), (1, .ref q1), (0, .ref b)] [.int v_4, .ref q2] (A_7 ++ B) k_9 n_10
  refine mp_swap ?_
  refine mp_cm_upon hF v_4 hB hW hWI (by first | exact mp_fd_ok mp_k_code_ok (by decide +kernel) | decide +kernel) (by omega) (by omega) (Nat.le_of_ble_eq_true rfl) (fun r_21 A_22 l_23 k_24 n_25 hI_26 hr_27 hk_28 hn_29 => ?_)
  refine mp_swap ?_
  have hx_30 := hr_12.2.trans hr_27.2.symm
  show mp_W E X 4 815 [(3, .int i), (2, .ref q2), (1, .ref q1), (0, .ref b)] [.int r_21] (A_7 ++ A_22) k_24 n_25
  refine mp_run mp_k_code_ok hF mp_tabL_ok [mp_i .pop, mp_h (.goto 1402) [2218]] (by decide +kernel) ?_
  refine And.intro rfl ?_
  show mp_W E X 4 2218 [(3, .int i), (2, .ref q2), (1, .ref q1), (0, .ref b)] [] (A_7 ++ A_22) k_24 n_25
  have hl_ : l_8 = l_23 := by omega
  exact kk _ _ _ _ _ _ _ _ _ _ _ _ _ _ _ hSL hW hWI hI_11 (hl_ ▸ hI_26) (by omega) (by omega)
set_option maxHeartbeats 4000000 in
set_option maxRecDepth 100000 in
theorem mp_case_17 {E : mp_E} {X : mp_X} {b L : Nat} {xs : Nat → Int32} (hL : mp_Lw E X b L xs) (h3 : L ≤ 3072) {i : Int32} (hi0 : 0 ≤ i.toInt) (hi6 : i.toInt + 6 ≤ L) {q1 q2 : Nat} {len : Int} {sw sl mw mm : Nat → Int32} {kp : Nat → Bool} {tp : Nat → Int32} {ft fp : Int} {td : mp_TD} {it : Nat → mp_TD} {A B : va_W} {k n : Nat} (hSL : mp_SL sw sl mw mm) (hW : mp_WF td) (hWI : ∀ j : Nat, mp_WF (it j)) (hA : mp_IC E q1 len sw sl kp tp ft fp td it A) (hB : mp_IM E q2 len mw mm kp tp ft fp td it B) (hk : k + 13 ≤ 600000) (hn : n + 204 ≤ 7302250) (kk : ∀ (len2 : Int) (sw2 sl2 mw2 mm2 : Nat → Int32) (kp2 : Nat → Bool) (tp2 : Nat → Int32) (ft2 fp2 : Int) (td2 : mp_TD) (it2 : Nat → mp_TD) (A2 B2 : va_W) (k2 n2 : Nat), mp_SL sw2 sl2 mw2 mm2 → mp_WF td2 → (∀ j : Nat, mp_WF (it2 j)) → mp_IC E q1 len2 sw2 sl2 kp2 tp2 ft2 fp2 td2 it2 A2 → mp_IM E q2 len2 mw2 mm2 kp2 tp2 ft2 fp2 td2 it2 B2 → k2 ≤ k + 13 → n2 ≤ n + 204 → mp_W E X 4 2218 [(3, .int i), (2, .ref q2), (1, .ref q1), (0, .ref b)] [] (A2 ++ B2) k2 n2) : mp_W E X 4 819 [(3, .int i), (2, .ref q2), (1, .ref q1), (0, .ref b)] [] (A ++ B) k n := by
  have hF : mp_F E X mp_ML := hL.1
  show mp_W E X 4 819 [(3, .int i), (2, .ref q2), (1, .ref q1), (0, .ref b)] [] (A ++ B) k n
  refine mp_run mp_k_code_ok hF mp_tabL_ok [mp_i (.aload_n 1)] (by decide +kernel) ?_
  show mp_W E X 4 820 [(3, .int i), (2, .ref q2), (1, .ref q1), (0, .ref b)] [.ref q1] (A ++ B) k n
  refine mp_cc_now hF  hA hW hWI (by first | exact mp_fd_ok mp_k_code_ok (by decide +kernel) | decide +kernel) (by omega) (by omega) (Nat.le_of_ble_eq_true rfl) (fun r_1 A_2 l_3 k_4 n_5 hI_6 hr_7 hk_8 hn_9 => ?_)
  show mp_W E X 4 823 [(3, .int i), (2, .ref q2), (1, .ref q1), (0, .ref b)] [.int r_1] (A_2 ++ B) k_4 n_5
  refine mp_run mp_k_code_ok hF mp_tabL_ok [mp_i .pop, mp_i (.aload_n 2)] (by decide +kernel) ?_
  refine And.intro rfl ?_
  show mp_W E X 4 825 [(3, .int i), (2, .ref q2), (1, .ref q1), (0, .ref b)] [.ref q2] (A_2 ++ B) k_4 n_5
  refine mp_swap ?_
  refine mp_cm_now hF  hB hW hWI (by first | exact mp_fd_ok mp_k_code_ok (by decide +kernel) | decide +kernel) (by omega) (by omega) (Nat.le_of_ble_eq_true rfl) (fun r_10 A_11 l_12 k_13 n_14 hI_15 hr_16 hk_17 hn_18 => ?_)
  refine mp_swap ?_
  have hx_19 := hr_7.2.trans hr_16.2.symm
  show mp_W E X 4 828 [(3, .int i), (2, .ref q2), (1, .ref q1), (0, .ref b)] [.int r_10] (A_2 ++ A_11) k_13 n_14
  refine mp_run mp_k_code_ok hF mp_tabL_ok [mp_i .pop, mp_h (.goto 1389) [2218]] (by decide +kernel) ?_
  refine And.intro rfl ?_
  show mp_W E X 4 2218 [(3, .int i), (2, .ref q2), (1, .ref q1), (0, .ref b)] [] (A_2 ++ A_11) k_13 n_14
  have hl_ : l_3 = l_12 := by omega
  exact kk _ _ _ _ _ _ _ _ _ _ _ _ _ _ _ hSL hW hWI hI_6 (hl_ ▸ hI_15) (by omega) (by omega)
set_option maxHeartbeats 4000000 in
set_option maxRecDepth 100000 in
theorem mp_case_18 {E : mp_E} {X : mp_X} {b L : Nat} {xs : Nat → Int32} (hL : mp_Lw E X b L xs) (h3 : L ≤ 3072) {i : Int32} (hi0 : 0 ≤ i.toInt) (hi6 : i.toInt + 6 ≤ L) {q1 q2 : Nat} {len : Int} {sw sl mw mm : Nat → Int32} {kp : Nat → Bool} {tp : Nat → Int32} {ft fp : Int} {td : mp_TD} {it : Nat → mp_TD} {A B : va_W} {k n : Nat} (hSL : mp_SL sw sl mw mm) (hW : mp_WF td) (hWI : ∀ j : Nat, mp_WF (it j)) (hA : mp_IC E q1 len sw sl kp tp ft fp td it A) (hB : mp_IM E q2 len mw mm kp tp ft fp td it B) (hk : k + 13 ≤ 600000) (hn : n + 204 ≤ 7302250) (kk : ∀ (len2 : Int) (sw2 sl2 mw2 mm2 : Nat → Int32) (kp2 : Nat → Bool) (tp2 : Nat → Int32) (ft2 fp2 : Int) (td2 : mp_TD) (it2 : Nat → mp_TD) (A2 B2 : va_W) (k2 n2 : Nat), mp_SL sw2 sl2 mw2 mm2 → mp_WF td2 → (∀ j : Nat, mp_WF (it2 j)) → mp_IC E q1 len2 sw2 sl2 kp2 tp2 ft2 fp2 td2 it2 A2 → mp_IM E q2 len2 mw2 mm2 kp2 tp2 ft2 fp2 td2 it2 B2 → k2 ≤ k + 13 → n2 ≤ n + 204 → mp_W E X 4 2218 [(3, .int i), (2, .ref q2), (1, .ref q1), (0, .ref b)] [] (A2 ++ B2) k2 n2) : mp_W E X 4 832 [(3, .int i), (2, .ref q2), (1, .ref q1), (0, .ref b)] [] (A ++ B) k n := by
  have hF : mp_F E X mp_ML := hL.1
  show mp_W E X 4 832 [(3, .int i), (2, .ref q2), (1, .ref q1), (0, .ref b)] [] (A ++ B) k n
  refine mp_run mp_k_code_ok hF mp_tabL_ok [mp_i (.aload_n 1), mp_i (.aload_n 0), mp_i (.iload_n 3), mp_c (.iconst 1) 1, mp_i .iadd] (by decide +kernel) ?_
  intro z_1 h_2
  have e_3 : z_1.toInt = i.toInt + 1 := mp_add (a := i.toInt) (b := 1) h_2 rfl (by decide) (by first | exact mp_cwa1 hi0 | omega) (by first | exact mp_cwb1 h3 hi6 | omega)
  show mp_W E X 4 837 [(3, .int i), (2, .ref q2), (1, .ref q1), (0, .ref b)] [.int z_1, .ref b, .ref q1] (A ++ B) k n
  refine mp_lsld hL (by first | exact mp_cwc1 hi0 e_3 | omega) (by first | exact mp_cwd1 hi6 e_3 | omega) (by first | exact mp_fd_ok mp_k_code_ok (by decide +kernel) | decide +kernel) (fun v_4 hv_5 => ?_)
  show mp_W E X 4 838 [(3, .int i), (2, .ref q2), (1, .ref q1), (0, .ref b)] [.int v_4, .ref q1] (A ++ B) k n
  refine mp_cc_where hF v_4 hA hW hWI (by first | exact mp_fd_ok mp_k_code_ok (by decide +kernel) | decide +kernel) (by omega) (by omega) (Nat.le_of_ble_eq_true rfl) (fun r_6 A_7 l_8 k_9 n_10 hI_11 hr_12 hk_13 hn_14 => ?_)
  show mp_W E X 4 841 [(3, .int i), (2, .ref q2), (1, .ref q1), (0, .ref b)] [.int r_6] (A_7 ++ B) k_9 n_10
  refine mp_run mp_k_code_ok hF mp_tabL_ok [mp_i .pop, mp_i (.aload_n 2), mp_i (.aload_n 0), mp_i (.iload_n 3), mp_c (.iconst 1) 1, mp_i .iadd] (by decide +kernel) ?_
  refine And.intro rfl ?_
  intro z_15 h_16
  have e_17 : z_15.toInt = i.toInt + 1 := mp_add (a := i.toInt) (b := 1) h_16 rfl (by decide) (by first | exact mp_cwa1 hi0 | omega) (by first | exact mp_cwb1 h3 hi6 | omega)
  show mp_W E X 4 847 [(3, .int i), (2, .ref q2), (1, .ref q1), (0, .ref b)] [.int z_15, .ref b, .ref q2] (A_7 ++ B) k_9 n_10
  refine mp_lsld hL (by first | exact mp_cwc1 hi0 e_17 | omega) (by first | exact mp_cwd1 hi6 e_17 | omega) (by first | exact mp_fd_ok mp_k_code_ok (by decide +kernel) | decide +kernel) (fun v_18 hv_19 => ?_)
  have e_20 := mp_xs_same hv_5 hv_19 (by first | exact e_17.trans e_3.symm | omega)
  subst e_20
  show mp_W E X 4 848 [(3, .int i), (2, .ref q2), (1, .ref q1), (0, .ref b)] [.int v_4, .ref q2] (A_7 ++ B) k_9 n_10
  refine mp_swap ?_
  refine mp_cm_where hF v_4 hB hW hWI (by first | exact mp_fd_ok mp_k_code_ok (by decide +kernel) | decide +kernel) (by omega) (by omega) (Nat.le_of_ble_eq_true rfl) (fun r_21 A_22 l_23 k_24 n_25 hI_26 hr_27 hk_28 hn_29 => ?_)
  refine mp_swap ?_
  have hx_30 := hr_12.2.trans hr_27.2.symm
  show mp_W E X 4 851 [(3, .int i), (2, .ref q2), (1, .ref q1), (0, .ref b)] [.int r_21] (A_7 ++ A_22) k_24 n_25
  refine mp_run mp_k_code_ok hF mp_tabL_ok [mp_i .pop, mp_h (.goto 1366) [2218]] (by decide +kernel) ?_
  refine And.intro rfl ?_
  show mp_W E X 4 2218 [(3, .int i), (2, .ref q2), (1, .ref q1), (0, .ref b)] [] (A_7 ++ A_22) k_24 n_25
  have hl_ : l_8 = l_23 := by omega
  exact kk _ _ _ _ _ _ _ _ _ _ _ _ _ _ _ hSL hW hWI hI_11 (hl_ ▸ hI_26) (by omega) (by omega)
set_option maxHeartbeats 4000000 in
set_option maxRecDepth 100000 in
theorem mp_case_19 {E : mp_E} {X : mp_X} {b L : Nat} {xs : Nat → Int32} (hL : mp_Lw E X b L xs) (h3 : L ≤ 3072) {i : Int32} (hi0 : 0 ≤ i.toInt) (hi6 : i.toInt + 6 ≤ L) {q1 q2 : Nat} {len : Int} {sw sl mw mm : Nat → Int32} {kp : Nat → Bool} {tp : Nat → Int32} {ft fp : Int} {td : mp_TD} {it : Nat → mp_TD} {A B : va_W} {k n : Nat} (hSL : mp_SL sw sl mw mm) (hW : mp_WF td) (hWI : ∀ j : Nat, mp_WF (it j)) (hA : mp_IC E q1 len sw sl kp tp ft fp td it A) (hB : mp_IM E q2 len mw mm kp tp ft fp td it B) (hk : k + 13 ≤ 600000) (hn : n + 204 ≤ 7302250) (kk : ∀ (len2 : Int) (sw2 sl2 mw2 mm2 : Nat → Int32) (kp2 : Nat → Bool) (tp2 : Nat → Int32) (ft2 fp2 : Int) (td2 : mp_TD) (it2 : Nat → mp_TD) (A2 B2 : va_W) (k2 n2 : Nat), mp_SL sw2 sl2 mw2 mm2 → mp_WF td2 → (∀ j : Nat, mp_WF (it2 j)) → mp_IC E q1 len2 sw2 sl2 kp2 tp2 ft2 fp2 td2 it2 A2 → mp_IM E q2 len2 mw2 mm2 kp2 tp2 ft2 fp2 td2 it2 B2 → k2 ≤ k + 13 → n2 ≤ n + 204 → mp_W E X 4 2218 [(3, .int i), (2, .ref q2), (1, .ref q1), (0, .ref b)] [] (A2 ++ B2) k2 n2) : mp_W E X 4 855 [(3, .int i), (2, .ref q2), (1, .ref q1), (0, .ref b)] [] (A ++ B) k n := by
  have hF : mp_F E X mp_ML := hL.1
  show mp_W E X 4 855 [(3, .int i), (2, .ref q2), (1, .ref q1), (0, .ref b)] [] (A ++ B) k n
  refine mp_run mp_k_code_ok hF mp_tabL_ok [mp_i (.aload_n 1), mp_i (.aload_n 0), mp_i (.iload_n 3), mp_c (.iconst 1) 1, mp_i .iadd] (by decide +kernel) ?_
  intro z_1 h_2
  have e_3 : z_1.toInt = i.toInt + 1 := mp_add (a := i.toInt) (b := 1) h_2 rfl (by decide) (by first | exact mp_cwa1 hi0 | omega) (by first | exact mp_cwb1 h3 hi6 | omega)
  show mp_W E X 4 860 [(3, .int i), (2, .ref q2), (1, .ref q1), (0, .ref b)] [.int z_1, .ref b, .ref q1] (A ++ B) k n
  refine mp_lsld hL (by first | exact mp_cwc1 hi0 e_3 | omega) (by first | exact mp_cwd1 hi6 e_3 | omega) (by first | exact mp_fd_ok mp_k_code_ok (by decide +kernel) | decide +kernel) (fun v_4 hv_5 => ?_)
  show mp_W E X 4 861 [(3, .int i), (2, .ref q2), (1, .ref q1), (0, .ref b)] [.int v_4, .ref q1] (A ++ B) k n
  refine mp_cc_rowed hF v_4 hA hW hWI (by first | exact mp_fd_ok mp_k_code_ok (by decide +kernel) | decide +kernel) (by omega) (by omega) (Nat.le_of_ble_eq_true rfl) (fun r_6 A_7 l_8 k_9 n_10 hI_11 hr_12 hk_13 hn_14 => ?_)
  show mp_W E X 4 864 [(3, .int i), (2, .ref q2), (1, .ref q1), (0, .ref b)] [.int r_6] (A_7 ++ B) k_9 n_10
  refine mp_run mp_k_code_ok hF mp_tabL_ok [mp_i .pop, mp_i (.aload_n 2), mp_i (.aload_n 0), mp_i (.iload_n 3), mp_c (.iconst 1) 1, mp_i .iadd] (by decide +kernel) ?_
  refine And.intro rfl ?_
  intro z_15 h_16
  have e_17 : z_15.toInt = i.toInt + 1 := mp_add (a := i.toInt) (b := 1) h_16 rfl (by decide) (by first | exact mp_cwa1 hi0 | omega) (by first | exact mp_cwb1 h3 hi6 | omega)
  show mp_W E X 4 870 [(3, .int i), (2, .ref q2), (1, .ref q1), (0, .ref b)] [.int z_15, .ref b, .ref q2] (A_7 ++ B) k_9 n_10
  refine mp_lsld hL (by first | exact mp_cwc1 hi0 e_17 | omega) (by first | exact mp_cwd1 hi6 e_17 | omega) (by first | exact mp_fd_ok mp_k_code_ok (by decide +kernel) | decide +kernel) (fun v_18 hv_19 => ?_)
  have e_20 := mp_xs_same hv_5 hv_19 (by first | exact e_17.trans e_3.symm | omega)
  subst e_20
  show mp_W E X 4 871 [(3, .int i), (2, .ref q2), (1, .ref q1), (0, .ref b)] [.int v_4, .ref q2] (A_7 ++ B) k_9 n_10
  refine mp_swap ?_
  refine mp_cm_rowed hF v_4 hB hW hWI (by first | exact mp_fd_ok mp_k_code_ok (by decide +kernel) | decide +kernel) (by omega) (by omega) (Nat.le_of_ble_eq_true rfl) (fun r_21 A_22 l_23 k_24 n_25 hI_26 hr_27 hk_28 hn_29 => ?_)
  refine mp_swap ?_
  have hx_30 := hr_12.2.trans hr_27.2.symm
  show mp_W E X 4 874 [(3, .int i), (2, .ref q2), (1, .ref q1), (0, .ref b)] [.int r_21] (A_7 ++ A_22) k_24 n_25
  refine mp_run mp_k_code_ok hF mp_tabL_ok [mp_i .pop, mp_h (.goto 1343) [2218]] (by decide +kernel) ?_
  refine And.intro rfl ?_
  show mp_W E X 4 2218 [(3, .int i), (2, .ref q2), (1, .ref q1), (0, .ref b)] [] (A_7 ++ A_22) k_24 n_25
  have hl_ : l_8 = l_23 := by omega
  exact kk _ _ _ _ _ _ _ _ _ _ _ _ _ _ _ hSL hW hWI hI_11 (hl_ ▸ hI_26) (by omega) (by omega)
set_option maxHeartbeats 4000000 in
set_option maxRecDepth 100000 in
theorem mp_case_20 {E : mp_E} {X : mp_X} {b L : Nat} {xs : Nat → Int32} (hL : mp_Lw E X b L xs) (h3 : L ≤ 3072) {i : Int32} (hi0 : 0 ≤ i.toInt) (hi6 : i.toInt + 6 ≤ L) {q1 q2 : Nat} {len : Int} {sw sl mw mm : Nat → Int32} {kp : Nat → Bool} {tp : Nat → Int32} {ft fp : Int} {td : mp_TD} {it : Nat → mp_TD} {A B : va_W} {k n : Nat} (hSL : mp_SL sw sl mw mm) (hW : mp_WF td) (hWI : ∀ j : Nat, mp_WF (it j)) (hA : mp_IC E q1 len sw sl kp tp ft fp td it A) (hB : mp_IM E q2 len mw mm kp tp ft fp td it B) (hk : k + 13 ≤ 600000) (hn : n + 204 ≤ 7302250) (kk : ∀ (len2 : Int) (sw2 sl2 mw2 mm2 : Nat → Int32) (kp2 : Nat → Bool) (tp2 : Nat → Int32) (ft2 fp2 : Int) (td2 : mp_TD) (it2 : Nat → mp_TD) (A2 B2 : va_W) (k2 n2 : Nat), mp_SL sw2 sl2 mw2 mm2 → mp_WF td2 → (∀ j : Nat, mp_WF (it2 j)) → mp_IC E q1 len2 sw2 sl2 kp2 tp2 ft2 fp2 td2 it2 A2 → mp_IM E q2 len2 mw2 mm2 kp2 tp2 ft2 fp2 td2 it2 B2 → k2 ≤ k + 13 → n2 ≤ n + 204 → mp_W E X 4 2218 [(3, .int i), (2, .ref q2), (1, .ref q1), (0, .ref b)] [] (A2 ++ B2) k2 n2) : mp_W E X 4 878 [(3, .int i), (2, .ref q2), (1, .ref q1), (0, .ref b)] [] (A ++ B) k n := by
  have hF : mp_F E X mp_ML := hL.1
  show mp_W E X 4 878 [(3, .int i), (2, .ref q2), (1, .ref q1), (0, .ref b)] [] (A ++ B) k n
  refine mp_run mp_k_code_ok hF mp_tabL_ok [mp_i (.aload_n 1), mp_i (.aload_n 0), mp_i (.iload_n 3), mp_c (.iconst 1) 1, mp_i .iadd] (by decide +kernel) ?_
  intro z_1 h_2
  have e_3 : z_1.toInt = i.toInt + 1 := mp_add (a := i.toInt) (b := 1) h_2 rfl (by decide) (by first | exact mp_cwa1 hi0 | omega) (by first | exact mp_cwb1 h3 hi6 | omega)
  show mp_W E X 4 883 [(3, .int i), (2, .ref q2), (1, .ref q1), (0, .ref b)] [.int z_1, .ref b, .ref q1] (A ++ B) k n
  refine mp_lsld hL (by first | exact mp_cwc1 hi0 e_3 | omega) (by first | exact mp_cwd1 hi6 e_3 | omega) (by first | exact mp_fd_ok mp_k_code_ok (by decide +kernel) | decide +kernel) (fun v_4 hv_5 => ?_)
  show mp_W E X 4 884 [(3, .int i), (2, .ref q2), (1, .ref q1), (0, .ref b)] [.int v_4, .ref q1] (A ++ B) k n
  refine mp_run mp_k_code_ok hF mp_tabL_ok [mp_i (.aload_n 0), mp_i (.iload_n 3), mp_c (.iconst 2) 2, mp_i .iadd] (by decide +kernel) ?_
  intro z_6 h_7
  have e_8 : z_6.toInt = i.toInt + 2 := mp_add (a := i.toInt) (b := 2) h_7 rfl (by decide) (by first | exact mp_cwa2 hi0 | omega) (by first | exact mp_cwb2 h3 hi6 | omega)
  show mp_W E X 4 888 [(3, .int i), (2, .ref q2), (1, .ref q1), (0, .ref b)] [.int z_6, .ref b, .int v_4, .ref q1] (A ++ B) k n
  refine mp_lsld hL (by first | exact mp_cwc2 hi0 e_8 | omega) (by first | exact mp_cwd2 hi6 e_8 | omega) (by first | exact mp_fd_ok mp_k_code_ok (by decide +kernel) | decide +kernel) (fun v_9 hv_10 => ?_)
  show mp_W E X 4 889 [(3, .int i), (2, .ref q2), (1, .ref q1), (0, .ref b)] [.int v_9, .int v_4, .ref q1] (A ++ B) k n
  refine mp_cc_rows hF v_4 v_9 hA hW hWI (by first | exact mp_fd_ok mp_k_code_ok (by decide +kernel) | decide +kernel) (by omega) (by omega) (Nat.le_of_ble_eq_true rfl) (fun r_11 A_12 l_13 k_14 n_15 hI_16 hr_17 hk_18 hn_19 => ?_)
  show mp_W E X 4 892 [(3, .int i), (2, .ref q2), (1, .ref q1), (0, .ref b)] [.int r_11] (A_12 ++ B) k_14 n_15
  refine mp_run mp_k_code_ok hF mp_tabL_ok [mp_i .pop, mp_i (.aload_n 2), mp_i (.aload_n 0), mp_i (.iload_n 3), mp_c (.iconst 1) 1, mp_i .iadd] (by decide +kernel) ?_
  refine And.intro rfl ?_
  intro z_20 h_21
  have e_22 : z_20.toInt = i.toInt + 1 := mp_add (a := i.toInt) (b := 1) h_21 rfl (by decide) (by first | exact mp_cwa1 hi0 | omega) (by first | exact mp_cwb1 h3 hi6 | omega)
  show mp_W E X 4 898 [(3, .int i), (2, .ref q2), (1, .ref q1), (0, .ref b)] [.int z_20, .ref b, .ref q2] (A_12 ++ B) k_14 n_15
  refine mp_lsld hL (by first | exact mp_cwc1 hi0 e_22 | omega) (by first | exact mp_cwd1 hi6 e_22 | omega) (by first | exact mp_fd_ok mp_k_code_ok (by decide +kernel) | decide +kernel) (fun v_23 hv_24 => ?_)
  have e_25 := mp_xs_same hv_5 hv_24 (by first | exact e_22.trans e_3.symm | omega)
  subst e_25
  show mp_W E X 4 899 [(3, .int i), (2, .ref q2), (1, .ref q1), (0, .ref b)] [.int v_4, .ref q2] (A_12 ++ B) k_14 n_15
  refine mp_run mp_k_code_ok hF mp_tabL_ok [mp_i (.aload_n 0), mp_i (.iload_n 3), mp_c (.iconst 2) 2, mp_i .iadd] (by decide +kernel) ?_
  intro z_26 h_27
  have e_28 : z_26.toInt = i.toInt + 2 := mp_add (a := i.toInt) (b := 2) h_27 rfl (by decide) (by first | exact mp_cwa2 hi0 | omega) (by first | exact mp_cwb2 h3 hi6 | omega)
  show mp_W E X 4 903 [(3, .int i), (2, .ref q2), (1, .ref q1), (0, .ref b)] [.int z_26, .ref b, .int v_4, .ref q2] (A_12 ++ B) k_14 n_15
  refine mp_lsld hL (by first | exact mp_cwc2 hi0 e_28 | omega) (by first | exact mp_cwd2 hi6 e_28 | omega) (by first | exact mp_fd_ok mp_k_code_ok (by decide +kernel) | decide +kernel) (fun v_29 hv_30 => ?_)
  have e_31 := mp_xs_same hv_10 hv_30 (by first | exact e_28.trans e_8.symm | omega)
  subst e_31
  show mp_W E X 4 904 [(3, .int i), (2, .ref q2), (1, .ref q1), (0, .ref b)] [.int v_9, .int v_4, .ref q2] (A_12 ++ B) k_14 n_15
  refine mp_swap ?_
  refine mp_cm_rows hF v_4 v_9 hB hW hWI (by first | exact mp_fd_ok mp_k_code_ok (by decide +kernel) | decide +kernel) (by omega) (by omega) (Nat.le_of_ble_eq_true rfl) (fun r_32 A_33 l_34 k_35 n_36 hI_37 hr_38 hk_39 hn_40 => ?_)
  refine mp_swap ?_
  have hx_41 := hr_17.2.trans hr_38.2.symm
  show mp_W E X 4 907 [(3, .int i), (2, .ref q2), (1, .ref q1), (0, .ref b)] [.int r_32] (A_12 ++ A_33) k_35 n_36
  refine mp_run mp_k_code_ok hF mp_tabL_ok [mp_i .pop, mp_h (.goto 1310) [2218]] (by decide +kernel) ?_
  refine And.intro rfl ?_
  show mp_W E X 4 2218 [(3, .int i), (2, .ref q2), (1, .ref q1), (0, .ref b)] [] (A_12 ++ A_33) k_35 n_36
  have hl_ : l_13 = l_34 := by omega
  exact kk _ _ _ _ _ _ _ _ _ _ _ _ _ _ _ hSL (mp_rws_W hW) hWI hI_16 (hl_ ▸ hI_37) (by omega) (by omega)
set_option maxHeartbeats 4000000 in
set_option maxRecDepth 100000 in
theorem mp_case_21 {E : mp_E} {X : mp_X} {b L : Nat} {xs : Nat → Int32} (hL : mp_Lw E X b L xs) (h3 : L ≤ 3072) {i : Int32} (hi0 : 0 ≤ i.toInt) (hi6 : i.toInt + 6 ≤ L) {q1 q2 : Nat} {len : Int} {sw sl mw mm : Nat → Int32} {kp : Nat → Bool} {tp : Nat → Int32} {ft fp : Int} {td : mp_TD} {it : Nat → mp_TD} {A B : va_W} {k n : Nat} (hSL : mp_SL sw sl mw mm) (hW : mp_WF td) (hWI : ∀ j : Nat, mp_WF (it j)) (hA : mp_IC E q1 len sw sl kp tp ft fp td it A) (hB : mp_IM E q2 len mw mm kp tp ft fp td it B) (hk : k + 13 ≤ 600000) (hn : n + 204 ≤ 7302250) (kk : ∀ (len2 : Int) (sw2 sl2 mw2 mm2 : Nat → Int32) (kp2 : Nat → Bool) (tp2 : Nat → Int32) (ft2 fp2 : Int) (td2 : mp_TD) (it2 : Nat → mp_TD) (A2 B2 : va_W) (k2 n2 : Nat), mp_SL sw2 sl2 mw2 mm2 → mp_WF td2 → (∀ j : Nat, mp_WF (it2 j)) → mp_IC E q1 len2 sw2 sl2 kp2 tp2 ft2 fp2 td2 it2 A2 → mp_IM E q2 len2 mw2 mm2 kp2 tp2 ft2 fp2 td2 it2 B2 → k2 ≤ k + 13 → n2 ≤ n + 204 → mp_W E X 4 2218 [(3, .int i), (2, .ref q2), (1, .ref q1), (0, .ref b)] [] (A2 ++ B2) k2 n2) : mp_W E X 4 911 [(3, .int i), (2, .ref q2), (1, .ref q1), (0, .ref b)] [] (A ++ B) k n := by
  have hF : mp_F E X mp_ML := hL.1
  show mp_W E X 4 911 [(3, .int i), (2, .ref q2), (1, .ref q1), (0, .ref b)] [] (A ++ B) k n
  refine mp_run mp_k_code_ok hF mp_tabL_ok [mp_i (.aload_n 1), mp_i (.aload_n 0), mp_i (.iload_n 3), mp_c (.iconst 1) 1, mp_i .iadd] (by decide +kernel) ?_
  intro z_1 h_2
  have e_3 : z_1.toInt = i.toInt + 1 := mp_add (a := i.toInt) (b := 1) h_2 rfl (by decide) (by first | exact mp_cwa1 hi0 | omega) (by first | exact mp_cwb1 h3 hi6 | omega)
  show mp_W E X 4 916 [(3, .int i), (2, .ref q2), (1, .ref q1), (0, .ref b)] [.int z_1, .ref b, .ref q1] (A ++ B) k n
  refine mp_lsld hL (by first | exact mp_cwc1 hi0 e_3 | omega) (by first | exact mp_cwd1 hi6 e_3 | omega) (by first | exact mp_fd_ok mp_k_code_ok (by decide +kernel) | decide +kernel) (fun v_4 hv_5 => ?_)
  show mp_W E X 4 917 [(3, .int i), (2, .ref q2), (1, .ref q1), (0, .ref b)] [.int v_4, .ref q1] (A ++ B) k n
  refine mp_cc_says hF v_4 hA hW hWI (by first | exact mp_fd_ok mp_k_code_ok (by decide +kernel) | decide +kernel) (by omega) (by omega) (Nat.le_of_ble_eq_true rfl) (fun r_6 A_7 l_8 k_9 n_10 hI_11 hr_12 hk_13 hn_14 => ?_)
  show mp_W E X 4 920 [(3, .int i), (2, .ref q2), (1, .ref q1), (0, .ref b)] [.int r_6] (A_7 ++ B) k_9 n_10
  refine mp_run mp_k_code_ok hF mp_tabL_ok [mp_i .pop, mp_i (.aload_n 2), mp_i (.aload_n 0), mp_i (.iload_n 3), mp_c (.iconst 1) 1, mp_i .iadd] (by decide +kernel) ?_
  refine And.intro rfl ?_
  intro z_15 h_16
  have e_17 : z_15.toInt = i.toInt + 1 := mp_add (a := i.toInt) (b := 1) h_16 rfl (by decide) (by first | exact mp_cwa1 hi0 | omega) (by first | exact mp_cwb1 h3 hi6 | omega)
  show mp_W E X 4 926 [(3, .int i), (2, .ref q2), (1, .ref q1), (0, .ref b)] [.int z_15, .ref b, .ref q2] (A_7 ++ B) k_9 n_10
  refine mp_lsld hL (by first | exact mp_cwc1 hi0 e_17 | omega) (by first | exact mp_cwd1 hi6 e_17 | omega) (by first | exact mp_fd_ok mp_k_code_ok (by decide +kernel) | decide +kernel) (fun v_18 hv_19 => ?_)
  have e_20 := mp_xs_same hv_5 hv_19 (by first | exact e_17.trans e_3.symm | omega)
  subst e_20
  show mp_W E X 4 927 [(3, .int i), (2, .ref q2), (1, .ref q1), (0, .ref b)] [.int v_4, .ref q2] (A_7 ++ B) k_9 n_10
  refine mp_swap ?_
  refine mp_cm_says hF v_4 hB hW hWI (by first | exact mp_fd_ok mp_k_code_ok (by decide +kernel) | decide +kernel) (by omega) (by omega) (Nat.le_of_ble_eq_true rfl) (fun r_21 A_22 l_23 k_24 n_25 hI_26 hr_27 hk_28 hn_29 => ?_)
  refine mp_swap ?_
  show mp_W E X 4 930 [(3, .int i), (2, .ref q2), (1, .ref q1), (0, .ref b)] [.int r_21] (A_7 ++ A_22) k_24 n_25
  refine mp_run mp_k_code_ok hF mp_tabL_ok [mp_i .pop, mp_h (.goto 1287) [2218]] (by decide +kernel) ?_
  refine And.intro rfl ?_
  show mp_W E X 4 2218 [(3, .int i), (2, .ref q2), (1, .ref q1), (0, .ref b)] [] (A_7 ++ A_22) k_24 n_25
  have hl_ : l_8 = l_23 := by omega
  exact kk _ _ _ _ _ _ _ _ _ _ _ _ _ _ _ hSL (mp_say_W hW) hWI hI_11 (hl_ ▸ hI_26) (by omega) (by omega)
