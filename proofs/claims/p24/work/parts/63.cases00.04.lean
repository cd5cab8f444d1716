set_option maxHeartbeats 4000000 in
set_option maxRecDepth 100000 in
theorem mp_case_31 {E : mp_E} {X : mp_X} {b L : Nat} {xs : Nat → Int32} (hL : mp_Lw E X b L xs) (h3 : L ≤ 3072) {i : Int32} (hi0 : 0 ≤ i.toInt) (hi6 : i.toInt + 6 ≤ L) {q1 q2 : Nat} {len : Int} {sw sl mw mm : Nat → Int32} {kp : Nat → Bool} {tp : Nat → Int32} {ft fp : Int} {td : mp_TD} {it : Nat → mp_TD} {A B : va_W} {k n : Nat} (hSL : mp_SL sw sl mw mm) (hW : mp_WF td) (hWI : ∀ j : Nat, mp_WF (it j)) (hA : mp_IC E q1 len sw sl kp tp ft fp td it A) (hB : mp_IM E q2 len mw mm kp tp ft fp td it B) (hk : k + 13 ≤ 600000) (hn : n + 204 ≤ 7302250) (kk : ∀ (len2 : Int) (sw2 sl2 mw2 mm2 : Nat → Int32) (kp2 : Nat → Bool) (tp2 : Nat → Int32) (ft2 fp2 : Int) (td2 : mp_TD) (it2 : Nat → mp_TD) (A2 B2 : va_W) (k2 n2 : Nat), mp_SL sw2 sl2 mw2 mm2 → mp_WF td2 → (∀ j : Nat, mp_WF (it2 j)) → mp_IC E q1 len2 sw2 sl2 kp2 tp2 ft2 fp2 td2 it2 A2 → mp_IM E q2 len2 mw2 mm2 kp2 tp2 ft2 fp2 td2 it2 B2 → k2 ≤ k + 13 → n2 ≤ n + 204 → mp_W E X 4 2218 [(3, .int i), (2, .ref q2), (1, .ref q1), (0, .ref b)] [] (A2 ++ B2) k2 n2) : mp_W E X 4 1141 [(3, .int i), (2, .ref q2), (1, .ref q1), (0, .ref b)] [] (A ++ B) k n := by
  have hF : mp_F E X mp_ML := hL.1
  show mp_W E X 4 1141 [(3, .int i), (2, .ref q2), (1, .ref q1), (0, .ref b)] [] (A ++ B) k n
  refine mp_run mp_k_code_ok hF mp_tabL_ok [mp_i (.aload_n 1), mp_i (.aload_n 0), mp_i (.iload_n 3), mp_c (.iconst 1) 1, mp_i .iadd] (by decide +kernel) ?_
  intro z_1 h_2
  have e_3 : z_1.toInt = i.toInt + 1 := mp_add (a := i.toInt) (b := 1) h_2 rfl (by decide) (by first | exact mp_cwa1 hi0 | omega) (by first | exact mp_cwb1 h3 hi6 | omega)
  show mp_W E X 4 1146 [(3, .int i), (2, .ref q2), (1, .ref q1), (0, .ref b)] [.int z_1, .ref b, .ref q1] (A ++ B) k n
  refine mp_lsld hL (by first | exact mp_cwc1 hi0 e_3 | omega) (by first | exact mp_cwd1 hi6 e_3 | omega) (by first | exact mp_fd_ok mp_k_code_ok (by decide +kernel) | decide +kernel) (fun v_4 hv_5 => ?_)
  show mp_W E X 4 1147 [(3, .int i), (2, .ref q2), (1, .ref q1), (0, .ref b)] [.int v_4, .ref q1] (A ++ B) k n
  refine mp_run mp_k_code_ok hF mp_tabL_ok [mp_i (.aload_n 0), mp_i (.iload_n 3), mp_c (.iconst 2) 2, mp_i .iadd] (by decide +kernel) ?_
  intro z_6 h_7
  have e_8 : z_6.toInt = i.toInt + 2 := mp_add (a := i.toInt) (b := 2) h_7 rfl (by decide) (by first | exact mp_cwa2 hi0 | omega) (by first | exact mp_cwb2 h3 hi6 | omega)
  show mp_W E X 4 1151 [(3, .int i), (2, .ref q2), (1, .ref q1), (0, .ref b)] [.int z_6, .ref b, .int v_4, .ref q1] (A ++ B) k n
  refine mp_lsld hL (by first | exact mp_cwc2 hi0 e_8 | omega) (by first | exact mp_cwd2 hi6 e_8 | omega) (by first | exact mp_fd_ok mp_k_code_ok (by decide +kernel) | decide +kernel) (fun v_9 hv_10 => ?_)
  show mp_W E X 4 1152 [(3, .int i), (2, .ref q2), (1, .ref q1), (0, .ref b)] [.int v_9, .int v_4, .ref q1] (A ++ B) k n
  refine mp_cc_fallen hF v_4 v_9 hA hW hWI (by first | exact mp_fd_ok mp_k_code_ok (by decide +kernel) | decide +kernel) (by omega) (by omega) (Nat.le_of_ble_eq_true rfl) (fun r_11 A_12 l_13 k_14 n_15 hI_16 hr_17 hk_18 hn_19 => ?_)
  show mp_W E X 4 1155 [(3, .int i), (2, .ref q2), (1, .ref q1), (0, .ref b)] [.int r_11] (A_12 ++ B) k_14 n_15
  refine mp_run mp_k_code_ok hF mp_tabL_ok [mp_i .pop, mp_i (.aload_n 2), mp_i (.aload_n 0), mp_i (.iload_n 3), mp_c (.iconst 1) 1, mp_i .iadd] (by decide +kernel) ?_
  refine And.intro rfl ?_
  intro z_20 h_21
  have e_22 : z_20.toInt = i.toInt + 1 := mp_add (a := i.toInt) (b := 1) h_21 rfl (by decide) (by first | exact mp_cwa1 hi0 | omega) (by first | exact mp_cwb1 h3 hi6 | omega)
  show mp_W E X 4 1161 [(3, .int i), (2, .ref q2), (1, .ref q1), (0, .ref b)] [.int z_20, .ref b, .ref q2] (A_12 ++ B) k_14 n_15
  refine mp_lsld hL (by first | exact mp_cwc1 hi0 e_22 | omega) (by first | exact mp_cwd1 hi6 e_22 | omega) (by first | exact mp_fd_ok mp_k_code_ok (by decide +kernel) | decide +kernel) (fun v_23 hv_24 => ?_)
  have e_25 := mp_xs_same hv_5 hv_24 (by first | exact e_22.trans e_3.symm | omega)
  subst e_25
  show mp_W E X 4 1162 [(3, .int i), (2, .ref q2), (1, .ref q1), (0, .ref b)] [.int v_4, .ref q2] (A_12 ++ B) k_14 n_15
  refine mp_run mp_k_code_ok hF mp_tabL_ok [mp_i (.aload_n 0), mp_i (.iload_n 3), mp_c (.iconst 2) 2, mp_i .iadd] (by decide +kernel) ?_
  intro z_26 h_27
  have e_28 : z_26.toInt = i.toInt + 2 := mp_add (a := i.toInt) (b := 2) h_27 rfl (by decide) (by first | exact mp_cwa2 hi0 | omega) (by first | exact mp_cwb2 h3 hi6 | omega)
  show mp_W E X 4 1166 [(3, .int i), (2, .ref q2), (1, .ref q1), (0, .ref b)] [.int z_26, .ref b, .int v_4, .ref q2] (A_12 ++ B) k_14 n_15
  refine mp_lsld hL (by first | exact mp_cwc2 hi0 e_28 | omega) (by first | exact mp_cwd2 hi6 e_28 | omega) (by first | exact mp_fd_ok mp_k_code_ok (by decide +kernel) | decide +kernel) (fun v_29 hv_30 => ?_)
  have e_31 := mp_xs_same hv_10 hv_30 (by first | exact e_28.trans e_8.symm | omega)
  subst e_31
  show mp_W E X 4 1167 [(3, .int i), (2, .ref q2), (1, .ref q1), (0, .ref b)] [.int v_9, .int v_4, .ref q2] (A_12 ++ B) k_14 n_15
  refine mp_swap ?_
  refine mp_cm_fallen hF v_4 v_9 hB hW hWI (by first | exact mp_fd_ok mp_k_code_ok (by decide +kernel) | decide +kernel) (by omega) (by omega) (Nat.le_of_ble_eq_true rfl) (fun r_32 A_33 l_34 k_35 n_36 hI_37 hr_38 hk_39 hn_40 => ?_)
  refine mp_swap ?_
  show mp_W E X 4 1170 [(3, .int i), (2, .ref q2), (1, .ref q1), (0, .ref b)] [.int r_32] (A_12 ++ A_33) k_35 n_36
  refine mp_run mp_k_code_ok hF mp_tabL_ok [mp_i .pop, mp_h (.goto 1047) [2218]] (by decide +kernel) ?_
  refine And.intro rfl ?_
  show mp_W E X 4 2218 [(3, .int i), (2, .ref q2), (1, .ref q1), (0, .ref b)] [] (A_12 ++ A_33) k_35 n_36
  have hl_ : l_13 = l_34 := by omega
  exact kk _ _ _ _ _ _ _ _ _ _ _ _ _ _ _ hSL hW hWI hI_16 (hl_ ▸ hI_37) (by omega) (by omega)
set_option maxHeartbeats 4000000 in
set_option maxRecDepth 100000 in
theorem mp_case_32 {E : mp_E} {X : mp_X} {b L : Nat} {xs : Nat → Int32} (hL : mp_Lw E X b L xs) (h3 : L ≤ 3072) {i : Int32} (hi0 : 0 ≤ i.toInt) (hi6 : i.toInt + 6 ≤ L) {q1 q2 : Nat} {len : Int} {sw sl mw mm : Nat → Int32} {kp : Nat → Bool} {tp : Nat → Int32} {ft fp : Int} {td : mp_TD} {it : Nat → mp_TD} {A B : va_W} {k n : Nat} (hSL : mp_SL sw sl mw mm) (hW : mp_WF td) (hWI : ∀ j : Nat, mp_WF (it j)) (hA : mp_IC E q1 len sw sl kp tp ft fp td it A) (hB : mp_IM E q2 len mw mm kp tp ft fp td it B) (hk : k + 13 ≤ 600000) (hn : n + 204 ≤ 7302250) (kk : ∀ (len2 : Int) (sw2 sl2 mw2 mm2 : Nat → Int32) (kp2 : Nat → Bool) (tp2 : Nat → Int32) (ft2 fp2 : Int) (td2 : mp_TD) (it2 : Nat → mp_TD) (A2 B2 : va_W) (k2 n2 : Nat), mp_SL sw2 sl2 mw2 mm2 → mp_WF td2 → (∀ j : Nat, mp_WF (it2 j)) → mp_IC E q1 len2 sw2 sl2 kp2 tp2 ft2 fp2 td2 it2 A2 → mp_IM E q2 len2 mw2 mm2 kp2 tp2 ft2 fp2 td2 it2 B2 → k2 ≤ k + 13 → n2 ≤ n + 204 → mp_W E X 4 2218 [(3, .int i), (2, .ref q2), (1, .ref q1), (0, .ref b)] [] (A2 ++ B2) k2 n2) : mp_W E X 4 1174 [(3, .int i), (2, .ref q2), (1, .ref q1), (0, .ref b)] [] (A ++ B) k n := by
  have hF : mp_F E X mp_ML := hL.1
  show mp_W E X 4 1174 [(3, .int i), (2, .ref q2), (1, .ref q1), (0, .ref b)] [] (A ++ B) k n
  refine mp_run mp_k_code_ok hF mp_tabL_ok [mp_i (.aload_n 1), mp_i (.aload_n 0), mp_i (.iload_n 3), mp_c (.iconst 1) 1, mp_i .iadd] (by decide +kernel) ?_
  intro z_1 h_2
  have e_3 : z_1.toInt = i.toInt + 1 := mp_add (a := i.toInt) (b := 1) h_2 rfl (by decide) (by first | exact mp_cwa1 hi0 | omega) (by first | exact mp_cwb1 h3 hi6 | omega)
  show mp_W E X 4 1179 [(3, .int i), (2, .ref q2), (1, .ref q1), (0, .ref b)] [.int z_1, .ref b, .ref q1] (A ++ B) k n
  refine mp_lsld hL (by first | exact mp_cwc1 hi0 e_3 | omega) (by first | exact mp_cwd1 hi6 e_3 | omega) (by first | exact mp_fd_ok mp_k_code_ok (by decide +kernel) | decide +kernel) (fun v_4 hv_5 => ?_)
  show mp_W E X 4 1180 [(3, .int i), (2, .ref q2), (1, .ref q1), (0, .ref b)] [.int v_4, .ref q1] (A ++ B) k n
  refine mp_run mp_k_code_ok hF mp_tabL_ok [mp_i (.aload_n 0), mp_i (.iload_n 3), mp_c (.iconst 2) 2, mp_i .iadd] (by decide +kernel) ?_
  intro z_6 h_7
  have e_8 : z_6.toInt = i.toInt + 2 := mp_add (a := i.toInt) (b := 2) h_7 rfl (by decide) (by first | exact mp_cwa2 hi0 | omega) (by first | exact mp_cwb2 h3 hi6 | omega)
  show mp_W E X 4 1184 [(3, .int i), (2, .ref q2), (1, .ref q1), (0, .ref b)] [.int z_6, .ref b, .int v_4, .ref q1] (A ++ B) k n
  refine mp_lsld hL (by first | exact mp_cwc2 hi0 e_8 | omega) (by first | exact mp_cwd2 hi6 e_8 | omega) (by first | exact mp_fd_ok mp_k_code_ok (by decide +kernel) | decide +kernel) (fun v_9 hv_10 => ?_)
  show mp_W E X 4 1185 [(3, .int i), (2, .ref q2), (1, .ref q1), (0, .ref b)] [.int v_9, .int v_4, .ref q1] (A ++ B) k n
  refine mp_cc_plans hF v_4 v_9 hA hW hWI (by first | exact mp_fd_ok mp_k_code_ok (by decide +kernel) | decide +kernel) (by omega) (by omega) (Nat.le_of_ble_eq_true rfl) (fun r_11 A_12 l_13 k_14 n_15 hI_16 hr_17 hk_18 hn_19 => ?_)
  show mp_W E X 4 1188 [(3, .int i), (2, .ref q2), (1, .ref q1), (0, .ref b)] [.long r_11] (A_12 ++ B) k_14 n_15
  refine mp_pop2l hF (by first | exact mp_fd_ok mp_k_code_ok (by decide +kernel) | decide +kernel) ?_
  show mp_W E X 4 1189 [(3, .int i), (2, .ref q2), (1, .ref q1), (0, .ref b)] [] (A_12 ++ B) k_14 n_15
  refine mp_run mp_k_code_ok hF mp_tabL_ok [mp_i (.aload_n 2), mp_i (.aload_n 0), mp_i (.iload_n 3), mp_c (.iconst 1) 1, mp_i .iadd] (by decide +kernel) ?_
  intro z_20 h_21
  have e_22 : z_20.toInt = i.toInt + 1 := mp_add (a := i.toInt) (b := 1) h_21 rfl (by decide) (by first | exact mp_cwa1 hi0 | omega) (by first | exact mp_cwb1 h3 hi6 | omega)
  show mp_W E X 4 1194 [(3, .int i), (2, .ref q2), (1, .ref q1), (0, .ref b)] [.int z_20, .ref b, .ref q2] (A_12 ++ B) k_14 n_15
  refine mp_lsld hL (by first | exact mp_cwc1 hi0 e_22 | omega) (by first | exact mp_cwd1 hi6 e_22 | omega) (by first | exact mp_fd_ok mp_k_code_ok (by decide +kernel) | decide +kernel) (fun v_23 hv_24 => ?_)
  have e_25 := mp_xs_same hv_5 hv_24 (by first | exact e_22.trans e_3.symm | omega)
  subst e_25
  show mp_W E X 4 1195 [(3, .int i), (2, .ref q2), (1, .ref q1), (0, .ref b)] [.int v_4, .ref q2] (A_12 ++ B) k_14 n_15
  refine mp_run mp_k_code_ok hF mp_tabL_ok [mp_i (.aload_n 0), mp_i (.iload_n 3), mp_c (.iconst 2) 2, mp_i .iadd] (by decide +kernel) ?_
  intro z_26 h_27
  have e_28 : z_26.toInt = i.toInt + 2 := mp_add (a := i.toInt) (b := 2) h_27 rfl (by decide) (by first | exact mp_cwa2 hi0 | omega) (by first | exact mp_cwb2 h3 hi6 | omega)
  show mp_W E X 4 1199 [(3, .int i), (2, .ref q2), (1, .ref q1), (0, .ref b)] [.int z_26, .ref b, .int v_4, .ref q2] (A_12 ++ B) k_14 n_15
  refine mp_lsld hL (by first | exact mp_cwc2 hi0 e_28 | omega) (by first | exact mp_cwd2 hi6 e_28 | omega) (by first | exact mp_fd_ok mp_k_code_ok (by decide +kernel) | decide +kernel) (fun v_29 hv_30 => ?_)
  have e_31 := mp_xs_same hv_10 hv_30 (by first | exact e_28.trans e_8.symm | omega)
  subst e_31
  show mp_W E X 4 1200 [(3, .int i), (2, .ref q2), (1, .ref q1), (0, .ref b)] [.int v_9, .int v_4, .ref q2] (A_12 ++ B) k_14 n_15
  refine mp_swap ?_
  refine mp_cm_plans hF v_4 v_9 hB hW hWI (by first | exact mp_fd_ok mp_k_code_ok (by decide +kernel) | decide +kernel) (by omega) (by omega) (Nat.le_of_ble_eq_true rfl) (fun r_32 A_33 l_34 k_35 n_36 hI_37 hr_38 hk_39 hn_40 => ?_)
  refine mp_swap ?_
  show mp_W E X 4 1203 [(3, .int i), (2, .ref q2), (1, .ref q1), (0, .ref b)] [.long r_32] (A_12 ++ A_33) k_35 n_36
  refine mp_pop2l hF (by first | exact mp_fd_ok mp_k_code_ok (by decide +kernel) | decide +kernel) ?_
  show mp_W E X 4 1204 [(3, .int i), (2, .ref q2), (1, .ref q1), (0, .ref b)] [] (A_12 ++ A_33) k_35 n_36
  refine mp_run mp_k_code_ok hF mp_tabL_ok [mp_h (.goto 1014) [2218]] (by decide +kernel) ?_
  show mp_W E X 4 2218 [(3, .int i), (2, .ref q2), (1, .ref q1), (0, .ref b)] [] (A_12 ++ A_33) k_35 n_36
  have hl_ : l_13 = l_34 := by omega
  exact kk _ _ _ _ _ _ _ _ _ _ _ _ _ _ _ hSL hW hWI hI_16 (hl_ ▸ hI_37) (by omega) (by omega)
set_option maxHeartbeats 4000000 in
set_option maxRecDepth 100000 in
theorem mp_case_33 {E : mp_E} {X : mp_X} {b L : Nat} {xs : Nat → Int32} (hL : mp_Lw E X b L xs) (h3 : L ≤ 3072) {i : Int32} (hi0 : 0 ≤ i.toInt) (hi6 : i.toInt + 6 ≤ L) {q1 q2 : Nat} {len : Int} {sw sl mw mm : Nat → Int32} {kp : Nat → Bool} {tp : Nat → Int32} {ft fp : Int} {td : mp_TD} {it : Nat → mp_TD} {A B : va_W} {k n : Nat} (hSL : mp_SL sw sl mw mm) (hW : mp_WF td) (hWI : ∀ j : Nat, mp_WF (it j)) (hA : mp_IC E q1 len sw sl kp tp ft fp td it A) (hB : mp_IM E q2 len mw mm kp tp ft fp td it B) (hk : k + 13 ≤ 600000) (hn : n + 204 ≤ 7302250) (kk : ∀ (len2 : Int) (sw2 sl2 mw2 mm2 : Nat → Int32) (kp2 : Nat → Bool) (tp2 : Nat → Int32) (ft2 fp2 : Int) (td2 : mp_TD) (it2 : Nat → mp_TD) (A2 B2 : va_W) (k2 n2 : Nat), mp_SL sw2 sl2 mw2 mm2 → mp_WF td2 → (∀ j : Nat, mp_WF (it2 j)) → mp_IC E q1 len2 sw2 sl2 kp2 tp2 ft2 fp2 td2 it2 A2 → mp_IM E q2 len2 mw2 mm2 kp2 tp2 ft2 fp2 td2 it2 B2 → k2 ≤ k + 13 → n2 ≤ n + 204 → mp_W E X 4 2218 [(3, .int i), (2, .ref q2), (1, .ref q1), (0, .ref b)] [] (A2 ++ B2) k2 n2) : mp_W E X 4 1207 [(3, .int i), (2, .ref q2), (1, .ref q1), (0, .ref b)] [] (A ++ B) k n := by
  have hF : mp_F E X mp_ML := hL.1
  show mp_W E X 4 1207 [(3, .int i), (2, .ref q2), (1, .ref q1), (0, .ref b)] [] (A ++ B) k n
  refine mp_run mp_k_code_ok hF mp_tabL_ok [mp_i (.aload_n 1), mp_i (.aload_n 0), mp_i (.iload_n 3), mp_c (.iconst 1) 1, mp_i .iadd] (by decide +kernel) ?_
  intro z_1 h_2
  have e_3 : z_1.toInt = i.toInt + 1 := mp_add (a := i.toInt) (b := 1) h_2 rfl (by decide) (by first | exact mp_cwa1 hi0 | omega) (by first | exact mp_cwb1 h3 hi6 | omega)
  show mp_W E X 4 1212 [(3, .int i), (2, .ref q2), (1, .ref q1), (0, .ref b)] [.int z_1, .ref b, .ref q1] (A ++ B) k n
  refine mp_lsld hL (by first | exact mp_cwc1 hi0 e_3 | omega) (by first | exact mp_cwd1 hi6 e_3 | omega) (by first | exact mp_fd_ok mp_k_code_ok (by decide +kernel) | decide +kernel) (fun v_4 hv_5 => ?_)
  show mp_W E X 4 1213 [(3, .int i), (2, .ref q2), (1, .ref q1), (0, .ref b)] [.int v_4, .ref q1] (A ++ B) k n
  refine mp_run mp_k_code_ok hF mp_tabL_ok [mp_i (.aload_n 0), mp_i (.iload_n 3), mp_c (.iconst 2) 2, mp_i .iadd] (by decide +kernel) ?_
  intro z_6 h_7
  have e_8 : z_6.toInt = i.toInt + 2 := mp_add (a := i.toInt) (b := 2) h_7 rfl (by decide) (by first | exact mp_cwa2 hi0 | omega) (by first | exact mp_cwb2 h3 hi6 | omega)
  show mp_W E X 4 1217 [(3, .int i), (2, .ref q2), (1, .ref q1), (0, .ref b)] [.int z_6, .ref b, .int v_4, .ref q1] (A ++ B) k n
  refine mp_lsld hL (by first | exact mp_cwc2 hi0 e_8 | omega) (by first | exact mp_cwd2 hi6 e_8 | omega) (by first | exact mp_fd_ok mp_k_code_ok (by decide +kernel) | decide +kernel) (fun v_9 hv_10 => ?_)
  show mp_W E X 4 1218 [(3, .int i), (2, .ref q2), (1, .ref q1), (0, .ref b)] [.int v_9, .int v_4, .ref q1] (A ++ B) k n
  refine mp_run mp_k_code_ok hF mp_tabL_ok [mp_i (.aload_n 0), mp_i (.iload_n 3), mp_c (.iconst 3) 3, mp_i .iadd] (by decide +kernel) ?_
  intro z_11 h_12
  have e_13 : z_11.toInt = i.toInt + 3 := mp_add (a := i.toInt) (b := 3) h_12 rfl (by decide) (by first | exact mp_cwa3 hi0 | omega) (by first | exact mp_cwb3 h3 hi6 | omega)
  show mp_W E X 4 1222 [(3, .int i), (2, .ref q2), (1, .ref q1), (0, .ref b)] [.int z_11, .ref b, .int v_9, .int v_4, .ref q1] (A ++ B) k n
  refine mp_lsld hL (by first | exact mp_cwc3 hi0 e_13 | omega) (by first | exact mp_cwd3 hi6 e_13 | omega) (by first | exact mp_fd_ok mp_k_code_ok (by decide +kernel) | decide +kernel) (fun v_14 hv_15 => ?_)
  show mp_W E X 4 1223 [(3, .int i), (2, .ref q2), (1, .ref q1), (0, .ref b)] [.int v_14, .int v_9, .int v_4, .ref q1] (A ++ B) k n
  refine mp_cc_love hF v_4 v_9 v_14 hA hW hWI (by first | exact mp_fd_ok mp_k_code_ok (by decide +kernel) | decide +kernel) (by omega) (by omega) (Nat.le_of_ble_eq_true rfl) (fun r_16 A_17 l_18 k_19 n_20 hI_21 hr_22 hk_23 hn_24 => ?_)
  show mp_W E X 4 1226 [(3, .int i), (2, .ref q2), (1, .ref q1), (0, .ref b)] [.int r_16] (A_17 ++ B) k_19 n_20
  refine mp_run mp_k_code_ok hF mp_tabL_ok [mp_i .pop, mp_i (.aload_n 2), mp_i (.aload_n 0), mp_i (.iload_n 3), mp_c (.iconst 1) 1, mp_i .iadd] (by decide +kernel) ?_
  refine And.intro rfl ?_
  intro z_25 h_26
  have e_27 : z_25.toInt = i.toInt + 1 := mp_add (a := i.toInt) (b := 1) h_26 rfl (by decide) (by first | exact mp_cwa1 hi0 | omega) (by first | exact mp_cwb1 h3 hi6 | omega)
  show mp_W E X 4 1232 [(3, .int i), (2, .ref q2), (1, .ref q1), (0, .ref b)] [.int z_25, .ref b, .ref q2] (A_17 ++ B) k_19 n_20
  refine mp_lsld hL (by first | exact mp_cwc1 hi0 e_27 | omega) (by first | exact mp_cwd1 hi6 e_27 | omega) (by first | exact mp_fd_ok mp_k_code_ok (by decide +kernel) | decide +kernel) (fun v_28 hv_29 => ?_)
  have e_30 := mp_xs_same hv_5 hv_29 (by first | exact e_27.trans e_3.symm | omega)
  subst e_30
  show mp_W E X 4 1233 [(3, .int i), (2, .ref q2), (1, .ref q1), (0, .ref b)] [.int v_4, .ref q2] (A_17 ++ B) k_19 n_20
  refine mp_run mp_k_code_ok hF mp_tabL_ok [mp_i (.aload_n 0), mp_i (.iload_n 3), mp_c (.iconst 2) 2, mp_i .iadd] (by decide +kernel) ?_
  intro z_31 h_32
  have e_33 : z_31.toInt = i.toInt + 2 := mp_add (a := i.toInt) (b := 2) h_32 rfl (by decide) (by first | exact mp_cwa2 hi0 | omega) (by first | exact mp_cwb2 h3 hi6 | omega)
  show mp_W E X 4 1237 [(3, .int i), (2, .ref q2), (1, .ref q1), (0, .ref b)] [.int z_31, .ref b, .int v_4, .ref q2] (A_17 ++ B) k_19 n_20
  refine mp_lsld hL (by first | exact mp_cwc2 hi0 e_33 | omega) (by first | exact mp_cwd2 hi6 e_33 | omega) (by first | exact mp_fd_ok mp_k_code_ok (by decide +kernel) | decide +kernel) (fun v_34 hv_35 => ?_)
  have e_36 := mp_xs_same hv_10 hv_35 (by first | exact e_33.trans e_8.symm | omega)
  subst e_36
  show mp_W E X 4 1238 [(3, .int i), (2, .ref q2), (1, .ref q1), (0, .ref b)] [.int v_9, .int v_4, .ref q2] (A_17 ++ B) k_19 n_20
  refine mp_run mp_k_code_ok hF mp_tabL_ok [mp_i (.aload_n 0), mp_i (.iload_n 3), mp_c (.iconst 3) 3, mp_i .iadd] (by decide +kernel) ?_
  intro z_37 h_38
  have e_39 : z_37.toInt = i.toInt + 3 := mp_add (a := i.toInt) (b := 3) h_38 rfl (by decide) (by first | exact mp_cwa3 hi0 | omega) (by first | exact mp_cwb3 h3 hi6 | omega)
  show mp_W E X 4 1242 [(3, .int i), (2, .ref q2), (1, .ref q1), (0, .ref b)] [.int z_37, .ref b, .int v_9, .int v_4, .ref q2] (A_17 ++ B) k_19 n_20
  refine mp_lsld hL (by first | exact mp_cwc3 hi0 e_39 | omega) (by first | exact mp_cwd3 hi6 e_39 | omega) (by first | exact mp_fd_ok mp_k_code_ok (by decide +kernel) | decide +kernel) (fun v_40 hv_41 => ?_)
  have e_42 := mp_xs_same hv_15 hv_41 (by first | exact e_39.trans e_13.symm | omega)
  subst e_42
  show mp_W E X 4 1243 [(3, .int i), (2, .ref q2), (1, .ref q1), (0, .ref b)] [.int v_14, .int v_9, .int v_4, .ref q2] (A_17 ++ B) k_19 n_20
  refine mp_swap ?_
  refine mp_cm_love hF v_4 v_9 v_14 hB hW hWI (by first | exact mp_fd_ok mp_k_code_ok (by decide +kernel) | decide +kernel) (by omega) (by omega) (Nat.le_of_ble_eq_true rfl) (fun r_43 A_44 l_45 k_46 n_47 hI_48 hr_49 hk_50 hn_51 => ?_)
  refine mp_swap ?_
  show mp_W E X 4 1246 [(3, .int i), (2, .ref q2), (1, .ref q1), (0, .ref b)] [.int r_43] (A_17 ++ A_44) k_46 n_47
  refine mp_run mp_k_code_ok hF mp_tabL_ok [mp_i .pop, mp_h (.goto 971) [2218]] (by decide +kernel) ?_
  refine And.intro rfl ?_
  show mp_W E X 4 2218 [(3, .int i), (2, .ref q2), (1, .ref q1), (0, .ref b)] [] (A_17 ++ A_44) k_46 n_47
  have hl_ : l_18 = l_45 := by omega
  exact kk _ _ _ _ _ _ _ _ _ _ _ _ _ _ _ hSL hW hWI hI_21 (hl_ ▸ hI_48) (by omega) (by omega)
set_option maxHeartbeats 4000000 in
set_option maxRecDepth 100000 in
theorem mp_case_34 {E : mp_E} {X : mp_X} {b L : Nat} {xs : Nat → Int32} (hL : mp_Lw E X b L xs) (h3 : L ≤ 3072) {i : Int32} (hi0 : 0 ≤ i.toInt) (hi6 : i.toInt + 6 ≤ L) {q1 q2 : Nat} {len : Int} {sw sl mw mm : Nat → Int32} {kp : Nat → Bool} {tp : Nat → Int32} {ft fp : Int} {td : mp_TD} {it : Nat → mp_TD} {A B : va_W} {k n : Nat} (hSL : mp_SL sw sl mw mm) (hW : mp_WF td) (hWI : ∀ j : Nat, mp_WF (it j)) (hA : mp_IC E q1 len sw sl kp tp ft fp td it A) (hB : mp_IM E q2 len mw mm kp tp ft fp td it B) (hk : k + 13 ≤ 600000) (hn : n + 204 ≤ 7302250) (kk : ∀ (len2 : Int) (sw2 sl2 mw2 mm2 : Nat → Int32) (kp2 : Nat → Bool) (tp2 : Nat → Int32) (ft2 fp2 : Int) (td2 : mp_TD) (it2 : Nat → mp_TD) (A2 B2 : va_W) (k2 n2 : Nat), mp_SL sw2 sl2 mw2 mm2 → mp_WF td2 → (∀ j : Nat, mp_WF (it2 j)) → mp_IC E q1 len2 sw2 sl2 kp2 tp2 ft2 fp2 td2 it2 A2 → mp_IM E q2 len2 mw2 mm2 kp2 tp2 ft2 fp2 td2 it2 B2 → k2 ≤ k + 13 → n2 ≤ n + 204 → mp_W E X 4 2218 [(3, .int i), (2, .ref q2), (1, .ref q1), (0, .ref b)] [] (A2 ++ B2) k2 n2) : mp_W E X 4 1250 [(3, .int i), (2, .ref q2), (1, .ref q1), (0, .ref b)] [] (A ++ B) k n := by
  have hF : mp_F E X mp_ML := hL.1
  show mp_W E X 4 1250 [(3, .int i), (2, .ref q2), (1, .ref q1), (0, .ref b)] [] (A ++ B) k n
  refine mp_run mp_k_code_ok hF mp_tabL_ok [mp_i (.aload_n 1), mp_i (.aload_n 0), mp_i (.iload_n 3), mp_c (.iconst 1) 1, mp_i .iadd] (by decide +kernel) ?_
  intro z_1 h_2
  have e_3 : z_1.toInt = i.toInt + 1 := mp_add (a := i.toInt) (b := 1) h_2 rfl (by decide) (by first | exact mp_cwa1 hi0 | omega) (by first | exact mp_cwb1 h3 hi6 | omega)
  show mp_W E X 4 1255 [(3, .int i), (2, .ref q2), (1, .ref q1), (0, .ref b)] [.int z_1, .ref b, .ref q1] (A ++ B) k n
  refine mp_lsld hL (by first | exact mp_cwc1 hi0 e_3 | omega) (by first | exact mp_cwd1 hi6 e_3 | omega) (by first | exact mp_fd_ok mp_k_code_ok (by decide +kernel) | decide +kernel) (fun v_4 hv_5 => ?_)
  show mp_W E X 4 1256 [(3, .int i), (2, .ref q2), (1, .ref q1), (0, .ref b)] [.int v_4, .ref q1] (A ++ B) k n
  refine mp_run mp_k_code_ok hF mp_tabL_ok [mp_i (.aload_n 0), mp_i (.iload_n 3), mp_c (.iconst 2) 2, mp_i .iadd] (by decide +kernel) ?_
  intro z_6 h_7
  have e_8 : z_6.toInt = i.toInt + 2 := mp_add (a := i.toInt) (b := 2) h_7 rfl (by decide) (by first | exact mp_cwa2 hi0 | omega) (by first | exact mp_cwb2 h3 hi6 | omega)
  show mp_W E X 4 1260 [(3, .int i), (2, .ref q2), (1, .ref q1), (0, .ref b)] [.int z_6, .ref b, .int v_4, .ref q1] (A ++ B) k n
  refine mp_lsld hL (by first | exact mp_cwc2 hi0 e_8 | omega) (by first | exact mp_cwd2 hi6 e_8 | omega) (by first | exact mp_fd_ok mp_k_code_ok (by decide +kernel) | decide +kernel) (fun v_9 hv_10 => ?_)
  show mp_W E X 4 1261 [(3, .int i), (2, .ref q2), (1, .ref q1), (0, .ref b)] [.int v_9, .int v_4, .ref q1] (A ++ B) k n
  refine mp_run mp_k_code_ok hF mp_tabL_ok [mp_i (.aload_n 0), mp_i (.iload_n 3), mp_c (.iconst 3) 3, mp_i .iadd] (by decide +kernel) ?_
  intro z_11 h_12
  have e_13 : z_11.toInt = i.toInt + 3 := mp_add (a := i.toInt) (b := 3) h_12 rfl (by decide) (by first | exact mp_cwa3 hi0 | omega) (by first | exact mp_cwb3 h3 hi6 | omega)
  show mp_W E X 4 1265 [(3, .int i), (2, .ref q2), (1, .ref q1), (0, .ref b)] [.int z_11, .ref b, .int v_9, .int v_4, .ref q1] (A ++ B) k n
  refine mp_lsld hL (by first | exact mp_cwc3 hi0 e_13 | omega) (by first | exact mp_cwd3 hi6 e_13 | omega) (by first | exact mp_fd_ok mp_k_code_ok (by decide +kernel) | decide +kernel) (fun v_14 hv_15 => ?_)
  show mp_W E X 4 1266 [(3, .int i), (2, .ref q2), (1, .ref q1), (0, .ref b)] [.int v_14, .int v_9, .int v_4, .ref q1] (A ++ B) k n
  refine mp_cc_when hF v_4 v_9 v_14 hA hW hWI (by first | exact mp_fd_ok mp_k_code_ok (by decide +kernel) | decide +kernel) (by omega) (by omega) (Nat.le_of_ble_eq_true rfl) (fun r_16 A_17 l_18 k_19 n_20 hI_21 hr_22 hk_23 hn_24 => ?_)
  show mp_W E X 4 1269 [(3, .int i), (2, .ref q2), (1, .ref q1), (0, .ref b)] [.int r_16] (A_17 ++ B) k_19 n_20
  refine mp_run mp_k_code_ok hF mp_tabL_ok [mp_i .pop, mp_i (.aload_n 2), mp_i (.aload_n 0), mp_i (.iload_n 3), mp_c (.iconst 1) 1, mp_i .iadd] (by decide +kernel) ?_
  refine And.intro rfl ?_
  intro z_25 h_26
  have e_27 : z_25.toInt = i.toInt + 1 := mp_add (a := i.toInt) (b := 1) h_26 rfl (by decide) (by first | exact mp_cwa1 hi0 | omega) (by first | exact mp_cwb1 h3 hi6 | omega)
  show mp_W E X 4 1275 [(3, .int i), (2, .ref q2), (1, .ref q1), (0, .ref b)] [.int z_25, .ref b, .ref q2] (A_17 ++ B) k_19 n_20
  refine mp_lsld hL (by first | exact mp_cwc1 hi0 e_27 | omega) (by first | exact mp_cwd1 hi6 e_27 | omega) (by first | exact mp_fd_ok mp_k_code_ok (by decide +kernel) | decide +kernel) (fun v_28 hv_29 => ?_)
  have e_30 := mp_xs_same hv_5 hv_29 (by first | exact e_27.trans e_3.symm | omega)
  subst e_30
  show mp_W E X 4 1276 [(3, .int i), (2, .ref q2), (1, .ref q1), (0, .ref b)] [.int v_4, .ref q2] (A_17 ++ B) k_19 n_20
  refine mp_run mp_k_code_ok hF mp_tabL_ok [mp_i (.aload_n 0), mp_i (.iload_n 3), mp_c (.iconst 2) 2, mp_i .iadd] (by decide +kernel) ?_
  intro z_31 h_32
  have e_33 : z_31.toInt = i.toInt + 2 := mp_add (a := i.toInt) (b := 2) h_32 rfl (by decide) (by first | exact mp_cwa2 hi0 | omega) (by first | exact mp_cwb2 h3 hi6 | omega)
  show mp_W E X 4 1280 [(3, .int i), (2, .ref q2), (1, .ref q1), (0, .ref b)] [.int z_31, .ref b, .int v_4, .ref q2] (A_17 ++ B) k_19 n_20
  refine mp_lsld hL (by first | exact mp_cwc2 hi0 e_33 | omega) (by first | exact mp_cwd2 hi6 e_33 | omega) (by first | exact mp_fd_ok mp_k_code_ok (by decide +kernel) | decide +kernel) (fun v_34 hv_35 => ?_)
  have e_36 := mp_xs_same hv_10 hv_35 (by first | exact e_33.trans e_8.symm | omega)
  subst e_36
  show mp_W E X 4 1281 [(3, .int i), (2, .ref q2), (1, .ref q1), (0, .ref b)] [.int v_9, .int v_4, .ref q2] (A_17 ++ B) k_19 n_20
  refine mp_run mp_k_code_ok hF mp_tabL_ok [mp_i (.aload_n 0), mp_i (.iload_n 3), mp_c (.iconst 3) 3, mp_i .iadd] (by decide +kernel) ?_
  intro z_37 h_38
  have e_39 : z_37.toInt = i.toInt + 3 := mp_add (a := i.toInt) (b := 3) h_38 rfl (by decide) (by first | exact mp_cwa3 hi0 | omega) (by first | exact mp_cwb3 h3 hi6 | omega)
  show mp_W E X 4 1285 [(3, .int i), (2, .ref q2), (1, .ref q1), (0, .ref b)] [.int z_37, .ref b, .int v_9, .int v_4, .ref q2] (A_17 ++ B) k_19 n_20
  refine mp_lsld hL (by first | exact mp_cwc3 hi0 e_39 | omega) (by first | exact mp_cwd3 hi6 e_39 | omega) (by first | exact mp_fd_ok mp_k_code_ok (by decide +kernel) | decide +kernel) (fun v_40 hv_41 => ?_)
  have e_42 := mp_xs_same hv_15 hv_41 (by first | exact e_39.trans e_13.symm | omega)
  subst e_42
  show mp_W E X 4 1286 [(3, .int i), (2, .ref q2), (1, .ref q1), (0, .ref b)] [.int v_14, .int v_9, .int v_4, .ref q2] (A_17 ++ B) k_19 n_20
  refine mp_swap ?_
  refine mp_cm_when hF v_4 v_9 v_14 hB hW hWI (by first | exact mp_fd_ok mp_k_code_ok (by decide +kernel) | decide +kernel) (by omega) (by omega) (Nat.le_of_ble_eq_true rfl) (fun r_43 A_44 l_45 k_46 n_47 hI_48 hr_49 hk_50 hn_51 => ?_)
  refine mp_swap ?_
  show mp_W E X 4 1289 [(3, .int i), (2, .ref q2), (1, .ref q1), (0, .ref b)] [.int r_43] (A_17 ++ A_44) k_46 n_47
  refine mp_run mp_k_code_ok hF mp_tabL_ok [mp_i .pop, mp_h (.goto 928) [2218]] (by decide +kernel) ?_
  refine And.intro rfl ?_
  show mp_W E X 4 2218 [(3, .int i), (2, .ref q2), (1, .ref q1), (0, .ref b)] [] (A_17 ++ A_44) k_46 n_47
  have hl_ : l_18 = l_45 := by omega
  exact kk _ _ _ _ _ _ _ _ _ _ _ _ _ _ _ hSL hW hWI hI_21 (hl_ ▸ hI_48) (by omega) (by omega)
set_option maxHeartbeats 4000000 in
set_option maxRecDepth 100000 in
theorem mp_case_35 {E : mp_E} {X : mp_X} {b L : Nat} {xs : Nat → Int32} (hL : mp_Lw E X b L xs) (h3 : L ≤ 3072) {i : Int32} (hi0 : 0 ≤ i.toInt) (hi6 : i.toInt + 6 ≤ L) {q1 q2 : Nat} {len : Int} {sw sl mw mm : Nat → Int32} {kp : Nat → Bool} {tp : Nat → Int32} {ft fp : Int} {td : mp_TD} {it : Nat → mp_TD} {A B : va_W} {k n : Nat} (hSL : mp_SL sw sl mw mm) (hW : mp_WF td) (hWI : ∀ j : Nat, mp_WF (it j)) (hA : mp_IC E q1 len sw sl kp tp ft fp td it A) (hB : mp_IM E q2 len mw mm kp tp ft fp td it B) (hk : k + 13 ≤ 600000) (hn : n + 204 ≤ 7302250) (kk : ∀ (len2 : Int) (sw2 sl2 mw2 mm2 : Nat → Int32) (kp2 : Nat → Bool) (tp2 : Nat → Int32) (ft2 fp2 : Int) (td2 : mp_TD) (it2 : Nat → mp_TD) (A2 B2 : va_W) (k2 n2 : Nat), mp_SL sw2 sl2 mw2 mm2 → mp_WF td2 → (∀ j : Nat, mp_WF (it2 j)) → mp_IC E q1 len2 sw2 sl2 kp2 tp2 ft2 fp2 td2 it2 A2 → mp_IM E q2 len2 mw2 mm2 kp2 tp2 ft2 fp2 td2 it2 B2 → k2 ≤ k + 13 → n2 ≤ n + 204 → mp_W E X 4 2218 [(3, .int i), (2, .ref q2), (1, .ref q1), (0, .ref b)] [] (A2 ++ B2) k2 n2) : mp_W E X 4 1293 [(3, .int i), (2, .ref q2), (1, .ref q1), (0, .ref b)] [] (A ++ B) k n := by
  have hF : mp_F E X mp_ML := hL.1
  show mp_W E X 4 1293 [(3, .int i), (2, .ref q2), (1, .ref q1), (0, .ref b)] [] (A ++ B) k n
  refine mp_run mp_k_code_ok hF mp_tabL_ok [mp_i (.aload_n 1), mp_i (.aload_n 0), mp_i (.iload_n 3), mp_c (.iconst 1) 1, mp_i .iadd] (by decide +kernel) ?_
  intro z_1 h_2
  have e_3 : z_1.toInt = i.toInt + 1 := mp_add (a := i.toInt) (b := 1) h_2 rfl (by decide) (by first | exact mp_cwa1 hi0 | omega) (by first | exact mp_cwb1 h3 hi6 | omega)
  show mp_W E X 4 1298 [(3, .int i), (2, .ref q2), (1, .ref q1), (0, .ref b)] [.int z_1, .ref b, .ref q1] (A ++ B) k n
  refine mp_lsld hL (by first | exact mp_cwc1 hi0 e_3 | omega) (by first | exact mp_cwd1 hi6 e_3 | omega) (by first | exact mp_fd_ok mp_k_code_ok (by decide +kernel) | decide +kernel) (fun v_4 hv_5 => ?_)
  show mp_W E X 4 1299 [(3, .int i), (2, .ref q2), (1, .ref q1), (0, .ref b)] [.int v_4, .ref q1] (A ++ B) k n
  refine mp_run mp_k_code_ok hF mp_tabL_ok [mp_i (.aload_n 0), mp_i (.iload_n 3), mp_c (.iconst 2) 2, mp_i .iadd] (by decide +kernel) ?_
  intro z_6 h_7
  have e_8 : z_6.toInt = i.toInt + 2 := mp_add (a := i.toInt) (b := 2) h_7 rfl (by decide) (by first | exact mp_cwa2 hi0 | omega) (by first | exact mp_cwb2 h3 hi6 | omega)
  show mp_W E X 4 1303 [(3, .int i), (2, .ref q2), (1, .ref q1), (0, .ref b)] [.int z_6, .ref b, .int v_4, .ref q1] (A ++ B) k n
  refine mp_lsld hL (by first | exact mp_cwc2 hi0 e_8 | omega) (by first | exact mp_cwd2 hi6 e_8 | omega) (by first | exact mp_fd_ok mp_k_code_ok (by decide +kernel) | decide +kernel) (fun v_9 hv_10 => ?_)
  show mp_W E X 4 1304 [(3, .int i), (2, .ref q2), (1, .ref q1), (0, .ref b)] [.int v_9, .int v_4, .ref q1] (A ++ B) k n
  refine mp_cc_joins hF v_4 v_9 hA hW hWI (by first | exact mp_fd_ok mp_k_code_ok (by decide +kernel) | decide +kernel) (by omega) (by omega) (Nat.le_of_ble_eq_true rfl) (fun r_11 A_12 l_13 k_14 n_15 hI_16 hr_17 hk_18 hn_19 => ?_)
  show mp_W E X 4 1307 [(3, .int i), (2, .ref q2), (1, .ref q1), (0, .ref b)] [.int r_11] (A_12 ++ B) k_14 n_15
  refine mp_run mp_k_code_ok hF mp_tabL_ok [mp_i .pop, mp_i (.aload_n 2), mp_i (.aload_n 0), mp_i (.iload_n 3), mp_c (.iconst 1) 1, mp_i .iadd] (by decide +kernel) ?_
  refine And.intro rfl ?_
  intro z_20 h_21
  have e_22 : z_20.toInt = i.toInt + 1 := mp_add (a := i.toInt) (b := 1) h_21 rfl (by decide) (by first | exact mp_cwa1 hi0 | omega) (by first | exact mp_cwb1 h3 hi6 | omega)
  show mp_W E X 4 1313 [(3, .int i), (2, .ref q2), (1, .ref q1), (0, .ref b)] [.int z_20, .ref b, .ref q2] (A_12 ++ B) k_14 n_15
  refine mp_lsld hL (by first | exact mp_cwc1 hi0 e_22 | omega) (by first | exact mp_cwd1 hi6 e_22 | omega) (by first | exact mp_fd_ok mp_k_code_ok (by decide +kernel) | decide +kernel) (fun v_23 hv_24 => ?_)
  have e_25 := mp_xs_same hv_5 hv_24 (by first | exact e_22.trans e_3.symm | omega)
  subst e_25
  show mp_W E X 4 1314 [(3, .int i), (2, .ref q2), (1, .ref q1), (0, .ref b)] [.int v_4, .ref q2] (A_12 ++ B) k_14 n_15
  refine mp_run mp_k_code_ok hF mp_tabL_ok [mp_i (.aload_n 0), mp_i (.iload_n 3), mp_c (.iconst 2) 2, mp_i .iadd] (by decide +kernel) ?_
  intro z_26 h_27
  have e_28 : z_26.toInt = i.toInt + 2 := mp_add (a := i.toInt) (b := 2) h_27 rfl (by decide) (by first | exact mp_cwa2 hi0 | omega) (by first | exact mp_cwb2 h3 hi6 | omega)
  show mp_W E X 4 1318 [(3, .int i), (2, .ref q2), (1, .ref q1), (0, .ref b)] [.int z_26, .ref b, .int v_4, .ref q2] (A_12 ++ B) k_14 n_15
  refine mp_lsld hL (by first | exact mp_cwc2 hi0 e_28 | omega) (by first | exact mp_cwd2 hi6 e_28 | omega) (by first | exact mp_fd_ok mp_k_code_ok (by decide +kernel) | decide +kernel) (fun v_29 hv_30 => ?_)
  have e_31 := mp_xs_same hv_10 hv_30 (by first | exact e_28.trans e_8.symm | omega)
  subst e_31
  show mp_W E X 4 1319 [(3, .int i), (2, .ref q2), (1, .ref q1), (0, .ref b)] [.int v_9, .int v_4, .ref q2] (A_12 ++ B) k_14 n_15
  refine mp_swap ?_
  refine mp_cm_joins hF v_4 v_9 hB hW hWI (by first | exact mp_fd_ok mp_k_code_ok (by decide +kernel) | decide +kernel) (by omega) (by omega) (Nat.le_of_ble_eq_true rfl) (fun r_32 A_33 l_34 k_35 n_36 hI_37 hr_38 hk_39 hn_40 => ?_)
  refine mp_swap ?_
  show mp_W E X 4 1322 [(3, .int i), (2, .ref q2), (1, .ref q1), (0, .ref b)] [.int r_32] (A_12 ++ A_33) k_35 n_36
  refine mp_run mp_k_code_ok hF mp_tabL_ok [mp_i .pop, mp_h (.goto 895) [2218]] (by decide +kernel) ?_
  refine And.intro rfl ?_
  show mp_W E X 4 2218 [(3, .int i), (2, .ref q2), (1, .ref q1), (0, .ref b)] [] (A_12 ++ A_33) k_35 n_36
  have hl_ : l_13 = l_34 := by omega
  exact kk _ _ _ _ _ _ _ _ _ _ _ _ _ _ _ hSL hW hWI hI_16 (hl_ ▸ hI_37) (by omega) (by omega)
set_option maxHeartbeats 4000000 in
set_option maxRecDepth 100000 in
theorem mp_case_36 {E : mp_E} {X : mp_X} {b L : Nat} {xs : Nat → Int32} (hL : mp_Lw E X b L xs) (h3 : L ≤ 3072) {i : Int32} (hi0 : 0 ≤ i.toInt) (hi6 : i.toInt + 6 ≤ L) {q1 q2 : Nat} {len : Int} {sw sl mw mm : Nat → Int32} {kp : Nat → Bool} {tp : Nat → Int32} {ft fp : Int} {td : mp_TD} {it : Nat → mp_TD} {A B : va_W} {k n : Nat} (hSL : mp_SL sw sl mw mm) (hW : mp_WF td) (hWI : ∀ j : Nat, mp_WF (it j)) (hA : mp_IC E q1 len sw sl kp tp ft fp td it A) (hB : mp_IM E q2 len mw mm kp tp ft fp td it B) (hk : k + 13 ≤ 600000) (hn : n + 204 ≤ 7302250) (kk : ∀ (len2 : Int) (sw2 sl2 mw2 mm2 : Nat → Int32) (kp2 : Nat → Bool) (tp2 : Nat → Int32) (ft2 fp2 : Int) (td2 : mp_TD) (it2 : Nat → mp_TD) (A2 B2 : va_W) (k2 n2 : Nat), mp_SL sw2 sl2 mw2 mm2 → mp_WF td2 → (∀ j : Nat, mp_WF (it2 j)) → mp_IC E q1 len2 sw2 sl2 kp2 tp2 ft2 fp2 td2 it2 A2 → mp_IM E q2 len2 mw2 mm2 kp2 tp2 ft2 fp2 td2 it2 B2 → k2 ≤ k + 13 → n2 ≤ n + 204 → mp_W E X 4 2218 [(3, .int i), (2, .ref q2), (1, .ref q1), (0, .ref b)] [] (A2 ++ B2) k2 n2) : mp_W E X 4 1326 [(3, .int i), (2, .ref q2), (1, .ref q1), (0, .ref b)] [] (A ++ B) k n := by
  have hF : mp_F E X mp_ML := hL.1
  show mp_W E X 4 1326 [(3, .int i), (2, .ref q2), (1, .ref q1), (0, .ref b)] [] (A ++ B) k n
  refine mp_run mp_k_code_ok hF mp_tabL_ok [mp_i (.aload_n 1)] (by decide +kernel) ?_
  show mp_W E X 4 1327 [(3, .int i), (2, .ref q2), (1, .ref q1), (0, .ref b)] [.ref q1] (A ++ B) k n
  refine mp_cc_joined hF  hA hW hWI (by first | exact mp_fd_ok mp_k_code_ok (by decide +kernel) | decide +kernel) (by omega) (by omega) (Nat.le_of_ble_eq_true rfl) (fun r_1 A_2 l_3 k_4 n_5 hI_6 hr_7 hk_8 hn_9 => ?_)
  show mp_W E X 4 1330 [(3, .int i), (2, .ref q2), (1, .ref q1), (0, .ref b)] [.int r_1] (A_2 ++ B) k_4 n_5
  refine mp_run mp_k_code_ok hF mp_tabL_ok [mp_i .pop, mp_i (.aload_n 2)] (by decide +kernel) ?_
  refine And.intro rfl ?_
  show mp_W E X 4 1332 [(3, .int i), (2, .ref q2), (1, .ref q1), (0, .ref b)] [.ref q2] (A_2 ++ B) k_4 n_5
  refine mp_swap ?_
  refine mp_cm_joined hF  hB hW hWI (by first | exact mp_fd_ok mp_k_code_ok (by decide +kernel) | decide +kernel) (by omega) (by omega) (Nat.le_of_ble_eq_true rfl) (fun r_10 A_11 l_12 k_13 n_14 hI_15 hr_16 hk_17 hn_18 => ?_)
  refine mp_swap ?_
  show mp_W E X 4 1335 [(3, .int i), (2, .ref q2), (1, .ref q1), (0, .ref b)] [.int r_10] (A_2 ++ A_11) k_13 n_14
  refine mp_run mp_k_code_ok hF mp_tabL_ok [mp_i .pop, mp_h (.goto 882) [2218]] (by decide +kernel) ?_
  refine And.intro rfl ?_
  show mp_W E X 4 2218 [(3, .int i), (2, .ref q2), (1, .ref q1), (0, .ref b)] [] (A_2 ++ A_11) k_13 n_14
  have hl_ : l_3 = l_12 := by omega
  exact kk _ _ _ _ _ _ _ _ _ _ _ _ _ _ _ hSL hW hWI hI_6 (hl_ ▸ hI_15) (by omega) (by omega)
set_option maxHeartbeats 4000000 in
set_option maxRecDepth 100000 in
theorem mp_case_37 {E : mp_E} {X : mp_X} {b L : Nat} {xs : Nat → Int32} (hL : mp_Lw E X b L xs) (h3 : L ≤ 3072) {i : Int32} (hi0 : 0 ≤ i.toInt) (hi6 : i.toInt + 6 ≤ L) {q1 q2 : Nat} {len : Int} {sw sl mw mm : Nat → Int32} {kp : Nat → Bool} {tp : Nat → Int32} {ft fp : Int} {td : mp_TD} {it : Nat → mp_TD} {A B : va_W} {k n : Nat} (hSL : mp_SL sw sl mw mm) (hW : mp_WF td) (hWI : ∀ j : Nat, mp_WF (it j)) (hA : mp_IC E q1 len sw sl kp tp ft fp td it A) (hB : mp_IM E q2 len mw mm kp tp ft fp td it B) (hk : k + 13 ≤ 600000) (hn : n + 204 ≤ 7302250) (kk : ∀ (len2 : Int) (sw2 sl2 mw2 mm2 : Nat → Int32) (kp2 : Nat → Bool) (tp2 : Nat → Int32) (ft2 fp2 : Int) (td2 : mp_TD) (it2 : Nat → mp_TD) (A2 B2 : va_W) (k2 n2 : Nat), mp_SL sw2 sl2 mw2 mm2 → mp_WF td2 → (∀ j : Nat, mp_WF (it2 j)) → mp_IC E q1 len2 sw2 sl2 kp2 tp2 ft2 fp2 td2 it2 A2 → mp_IM E q2 len2 mw2 mm2 kp2 tp2 ft2 fp2 td2 it2 B2 → k2 ≤ k + 13 → n2 ≤ n + 204 → mp_W E X 4 2218 [(3, .int i), (2, .ref q2), (1, .ref q1), (0, .ref b)] [] (A2 ++ B2) k2 n2) : mp_W E X 4 1339 [(3, .int i), (2, .ref q2), (1, .ref q1), (0, .ref b)] [] (A ++ B) k n := by
  have hF : mp_F E X mp_ML := hL.1
  show mp_W E X 4 1339 [(3, .int i), (2, .ref q2), (1, .ref q1), (0, .ref b)] [] (A ++ B) k n
  refine mp_run mp_k_code_ok hF mp_tabL_ok [mp_i (.aload_n 1), mp_i (.aload_n 0), mp_i (.iload_n 3), mp_c (.iconst 1) 1, mp_i .iadd] (by decide +kernel) ?_
  intro z_1 h_2
  have e_3 : z_1.toInt = i.toInt + 1 := mp_add (a := i.toInt) (b := 1) h_2 rfl (by decide) (by first | exact mp_cwa1 hi0 | omega) (by first | exact mp_cwb1 h3 hi6 | omega)
  show mp_W E X 4 1344 [(3, .int i), (2, .ref q2), (1, .ref q1), (0, .ref b)] [.int z_1, .ref b, .ref q1] (A ++ B) k n
  refine mp_lsld hL (by first | exact mp_cwc1 hi0 e_3 | omega) (by first | exact mp_cwd1 hi6 e_3 | omega) (by first | exact mp_fd_ok mp_k_code_ok (by decide +kernel) | decide +kernel) (fun v_4 hv_5 => ?_)
  show mp_W E X 4 1345 [(3, .int i), (2, .ref q2), (1, .ref q1), (0, .ref b)] [.int v_4, .ref q1] (A ++ B) k n
  refine mp_cc_ring hF v_4 hA hW hWI (by first | exact mp_fd_ok mp_k_code_ok (by decide +kernel) | decide +kernel) (by omega) (by omega) (Nat.le_of_ble_eq_true rfl) (fun r_6 A_7 l_8 k_9 n_10 hI_11 hr_12 hk_13 hn_14 => ?_)
  show mp_W E X 4 1348 [(3, .int i), (2, .ref q2), (1, .ref q1), (0, .ref b)] [.int r_6] (A_7 ++ B) k_9 n_10
  refine mp_run mp_k_code_ok hF mp_tabL_ok [mp_i .pop, mp_i (.aload_n 2), mp_i (.aload_n 0), mp_i (.iload_n 3), mp_c (.iconst 1) 1, mp_i .iadd] (by decide +kernel) ?_
  refine And.intro rfl ?_
  intro z_15 h_16
  have e_17 : z_15.toInt = i.toInt + 1 := mp_add (a := i.toInt) (b := 1) h_16 rfl (by decide) (by first | exact mp_cwa1 hi0 | omega) (by first | exact mp_cwb1 h3 hi6 | omega)
  show mp_W E X 4 1354 [(3, .int i), (2, .ref q2), (1, .ref q1), (0, .ref b)] [.int z_15, .ref b, .ref q2] (A_7 ++ B) k_9 n_10
  refine mp_lsld hL (by first | exact mp_cwc1 hi0 e_17 | omega) (by first | exact mp_cwd1 hi6 e_17 | omega) (by first | exact mp_fd_ok mp_k_code_ok (by decide +kernel) | decide +kernel) (fun v_18 hv_19 => ?_)
  have e_20 := mp_xs_same hv_5 hv_19 (by first | exact e_17.trans e_3.symm | omega)
  subst e_20
  show mp_W E X 4 1355 [(3, .int i), (2, .ref q2), (1, .ref q1), (0, .ref b)] [.int v_4, .ref q2] (A_7 ++ B) k_9 n_10
  refine mp_swap ?_
  refine mp_cm_ring hF v_4 hB hW hWI (by first | exact mp_fd_ok mp_k_code_ok (by decide +kernel) | decide +kernel) (by omega) (by omega) (Nat.le_of_ble_eq_true rfl) (fun r_21 A_22 l_23 k_24 n_25 hI_26 hr_27 hk_28 hn_29 => ?_)
  refine mp_swap ?_
  show mp_W E X 4 1358 [(3, .int i), (2, .ref q2), (1, .ref q1), (0, .ref b)] [.int r_21] (A_7 ++ A_22) k_24 n_25
  refine mp_run mp_k_code_ok hF mp_tabL_ok [mp_i .pop, mp_h (.goto 859) [2218]] (by decide +kernel) ?_
  refine And.intro rfl ?_
  show mp_W E X 4 2218 [(3, .int i), (2, .ref q2), (1, .ref q1), (0, .ref b)] [] (A_7 ++ A_22) k_24 n_25
  have hl_ : l_8 = l_23 := by omega
  exact kk _ _ _ _ _ _ _ _ _ _ _ _ _ _ _ hSL hW hWI hI_11 (hl_ ▸ hI_26) (by omega) (by omega)
