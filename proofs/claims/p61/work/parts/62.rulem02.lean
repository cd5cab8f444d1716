set_option maxHeartbeats 4000000 in
set_option maxRecDepth 100000 in
theorem mp_cm_image {E : mp_E} {X : mp_X} (hF : mp_F E X mp_ML) {pc : Nat} {lv : List (Nat × Value)} {rest : List Value} {A B : va_W} {k n q2 : Nat} {len : Int} {sw : Nat → Int32} {sl : Nat → Int32} {kp : Nat → Bool} {tp : Nat → Int32} {ft : Int} {fp : Int} {td : mp_TD} {it : Nat → mp_TD} (x0 : Int32) (hI : mp_IM E q2 len sw sl kp tp ft fp td it A) (hW : mp_WF td) (hWI : ∀ j : Nat, mp_WF (it j)) (hdg : decode code pc = .ok (.invokevirtual 243, 3)) (hk : k + 0 ≤ 600000) (hn : n + 0 ≤ 7302250) (hcat : (rest.map (fun v => v.category)).sum ≤ 8) (kk : ∀ (r : Int32) (A2 : va_W) (len2 : Int)  (k2 n2 : Nat), mp_IM E q2 len2 sw sl (mp_kpF kp x0.toInt) tp ft fp td (mp_itF it td x0.toInt) A2 → (len2 = len ∧ r.toInt = mp_imgG x0.toInt) → k2 ≤ k + 0 → n2 ≤ n + 0 → mp_W E X 4 (pc + 3) lv (.int r :: rest) (A2 ++ B) k2 n2) : mp_W E X 4 pc lv (.int x0 :: .ref q2 :: rest) (A ++ B) k n := by
  refine hI (fun len sw sl kp tp ft fp td it A => mp_WF td → (∀ j : Nat, mp_WF (it j)) → (∀ (r : Int32) (A2 : va_W) (len2 : Int)  (k2 n2 : Nat), mp_IM E q2 len2 sw sl (mp_kpF kp x0.toInt) tp ft fp td (mp_itF it td x0.toInt) A2 → (len2 = len ∧ r.toInt = mp_imgG x0.toInt) → k2 ≤ k + 0 → n2 ≤ n + 0 → mp_W E X 4 (pc + 3) lv (.int r :: rest) (A2 ++ B) k2 n2) → mp_W E X 4 pc lv (.int x0 :: .ref q2 :: rest) (A ++ B) k n) ?_ hW hWI kk
  intro m ui0 ui1 ui2 ui3 ui4 ui5 ui6 ui7 ui8 ui9 ui10 ui11 ui12 ui13 ui14 ui15 ui16 ui17 ui18 ui19 ui20 ui21 uf22 uf23 uf24 uf25 uf26 uf27 uf28 uf29 uf30 uf31 uf32 uf33 uf34 uf35 uf36 uf37 uf38 uf39 uf40 uf41 uf42 uf43 uf44 uf45 uf46 kp td it l_ui1 u_ui1 l_ui2 u_ui2 l_ui3 u_ui3 l_ui4 u_ui4 l_ui11 u_ui11 l_ui12 u_ui12 l_ui13 u_ui13 up24_0 up29_0 up29_1 up29_2 up29_3 up29_4 up30_0 up31_0 up32_0 up32_1 up33_0 up33_1 up33_2 up33_3 up34_0 up36_0 hMI hkp hRT hTI hW hWI kk
  have hR := mp_MR_0 (hMI 0 (by decide))
  have hprm := hR.1
  have htin := hR.2
  refine mp_callVM (As := [.int x0]) (rest := rest) (T := B) [true, false, false, false, false, false, true, true, true, true, true, true, true, true, false, false, false, false, false, false, false, false, false, false, false, false] hF (bX10_image_181 E q2 (m 6) (m 7) (m 8) (m 9) (m 10) (m 11) (m 12) (m 13) (m 1) (m 2) (m 3) (m 4) (m 5) (m 14) (m 15) (m 16) (m 17) (m 18) (m 19) (m 20) (m 21) (m 22) (m 23) (m 24) (m 25) uf27 uf28 uf29 uf30 uf31 uf32 uf33 uf34 ui0 ui1 ui2 ui3 ui4 ui5 ui6 ui7 ui8 ui9 ui10 ui11 ui12 ui13 ui14 ui15 ui16 ui17 ui18 ui19 ui20 ui21 x0 up29_0 up29_1 up29_2 up29_3 up29_4 up30_0 up31_0 up32_0 up32_1 up33_0 up33_1 up33_2 up33_3 up34_0 l_ui1 u_ui1 l_ui2 u_ui2 l_ui3 u_ui3 l_ui4 u_ui4 l_ui11 u_ui11 l_ui12 u_ui12 l_ui13 u_ui13) mp_lkL_243 rfl rfl ⟨(Nat.le_of_ble_eq_true rfl), (Nat.le_of_ble_eq_true rfl), (by first | exact hk | (show k + _ ≤ 600000; omega)), (by first | exact hn | (show n + _ ≤ 7302250; omega))⟩ hcat hdg (fun v_ w_ hp_ => ?_)
  refine hp_.elim (fun q_32 => ?_) (fun q_33 => ?_)
  · skip
    refine q_32.elim fun e_34 q_35 => q_35.elim fun x_1 e_36 => ?_
    clear hp_ q_32 q_35
    subst e_34
    subst e_36
    rw [mp_kpF_n (kp := kp) x_1, mp_itF_n (t := td) (it := it) x_1] at kk
    refine mp_mgT [true, false, false, false, false, false, true, true, true, true, true, true, true, true, false, false, false, false, false, false, false, false, false, false, false, false] ?_
    exact kk _ _ _ _ _ (fun C_ h_ => h_ m 0 ui1 ui2 ui3 ui4 ui5 ui6 ui7 ui8 ui9 ui10 ui11 ui12 ui13 ui14 ui15 ui16 ui17 ui18 ui19 ui20 ui21 uf22 uf23 uf24 uf25 uf26 uf27 uf28 uf29 uf30 uf31 uf32 uf33 uf34 uf35 uf36 uf37 uf38 uf39 uf40 uf41 uf42 uf43 uf44 uf45 uf46 kp td it l_ui1 u_ui1 l_ui2 u_ui2 l_ui3 u_ui3 l_ui4 u_ui4 l_ui11 u_ui11 l_ui12 u_ui12 l_ui13 u_ui13 up24_0 up29_0 up29_1 up29_2 up29_3 up29_4 up30_0 up31_0 up32_0 up32_1 up33_0 up33_1 up33_2 up33_3 up34_0 up36_0 hMI hkp hRT hTI) ⟨rfl, (mp_img_G (Or.inl ⟨x_1, by decide⟩))⟩ (by first | exact Nat.le_refl _ | omega) (by first | exact Nat.le_refl _ | omega)
  · skip
    refine q_33.elim fun g_2 q_37 => q_37.elim fun g_3 q_38 => q_38.elim fun g_4 q_39 => q_39.elim fun g_5 q_40 => q_40.elim fun g_6 q_41 => q_41.elim fun g_7 q_42 => q_42.elim fun g_8 q_43 => q_43.elim fun g_9 q_44 => q_44.elim fun e_45 q_46 => q_46.elim fun c_10 q_47 => q_47.elim fun c_11 q_48 => q_48.elim fun p_12 q_49 => q_49.elim fun p_13 q_50 => q_50.elim fun p_14 q_51 => q_51.elim fun p_15 q_52 => q_52.elim fun p_16 q_53 => q_53.elim fun p_17 q_54 => q_54.elim fun p_18 q_55 => q_55.elim fun p_19 q_56 => q_56.elim fun p_20 q_57 => q_57.elim fun p_21 q_58 => q_58.elim fun p_22 q_59 => q_59.elim fun p_23 q_60 => q_60.elim fun p_24 q_61 => q_61.elim fun p_25 q_62 => q_62.elim fun x_26 q_63 => q_63.elim fun x_27 q_64 => q_64.elim fun x_28 q_65 => q_65.elim fun x_29 q_66 => q_66.elim fun x_30 q_67 => q_67.elim fun x_31 e_68 => ?_
    clear hp_ q_33 q_37 q_38 q_39 q_40 q_41 q_42 q_43 q_44 q_46 q_47 q_48 q_49 q_50 q_51 q_52 q_53 q_54 q_55 q_56 q_57 q_58 q_59 q_60 q_61 q_62 q_63 q_64 q_65 q_66 q_67
    subst e_45
    subst e_68
    have c_10 : 0 ≤ x0.toInt := c_10
    have c_11 : x0.toInt ≤ 2 := c_11
    refine mp_mgT [true, false, false, false, false, false, true, true, true, true, true, true, true, true, false, false, false, false, false, false, false, false, false, false, false, false] ?_
    exact kk _ _ _ _ _ (fun C_ h_ => h_ m 0 ui1 ui2 ui3 ui4 ui5 ui6 ui7 ui8 ui9 ui10 ui11 ui12 ui13 ui14 ui15 ui16 ui17 ui18 ui19 ui20 ui21 uf22 uf23 uf24 uf25 uf26 g_2 g_3 g_4 g_5 g_6 g_7 g_8 g_9 uf35 uf36 uf37 uf38 uf39 uf40 uf41 uf42 uf43 uf44 uf45 uf46 _ td _ l_ui1 u_ui1 l_ui2 u_ui2 l_ui3 u_ui3 l_ui4 u_ui4 l_ui11 u_ui11 l_ui12 u_ui12 l_ui13 u_ui13 up24_0 p_12 p_13 p_14 p_15 p_16 p_17 p_18 p_19 p_20 p_21 p_22 p_23 p_24 p_25 up36_0 (mp_MI_cp 0 (1 + x0.toInt.toNat) hMI up29_3 up29_4 x_26 x_27 x_28 (by decide) (by omega) ⟨by omega, by omega, by omega, by omega, by omega, by omega⟩) (mp_kpF_m x_31 hkp x_30) (mp_r0_img hRT hW x_29 (by omega)) (mp_TI_img hTI hWI hRT hW x_29 x_30)) ⟨rfl, (mp_img_G (Or.inr ⟨x_30, by decide⟩))⟩ (by first | exact Nat.le_refl _ | omega) (by first | exact Nat.le_refl _ | omega)
set_option maxHeartbeats 4000000 in
set_option maxRecDepth 100000 in
theorem mp_cm_back {E : mp_E} {X : mp_X} (hF : mp_F E X mp_ML) {pc : Nat} {lv : List (Nat × Value)} {rest : List Value} {A B : va_W} {k n q2 : Nat} {len : Int} {sw : Nat → Int32} {sl : Nat → Int32} {kp : Nat → Bool} {tp : Nat → Int32} {ft : Int} {fp : Int} {td : mp_TD} {it : Nat → mp_TD} (x0 : Int32) (hI : mp_IM E q2 len sw sl kp tp ft fp td it A) (hW : mp_WF td) (hWI : ∀ j : Nat, mp_WF (it j)) (hdg : decode code pc = .ok (.invokevirtual 247, 3)) (hk : k + 0 ≤ 600000) (hn : n + 0 ≤ 7302250) (hcat : (rest.map (fun v => v.category)).sum ≤ 8) (kk : ∀ (r : Int32) (A2 : va_W) (len2 : Int)  (k2 n2 : Nat), mp_IM E q2 len2 sw sl kp tp ft fp (mp_bckF td it kp x0.toInt) it A2 → (len2 = len ∧ r.toInt = mp_bckG kp x0.toInt) → k2 ≤ k + 0 → n2 ≤ n + 0 → mp_W E X 4 (pc + 3) lv (.int r :: rest) (A2 ++ B) k2 n2) : mp_W E X 4 pc lv (.int x0 :: .ref q2 :: rest) (A ++ B) k n := by
  refine hI (fun len sw sl kp tp ft fp td it A => mp_WF td → (∀ j : Nat, mp_WF (it j)) → (∀ (r : Int32) (A2 : va_W) (len2 : Int)  (k2 n2 : Nat), mp_IM E q2 len2 sw sl kp tp ft fp (mp_bckF td it kp x0.toInt) it A2 → (len2 = len ∧ r.toInt = mp_bckG kp x0.toInt) → k2 ≤ k + 0 → n2 ≤ n + 0 → mp_W E X 4 (pc + 3) lv (.int r :: rest) (A2 ++ B) k2 n2) → mp_W E X 4 pc lv (.int x0 :: .ref q2 :: rest) (A ++ B) k n) ?_ hW hWI kk
  intro m ui0 ui1 ui2 ui3 ui4 ui5 ui6 ui7 ui8 ui9 ui10 ui11 ui12 ui13 ui14 ui15 ui16 ui17 ui18 ui19 ui20 ui21 uf22 uf23 uf24 uf25 uf26 uf27 uf28 uf29 uf30 uf31 uf32 uf33 uf34 uf35 uf36 uf37 uf38 uf39 uf40 uf41 uf42 uf43 uf44 uf45 uf46 kp td it l_ui1 u_ui1 l_ui2 u_ui2 l_ui3 u_ui3 l_ui4 u_ui4 l_ui11 u_ui11 l_ui12 u_ui12 l_ui13 u_ui13 up24_0 up29_0 up29_1 up29_2 up29_3 up29_4 up30_0 up31_0 up32_0 up32_1 up33_0 up33_1 up33_2 up33_3 up34_0 up36_0 hMI hkp hRT hTI hW hWI kk
  have hR := mp_MR_0 (hMI 0 (by decide))
  have hprm := hR.1
  have htin := hR.2
  refine mp_callVM (As := [.int x0]) (rest := rest) (T := B) [true, false, false, false, false, false, true, true, true, true, true, true, true, true, false, false, false, false, false, false, false, false, false, false, false, false] hF (bX10_back_203 E q2 (m 6) (m 7) (m 8) (m 9) (m 10) (m 11) (m 12) (m 13) (m 1) (m 2) (m 3) (m 4) (m 5) (m 14) (m 15) (m 16) (m 17) (m 18) (m 19) (m 20) (m 21) (m 22) (m 23) (m 24) (m 25) uf27 uf28 uf29 uf30 uf31 uf32 uf33 uf34 ui0 ui1 ui2 ui3 ui4 ui5 ui6 ui7 ui8 ui9 ui10 ui11 ui12 ui13 ui14 ui15 ui16 ui17 ui18 ui19 ui20 ui21 x0 up29_0 up29_1 up29_2 up29_3 up29_4 up30_0 up31_0 up32_0 up32_1 up33_0 up33_1 up33_2 up33_3 up34_0 l_ui1 u_ui1 l_ui2 u_ui2 l_ui3 u_ui3 l_ui4 u_ui4 l_ui11 u_ui11 l_ui12 u_ui12 l_ui13 u_ui13) mp_lkL_247 rfl rfl ⟨(Nat.le_of_ble_eq_true rfl), (Nat.le_of_ble_eq_true rfl), (by first | exact hk | (show k + _ ≤ 600000; omega)), (by first | exact hn | (show n + _ ≤ 7302250; omega))⟩ hcat hdg (fun v_ w_ hp_ => ?_)
  refine hp_.elim (fun q_33 => ?_) (fun q_34 => q_34.elim (fun q_35 => ?_) (fun q_36 => ?_))
  · skip
    refine q_33.elim fun e_37 q_38 => q_38.elim fun x_1 e_39 => ?_
    clear hp_ q_33 q_38
    subst e_37
    subst e_39
    rw [mp_bckF_n (t := td) (it := it) (kp := kp) (Or.inl x_1)] at kk
    refine mp_mgT [true, false, false, false, false, false, true, true, true, true, true, true, true, true, false, false, false, false, false, false, false, false, false, false, false, false] ?_
    exact kk _ _ _ _ _ (fun C_ h_ => h_ m 0 ui1 ui2 ui3 ui4 ui5 ui6 ui7 ui8 ui9 ui10 ui11 ui12 ui13 ui14 ui15 ui16 ui17 ui18 ui19 ui20 ui21 uf22 uf23 uf24 uf25 uf26 uf27 uf28 uf29 uf30 uf31 uf32 uf33 uf34 uf35 uf36 uf37 uf38 uf39 uf40 uf41 uf42 uf43 uf44 uf45 uf46 kp td it l_ui1 u_ui1 l_ui2 u_ui2 l_ui3 u_ui3 l_ui4 u_ui4 l_ui11 u_ui11 l_ui12 u_ui12 l_ui13 u_ui13 up24_0 up29_0 up29_1 up29_2 up29_3 up29_4 up30_0 up31_0 up32_0 up32_1 up33_0 up33_1 up33_2 up33_3 up34_0 up36_0 hMI hkp hRT hTI) ⟨rfl, (mp_bck_G (Or.inl ⟨x_1, by decide⟩))⟩ (by first | exact Nat.le_refl _ | omega) (by first | exact Nat.le_refl _ | omega)
  · skip
    refine q_35.elim fun g_2 q_40 => q_40.elim fun g_3 q_41 => q_41.elim fun g_4 q_42 => q_42.elim fun g_5 q_43 => q_43.elim fun g_6 q_44 => q_44.elim fun g_7 q_45 => q_45.elim fun g_8 q_46 => q_46.elim fun e_47 q_48 => q_48.elim fun c_9 q_49 => q_49.elim fun c_10 q_50 => q_50.elim fun p_11 q_51 => q_51.elim fun p_12 q_52 => q_52.elim fun p_13 q_53 => q_53.elim fun p_14 q_54 => q_54.elim fun p_15 q_55 => q_55.elim fun p_16 q_56 => q_56.elim fun p_17 q_57 => q_57.elim fun p_18 q_58 => q_58.elim fun p_19 q_59 => q_59.elim fun p_20 q_60 => q_60.elim fun p_21 q_61 => q_61.elim fun p_22 q_62 => q_62.elim fun p_23 q_63 => q_63.elim fun p_24 q_64 => q_64.elim fun x_25 q_65 => q_65.elim fun x_26 q_66 => q_66.elim fun x_27 q_67 => q_67.elim fun x_28 q_68 => q_68.elim fun x_29 e_69 => ?_
    clear hp_ q_34 q_35 q_40 q_41 q_42 q_43 q_44 q_45 q_46 q_48 q_49 q_50 q_51 q_52 q_53 q_54 q_55 q_56 q_57 q_58 q_59 q_60 q_61 q_62 q_63 q_64 q_65 q_66 q_67 q_68
    subst e_47
    subst e_69
    have c_9 : 0 ≤ x0.toInt := c_9
    have c_10 : x0.toInt ≤ 2 := c_10
    have hq9 : kp x0.toInt.toNat = true := (hkp _ (by omega)).trans (decide_eq_true x_29.2.2)
    refine mp_mgT [true, false, false, false, false, false, true, true, true, true, true, true, true, true, false, false, false, false, false, false, false, false, false, false, false, false] ?_
    exact kk _ _ _ _ _ (fun C_ h_ => h_ m 0 ui1 ui2 ui3 ui4 ui5 ui6 ui7 ui8 ui9 ui10 ui11 ui12 ui13 ui14 ui15 ui16 ui17 ui18 ui19 ui20 ui21 uf22 uf23 uf24 uf25 uf26 g_2 g_3 g_4 g_5 g_6 g_7 g_8 uf34 uf35 uf36 uf37 uf38 uf39 uf40 uf41 uf42 uf43 uf44 uf45 uf46 kp (mp_bckF td it kp x0.toInt) it l_ui1 u_ui1 l_ui2 u_ui2 l_ui3 u_ui3 l_ui4 u_ui4 l_ui11 u_ui11 l_ui12 u_ui12 l_ui13 u_ui13 up24_0 p_11 p_12 p_13 p_14 p_15 p_16 p_17 p_18 p_19 p_20 p_21 p_22 p_23 p_24 up36_0 (mp_MI_cp (1 + x0.toInt.toNat) 0 hMI up29_3 up29_4 x_25 x_26 x_27 (by omega) (by decide) ⟨by omega, by omega, by omega, by omega, by omega, by omega⟩) hkp (mp_r0_bck hTI hWI ⟨by omega, by omega⟩ hq9 x_28) (mp_TI_cp0 hTI hWI x_28)) ⟨rfl, (mp_bck_G (Or.inr (Or.inr ⟨⟨by omega, by omega⟩, hq9, by decide⟩)))⟩ (by first | exact Nat.le_refl _ | omega) (by first | exact Nat.le_refl _ | omega)
  · skip
    refine q_36.elim fun e_70 q_71 => q_71.elim fun c_30 q_72 => q_72.elim fun c_31 q_73 => q_73.elim fun x_32 e_74 => ?_
    clear hp_ q_34 q_36 q_71 q_72 q_73
    subst e_70
    subst e_74
    have c_30 : 0 ≤ x0.toInt := c_30
    have c_31 : x0.toInt ≤ 2 := c_31
    have hq9 : kp x0.toInt.toNat = false := (hkp _ (by omega)).trans (decide_eq_false (fun q => q x_32.2.2))
    rw [mp_bckF_n (t := td) (it := it) (kp := kp) (Or.inr hq9)] at kk
    refine mp_mgT [true, false, false, false, false, false, true, true, true, true, true, true, true, true, false, false, false, false, false, false, false, false, false, false, false, false] ?_
    exact kk _ _ _ _ _ (fun C_ h_ => h_ m 0 ui1 ui2 ui3 ui4 ui5 ui6 ui7 ui8 ui9 ui10 ui11 ui12 ui13 ui14 ui15 ui16 ui17 ui18 ui19 ui20 ui21 uf22 uf23 uf24 uf25 uf26 uf27 uf28 uf29 uf30 uf31 uf32 uf33 uf34 uf35 uf36 uf37 uf38 uf39 uf40 uf41 uf42 uf43 uf44 uf45 uf46 kp td it l_ui1 u_ui1 l_ui2 u_ui2 l_ui3 u_ui3 l_ui4 u_ui4 l_ui11 u_ui11 l_ui12 u_ui12 l_ui13 u_ui13 up24_0 up29_0 up29_1 up29_2 up29_3 up29_4 up30_0 up31_0 up32_0 up32_1 up33_0 up33_1 up33_2 up33_3 up34_0 up36_0 hMI hkp hRT hTI) ⟨rfl, (mp_bck_G (Or.inr (Or.inl ⟨⟨by omega, by omega⟩, hq9, by decide⟩)))⟩ (by first | exact Nat.le_refl _ | omega) (by first | exact Nat.le_refl _ | omega)
set_option maxHeartbeats 4000000 in
set_option maxRecDepth 100000 in
theorem mp_cm_row {E : mp_E} {X : mp_X} (hF : mp_F E X mp_ML) {pc : Nat} {lv : List (Nat × Value)} {rest : List Value} {A B : va_W} {k n q2 : Nat} {len : Int} {sw : Nat → Int32} {sl : Nat → Int32} {kp : Nat → Bool} {tp : Nat → Int32} {ft : Int} {fp : Int} {td : mp_TD} {it : Nat → mp_TD} (x0 : Int32) (x1 : Int32) (x2 : Int32) (hI : mp_IM E q2 len sw sl kp tp ft fp td it A) (hW : mp_WF td) (hWI : ∀ j : Nat, mp_WF (it j)) (hdg : decode code pc = .ok (.invokevirtual 251, 3)) (hk : k + 0 ≤ 600000) (hn : n + 0 ≤ 7302250) (hcat : (rest.map (fun v => v.category)).sum ≤ 8) (kk : ∀ (r : Int32) (A2 : va_W) (len2 : Int) (sw2 : Nat → Int32) (sl2 : Nat → Int32) (k2 n2 : Nat), mp_IM E q2 len2 sw2 sl2 kp tp ft fp td it A2 → (len2 = len ∧ mp_rowR r x0 x1 x2 sw sl sw2 sl2) → k2 ≤ k + 0 → n2 ≤ n + 0 → mp_W E X 4 (pc + 3) lv (.int r :: rest) (A2 ++ B) k2 n2) : mp_W E X 4 pc lv (.int x2 :: .int x1 :: .int x0 :: .ref q2 :: rest) (A ++ B) k n := by
  refine hI (fun len sw sl kp tp ft fp td it A => mp_WF td → (∀ j : Nat, mp_WF (it j)) → (∀ (r : Int32) (A2 : va_W) (len2 : Int) (sw2 : Nat → Int32) (sl2 : Nat → Int32) (k2 n2 : Nat), mp_IM E q2 len2 sw2 sl2 kp tp ft fp td it A2 → (len2 = len ∧ mp_rowR r x0 x1 x2 sw sl sw2 sl2) → k2 ≤ k + 0 → n2 ≤ n + 0 → mp_W E X 4 (pc + 3) lv (.int r :: rest) (A2 ++ B) k2 n2) → mp_W E X 4 pc lv (.int x2 :: .int x1 :: .int x0 :: .ref q2 :: rest) (A ++ B) k n) ?_ hW hWI kk
  intro m ui0 ui1 ui2 ui3 ui4 ui5 ui6 ui7 ui8 ui9 ui10 ui11 ui12 ui13 ui14 ui15 ui16 ui17 ui18 ui19 ui20 ui21 uf22 uf23 uf24 uf25 uf26 uf27 uf28 uf29 uf30 uf31 uf32 uf33 uf34 uf35 uf36 uf37 uf38 uf39 uf40 uf41 uf42 uf43 uf44 uf45 uf46 kp td it l_ui1 u_ui1 l_ui2 u_ui2 l_ui3 u_ui3 l_ui4 u_ui4 l_ui11 u_ui11 l_ui12 u_ui12 l_ui13 u_ui13 up24_0 up29_0 up29_1 up29_2 up29_3 up29_4 up30_0 up31_0 up32_0 up32_1 up33_0 up33_1 up33_2 up33_3 up34_0 up36_0 hMI hkp hRT hTI hW hWI kk
  have hR := mp_MR_0 (hMI 0 (by decide))
  have hprm := hR.1
  have htin := hR.2
  refine mp_callVM (As := [.int x0, .int x1, .int x2]) (rest := rest) (T := B) [true, true, true, true, false, false, false, false, false, false, false, false, false, false, false, false, false, false, false, false, false, false, false, false, false, false] hF (bX10_row_2 E q2 (m 1) (m 2) (m 3) (m 4) (m 5) (m 6) (m 7) (m 8) (m 9) (m 10) (m 11) (m 12) (m 13) (m 14) (m 15) (m 16) (m 17) (m 18) (m 19) (m 20) (m 21) (m 22) (m 23) (m 24) (m 25) uf22 uf23 uf24 ui0 ui1 ui2 ui3 ui4 ui5 ui6 ui7 ui8 ui9 ui10 ui11 ui12 ui13 ui14 ui15 ui16 ui17 ui18 ui19 ui20 ui21 x0 x1 x2 up24_0 l_ui1 u_ui1 l_ui2 u_ui2 l_ui3 u_ui3 l_ui4 u_ui4 l_ui11 u_ui11 l_ui12 u_ui12 l_ui13 u_ui13) mp_lkL_251 rfl rfl ⟨(Nat.le_of_ble_eq_true rfl), (Nat.le_of_ble_eq_true rfl), (by first | exact hk | (show k + _ ≤ 600000; omega)), (by first | exact hn | (show n + _ ≤ 7302250; omega))⟩ hcat hdg (fun v_ w_ hp_ => ?_)
  refine hp_.elim (fun q_22 => ?_) (fun q_23 => q_23.elim (fun q_24 => ?_) (fun q_25 => ?_))
  · skip
    refine q_22.elim fun e_26 q_27 => q_27.elim fun x_1 e_28 => ?_
    clear hp_ q_22 q_27
    subst e_26
    subst e_28
    refine mp_mgT [true, true, true, true, false, false, false, false, false, false, false, false, false, false, false, false, false, false, false, false, false, false, false, false, false, false] ?_
    exact kk _ _ _ _ _ _ _ (fun C_ h_ => h_ m 0 ui1 ui2 ui3 ui4 ui5 ui6 ui7 ui8 ui9 ui10 ui11 ui12 ui13 ui14 ui15 ui16 ui17 ui18 ui19 ui20 ui21 uf22 uf23 uf24 uf25 uf26 uf27 uf28 uf29 uf30 uf31 uf32 uf33 uf34 uf35 uf36 uf37 uf38 uf39 uf40 uf41 uf42 uf43 uf44 uf45 uf46 kp td it l_ui1 u_ui1 l_ui2 u_ui2 l_ui3 u_ui3 l_ui4 u_ui4 l_ui11 u_ui11 l_ui12 u_ui12 l_ui13 u_ui13 up24_0 up29_0 up29_1 up29_2 up29_3 up29_4 up30_0 up31_0 up32_0 up32_1 up33_0 up33_1 up33_2 up33_3 up34_0 up36_0 hMI hkp hRT hTI) ⟨rfl, Or.inl ⟨rfl, x_1, rfl, rfl⟩⟩ (by first | exact Nat.le_refl _ | omega) (by first | exact Nat.le_refl _ | omega)
  · skip
    refine q_24.elim fun g_2 q_29 => q_29.elim fun g_3 q_30 => q_30.elim fun g_4 q_31 => q_31.elim fun e_32 q_33 => q_33.elim fun c_5 q_34 => q_34.elim fun c_6 q_35 => q_35.elim fun c_7 q_36 => q_36.elim fun c_8 q_37 => q_37.elim fun c_9 q_38 => q_38.elim fun c_10 q_39 => q_39.elim fun p_11 q_40 => q_40.elim fun x_12 q_41 => q_41.elim fun x_13 q_42 => q_42.elim fun x_14 e_43 => ?_
    clear hp_ q_23 q_24 q_29 q_30 q_31 q_33 q_34 q_35 q_36 q_37 q_38 q_39 q_40 q_41 q_42
    subst e_32
    subst e_43
    have c_5 : 0 ≤ x0.toInt := c_5
    have c_6 : x0.toInt ≤ 3 := c_6
    have c_7 : 0 ≤ x1.toInt := c_7
    have c_8 : x1.toInt ≤ 3 := c_8
    have c_9 : x2.toInt ≤ 60 := c_9
    have c_10 : 0 ≤ x2.toInt := c_10
    refine mp_mgT [true, true, true, true, false, false, false, false, false, false, false, false, false, false, false, false, false, false, false, false, false, false, false, false, false, false] ?_
    exact kk _ _ _ _ _ _ _ (fun C_ h_ => h_ m 0 ui1 ui2 ui3 ui4 ui5 ui6 ui7 ui8 ui9 ui10 ui11 ui12 ui13 ui14 ui15 ui16 ui17 ui18 ui19 ui20 ui21 g_2 g_3 g_4 uf25 uf26 uf27 uf28 uf29 uf30 uf31 uf32 uf33 uf34 uf35 uf36 uf37 uf38 uf39 uf40 uf41 uf42 uf43 uf44 uf45 uf46 kp td it l_ui1 u_ui1 l_ui2 u_ui2 l_ui3 u_ui3 l_ui4 u_ui4 l_ui11 u_ui11 l_ui12 u_ui12 l_ui13 u_ui13 p_11 up29_0 up29_1 up29_2 up29_3 up29_4 up30_0 up31_0 up32_0 up32_1 up33_0 up33_1 up33_2 up33_3 up34_0 up36_0 hMI hkp hRT hTI) ⟨rfl, Or.inr (Or.inr (⟨rfl, x_12, x_13, x_14⟩))⟩ (by first | exact Nat.le_refl _ | omega) (by first | exact Nat.le_refl _ | omega)
  · skip
    refine q_25.elim fun e_44 q_45 => q_45.elim fun c_15 q_46 => q_46.elim fun c_16 q_47 => q_47.elim fun c_17 q_48 => q_48.elim fun c_18 q_49 => q_49.elim fun c_19 q_50 => q_50.elim fun c_20 q_51 => q_51.elim fun x_21 e_52 => ?_
    clear hp_ q_23 q_25 q_45 q_46 q_47 q_48 q_49 q_50 q_51
    subst e_44
    subst e_52
    have c_15 : 0 ≤ x0.toInt := c_15
    have c_16 : x0.toInt ≤ 3 := c_16
    have c_17 : 0 ≤ x1.toInt := c_17
    have c_18 : x1.toInt ≤ 3 := c_18
    have c_19 : x2.toInt ≤ 60 := c_19
    have c_20 : x2.toInt < 0 := c_20
    refine mp_mgT [true, true, true, true, false, false, false, false, false, false, false, false, false, false, false, false, false, false, false, false, false, false, false, false, false, false] ?_
    exact kk _ _ _ _ _ _ _ (fun C_ h_ => h_ m 0 ui1 ui2 ui3 ui4 ui5 ui6 ui7 ui8 ui9 ui10 ui11 ui12 ui13 ui14 ui15 ui16 ui17 ui18 ui19 ui20 ui21 uf22 uf23 uf24 uf25 uf26 uf27 uf28 uf29 uf30 uf31 uf32 uf33 uf34 uf35 uf36 uf37 uf38 uf39 uf40 uf41 uf42 uf43 uf44 uf45 uf46 kp td it l_ui1 u_ui1 l_ui2 u_ui2 l_ui3 u_ui3 l_ui4 u_ui4 l_ui11 u_ui11 l_ui12 u_ui12 l_ui13 u_ui13 up24_0 up29_0 up29_1 up29_2 up29_3 up29_4 up30_0 up31_0 up32_0 up32_1 up33_0 up33_1 up33_2 up33_3 up34_0 up36_0 hMI hkp hRT hTI) ⟨rfl, Or.inr (Or.inl ⟨rfl, x_21, rfl, rfl⟩)⟩ (by first | exact Nat.le_refl _ | omega) (by first | exact Nat.le_refl _ | omega)
set_option maxHeartbeats 4000000 in
set_option maxRecDepth 100000 in
theorem mp_cm_write {E : mp_E} {X : mp_X} (hF : mp_F E X mp_ML) {pc : Nat} {lv : List (Nat × Value)} {rest : List Value} {A B : va_W} {k n q2 : Nat} {len : Int} {sw : Nat → Int32} {sl : Nat → Int32} {kp : Nat → Bool} {tp : Nat → Int32} {ft : Int} {fp : Int} {td : mp_TD} {it : Nat → mp_TD} (x0 : Int32) (x1 : Int32) (x2 : Int64) (hI : mp_IM E q2 len sw sl kp tp ft fp td it A) (hW : mp_WF td) (hWI : ∀ j : Nat, mp_WF (it j)) (hdg : decode code pc = .ok (.invokevirtual 258, 3)) (hk : k + 0 ≤ 600000) (hn : n + 0 ≤ 7302250) (hcat : (rest.map (fun v => v.category)).sum ≤ 8) (kk : ∀ (r : Int32) (A2 : va_W) (len2 : Int)  (k2 n2 : Nat), mp_IM E q2 len2 sw sl kp tp ft fp td it A2 → (len2 = len ∧ mp_wrtR r x0 x1 sw sl) → k2 ≤ k + 0 → n2 ≤ n + 0 → mp_W E X 4 (pc + 3) lv (.int r :: rest) (A2 ++ B) k2 n2) : mp_W E X 4 pc lv (.long x2 :: .int x1 :: .int x0 :: .ref q2 :: rest) (A ++ B) k n := by
  refine hI (fun len sw sl kp tp ft fp td it A => mp_WF td → (∀ j : Nat, mp_WF (it j)) → (∀ (r : Int32) (A2 : va_W) (len2 : Int)  (k2 n2 : Nat), mp_IM E q2 len2 sw sl kp tp ft fp td it A2 → (len2 = len ∧ mp_wrtR r x0 x1 sw sl) → k2 ≤ k + 0 → n2 ≤ n + 0 → mp_W E X 4 (pc + 3) lv (.int r :: rest) (A2 ++ B) k2 n2) → mp_W E X 4 pc lv (.long x2 :: .int x1 :: .int x0 :: .ref q2 :: rest) (A ++ B) k n) ?_ hW hWI kk
  intro m ui0 ui1 ui2 ui3 ui4 ui5 ui6 ui7 ui8 ui9 ui10 ui11 ui12 ui13 ui14 ui15 ui16 ui17 ui18 ui19 ui20 ui21 uf22 uf23 uf24 uf25 uf26 uf27 uf28 uf29 uf30 uf31 uf32 uf33 uf34 uf35 uf36 uf37 uf38 uf39 uf40 uf41 uf42 uf43 uf44 uf45 uf46 kp td it l_ui1 u_ui1 l_ui2 u_ui2 l_ui3 u_ui3 l_ui4 u_ui4 l_ui11 u_ui11 l_ui12 u_ui12 l_ui13 u_ui13 up24_0 up29_0 up29_1 up29_2 up29_3 up29_4 up30_0 up31_0 up32_0 up32_1 up33_0 up33_1 up33_2 up33_3 up34_0 up36_0 hMI hkp hRT hTI hW hWI kk
  have hR := mp_MR_0 (hMI 0 (by decide))
  have hprm := hR.1
  have htin := hR.2
  refine mp_callVM (As := [.int x0, .int x1, .long x2]) (rest := rest) (T := B) [true, true, true, true, false, false, false, false, false, false, false, false, false, false, false, false, false, false, false, false, false, false, false, false, false, false] hF (bX10_write_4 E q2 (m 1) (m 2) (m 3) (m 4) (m 5) (m 6) (m 7) (m 8) (m 9) (m 10) (m 11) (m 12) (m 13) (m 14) (m 15) (m 16) (m 17) (m 18) (m 19) (m 20) (m 21) (m 22) (m 23) (m 24) (m 25) uf22 uf23 uf24 ui0 ui1 ui2 ui3 ui4 ui5 ui6 ui7 ui8 ui9 ui10 ui11 ui12 ui13 ui14 ui15 ui16 ui17 ui18 ui19 ui20 ui21 x0 x1 x2 up24_0 l_ui1 u_ui1 l_ui2 u_ui2 l_ui3 u_ui3 l_ui4 u_ui4 l_ui11 u_ui11 l_ui12 u_ui12 l_ui13 u_ui13) mp_lkL_258 rfl rfl ⟨(Nat.le_of_ble_eq_true rfl), (Nat.le_of_ble_eq_true rfl), (by first | exact hk | (show k + _ ≤ 600000; omega)), (by first | exact hn | (show n + _ ≤ 7302250; omega))⟩ hcat hdg (fun v_ w_ hp_ => ?_)
  refine hp_.elim (fun q_13 => ?_) (fun q_14 => q_14.elim (fun q_15 => ?_) (fun q_16 => q_16.elim (fun q_17 => ?_) (fun q_18 => ?_)))
  · skip
    refine q_13.elim fun e_19 q_20 => q_20.elim fun x_1 e_21 => ?_
    clear hp_ q_13 q_20
    subst e_19
    subst e_21
    refine mp_mgT [true, true, true, true, false, false, false, false, false, false, false, false, false, false, false, false, false, false, false, false, false, false, false, false, false, false] ?_
    exact kk _ _ _ _ _ (fun C_ h_ => h_ m 0 ui1 ui2 ui3 ui4 ui5 ui6 ui7 ui8 ui9 ui10 ui11 ui12 ui13 ui14 ui15 ui16 ui17 ui18 ui19 ui20 ui21 uf22 uf23 uf24 uf25 uf26 uf27 uf28 uf29 uf30 uf31 uf32 uf33 uf34 uf35 uf36 uf37 uf38 uf39 uf40 uf41 uf42 uf43 uf44 uf45 uf46 kp td it l_ui1 u_ui1 l_ui2 u_ui2 l_ui3 u_ui3 l_ui4 u_ui4 l_ui11 u_ui11 l_ui12 u_ui12 l_ui13 u_ui13 up24_0 up29_0 up29_1 up29_2 up29_3 up29_4 up30_0 up31_0 up32_0 up32_1 up33_0 up33_1 up33_2 up33_3 up34_0 up36_0 hMI hkp hRT hTI) ⟨rfl, Or.inl ⟨rfl, x_1⟩⟩ (by first | exact Nat.le_refl _ | omega) (by first | exact Nat.le_refl _ | omega)
  · skip
    refine q_15.elim fun e_22 q_23 => q_23.elim fun c_2 q_24 => q_24.elim fun c_3 q_25 => q_25.elim fun x_4 e_26 => ?_
    clear hp_ q_14 q_15 q_23 q_24 q_25
    subst e_22
    subst e_26
    have c_2 : 0 ≤ x0.toInt := c_2
    have c_3 : x0.toInt ≤ 3 := c_3
    refine mp_mgT [true, true, true, true, false, false, false, false, false, false, false, false, false, false, false, false, false, false, false, false, false, false, false, false, false, false] ?_
    exact kk _ _ _ _ _ (fun C_ h_ => h_ m 0 ui1 ui2 ui3 ui4 ui5 ui6 ui7 ui8 ui9 ui10 ui11 ui12 ui13 ui14 ui15 ui16 ui17 ui18 ui19 ui20 ui21 uf22 uf23 uf24 uf25 uf26 uf27 uf28 uf29 uf30 uf31 uf32 uf33 uf34 uf35 uf36 uf37 uf38 uf39 uf40 uf41 uf42 uf43 uf44 uf45 uf46 kp td it l_ui1 u_ui1 l_ui2 u_ui2 l_ui3 u_ui3 l_ui4 u_ui4 l_ui11 u_ui11 l_ui12 u_ui12 l_ui13 u_ui13 up24_0 up29_0 up29_1 up29_2 up29_3 up29_4 up30_0 up31_0 up32_0 up32_1 up33_0 up33_1 up33_2 up33_3 up34_0 up36_0 hMI hkp hRT hTI) ⟨rfl, Or.inr (Or.inr (Or.inl ⟨rfl, x_4⟩))⟩ (by first | exact Nat.le_refl _ | omega) (by first | exact Nat.le_refl _ | omega)
  · skip
    refine q_17.elim fun g_5 q_27 => q_27.elim fun e_28 q_29 => q_29.elim fun c_6 q_30 => q_30.elim fun c_7 q_31 => q_31.elim fun c_8 q_32 => q_32.elim fun x_9 e_33 => ?_
    clear hp_ q_14 q_16 q_17 q_27 q_29 q_30 q_31 q_32
    subst e_28
    subst e_33
    have c_6 : 0 ≤ x0.toInt := c_6
    have c_7 : x0.toInt ≤ 3 := c_7
    have c_8 : 0 ≤ x1.toInt := c_8
    refine mp_mgT [true, true, true, true, false, false, false, false, false, false, false, false, false, false, false, false, false, false, false, false, false, false, false, false, false, false] ?_
    exact kk _ _ _ _ _ (fun C_ h_ => h_ m 0 ui1 ui2 ui3 ui4 ui5 ui6 ui7 ui8 ui9 ui10 ui11 ui12 ui13 ui14 ui15 ui16 ui17 ui18 ui19 ui20 ui21 uf22 uf23 g_5 uf25 uf26 uf27 uf28 uf29 uf30 uf31 uf32 uf33 uf34 uf35 uf36 uf37 uf38 uf39 uf40 uf41 uf42 uf43 uf44 uf45 uf46 kp td it l_ui1 u_ui1 l_ui2 u_ui2 l_ui3 u_ui3 l_ui4 u_ui4 l_ui11 u_ui11 l_ui12 u_ui12 l_ui13 u_ui13 up24_0 up29_0 up29_1 up29_2 up29_3 up29_4 up30_0 up31_0 up32_0 up32_1 up33_0 up33_1 up33_2 up33_3 up34_0 up36_0 hMI hkp hRT hTI) ⟨rfl, Or.inr (Or.inr (Or.inr (⟨rfl, x_9⟩)))⟩ (by first | exact Nat.le_refl _ | omega) (by first | exact Nat.le_refl _ | omega)
  · skip
    refine q_18.elim fun e_34 q_35 => q_35.elim fun c_10 q_36 => q_36.elim fun c_11 q_37 => q_37.elim fun x_12 e_38 => ?_
    clear hp_ q_14 q_16 q_18 q_35 q_36 q_37
    subst e_34
    subst e_38
    have c_10 : 0 ≤ x0.toInt := c_10
    have c_11 : x0.toInt ≤ 3 := c_11
    refine mp_mgT [true, true, true, true, false, false, false, false, false, false, false, false, false, false, false, false, false, false, false, false, false, false, false, false, false, false] ?_
    exact kk _ _ _ _ _ (fun C_ h_ => h_ m 0 ui1 ui2 ui3 ui4 ui5 ui6 ui7 ui8 ui9 ui10 ui11 ui12 ui13 ui14 ui15 ui16 ui17 ui18 ui19 ui20 ui21 uf22 uf23 uf24 uf25 uf26 uf27 uf28 uf29 uf30 uf31 uf32 uf33 uf34 uf35 uf36 uf37 uf38 uf39 uf40 uf41 uf42 uf43 uf44 uf45 uf46 kp td it l_ui1 u_ui1 l_ui2 u_ui2 l_ui3 u_ui3 l_ui4 u_ui4 l_ui11 u_ui11 l_ui12 u_ui12 l_ui13 u_ui13 up24_0 up29_0 up29_1 up29_2 up29_3 up29_4 up30_0 up31_0 up32_0 up32_1 up33_0 up33_1 up33_2 up33_3 up34_0 up36_0 hMI hkp hRT hTI) ⟨rfl, Or.inr (Or.inl ⟨rfl, x_12⟩)⟩ (by first | exact Nat.le_refl _ | omega) (by first | exact Nat.le_refl _ | omega)
set_option maxHeartbeats 4000000 in
set_option maxRecDepth 100000 in
theorem mp_cm_paste {E : mp_E} {X : mp_X} (hF : mp_F E X mp_ML) {pc : Nat} {lv : List (Nat × Value)} {rest : List Value} {A B : va_W} {k n q2 : Nat} {len : Int} {sw : Nat → Int32} {sl : Nat → Int32} {kp : Nat → Bool} {tp : Nat → Int32} {ft : Int} {fp : Int} {td : mp_TD} {it : Nat → mp_TD} (x0 : Int32) (x1 : Int32) (x2 : Int32) (x3 : Int32) (x4 : Int32) (hI : mp_IM E q2 len sw sl kp tp ft fp td it A) (hW : mp_WF td) (hWI : ∀ j : Nat, mp_WF (it j)) (hdg : decode code pc = .ok (.invokevirtual 262, 3)) (hk : k + 0 ≤ 600000) (hn : n + 0 ≤ 7302250) (hcat : (rest.map (fun v => v.category)).sum ≤ 8) (kk : ∀ (r : Int32) (A2 : va_W) (len2 : Int)  (k2 n2 : Nat), mp_IM E q2 len2 sw sl kp tp ft fp td it A2 → (len2 = len ∧ mp_pstR r x0 x1 x2 x3 x4 sw sl sw) → k2 ≤ k + 0 → n2 ≤ n + 0 → mp_W E X 4 (pc + 3) lv (.int r :: rest) (A2 ++ B) k2 n2) : mp_W E X 4 pc lv (.int x4 :: .int x3 :: .int x2 :: .int x1 :: .int x0 :: .ref q2 :: rest) (A ++ B) k n := by
  refine hI (fun len sw sl kp tp ft fp td it A => mp_WF td → (∀ j : Nat, mp_WF (it j)) → (∀ (r : Int32) (A2 : va_W) (len2 : Int)  (k2 n2 : Nat), mp_IM E q2 len2 sw sl kp tp ft fp td it A2 → (len2 = len ∧ mp_pstR r x0 x1 x2 x3 x4 sw sl sw) → k2 ≤ k + 0 → n2 ≤ n + 0 → mp_W E X 4 (pc + 3) lv (.int r :: rest) (A2 ++ B) k2 n2) → mp_W E X 4 pc lv (.int x4 :: .int x3 :: .int x2 :: .int x1 :: .int x0 :: .ref q2 :: rest) (A ++ B) k n) ?_ hW hWI kk
  intro m ui0 ui1 ui2 ui3 ui4 ui5 ui6 ui7 ui8 ui9 ui10 ui11 ui12 ui13 ui14 ui15 ui16 ui17 ui18 ui19 ui20 ui21 uf22 uf23 uf24 uf25 uf26 uf27 uf28 uf29 uf30 uf31 uf32 uf33 uf34 uf35 uf36 uf37 uf38 uf39 uf40 uf41 uf42 uf43 uf44 uf45 uf46 kp td it l_ui1 u_ui1 l_ui2 u_ui2 l_ui3 u_ui3 l_ui4 u_ui4 l_ui11 u_ui11 l_ui12 u_ui12 l_ui13 u_ui13 up24_0 up29_0 up29_1 up29_2 up29_3 up29_4 up30_0 up31_0 up32_0 up32_1 up33_0 up33_1 up33_2 up33_3 up34_0 up36_0 hMI hkp hRT hTI hW hWI kk
  have hR := mp_MR_0 (hMI 0 (by decide))
  have hprm := hR.1
  have htin := hR.2
  refine mp_callVM (As := [.int x0, .int x1, .int x2, .int x3, .int x4]) (rest := rest) (T := B) [true, true, true, true, true, false, false, false, false, false, false, false, false, false, false, false, false, false, false, false, false, false, false, false, false, false] hF (bX10_paste_5 E q2 (m 1) (m 2) (m 3) (m 4) (m 5) (m 6) (m 7) (m 8) (m 9) (m 10) (m 11) (m 12) (m 13) (m 14) (m 15) (m 16) (m 17) (m 18) (m 19) (m 20) (m 21) (m 22) (m 23) (m 24) (m 25) uf22 uf23 uf24 uf25 ui0 ui1 ui2 ui3 ui4 ui5 ui6 ui7 ui8 ui9 ui10 ui11 ui12 ui13 ui14 ui15 ui16 ui17 ui18 ui19 ui20 ui21 x0 x1 x2 x3 x4 up24_0 l_ui1 u_ui1 l_ui2 u_ui2 l_ui3 u_ui3 l_ui4 u_ui4 l_ui11 u_ui11 l_ui12 u_ui12 l_ui13 u_ui13) mp_lkL_262 rfl rfl ⟨(Nat.le_of_ble_eq_true rfl), (Nat.le_of_ble_eq_true rfl), (by first | exact hk | (show k + _ ≤ 600000; omega)), (by first | exact hn | (show n + _ ≤ 7302250; omega))⟩ hcat hdg (fun v_ w_ hp_ => ?_)
  refine hp_.elim (fun q_27 => ?_) (fun q_28 => q_28.elim (fun q_29 => ?_) (fun q_30 => q_30.elim (fun q_31 => ?_) (fun q_32 => q_32.elim (fun q_33 => ?_) (fun q_34 => ?_))))
  · skip
    refine q_27.elim fun e_35 q_36 => q_36.elim fun x_1 e_37 => ?_
    clear hp_ q_27 q_36
    subst e_35
    subst e_37
    refine mp_mgT [true, true, true, true, true, false, false, false, false, false, false, false, false, false, false, false, false, false, false, false, false, false, false, false, false, false] ?_
    exact kk _ _ _ _ _ (fun C_ h_ => h_ m 0 ui1 ui2 ui3 ui4 ui5 ui6 ui7 ui8 ui9 ui10 ui11 ui12 ui13 ui14 ui15 ui16 ui17 ui18 ui19 ui20 ui21 uf22 uf23 uf24 uf25 uf26 uf27 uf28 uf29 uf30 uf31 uf32 uf33 uf34 uf35 uf36 uf37 uf38 uf39 uf40 uf41 uf42 uf43 uf44 uf45 uf46 kp td it l_ui1 u_ui1 l_ui2 u_ui2 l_ui3 u_ui3 l_ui4 u_ui4 l_ui11 u_ui11 l_ui12 u_ui12 l_ui13 u_ui13 up24_0 up29_0 up29_1 up29_2 up29_3 up29_4 up30_0 up31_0 up32_0 up32_1 up33_0 up33_1 up33_2 up33_3 up34_0 up36_0 hMI hkp hRT hTI) ⟨rfl, Or.inl ⟨rfl, x_1⟩⟩ (by first | exact Nat.le_refl _ | omega) (by first | exact Nat.le_refl _ | omega)
  · skip
    refine q_29.elim fun e_38 q_39 => q_39.elim fun c_2 q_40 => q_40.elim fun c_3 q_41 => q_41.elim fun c_4 q_42 => q_42.elim fun c_5 q_43 => q_43.elim fun x_6 e_44 => ?_
    clear hp_ q_28 q_29 q_39 q_40 q_41 q_42 q_43
    subst e_38
    subst e_44
    have c_2 : 0 ≤ x0.toInt := c_2
    have c_3 : x0.toInt ≤ 3 := c_3
    have c_4 : 0 ≤ x2.toInt := c_4
    have c_5 : x2.toInt ≤ 3 := c_5
    refine mp_mgT [true, true, true, true, true, false, false, false, false, false, false, false, false, false, false, false, false, false, false, false, false, false, false, false, false, false] ?_
    exact kk _ _ _ _ _ (fun C_ h_ => h_ m 0 ui1 ui2 ui3 ui4 ui5 ui6 ui7 ui8 ui9 ui10 ui11 ui12 ui13 ui14 ui15 ui16 ui17 ui18 ui19 ui20 ui21 uf22 uf23 uf24 uf25 uf26 uf27 uf28 uf29 uf30 uf31 uf32 uf33 uf34 uf35 uf36 uf37 uf38 uf39 uf40 uf41 uf42 uf43 uf44 uf45 uf46 kp td it l_ui1 u_ui1 l_ui2 u_ui2 l_ui3 u_ui3 l_ui4 u_ui4 l_ui11 u_ui11 l_ui12 u_ui12 l_ui13 u_ui13 up24_0 up29_0 up29_1 up29_2 up29_3 up29_4 up30_0 up31_0 up32_0 up32_1 up33_0 up33_1 up33_2 up33_3 up34_0 up36_0 hMI hkp hRT hTI) ⟨rfl, Or.inr (Or.inl ⟨rfl, x_6⟩)⟩ (by first | exact Nat.le_refl _ | omega) (by first | exact Nat.le_refl _ | omega)
  · skip
    refine q_31.elim fun e_45 q_46 => q_46.elim fun c_7 q_47 => q_47.elim fun c_8 q_48 => q_48.elim fun c_9 q_49 => q_49.elim fun c_10 q_50 => q_50.elim fun x_11 e_51 => ?_
    clear hp_ q_28 q_30 q_31 q_46 q_47 q_48 q_49 q_50
    subst e_45
    subst e_51
    have c_7 : 0 ≤ x0.toInt := c_7
    have c_8 : x0.toInt ≤ 3 := c_8
    have c_9 : 0 ≤ x2.toInt := c_9
    have c_10 : x2.toInt ≤ 3 := c_10
    refine mp_mgT [true, true, true, true, true, false, false, false, false, false, false, false, false, false, false, false, false, false, false, false, false, false, false, false, false, false] ?_
    exact kk _ _ _ _ _ (fun C_ h_ => h_ m 0 ui1 ui2 ui3 ui4 ui5 ui6 ui7 ui8 ui9 ui10 ui11 ui12 ui13 ui14 ui15 ui16 ui17 ui18 ui19 ui20 ui21 uf22 uf23 uf24 uf25 uf26 uf27 uf28 uf29 uf30 uf31 uf32 uf33 uf34 uf35 uf36 uf37 uf38 uf39 uf40 uf41 uf42 uf43 uf44 uf45 uf46 kp td it l_ui1 u_ui1 l_ui2 u_ui2 l_ui3 u_ui3 l_ui4 u_ui4 l_ui11 u_ui11 l_ui12 u_ui12 l_ui13 u_ui13 up24_0 up29_0 up29_1 up29_2 up29_3 up29_4 up30_0 up31_0 up32_0 up32_1 up33_0 up33_1 up33_2 up33_3 up34_0 up36_0 hMI hkp hRT hTI) ⟨rfl, Or.inr (Or.inr (Or.inr (Or.inl ⟨rfl, x_11⟩)))⟩ (by first | exact Nat.le_refl _ | omega) (by first | exact Nat.le_refl _ | omega)
  · skip
    refine q_33.elim fun g_12 q_52 => q_52.elim fun g_13 q_53 => q_53.elim fun e_54 q_55 => q_55.elim fun c_14 q_56 => q_56.elim fun c_15 q_57 => q_57.elim fun c_16 q_58 => q_58.elim fun c_17 q_59 => q_59.elim fun c_18 q_60 => q_60.elim fun c_19 q_61 => q_61.elim fun c_20 q_62 => q_62.elim fun x_21 e_63 => ?_
    clear hp_ q_28 q_30 q_32 q_33 q_52 q_53 q_55 q_56 q_57 q_58 q_59 q_60 q_61 q_62
    subst e_54
    subst e_63
    have c_14 : 0 ≤ x0.toInt := c_14
    have c_15 : x0.toInt ≤ 3 := c_15
    have c_16 : 0 ≤ x2.toInt := c_16
    have c_17 : x2.toInt ≤ 3 := c_17
    have c_18 : 0 ≤ x1.toInt := c_18
    have c_19 : 0 ≤ x3.toInt := c_19
    have c_20 : 0 ≤ x4.toInt := c_20
    refine mp_mgT [true, true, true, true, true, false, false, false, false, false, false, false, false, false, false, false, false, false, false, false, false, false, false, false, false, false] ?_
    exact kk _ _ _ _ _ (fun C_ h_ => h_ m 0 ui1 ui2 ui3 ui4 ui5 ui6 ui7 ui8 ui9 ui10 ui11 ui12 ui13 ui14 ui15 ui16 ui17 ui18 ui19 ui20 ui21 uf22 uf23 g_12 g_13 uf26 uf27 uf28 uf29 uf30 uf31 uf32 uf33 uf34 uf35 uf36 uf37 uf38 uf39 uf40 uf41 uf42 uf43 uf44 uf45 uf46 kp td it l_ui1 u_ui1 l_ui2 u_ui2 l_ui3 u_ui3 l_ui4 u_ui4 l_ui11 u_ui11 l_ui12 u_ui12 l_ui13 u_ui13 up24_0 up29_0 up29_1 up29_2 up29_3 up29_4 up30_0 up31_0 up32_0 up32_1 up33_0 up33_1 up33_2 up33_3 up34_0 up36_0 hMI hkp hRT hTI) ⟨rfl, Or.inr (Or.inr (Or.inr (Or.inr (⟨rfl, x_21⟩))))⟩ (by first | exact Nat.le_refl _ | omega) (by first | exact Nat.le_refl _ | omega)
  · skip
    refine q_34.elim fun e_64 q_65 => q_65.elim fun c_22 q_66 => q_66.elim fun c_23 q_67 => q_67.elim fun c_24 q_68 => q_68.elim fun c_25 q_69 => q_69.elim fun x_26 e_70 => ?_
    clear hp_ q_28 q_30 q_32 q_34 q_65 q_66 q_67 q_68 q_69
    subst e_64
    subst e_70
    have c_22 : 0 ≤ x0.toInt := c_22
    have c_23 : x0.toInt ≤ 3 := c_23
    have c_24 : 0 ≤ x2.toInt := c_24
    have c_25 : x2.toInt ≤ 3 := c_25
    refine mp_mgT [true, true, true, true, true, false, false, false, false, false, false, false, false, false, false, false, false, false, false, false, false, false, false, false, false, false] ?_
    exact kk _ _ _ _ _ (fun C_ h_ => h_ m 0 ui1 ui2 ui3 ui4 ui5 ui6 ui7 ui8 ui9 ui10 ui11 ui12 ui13 ui14 ui15 ui16 ui17 ui18 ui19 ui20 ui21 uf22 uf23 uf24 uf25 uf26 uf27 uf28 uf29 uf30 uf31 uf32 uf33 uf34 uf35 uf36 uf37 uf38 uf39 uf40 uf41 uf42 uf43 uf44 uf45 uf46 kp td it l_ui1 u_ui1 l_ui2 u_ui2 l_ui3 u_ui3 l_ui4 u_ui4 l_ui11 u_ui11 l_ui12 u_ui12 l_ui13 u_ui13 up24_0 up29_0 up29_1 up29_2 up29_3 up29_4 up30_0 up31_0 up32_0 up32_1 up33_0 up33_1 up33_2 up33_3 up34_0 up36_0 hMI hkp hRT hTI) ⟨rfl, Or.inr (Or.inr (Or.inl ⟨rfl, x_26⟩))⟩ (by first | exact Nat.le_refl _ | omega) (by first | exact Nat.le_refl _ | omega)
