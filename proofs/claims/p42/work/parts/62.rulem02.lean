set_option maxHeartbeats 4000000 in
set_option maxRecDepth 100000 in
theorem mp_cm_lucky {E : mp_E} {X : mp_X} (hF : mp_F E X mp_ML) {pc : Nat} {lv : List (Nat × Value)} {rest : List Value} {A B : va_W} {k n q2 : Nat} {len : Int} {sw : Nat → Int32} {sl : Nat → Int32} {sn : Nat → Int64} {kp : Nat → Bool} {tp : Nat → Int32} {ft : Int} {fp : Int} {td : mp_TD} {it : Nat → mp_TD} (x0 : Int32) (x1 : Int32) (x2 : Int32) (x3 : Int32) (hI : mp_IM E q2 len sw sl sn kp tp ft fp td it A) (hW : mp_WH td) (hWI : ∀ j : Nat, mp_WH (it j)) (hdg : decode code pc = .ok (.invokevirtual 223, 3)) (hk : k + 0 ≤ 706714) (hn : n + 0 ≤ 6982106) (hcat : (rest.map (fun v => v.category)).sum ≤ 8) (kk : ∀ (r : Int32) (A2 : va_W) (len2 : Int)  (k2 n2 : Nat), mp_IM E q2 len2 sw sl sn kp tp ft fp td it A2 → (len2 = len) → k2 ≤ k + 0 → n2 ≤ n + 0 → mp_W E X 4 (pc + 3) lv (.int r :: rest) (A2 ++ B) k2 n2) : mp_W E X 4 pc lv (.int x3 :: .int x2 :: .int x1 :: .int x0 :: .ref q2 :: rest) (A ++ B) k n := by
  refine hI (fun len sw sl sn kp tp ft fp td it A => mp_WH td → (∀ j : Nat, mp_WH (it j)) → (∀ (r : Int32) (A2 : va_W) (len2 : Int)  (k2 n2 : Nat), mp_IM E q2 len2 sw sl sn kp tp ft fp td it A2 → (len2 = len) → k2 ≤ k + 0 → n2 ≤ n + 0 → mp_W E X 4 (pc + 3) lv (.int r :: rest) (A2 ++ B) k2 n2) → mp_W E X 4 pc lv (.int x3 :: .int x2 :: .int x1 :: .int x0 :: .ref q2 :: rest) (A ++ B) k n) ?_ hW hWI kk
  intro m ui0 ui1 ui2 ui3 ui4 ui5 ui6 ui7 ui8 ui9 ui10 ui11 ui12 ui13 ui14 ui15 ui16 ui17 ui18 ui19 ui20 ui21 uf22 uf23 uf24 uf25 uf26 uf27 uf28 uf29 uf30 uf31 uf32 uf33 uf34 uf35 uf36 uf37 uf38 uf39 uf40 uf41 uf42 uf43 uf44 uf45 uf46 sw sl kp td it l_ui1 u_ui1 l_ui2 u_ui2 l_ui3 u_ui3 l_ui4 u_ui4 l_ui11 u_ui11 l_ui12 u_ui12 l_ui13 u_ui13 up24_0 up29_0 up29_1 up29_2 up29_3 up29_4 up30_0 up31_0 up32_0 up32_1 up33_0 up33_1 up33_2 up33_3 up34_0 up36_0 hMI hkp hSl hRT hTI hW hWI kk
  have hG := hW.2
  replace hW := hW.1
  replace hWI : ∀ j : Nat, mp_WF (it j) := fun j => (hWI j).1
  have hR := mp_MR_0 (hMI 0 (by decide))
  have hprm := hR.1
  have htin := hR.2
  refine mp_callVM (As := [.int x0, .int x1, .int x2, .int x3]) (rest := rest) (T := B) [true, false, false, false, false, false, false, true, true, false, true, true, true, false, true, true, true, true, false, false, false, false, false, false, false, false] hF (bX10_lucky_155 E q2 (m 7) (m 8) (m 10) (m 11) (m 12) (m 14) (m 15) (m 16) (m 17) (m 1) (m 2) (m 3) (m 4) (m 5) (m 6) (m 9) (m 13) (m 18) (m 19) (m 20) (m 21) (m 22) (m 23) (m 24) (m 25) uf28 uf29 uf31 uf32 uf33 uf35 uf36 uf37 uf38 ui0 ui1 ui2 ui3 ui4 ui5 ui6 ui7 ui8 ui9 ui10 ui11 ui12 ui13 ui14 ui15 ui16 ui17 ui18 ui19 ui20 ui21 x0 x1 x2 x3 up29_0 up29_1 up29_2 up29_3 up29_4 up30_0 up32_0 up32_1 up33_0 up33_1 up33_2 up33_3 up34_0 up36_0 l_ui1 u_ui1 l_ui2 u_ui2 l_ui3 u_ui3 l_ui4 u_ui4 l_ui11 u_ui11 l_ui12 u_ui12 l_ui13 u_ui13 (by first | assumption | (rw [rfl]; assumption)) (by omega)) mp_lkL_223 rfl rfl ⟨(Nat.le_of_ble_eq_true rfl), (Nat.le_of_ble_eq_true rfl), (by first | exact hk | (show k + _ ≤ 706714; omega)), (by first | exact hn | (show n + _ ≤ 6982106; omega))⟩ hcat hdg (fun v_ w_ hp_ => ?_)
  refine hp_.elim fun r_1 q_11 => q_11.elim fun r_2 q_12 => q_12.elim fun g_3 q_13 => q_13.elim fun g_4 q_14 => q_14.elim fun g_5 q_15 => q_15.elim fun g_6 q_16 => q_16.elim fun r_7 q_17 => q_17.elim fun e_18 q_19 => q_19.elim fun l_8 q_20 => q_20.elim fun u_9 q_21 => q_21.elim fun p_10 e_22 => ?_
  clear hp_ q_11 q_12 q_13 q_14 q_15 q_16 q_17 q_19 q_20 q_21
  subst e_18
  subst e_22
  refine mp_mgT [true, false, false, false, false, false, false, true, true, false, true, true, true, false, true, true, true, true, false, false, false, false, false, false, false, false] ?_
  exact kk _ _ _ _ _ (fun C_ h_ => h_ m 0 ui1 ui2 ui3 ui4 ui5 ui6 ui7 ui8 ui9 ui10 r_1 ui12 ui13 ui14 ui15 ui16 ui17 ui18 ui19 ui20 r_2 uf22 uf23 uf24 uf25 uf26 uf27 uf28 uf29 uf30 uf31 uf32 uf33 uf34 g_3 g_4 g_5 g_6 uf39 uf40 uf41 uf42 uf43 uf44 uf45 uf46 sw sl kp td it l_ui1 u_ui1 l_ui2 u_ui2 l_ui3 u_ui3 l_ui4 u_ui4 l_8 u_9 l_ui12 u_ui12 l_ui13 u_ui13 up24_0 up29_0 up29_1 up29_2 up29_3 up29_4 up30_0 up31_0 up32_0 up32_1 up33_0 up33_1 up33_2 up33_3 up34_0 p_10 hMI hkp hSl hRT hTI) (by first | rfl | omega | decide | (have h8 : (0 : Int32).toInt = 0 := rfl; have h9 : (-1 : Int32).toInt = -1 := rfl; omega)) (by first | exact Nat.le_refl _ | omega) (by first | exact Nat.le_refl _ | omega)
set_option maxHeartbeats 4000000 in
set_option maxRecDepth 100000 in
theorem mp_cm_promises {E : mp_E} {X : mp_X} (hF : mp_F E X mp_ML) {pc : Nat} {lv : List (Nat × Value)} {rest : List Value} {A B : va_W} {k n q2 : Nat} {len : Int} {sw : Nat → Int32} {sl : Nat → Int32} {sn : Nat → Int64} {kp : Nat → Bool} {tp : Nat → Int32} {ft : Int} {fp : Int} {td : mp_TD} {it : Nat → mp_TD} (x0 : Int32) (x1 : Int32) (x2 : Int32) (hI : mp_IM E q2 len sw sl sn kp tp ft fp td it A) (hW : mp_WH td) (hWI : ∀ j : Nat, mp_WH (it j)) (hdg : decode code pc = .ok (.invokevirtual 227, 3)) (hk : k + 0 ≤ 706714) (hn : n + 0 ≤ 6982106) (hcat : (rest.map (fun v => v.category)).sum ≤ 8) (kk : ∀ (r : Int32) (A2 : va_W) (len2 : Int)  (k2 n2 : Nat), mp_IM E q2 len2 sw sl sn kp tp ft fp (mp_prsF td x0.toInt x1.toInt x2.toInt) it A2 → (len2 = len ∧ r.toInt = mp_prsG td x0.toInt x1.toInt x2.toInt) → k2 ≤ k + 0 → n2 ≤ n + 0 → mp_W E X 4 (pc + 3) lv (.int r :: rest) (A2 ++ B) k2 n2) : mp_W E X 4 pc lv (.int x2 :: .int x1 :: .int x0 :: .ref q2 :: rest) (A ++ B) k n := by
  refine hI (fun len sw sl sn kp tp ft fp td it A => mp_WH td → (∀ j : Nat, mp_WH (it j)) → (∀ (r : Int32) (A2 : va_W) (len2 : Int)  (k2 n2 : Nat), mp_IM E q2 len2 sw sl sn kp tp ft fp (mp_prsF td x0.toInt x1.toInt x2.toInt) it A2 → (len2 = len ∧ r.toInt = mp_prsG td x0.toInt x1.toInt x2.toInt) → k2 ≤ k + 0 → n2 ≤ n + 0 → mp_W E X 4 (pc + 3) lv (.int r :: rest) (A2 ++ B) k2 n2) → mp_W E X 4 pc lv (.int x2 :: .int x1 :: .int x0 :: .ref q2 :: rest) (A ++ B) k n) ?_ hW hWI kk
  intro m ui0 ui1 ui2 ui3 ui4 ui5 ui6 ui7 ui8 ui9 ui10 ui11 ui12 ui13 ui14 ui15 ui16 ui17 ui18 ui19 ui20 ui21 uf22 uf23 uf24 uf25 uf26 uf27 uf28 uf29 uf30 uf31 uf32 uf33 uf34 uf35 uf36 uf37 uf38 uf39 uf40 uf41 uf42 uf43 uf44 uf45 uf46 sw sl kp td it l_ui1 u_ui1 l_ui2 u_ui2 l_ui3 u_ui3 l_ui4 u_ui4 l_ui11 u_ui11 l_ui12 u_ui12 l_ui13 u_ui13 up24_0 up29_0 up29_1 up29_2 up29_3 up29_4 up30_0 up31_0 up32_0 up32_1 up33_0 up33_1 up33_2 up33_3 up34_0 up36_0 hMI hkp hSl hRT hTI hW hWI kk
  have hG := hW.2
  replace hW := hW.1
  replace hWI : ∀ j : Nat, mp_WF (it j) := fun j => (hWI j).1
  have hR := mp_MR_0 (hMI 0 (by decide))
  have hprm := hR.1
  have htin := hR.2
  refine mp_callVM (As := [.int x0, .int x1, .int x2]) (rest := rest) (T := B) [true, false, false, false, false, false, false, true, false, false, false, true, true, false, false, false, false, false, false, false, false, false, false, false, false, false] hF (bX10_promises_156 E q2 (m 7) (m 11) (m 12) (m 1) (m 2) (m 3) (m 4) (m 5) (m 6) (m 8) (m 9) (m 10) (m 13) (m 14) (m 15) (m 16) (m 17) (m 18) (m 19) (m 20) (m 21) (m 22) (m 23) (m 24) (m 25) uf28 uf32 uf33 ui0 ui1 ui2 ui3 ui4 ui5 ui6 ui7 ui8 ui9 ui10 ui11 ui12 ui13 ui14 ui15 ui16 ui17 ui18 ui19 ui20 ui21 x0 x1 x2 up29_0 up29_1 up29_2 up29_3 up29_4 up33_0 up33_1 up33_2 up33_3 up34_0 l_ui1 u_ui1 l_ui2 u_ui2 l_ui3 u_ui3 l_ui4 u_ui4 l_ui11 u_ui11 l_ui12 u_ui12 l_ui13 u_ui13 (by assumption) (by omega)) mp_lkL_227 rfl rfl ⟨(Nat.le_of_ble_eq_true rfl), (Nat.le_of_ble_eq_true rfl), (by first | exact hk | (show k + _ ≤ 706714; omega)), (by first | exact hn | (show n + _ ≤ 6982106; omega))⟩ hcat hdg (fun v_ w_ hp_ => ?_)
  refine hp_.elim (fun q_56 => ?_) (fun q_57 => q_57.elim (fun q_58 => ?_) (fun q_59 => q_59.elim (fun q_60 => ?_) (fun q_61 => ?_)))
  · skip
    refine q_56.elim fun e_62 q_63 => q_63.elim fun x_1 q_64 => q_64.elim fun x_2 q_65 => q_65.elim fun x_3 e_66 => ?_
    clear hp_ q_56 q_63 q_64 q_65
    subst e_62
    subst e_66
    have hx9 := mp_prs_b hRT x_3 (show (-2 : Int32).toInt = -2 from by decide)
    refine mp_mgT [true, false, false, false, false, false, false, true, false, false, false, true, true, false, false, false, false, false, false, false, false, false, false, false, false, false] ?_
    exact kk _ _ _ _ _ (fun C_ h_ => h_ m 0 ui1 ui2 ui3 ui4 ui5 ui6 ui7 ui8 ui9 ui10 ui11 ui12 ui13 ui14 ui15 ui16 ui17 ui18 ui19 ui20 ui21 uf22 uf23 uf24 uf25 uf26 uf27 uf28 uf29 uf30 uf31 uf32 uf33 uf34 uf35 uf36 uf37 uf38 uf39 uf40 uf41 uf42 uf43 uf44 uf45 uf46 sw sl kp (mp_prsF td x0.toInt x1.toInt x2.toInt) it l_ui1 u_ui1 l_ui2 u_ui2 l_ui3 u_ui3 l_ui4 u_ui4 l_ui11 u_ui11 l_ui12 u_ui12 l_ui13 u_ui13 up24_0 up29_0 up29_1 up29_2 up29_3 up29_4 up30_0 up31_0 up32_0 up32_1 up33_0 up33_1 up33_2 up33_3 up34_0 up36_0 hMI hkp hSl hx9.2 hTI) ⟨rfl, hx9.1⟩ (by first | exact Nat.le_refl _ | omega) (by first | exact Nat.le_refl _ | omega)
  · skip
    refine q_58.elim fun g_4 q_67 => q_67.elim fun g_5 q_68 => q_68.elim fun r_6 q_69 => q_69.elim fun e_70 q_71 => q_71.elim fun c_7 q_72 => q_72.elim fun c_8 q_73 => q_73.elim fun c_9 q_74 => q_74.elim fun c_10 q_75 => q_75.elim fun c_11 q_76 => q_76.elim fun l_23 q_77 => q_77.elim fun u_24 q_78 => q_78.elim fun p_12 q_79 => q_79.elim fun p_13 q_80 => q_80.elim fun p_14 q_81 => q_81.elim fun p_15 q_82 => q_82.elim fun p_16 q_83 => q_83.elim fun p_17 q_84 => q_84.elim fun p_18 q_85 => q_85.elim fun p_19 q_86 => q_86.elim fun p_20 q_87 => q_87.elim fun p_21 q_88 => q_88.elim fun p_22 q_89 => q_89.elim fun x_25 q_90 => q_90.elim fun x_26 q_91 => q_91.elim fun x_27 q_92 => q_92.elim fun x_28 q_93 => q_93.elim fun x_29 q_94 => q_94.elim fun x_30 q_95 => q_95.elim fun x_31 q_96 => q_96.elim fun x_32 q_97 => q_97.elim fun x_33 q_98 => q_98.elim fun x_34 q_99 => q_99.elim fun x_35 q_100 => q_100.elim fun x_36 e_101 => ?_
    clear hp_ q_57 q_58 q_67 q_68 q_69 q_71 q_72 q_73 q_74 q_75 q_76 q_77 q_78 q_79 q_80 q_81 q_82 q_83 q_84 q_85 q_86 q_87 q_88 q_89 q_90 q_91 q_92 q_93 q_94 q_95 q_96 q_97 q_98 q_99 q_100
    subst e_70
    subst e_101
    have c_7 : 0 ≤ x0.toInt := c_7
    have c_8 : 0 ≤ x1.toInt := c_8
    have c_9 : x0.toInt ≠ x1.toInt := c_9
    have c_10 : 1 ≤ x2.toInt := c_10
    have c_11 : x2.toInt ≤ 1000000 := c_11
    have hx9 := mp_prs_M hRT x_27 x_28 x_29 x_30 x_31 x_32 x_33 x_34 x_35 x_36
    refine mp_mgT [true, false, false, false, false, false, false, true, false, false, false, true, true, false, false, false, false, false, false, false, false, false, false, false, false, false] ?_
    exact kk _ _ _ _ _ (fun C_ h_ => h_ m 0 ui1 ui2 ui3 ui4 ui5 ui6 ui7 ui8 ui9 ui10 ui11 ui12 ui13 ui14 ui15 ui16 ui17 ui18 ui19 ui20 ui21 uf22 uf23 uf24 uf25 uf26 uf27 g_4 uf29 uf30 uf31 g_5 uf33 uf34 uf35 uf36 uf37 uf38 uf39 uf40 uf41 uf42 uf43 uf44 uf45 uf46 sw sl kp (mp_prsF td x0.toInt x1.toInt x2.toInt) it l_ui1 u_ui1 l_ui2 u_ui2 l_ui3 u_ui3 l_ui4 u_ui4 l_ui11 u_ui11 l_ui12 u_ui12 l_ui13 u_ui13 up24_0 p_12 p_13 p_14 p_15 p_16 up30_0 up31_0 up32_0 up32_1 p_18 p_19 p_20 p_21 up34_0 up36_0 (mp_MI_keep hMI up29_3 up29_4 p_17 p_22 mp_keept_rfl (by assumption) (by omega)) hkp hSl hx9.2 (mp_TI_row0 hTI hWI ⟨(fun _ _ => rfl), p_17, (fun _ _ => rfl), (fun _ _ => rfl), (fun _ _ => rfl), p_22, (fun _ _ => rfl)⟩)) ⟨rfl, hx9.1⟩ (by first | exact Nat.le_refl _ | omega) (by first | exact Nat.le_refl _ | omega)
  · skip
    refine q_60.elim fun e_102 q_103 => q_103.elim fun c_37 q_104 => q_104.elim fun c_38 q_105 => q_105.elim fun c_39 q_106 => q_106.elim fun c_40 q_107 => q_107.elim fun c_41 q_108 => q_108.elim fun x_42 q_109 => q_109.elim fun x_43 q_110 => q_110.elim fun x_44 q_111 => q_111.elim fun x_45 q_112 => q_112.elim fun x_46 e_113 => ?_
    clear hp_ q_57 q_59 q_60 q_103 q_104 q_105 q_106 q_107 q_108 q_109 q_110 q_111 q_112
    subst e_102
    subst e_113
    have c_37 : 0 ≤ x0.toInt := c_37
    have c_38 : 0 ≤ x1.toInt := c_38
    have c_39 : x0.toInt ≠ x1.toInt := c_39
    have c_40 : 1 ≤ x2.toInt := c_40
    have c_41 : x2.toInt ≤ 1000000 := c_41
    have hx9 := mp_prs_3 hRT x_44 x_45 x_46 (show (-3 : Int32).toInt = -3 from by decide)
    refine mp_mgT [true, false, false, false, false, false, false, true, false, false, false, true, true, false, false, false, false, false, false, false, false, false, false, false, false, false] ?_
    exact kk _ _ _ _ _ (fun C_ h_ => h_ m 0 ui1 ui2 ui3 ui4 ui5 ui6 ui7 ui8 ui9 ui10 ui11 ui12 ui13 ui14 ui15 ui16 ui17 ui18 ui19 ui20 ui21 uf22 uf23 uf24 uf25 uf26 uf27 uf28 uf29 uf30 uf31 uf32 uf33 uf34 uf35 uf36 uf37 uf38 uf39 uf40 uf41 uf42 uf43 uf44 uf45 uf46 sw sl kp (mp_prsF td x0.toInt x1.toInt x2.toInt) it l_ui1 u_ui1 l_ui2 u_ui2 l_ui3 u_ui3 l_ui4 u_ui4 l_ui11 u_ui11 l_ui12 u_ui12 l_ui13 u_ui13 up24_0 up29_0 up29_1 up29_2 up29_3 up29_4 up30_0 up31_0 up32_0 up32_1 up33_0 up33_1 up33_2 up33_3 up34_0 up36_0 hMI hkp hSl hx9.2 hTI) ⟨rfl, hx9.1⟩ (by first | exact Nat.le_refl _ | omega) (by first | exact Nat.le_refl _ | omega)
  · skip
    refine q_61.elim fun e_114 q_115 => q_115.elim fun c_47 q_116 => q_116.elim fun c_48 q_117 => q_117.elim fun c_49 q_118 => q_118.elim fun c_50 q_119 => q_119.elim fun c_51 q_120 => q_120.elim fun x_52 q_121 => q_121.elim fun x_53 q_122 => q_122.elim fun x_54 q_123 => q_123.elim fun x_55 e_124 => ?_
    clear hp_ q_57 q_59 q_61 q_115 q_116 q_117 q_118 q_119 q_120 q_121 q_122 q_123
    subst e_114
    subst e_124
    have c_47 : 0 ≤ x0.toInt := c_47
    have c_48 : 0 ≤ x1.toInt := c_48
    have c_49 : x0.toInt ≠ x1.toInt := c_49
    have c_50 : 1 ≤ x2.toInt := c_50
    have c_51 : x2.toInt ≤ 1000000 := c_51
    have hx9 := mp_prs_5 hRT x_54 x_55 (show (-5 : Int32).toInt = -5 from by decide)
    refine mp_mgT [true, false, false, false, false, false, false, true, false, false, false, true, true, false, false, false, false, false, false, false, false, false, false, false, false, false] ?_
    exact kk _ _ _ _ _ (fun C_ h_ => h_ m 0 ui1 ui2 ui3 ui4 ui5 ui6 ui7 ui8 ui9 ui10 ui11 ui12 ui13 ui14 ui15 ui16 ui17 ui18 ui19 ui20 ui21 uf22 uf23 uf24 uf25 uf26 uf27 uf28 uf29 uf30 uf31 uf32 uf33 uf34 uf35 uf36 uf37 uf38 uf39 uf40 uf41 uf42 uf43 uf44 uf45 uf46 sw sl kp (mp_prsF td x0.toInt x1.toInt x2.toInt) it l_ui1 u_ui1 l_ui2 u_ui2 l_ui3 u_ui3 l_ui4 u_ui4 l_ui11 u_ui11 l_ui12 u_ui12 l_ui13 u_ui13 up24_0 up29_0 up29_1 up29_2 up29_3 up29_4 up30_0 up31_0 up32_0 up32_1 up33_0 up33_1 up33_2 up33_3 up34_0 up36_0 hMI hkp hSl hx9.2 hTI) ⟨rfl, hx9.1⟩ (by first | exact Nat.le_refl _ | omega) (by first | exact Nat.le_refl _ | omega)
set_option maxHeartbeats 4000000 in
set_option maxRecDepth 100000 in
theorem mp_cm_shuts {E : mp_E} {X : mp_X} (hF : mp_F E X mp_ML) {pc : Nat} {lv : List (Nat × Value)} {rest : List Value} {A B : va_W} {k n q2 : Nat} {len : Int} {sw : Nat → Int32} {sl : Nat → Int32} {sn : Nat → Int64} {kp : Nat → Bool} {tp : Nat → Int32} {ft : Int} {fp : Int} {td : mp_TD} {it : Nat → mp_TD} (x0 : Int32) (x1 : Int32) (x2 : Int32) (hI : mp_IM E q2 len sw sl sn kp tp ft fp td it A) (hW : mp_WH td) (hWI : ∀ j : Nat, mp_WH (it j)) (hdg : decode code pc = .ok (.invokevirtual 231, 3)) (hk : k + 0 ≤ 706714) (hn : n + 0 ≤ 6982106) (hcat : (rest.map (fun v => v.category)).sum ≤ 8) (kk : ∀ (r : Int32) (A2 : va_W) (len2 : Int)  (k2 n2 : Nat), mp_IM E q2 len2 sw sl sn kp tp ft fp (mp_shuF td x0.toInt x1.toInt x2.toInt) it A2 → (len2 = len ∧ r.toInt = mp_shuG td x0.toInt x1.toInt x2.toInt) → k2 ≤ k + 0 → n2 ≤ n + 0 → mp_W E X 4 (pc + 3) lv (.int r :: rest) (A2 ++ B) k2 n2) : mp_W E X 4 pc lv (.int x2 :: .int x1 :: .int x0 :: .ref q2 :: rest) (A ++ B) k n := by
  refine hI (fun len sw sl sn kp tp ft fp td it A => mp_WH td → (∀ j : Nat, mp_WH (it j)) → (∀ (r : Int32) (A2 : va_W) (len2 : Int)  (k2 n2 : Nat), mp_IM E q2 len2 sw sl sn kp tp ft fp (mp_shuF td x0.toInt x1.toInt x2.toInt) it A2 → (len2 = len ∧ r.toInt = mp_shuG td x0.toInt x1.toInt x2.toInt) → k2 ≤ k + 0 → n2 ≤ n + 0 → mp_W E X 4 (pc + 3) lv (.int r :: rest) (A2 ++ B) k2 n2) → mp_W E X 4 pc lv (.int x2 :: .int x1 :: .int x0 :: .ref q2 :: rest) (A ++ B) k n) ?_ hW hWI kk
  intro m ui0 ui1 ui2 ui3 ui4 ui5 ui6 ui7 ui8 ui9 ui10 ui11 ui12 ui13 ui14 ui15 ui16 ui17 ui18 ui19 ui20 ui21 uf22 uf23 uf24 uf25 uf26 uf27 uf28 uf29 uf30 uf31 uf32 uf33 uf34 uf35 uf36 uf37 uf38 uf39 uf40 uf41 uf42 uf43 uf44 uf45 uf46 sw sl kp td it l_ui1 u_ui1 l_ui2 u_ui2 l_ui3 u_ui3 l_ui4 u_ui4 l_ui11 u_ui11 l_ui12 u_ui12 l_ui13 u_ui13 up24_0 up29_0 up29_1 up29_2 up29_3 up29_4 up30_0 up31_0 up32_0 up32_1 up33_0 up33_1 up33_2 up33_3 up34_0 up36_0 hMI hkp hSl hRT hTI hW hWI kk
  have hG := hW.2
  replace hW := hW.1
  replace hWI : ∀ j : Nat, mp_WF (it j) := fun j => (hWI j).1
  have hR := mp_MR_0 (hMI 0 (by decide))
  have hprm := hR.1
  have htin := hR.2
  refine mp_callVM (As := [.int x0, .int x1, .int x2]) (rest := rest) (T := B) [true, false, false, false, false, false, false, true, false, true, false, false, false, false, false, false, false, false, false, false, false, false, false, false, false, false] hF (bX10_shuts_157 E q2 (m 7) (m 9) (m 1) (m 2) (m 3) (m 4) (m 5) (m 6) (m 8) (m 10) (m 11) (m 12) (m 13) (m 14) (m 15) (m 16) (m 17) (m 18) (m 19) (m 20) (m 21) (m 22) (m 23) (m 24) (m 25) uf28 uf30 ui0 ui1 ui2 ui3 ui4 ui5 ui6 ui7 ui8 ui9 ui10 ui11 ui12 ui13 ui14 ui15 ui16 ui17 ui18 ui19 ui20 ui21 x0 x1 x2 up29_0 up29_1 up29_2 up29_3 up29_4 up31_0 l_ui1 u_ui1 l_ui2 u_ui2 l_ui3 u_ui3 l_ui4 u_ui4 l_ui11 u_ui11 l_ui12 u_ui12 l_ui13 u_ui13) mp_lkL_231 rfl rfl ⟨(Nat.le_of_ble_eq_true rfl), (Nat.le_of_ble_eq_true rfl), (by first | exact hk | (show k + _ ≤ 706714; omega)), (by first | exact hn | (show n + _ ≤ 6982106; omega))⟩ hcat hdg (fun v_ w_ hp_ => ?_)
  refine hp_.elim (fun q_24 => ?_) (fun q_25 => q_25.elim (fun q_26 => ?_) (fun q_27 => ?_))
  · skip
    refine q_24.elim fun e_28 q_29 => q_29.elim fun x_1 e_30 => ?_
    clear hp_ q_24 q_29
    subst e_28
    subst e_30
    have hx9 := mp_shu_b hRT x_1 (show (-2 : Int32).toInt = -2 from by decide)
    refine mp_mgT [true, false, false, false, false, false, false, true, false, true, false, false, false, false, false, false, false, false, false, false, false, false, false, false, false, false] ?_
    exact kk _ _ _ _ _ (fun C_ h_ => h_ m 0 ui1 ui2 ui3 ui4 ui5 ui6 ui7 ui8 ui9 ui10 ui11 ui12 ui13 ui14 ui15 ui16 ui17 ui18 ui19 ui20 ui21 uf22 uf23 uf24 uf25 uf26 uf27 uf28 uf29 uf30 uf31 uf32 uf33 uf34 uf35 uf36 uf37 uf38 uf39 uf40 uf41 uf42 uf43 uf44 uf45 uf46 sw sl kp (mp_shuF td x0.toInt x1.toInt x2.toInt) it l_ui1 u_ui1 l_ui2 u_ui2 l_ui3 u_ui3 l_ui4 u_ui4 l_ui11 u_ui11 l_ui12 u_ui12 l_ui13 u_ui13 up24_0 up29_0 up29_1 up29_2 up29_3 up29_4 up30_0 up31_0 up32_0 up32_1 up33_0 up33_1 up33_2 up33_3 up34_0 up36_0 hMI hkp hSl hx9.2 hTI) ⟨rfl, hx9.1⟩ (by first | exact Nat.le_refl _ | omega) (by first | exact Nat.le_refl _ | omega)
  · skip
    refine q_26.elim fun g_2 q_31 => q_31.elim fun r_3 q_32 => q_32.elim fun e_33 q_34 => q_34.elim fun c_4 q_35 => q_35.elim fun c_5 q_36 => q_36.elim fun c_6 q_37 => q_37.elim fun c_7 q_38 => q_38.elim fun c_8 q_39 => q_39.elim fun l_11 q_40 => q_40.elim fun u_12 q_41 => q_41.elim fun p_9 q_42 => q_42.elim fun p_10 q_43 => q_43.elim fun x_13 q_44 => q_44.elim fun x_14 q_45 => q_45.elim fun x_15 q_46 => q_46.elim fun x_16 e_47 => ?_
    clear hp_ q_25 q_26 q_31 q_32 q_34 q_35 q_36 q_37 q_38 q_39 q_40 q_41 q_42 q_43 q_44 q_45 q_46
    subst e_33
    subst e_47
    have c_4 : 0 ≤ x0.toInt := c_4
    have c_5 : 0 ≤ x1.toInt := c_5
    have c_6 : x1.toInt ≤ 99 := c_6
    have c_7 : 0 ≤ x2.toInt := c_7
    have c_8 : x2.toInt ≤ 1 := c_8
    have hx9 := mp_shu_M hRT hW x_13 x_14 x_15 x_16
    refine mp_mgT [true, false, false, false, false, false, false, true, false, true, false, false, false, false, false, false, false, false, false, false, false, false, false, false, false, false] ?_
    exact kk _ _ _ _ _ (fun C_ h_ => h_ m 0 ui1 ui2 ui3 ui4 ui5 ui6 ui7 ui8 ui9 ui10 ui11 ui12 ui13 ui14 ui15 ui16 ui17 ui18 ui19 ui20 ui21 uf22 uf23 uf24 uf25 uf26 uf27 uf28 uf29 g_2 uf31 uf32 uf33 uf34 uf35 uf36 uf37 uf38 uf39 uf40 uf41 uf42 uf43 uf44 uf45 uf46 sw sl kp (mp_shuF td x0.toInt x1.toInt x2.toInt) it l_ui1 u_ui1 l_ui2 u_ui2 l_ui3 u_ui3 l_ui4 u_ui4 l_ui11 u_ui11 l_ui12 u_ui12 l_ui13 u_ui13 up24_0 up29_0 up29_1 up29_2 up29_3 up29_4 up30_0 p_9 up32_0 up32_1 up33_0 up33_1 up33_2 up33_3 up34_0 up36_0 hMI hkp hSl hx9.2 (mp_TI_row0 hTI hWI ⟨(fun _ _ => rfl), (fun _ _ => rfl), (fun _ _ => rfl), p_10, (fun _ _ => rfl), (fun _ _ => rfl), (fun _ _ => rfl)⟩)) ⟨rfl, hx9.1⟩ (by first | exact Nat.le_refl _ | omega) (by first | exact Nat.le_refl _ | omega)
  · skip
    refine q_27.elim fun e_48 q_49 => q_49.elim fun c_17 q_50 => q_50.elim fun c_18 q_51 => q_51.elim fun c_19 q_52 => q_52.elim fun c_20 q_53 => q_53.elim fun c_21 q_54 => q_54.elim fun x_22 q_55 => q_55.elim fun x_23 e_56 => ?_
    clear hp_ q_25 q_27 q_49 q_50 q_51 q_52 q_53 q_54 q_55
    subst e_48
    subst e_56
    have c_17 : 0 ≤ x0.toInt := c_17
    have c_18 : 0 ≤ x1.toInt := c_18
    have c_19 : x1.toInt ≤ 99 := c_19
    have c_20 : 0 ≤ x2.toInt := c_20
    have c_21 : x2.toInt ≤ 1 := c_21
    have hx9 := mp_shu_5 hRT x_22 x_23 (show (-5 : Int32).toInt = -5 from by decide)
    refine mp_mgT [true, false, false, false, false, false, false, true, false, true, false, false, false, false, false, false, false, false, false, false, false, false, false, false, false, false] ?_
    exact kk _ _ _ _ _ (fun C_ h_ => h_ m 0 ui1 ui2 ui3 ui4 ui5 ui6 ui7 ui8 ui9 ui10 ui11 ui12 ui13 ui14 ui15 ui16 ui17 ui18 ui19 ui20 ui21 uf22 uf23 uf24 uf25 uf26 uf27 uf28 uf29 uf30 uf31 uf32 uf33 uf34 uf35 uf36 uf37 uf38 uf39 uf40 uf41 uf42 uf43 uf44 uf45 uf46 sw sl kp (mp_shuF td x0.toInt x1.toInt x2.toInt) it l_ui1 u_ui1 l_ui2 u_ui2 l_ui3 u_ui3 l_ui4 u_ui4 l_ui11 u_ui11 l_ui12 u_ui12 l_ui13 u_ui13 up24_0 up29_0 up29_1 up29_2 up29_3 up29_4 up30_0 up31_0 up32_0 up32_1 up33_0 up33_1 up33_2 up33_3 up34_0 up36_0 hMI hkp hSl hx9.2 hTI) ⟨rfl, hx9.1⟩ (by first | exact Nat.le_refl _ | omega) (by first | exact Nat.le_refl _ | omega)
set_option maxHeartbeats 4000000 in
set_option maxRecDepth 100000 in
theorem mp_cm_tends {E : mp_E} {X : mp_X} (hF : mp_F E X mp_ML) {pc : Nat} {lv : List (Nat × Value)} {rest : List Value} {A B : va_W} {k n q2 : Nat} {len : Int} {sw : Nat → Int32} {sl : Nat → Int32} {sn : Nat → Int64} {kp : Nat → Bool} {tp : Nat → Int32} {ft : Int} {fp : Int} {td : mp_TD} {it : Nat → mp_TD} (x0 : Int32) (x1 : Int32) (hI : mp_IM E q2 len sw sl sn kp tp ft fp td it A) (hW : mp_WH td) (hWI : ∀ j : Nat, mp_WH (it j)) (hdg : decode code pc = .ok (.invokevirtual 235, 3)) (hk : k + 0 ≤ 706714) (hn : n + 0 ≤ 6982106) (hcat : (rest.map (fun v => v.category)).sum ≤ 8) (kk : ∀ (r : Int32) (A2 : va_W) (len2 : Int)  (k2 n2 : Nat), mp_IM E q2 len2 sw sl sn kp tp ft fp (mp_tenF td x0.toInt x1) it A2 → (len2 = len ∧ r.toInt = mp_tenG td x0.toInt x1.toInt) → k2 ≤ k + 0 → n2 ≤ n + 0 → mp_W E X 4 (pc + 3) lv (.int r :: rest) (A2 ++ B) k2 n2) : mp_W E X 4 pc lv (.int x1 :: .int x0 :: .ref q2 :: rest) (A ++ B) k n := by
  refine hI (fun len sw sl sn kp tp ft fp td it A => mp_WH td → (∀ j : Nat, mp_WH (it j)) → (∀ (r : Int32) (A2 : va_W) (len2 : Int)  (k2 n2 : Nat), mp_IM E q2 len2 sw sl sn kp tp ft fp (mp_tenF td x0.toInt x1) it A2 → (len2 = len ∧ r.toInt = mp_tenG td x0.toInt x1.toInt) → k2 ≤ k + 0 → n2 ≤ n + 0 → mp_W E X 4 (pc + 3) lv (.int r :: rest) (A2 ++ B) k2 n2) → mp_W E X 4 pc lv (.int x1 :: .int x0 :: .ref q2 :: rest) (A ++ B) k n) ?_ hW hWI kk
  intro m ui0 ui1 ui2 ui3 ui4 ui5 ui6 ui7 ui8 ui9 ui10 ui11 ui12 ui13 ui14 ui15 ui16 ui17 ui18 ui19 ui20 ui21 uf22 uf23 uf24 uf25 uf26 uf27 uf28 uf29 uf30 uf31 uf32 uf33 uf34 uf35 uf36 uf37 uf38 uf39 uf40 uf41 uf42 uf43 uf44 uf45 uf46 sw sl kp td it l_ui1 u_ui1 l_ui2 u_ui2 l_ui3 u_ui3 l_ui4 u_ui4 l_ui11 u_ui11 l_ui12 u_ui12 l_ui13 u_ui13 up24_0 up29_0 up29_1 up29_2 up29_3 up29_4 up30_0 up31_0 up32_0 up32_1 up33_0 up33_1 up33_2 up33_3 up34_0 up36_0 hMI hkp hSl hRT hTI hW hWI kk
  have hG := hW.2
  replace hW := hW.1
  replace hWI : ∀ j : Nat, mp_WF (it j) := fun j => (hWI j).1
  have hR := mp_MR_0 (hMI 0 (by decide))
  have hprm := hR.1
  have htin := hR.2
  refine mp_callVM (As := [.int x0, .int x1]) (rest := rest) (T := B) [true, false, false, false, false, false, false, true, false, false, true, false, false, false, false, false, false, false, false, false, false, false, false, false, false, false] hF (bX10_tends_158 E q2 (m 7) (m 10) (m 1) (m 2) (m 3) (m 4) (m 5) (m 6) (m 8) (m 9) (m 11) (m 12) (m 13) (m 14) (m 15) (m 16) (m 17) (m 18) (m 19) (m 20) (m 21) (m 22) (m 23) (m 24) (m 25) uf28 uf31 ui0 ui1 ui2 ui3 ui4 ui5 ui6 ui7 ui8 ui9 ui10 ui11 ui12 ui13 ui14 ui15 ui16 ui17 ui18 ui19 ui20 ui21 x0 x1 up29_0 up29_1 up29_2 up29_3 up29_4 up32_0 up32_1 l_ui1 u_ui1 l_ui2 u_ui2 l_ui3 u_ui3 l_ui4 u_ui4 l_ui11 u_ui11 l_ui12 u_ui12 l_ui13 u_ui13) mp_lkL_235 rfl rfl ⟨(Nat.le_of_ble_eq_true rfl), (Nat.le_of_ble_eq_true rfl), (by first | exact hk | (show k + _ ≤ 706714; omega)), (by first | exact hn | (show n + _ ≤ 6982106; omega))⟩ hcat hdg (fun v_ w_ hp_ => ?_)
  refine hp_.elim (fun q_13 => ?_) (fun q_14 => ?_)
  · skip
    refine q_13.elim fun e_15 q_16 => q_16.elim fun x_1 e_17 => ?_
    clear hp_ q_13 q_16
    subst e_15
    subst e_17
    have hx9 := mp_ten_b (n := x1) hRT x_1 (show (-2 : Int32).toInt = -2 from by decide)
    refine mp_mgT [true, false, false, false, false, false, false, true, false, false, true, false, false, false, false, false, false, false, false, false, false, false, false, false, false, false] ?_
    exact kk _ _ _ _ _ (fun C_ h_ => h_ m 0 ui1 ui2 ui3 ui4 ui5 ui6 ui7 ui8 ui9 ui10 ui11 ui12 ui13 ui14 ui15 ui16 ui17 ui18 ui19 ui20 ui21 uf22 uf23 uf24 uf25 uf26 uf27 uf28 uf29 uf30 uf31 uf32 uf33 uf34 uf35 uf36 uf37 uf38 uf39 uf40 uf41 uf42 uf43 uf44 uf45 uf46 sw sl kp (mp_tenF td x0.toInt x1) it l_ui1 u_ui1 l_ui2 u_ui2 l_ui3 u_ui3 l_ui4 u_ui4 l_ui11 u_ui11 l_ui12 u_ui12 l_ui13 u_ui13 up24_0 up29_0 up29_1 up29_2 up29_3 up29_4 up30_0 up31_0 up32_0 up32_1 up33_0 up33_1 up33_2 up33_3 up34_0 up36_0 hMI hkp hSl hx9.2 hTI) ⟨rfl, hx9.1⟩ (by first | exact Nat.le_refl _ | omega) (by first | exact Nat.le_refl _ | omega)
  · skip
    refine q_14.elim fun g_2 q_18 => q_18.elim fun r_3 q_19 => q_19.elim fun e_20 q_21 => q_21.elim fun c_4 q_22 => q_22.elim fun c_5 q_23 => q_23.elim fun c_6 q_24 => q_24.elim fun p_7 q_25 => q_25.elim fun p_8 q_26 => q_26.elim fun p_9 q_27 => q_27.elim fun x_10 q_28 => q_28.elim fun x_11 q_29 => q_29.elim fun x_12 e_30 => ?_
    clear hp_ q_14 q_18 q_19 q_21 q_22 q_23 q_24 q_25 q_26 q_27 q_28 q_29
    subst e_20
    subst e_30
    have c_4 : 0 ≤ x0.toInt := c_4
    have c_5 : 0 ≤ x1.toInt := c_5
    have c_6 : x1.toInt ≤ 100 := c_6
    have hx9 := mp_ten_M hRT x_10 x_11 x_12
    refine mp_mgT [true, false, false, false, false, false, false, true, false, false, true, false, false, false, false, false, false, false, false, false, false, false, false, false, false, false] ?_
    exact kk _ _ _ _ _ (fun C_ h_ => h_ m 0 ui1 ui2 ui3 ui4 ui5 ui6 ui7 ui8 ui9 ui10 ui11 ui12 ui13 ui14 ui15 ui16 ui17 ui18 ui19 ui20 ui21 uf22 uf23 uf24 uf25 uf26 uf27 uf28 uf29 uf30 g_2 uf32 uf33 uf34 uf35 uf36 uf37 uf38 uf39 uf40 uf41 uf42 uf43 uf44 uf45 uf46 sw sl kp (mp_tenF td x0.toInt x1) it l_ui1 u_ui1 l_ui2 u_ui2 l_ui3 u_ui3 l_ui4 u_ui4 l_ui11 u_ui11 l_ui12 u_ui12 l_ui13 u_ui13 up24_0 up29_0 up29_1 up29_2 up29_3 up29_4 up30_0 up31_0 p_7 p_8 up33_0 up33_1 up33_2 up33_3 up34_0 up36_0 hMI hkp hSl hx9.2 (mp_TI_row0 hTI hWI ⟨(fun _ _ => rfl), (fun _ _ => rfl), (fun _ _ => rfl), (fun _ _ => rfl), p_9, (fun _ _ => rfl), (fun _ _ => rfl)⟩)) ⟨rfl, hx9.1⟩ (by first | exact Nat.le_refl _ | omega) (by first | exact Nat.le_refl _ | omega)
set_option maxHeartbeats 4000000 in
set_option maxRecDepth 100000 in
theorem mp_cm_count {E : mp_E} {X : mp_X} (hF : mp_F E X mp_ML) {pc : Nat} {lv : List (Nat × Value)} {rest : List Value} {A B : va_W} {k n q2 : Nat} {len : Int} {sw : Nat → Int32} {sl : Nat → Int32} {sn : Nat → Int64} {kp : Nat → Bool} {tp : Nat → Int32} {ft : Int} {fp : Int} {td : mp_TD} {it : Nat → mp_TD} (x0 : Int32) (hI : mp_IM E q2 len sw sl sn kp tp ft fp td it A) (hW : mp_WH td) (hWI : ∀ j : Nat, mp_WH (it j)) (hdg : decode code pc = .ok (.invokevirtual 239, 3)) (hk : k + 0 ≤ 706714) (hn : n + 0 ≤ 6982106) (hcat : (rest.map (fun v => v.category)).sum ≤ 8) (kk : ∀ (r : Int32) (A2 : va_W) (len2 : Int)  (k2 n2 : Nat), mp_IM E q2 len2 sw sl sn kp tp ft fp td it A2 → (len2 = len) → k2 ≤ k + 0 → n2 ≤ n + 0 → mp_W E X 4 (pc + 3) lv (.int r :: rest) (A2 ++ B) k2 n2) : mp_W E X 4 pc lv (.int x0 :: .ref q2 :: rest) (A ++ B) k n := by
  refine hI (fun len sw sl sn kp tp ft fp td it A => mp_WH td → (∀ j : Nat, mp_WH (it j)) → (∀ (r : Int32) (A2 : va_W) (len2 : Int)  (k2 n2 : Nat), mp_IM E q2 len2 sw sl sn kp tp ft fp td it A2 → (len2 = len) → k2 ≤ k + 0 → n2 ≤ n + 0 → mp_W E X 4 (pc + 3) lv (.int r :: rest) (A2 ++ B) k2 n2) → mp_W E X 4 pc lv (.int x0 :: .ref q2 :: rest) (A ++ B) k n) ?_ hW hWI kk
  intro m ui0 ui1 ui2 ui3 ui4 ui5 ui6 ui7 ui8 ui9 ui10 ui11 ui12 ui13 ui14 ui15 ui16 ui17 ui18 ui19 ui20 ui21 uf22 uf23 uf24 uf25 uf26 uf27 uf28 uf29 uf30 uf31 uf32 uf33 uf34 uf35 uf36 uf37 uf38 uf39 uf40 uf41 uf42 uf43 uf44 uf45 uf46 sw sl kp td it l_ui1 u_ui1 l_ui2 u_ui2 l_ui3 u_ui3 l_ui4 u_ui4 l_ui11 u_ui11 l_ui12 u_ui12 l_ui13 u_ui13 up24_0 up29_0 up29_1 up29_2 up29_3 up29_4 up30_0 up31_0 up32_0 up32_1 up33_0 up33_1 up33_2 up33_3 up34_0 up36_0 hMI hkp hSl hRT hTI hW hWI kk
  have hG := hW.2
  replace hW := hW.1
  replace hWI : ∀ j : Nat, mp_WF (it j) := fun j => (hWI j).1
  have hR := mp_MR_0 (hMI 0 (by decide))
  have hprm := hR.1
  have htin := hR.2
  refine mp_callVM (As := [.int x0]) (rest := rest) (T := B) [true, true, false, false, false, false, true, true, true, true, false, false, false, false, false, false, false, false, false, false, false, false, false, false, false, false] hF (bX10_count_159 E q2 (m 1) (m 6) (m 7) (m 8) (m 9) (m 2) (m 3) (m 4) (m 5) (m 10) (m 11) (m 12) (m 13) (m 14) (m 15) (m 16) (m 17) (m 18) (m 19) (m 20) (m 21) (m 22) (m 23) (m 24) (m 25) uf22 uf27 uf28 uf29 uf30 ui0 ui1 ui2 ui3 ui4 ui5 ui6 ui7 ui8 ui9 ui10 ui11 ui12 ui13 ui14 ui15 ui16 ui17 ui18 ui19 ui20 ui21 x0 up29_0 up29_1 up29_2 up29_3 up29_4 up30_0 up31_0 l_ui1 u_ui1 l_ui2 u_ui2 l_ui3 u_ui3 l_ui4 u_ui4 l_ui11 u_ui11 l_ui12 u_ui12 l_ui13 u_ui13) mp_lkL_239 rfl rfl ⟨(Nat.le_of_ble_eq_true rfl), (Nat.le_of_ble_eq_true rfl), (by first | exact hk | (show k + _ ≤ 706714; omega)), (by first | exact hn | (show n + _ ≤ 6982106; omega))⟩ hcat hdg (fun v_ w_ hp_ => ?_)
  obtain ⟨r_1, rfl, rfl⟩ := hp_
  refine mp_mgT [true, true, false, false, false, false, true, true, true, true, false, false, false, false, false, false, false, false, false, false, false, false, false, false, false, false] ?_
  exact kk _ _ _ _ _ (fun C_ h_ => h_ m 0 ui1 ui2 ui3 ui4 ui5 ui6 ui7 ui8 ui9 ui10 ui11 ui12 ui13 ui14 ui15 ui16 ui17 ui18 ui19 ui20 ui21 uf22 uf23 uf24 uf25 uf26 uf27 uf28 uf29 uf30 uf31 uf32 uf33 uf34 uf35 uf36 uf37 uf38 uf39 uf40 uf41 uf42 uf43 uf44 uf45 uf46 sw sl kp td it l_ui1 u_ui1 l_ui2 u_ui2 l_ui3 u_ui3 l_ui4 u_ui4 l_ui11 u_ui11 l_ui12 u_ui12 l_ui13 u_ui13 up24_0 up29_0 up29_1 up29_2 up29_3 up29_4 up30_0 up31_0 up32_0 up32_1 up33_0 up33_1 up33_2 up33_3 up34_0 up36_0 hMI hkp hSl hRT hTI) (by first | rfl | omega | decide | (have h8 : (0 : Int32).toInt = 0 := rfl; have h9 : (-1 : Int32).toInt = -1 := rfl; omega)) (by first | exact Nat.le_refl _ | omega) (by first | exact Nat.le_refl _ | omega)
set_option maxHeartbeats 4000000 in
set_option maxRecDepth 100000 in
theorem mp_cm_image {E : mp_E} {X : mp_X} (hF : mp_F E X mp_ML) {pc : Nat} {lv : List (Nat × Value)} {rest : List Value} {A B : va_W} {k n q2 : Nat} {len : Int} {sw : Nat → Int32} {sl : Nat → Int32} {sn : Nat → Int64} {kp : Nat → Bool} {tp : Nat → Int32} {ft : Int} {fp : Int} {td : mp_TD} {it : Nat → mp_TD} (x0 : Int32) (hI : mp_IM E q2 len sw sl sn kp tp ft fp td it A) (hW : mp_WH td) (hWI : ∀ j : Nat, mp_WH (it j)) (hdg : decode code pc = .ok (.invokevirtual 243, 3)) (hk : k + 0 ≤ 706714) (hn : n + 0 ≤ 6982106) (hcat : (rest.map (fun v => v.category)).sum ≤ 8) (kk : ∀ (r : Int32) (A2 : va_W) (len2 : Int)  (k2 n2 : Nat), mp_IM E q2 len2 sw sl sn (mp_kpF kp x0.toInt) tp ft fp td (mp_itF it td x0.toInt) A2 → (len2 = len ∧ r.toInt = mp_imgG x0.toInt) → k2 ≤ k + 0 → n2 ≤ n + 0 → mp_W E X 4 (pc + 3) lv (.int r :: rest) (A2 ++ B) k2 n2) : mp_W E X 4 pc lv (.int x0 :: .ref q2 :: rest) (A ++ B) k n := by
  refine hI (fun len sw sl sn kp tp ft fp td it A => mp_WH td → (∀ j : Nat, mp_WH (it j)) → (∀ (r : Int32) (A2 : va_W) (len2 : Int)  (k2 n2 : Nat), mp_IM E q2 len2 sw sl sn (mp_kpF kp x0.toInt) tp ft fp td (mp_itF it td x0.toInt) A2 → (len2 = len ∧ r.toInt = mp_imgG x0.toInt) → k2 ≤ k + 0 → n2 ≤ n + 0 → mp_W E X 4 (pc + 3) lv (.int r :: rest) (A2 ++ B) k2 n2) → mp_W E X 4 pc lv (.int x0 :: .ref q2 :: rest) (A ++ B) k n) ?_ hW hWI kk
  intro m ui0 ui1 ui2 ui3 ui4 ui5 ui6 ui7 ui8 ui9 ui10 ui11 ui12 ui13 ui14 ui15 ui16 ui17 ui18 ui19 ui20 ui21 uf22 uf23 uf24 uf25 uf26 uf27 uf28 uf29 uf30 uf31 uf32 uf33 uf34 uf35 uf36 uf37 uf38 uf39 uf40 uf41 uf42 uf43 uf44 uf45 uf46 sw sl kp td it l_ui1 u_ui1 l_ui2 u_ui2 l_ui3 u_ui3 l_ui4 u_ui4 l_ui11 u_ui11 l_ui12 u_ui12 l_ui13 u_ui13 up24_0 up29_0 up29_1 up29_2 up29_3 up29_4 up30_0 up31_0 up32_0 up32_1 up33_0 up33_1 up33_2 up33_3 up34_0 up36_0 hMI hkp hSl hRT hTI hW hWI kk
  have hG := hW.2
  replace hW := hW.1
  replace hWI : ∀ j : Nat, mp_WF (it j) := fun j => (hWI j).1
  have hR := mp_MR_0 (hMI 0 (by decide))
  have hprm := hR.1
  have htin := hR.2
  refine mp_callVM (As := [.int x0]) (rest := rest) (T := B) [true, false, false, false, false, false, true, true, true, true, true, true, true, true, false, false, false, false, false, false, false, false, false, false, false, false] hF (bX10_image_181 E q2 (m 6) (m 7) (m 8) (m 9) (m 10) (m 11) (m 12) (m 13) (m 1) (m 2) (m 3) (m 4) (m 5) (m 14) (m 15) (m 16) (m 17) (m 18) (m 19) (m 20) (m 21) (m 22) (m 23) (m 24) (m 25) uf27 uf28 uf29 uf30 uf31 uf32 uf33 uf34 ui0 ui1 ui2 ui3 ui4 ui5 ui6 ui7 ui8 ui9 ui10 ui11 ui12 ui13 ui14 ui15 ui16 ui17 ui18 ui19 ui20 ui21 x0 up29_0 up29_1 up29_2 up29_3 up29_4 up30_0 up31_0 up32_0 up32_1 up33_0 up33_1 up33_2 up33_3 up34_0 l_ui1 u_ui1 l_ui2 u_ui2 l_ui3 u_ui3 l_ui4 u_ui4 l_ui11 u_ui11 l_ui12 u_ui12 l_ui13 u_ui13) mp_lkL_243 rfl rfl ⟨(Nat.le_of_ble_eq_true rfl), (Nat.le_of_ble_eq_true rfl), (by first | exact hk | (show k + _ ≤ 706714; omega)), (by first | exact hn | (show n + _ ≤ 6982106; omega))⟩ hcat hdg (fun v_ w_ hp_ => ?_)
  refine hp_.elim (fun q_32 => ?_) (fun q_33 => ?_)
  · skip
    refine q_32.elim fun e_34 q_35 => q_35.elim fun x_1 e_36 => ?_
    clear hp_ q_32 q_35
    subst e_34
    subst e_36
    rw [mp_kpF_n (kp := kp) x_1, mp_itF_n (t := td) (it := it) x_1] at kk
    refine mp_mgT [true, false, false, false, false, false, true, true, true, true, true, true, true, true, false, false, false, false, false, false, false, false, false, false, false, false] ?_
    exact kk _ _ _ _ _ (fun C_ h_ => h_ m 0 ui1 ui2 ui3 ui4 ui5 ui6 ui7 ui8 ui9 ui10 ui11 ui12 ui13 ui14 ui15 ui16 ui17 ui18 ui19 ui20 ui21 uf22 uf23 uf24 uf25 uf26 uf27 uf28 uf29 uf30 uf31 uf32 uf33 uf34 uf35 uf36 uf37 uf38 uf39 uf40 uf41 uf42 uf43 uf44 uf45 uf46 sw sl kp td it l_ui1 u_ui1 l_ui2 u_ui2 l_ui3 u_ui3 l_ui4 u_ui4 l_ui11 u_ui11 l_ui12 u_ui12 l_ui13 u_ui13 up24_0 up29_0 up29_1 up29_2 up29_3 up29_4 up30_0 up31_0 up32_0 up32_1 up33_0 up33_1 up33_2 up33_3 up34_0 up36_0 hMI hkp hSl hRT hTI) ⟨rfl, (mp_img_G (Or.inl ⟨x_1, by decide⟩))⟩ (by first | exact Nat.le_refl _ | omega) (by first | exact Nat.le_refl _ | omega)
  · skip
    refine q_33.elim fun g_2 q_37 => q_37.elim fun g_3 q_38 => q_38.elim fun g_4 q_39 => q_39.elim fun g_5 q_40 => q_40.elim fun g_6 q_41 => q_41.elim fun g_7 q_42 => q_42.elim fun g_8 q_43 => q_43.elim fun g_9 q_44 => q_44.elim fun e_45 q_46 => q_46.elim fun c_10 q_47 => q_47.elim fun c_11 q_48 => q_48.elim fun p_12 q_49 => q_49.elim fun p_13 q_50 => q_50.elim fun p_14 q_51 => q_51.elim fun p_15 q_52 => q_52.elim fun p_16 q_53 => q_53.elim fun p_17 q_54 => q_54.elim fun p_18 q_55 => q_55.elim fun p_19 q_56 => q_56.elim fun p_20 q_57 => q_57.elim fun p_21 q_58 => q_58.elim fun p_22 q_59 => q_59.elim fun p_23 q_60 => q_60.elim fun p_24 q_61 => q_61.elim fun p_25 q_62 => q_62.elim fun x_26 q_63 => q_63.elim fun x_27 q_64 => q_64.elim fun x_28 q_65 => q_65.elim fun x_29 q_66 => q_66.elim fun x_30 q_67 => q_67.elim fun x_31 e_68 => ?_
    clear hp_ q_33 q_37 q_38 q_39 q_40 q_41 q_42 q_43 q_44 q_46 q_47 q_48 q_49 q_50 q_51 q_52 q_53 q_54 q_55 q_56 q_57 q_58 q_59 q_60 q_61 q_62 q_63 q_64 q_65 q_66 q_67
    subst e_45
    subst e_68
    have c_10 : 0 ≤ x0.toInt := c_10
    have c_11 : x0.toInt ≤ 2 := c_11
    refine mp_mgT [true, false, false, false, false, false, true, true, true, true, true, true, true, true, false, false, false, false, false, false, false, false, false, false, false, false] ?_
    exact kk _ _ _ _ _ (fun C_ h_ => h_ m 0 ui1 ui2 ui3 ui4 ui5 ui6 ui7 ui8 ui9 ui10 ui11 ui12 ui13 ui14 ui15 ui16 ui17 ui18 ui19 ui20 ui21 uf22 uf23 uf24 uf25 uf26 g_2 g_3 g_4 g_5 g_6 g_7 g_8 g_9 uf35 uf36 uf37 uf38 uf39 uf40 uf41 uf42 uf43 uf44 uf45 uf46 sw sl _ td _ l_ui1 u_ui1 l_ui2 u_ui2 l_ui3 u_ui3 l_ui4 u_ui4 l_ui11 u_ui11 l_ui12 u_ui12 l_ui13 u_ui13 up24_0 p_12 p_13 p_14 p_15 p_16 p_17 p_18 p_19 p_20 p_21 p_22 p_23 p_24 p_25 up36_0 (mp_MI_cp 0 (1 + x0.toInt.toNat) hMI up29_3 up29_4 x_26 x_27 x_28 (by decide) (by omega) ⟨by omega, by omega, by omega, by omega, by omega, by omega⟩) (mp_kpF_m x_31 hkp x_30) hSl (mp_r0_img hRT hW x_29 (by omega)) (mp_TI_img hTI hWI hRT hW x_29 x_30)) ⟨rfl, (mp_img_G (Or.inr ⟨x_30, by decide⟩))⟩ (by first | exact Nat.le_refl _ | omega) (by first | exact Nat.le_refl _ | omega)
set_option maxHeartbeats 4000000 in
set_option maxRecDepth 100000 in
theorem mp_cm_back {E : mp_E} {X : mp_X} (hF : mp_F E X mp_ML) {pc : Nat} {lv : List (Nat × Value)} {rest : List Value} {A B : va_W} {k n q2 : Nat} {len : Int} {sw : Nat → Int32} {sl : Nat → Int32} {sn : Nat → Int64} {kp : Nat → Bool} {tp : Nat → Int32} {ft : Int} {fp : Int} {td : mp_TD} {it : Nat → mp_TD} (x0 : Int32) (hI : mp_IM E q2 len sw sl sn kp tp ft fp td it A) (hW : mp_WH td) (hWI : ∀ j : Nat, mp_WH (it j)) (hdg : decode code pc = .ok (.invokevirtual 247, 3)) (hk : k + 0 ≤ 706714) (hn : n + 0 ≤ 6982106) (hcat : (rest.map (fun v => v.category)).sum ≤ 8) (kk : ∀ (r : Int32) (A2 : va_W) (len2 : Int)  (k2 n2 : Nat), mp_IM E q2 len2 sw sl sn kp tp ft fp (mp_bckF td it kp x0.toInt) it A2 → (len2 = len ∧ r.toInt = mp_bckG kp x0.toInt) → k2 ≤ k + 0 → n2 ≤ n + 0 → mp_W E X 4 (pc + 3) lv (.int r :: rest) (A2 ++ B) k2 n2) : mp_W E X 4 pc lv (.int x0 :: .ref q2 :: rest) (A ++ B) k n := by
  refine hI (fun len sw sl sn kp tp ft fp td it A => mp_WH td → (∀ j : Nat, mp_WH (it j)) → (∀ (r : Int32) (A2 : va_W) (len2 : Int)  (k2 n2 : Nat), mp_IM E q2 len2 sw sl sn kp tp ft fp (mp_bckF td it kp x0.toInt) it A2 → (len2 = len ∧ r.toInt = mp_bckG kp x0.toInt) → k2 ≤ k + 0 → n2 ≤ n + 0 → mp_W E X 4 (pc + 3) lv (.int r :: rest) (A2 ++ B) k2 n2) → mp_W E X 4 pc lv (.int x0 :: .ref q2 :: rest) (A ++ B) k n) ?_ hW hWI kk
  intro m ui0 ui1 ui2 ui3 ui4 ui5 ui6 ui7 ui8 ui9 ui10 ui11 ui12 ui13 ui14 ui15 ui16 ui17 ui18 ui19 ui20 ui21 uf22 uf23 uf24 uf25 uf26 uf27 uf28 uf29 uf30 uf31 uf32 uf33 uf34 uf35 uf36 uf37 uf38 uf39 uf40 uf41 uf42 uf43 uf44 uf45 uf46 sw sl kp td it l_ui1 u_ui1 l_ui2 u_ui2 l_ui3 u_ui3 l_ui4 u_ui4 l_ui11 u_ui11 l_ui12 u_ui12 l_ui13 u_ui13 up24_0 up29_0 up29_1 up29_2 up29_3 up29_4 up30_0 up31_0 up32_0 up32_1 up33_0 up33_1 up33_2 up33_3 up34_0 up36_0 hMI hkp hSl hRT hTI hW hWI kk
  have hG := hW.2
  replace hW := hW.1
  replace hWI : ∀ j : Nat, mp_WF (it j) := fun j => (hWI j).1
  have hR := mp_MR_0 (hMI 0 (by decide))
  have hprm := hR.1
  have htin := hR.2
  refine mp_callVM (As := [.int x0]) (rest := rest) (T := B) [true, false, false, false, false, false, true, true, true, true, true, true, true, true, false, false, false, false, false, false, false, false, false, false, false, false] hF (bX10_back_203 E q2 (m 6) (m 7) (m 8) (m 9) (m 10) (m 11) (m 12) (m 13) (m 1) (m 2) (m 3) (m 4) (m 5) (m 14) (m 15) (m 16) (m 17) (m 18) (m 19) (m 20) (m 21) (m 22) (m 23) (m 24) (m 25) uf27 uf28 uf29 uf30 uf31 uf32 uf33 uf34 ui0 ui1 ui2 ui3 ui4 ui5 ui6 ui7 ui8 ui9 ui10 ui11 ui12 ui13 ui14 ui15 ui16 ui17 ui18 ui19 ui20 ui21 x0 up29_0 up29_1 up29_2 up29_3 up29_4 up30_0 up31_0 up32_0 up32_1 up33_0 up33_1 up33_2 up33_3 up34_0 l_ui1 u_ui1 l_ui2 u_ui2 l_ui3 u_ui3 l_ui4 u_ui4 l_ui11 u_ui11 l_ui12 u_ui12 l_ui13 u_ui13) mp_lkL_247 rfl rfl ⟨(Nat.le_of_ble_eq_true rfl), (Nat.le_of_ble_eq_true rfl), (by first | exact hk | (show k + _ ≤ 706714; omega)), (by first | exact hn | (show n + _ ≤ 6982106; omega))⟩ hcat hdg (fun v_ w_ hp_ => ?_)
  refine hp_.elim (fun q_33 => ?_) (fun q_34 => q_34.elim (fun q_35 => ?_) (fun q_36 => ?_))
  · skip
    refine q_33.elim fun e_37 q_38 => q_38.elim fun x_1 e_39 => ?_
    clear hp_ q_33 q_38
    subst e_37
    subst e_39
    rw [mp_bckF_n (t := td) (it := it) (kp := kp) (Or.inl x_1)] at kk
    refine mp_mgT [true, false, false, false, false, false, true, true, true, true, true, true, true, true, false, false, false, false, false, false, false, false, false, false, false, false] ?_
    exact kk _ _ _ _ _ (fun C_ h_ => h_ m 0 ui1 ui2 ui3 ui4 ui5 ui6 ui7 ui8 ui9 ui10 ui11 ui12 ui13 ui14 ui15 ui16 ui17 ui18 ui19 ui20 ui21 uf22 uf23 uf24 uf25 uf26 uf27 uf28 uf29 uf30 uf31 uf32 uf33 uf34 uf35 uf36 uf37 uf38 uf39 uf40 uf41 uf42 uf43 uf44 uf45 uf46 sw sl kp td it l_ui1 u_ui1 l_ui2 u_ui2 l_ui3 u_ui3 l_ui4 u_ui4 l_ui11 u_ui11 l_ui12 u_ui12 l_ui13 u_ui13 up24_0 up29_0 up29_1 up29_2 up29_3 up29_4 up30_0 up31_0 up32_0 up32_1 up33_0 up33_1 up33_2 up33_3 up34_0 up36_0 hMI hkp hSl hRT hTI) ⟨rfl, (mp_bck_G (Or.inl ⟨x_1, by decide⟩))⟩ (by first | exact Nat.le_refl _ | omega) (by first | exact Nat.le_refl _ | omega)
  · skip
    refine q_35.elim fun g_2 q_40 => q_40.elim fun g_3 q_41 => q_41.elim fun g_4 q_42 => q_42.elim fun g_5 q_43 => q_43.elim fun g_6 q_44 => q_44.elim fun g_7 q_45 => q_45.elim fun g_8 q_46 => q_46.elim fun e_47 q_48 => q_48.elim fun c_9 q_49 => q_49.elim fun c_10 q_50 => q_50.elim fun p_11 q_51 => q_51.elim fun p_12 q_52 => q_52.elim fun p_13 q_53 => q_53.elim fun p_14 q_54 => q_54.elim fun p_15 q_55 => q_55.elim fun p_16 q_56 => q_56.elim fun p_17 q_57 => q_57.elim fun p_18 q_58 => q_58.elim fun p_19 q_59 => q_59.elim fun p_20 q_60 => q_60.elim fun p_21 q_61 => q_61.elim fun p_22 q_62 => q_62.elim fun p_23 q_63 => q_63.elim fun p_24 q_64 => q_64.elim fun x_25 q_65 => q_65.elim fun x_26 q_66 => q_66.elim fun x_27 q_67 => q_67.elim fun x_28 q_68 => q_68.elim fun x_29 e_69 => ?_
    clear hp_ q_34 q_35 q_40 q_41 q_42 q_43 q_44 q_45 q_46 q_48 q_49 q_50 q_51 q_52 q_53 q_54 q_55 q_56 q_57 q_58 q_59 q_60 q_61 q_62 q_63 q_64 q_65 q_66 q_67 q_68
    subst e_47
    subst e_69
    have c_9 : 0 ≤ x0.toInt := c_9
    have c_10 : x0.toInt ≤ 2 := c_10
    have hq9 : kp x0.toInt.toNat = true := (hkp _ (by omega)).trans (decide_eq_true x_29.2.2)
    refine mp_mgT [true, false, false, false, false, false, true, true, true, true, true, true, true, true, false, false, false, false, false, false, false, false, false, false, false, false] ?_
    exact kk _ _ _ _ _ (fun C_ h_ => h_ m 0 ui1 ui2 ui3 ui4 ui5 ui6 ui7 ui8 ui9 ui10 ui11 ui12 ui13 ui14 ui15 ui16 ui17 ui18 ui19 ui20 ui21 uf22 uf23 uf24 uf25 uf26 g_2 g_3 g_4 g_5 g_6 g_7 g_8 uf34 uf35 uf36 uf37 uf38 uf39 uf40 uf41 uf42 uf43 uf44 uf45 uf46 sw sl kp (mp_bckF td it kp x0.toInt) it l_ui1 u_ui1 l_ui2 u_ui2 l_ui3 u_ui3 l_ui4 u_ui4 l_ui11 u_ui11 l_ui12 u_ui12 l_ui13 u_ui13 up24_0 p_11 p_12 p_13 p_14 p_15 p_16 p_17 p_18 p_19 p_20 p_21 p_22 p_23 p_24 up36_0 (mp_MI_cp (1 + x0.toInt.toNat) 0 hMI up29_3 up29_4 x_25 x_26 x_27 (by omega) (by decide) ⟨by omega, by omega, by omega, by omega, by omega, by omega⟩) hkp hSl (mp_r0_bck hTI hWI ⟨by omega, by omega⟩ hq9 x_28) (mp_TI_cp0 hTI hWI x_28)) ⟨rfl, (mp_bck_G (Or.inr (Or.inr ⟨⟨by omega, by omega⟩, hq9, by decide⟩)))⟩ (by first | exact Nat.le_refl _ | omega) (by first | exact Nat.le_refl _ | omega)
  · skip
    refine q_36.elim fun e_70 q_71 => q_71.elim fun c_30 q_72 => q_72.elim fun c_31 q_73 => q_73.elim fun x_32 e_74 => ?_
    clear hp_ q_34 q_36 q_71 q_72 q_73
    subst e_70
    subst e_74
    have c_30 : 0 ≤ x0.toInt := c_30
    have c_31 : x0.toInt ≤ 2 := c_31
    have hq9 : kp x0.toInt.toNat = false := (hkp _ (by omega)).trans (decide_eq_false (fun q => q x_32.2.2))
    rw [mp_bckF_n (t := td) (it := it) (kp := kp) (Or.inr hq9)] at kk
    refine mp_mgT [true, false, false, false, false, false, true, true, true, true, true, true, true, true, false, false, false, false, false, false, false, false, false, false, false, false] ?_
    exact kk _ _ _ _ _ (fun C_ h_ => h_ m 0 ui1 ui2 ui3 ui4 ui5 ui6 ui7 ui8 ui9 ui10 ui11 ui12 ui13 ui14 ui15 ui16 ui17 ui18 ui19 ui20 ui21 uf22 uf23 uf24 uf25 uf26 uf27 uf28 uf29 uf30 uf31 uf32 uf33 uf34 uf35 uf36 uf37 uf38 uf39 uf40 uf41 uf42 uf43 uf44 uf45 uf46 sw sl kp td it l_ui1 u_ui1 l_ui2 u_ui2 l_ui3 u_ui3 l_ui4 u_ui4 l_ui11 u_ui11 l_ui12 u_ui12 l_ui13 u_ui13 up24_0 up29_0 up29_1 up29_2 up29_3 up29_4 up30_0 up31_0 up32_0 up32_1 up33_0 up33_1 up33_2 up33_3 up34_0 up36_0 hMI hkp hSl hRT hTI) ⟨rfl, (mp_bck_G (Or.inr (Or.inl ⟨⟨by omega, by omega⟩, hq9, by decide⟩)))⟩ (by first | exact Nat.le_refl _ | omega) (by first | exact Nat.le_refl _ | omega)
set_option maxHeartbeats 4000000 in
set_option maxRecDepth 100000 in
theorem mp_cm_row {E : mp_E} {X : mp_X} (hF : mp_F E X mp_ML) {pc : Nat} {lv : List (Nat × Value)} {rest : List Value} {A B : va_W} {k n q2 : Nat} {len : Int} {sw : Nat → Int32} {sl : Nat → Int32} {sn : Nat → Int64} {kp : Nat → Bool} {tp : Nat → Int32} {ft : Int} {fp : Int} {td : mp_TD} {it : Nat → mp_TD} (x0 : Int32) (x1 : Int32) (x2 : Int32) (hI : mp_IM E q2 len sw sl sn kp tp ft fp td it A) (hW : mp_WH td) (hWI : ∀ j : Nat, mp_WH (it j)) (hdg : decode code pc = .ok (.invokevirtual 251, 3)) (hk : k + 0 ≤ 706714) (hn : n + 0 ≤ 6982106) (hcat : (rest.map (fun v => v.category)).sum ≤ 8) (kk : ∀ (r : Int32) (A2 : va_W) (len2 : Int)  (k2 n2 : Nat), mp_IM E q2 len2 (mp_rowW sw x0 x1 x2 x1) (mp_rowW sl x0 x1 x2 x2) (mp_rowN sn x0.toInt x1.toInt x2.toInt) kp tp ft fp td it A2 → (len2 = len ∧ r.toInt = mp_rowG x0.toInt x1.toInt x2.toInt) → k2 ≤ k + 0 → n2 ≤ n + 0 → mp_W E X 4 (pc + 3) lv (.int r :: rest) (A2 ++ B) k2 n2) : mp_W E X 4 pc lv (.int x2 :: .int x1 :: .int x0 :: .ref q2 :: rest) (A ++ B) k n := by
  refine hI (fun len sw sl sn kp tp ft fp td it A => mp_WH td → (∀ j : Nat, mp_WH (it j)) → (∀ (r : Int32) (A2 : va_W) (len2 : Int)  (k2 n2 : Nat), mp_IM E q2 len2 (mp_rowW sw x0 x1 x2 x1) (mp_rowW sl x0 x1 x2 x2) (mp_rowN sn x0.toInt x1.toInt x2.toInt) kp tp ft fp td it A2 → (len2 = len ∧ r.toInt = mp_rowG x0.toInt x1.toInt x2.toInt) → k2 ≤ k + 0 → n2 ≤ n + 0 → mp_W E X 4 (pc + 3) lv (.int r :: rest) (A2 ++ B) k2 n2) → mp_W E X 4 pc lv (.int x2 :: .int x1 :: .int x0 :: .ref q2 :: rest) (A ++ B) k n) ?_ hW hWI kk
  intro m ui0 ui1 ui2 ui3 ui4 ui5 ui6 ui7 ui8 ui9 ui10 ui11 ui12 ui13 ui14 ui15 ui16 ui17 ui18 ui19 ui20 ui21 uf22 uf23 uf24 uf25 uf26 uf27 uf28 uf29 uf30 uf31 uf32 uf33 uf34 uf35 uf36 uf37 uf38 uf39 uf40 uf41 uf42 uf43 uf44 uf45 uf46 sw sl kp td it l_ui1 u_ui1 l_ui2 u_ui2 l_ui3 u_ui3 l_ui4 u_ui4 l_ui11 u_ui11 l_ui12 u_ui12 l_ui13 u_ui13 up24_0 up29_0 up29_1 up29_2 up29_3 up29_4 up30_0 up31_0 up32_0 up32_1 up33_0 up33_1 up33_2 up33_3 up34_0 up36_0 hMI hkp hSl hRT hTI hW hWI kk
  have hG := hW.2
  replace hW := hW.1
  replace hWI : ∀ j : Nat, mp_WF (it j) := fun j => (hWI j).1
  have hR := mp_MR_0 (hMI 0 (by decide))
  have hprm := hR.1
  have htin := hR.2
  refine mp_callVM (As := [.int x0, .int x1, .int x2]) (rest := rest) (T := B) [true, true, true, true, false, false, false, false, false, false, false, false, false, false, false, false, false, false, false, false, false, false, false, false, false, false] hF (bX10_row_2 E q2 (m 1) (m 2) (m 3) (m 4) (m 5) (m 6) (m 7) (m 8) (m 9) (m 10) (m 11) (m 12) (m 13) (m 14) (m 15) (m 16) (m 17) (m 18) (m 19) (m 20) (m 21) (m 22) (m 23) (m 24) (m 25) uf22 uf23 uf24 ui0 ui1 ui2 ui3 ui4 ui5 ui6 ui7 ui8 ui9 ui10 ui11 ui12 ui13 ui14 ui15 ui16 ui17 ui18 ui19 ui20 ui21 x0 x1 x2 up24_0 l_ui1 u_ui1 l_ui2 u_ui2 l_ui3 u_ui3 l_ui4 u_ui4 l_ui11 u_ui11 l_ui12 u_ui12 l_ui13 u_ui13) mp_lkL_251 rfl rfl ⟨(Nat.le_of_ble_eq_true rfl), (Nat.le_of_ble_eq_true rfl), (by first | exact hk | (show k + _ ≤ 706714; omega)), (by first | exact hn | (show n + _ ≤ 6982106; omega))⟩ hcat hdg (fun v_ w_ hp_ => ?_)
  refine hp_.elim (fun q_23 => ?_) (fun q_24 => q_24.elim (fun q_25 => ?_) (fun q_26 => ?_))
  · skip
    refine q_23.elim fun e_27 q_28 => q_28.elim fun x_1 e_29 => ?_
    clear hp_ q_23 q_28
    subst e_27
    subst e_29
    have hb9 := mp_row_b (x0 := x0) (x1 := x1) (x2 := x2) x_1 (show (-2 : Int32).toInt = -2 from by decide)
    rw [hb9.2 sw x1, hb9.2 sl x2, mp_row_bn (sn := uf24) (x0 := x0) (x1 := x1) (x2 := x2) (by omega)] at kk
    refine mp_mgT [true, true, true, true, false, false, false, false, false, false, false, false, false, false, false, false, false, false, false, false, false, false, false, false, false, false] ?_
    exact kk _ _ _ _ _ (fun C_ h_ => h_ m 0 ui1 ui2 ui3 ui4 ui5 ui6 ui7 ui8 ui9 ui10 ui11 ui12 ui13 ui14 ui15 ui16 ui17 ui18 ui19 ui20 ui21 uf22 uf23 uf24 uf25 uf26 uf27 uf28 uf29 uf30 uf31 uf32 uf33 uf34 uf35 uf36 uf37 uf38 uf39 uf40 uf41 uf42 uf43 uf44 uf45 uf46 sw sl kp td it l_ui1 u_ui1 l_ui2 u_ui2 l_ui3 u_ui3 l_ui4 u_ui4 l_ui11 u_ui11 l_ui12 u_ui12 l_ui13 u_ui13 up24_0 up29_0 up29_1 up29_2 up29_3 up29_4 up30_0 up31_0 up32_0 up32_1 up33_0 up33_1 up33_2 up33_3 up34_0 up36_0 hMI hkp hSl hRT hTI) ⟨rfl, hb9.1⟩ (by first | exact Nat.le_refl _ | omega) (by first | exact Nat.le_refl _ | omega)
  · skip
    refine q_25.elim fun g_2 q_30 => q_30.elim fun g_3 q_31 => q_31.elim fun g_4 q_32 => q_32.elim fun e_33 q_34 => q_34.elim fun c_5 q_35 => q_35.elim fun c_6 q_36 => q_36.elim fun c_7 q_37 => q_37.elim fun c_8 q_38 => q_38.elim fun c_9 q_39 => q_39.elim fun c_10 q_40 => q_40.elim fun p_11 q_41 => q_41.elim fun x_12 q_42 => q_42.elim fun x_13 q_43 => q_43.elim fun x_14 q_44 => q_44.elim fun x_15 e_45 => ?_
    clear hp_ q_24 q_25 q_30 q_31 q_32 q_34 q_35 q_36 q_37 q_38 q_39 q_40 q_41 q_42 q_43 q_44
    subst e_33
    subst e_45
    have c_5 : 0 ≤ x0.toInt := c_5
    have c_6 : x0.toInt ≤ 3 := c_6
    have c_7 : 0 ≤ x1.toInt := c_7
    have c_8 : x1.toInt ≤ 3 := c_8
    have c_9 : x2.toInt ≤ 60 := c_9
    have c_10 : 0 ≤ x2.toInt := c_10
    rw [← mp_row_n (sn := uf24) (x0 := x0) (x1 := x1) (x2 := x2) x_12 x_15] at kk
    refine mp_mgT [true, true, true, true, false, false, false, false, false, false, false, false, false, false, false, false, false, false, false, false, false, false, false, false, false, false] ?_
    exact kk _ _ _ _ _ (fun C_ h_ => h_ m 0 ui1 ui2 ui3 ui4 ui5 ui6 ui7 ui8 ui9 ui10 ui11 ui12 ui13 ui14 ui15 ui16 ui17 ui18 ui19 ui20 ui21 g_2 g_3 g_4 uf25 uf26 uf27 uf28 uf29 uf30 uf31 uf32 uf33 uf34 uf35 uf36 uf37 uf38 uf39 uf40 uf41 uf42 uf43 uf44 uf45 uf46 (mp_rowW sw x0 x1 x2 x1) (mp_rowW sl x0 x1 x2 x2) kp td it l_ui1 u_ui1 l_ui2 u_ui2 l_ui3 u_ui3 l_ui4 u_ui4 l_ui11 u_ui11 l_ui12 u_ui12 l_ui13 u_ui13 p_11 up29_0 up29_1 up29_2 up29_3 up29_4 up30_0 up31_0 up32_0 up32_1 up33_0 up33_1 up33_2 up33_3 up34_0 up36_0 hMI hkp (mp_row_M x_12 hSl x_13 x_14) hRT hTI) ⟨rfl, (mp_row_k x_12 (show (0 : Int32).toInt = 0 from by decide))⟩ (by first | exact Nat.le_refl _ | omega) (by first | exact Nat.le_refl _ | omega)
  · skip
    refine q_26.elim fun e_46 q_47 => q_47.elim fun c_16 q_48 => q_48.elim fun c_17 q_49 => q_49.elim fun c_18 q_50 => q_50.elim fun c_19 q_51 => q_51.elim fun c_20 q_52 => q_52.elim fun c_21 q_53 => q_53.elim fun x_22 e_54 => ?_
    clear hp_ q_24 q_26 q_47 q_48 q_49 q_50 q_51 q_52 q_53
    subst e_46
    subst e_54
    have c_16 : 0 ≤ x0.toInt := c_16
    have c_17 : x0.toInt ≤ 3 := c_17
    have c_18 : 0 ≤ x1.toInt := c_18
    have c_19 : x1.toInt ≤ 3 := c_19
    have c_20 : x2.toInt ≤ 60 := c_20
    have c_21 : x2.toInt < 0 := c_21
    have hb9 := mp_row_3 (x0 := x0) (x1 := x1) (x2 := x2) x_22 (show (-3 : Int32).toInt = -3 from by decide)
    rw [hb9.2 sw x1, hb9.2 sl x2, mp_row_bn (sn := uf24) (x0 := x0) (x1 := x1) (x2 := x2) (by omega)] at kk
    refine mp_mgT [true, true, true, true, false, false, false, false, false, false, false, false, false, false, false, false, false, false, false, false, false, false, false, false, false, false] ?_
    exact kk _ _ _ _ _ (fun C_ h_ => h_ m 0 ui1 ui2 ui3 ui4 ui5 ui6 ui7 ui8 ui9 ui10 ui11 ui12 ui13 ui14 ui15 ui16 ui17 ui18 ui19 ui20 ui21 uf22 uf23 uf24 uf25 uf26 uf27 uf28 uf29 uf30 uf31 uf32 uf33 uf34 uf35 uf36 uf37 uf38 uf39 uf40 uf41 uf42 uf43 uf44 uf45 uf46 sw sl kp td it l_ui1 u_ui1 l_ui2 u_ui2 l_ui3 u_ui3 l_ui4 u_ui4 l_ui11 u_ui11 l_ui12 u_ui12 l_ui13 u_ui13 up24_0 up29_0 up29_1 up29_2 up29_3 up29_4 up30_0 up31_0 up32_0 up32_1 up33_0 up33_1 up33_2 up33_3 up34_0 up36_0 hMI hkp hSl hRT hTI) ⟨rfl, hb9.1⟩ (by first | exact Nat.le_refl _ | omega) (by first | exact Nat.le_refl _ | omega)
set_option maxHeartbeats 4000000 in
set_option maxRecDepth 100000 in
theorem mp_cm_write {E : mp_E} {X : mp_X} (hF : mp_F E X mp_ML) {pc : Nat} {lv : List (Nat × Value)} {rest : List Value} {A B : va_W} {k n q2 : Nat} {len : Int} {sw : Nat → Int32} {sl : Nat → Int32} {sn : Nat → Int64} {kp : Nat → Bool} {tp : Nat → Int32} {ft : Int} {fp : Int} {td : mp_TD} {it : Nat → mp_TD} (x0 : Int32) (x1 : Int32) (x2 : Int64) (hI : mp_IM E q2 len sw sl sn kp tp ft fp td it A) (hW : mp_WH td) (hWI : ∀ j : Nat, mp_WH (it j)) (hdg : decode code pc = .ok (.invokevirtual 258, 3)) (hk : k + 0 ≤ 706714) (hn : n + 0 ≤ 6982106) (hcat : (rest.map (fun v => v.category)).sum ≤ 8) (kk : ∀ (r : Int32) (A2 : va_W) (len2 : Int)  (k2 n2 : Nat), mp_IM E q2 len2 sw sl (mp_wrtN sn sw sl x0.toInt x1.toInt x2) kp tp ft fp td it A2 → (len2 = len ∧ r.toInt = mp_wrtG sl x0.toInt x1.toInt) → k2 ≤ k + 0 → n2 ≤ n + 0 → mp_W E X 4 (pc + 3) lv (.int r :: rest) (A2 ++ B) k2 n2) : mp_W E X 4 pc lv (.long x2 :: .int x1 :: .int x0 :: .ref q2 :: rest) (A ++ B) k n := by
  refine hI (fun len sw sl sn kp tp ft fp td it A => mp_WH td → (∀ j : Nat, mp_WH (it j)) → (∀ (r : Int32) (A2 : va_W) (len2 : Int)  (k2 n2 : Nat), mp_IM E q2 len2 sw sl (mp_wrtN sn sw sl x0.toInt x1.toInt x2) kp tp ft fp td it A2 → (len2 = len ∧ r.toInt = mp_wrtG sl x0.toInt x1.toInt) → k2 ≤ k + 0 → n2 ≤ n + 0 → mp_W E X 4 (pc + 3) lv (.int r :: rest) (A2 ++ B) k2 n2) → mp_W E X 4 pc lv (.long x2 :: .int x1 :: .int x0 :: .ref q2 :: rest) (A ++ B) k n) ?_ hW hWI kk
  intro m ui0 ui1 ui2 ui3 ui4 ui5 ui6 ui7 ui8 ui9 ui10 ui11 ui12 ui13 ui14 ui15 ui16 ui17 ui18 ui19 ui20 ui21 uf22 uf23 uf24 uf25 uf26 uf27 uf28 uf29 uf30 uf31 uf32 uf33 uf34 uf35 uf36 uf37 uf38 uf39 uf40 uf41 uf42 uf43 uf44 uf45 uf46 sw sl kp td it l_ui1 u_ui1 l_ui2 u_ui2 l_ui3 u_ui3 l_ui4 u_ui4 l_ui11 u_ui11 l_ui12 u_ui12 l_ui13 u_ui13 up24_0 up29_0 up29_1 up29_2 up29_3 up29_4 up30_0 up31_0 up32_0 up32_1 up33_0 up33_1 up33_2 up33_3 up34_0 up36_0 hMI hkp hSl hRT hTI hW hWI kk
  have hG := hW.2
  replace hW := hW.1
  replace hWI : ∀ j : Nat, mp_WF (it j) := fun j => (hWI j).1
  have hR := mp_MR_0 (hMI 0 (by decide))
  have hprm := hR.1
  have htin := hR.2
  refine mp_callVM (As := [.int x0, .int x1, .long x2]) (rest := rest) (T := B) [true, true, true, true, false, false, false, false, false, false, false, false, false, false, false, false, false, false, false, false, false, false, false, false, false, false] hF (bX10_write_4 E q2 (m 1) (m 2) (m 3) (m 4) (m 5) (m 6) (m 7) (m 8) (m 9) (m 10) (m 11) (m 12) (m 13) (m 14) (m 15) (m 16) (m 17) (m 18) (m 19) (m 20) (m 21) (m 22) (m 23) (m 24) (m 25) uf22 uf23 uf24 ui0 ui1 ui2 ui3 ui4 ui5 ui6 ui7 ui8 ui9 ui10 ui11 ui12 ui13 ui14 ui15 ui16 ui17 ui18 ui19 ui20 ui21 x0 x1 x2 up24_0 l_ui1 u_ui1 l_ui2 u_ui2 l_ui3 u_ui3 l_ui4 u_ui4 l_ui11 u_ui11 l_ui12 u_ui12 l_ui13 u_ui13) mp_lkL_258 rfl rfl ⟨(Nat.le_of_ble_eq_true rfl), (Nat.le_of_ble_eq_true rfl), (by first | exact hk | (show k + _ ≤ 706714; omega)), (by first | exact hn | (show n + _ ≤ 6982106; omega))⟩ hcat hdg (fun v_ w_ hp_ => ?_)
  refine hp_.elim (fun q_14 => ?_) (fun q_15 => q_15.elim (fun q_16 => ?_) (fun q_17 => q_17.elim (fun q_18 => ?_) (fun q_19 => ?_)))
  · skip
    refine q_14.elim fun e_20 q_21 => q_21.elim fun x_1 e_22 => ?_
    clear hp_ q_14 q_21
    subst e_20
    subst e_22
    rw [mp_wrt_n (sn := uf24) (sw := sw) (sl := sl) (s := x0.toInt) (i := x1.toInt) (v := x2) (by omega)] at kk
    refine mp_mgT [true, true, true, true, false, false, false, false, false, false, false, false, false, false, false, false, false, false, false, false, false, false, false, false, false, false] ?_
    exact kk _ _ _ _ _ (fun C_ h_ => h_ m 0 ui1 ui2 ui3 ui4 ui5 ui6 ui7 ui8 ui9 ui10 ui11 ui12 ui13 ui14 ui15 ui16 ui17 ui18 ui19 ui20 ui21 uf22 uf23 uf24 uf25 uf26 uf27 uf28 uf29 uf30 uf31 uf32 uf33 uf34 uf35 uf36 uf37 uf38 uf39 uf40 uf41 uf42 uf43 uf44 uf45 uf46 sw sl kp td it l_ui1 u_ui1 l_ui2 u_ui2 l_ui3 u_ui3 l_ui4 u_ui4 l_ui11 u_ui11 l_ui12 u_ui12 l_ui13 u_ui13 up24_0 up29_0 up29_1 up29_2 up29_3 up29_4 up30_0 up31_0 up32_0 up32_1 up33_0 up33_1 up33_2 up33_3 up34_0 up36_0 hMI hkp hSl hRT hTI) ⟨rfl, (mp_wrt_G (Or.inl ⟨by omega, (show (-2 : Int32).toInt = -2 from by decide)⟩))⟩ (by first | exact Nat.le_refl _ | omega) (by first | exact Nat.le_refl _ | omega)
  · skip
    refine q_16.elim fun e_23 q_24 => q_24.elim fun c_2 q_25 => q_25.elim fun c_3 q_26 => q_26.elim fun x_4 e_27 => ?_
    clear hp_ q_15 q_16 q_24 q_25 q_26
    subst e_23
    subst e_27
    have c_2 : 0 ≤ x0.toInt := c_2
    have c_3 : x0.toInt ≤ 3 := c_3
    have k9 := mp_slM_i hSl (s := x0.toInt) ⟨by omega, by omega⟩
    rw [mp_wrt_n (sn := uf24) (sw := sw) (sl := sl) (s := x0.toInt) (i := x1.toInt) (v := x2) (by omega)] at kk
    refine mp_mgT [true, true, true, true, false, false, false, false, false, false, false, false, false, false, false, false, false, false, false, false, false, false, false, false, false, false] ?_
    exact kk _ _ _ _ _ (fun C_ h_ => h_ m 0 ui1 ui2 ui3 ui4 ui5 ui6 ui7 ui8 ui9 ui10 ui11 ui12 ui13 ui14 ui15 ui16 ui17 ui18 ui19 ui20 ui21 uf22 uf23 uf24 uf25 uf26 uf27 uf28 uf29 uf30 uf31 uf32 uf33 uf34 uf35 uf36 uf37 uf38 uf39 uf40 uf41 uf42 uf43 uf44 uf45 uf46 sw sl kp td it l_ui1 u_ui1 l_ui2 u_ui2 l_ui3 u_ui3 l_ui4 u_ui4 l_ui11 u_ui11 l_ui12 u_ui12 l_ui13 u_ui13 up24_0 up29_0 up29_1 up29_2 up29_3 up29_4 up30_0 up31_0 up32_0 up32_1 up33_0 up33_1 up33_2 up33_3 up34_0 up36_0 hMI hkp hSl hRT hTI) ⟨rfl, (mp_wrt_G (Or.inr (Or.inr (Or.inl ⟨by omega, by omega, by omega, (show (-7 : Int32).toInt = -7 from by decide)⟩))))⟩ (by first | exact Nat.le_refl _ | omega) (by first | exact Nat.le_refl _ | omega)
  · skip
    refine q_18.elim fun g_5 q_28 => q_28.elim fun e_29 q_30 => q_30.elim fun c_6 q_31 => q_31.elim fun c_7 q_32 => q_32.elim fun c_8 q_33 => q_33.elim fun x_9 q_34 => q_34.elim fun x_10 e_35 => ?_
    clear hp_ q_15 q_17 q_18 q_28 q_30 q_31 q_32 q_33 q_34
    subst e_29
    subst e_35
    have c_6 : 0 ≤ x0.toInt := c_6
    have c_7 : x0.toInt ≤ 3 := c_7
    have c_8 : 0 ≤ x1.toInt := c_8
    have k9 := mp_slM_i hSl (s := x0.toInt) ⟨by omega, by omega⟩
    rw [← mp_wrt_y (sn := uf24) (sw := sw) (sl := sl) (s := x0.toInt) (i := x1.toInt) (v := x2) (by omega) x_10 (mp_slM_w hSl ⟨by omega, by omega⟩ (by omega))] at kk
    refine mp_mgT [true, true, true, true, false, false, false, false, false, false, false, false, false, false, false, false, false, false, false, false, false, false, false, false, false, false] ?_
    exact kk _ _ _ _ _ (fun C_ h_ => h_ m 0 ui1 ui2 ui3 ui4 ui5 ui6 ui7 ui8 ui9 ui10 ui11 ui12 ui13 ui14 ui15 ui16 ui17 ui18 ui19 ui20 ui21 uf22 uf23 g_5 uf25 uf26 uf27 uf28 uf29 uf30 uf31 uf32 uf33 uf34 uf35 uf36 uf37 uf38 uf39 uf40 uf41 uf42 uf43 uf44 uf45 uf46 sw sl kp td it l_ui1 u_ui1 l_ui2 u_ui2 l_ui3 u_ui3 l_ui4 u_ui4 l_ui11 u_ui11 l_ui12 u_ui12 l_ui13 u_ui13 up24_0 up29_0 up29_1 up29_2 up29_3 up29_4 up30_0 up31_0 up32_0 up32_1 up33_0 up33_1 up33_2 up33_3 up34_0 up36_0 hMI hkp hSl hRT hTI) ⟨rfl, (mp_wrt_G (Or.inr (Or.inr (Or.inr ⟨by omega, (show (0 : Int32).toInt = 0 from by decide)⟩))))⟩ (by first | exact Nat.le_refl _ | omega) (by first | exact Nat.le_refl _ | omega)
  · skip
    refine q_19.elim fun e_36 q_37 => q_37.elim fun c_11 q_38 => q_38.elim fun c_12 q_39 => q_39.elim fun x_13 e_40 => ?_
    clear hp_ q_15 q_17 q_19 q_37 q_38 q_39
    subst e_36
    subst e_40
    have c_11 : 0 ≤ x0.toInt := c_11
    have c_12 : x0.toInt ≤ 3 := c_12
    have k9 := mp_slM_i hSl (s := x0.toInt) ⟨by omega, by omega⟩
    rw [mp_wrt_n (sn := uf24) (sw := sw) (sl := sl) (s := x0.toInt) (i := x1.toInt) (v := x2) (by omega)] at kk
    refine mp_mgT [true, true, true, true, false, false, false, false, false, false, false, false, false, false, false, false, false, false, false, false, false, false, false, false, false, false] ?_
    exact kk _ _ _ _ _ (fun C_ h_ => h_ m 0 ui1 ui2 ui3 ui4 ui5 ui6 ui7 ui8 ui9 ui10 ui11 ui12 ui13 ui14 ui15 ui16 ui17 ui18 ui19 ui20 ui21 uf22 uf23 uf24 uf25 uf26 uf27 uf28 uf29 uf30 uf31 uf32 uf33 uf34 uf35 uf36 uf37 uf38 uf39 uf40 uf41 uf42 uf43 uf44 uf45 uf46 sw sl kp td it l_ui1 u_ui1 l_ui2 u_ui2 l_ui3 u_ui3 l_ui4 u_ui4 l_ui11 u_ui11 l_ui12 u_ui12 l_ui13 u_ui13 up24_0 up29_0 up29_1 up29_2 up29_3 up29_4 up30_0 up31_0 up32_0 up32_1 up33_0 up33_1 up33_2 up33_3 up34_0 up36_0 hMI hkp hSl hRT hTI) ⟨rfl, (mp_wrt_G (Or.inr (Or.inl ⟨by omega, by omega, (show (-6 : Int32).toInt = -6 from by decide)⟩)))⟩ (by first | exact Nat.le_refl _ | omega) (by first | exact Nat.le_refl _ | omega)
set_option maxHeartbeats 4000000 in
set_option maxRecDepth 100000 in
theorem mp_cm_paste {E : mp_E} {X : mp_X} (hF : mp_F E X mp_ML) {pc : Nat} {lv : List (Nat × Value)} {rest : List Value} {A B : va_W} {k n q2 : Nat} {len : Int} {sw : Nat → Int32} {sl : Nat → Int32} {sn : Nat → Int64} {kp : Nat → Bool} {tp : Nat → Int32} {ft : Int} {fp : Int} {td : mp_TD} {it : Nat → mp_TD} (x0 : Int32) (x1 : Int32) (x2 : Int32) (x3 : Int32) (x4 : Int32) (hI : mp_IM E q2 len sw sl sn kp tp ft fp td it A) (hW : mp_WH td) (hWI : ∀ j : Nat, mp_WH (it j)) (hdg : decode code pc = .ok (.invokevirtual 262, 3)) (hk : k + 0 ≤ 706714) (hn : n + 0 ≤ 6982106) (hcat : (rest.map (fun v => v.category)).sum ≤ 8) (kk : ∀ (r : Int32) (A2 : va_W) (len2 : Int)  (k2 n2 : Nat), mp_IM E q2 len2 sw sl (mp_pstN sn sw sl x0.toInt x1.toInt x2.toInt x3.toInt x4.toInt) kp tp ft fp td it A2 → (len2 = len ∧ r.toInt = mp_pstG sw sl x0.toInt x1.toInt x2.toInt x3.toInt x4.toInt) → k2 ≤ k + 0 → n2 ≤ n + 0 → mp_W E X 4 (pc + 3) lv (.int r :: rest) (A2 ++ B) k2 n2) : mp_W E X 4 pc lv (.int x4 :: .int x3 :: .int x2 :: .int x1 :: .int x0 :: .ref q2 :: rest) (A ++ B) k n := by
  refine hI (fun len sw sl sn kp tp ft fp td it A => mp_WH td → (∀ j : Nat, mp_WH (it j)) → (∀ (r : Int32) (A2 : va_W) (len2 : Int)  (k2 n2 : Nat), mp_IM E q2 len2 sw sl (mp_pstN sn sw sl x0.toInt x1.toInt x2.toInt x3.toInt x4.toInt) kp tp ft fp td it A2 → (len2 = len ∧ r.toInt = mp_pstG sw sl x0.toInt x1.toInt x2.toInt x3.toInt x4.toInt) → k2 ≤ k + 0 → n2 ≤ n + 0 → mp_W E X 4 (pc + 3) lv (.int r :: rest) (A2 ++ B) k2 n2) → mp_W E X 4 pc lv (.int x4 :: .int x3 :: .int x2 :: .int x1 :: .int x0 :: .ref q2 :: rest) (A ++ B) k n) ?_ hW hWI kk
  intro m ui0 ui1 ui2 ui3 ui4 ui5 ui6 ui7 ui8 ui9 ui10 ui11 ui12 ui13 ui14 ui15 ui16 ui17 ui18 ui19 ui20 ui21 uf22 uf23 uf24 uf25 uf26 uf27 uf28 uf29 uf30 uf31 uf32 uf33 uf34 uf35 uf36 uf37 uf38 uf39 uf40 uf41 uf42 uf43 uf44 uf45 uf46 sw sl kp td it l_ui1 u_ui1 l_ui2 u_ui2 l_ui3 u_ui3 l_ui4 u_ui4 l_ui11 u_ui11 l_ui12 u_ui12 l_ui13 u_ui13 up24_0 up29_0 up29_1 up29_2 up29_3 up29_4 up30_0 up31_0 up32_0 up32_1 up33_0 up33_1 up33_2 up33_3 up34_0 up36_0 hMI hkp hSl hRT hTI hW hWI kk
  have hG := hW.2
  replace hW := hW.1
  replace hWI : ∀ j : Nat, mp_WF (it j) := fun j => (hWI j).1
  have hR := mp_MR_0 (hMI 0 (by decide))
  have hprm := hR.1
  have htin := hR.2
  refine mp_callVM (As := [.int x0, .int x1, .int x2, .int x3, .int x4]) (rest := rest) (T := B) [true, true, true, true, true, false, false, false, false, false, false, false, false, false, false, false, false, false, false, false, false, false, false, false, false, false] hF (bX10_paste_5 E q2 (m 1) (m 2) (m 3) (m 4) (m 5) (m 6) (m 7) (m 8) (m 9) (m 10) (m 11) (m 12) (m 13) (m 14) (m 15) (m 16) (m 17) (m 18) (m 19) (m 20) (m 21) (m 22) (m 23) (m 24) (m 25) uf22 uf23 uf24 uf25 ui0 ui1 ui2 ui3 ui4 ui5 ui6 ui7 ui8 ui9 ui10 ui11 ui12 ui13 ui14 ui15 ui16 ui17 ui18 ui19 ui20 ui21 x0 x1 x2 x3 x4 up24_0 l_ui1 u_ui1 l_ui2 u_ui2 l_ui3 u_ui3 l_ui4 u_ui4 l_ui11 u_ui11 l_ui12 u_ui12 l_ui13 u_ui13) mp_lkL_262 rfl rfl ⟨(Nat.le_of_ble_eq_true rfl), (Nat.le_of_ble_eq_true rfl), (by first | exact hk | (show k + _ ≤ 706714; omega)), (by first | exact hn | (show n + _ ≤ 6982106; omega))⟩ hcat hdg (fun v_ w_ hp_ => ?_)
  refine hp_.elim (fun q_28 => ?_) (fun q_29 => q_29.elim (fun q_30 => ?_) (fun q_31 => q_31.elim (fun q_32 => ?_) (fun q_33 => q_33.elim (fun q_34 => ?_) (fun q_35 => ?_))))
  · skip
    refine q_28.elim fun e_36 q_37 => q_37.elim fun x_1 e_38 => ?_
    clear hp_ q_28 q_37
    subst e_36
    subst e_38
    rw [mp_pst_n (sn := uf24) (sw := sw) (sl := sl) (s := x0.toInt) (i := x1.toInt) (t := x2.toInt) (k := x3.toInt) (n := x4.toInt) (by omega)] at kk
    refine mp_mgT [true, true, true, true, true, false, false, false, false, false, false, false, false, false, false, false, false, false, false, false, false, false, false, false, false, false] ?_
    exact kk _ _ _ _ _ (fun C_ h_ => h_ m 0 ui1 ui2 ui3 ui4 ui5 ui6 ui7 ui8 ui9 ui10 ui11 ui12 ui13 ui14 ui15 ui16 ui17 ui18 ui19 ui20 ui21 uf22 uf23 uf24 uf25 uf26 uf27 uf28 uf29 uf30 uf31 uf32 uf33 uf34 uf35 uf36 uf37 uf38 uf39 uf40 uf41 uf42 uf43 uf44 uf45 uf46 sw sl kp td it l_ui1 u_ui1 l_ui2 u_ui2 l_ui3 u_ui3 l_ui4 u_ui4 l_ui11 u_ui11 l_ui12 u_ui12 l_ui13 u_ui13 up24_0 up29_0 up29_1 up29_2 up29_3 up29_4 up30_0 up31_0 up32_0 up32_1 up33_0 up33_1 up33_2 up33_3 up34_0 up36_0 hMI hkp hSl hRT hTI) ⟨rfl, (mp_pst_G (Or.inl ⟨by omega, (show (-2 : Int32).toInt = -2 from by decide)⟩))⟩ (by first | exact Nat.le_refl _ | omega) (by first | exact Nat.le_refl _ | omega)
  · skip
    refine q_30.elim fun e_39 q_40 => q_40.elim fun c_2 q_41 => q_41.elim fun c_3 q_42 => q_42.elim fun c_4 q_43 => q_43.elim fun c_5 q_44 => q_44.elim fun x_6 e_45 => ?_
    clear hp_ q_29 q_30 q_40 q_41 q_42 q_43 q_44
    subst e_39
    subst e_45
    have c_2 : 0 ≤ x0.toInt := c_2
    have c_3 : x0.toInt ≤ 3 := c_3
    have c_4 : 0 ≤ x2.toInt := c_4
    have c_5 : x2.toInt ≤ 3 := c_5
    have k9 := mp_slM_i hSl (s := x0.toInt) ⟨by omega, by omega⟩
    have k10 := mp_slM_i hSl (s := x2.toInt) ⟨by omega, by omega⟩
    rw [mp_pst_n (sn := uf24) (sw := sw) (sl := sl) (s := x0.toInt) (i := x1.toInt) (t := x2.toInt) (k := x3.toInt) (n := x4.toInt) (by omega)] at kk
    refine mp_mgT [true, true, true, true, true, false, false, false, false, false, false, false, false, false, false, false, false, false, false, false, false, false, false, false, false, false] ?_
    exact kk _ _ _ _ _ (fun C_ h_ => h_ m 0 ui1 ui2 ui3 ui4 ui5 ui6 ui7 ui8 ui9 ui10 ui11 ui12 ui13 ui14 ui15 ui16 ui17 ui18 ui19 ui20 ui21 uf22 uf23 uf24 uf25 uf26 uf27 uf28 uf29 uf30 uf31 uf32 uf33 uf34 uf35 uf36 uf37 uf38 uf39 uf40 uf41 uf42 uf43 uf44 uf45 uf46 sw sl kp td it l_ui1 u_ui1 l_ui2 u_ui2 l_ui3 u_ui3 l_ui4 u_ui4 l_ui11 u_ui11 l_ui12 u_ui12 l_ui13 u_ui13 up24_0 up29_0 up29_1 up29_2 up29_3 up29_4 up30_0 up31_0 up32_0 up32_1 up33_0 up33_1 up33_2 up33_3 up34_0 up36_0 hMI hkp hSl hRT hTI) ⟨rfl, (mp_pst_G (Or.inr (Or.inl ⟨by omega, by omega, (show (-6 : Int32).toInt = -6 from by decide)⟩)))⟩ (by first | exact Nat.le_refl _ | omega) (by first | exact Nat.le_refl _ | omega)
  · skip
    refine q_32.elim fun e_46 q_47 => q_47.elim fun c_7 q_48 => q_48.elim fun c_8 q_49 => q_49.elim fun c_9 q_50 => q_50.elim fun c_10 q_51 => q_51.elim fun x_11 e_52 => ?_
    clear hp_ q_29 q_31 q_32 q_47 q_48 q_49 q_50 q_51
    subst e_46
    subst e_52
    have c_7 : 0 ≤ x0.toInt := c_7
    have c_8 : x0.toInt ≤ 3 := c_8
    have c_9 : 0 ≤ x2.toInt := c_9
    have c_10 : x2.toInt ≤ 3 := c_10
    have k9 := mp_slM_i hSl (s := x0.toInt) ⟨by omega, by omega⟩
    have k10 := mp_slM_i hSl (s := x2.toInt) ⟨by omega, by omega⟩
    rw [mp_pst_n (sn := uf24) (sw := sw) (sl := sl) (s := x0.toInt) (i := x1.toInt) (t := x2.toInt) (k := x3.toInt) (n := x4.toInt) (by omega)] at kk
    refine mp_mgT [true, true, true, true, true, false, false, false, false, false, false, false, false, false, false, false, false, false, false, false, false, false, false, false, false, false] ?_
    exact kk _ _ _ _ _ (fun C_ h_ => h_ m 0 ui1 ui2 ui3 ui4 ui5 ui6 ui7 ui8 ui9 ui10 ui11 ui12 ui13 ui14 ui15 ui16 ui17 ui18 ui19 ui20 ui21 uf22 uf23 uf24 uf25 uf26 uf27 uf28 uf29 uf30 uf31 uf32 uf33 uf34 uf35 uf36 uf37 uf38 uf39 uf40 uf41 uf42 uf43 uf44 uf45 uf46 sw sl kp td it l_ui1 u_ui1 l_ui2 u_ui2 l_ui3 u_ui3 l_ui4 u_ui4 l_ui11 u_ui11 l_ui12 u_ui12 l_ui13 u_ui13 up24_0 up29_0 up29_1 up29_2 up29_3 up29_4 up30_0 up31_0 up32_0 up32_1 up33_0 up33_1 up33_2 up33_3 up34_0 up36_0 hMI hkp hSl hRT hTI) ⟨rfl, (mp_pst_G (Or.inr (Or.inr (Or.inr (Or.inl ⟨by omega, by omega, by omega, by omega, (show (-7 : Int32).toInt = -7 from by decide)⟩)))))⟩ (by first | exact Nat.le_refl _ | omega) (by first | exact Nat.le_refl _ | omega)
  · skip
    refine q_34.elim fun g_12 q_53 => q_53.elim fun g_13 q_54 => q_54.elim fun e_55 q_56 => q_56.elim fun c_14 q_57 => q_57.elim fun c_15 q_58 => q_58.elim fun c_16 q_59 => q_59.elim fun c_17 q_60 => q_60.elim fun c_18 q_61 => q_61.elim fun c_19 q_62 => q_62.elim fun c_20 q_63 => q_63.elim fun x_21 q_64 => q_64.elim fun x_22 e_65 => ?_
    clear hp_ q_29 q_31 q_33 q_34 q_53 q_54 q_56 q_57 q_58 q_59 q_60 q_61 q_62 q_63 q_64
    subst e_55
    subst e_65
    have c_14 : 0 ≤ x0.toInt := c_14
    have c_15 : x0.toInt ≤ 3 := c_15
    have c_16 : 0 ≤ x2.toInt := c_16
    have c_17 : x2.toInt ≤ 3 := c_17
    have c_18 : 0 ≤ x1.toInt := c_18
    have c_19 : 0 ≤ x3.toInt := c_19
    have c_20 : 0 ≤ x4.toInt := c_20
    have k9 := mp_slM_i hSl (s := x0.toInt) ⟨by omega, by omega⟩
    have k10 := mp_slM_i hSl (s := x2.toInt) ⟨by omega, by omega⟩
    rw [← mp_pst_y (sn := uf24) (sw := sw) (sl := sl) (s := x0.toInt) (i := x1.toInt) (t := x2.toInt) (k := x3.toInt) (n := x4.toInt) (by omega) x_22] at kk
    refine mp_mgT [true, true, true, true, true, false, false, false, false, false, false, false, false, false, false, false, false, false, false, false, false, false, false, false, false, false] ?_
    exact kk _ _ _ _ _ (fun C_ h_ => h_ m 0 ui1 ui2 ui3 ui4 ui5 ui6 ui7 ui8 ui9 ui10 ui11 ui12 ui13 ui14 ui15 ui16 ui17 ui18 ui19 ui20 ui21 uf22 uf23 g_12 g_13 uf26 uf27 uf28 uf29 uf30 uf31 uf32 uf33 uf34 uf35 uf36 uf37 uf38 uf39 uf40 uf41 uf42 uf43 uf44 uf45 uf46 sw sl kp td it l_ui1 u_ui1 l_ui2 u_ui2 l_ui3 u_ui3 l_ui4 u_ui4 l_ui11 u_ui11 l_ui12 u_ui12 l_ui13 u_ui13 up24_0 up29_0 up29_1 up29_2 up29_3 up29_4 up30_0 up31_0 up32_0 up32_1 up33_0 up33_1 up33_2 up33_3 up34_0 up36_0 hMI hkp hSl hRT hTI) ⟨rfl, (mp_pst_G (Or.inr (Or.inr (Or.inr (Or.inr ⟨by omega, (show (0 : Int32).toInt = 0 from by decide)⟩)))))⟩ (by first | exact Nat.le_refl _ | omega) (by first | exact Nat.le_refl _ | omega)
  · skip
    refine q_35.elim fun e_66 q_67 => q_67.elim fun c_23 q_68 => q_68.elim fun c_24 q_69 => q_69.elim fun c_25 q_70 => q_70.elim fun c_26 q_71 => q_71.elim fun x_27 e_72 => ?_
    clear hp_ q_29 q_31 q_33 q_35 q_67 q_68 q_69 q_70 q_71
    subst e_66
    subst e_72
    have c_23 : 0 ≤ x0.toInt := c_23
    have c_24 : x0.toInt ≤ 3 := c_24
    have c_25 : 0 ≤ x2.toInt := c_25
    have c_26 : x2.toInt ≤ 3 := c_26
    have k9 := mp_slM_i hSl (s := x0.toInt) ⟨by omega, by omega⟩
    have k10 := mp_slM_i hSl (s := x2.toInt) ⟨by omega, by omega⟩
    rw [mp_pst_n (sn := uf24) (sw := sw) (sl := sl) (s := x0.toInt) (i := x1.toInt) (t := x2.toInt) (k := x3.toInt) (n := x4.toInt) (by omega)] at kk
    refine mp_mgT [true, true, true, true, true, false, false, false, false, false, false, false, false, false, false, false, false, false, false, false, false, false, false, false, false, false] ?_
    exact kk _ _ _ _ _ (fun C_ h_ => h_ m 0 ui1 ui2 ui3 ui4 ui5 ui6 ui7 ui8 ui9 ui10 ui11 ui12 ui13 ui14 ui15 ui16 ui17 ui18 ui19 ui20 ui21 uf22 uf23 uf24 uf25 uf26 uf27 uf28 uf29 uf30 uf31 uf32 uf33 uf34 uf35 uf36 uf37 uf38 uf39 uf40 uf41 uf42 uf43 uf44 uf45 uf46 sw sl kp td it l_ui1 u_ui1 l_ui2 u_ui2 l_ui3 u_ui3 l_ui4 u_ui4 l_ui11 u_ui11 l_ui12 u_ui12 l_ui13 u_ui13 up24_0 up29_0 up29_1 up29_2 up29_3 up29_4 up30_0 up31_0 up32_0 up32_1 up33_0 up33_1 up33_2 up33_3 up34_0 up36_0 hMI hkp hSl hRT hTI) ⟨rfl, (mp_pst_G (Or.inr (Or.inr (Or.inl ⟨by omega, by omega, by omega, (show (-8 : Int32).toInt = -8 from by decide)⟩))))⟩ (by first | exact Nat.le_refl _ | omega) (by first | exact Nat.le_refl _ | omega)
