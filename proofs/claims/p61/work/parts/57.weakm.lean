set_option maxHeartbeats 4000000 in
set_option maxRecDepth 100000 in
theorem bX10_copyRow_168 (E : mp_E) (a0 : Nat) (f0 : Nat → Int32) (p0 : mp_res f0 25 5 0 0 6) (p1 : mp_res f0 25 5 1 0 99) (p2 : mp_res f0 25 5 2 0 6) (p3 : mp_res f0 25 5 3 0 10) (p4 : mp_res f0 25 5 4 0 60) : mp_Ct E yX10_copyRow cX10_copyRow 5 none 0 0 0 0 [.ref a0, .int 5, .int 0, .int 2] [(mp_arI E a0 0 25 f0)] (fun v w' => ∃ h1 : Nat → Int32, v = none ∧ mp_res h1 25 5 0 0 6 ∧ mp_res h1 25 5 1 0 99 ∧ mp_res h1 25 5 2 0 6 ∧ mp_res h1 25 5 3 0 10 ∧ mp_res h1 25 5 4 0 60 ∧ (h1 = mp_cpr f0 0 10 5) ∧ w' = [(mp_arI E a0 0 25 h1)]) := by
  refine mp_met false (by decide) (by decide) (Nat.le_of_ble_eq_true rfl) (fun X hF hQ => ?_)
  have hF : mp_F E X (RX10, cX10_copyRow, 5, (0, 0, 0, 0), none, false) := hF
  show mp_W E X 5 0 [(0, .ref a0), (1, .int 5), (2, .int 0), (3, .int 2)] [] [(mp_arI E a0 0 25 f0)] 0 0
  refine mp_run mp_k_cX10_copyRow_ok hF mp_tabX10_ok [mp_c (.iconst 0) 0, mp_i (.istore 4)] (by decide +kernel) ?_
  show mp_W E X 5 3 [(4, .int 0), (0, .ref a0), (1, .int 5), (2, .int 0), (3, .int 2)] [] [(mp_arI E a0 0 25 f0)] 0 0
  have lp_12 : ∀ (d_13 : Nat) (i_1 : Int32) (g_2 : Nat → Int32), 0 ≤ i_1.toInt → i_1.toInt ≤ 5 → mp_res g_2 25 5 0 0 6 → mp_res g_2 25 5 1 0 99 → mp_res g_2 25 5 2 0 6 → mp_res g_2 25 5 3 0 10 → mp_res g_2 25 5 4 0 60 → (g_2 = mp_cpr f0 0 10 i_1.toInt.toNat) → (i_1.toInt ≤ 5) → -(i_1.toInt) + 5 ≤ (d_13 : Int) → mp_W E X 5 3 [(4, .int i_1), (0, .ref a0), (1, .int 5), (2, .int 0), (3, .int 2)] [] [(mp_arI E a0 0 25 g_2)] 0 0 := by
    intro d_13
    induction d_13 using Nat.strongRecOn with
    | ind d_13 ih_14 =>
      intro i_1 g_2 l_3 u_4 p_5 p_6 p_7 p_8 p_9 x_10 x_11 hm_15
      refine mp_run mp_k_cX10_copyRow_ok hF mp_tabX10_ok [mp_i (.iload 4), mp_i (.iload_n 1), mp_h (.if_icmp .ge 25) [31]] (by decide +kernel) ?_
      refine And.intro (fun c_16 => ?_) (fun c_16 => ?_)
      · have c_16 : 5 ≤ i_1.toInt := c_16
        show mp_W E X 5 31 [(4, .int i_1), (0, .ref a0), (1, .int 5), (2, .int 0), (3, .int 2)] [] [(mp_arI E a0 0 25 g_2)] 0 0
        exact mp_vret hF hQ rfl (Nat.le_of_ble_eq_true rfl) (Nat.le_of_ble_eq_true rfl) [0] (w' := [(mp_arI E a0 0 25 g_2)]) rfl rfl ⟨g_2, rfl, p_5, p_6, p_7, p_8, p_9, (by rw [show i_1.toInt.toNat = 5 by (first | exact mp_o1333 c_16 u_4 | omega)] at x_10; exact x_10), rfl⟩ (by first | exact mp_fd_ok mp_k_cX10_copyRow_ok (by decide +kernel) | decide +kernel)
      · have c_16 : i_1.toInt < 5 := c_16
        show mp_W E X 5 9 [(4, .int i_1), (0, .ref a0), (1, .int 5), (2, .int 0), (3, .int 2)] [] [(mp_arI E a0 0 25 g_2)] 0 0
        refine mp_run mp_k_cX10_copyRow_ok hF mp_tabX10_ok [mp_i (.aload_n 0), mp_i (.iload_n 1), mp_i (.iload_n 3), mp_i .imul, mp_i (.iload 4), mp_i .iadd, mp_i (.aload_n 0), mp_i (.iload_n 1), mp_i (.iload_n 2), mp_i .imul, mp_i (.iload 4), mp_i .iadd, mp_h .iaload [0], mp_h .iastore [0]] (by decide +kernel) ?_
        intro z_17 h_18
        obtain rfl : z_17 = 10 := h_18.trans (by decide)
        intro z_19 h_20
        have e_21 : z_19.toInt = 10 + i_1.toInt := mp_add (a := 10) (b := i_1.toInt) h_20 (by decide) rfl (by (first | exact mp_o816 l_3 | omega)) (by (first | exact mp_o2003 c_16 | omega))
        intro z_22 h_23
        obtain rfl : z_22 = 0 := h_23.trans (by decide)
        intro z_24 h_25
        have e_26 : z_24.toInt = 0 + i_1.toInt := mp_add (a := 0) (b := i_1.toInt) h_25 (by decide) rfl (by (first | exact mp_o1319 l_3 | omega)) (by (first | exact mp_o1939 c_16 | omega))
        refine And.intro rfl (And.intro rfl (And.intro (vp_in_iff.mpr (by (first | exact mp_o1940 l_3 e_26 c_16 | omega))) ?_))
        intro z_27 h_28
        have e_29 : z_24.toInt % 5 = 0 → 0 ≤ z_27.toInt ∧ z_27.toInt ≤ 6 := mp_res_ld h_28 p_5 (by (first | exact mp_o1341 l_3 e_26 | omega)) (by (first | exact mp_o1941 c_16 e_26 | omega))
        have e_30 : z_24.toInt % 5 = 1 → 0 ≤ z_27.toInt ∧ z_27.toInt ≤ 99 := mp_res_ld h_28 p_6 (by (first | exact mp_o1341 l_3 e_26 | omega)) (by (first | exact mp_o1941 c_16 e_26 | omega))
        have e_31 : z_24.toInt % 5 = 2 → 0 ≤ z_27.toInt ∧ z_27.toInt ≤ 6 := mp_res_ld h_28 p_7 (by (first | exact mp_o1341 l_3 e_26 | omega)) (by (first | exact mp_o1941 c_16 e_26 | omega))
        have e_32 : z_24.toInt % 5 = 3 → 0 ≤ z_27.toInt ∧ z_27.toInt ≤ 10 := mp_res_ld h_28 p_8 (by (first | exact mp_o1341 l_3 e_26 | omega)) (by (first | exact mp_o1941 c_16 e_26 | omega))
        have e_33 : z_24.toInt % 5 = 4 → 0 ≤ z_27.toInt ∧ z_27.toInt ≤ 60 := mp_res_ld h_28 p_9 (by (first | exact mp_o1341 l_3 e_26 | omega)) (by (first | exact mp_o1941 c_16 e_26 | omega))
        refine And.intro rfl (And.intro rfl (And.intro (vp_in_iff.mpr (by (first | exact mp_o2004 l_3 e_21 c_16 | omega))) ?_))
        intro g_34 h_35
        have p_36 : mp_res g_34 25 5 0 0 6 := mp_res_st h_35 p_5 (by (first | exact mp_o2005 l_3 e_21 | omega)) (by (first | exact mp_o2006 e_29 e_21 e_26 | omega))
        have p_37 : mp_res g_34 25 5 1 0 99 := mp_res_st h_35 p_6 (by (first | exact mp_o2005 l_3 e_21 | omega)) (by (first | exact mp_o2007 e_30 e_21 e_26 | omega))
        have p_38 : mp_res g_34 25 5 2 0 6 := mp_res_st h_35 p_7 (by (first | exact mp_o2005 l_3 e_21 | omega)) (by (first | exact mp_o2008 e_31 e_21 e_26 | omega))
        have p_39 : mp_res g_34 25 5 3 0 10 := mp_res_st h_35 p_8 (by (first | exact mp_o2005 l_3 e_21 | omega)) (by (first | exact mp_o2009 e_32 e_21 e_26 | omega))
        have p_40 : mp_res g_34 25 5 4 0 60 := mp_res_st h_35 p_9 (by (first | exact mp_o2005 l_3 e_21 | omega)) (by (first | exact mp_o2010 e_33 e_21 e_26 | omega))
        show mp_W E X 5 25 [(4, .int i_1), (0, .ref a0), (1, .int 5), (2, .int 0), (3, .int 2)] [] [(mp_arI E a0 0 25 g_34)] 0 0
        refine mp_run mp_k_cX10_copyRow_ok hF mp_tabX10_ok [mp_c (.iinc 4 1) 1, mp_h (.goto (-25)) [3]] (by decide +kernel) ?_
        intro z_41 h_42
        have e_43 : z_41.toInt = i_1.toInt + 1 := mp_add (a := i_1.toInt) (b := 1) h_42 rfl (by decide) (by (first | exact mp_o2 l_3 | omega)) (by (first | exact mp_o1949 c_16 | omega))
        show mp_W E X 5 3 [(4, .int z_41), (0, .ref a0), (1, .int 5), (2, .int 0), (3, .int 2)] [] [(mp_arI E a0 0 25 g_34)] 0 0
        exact mp_sub [0, 1, 2, 3, 4] rfl [0] rfl rfl (ih_14 (d_13 - 1) (by (first | exact mp_o1342 hm_15 c_16 | omega)) z_41 g_34 (by (first | exact mp_o51 l_3 e_43 | omega)) (by (first | exact mp_o1344 c_16 e_43 | omega)) p_36 p_37 p_38 p_39 p_40 (mp_cpr_st (m := 5) h_35 h_28 x_10 (by (first | exact mp_o2011 l_3 e_21 | omega)) (by (first | exact mp_o1328 l_3 e_26 | omega)) (by (first | exact mp_o2012 | omega)) (by (first | exact mp_o1952 c_16 | omega)) (by (first | exact mp_o772 l_3 e_43 | omega))) (by (first | exact mp_o1344 c_16 e_43 | omega)) (by (first | exact mp_o1953 hm_15 e_43 | omega)))
  exact mp_sub [0, 1, 2, 3, 4] rfl [0] rfl rfl (lp_12 _ 0 f0 (by decide) (by decide) p0 p1 p2 p3 p4 (mp_cpr_0 (by decide)) (by decide) (Int.self_le_toNat _))
set_option maxHeartbeats 4000000 in
set_option maxRecDepth 100000 in
theorem bX10_copyRow_169 (E : mp_E) (a0 : Nat) (f0 : Nat → Int32) (p0 : mp_all f0 180 0 20) : mp_Ct E yX10_copyRow cX10_copyRow 5 none 0 0 0 0 [.ref a0, .int 36, .int 0, .int 2] [(mp_arI E a0 0 180 f0)] (fun v w' => ∃ h1 : Nat → Int32, v = none ∧ mp_all h1 180 0 20 ∧ (h1 = mp_cpr f0 0 72 36) ∧ w' = [(mp_arI E a0 0 180 h1)]) := by
  refine mp_met false (by decide) (by decide) (Nat.le_of_ble_eq_true rfl) (fun X hF hQ => ?_)
  have hF : mp_F E X (RX10, cX10_copyRow, 5, (0, 0, 0, 0), none, false) := hF
  show mp_W E X 5 0 [(0, .ref a0), (1, .int 36), (2, .int 0), (3, .int 2)] [] [(mp_arI E a0 0 180 f0)] 0 0
  refine mp_run mp_k_cX10_copyRow_ok hF mp_tabX10_ok [mp_c (.iconst 0) 0, mp_i (.istore 4)] (by decide +kernel) ?_
  show mp_W E X 5 3 [(4, .int 0), (0, .ref a0), (1, .int 36), (2, .int 0), (3, .int 2)] [] [(mp_arI E a0 0 180 f0)] 0 0
  have lp_8 : ∀ (d_9 : Nat) (i_1 : Int32) (g_2 : Nat → Int32), 0 ≤ i_1.toInt → i_1.toInt ≤ 36 → mp_all g_2 180 0 20 → (g_2 = mp_cpr f0 0 72 i_1.toInt.toNat) → (i_1.toInt ≤ 36) → -(i_1.toInt) + 36 ≤ (d_9 : Int) → mp_W E X 5 3 [(4, .int i_1), (0, .ref a0), (1, .int 36), (2, .int 0), (3, .int 2)] [] [(mp_arI E a0 0 180 g_2)] 0 0 := by
    intro d_9
    induction d_9 using Nat.strongRecOn with
    | ind d_9 ih_10 =>
      intro i_1 g_2 l_3 u_4 p_5 x_6 x_7 hm_11
      refine mp_run mp_k_cX10_copyRow_ok hF mp_tabX10_ok [mp_i (.iload 4), mp_i (.iload_n 1), mp_h (.if_icmp .ge 25) [31]] (by decide +kernel) ?_
      refine And.intro (fun c_12 => ?_) (fun c_12 => ?_)
      · have c_12 : 36 ≤ i_1.toInt := c_12
        show mp_W E X 5 31 [(4, .int i_1), (0, .ref a0), (1, .int 36), (2, .int 0), (3, .int 2)] [] [(mp_arI E a0 0 180 g_2)] 0 0
        exact mp_vret hF hQ rfl (Nat.le_of_ble_eq_true rfl) (Nat.le_of_ble_eq_true rfl) [0] (w' := [(mp_arI E a0 0 180 g_2)]) rfl rfl ⟨g_2, rfl, p_5, (by rw [show i_1.toInt.toNat = 36 by (first | exact mp_o1345 c_12 u_4 | omega)] at x_6; exact x_6), rfl⟩ (by first | exact mp_fd_ok mp_k_cX10_copyRow_ok (by decide +kernel) | decide +kernel)
      · have c_12 : i_1.toInt < 36 := c_12
        show mp_W E X 5 9 [(4, .int i_1), (0, .ref a0), (1, .int 36), (2, .int 0), (3, .int 2)] [] [(mp_arI E a0 0 180 g_2)] 0 0
        refine mp_run mp_k_cX10_copyRow_ok hF mp_tabX10_ok [mp_i (.aload_n 0), mp_i (.iload_n 1), mp_i (.iload_n 3), mp_i .imul, mp_i (.iload 4), mp_i .iadd, mp_i (.aload_n 0), mp_i (.iload_n 1), mp_i (.iload_n 2), mp_i .imul, mp_i (.iload 4), mp_i .iadd, mp_h .iaload [0], mp_h .iastore [0]] (by decide +kernel) ?_
        intro z_13 h_14
        obtain rfl : z_13 = 72 := h_14.trans (by decide)
        intro z_15 h_16
        have e_17 : z_15.toInt = 72 + i_1.toInt := mp_add (a := 72) (b := i_1.toInt) h_16 (by decide) rfl (by (first | exact mp_o1349 l_3 | omega)) (by (first | exact mp_o2013 c_12 | omega))
        intro z_18 h_19
        obtain rfl : z_18 = 0 := h_19.trans (by decide)
        intro z_20 h_21
        have e_22 : z_20.toInt = 0 + i_1.toInt := mp_add (a := 0) (b := i_1.toInt) h_21 (by decide) rfl (by (first | exact mp_o1319 l_3 | omega)) (by (first | exact mp_o1956 c_12 | omega))
        refine And.intro rfl (And.intro rfl (And.intro (vp_in_iff.mpr (by (first | exact mp_o1346 l_3 e_22 c_12 | omega))) ?_))
        intro z_23 h_24
        have e_25 : 0 ≤ z_23.toInt ∧ z_23.toInt ≤ 20 := mp_all_ld h_24 p_5 (by (first | exact mp_o1341 l_3 e_22 | omega)) (by (first | exact mp_o1957 c_12 e_22 | omega))
        refine And.intro rfl (And.intro rfl (And.intro (vp_in_iff.mpr (by (first | exact mp_o2014 l_3 e_17 c_12 | omega))) ?_))
        intro g_26 h_27
        have p_28 : mp_all g_26 180 0 20 := mp_all_st h_27 p_5 e_25.1 e_25.2
        show mp_W E X 5 25 [(4, .int i_1), (0, .ref a0), (1, .int 36), (2, .int 0), (3, .int 2)] [] [(mp_arI E a0 0 180 g_26)] 0 0
        refine mp_run mp_k_cX10_copyRow_ok hF mp_tabX10_ok [mp_c (.iinc 4 1) 1, mp_h (.goto (-25)) [3]] (by decide +kernel) ?_
        intro z_29 h_30
        have e_31 : z_29.toInt = i_1.toInt + 1 := mp_add (a := i_1.toInt) (b := 1) h_30 rfl (by decide) (by (first | exact mp_o2 l_3 | omega)) (by (first | exact mp_o49 c_12 | omega))
        show mp_W E X 5 3 [(4, .int z_29), (0, .ref a0), (1, .int 36), (2, .int 0), (3, .int 2)] [] [(mp_arI E a0 0 180 g_26)] 0 0
        exact mp_sub [0, 1, 2, 3, 4] rfl [0] rfl rfl (ih_10 (d_9 - 1) (by (first | exact mp_o50 hm_11 c_12 | omega)) z_29 g_26 (by (first | exact mp_o51 l_3 e_31 | omega)) (by (first | exact mp_o52 c_12 e_31 | omega)) p_28 (mp_cpr_st (m := 36) h_27 h_24 x_6 (by (first | exact mp_o2015 l_3 e_17 | omega)) (by (first | exact mp_o1328 l_3 e_22 | omega)) (by (first | exact mp_o2016 | omega)) (by (first | exact mp_o1961 c_12 | omega)) (by (first | exact mp_o772 l_3 e_31 | omega))) (by (first | exact mp_o52 c_12 e_31 | omega)) (by (first | exact mp_o54 hm_11 e_31 | omega)))
  exact mp_sub [0, 1, 2, 3, 4] rfl [0] rfl rfl (lp_8 _ 0 f0 (by decide) (by decide) p0 (mp_cpr_0 (by decide)) (by decide) (Int.self_le_toNat _))
set_option maxHeartbeats 4000000 in
set_option maxRecDepth 100000 in
theorem bX10_copyRow_170 (E : mp_E) (a0 : Nat) (f0 : Nat → Int32) (p0 : mp_res f0 90 3 0 0 5) (p1 : mp_res f0 90 3 1 (-1) 99) : mp_Ct E yX10_copyRow cX10_copyRow 5 none 0 0 0 0 [.ref a0, .int 18, .int 0, .int 2] [(mp_arI E a0 0 90 f0)] (fun v w' => ∃ h1 : Nat → Int32, v = none ∧ mp_res h1 90 3 0 0 5 ∧ mp_res h1 90 3 1 (-1) 99 ∧ (h1 = mp_cpr f0 0 36 18) ∧ w' = [(mp_arI E a0 0 90 h1)]) := by
  refine mp_met false (by decide) (by decide) (Nat.le_of_ble_eq_true rfl) (fun X hF hQ => ?_)
  have hF : mp_F E X (RX10, cX10_copyRow, 5, (0, 0, 0, 0), none, false) := hF
  show mp_W E X 5 0 [(0, .ref a0), (1, .int 18), (2, .int 0), (3, .int 2)] [] [(mp_arI E a0 0 90 f0)] 0 0
  refine mp_run mp_k_cX10_copyRow_ok hF mp_tabX10_ok [mp_c (.iconst 0) 0, mp_i (.istore 4)] (by decide +kernel) ?_
  show mp_W E X 5 3 [(4, .int 0), (0, .ref a0), (1, .int 18), (2, .int 0), (3, .int 2)] [] [(mp_arI E a0 0 90 f0)] 0 0
  have lp_9 : ∀ (d_10 : Nat) (i_1 : Int32) (g_2 : Nat → Int32), 0 ≤ i_1.toInt → i_1.toInt ≤ 20 → mp_res g_2 90 3 0 0 5 → mp_res g_2 90 3 1 (-1) 99 → (g_2 = mp_cpr f0 0 36 i_1.toInt.toNat) → (i_1.toInt ≤ 18) → -(i_1.toInt) + 18 ≤ (d_10 : Int) → mp_W E X 5 3 [(4, .int i_1), (0, .ref a0), (1, .int 18), (2, .int 0), (3, .int 2)] [] [(mp_arI E a0 0 90 g_2)] 0 0 := by
    intro d_10
    induction d_10 using Nat.strongRecOn with
    | ind d_10 ih_11 =>
      intro i_1 g_2 l_3 u_4 p_5 p_6 x_7 x_8 hm_12
      refine mp_run mp_k_cX10_copyRow_ok hF mp_tabX10_ok [mp_i (.iload 4), mp_i (.iload_n 1), mp_h (.if_icmp .ge 25) [31]] (by decide +kernel) ?_
      refine And.intro (fun c_13 => ?_) (fun c_13 => ?_)
      · have c_13 : 18 ≤ i_1.toInt := c_13
        show mp_W E X 5 31 [(4, .int i_1), (0, .ref a0), (1, .int 18), (2, .int 0), (3, .int 2)] [] [(mp_arI E a0 0 90 g_2)] 0 0
        exact mp_vret hF hQ rfl (Nat.le_of_ble_eq_true rfl) (Nat.le_of_ble_eq_true rfl) [0] (w' := [(mp_arI E a0 0 90 g_2)]) rfl rfl ⟨g_2, rfl, p_5, p_6, (by rw [show i_1.toInt.toNat = 18 by (first | exact mp_o1348 c_13 x_8 | omega)] at x_7; exact x_7), rfl⟩ (by first | exact mp_fd_ok mp_k_cX10_copyRow_ok (by decide +kernel) | decide +kernel)
      · have c_13 : i_1.toInt < 18 := c_13
        show mp_W E X 5 9 [(4, .int i_1), (0, .ref a0), (1, .int 18), (2, .int 0), (3, .int 2)] [] [(mp_arI E a0 0 90 g_2)] 0 0
        refine mp_run mp_k_cX10_copyRow_ok hF mp_tabX10_ok [mp_i (.aload_n 0), mp_i (.iload_n 1), mp_i (.iload_n 3), mp_i .imul, mp_i (.iload 4), mp_i .iadd, mp_i (.aload_n 0), mp_i (.iload_n 1), mp_i (.iload_n 2), mp_i .imul, mp_i (.iload 4), mp_i .iadd, mp_h .iaload [0], mp_h .iastore [0]] (by decide +kernel) ?_
        intro z_14 h_15
        obtain rfl : z_14 = 36 := h_15.trans (by decide)
        intro z_16 h_17
        have e_18 : z_16.toInt = 36 + i_1.toInt := mp_add (a := 36) (b := i_1.toInt) h_17 (by decide) rfl (by (first | exact mp_o1954 l_3 | omega)) (by (first | exact mp_o2017 c_13 | omega))
        intro z_19 h_20
        obtain rfl : z_19 = 0 := h_20.trans (by decide)
        intro z_21 h_22
        have e_23 : z_21.toInt = 0 + i_1.toInt := mp_add (a := 0) (b := i_1.toInt) h_22 (by decide) rfl (by (first | exact mp_o1319 l_3 | omega)) (by (first | exact mp_o1964 c_13 | omega))
        refine And.intro rfl (And.intro rfl (And.intro (vp_in_iff.mpr (by (first | exact mp_o1353 l_3 e_23 c_13 | omega))) ?_))
        intro z_24 h_25
        have e_26 : z_21.toInt % 3 = 0 → 0 ≤ z_24.toInt ∧ z_24.toInt ≤ 5 := mp_res_ld h_25 p_5 (by (first | exact mp_o1341 l_3 e_23 | omega)) (by (first | exact mp_o1965 c_13 e_23 | omega))
        have e_27 : z_21.toInt % 3 = 1 → (-1) ≤ z_24.toInt ∧ z_24.toInt ≤ 99 := mp_res_ld h_25 p_6 (by (first | exact mp_o1341 l_3 e_23 | omega)) (by (first | exact mp_o1965 c_13 e_23 | omega))
        refine And.intro rfl (And.intro rfl (And.intro (vp_in_iff.mpr (by (first | exact mp_o2018 l_3 e_18 c_13 | omega))) ?_))
        intro g_28 h_29
        have p_30 : mp_res g_28 90 3 0 0 5 := mp_res_st h_29 p_5 (by (first | exact mp_o2019 l_3 e_18 | omega)) (by (first | exact mp_o2020 e_26 e_18 e_23 | omega))
        have p_31 : mp_res g_28 90 3 1 (-1) 99 := mp_res_st h_29 p_6 (by (first | exact mp_o2019 l_3 e_18 | omega)) (by (first | exact mp_o2021 e_27 e_18 e_23 | omega))
        show mp_W E X 5 25 [(4, .int i_1), (0, .ref a0), (1, .int 18), (2, .int 0), (3, .int 2)] [] [(mp_arI E a0 0 90 g_28)] 0 0
        refine mp_run mp_k_cX10_copyRow_ok hF mp_tabX10_ok [mp_c (.iinc 4 1) 1, mp_h (.goto (-25)) [3]] (by decide +kernel) ?_
        intro z_32 h_33
        have e_34 : z_32.toInt = i_1.toInt + 1 := mp_add (a := i_1.toInt) (b := 1) h_33 rfl (by decide) (by (first | exact mp_o2 l_3 | omega)) (by (first | exact mp_o1970 c_13 | omega))
        show mp_W E X 5 3 [(4, .int z_32), (0, .ref a0), (1, .int 18), (2, .int 0), (3, .int 2)] [] [(mp_arI E a0 0 90 g_28)] 0 0
        exact mp_sub [0, 1, 2, 3, 4] rfl [0] rfl rfl (ih_11 (d_10 - 1) (by (first | exact mp_o1354 hm_12 c_13 | omega)) z_32 g_28 (by (first | exact mp_o51 l_3 e_34 | omega)) (by (first | exact mp_o1356 c_13 e_34 | omega)) p_30 p_31 (mp_cpr_st (m := 18) h_29 h_25 x_7 (by (first | exact mp_o1959 l_3 e_18 | omega)) (by (first | exact mp_o1328 l_3 e_23 | omega)) (by (first | exact mp_o2022 | omega)) (by (first | exact mp_o1973 c_13 | omega)) (by (first | exact mp_o772 l_3 e_34 | omega))) (by (first | exact mp_o1974 c_13 e_34 | omega)) (by (first | exact mp_o1975 hm_12 e_34 | omega)))
  exact mp_sub [0, 1, 2, 3, 4] rfl [0] rfl rfl (lp_9 _ 0 f0 (by decide) (by decide) p0 p1 (mp_cpr_0 (by decide)) (by decide) (Int.self_le_toNat _))
set_option maxHeartbeats 4000000 in
set_option maxRecDepth 100000 in
theorem bX10_copyRow_171 (E : mp_E) (a0 : Nat) (f0 : Nat → Int32) (p0 : mp_res f0 300 6 0 0 5) (p1 : mp_res f0 300 6 1 0 5) (p2 : mp_res f0 300 6 3 0 99) (p3 : mp_res f0 300 6 4 0 1) : mp_Ct E yX10_copyRow cX10_copyRow 5 none 0 0 0 0 [.ref a0, .int 60, .int 0, .int 2] [(mp_arI E a0 0 300 f0)] (fun v w' => ∃ h1 : Nat → Int32, v = none ∧ mp_res h1 300 6 0 0 5 ∧ mp_res h1 300 6 1 0 5 ∧ mp_res h1 300 6 3 0 99 ∧ mp_res h1 300 6 4 0 1 ∧ (h1 = mp_cpr f0 0 120 60) ∧ w' = [(mp_arI E a0 0 300 h1)]) := by
  refine mp_met false (by decide) (by decide) (Nat.le_of_ble_eq_true rfl) (fun X hF hQ => ?_)
  have hF : mp_F E X (RX10, cX10_copyRow, 5, (0, 0, 0, 0), none, false) := hF
  show mp_W E X 5 0 [(0, .ref a0), (1, .int 60), (2, .int 0), (3, .int 2)] [] [(mp_arI E a0 0 300 f0)] 0 0
  refine mp_run mp_k_cX10_copyRow_ok hF mp_tabX10_ok [mp_c (.iconst 0) 0, mp_i (.istore 4)] (by decide +kernel) ?_
  show mp_W E X 5 3 [(4, .int 0), (0, .ref a0), (1, .int 60), (2, .int 0), (3, .int 2)] [] [(mp_arI E a0 0 300 f0)] 0 0
  have lp_11 : ∀ (d_12 : Nat) (i_1 : Int32) (g_2 : Nat → Int32), 0 ≤ i_1.toInt → i_1.toInt ≤ 60 → mp_res g_2 300 6 0 0 5 → mp_res g_2 300 6 1 0 5 → mp_res g_2 300 6 3 0 99 → mp_res g_2 300 6 4 0 1 → (g_2 = mp_cpr f0 0 120 i_1.toInt.toNat) → (i_1.toInt ≤ 60) → -(i_1.toInt) + 60 ≤ (d_12 : Int) → mp_W E X 5 3 [(4, .int i_1), (0, .ref a0), (1, .int 60), (2, .int 0), (3, .int 2)] [] [(mp_arI E a0 0 300 g_2)] 0 0 := by
    intro d_12
    induction d_12 using Nat.strongRecOn with
    | ind d_12 ih_13 =>
      intro i_1 g_2 l_3 u_4 p_5 p_6 p_7 p_8 x_9 x_10 hm_14
      refine mp_run mp_k_cX10_copyRow_ok hF mp_tabX10_ok [mp_i (.iload 4), mp_i (.iload_n 1), mp_h (.if_icmp .ge 25) [31]] (by decide +kernel) ?_
      refine And.intro (fun c_15 => ?_) (fun c_15 => ?_)
      · have c_15 : 60 ≤ i_1.toInt := c_15
        show mp_W E X 5 31 [(4, .int i_1), (0, .ref a0), (1, .int 60), (2, .int 0), (3, .int 2)] [] [(mp_arI E a0 0 300 g_2)] 0 0
        exact mp_vret hF hQ rfl (Nat.le_of_ble_eq_true rfl) (Nat.le_of_ble_eq_true rfl) [0] (w' := [(mp_arI E a0 0 300 g_2)]) rfl rfl ⟨g_2, rfl, p_5, p_6, p_7, p_8, (by rw [show i_1.toInt.toNat = 60 by omega] at x_9; exact x_9), rfl⟩ (by first | exact mp_fd_ok mp_k_cX10_copyRow_ok (by decide +kernel) | decide +kernel)
      · have c_15 : i_1.toInt < 60 := c_15
        show mp_W E X 5 9 [(4, .int i_1), (0, .ref a0), (1, .int 60), (2, .int 0), (3, .int 2)] [] [(mp_arI E a0 0 300 g_2)] 0 0
        refine mp_run mp_k_cX10_copyRow_ok hF mp_tabX10_ok [mp_i (.aload_n 0), mp_i (.iload_n 1), mp_i (.iload_n 3), mp_i .imul, mp_i (.iload 4), mp_i .iadd, mp_i (.aload_n 0), mp_i (.iload_n 1), mp_i (.iload_n 2), mp_i .imul, mp_i (.iload 4), mp_i .iadd, mp_h .iaload [0], mp_h .iastore [0]] (by decide +kernel) ?_
        intro z_16 h_17
        obtain rfl : z_16 = 120 := h_17.trans (by decide)
        intro z_18 h_19
        have e_20 : z_18.toInt = 120 + i_1.toInt := mp_add (a := 120) (b := i_1.toInt) h_19 (by decide) rfl (by (first | exact mp_o2023 l_3 | omega)) (by (first | exact mp_o2024 c_15 | omega))
        intro z_21 h_22
        obtain rfl : z_21 = 0 := h_22.trans (by decide)
        intro z_23 h_24
        have e_25 : z_23.toInt = 0 + i_1.toInt := mp_add (a := 0) (b := i_1.toInt) h_24 (by decide) rfl (by (first | exact mp_o1319 l_3 | omega)) (by (first | exact mp_o1978 c_15 | omega))
        refine And.intro rfl (And.intro rfl (And.intro (vp_in_iff.mpr (by (first | exact mp_o1979 l_3 e_25 c_15 | omega))) ?_))
        intro z_26 h_27
        have e_28 : z_23.toInt % 6 = 0 → 0 ≤ z_26.toInt ∧ z_26.toInt ≤ 5 := mp_res_ld h_27 p_5 (by (first | exact mp_o1341 l_3 e_25 | omega)) (by (first | exact mp_o1980 c_15 e_25 | omega))
        have e_29 : z_23.toInt % 6 = 1 → 0 ≤ z_26.toInt ∧ z_26.toInt ≤ 5 := mp_res_ld h_27 p_6 (by (first | exact mp_o1341 l_3 e_25 | omega)) (by (first | exact mp_o1980 c_15 e_25 | omega))
        have e_30 : z_23.toInt % 6 = 3 → 0 ≤ z_26.toInt ∧ z_26.toInt ≤ 99 := mp_res_ld h_27 p_7 (by (first | exact mp_o1341 l_3 e_25 | omega)) (by (first | exact mp_o1980 c_15 e_25 | omega))
        have e_31 : z_23.toInt % 6 = 4 → 0 ≤ z_26.toInt ∧ z_26.toInt ≤ 1 := mp_res_ld h_27 p_8 (by (first | exact mp_o1341 l_3 e_25 | omega)) (by (first | exact mp_o1980 c_15 e_25 | omega))
        refine And.intro rfl (And.intro rfl (And.intro (vp_in_iff.mpr (by (first | exact mp_o2025 l_3 e_20 c_15 | omega))) ?_))
        intro g_32 h_33
        have p_34 : mp_res g_32 300 6 0 0 5 := mp_res_st h_33 p_5 (by (first | exact mp_o2026 l_3 e_20 | omega)) (by (first | exact mp_o2027 e_28 e_20 e_25 | omega))
        have p_35 : mp_res g_32 300 6 1 0 5 := mp_res_st h_33 p_6 (by (first | exact mp_o2026 l_3 e_20 | omega)) (by (first | exact mp_o2028 e_29 e_20 e_25 | omega))
        have p_36 : mp_res g_32 300 6 3 0 99 := mp_res_st h_33 p_7 (by (first | exact mp_o2026 l_3 e_20 | omega)) (by (first | exact mp_o2029 e_30 e_20 e_25 | omega))
        have p_37 : mp_res g_32 300 6 4 0 1 := mp_res_st h_33 p_8 (by (first | exact mp_o2026 l_3 e_20 | omega)) (by (first | exact mp_o2030 e_31 e_20 e_25 | omega))
        show mp_W E X 5 25 [(4, .int i_1), (0, .ref a0), (1, .int 60), (2, .int 0), (3, .int 2)] [] [(mp_arI E a0 0 300 g_32)] 0 0
        refine mp_run mp_k_cX10_copyRow_ok hF mp_tabX10_ok [mp_c (.iinc 4 1) 1, mp_h (.goto (-25)) [3]] (by decide +kernel) ?_
        intro z_38 h_39
        have e_40 : z_38.toInt = i_1.toInt + 1 := mp_add (a := i_1.toInt) (b := 1) h_39 rfl (by decide) (by (first | exact mp_o2 l_3 | omega)) (by (first | exact mp_o480 c_15 | omega))
        show mp_W E X 5 3 [(4, .int z_38), (0, .ref a0), (1, .int 60), (2, .int 0), (3, .int 2)] [] [(mp_arI E a0 0 300 g_32)] 0 0
        exact mp_sub [0, 1, 2, 3, 4] rfl [0] rfl rfl (ih_13 (d_12 - 1) (by (first | exact mp_o1364 hm_14 c_15 | omega)) z_38 g_32 (by (first | exact mp_o51 l_3 e_40 | omega)) (by (first | exact mp_o481 c_15 e_40 | omega)) p_34 p_35 p_36 p_37 (mp_cpr_st (m := 60) h_33 h_27 x_9 (by (first | exact mp_o2031 l_3 e_20 | omega)) (by (first | exact mp_o1328 l_3 e_25 | omega)) (by (first | exact mp_o2032 | omega)) (by (first | exact mp_o1989 c_15 | omega)) (by (first | exact mp_o772 l_3 e_40 | omega))) (by (first | exact mp_o481 c_15 e_40 | omega)) (by (first | exact mp_o1990 hm_14 e_40 | omega)))
  exact mp_sub [0, 1, 2, 3, 4] rfl [0] rfl rfl (lp_11 _ 0 f0 (by decide) (by decide) p0 p1 p2 p3 (mp_cpr_0 (by decide)) (by decide) (Int.self_le_toNat _))
set_option maxHeartbeats 4000000 in
set_option maxRecDepth 100000 in
theorem bX10_copyRow_172 (E : mp_E) (a0 : Nat) (f0 : Nat → Int32) (p0 : mp_actm f0) : mp_Ct E yX10_copyRow cX10_copyRow 5 none 0 0 0 0 [.ref a0, .int 60, .int 0, .int 2] [(mp_arI E a0 0 300 f0)] (fun v w' => ∃ h1 : Nat → Int32, v = none ∧ mp_actm h1 ∧ (h1 = mp_cpr f0 0 120 60) ∧ w' = [(mp_arI E a0 0 300 h1)]) := by
  refine mp_met false (by decide) (by decide) (Nat.le_of_ble_eq_true rfl) (fun X hF hQ => ?_)
  have hF : mp_F E X (RX10, cX10_copyRow, 5, (0, 0, 0, 0), none, false) := hF
  show mp_W E X 5 0 [(0, .ref a0), (1, .int 60), (2, .int 0), (3, .int 2)] [] [(mp_arI E a0 0 300 f0)] 0 0
  refine mp_run mp_k_cX10_copyRow_ok hF mp_tabX10_ok [mp_c (.iconst 0) 0, mp_i (.istore 4)] (by decide +kernel) ?_
  show mp_W E X 5 3 [(4, .int 0), (0, .ref a0), (1, .int 60), (2, .int 0), (3, .int 2)] [] [(mp_arI E a0 0 300 f0)] 0 0
  have lp_8 : ∀ (d_9 : Nat) (i_1 : Int32) (g_2 : Nat → Int32), 0 ≤ i_1.toInt → i_1.toInt ≤ 60 → mp_actm g_2 → (g_2 = mp_cpr f0 0 120 i_1.toInt.toNat) → (i_1.toInt ≤ 60) → -(i_1.toInt) + 60 ≤ (d_9 : Int) → mp_W E X 5 3 [(4, .int i_1), (0, .ref a0), (1, .int 60), (2, .int 0), (3, .int 2)] [] [(mp_arI E a0 0 300 g_2)] 0 0 := by
    intro d_9
    induction d_9 using Nat.strongRecOn with
    | ind d_9 ih_10 =>
      intro i_1 g_2 l_3 u_4 p_5 x_6 x_7 hm_11
      refine mp_run mp_k_cX10_copyRow_ok hF mp_tabX10_ok [mp_i (.iload 4), mp_i (.iload_n 1), mp_h (.if_icmp .ge 25) [31]] (by decide +kernel) ?_
      refine And.intro (fun c_12 => ?_) (fun c_12 => ?_)
      · have c_12 : 60 ≤ i_1.toInt := c_12
        show mp_W E X 5 31 [(4, .int i_1), (0, .ref a0), (1, .int 60), (2, .int 0), (3, .int 2)] [] [(mp_arI E a0 0 300 g_2)] 0 0
        exact mp_vret hF hQ rfl (Nat.le_of_ble_eq_true rfl) (Nat.le_of_ble_eq_true rfl) [0] (w' := [(mp_arI E a0 0 300 g_2)]) rfl rfl ⟨g_2, rfl, p_5, (by rw [show i_1.toInt.toNat = 60 by (first | exact mp_o1357 c_12 u_4 | omega)] at x_6; exact x_6), rfl⟩ (by first | exact mp_fd_ok mp_k_cX10_copyRow_ok (by decide +kernel) | decide +kernel)
      · have c_12 : i_1.toInt < 60 := c_12
        show mp_W E X 5 9 [(4, .int i_1), (0, .ref a0), (1, .int 60), (2, .int 0), (3, .int 2)] [] [(mp_arI E a0 0 300 g_2)] 0 0
        refine mp_run mp_k_cX10_copyRow_ok hF mp_tabX10_ok [mp_i (.aload_n 0), mp_i (.iload_n 1), mp_i (.iload_n 3), mp_i .imul, mp_i (.iload 4), mp_i .iadd, mp_i (.aload_n 0), mp_i (.iload_n 1), mp_i (.iload_n 2), mp_i .imul, mp_i (.iload 4), mp_i .iadd, mp_h .iaload [0], mp_h .iastore [0]] (by decide +kernel) ?_
        intro z_13 h_14
        obtain rfl : z_13 = 120 := h_14.trans (by decide)
        intro z_15 h_16
        have e_17 : z_15.toInt = 120 + i_1.toInt := mp_add (a := 120) (b := i_1.toInt) h_16 (by decide) rfl (by omega) (by omega)
        intro z_18 h_19
        obtain rfl : z_18 = 0 := h_19.trans (by decide)
        intro z_20 h_21
        have e_22 : z_20.toInt = 0 + i_1.toInt := mp_add (a := 0) (b := i_1.toInt) h_21 (by decide) rfl (by omega) (by omega)
        refine And.intro rfl (And.intro rfl (And.intro (vp_in_iff.mpr (by omega)) ?_))
        intro z_23 h_24
        have e_25 := mp_actm_ld h_24 p_5 (by omega) (by (first | exact mp_o1991 c_12 e_22 | omega))
        refine And.intro rfl (And.intro rfl (And.intro (vp_in_iff.mpr (by omega)) ?_))
        intro g_26 h_27
        have p_28 : mp_actm g_26 := mp_actm_st h_27 p_5 (by (first | exact e_25 | omega))
        show mp_W E X 5 25 [(4, .int i_1), (0, .ref a0), (1, .int 60), (2, .int 0), (3, .int 2)] [] [(mp_arI E a0 0 300 g_26)] 0 0
        refine mp_run mp_k_cX10_copyRow_ok hF mp_tabX10_ok [mp_c (.iinc 4 1) 1, mp_h (.goto (-25)) [3]] (by decide +kernel) ?_
        intro z_29 h_30
        have e_31 : z_29.toInt = i_1.toInt + 1 := mp_add (a := i_1.toInt) (b := 1) h_30 rfl (by decide) (by omega) (by omega)
        show mp_W E X 5 3 [(4, .int z_29), (0, .ref a0), (1, .int 60), (2, .int 0), (3, .int 2)] [] [(mp_arI E a0 0 300 g_26)] 0 0
        exact mp_sub [0, 1, 2, 3, 4] rfl [0] rfl rfl (ih_10 (d_9 - 1) (by omega) z_29 g_26 (by omega) (by omega) p_28 (mp_cpr_st (m := 60) h_27 h_24 x_6 (by omega) (by omega) (by omega) (by omega) (by omega)) (by omega) (by omega))
  exact mp_sub [0, 1, 2, 3, 4] rfl [0] rfl rfl (lp_8 _ 0 f0 (by decide) (by decide) p0 (mp_cpr_0 (by decide)) (by decide) (Int.self_le_toNat _))
set_option maxHeartbeats 4000000 in
set_option maxRecDepth 100000 in
theorem bX10_copyIsles_173 (E : mp_E) (a0 a1 a2 a3 a4 a5 a6 a7 a8 a9 a10 a11 a12 a13 a14 a15 a16 a17 a18 a19 a20 a21 a22 a23 a24 a25 : Nat) (f0 : Nat → Int32) (f1 : Nat → Int32) (f2 : Nat → Int32) (f3 : Nat → Int32) (f4 : Nat → Int32) (f5 : Nat → Int32) (f6 : Nat → Int32) (y0 : Int32) (y1 : Int32) (y2 : Int32) (y3 : Int32) (y4 : Int32) (y5 : Int32) (y6 : Int64) (y7 : Int32) (y8 : Int32) (y9 : Int32) (y10 : Int32) (y11 : Int32) (y12 : Int32) (y13 : Int32) (y14 : Int32) (y15 : Int32) (y16 : Int32) (y17 : Int32) (y18 : Int32) (y19 : Int32) (y20 : Int32) (y21 : Int32) (p0 : mp_res f1 25 5 0 0 6) (p1 : mp_res f1 25 5 1 0 99) (p2 : mp_res f1 25 5 2 0 6) (p3 : mp_res f1 25 5 3 0 10) (p4 : mp_res f1 25 5 4 0 60) (p5 : mp_all f2 180 0 20) (p6 : mp_all f3 3000 0 1) (p7 : mp_res f4 90 3 0 0 5) (p8 : mp_res f4 90 3 1 (-1) 99) (p9 : mp_res f5 300 6 0 0 5) (p10 : mp_res f5 300 6 1 0 5) (p11 : mp_res f5 300 6 3 0 99) (p12 : mp_res f5 300 6 4 0 1) (p13 : mp_actm f6) (l_y1 : 0 ≤ y1.toInt) (u_y1 : y1.toInt ≤ 1600) (l_y2 : 0 ≤ y2.toInt) (u_y2 : y2.toInt ≤ 1600) (l_y3 : 0 ≤ y3.toInt) (u_y3 : y3.toInt ≤ 4) (l_y4 : 0 ≤ y4.toInt) (u_y4 : y4.toInt ≤ 1600) (l_y11 : 0 ≤ y11.toInt) (u_y11 : y11.toInt ≤ 99) (l_y12 : 0 ≤ y12.toInt) (u_y12 : y12.toInt ≤ 5) (l_y13 : 0 ≤ y13.toInt) (u_y13 : y13.toInt ≤ 12) : mp_Ct E yX10_copyIsles cX10_copyIsles 4 none 1 0 0 24 [.ref a0, .int 0, .int 2] [(mp_ob10 a0 y0 a8 a9 a10 a11 a12 y1 y2 y3 y4 y5 y6 y7 y8 y9 y10 a1 a2 a3 a4 a5 a6 a7 a13 y11 a14 a15 a16 a17 y12 y13 y14 a18 a19 y15 y16 a20 a21 a22 y17 y18 y19 y20 a23 a24 a25 y21), (mp_arI E a1 0 5 f0), (mp_arI E a2 0 25 f1), (mp_arI E a3 0 180 f2), (mp_arI E a4 3 3000 f3), (mp_arI E a5 0 90 f4), (mp_arI E a6 0 300 f5), (mp_arI E a7 0 300 f6)] (fun v w' => ∃ h1 : Nat → Int32, ∃ h2 : Nat → Int32, ∃ h3 : Nat → Int32, ∃ h4 : Nat → Int32, ∃ h5 : Nat → Int32, ∃ h6 : Nat → Int32, ∃ h7 : Nat → Int32, v = none ∧ mp_res h2 25 5 0 0 6 ∧ mp_res h2 25 5 1 0 99 ∧ mp_res h2 25 5 2 0 6 ∧ mp_res h2 25 5 3 0 10 ∧ mp_res h2 25 5 4 0 60 ∧ mp_all h3 180 0 20 ∧ mp_all h4 3000 0 1 ∧ mp_res h5 90 3 0 0 5 ∧ mp_res h5 90 3 1 (-1) 99 ∧ mp_res h6 300 6 0 0 5 ∧ mp_res h6 300 6 1 0 5 ∧ mp_res h6 300 6 3 0 99 ∧ mp_res h6 300 6 4 0 1 ∧ mp_actm h7 ∧ (h1 = mp_cpr f0 0 2 1) ∧ (h2 = mp_cpr f1 0 10 5) ∧ (h3 = mp_cpr f2 0 72 36) ∧ (h5 = mp_cpr f4 0 36 18) ∧ (h6 = mp_cpr f5 0 120 60) ∧ (h7 = mp_cpr f6 0 120 60) ∧ (h4 = mp_cpr f3 0 1200 600) ∧ w' = [(mp_ob10 a0 y0 a8 a9 a10 a11 a12 y1 y2 y3 y4 y5 y6 y7 y8 y9 y10 a1 a2 a3 a4 a5 a6 a7 a13 y11 a14 a15 a16 a17 y12 y13 y14 a18 a19 y15 y16 a20 a21 a22 y17 y18 y19 y20 a23 a24 a25 y21), (mp_arI E a1 0 5 h1), (mp_arI E a2 0 25 h2), (mp_arI E a3 0 180 h3), (mp_arI E a4 3 3000 h4), (mp_arI E a5 0 90 h5), (mp_arI E a6 0 300 h6), (mp_arI E a7 0 300 h7)]) := by
  refine mp_met false (by decide) (by decide) (Nat.le_of_ble_eq_true rfl) (fun X hF hQ => ?_)
  have hF : mp_F E X (RX10, cX10_copyIsles, 4, (1, 0, 0, 24), none, false) := hF
  let w1_ : va_W := [(mp_ob10 a0 y0 a8 a9 a10 a11 a12 y1 y2 y3 y4 y5 y6 y7 y8 y9 y10 a1 a2 a3 a4 a5 a6 a7 a13 y11 a14 a15 a16 a17 y12 y13 y14 a18 a19 y15 y16 a20 a21 a22 y17 y18 y19 y20 a23 a24 a25 y21), (mp_arI E a1 0 5 f0), (mp_arI E a2 0 25 f1), (mp_arI E a3 0 180 f2), (mp_arI E a4 3 3000 f3), (mp_arI E a5 0 90 f4), (mp_arI E a6 0 300 f5), (mp_arI E a7 0 300 f6)]
  show mp_W E X 4 0 [(0, .ref a0), (1, .int 0), (2, .int 2)] [] w1_ 0 0
  refine mp_run mp_k_cX10_copyIsles_ok hF mp_tabX10_ok [mp_i (.aload_n 0), mp_h (.getfield 31) [16, 0], mp_c (.iconst 1) 1, mp_i (.iload_n 1), mp_i (.iload_n 2)] (by decide +kernel) ?_
  refine And.intro rfl (And.intro rfl ?_)
  show mp_W E X 4 7 [(0, .ref a0), (1, .int 0), (2, .int 2)] [.int 2, .int 0, .int 1, .ref a1] w1_ 0 0
  refine mp_callS hF (As := [.ref a1, .int 1, .int 0, .int 2]) (rest := []) (wr := [(mp_ob10 a0 y0 a8 a9 a10 a11 a12 y1 y2 y3 y4 y5 y6 y7 y8 y9 y10 a1 a2 a3 a4 a5 a6 a7 a13 y11 a14 a15 a16 a17 y12 y13 y14 a18 a19 y15 y16 a20 a21 a22 y17 y18 y19 y20 a23 a24 a25 y21), (mp_arI E a2 0 25 f1), (mp_arI E a3 0 180 f2), (mp_arI E a4 3 3000 f3), (mp_arI E a5 0 90 f4), (mp_arI E a6 0 300 f5), (mp_arI E a7 0 300 f6)]) (bX10_copyRow_167 E a1 f0) mp_lkX10_251 [1] [0, 2, 3, 4, 5, 6, 7] rfl rfl rfl rfl rfl ⟨(Nat.le_of_ble_eq_true rfl), (Nat.le_of_ble_eq_true rfl), (Nat.le_of_ble_eq_true rfl), (Nat.le_of_ble_eq_true rfl)⟩ (Nat.le_of_ble_eq_true rfl) (by first | exact mp_fd_ok mp_k_cX10_copyIsles_ok (by decide +kernel) | decide +kernel) (fun v_1 w_2 h_3 => ?_)
  obtain ⟨g_4, rfl, x_5, rfl⟩ := h_3
  let w2_ : va_W := [(mp_ob10 a0 y0 a8 a9 a10 a11 a12 y1 y2 y3 y4 y5 y6 y7 y8 y9 y10 a1 a2 a3 a4 a5 a6 a7 a13 y11 a14 a15 a16 a17 y12 y13 y14 a18 a19 y15 y16 a20 a21 a22 y17 y18 y19 y20 a23 a24 a25 y21), (mp_arI E a2 0 25 f1), (mp_arI E a3 0 180 f2), (mp_arI E a4 3 3000 f3), (mp_arI E a5 0 90 f4), (mp_arI E a6 0 300 f5), (mp_arI E a7 0 300 f6), (mp_arI E a1 0 5 g_4)]
  show mp_W E X 4 10 [(0, .ref a0), (1, .int 0), (2, .int 2)] [] w2_ 0 0
  refine mp_run mp_k_cX10_copyIsles_ok hF mp_tabX10_ok [mp_i (.aload_n 0), mp_h (.getfield 34) [17, 0], mp_c (.iconst 5) 5, mp_i (.iload_n 1), mp_i (.iload_n 2)] (by decide +kernel) ?_
  refine And.intro rfl (And.intro rfl ?_)
  show mp_W E X 4 17 [(0, .ref a0), (1, .int 0), (2, .int 2)] [.int 2, .int 0, .int 5, .ref a2] w2_ 0 0
  refine mp_callS hF (As := [.ref a2, .int 5, .int 0, .int 2]) (rest := []) (wr := [(mp_ob10 a0 y0 a8 a9 a10 a11 a12 y1 y2 y3 y4 y5 y6 y7 y8 y9 y10 a1 a2 a3 a4 a5 a6 a7 a13 y11 a14 a15 a16 a17 y12 y13 y14 a18 a19 y15 y16 a20 a21 a22 y17 y18 y19 y20 a23 a24 a25 y21), (mp_arI E a3 0 180 f2), (mp_arI E a4 3 3000 f3), (mp_arI E a5 0 90 f4), (mp_arI E a6 0 300 f5), (mp_arI E a7 0 300 f6), (mp_arI E a1 0 5 g_4)]) (bX10_copyRow_168 E a2 f1 p0 p1 p2 p3 p4) mp_lkX10_251 [1] [0, 2, 3, 4, 5, 6, 7] rfl rfl rfl rfl rfl ⟨(Nat.le_of_ble_eq_true rfl), (Nat.le_of_ble_eq_true rfl), (Nat.le_of_ble_eq_true rfl), (Nat.le_of_ble_eq_true rfl)⟩ (Nat.le_of_ble_eq_true rfl) (by first | exact mp_fd_ok mp_k_cX10_copyIsles_ok (by decide +kernel) | decide +kernel) (fun v_6 w_7 h_8 => ?_)
  refine h_8.elim fun g_9 q_16 => q_16.elim fun e_17 q_18 => q_18.elim fun p_10 q_19 => q_19.elim fun p_11 q_20 => q_20.elim fun p_12 q_21 => q_21.elim fun p_13 q_22 => q_22.elim fun p_14 q_23 => q_23.elim fun x_15 e_24 => ?_
  clear h_8 q_16 q_18 q_19 q_20 q_21 q_22 q_23
  subst e_17
  subst e_24
  let w3_ : va_W := [(mp_ob10 a0 y0 a8 a9 a10 a11 a12 y1 y2 y3 y4 y5 y6 y7 y8 y9 y10 a1 a2 a3 a4 a5 a6 a7 a13 y11 a14 a15 a16 a17 y12 y13 y14 a18 a19 y15 y16 a20 a21 a22 y17 y18 y19 y20 a23 a24 a25 y21), (mp_arI E a3 0 180 f2), (mp_arI E a4 3 3000 f3), (mp_arI E a5 0 90 f4), (mp_arI E a6 0 300 f5), (mp_arI E a7 0 300 f6), (mp_arI E a1 0 5 g_4), (mp_arI E a2 0 25 g_9)]
  show mp_W E X 4 20 [(0, .ref a0), (1, .int 0), (2, .int 2)] [] w3_ 0 0
  refine mp_run mp_k_cX10_copyIsles_ok hF mp_tabX10_ok [mp_i (.aload_n 0), mp_h (.getfield 37) [18, 0], mp_c (.bipush 36) 36, mp_i (.iload_n 1), mp_i (.iload_n 2)] (by decide +kernel) ?_
  refine And.intro rfl (And.intro rfl ?_)
  show mp_W E X 4 28 [(0, .ref a0), (1, .int 0), (2, .int 2)] [.int 2, .int 0, .int 36, .ref a3] w3_ 0 0
  refine mp_callS hF (As := [.ref a3, .int 36, .int 0, .int 2]) (rest := []) (wr := [(mp_ob10 a0 y0 a8 a9 a10 a11 a12 y1 y2 y3 y4 y5 y6 y7 y8 y9 y10 a1 a2 a3 a4 a5 a6 a7 a13 y11 a14 a15 a16 a17 y12 y13 y14 a18 a19 y15 y16 a20 a21 a22 y17 y18 y19 y20 a23 a24 a25 y21), (mp_arI E a4 3 3000 f3), (mp_arI E a5 0 90 f4), (mp_arI E a6 0 300 f5), (mp_arI E a7 0 300 f6), (mp_arI E a1 0 5 g_4), (mp_arI E a2 0 25 g_9)]) (bX10_copyRow_169 E a3 f2 p5) mp_lkX10_251 [1] [0, 2, 3, 4, 5, 6, 7] rfl rfl rfl rfl rfl ⟨(Nat.le_of_ble_eq_true rfl), (Nat.le_of_ble_eq_true rfl), (Nat.le_of_ble_eq_true rfl), (Nat.le_of_ble_eq_true rfl)⟩ (Nat.le_of_ble_eq_true rfl) (by first | exact mp_fd_ok mp_k_cX10_copyIsles_ok (by decide +kernel) | decide +kernel) (fun v_25 w_26 h_27 => ?_)
  obtain ⟨g_28, rfl, p_29, x_30, rfl⟩ := h_27
  let w4_ : va_W := [(mp_ob10 a0 y0 a8 a9 a10 a11 a12 y1 y2 y3 y4 y5 y6 y7 y8 y9 y10 a1 a2 a3 a4 a5 a6 a7 a13 y11 a14 a15 a16 a17 y12 y13 y14 a18 a19 y15 y16 a20 a21 a22 y17 y18 y19 y20 a23 a24 a25 y21), (mp_arI E a4 3 3000 f3), (mp_arI E a5 0 90 f4), (mp_arI E a6 0 300 f5), (mp_arI E a7 0 300 f6), (mp_arI E a1 0 5 g_4), (mp_arI E a2 0 25 g_9), (mp_arI E a3 0 180 g_28)]
  show mp_W E X 4 31 [(0, .ref a0), (1, .int 0), (2, .int 2)] [] w4_ 0 0
  refine mp_run mp_k_cX10_copyIsles_ok hF mp_tabX10_ok [mp_c (.iconst 0) 0, mp_i (.istore_n 3)] (by decide +kernel) ?_
  show mp_W E X 4 33 [(3, .int 0), (0, .ref a0), (1, .int 0), (2, .int 2)] [] w4_ 0 0
  have lp_39 : ∀ (d_40 : Nat) (i_31 : Int32) (g_32 : Nat → Int32), 0 ≤ i_31.toInt → i_31.toInt ≤ 600 → mp_all g_32 3000 0 1 → (g_32 = mp_cpr f3 0 1200 i_31.toInt.toNat) → (i_31.toInt ≤ 600) → (0 ≤ i_31.toInt) → -(i_31.toInt) + 600 ≤ (d_40 : Int) → mp_W E X 4 33 [(3, .int i_31), (0, .ref a0), (1, .int 0), (2, .int 2)] [] [(mp_ob10 a0 y0 a8 a9 a10 a11 a12 y1 y2 y3 y4 y5 y6 y7 y8 y9 y10 a1 a2 a3 a4 a5 a6 a7 a13 y11 a14 a15 a16 a17 y12 y13 y14 a18 a19 y15 y16 a20 a21 a22 y17 y18 y19 y20 a23 a24 a25 y21), (mp_arI E a4 3 3000 g_32), (mp_arI E a5 0 90 f4), (mp_arI E a6 0 300 f5), (mp_arI E a7 0 300 f6), (mp_arI E a1 0 5 g_4), (mp_arI E a2 0 25 g_9), (mp_arI E a3 0 180 g_28)] 0 0 := by
    intro d_40
    induction d_40 using Nat.strongRecOn with
    | ind d_40 ih_41 =>
      intro i_31 g_32 l_33 u_34 p_35 x_36 x_37 x_38 hm_42
      refine mp_run mp_k_cX10_copyIsles_ok hF mp_tabX10_ok [mp_i (.iload_n 3), mp_c (.sipush 600) 600, mp_h (.if_icmp .ge 33) [70]] (by decide +kernel) ?_
      refine And.intro (fun c_43 => ?_) (fun c_43 => ?_)
      · have c_43 : 600 ≤ i_31.toInt := c_43
        let w5_ : va_W := [(mp_ob10 a0 y0 a8 a9 a10 a11 a12 y1 y2 y3 y4 y5 y6 y7 y8 y9 y10 a1 a2 a3 a4 a5 a6 a7 a13 y11 a14 a15 a16 a17 y12 y13 y14 a18 a19 y15 y16 a20 a21 a22 y17 y18 y19 y20 a23 a24 a25 y21), (mp_arI E a4 3 3000 g_32), (mp_arI E a5 0 90 f4), (mp_arI E a6 0 300 f5), (mp_arI E a7 0 300 f6), (mp_arI E a1 0 5 g_4), (mp_arI E a2 0 25 g_9), (mp_arI E a3 0 180 g_28)]
        show mp_W E X 4 70 [(3, .int i_31), (0, .ref a0), (1, .int 0), (2, .int 2)] [] w5_ 0 0
        refine mp_run mp_k_cX10_copyIsles_ok hF mp_tabX10_ok [mp_i (.aload_n 0), mp_h (.getfield 44) [20, 0], mp_c (.bipush 18) 18, mp_i (.iload_n 1), mp_i (.iload_n 2)] (by decide +kernel) ?_
        refine And.intro rfl (And.intro rfl ?_)
        show mp_W E X 4 78 [(3, .int i_31), (0, .ref a0), (1, .int 0), (2, .int 2)] [.int 2, .int 0, .int 18, .ref a5] w5_ 0 0
        refine mp_callS hF (As := [.ref a5, .int 18, .int 0, .int 2]) (rest := []) (wr := [(mp_ob10 a0 y0 a8 a9 a10 a11 a12 y1 y2 y3 y4 y5 y6 y7 y8 y9 y10 a1 a2 a3 a4 a5 a6 a7 a13 y11 a14 a15 a16 a17 y12 y13 y14 a18 a19 y15 y16 a20 a21 a22 y17 y18 y19 y20 a23 a24 a25 y21), (mp_arI E a4 3 3000 g_32), (mp_arI E a6 0 300 f5), (mp_arI E a7 0 300 f6), (mp_arI E a1 0 5 g_4), (mp_arI E a2 0 25 g_9), (mp_arI E a3 0 180 g_28)]) (bX10_copyRow_170 E a5 f4 p7 p8) mp_lkX10_251 [2] [0, 1, 3, 4, 5, 6, 7] rfl rfl rfl rfl rfl ⟨(Nat.le_of_ble_eq_true rfl), (Nat.le_of_ble_eq_true rfl), (Nat.le_of_ble_eq_true rfl), (Nat.le_of_ble_eq_true rfl)⟩ (Nat.le_of_ble_eq_true rfl) (by first | exact mp_fd_ok mp_k_cX10_copyIsles_ok (by decide +kernel) | decide +kernel) (fun v_44 w_45 h_46 => ?_)
        refine h_46.elim fun g_47 q_51 => q_51.elim fun e_52 q_53 => q_53.elim fun p_48 q_54 => q_54.elim fun p_49 q_55 => q_55.elim fun x_50 e_56 => ?_
        clear h_46 q_51 q_53 q_54 q_55
        subst e_52
        subst e_56
        let w6_ : va_W := [(mp_ob10 a0 y0 a8 a9 a10 a11 a12 y1 y2 y3 y4 y5 y6 y7 y8 y9 y10 a1 a2 a3 a4 a5 a6 a7 a13 y11 a14 a15 a16 a17 y12 y13 y14 a18 a19 y15 y16 a20 a21 a22 y17 y18 y19 y20 a23 a24 a25 y21), (mp_arI E a4 3 3000 g_32), (mp_arI E a6 0 300 f5), (mp_arI E a7 0 300 f6), (mp_arI E a1 0 5 g_4), (mp_arI E a2 0 25 g_9), (mp_arI E a3 0 180 g_28), (mp_arI E a5 0 90 g_47)]
        show mp_W E X 4 81 [(3, .int i_31), (0, .ref a0), (1, .int 0), (2, .int 2)] [] w6_ 0 0
        refine mp_run mp_k_cX10_copyIsles_ok hF mp_tabX10_ok [mp_i (.aload_n 0), mp_h (.getfield 47) [21, 0], mp_c (.bipush 60) 60, mp_i (.iload_n 1), mp_i (.iload_n 2)] (by decide +kernel) ?_
        refine And.intro rfl (And.intro rfl ?_)
        show mp_W E X 4 89 [(3, .int i_31), (0, .ref a0), (1, .int 0), (2, .int 2)] [.int 2, .int 0, .int 60, .ref a6] w6_ 0 0
        refine mp_callS hF (As := [.ref a6, .int 60, .int 0, .int 2]) (rest := []) (wr := [(mp_ob10 a0 y0 a8 a9 a10 a11 a12 y1 y2 y3 y4 y5 y6 y7 y8 y9 y10 a1 a2 a3 a4 a5 a6 a7 a13 y11 a14 a15 a16 a17 y12 y13 y14 a18 a19 y15 y16 a20 a21 a22 y17 y18 y19 y20 a23 a24 a25 y21), (mp_arI E a4 3 3000 g_32), (mp_arI E a7 0 300 f6), (mp_arI E a1 0 5 g_4), (mp_arI E a2 0 25 g_9), (mp_arI E a3 0 180 g_28), (mp_arI E a5 0 90 g_47)]) (bX10_copyRow_171 E a6 f5 p9 p10 p11 p12) mp_lkX10_251 [2] [0, 1, 3, 4, 5, 6, 7] rfl rfl rfl rfl rfl ⟨(Nat.le_of_ble_eq_true rfl), (Nat.le_of_ble_eq_true rfl), (Nat.le_of_ble_eq_true rfl), (Nat.le_of_ble_eq_true rfl)⟩ (Nat.le_of_ble_eq_true rfl) (by first | exact mp_fd_ok mp_k_cX10_copyIsles_ok (by decide +kernel) | decide +kernel) (fun v_57 w_58 h_59 => ?_)
        refine h_59.elim fun g_60 q_66 => q_66.elim fun e_67 q_68 => q_68.elim fun p_61 q_69 => q_69.elim fun p_62 q_70 => q_70.elim fun p_63 q_71 => q_71.elim fun p_64 q_72 => q_72.elim fun x_65 e_73 => ?_
        clear h_59 q_66 q_68 q_69 q_70 q_71 q_72
        subst e_67
        subst e_73
        let w7_ : va_W := [(mp_ob10 a0 y0 a8 a9 a10 a11 a12 y1 y2 y3 y4 y5 y6 y7 y8 y9 y10 a1 a2 a3 a4 a5 a6 a7 a13 y11 a14 a15 a16 a17 y12 y13 y14 a18 a19 y15 y16 a20 a21 a22 y17 y18 y19 y20 a23 a24 a25 y21), (mp_arI E a4 3 3000 g_32), (mp_arI E a7 0 300 f6), (mp_arI E a1 0 5 g_4), (mp_arI E a2 0 25 g_9), (mp_arI E a3 0 180 g_28), (mp_arI E a5 0 90 g_47), (mp_arI E a6 0 300 g_60)]
        show mp_W E X 4 92 [(3, .int i_31), (0, .ref a0), (1, .int 0), (2, .int 2)] [] w7_ 0 0
        refine mp_run mp_k_cX10_copyIsles_ok hF mp_tabX10_ok [mp_i (.aload_n 0), mp_h (.getfield 50) [22, 0], mp_c (.bipush 60) 60, mp_i (.iload_n 1), mp_i (.iload_n 2)] (by decide +kernel) ?_
        refine And.intro rfl (And.intro rfl ?_)
        show mp_W E X 4 100 [(3, .int i_31), (0, .ref a0), (1, .int 0), (2, .int 2)] [.int 2, .int 0, .int 60, .ref a7] w7_ 0 0
        refine mp_callS hF (As := [.ref a7, .int 60, .int 0, .int 2]) (rest := []) (wr := [(mp_ob10 a0 y0 a8 a9 a10 a11 a12 y1 y2 y3 y4 y5 y6 y7 y8 y9 y10 a1 a2 a3 a4 a5 a6 a7 a13 y11 a14 a15 a16 a17 y12 y13 y14 a18 a19 y15 y16 a20 a21 a22 y17 y18 y19 y20 a23 a24 a25 y21), (mp_arI E a4 3 3000 g_32), (mp_arI E a1 0 5 g_4), (mp_arI E a2 0 25 g_9), (mp_arI E a3 0 180 g_28), (mp_arI E a5 0 90 g_47), (mp_arI E a6 0 300 g_60)]) (bX10_copyRow_172 E a7 f6 p13) mp_lkX10_251 [2] [0, 1, 3, 4, 5, 6, 7] rfl rfl rfl rfl rfl ⟨(Nat.le_of_ble_eq_true rfl), (Nat.le_of_ble_eq_true rfl), (Nat.le_of_ble_eq_true rfl), (Nat.le_of_ble_eq_true rfl)⟩ (Nat.le_of_ble_eq_true rfl) (by first | exact mp_fd_ok mp_k_cX10_copyIsles_ok (by decide +kernel) | decide +kernel) (fun v_74 w_75 h_76 => ?_)
        obtain ⟨g_77, rfl, p_78, x_79, rfl⟩ := h_76
        let w8_ : va_W := [(mp_ob10 a0 y0 a8 a9 a10 a11 a12 y1 y2 y3 y4 y5 y6 y7 y8 y9 y10 a1 a2 a3 a4 a5 a6 a7 a13 y11 a14 a15 a16 a17 y12 y13 y14 a18 a19 y15 y16 a20 a21 a22 y17 y18 y19 y20 a23 a24 a25 y21), (mp_arI E a4 3 3000 g_32), (mp_arI E a1 0 5 g_4), (mp_arI E a2 0 25 g_9), (mp_arI E a3 0 180 g_28), (mp_arI E a5 0 90 g_47), (mp_arI E a6 0 300 g_60), (mp_arI E a7 0 300 g_77)]
        show mp_W E X 4 103 [(3, .int i_31), (0, .ref a0), (1, .int 0), (2, .int 2)] [] w8_ 0 0
        exact mp_vret hF hQ rfl (Nat.le_of_ble_eq_true rfl) (Nat.le_of_ble_eq_true rfl) [0, 2, 3, 4, 1, 5, 6, 7] (w' := [(mp_ob10 a0 y0 a8 a9 a10 a11 a12 y1 y2 y3 y4 y5 y6 y7 y8 y9 y10 a1 a2 a3 a4 a5 a6 a7 a13 y11 a14 a15 a16 a17 y12 y13 y14 a18 a19 y15 y16 a20 a21 a22 y17 y18 y19 y20 a23 a24 a25 y21), (mp_arI E a1 0 5 g_4), (mp_arI E a2 0 25 g_9), (mp_arI E a3 0 180 g_28), (mp_arI E a4 3 3000 g_32), (mp_arI E a5 0 90 g_47), (mp_arI E a6 0 300 g_60), (mp_arI E a7 0 300 g_77)]) rfl rfl ⟨g_4, g_9, g_28, g_32, g_47, g_60, g_77, rfl, p_10, p_11, p_12, p_13, p_14, p_29, p_35, p_48, p_49, p_61, p_62, p_63, p_64, p_78, x_5, x_15, x_30, x_50, x_65, x_79, (by have k9 := x_36; rw [show i_31.toInt.toNat = 600 by (first | exact mp_o1366 c_43 u_34 | omega)] at k9; exact k9), rfl⟩ (by first | exact mp_fd_ok mp_k_cX10_copyIsles_ok (by decide +kernel) | decide +kernel)
      · have c_43 : i_31.toInt < 600 := c_43
        let w9_ : va_W := [(mp_ob10 a0 y0 a8 a9 a10 a11 a12 y1 y2 y3 y4 y5 y6 y7 y8 y9 y10 a1 a2 a3 a4 a5 a6 a7 a13 y11 a14 a15 a16 a17 y12 y13 y14 a18 a19 y15 y16 a20 a21 a22 y17 y18 y19 y20 a23 a24 a25 y21), (mp_arI E a4 3 3000 g_32), (mp_arI E a5 0 90 f4), (mp_arI E a6 0 300 f5), (mp_arI E a7 0 300 f6), (mp_arI E a1 0 5 g_4), (mp_arI E a2 0 25 g_9), (mp_arI E a3 0 180 g_28)]
        show mp_W E X 4 40 [(3, .int i_31), (0, .ref a0), (1, .int 0), (2, .int 2)] [] w9_ 0 0
        refine mp_run mp_k_cX10_copyIsles_ok hF mp_tabX10_ok [mp_i (.aload_n 0), mp_h (.getfield 40) [19, 0], mp_c (.sipush 600) 600, mp_i (.iload_n 2), mp_i .imul, mp_i (.iload_n 3), mp_i .iadd, mp_i (.aload_n 0), mp_h (.getfield 40) [19, 0], mp_c (.sipush 600) 600, mp_i (.iload_n 1), mp_i .imul, mp_i (.iload_n 3), mp_i .iadd, mp_h .baload [1, 0], mp_h .bastore [1, 0]] (by decide +kernel) ?_
        refine And.intro rfl (And.intro rfl ?_)
        intro z_80 h_81
        obtain rfl : z_80 = 1200 := h_81.trans (by decide)
        intro z_82 h_83
        have e_84 : z_82.toInt = 1200 + i_31.toInt := mp_add (a := 1200) (b := i_31.toInt) h_83 (by decide) rfl (by (first | exact mp_o2033 l_33 | omega)) (by (first | exact mp_o2034 c_43 | omega))
        refine And.intro rfl (And.intro rfl ?_)
        intro z_85 h_86
        obtain rfl : z_85 = 0 := h_86.trans (by decide)
        intro z_87 h_88
        have e_89 : z_87.toInt = 0 + i_31.toInt := mp_add (a := 0) (b := i_31.toInt) h_88 (by decide) rfl (by (first | exact mp_o1319 l_33 | omega)) (by (first | exact mp_o1367 c_43 | omega))
        refine And.intro rfl (And.intro rfl (And.intro (vp_in_iff.mpr (by (first | exact mp_o1370 l_33 e_89 c_43 | omega))) ?_))
        intro z_90 h_91
        have e_92 : 0 ≤ z_90.toInt ∧ z_90.toInt ≤ 1 := mp_all_ld h_91 p_35 (by (first | exact mp_o1341 l_33 e_89 | omega)) (by (first | exact mp_o1994 c_43 e_89 | omega))
        refine And.intro rfl (And.intro rfl (And.intro (vp_in_iff.mpr (by (first | exact mp_o2035 l_33 e_84 c_43 | omega))) ?_))
        intro g_93 h_94
        have h_95 : g_93 = upd g_32 z_82.toNatClampNeg z_90 := h_94.trans (congrArg (upd _ _) (mp_narb (by (first | exact mp_o1371 e_92 | omega)) (by (first | exact mp_o1372 e_92 | omega))))
        have p_96 : mp_all g_93 3000 0 1 := mp_all_st h_95 p_35 e_92.1 e_92.2
        let w10_ : va_W := [(mp_ob10 a0 y0 a8 a9 a10 a11 a12 y1 y2 y3 y4 y5 y6 y7 y8 y9 y10 a1 a2 a3 a4 a5 a6 a7 a13 y11 a14 a15 a16 a17 y12 y13 y14 a18 a19 y15 y16 a20 a21 a22 y17 y18 y19 y20 a23 a24 a25 y21), (mp_arI E a4 3 3000 g_93), (mp_arI E a5 0 90 f4), (mp_arI E a6 0 300 f5), (mp_arI E a7 0 300 f6), (mp_arI E a1 0 5 g_4), (mp_arI E a2 0 25 g_9), (mp_arI E a3 0 180 g_28)]
        show mp_W E X 4 64 [(3, .int i_31), (0, .ref a0), (1, .int 0), (2, .int 2)] [] w10_ 0 0
        refine mp_run mp_k_cX10_copyIsles_ok hF mp_tabX10_ok [mp_c (.iinc 3 1) 1, mp_h (.goto (-34)) [33]] (by decide +kernel) ?_
        intro z_97 h_98
        have e_99 : z_97.toInt = i_31.toInt + 1 := mp_add (a := i_31.toInt) (b := 1) h_98 rfl (by decide) (by (first | exact mp_o2 l_33 | omega)) (by (first | exact mp_o976 c_43 | omega))
        show mp_W E X 4 33 [(3, .int z_97), (0, .ref a0), (1, .int 0), (2, .int 2)] [] w10_ 0 0
        exact mp_sub [0, 1, 2, 3] rfl [0, 1, 2, 3, 4, 5, 6, 7] rfl rfl (ih_41 (d_40 - 1) (by (first | exact mp_o977 hm_42 c_43 | omega)) z_97 g_93 (by (first | exact mp_o51 l_33 e_99 | omega)) (by (first | exact mp_o978 c_43 e_99 | omega)) p_96 (mp_cpr_st (m := 600) h_95 h_91 x_36 (by (first | exact mp_o2036 l_33 e_84 | omega)) (by (first | exact mp_o1328 l_33 e_89 | omega)) (by (first | exact mp_o2037 | omega)) (by (first | exact mp_o1375 c_43 | omega)) (by (first | exact mp_o772 l_33 e_99 | omega))) (by (first | exact mp_o978 c_43 e_99 | omega)) (by (first | exact mp_o51 l_33 e_99 | omega)) (by (first | exact mp_o979 hm_42 e_99 | omega)))
  exact mp_sub [0, 1, 2, 3] rfl [0, 1, 2, 3, 4, 5, 6, 7] rfl rfl (lp_39 _ 0 f3 (by decide) (by decide) p6 (mp_cpr_0 (by decide)) (by decide) (by decide) (Int.self_le_toNat _))
set_option maxHeartbeats 4000000 in
set_option maxRecDepth 100000 in
theorem bX10_copyRow_174 (E : mp_E) (a0 : Nat) (f0 : Nat → Int32) : mp_Ct E yX10_copyRow cX10_copyRow 5 none 0 0 0 0 [.ref a0, .int 1, .int 0, .int 3] [(mp_arI E a0 0 5 f0)] (fun v w' => ∃ h1 : Nat → Int32, v = none ∧ (h1 = mp_cpr f0 0 3 1) ∧ w' = [(mp_arI E a0 0 5 h1)]) := by
  refine mp_met false (by decide) (by decide) (Nat.le_of_ble_eq_true rfl) (fun X hF hQ => ?_)
  have hF : mp_F E X (RX10, cX10_copyRow, 5, (0, 0, 0, 0), none, false) := hF
  show mp_W E X 5 0 [(0, .ref a0), (1, .int 1), (2, .int 0), (3, .int 3)] [] [(mp_arI E a0 0 5 f0)] 0 0
  refine mp_run mp_k_cX10_copyRow_ok hF mp_tabX10_ok [mp_c (.iconst 0) 0, mp_i (.istore 4)] (by decide +kernel) ?_
  show mp_W E X 5 3 [(4, .int 0), (0, .ref a0), (1, .int 1), (2, .int 0), (3, .int 3)] [] [(mp_arI E a0 0 5 f0)] 0 0
  have lp_7 : ∀ (d_8 : Nat) (i_1 : Int32) (g_2 : Nat → Int32), 0 ≤ i_1.toInt → i_1.toInt ≤ 1 → (g_2 = mp_cpr f0 0 3 i_1.toInt.toNat) → (i_1.toInt ≤ 1) → -(i_1.toInt) + 1 ≤ (d_8 : Int) → mp_W E X 5 3 [(4, .int i_1), (0, .ref a0), (1, .int 1), (2, .int 0), (3, .int 3)] [] [(mp_arI E a0 0 5 g_2)] 0 0 := by
    intro d_8
    induction d_8 using Nat.strongRecOn with
    | ind d_8 ih_9 =>
      intro i_1 g_2 l_3 u_4 x_5 x_6 hm_10
      refine mp_run mp_k_cX10_copyRow_ok hF mp_tabX10_ok [mp_i (.iload 4), mp_i (.iload_n 1), mp_h (.if_icmp .ge 25) [31]] (by decide +kernel) ?_
      refine And.intro (fun c_11 => ?_) (fun c_11 => ?_)
      · have c_11 : 1 ≤ i_1.toInt := c_11
        show mp_W E X 5 31 [(4, .int i_1), (0, .ref a0), (1, .int 1), (2, .int 0), (3, .int 3)] [] [(mp_arI E a0 0 5 g_2)] 0 0
        exact mp_vret hF hQ rfl (Nat.le_of_ble_eq_true rfl) (Nat.le_of_ble_eq_true rfl) [0] (w' := [(mp_arI E a0 0 5 g_2)]) rfl rfl ⟨g_2, rfl, (by rw [show i_1.toInt.toNat = 1 by (first | exact mp_o1318 c_11 u_4 | omega)] at x_5; exact x_5), rfl⟩ (by first | exact mp_fd_ok mp_k_cX10_copyRow_ok (by decide +kernel) | decide +kernel)
      · have c_11 : i_1.toInt < 1 := c_11
        show mp_W E X 5 9 [(4, .int i_1), (0, .ref a0), (1, .int 1), (2, .int 0), (3, .int 3)] [] [(mp_arI E a0 0 5 g_2)] 0 0
        refine mp_run mp_k_cX10_copyRow_ok hF mp_tabX10_ok [mp_i (.aload_n 0), mp_i (.iload_n 1), mp_i (.iload_n 3), mp_i .imul, mp_i (.iload 4), mp_i .iadd, mp_i (.aload_n 0), mp_i (.iload_n 1), mp_i (.iload_n 2), mp_i .imul, mp_i (.iload 4), mp_i .iadd, mp_h .iaload [0], mp_h .iastore [0]] (by decide +kernel) ?_
        intro z_12 h_13
        obtain rfl : z_12 = 3 := h_13.trans (by decide)
        intro z_14 h_15
        have e_16 : z_14.toInt = 3 + i_1.toInt := mp_add (a := 3) (b := i_1.toInt) h_15 (by decide) rfl (by (first | exact mp_o2038 l_3 | omega)) (by (first | exact mp_o2039 c_11 | omega))
        intro z_17 h_18
        obtain rfl : z_17 = 0 := h_18.trans (by decide)
        intro z_19 h_20
        have e_21 : z_19.toInt = 0 + i_1.toInt := mp_add (a := 0) (b := i_1.toInt) h_20 (by decide) rfl (by (first | exact mp_o1319 l_3 | omega)) (by (first | exact mp_o1320 c_11 | omega))
        refine And.intro rfl (And.intro rfl (And.intro (vp_in_iff.mpr (by (first | exact mp_o1324 l_3 e_21 c_11 | omega))) ?_))
        intro z_22 h_23
        refine And.intro rfl (And.intro rfl (And.intro (vp_in_iff.mpr (by (first | exact mp_o2040 l_3 e_16 c_11 | omega))) ?_))
        intro g_24 h_25
        show mp_W E X 5 25 [(4, .int i_1), (0, .ref a0), (1, .int 1), (2, .int 0), (3, .int 3)] [] [(mp_arI E a0 0 5 g_24)] 0 0
        refine mp_run mp_k_cX10_copyRow_ok hF mp_tabX10_ok [mp_c (.iinc 4 1) 1, mp_h (.goto (-25)) [3]] (by decide +kernel) ?_
        intro z_26 h_27
        have e_28 : z_26.toInt = i_1.toInt + 1 := mp_add (a := i_1.toInt) (b := 1) h_27 rfl (by decide) (by (first | exact mp_o2 l_3 | omega)) (by (first | exact mp_o1325 c_11 | omega))
        show mp_W E X 5 3 [(4, .int z_26), (0, .ref a0), (1, .int 1), (2, .int 0), (3, .int 3)] [] [(mp_arI E a0 0 5 g_24)] 0 0
        exact mp_sub [0, 1, 2, 3, 4] rfl [0] rfl rfl (ih_9 (d_8 - 1) (by (first | exact mp_o1326 hm_10 c_11 | omega)) z_26 g_24 (by (first | exact mp_o51 l_3 e_28 | omega)) (by (first | exact mp_o1327 c_11 e_28 | omega)) (mp_cpr_st (m := 1) h_25 h_23 x_5 (by (first | exact mp_o2041 l_3 e_16 | omega)) (by (first | exact mp_o1328 l_3 e_21 | omega)) (by (first | exact mp_o2042 | omega)) (by (first | exact mp_o1331 c_11 | omega)) (by (first | exact mp_o772 l_3 e_28 | omega))) (by (first | exact mp_o1327 c_11 e_28 | omega)) (by (first | exact mp_o1332 l_3 e_28 | omega)))
  exact mp_sub [0, 1, 2, 3, 4] rfl [0] rfl rfl (lp_7 _ 0 f0 (by decide) (by decide) (mp_cpr_0 (by decide)) (by decide) (Int.self_le_toNat _))
set_option maxHeartbeats 4000000 in
set_option maxRecDepth 100000 in
theorem bX10_copyRow_175 (E : mp_E) (a0 : Nat) (f0 : Nat → Int32) (p0 : mp_res f0 25 5 0 0 6) (p1 : mp_res f0 25 5 1 0 99) (p2 : mp_res f0 25 5 2 0 6) (p3 : mp_res f0 25 5 3 0 10) (p4 : mp_res f0 25 5 4 0 60) : mp_Ct E yX10_copyRow cX10_copyRow 5 none 0 0 0 0 [.ref a0, .int 5, .int 0, .int 3] [(mp_arI E a0 0 25 f0)] (fun v w' => ∃ h1 : Nat → Int32, v = none ∧ mp_res h1 25 5 0 0 6 ∧ mp_res h1 25 5 1 0 99 ∧ mp_res h1 25 5 2 0 6 ∧ mp_res h1 25 5 3 0 10 ∧ mp_res h1 25 5 4 0 60 ∧ (h1 = mp_cpr f0 0 15 5) ∧ w' = [(mp_arI E a0 0 25 h1)]) := by
  refine mp_met false (by decide) (by decide) (Nat.le_of_ble_eq_true rfl) (fun X hF hQ => ?_)
  have hF : mp_F E X (RX10, cX10_copyRow, 5, (0, 0, 0, 0), none, false) := hF
  show mp_W E X 5 0 [(0, .ref a0), (1, .int 5), (2, .int 0), (3, .int 3)] [] [(mp_arI E a0 0 25 f0)] 0 0
  refine mp_run mp_k_cX10_copyRow_ok hF mp_tabX10_ok [mp_c (.iconst 0) 0, mp_i (.istore 4)] (by decide +kernel) ?_
  show mp_W E X 5 3 [(4, .int 0), (0, .ref a0), (1, .int 5), (2, .int 0), (3, .int 3)] [] [(mp_arI E a0 0 25 f0)] 0 0
  have lp_12 : ∀ (d_13 : Nat) (i_1 : Int32) (g_2 : Nat → Int32), 0 ≤ i_1.toInt → i_1.toInt ≤ 5 → mp_res g_2 25 5 0 0 6 → mp_res g_2 25 5 1 0 99 → mp_res g_2 25 5 2 0 6 → mp_res g_2 25 5 3 0 10 → mp_res g_2 25 5 4 0 60 → (g_2 = mp_cpr f0 0 15 i_1.toInt.toNat) → (i_1.toInt ≤ 5) → -(i_1.toInt) + 5 ≤ (d_13 : Int) → mp_W E X 5 3 [(4, .int i_1), (0, .ref a0), (1, .int 5), (2, .int 0), (3, .int 3)] [] [(mp_arI E a0 0 25 g_2)] 0 0 := by
    intro d_13
    induction d_13 using Nat.strongRecOn with
    | ind d_13 ih_14 =>
      intro i_1 g_2 l_3 u_4 p_5 p_6 p_7 p_8 p_9 x_10 x_11 hm_15
      refine mp_run mp_k_cX10_copyRow_ok hF mp_tabX10_ok [mp_i (.iload 4), mp_i (.iload_n 1), mp_h (.if_icmp .ge 25) [31]] (by decide +kernel) ?_
      refine And.intro (fun c_16 => ?_) (fun c_16 => ?_)
      · have c_16 : 5 ≤ i_1.toInt := c_16
        show mp_W E X 5 31 [(4, .int i_1), (0, .ref a0), (1, .int 5), (2, .int 0), (3, .int 3)] [] [(mp_arI E a0 0 25 g_2)] 0 0
        exact mp_vret hF hQ rfl (Nat.le_of_ble_eq_true rfl) (Nat.le_of_ble_eq_true rfl) [0] (w' := [(mp_arI E a0 0 25 g_2)]) rfl rfl ⟨g_2, rfl, p_5, p_6, p_7, p_8, p_9, (by rw [show i_1.toInt.toNat = 5 by (first | exact mp_o1333 c_16 u_4 | omega)] at x_10; exact x_10), rfl⟩ (by first | exact mp_fd_ok mp_k_cX10_copyRow_ok (by decide +kernel) | decide +kernel)
      · have c_16 : i_1.toInt < 5 := c_16
        show mp_W E X 5 9 [(4, .int i_1), (0, .ref a0), (1, .int 5), (2, .int 0), (3, .int 3)] [] [(mp_arI E a0 0 25 g_2)] 0 0
        refine mp_run mp_k_cX10_copyRow_ok hF mp_tabX10_ok [mp_i (.aload_n 0), mp_i (.iload_n 1), mp_i (.iload_n 3), mp_i .imul, mp_i (.iload 4), mp_i .iadd, mp_i (.aload_n 0), mp_i (.iload_n 1), mp_i (.iload_n 2), mp_i .imul, mp_i (.iload 4), mp_i .iadd, mp_h .iaload [0], mp_h .iastore [0]] (by decide +kernel) ?_
        intro z_17 h_18
        obtain rfl : z_17 = 15 := h_18.trans (by decide)
        intro z_19 h_20
        have e_21 : z_19.toInt = 15 + i_1.toInt := mp_add (a := 15) (b := i_1.toInt) h_20 (by decide) rfl (by (first | exact mp_o2043 l_3 | omega)) (by (first | exact mp_o2044 c_16 | omega))
        intro z_22 h_23
        obtain rfl : z_22 = 0 := h_23.trans (by decide)
        intro z_24 h_25
        have e_26 : z_24.toInt = 0 + i_1.toInt := mp_add (a := 0) (b := i_1.toInt) h_25 (by decide) rfl (by (first | exact mp_o1319 l_3 | omega)) (by (first | exact mp_o1939 c_16 | omega))
        refine And.intro rfl (And.intro rfl (And.intro (vp_in_iff.mpr (by (first | exact mp_o1940 l_3 e_26 c_16 | omega))) ?_))
        intro z_27 h_28
        have e_29 : z_24.toInt % 5 = 0 → 0 ≤ z_27.toInt ∧ z_27.toInt ≤ 6 := mp_res_ld h_28 p_5 (by (first | exact mp_o1341 l_3 e_26 | omega)) (by (first | exact mp_o1941 c_16 e_26 | omega))
        have e_30 : z_24.toInt % 5 = 1 → 0 ≤ z_27.toInt ∧ z_27.toInt ≤ 99 := mp_res_ld h_28 p_6 (by (first | exact mp_o1341 l_3 e_26 | omega)) (by (first | exact mp_o1941 c_16 e_26 | omega))
        have e_31 : z_24.toInt % 5 = 2 → 0 ≤ z_27.toInt ∧ z_27.toInt ≤ 6 := mp_res_ld h_28 p_7 (by (first | exact mp_o1341 l_3 e_26 | omega)) (by (first | exact mp_o1941 c_16 e_26 | omega))
        have e_32 : z_24.toInt % 5 = 3 → 0 ≤ z_27.toInt ∧ z_27.toInt ≤ 10 := mp_res_ld h_28 p_8 (by (first | exact mp_o1341 l_3 e_26 | omega)) (by (first | exact mp_o1941 c_16 e_26 | omega))
        have e_33 : z_24.toInt % 5 = 4 → 0 ≤ z_27.toInt ∧ z_27.toInt ≤ 60 := mp_res_ld h_28 p_9 (by (first | exact mp_o1341 l_3 e_26 | omega)) (by (first | exact mp_o1941 c_16 e_26 | omega))
        refine And.intro rfl (And.intro rfl (And.intro (vp_in_iff.mpr (by (first | exact mp_o2045 l_3 e_21 c_16 | omega))) ?_))
        intro g_34 h_35
        have p_36 : mp_res g_34 25 5 0 0 6 := mp_res_st h_35 p_5 (by (first | exact mp_o2046 l_3 e_21 | omega)) (by (first | exact mp_o2047 e_29 e_21 e_26 | omega))
        have p_37 : mp_res g_34 25 5 1 0 99 := mp_res_st h_35 p_6 (by (first | exact mp_o2046 l_3 e_21 | omega)) (by (first | exact mp_o2048 e_30 e_21 e_26 | omega))
        have p_38 : mp_res g_34 25 5 2 0 6 := mp_res_st h_35 p_7 (by (first | exact mp_o2046 l_3 e_21 | omega)) (by (first | exact mp_o2049 e_31 e_21 e_26 | omega))
        have p_39 : mp_res g_34 25 5 3 0 10 := mp_res_st h_35 p_8 (by (first | exact mp_o2046 l_3 e_21 | omega)) (by (first | exact mp_o2050 e_32 e_21 e_26 | omega))
        have p_40 : mp_res g_34 25 5 4 0 60 := mp_res_st h_35 p_9 (by (first | exact mp_o2046 l_3 e_21 | omega)) (by (first | exact mp_o2051 e_33 e_21 e_26 | omega))
        show mp_W E X 5 25 [(4, .int i_1), (0, .ref a0), (1, .int 5), (2, .int 0), (3, .int 3)] [] [(mp_arI E a0 0 25 g_34)] 0 0
        refine mp_run mp_k_cX10_copyRow_ok hF mp_tabX10_ok [mp_c (.iinc 4 1) 1, mp_h (.goto (-25)) [3]] (by decide +kernel) ?_
        intro z_41 h_42
        have e_43 : z_41.toInt = i_1.toInt + 1 := mp_add (a := i_1.toInt) (b := 1) h_42 rfl (by decide) (by (first | exact mp_o2 l_3 | omega)) (by (first | exact mp_o1949 c_16 | omega))
        show mp_W E X 5 3 [(4, .int z_41), (0, .ref a0), (1, .int 5), (2, .int 0), (3, .int 3)] [] [(mp_arI E a0 0 25 g_34)] 0 0
        exact mp_sub [0, 1, 2, 3, 4] rfl [0] rfl rfl (ih_14 (d_13 - 1) (by (first | exact mp_o1342 hm_15 c_16 | omega)) z_41 g_34 (by (first | exact mp_o51 l_3 e_43 | omega)) (by (first | exact mp_o1344 c_16 e_43 | omega)) p_36 p_37 p_38 p_39 p_40 (mp_cpr_st (m := 5) h_35 h_28 x_10 (by (first | exact mp_o2052 l_3 e_21 | omega)) (by (first | exact mp_o1328 l_3 e_26 | omega)) (by (first | exact mp_o2053 | omega)) (by (first | exact mp_o1952 c_16 | omega)) (by (first | exact mp_o772 l_3 e_43 | omega))) (by (first | exact mp_o1344 c_16 e_43 | omega)) (by (first | exact mp_o1953 hm_15 e_43 | omega)))
  exact mp_sub [0, 1, 2, 3, 4] rfl [0] rfl rfl (lp_12 _ 0 f0 (by decide) (by decide) p0 p1 p2 p3 p4 (mp_cpr_0 (by decide)) (by decide) (Int.self_le_toNat _))
set_option maxHeartbeats 4000000 in
set_option maxRecDepth 100000 in
theorem bX10_copyRow_176 (E : mp_E) (a0 : Nat) (f0 : Nat → Int32) (p0 : mp_all f0 180 0 20) : mp_Ct E yX10_copyRow cX10_copyRow 5 none 0 0 0 0 [.ref a0, .int 36, .int 0, .int 3] [(mp_arI E a0 0 180 f0)] (fun v w' => ∃ h1 : Nat → Int32, v = none ∧ mp_all h1 180 0 20 ∧ (h1 = mp_cpr f0 0 108 36) ∧ w' = [(mp_arI E a0 0 180 h1)]) := by
  refine mp_met false (by decide) (by decide) (Nat.le_of_ble_eq_true rfl) (fun X hF hQ => ?_)
  have hF : mp_F E X (RX10, cX10_copyRow, 5, (0, 0, 0, 0), none, false) := hF
  show mp_W E X 5 0 [(0, .ref a0), (1, .int 36), (2, .int 0), (3, .int 3)] [] [(mp_arI E a0 0 180 f0)] 0 0
  refine mp_run mp_k_cX10_copyRow_ok hF mp_tabX10_ok [mp_c (.iconst 0) 0, mp_i (.istore 4)] (by decide +kernel) ?_
  show mp_W E X 5 3 [(4, .int 0), (0, .ref a0), (1, .int 36), (2, .int 0), (3, .int 3)] [] [(mp_arI E a0 0 180 f0)] 0 0
  have lp_8 : ∀ (d_9 : Nat) (i_1 : Int32) (g_2 : Nat → Int32), 0 ≤ i_1.toInt → i_1.toInt ≤ 36 → mp_all g_2 180 0 20 → (g_2 = mp_cpr f0 0 108 i_1.toInt.toNat) → (i_1.toInt ≤ 36) → -(i_1.toInt) + 36 ≤ (d_9 : Int) → mp_W E X 5 3 [(4, .int i_1), (0, .ref a0), (1, .int 36), (2, .int 0), (3, .int 3)] [] [(mp_arI E a0 0 180 g_2)] 0 0 := by
    intro d_9
    induction d_9 using Nat.strongRecOn with
    | ind d_9 ih_10 =>
      intro i_1 g_2 l_3 u_4 p_5 x_6 x_7 hm_11
      refine mp_run mp_k_cX10_copyRow_ok hF mp_tabX10_ok [mp_i (.iload 4), mp_i (.iload_n 1), mp_h (.if_icmp .ge 25) [31]] (by decide +kernel) ?_
      refine And.intro (fun c_12 => ?_) (fun c_12 => ?_)
      · have c_12 : 36 ≤ i_1.toInt := c_12
        show mp_W E X 5 31 [(4, .int i_1), (0, .ref a0), (1, .int 36), (2, .int 0), (3, .int 3)] [] [(mp_arI E a0 0 180 g_2)] 0 0
        exact mp_vret hF hQ rfl (Nat.le_of_ble_eq_true rfl) (Nat.le_of_ble_eq_true rfl) [0] (w' := [(mp_arI E a0 0 180 g_2)]) rfl rfl ⟨g_2, rfl, p_5, (by rw [show i_1.toInt.toNat = 36 by (first | exact mp_o1345 c_12 u_4 | omega)] at x_6; exact x_6), rfl⟩ (by first | exact mp_fd_ok mp_k_cX10_copyRow_ok (by decide +kernel) | decide +kernel)
      · have c_12 : i_1.toInt < 36 := c_12
        show mp_W E X 5 9 [(4, .int i_1), (0, .ref a0), (1, .int 36), (2, .int 0), (3, .int 3)] [] [(mp_arI E a0 0 180 g_2)] 0 0
        refine mp_run mp_k_cX10_copyRow_ok hF mp_tabX10_ok [mp_i (.aload_n 0), mp_i (.iload_n 1), mp_i (.iload_n 3), mp_i .imul, mp_i (.iload 4), mp_i .iadd, mp_i (.aload_n 0), mp_i (.iload_n 1), mp_i (.iload_n 2), mp_i .imul, mp_i (.iload 4), mp_i .iadd, mp_h .iaload [0], mp_h .iastore [0]] (by decide +kernel) ?_
        intro z_13 h_14
        obtain rfl : z_13 = 108 := h_14.trans (by decide)
        intro z_15 h_16
        have e_17 : z_15.toInt = 108 + i_1.toInt := mp_add (a := 108) (b := i_1.toInt) h_16 (by decide) rfl (by (first | exact mp_o2054 l_3 | omega)) (by (first | exact mp_o2055 c_12 | omega))
        intro z_18 h_19
        obtain rfl : z_18 = 0 := h_19.trans (by decide)
        intro z_20 h_21
        have e_22 : z_20.toInt = 0 + i_1.toInt := mp_add (a := 0) (b := i_1.toInt) h_21 (by decide) rfl (by (first | exact mp_o1319 l_3 | omega)) (by (first | exact mp_o1956 c_12 | omega))
        refine And.intro rfl (And.intro rfl (And.intro (vp_in_iff.mpr (by (first | exact mp_o1346 l_3 e_22 c_12 | omega))) ?_))
        intro z_23 h_24
        have e_25 : 0 ≤ z_23.toInt ∧ z_23.toInt ≤ 20 := mp_all_ld h_24 p_5 (by (first | exact mp_o1341 l_3 e_22 | omega)) (by (first | exact mp_o1957 c_12 e_22 | omega))
        refine And.intro rfl (And.intro rfl (And.intro (vp_in_iff.mpr (by (first | exact mp_o2056 l_3 e_17 c_12 | omega))) ?_))
        intro g_26 h_27
        have p_28 : mp_all g_26 180 0 20 := mp_all_st h_27 p_5 e_25.1 e_25.2
        show mp_W E X 5 25 [(4, .int i_1), (0, .ref a0), (1, .int 36), (2, .int 0), (3, .int 3)] [] [(mp_arI E a0 0 180 g_26)] 0 0
        refine mp_run mp_k_cX10_copyRow_ok hF mp_tabX10_ok [mp_c (.iinc 4 1) 1, mp_h (.goto (-25)) [3]] (by decide +kernel) ?_
        intro z_29 h_30
        have e_31 : z_29.toInt = i_1.toInt + 1 := mp_add (a := i_1.toInt) (b := 1) h_30 rfl (by decide) (by (first | exact mp_o2 l_3 | omega)) (by (first | exact mp_o49 c_12 | omega))
        show mp_W E X 5 3 [(4, .int z_29), (0, .ref a0), (1, .int 36), (2, .int 0), (3, .int 3)] [] [(mp_arI E a0 0 180 g_26)] 0 0
        exact mp_sub [0, 1, 2, 3, 4] rfl [0] rfl rfl (ih_10 (d_9 - 1) (by (first | exact mp_o50 hm_11 c_12 | omega)) z_29 g_26 (by (first | exact mp_o51 l_3 e_31 | omega)) (by (first | exact mp_o52 c_12 e_31 | omega)) p_28 (mp_cpr_st (m := 36) h_27 h_24 x_6 (by (first | exact mp_o2057 l_3 e_17 | omega)) (by (first | exact mp_o1328 l_3 e_22 | omega)) (by (first | exact mp_o2058 | omega)) (by (first | exact mp_o1961 c_12 | omega)) (by (first | exact mp_o772 l_3 e_31 | omega))) (by (first | exact mp_o52 c_12 e_31 | omega)) (by (first | exact mp_o54 hm_11 e_31 | omega)))
  exact mp_sub [0, 1, 2, 3, 4] rfl [0] rfl rfl (lp_8 _ 0 f0 (by decide) (by decide) p0 (mp_cpr_0 (by decide)) (by decide) (Int.self_le_toNat _))
set_option maxHeartbeats 4000000 in
set_option maxRecDepth 100000 in
theorem bX10_copyRow_177 (E : mp_E) (a0 : Nat) (f0 : Nat → Int32) (p0 : mp_res f0 90 3 0 0 5) (p1 : mp_res f0 90 3 1 (-1) 99) : mp_Ct E yX10_copyRow cX10_copyRow 5 none 0 0 0 0 [.ref a0, .int 18, .int 0, .int 3] [(mp_arI E a0 0 90 f0)] (fun v w' => ∃ h1 : Nat → Int32, v = none ∧ mp_res h1 90 3 0 0 5 ∧ mp_res h1 90 3 1 (-1) 99 ∧ (h1 = mp_cpr f0 0 54 18) ∧ w' = [(mp_arI E a0 0 90 h1)]) := by
  refine mp_met false (by decide) (by decide) (Nat.le_of_ble_eq_true rfl) (fun X hF hQ => ?_)
  have hF : mp_F E X (RX10, cX10_copyRow, 5, (0, 0, 0, 0), none, false) := hF
  show mp_W E X 5 0 [(0, .ref a0), (1, .int 18), (2, .int 0), (3, .int 3)] [] [(mp_arI E a0 0 90 f0)] 0 0
  refine mp_run mp_k_cX10_copyRow_ok hF mp_tabX10_ok [mp_c (.iconst 0) 0, mp_i (.istore 4)] (by decide +kernel) ?_
  show mp_W E X 5 3 [(4, .int 0), (0, .ref a0), (1, .int 18), (2, .int 0), (3, .int 3)] [] [(mp_arI E a0 0 90 f0)] 0 0
  have lp_9 : ∀ (d_10 : Nat) (i_1 : Int32) (g_2 : Nat → Int32), 0 ≤ i_1.toInt → i_1.toInt ≤ 20 → mp_res g_2 90 3 0 0 5 → mp_res g_2 90 3 1 (-1) 99 → (g_2 = mp_cpr f0 0 54 i_1.toInt.toNat) → (i_1.toInt ≤ 18) → -(i_1.toInt) + 18 ≤ (d_10 : Int) → mp_W E X 5 3 [(4, .int i_1), (0, .ref a0), (1, .int 18), (2, .int 0), (3, .int 3)] [] [(mp_arI E a0 0 90 g_2)] 0 0 := by
    intro d_10
    induction d_10 using Nat.strongRecOn with
    | ind d_10 ih_11 =>
      intro i_1 g_2 l_3 u_4 p_5 p_6 x_7 x_8 hm_12
      refine mp_run mp_k_cX10_copyRow_ok hF mp_tabX10_ok [mp_i (.iload 4), mp_i (.iload_n 1), mp_h (.if_icmp .ge 25) [31]] (by decide +kernel) ?_
      refine And.intro (fun c_13 => ?_) (fun c_13 => ?_)
      · have c_13 : 18 ≤ i_1.toInt := c_13
        show mp_W E X 5 31 [(4, .int i_1), (0, .ref a0), (1, .int 18), (2, .int 0), (3, .int 3)] [] [(mp_arI E a0 0 90 g_2)] 0 0
        exact mp_vret hF hQ rfl (Nat.le_of_ble_eq_true rfl) (Nat.le_of_ble_eq_true rfl) [0] (w' := [(mp_arI E a0 0 90 g_2)]) rfl rfl ⟨g_2, rfl, p_5, p_6, (by rw [show i_1.toInt.toNat = 18 by (first | exact mp_o1348 c_13 x_8 | omega)] at x_7; exact x_7), rfl⟩ (by first | exact mp_fd_ok mp_k_cX10_copyRow_ok (by decide +kernel) | decide +kernel)
      · have c_13 : i_1.toInt < 18 := c_13
        show mp_W E X 5 9 [(4, .int i_1), (0, .ref a0), (1, .int 18), (2, .int 0), (3, .int 3)] [] [(mp_arI E a0 0 90 g_2)] 0 0
        refine mp_run mp_k_cX10_copyRow_ok hF mp_tabX10_ok [mp_i (.aload_n 0), mp_i (.iload_n 1), mp_i (.iload_n 3), mp_i .imul, mp_i (.iload 4), mp_i .iadd, mp_i (.aload_n 0), mp_i (.iload_n 1), mp_i (.iload_n 2), mp_i .imul, mp_i (.iload 4), mp_i .iadd, mp_h .iaload [0], mp_h .iastore [0]] (by decide +kernel) ?_
        intro z_14 h_15
        obtain rfl : z_14 = 54 := h_15.trans (by decide)
        intro z_16 h_17
        have e_18 : z_16.toInt = 54 + i_1.toInt := mp_add (a := 54) (b := i_1.toInt) h_17 (by decide) rfl (by (first | exact mp_o2059 l_3 | omega)) (by (first | exact mp_o2060 c_13 | omega))
        intro z_19 h_20
        obtain rfl : z_19 = 0 := h_20.trans (by decide)
        intro z_21 h_22
        have e_23 : z_21.toInt = 0 + i_1.toInt := mp_add (a := 0) (b := i_1.toInt) h_22 (by decide) rfl (by (first | exact mp_o1319 l_3 | omega)) (by (first | exact mp_o1964 c_13 | omega))
        refine And.intro rfl (And.intro rfl (And.intro (vp_in_iff.mpr (by (first | exact mp_o1353 l_3 e_23 c_13 | omega))) ?_))
        intro z_24 h_25
        have e_26 : z_21.toInt % 3 = 0 → 0 ≤ z_24.toInt ∧ z_24.toInt ≤ 5 := mp_res_ld h_25 p_5 (by (first | exact mp_o1341 l_3 e_23 | omega)) (by (first | exact mp_o1965 c_13 e_23 | omega))
        have e_27 : z_21.toInt % 3 = 1 → (-1) ≤ z_24.toInt ∧ z_24.toInt ≤ 99 := mp_res_ld h_25 p_6 (by (first | exact mp_o1341 l_3 e_23 | omega)) (by (first | exact mp_o1965 c_13 e_23 | omega))
        refine And.intro rfl (And.intro rfl (And.intro (vp_in_iff.mpr (by (first | exact mp_o2061 l_3 e_18 c_13 | omega))) ?_))
        intro g_28 h_29
        have p_30 : mp_res g_28 90 3 0 0 5 := mp_res_st h_29 p_5 (by (first | exact mp_o2062 l_3 e_18 | omega)) (by (first | exact mp_o2063 e_26 e_18 e_23 | omega))
        have p_31 : mp_res g_28 90 3 1 (-1) 99 := mp_res_st h_29 p_6 (by (first | exact mp_o2062 l_3 e_18 | omega)) (by (first | exact mp_o2064 e_27 e_18 e_23 | omega))
        show mp_W E X 5 25 [(4, .int i_1), (0, .ref a0), (1, .int 18), (2, .int 0), (3, .int 3)] [] [(mp_arI E a0 0 90 g_28)] 0 0
        refine mp_run mp_k_cX10_copyRow_ok hF mp_tabX10_ok [mp_c (.iinc 4 1) 1, mp_h (.goto (-25)) [3]] (by decide +kernel) ?_
        intro z_32 h_33
        have e_34 : z_32.toInt = i_1.toInt + 1 := mp_add (a := i_1.toInt) (b := 1) h_33 rfl (by decide) (by (first | exact mp_o2 l_3 | omega)) (by (first | exact mp_o1970 c_13 | omega))
        show mp_W E X 5 3 [(4, .int z_32), (0, .ref a0), (1, .int 18), (2, .int 0), (3, .int 3)] [] [(mp_arI E a0 0 90 g_28)] 0 0
        exact mp_sub [0, 1, 2, 3, 4] rfl [0] rfl rfl (ih_11 (d_10 - 1) (by (first | exact mp_o1354 hm_12 c_13 | omega)) z_32 g_28 (by (first | exact mp_o51 l_3 e_34 | omega)) (by (first | exact mp_o1356 c_13 e_34 | omega)) p_30 p_31 (mp_cpr_st (m := 18) h_29 h_25 x_7 (by (first | exact mp_o2065 l_3 e_18 | omega)) (by (first | exact mp_o1328 l_3 e_23 | omega)) (by (first | exact mp_o2066 | omega)) (by (first | exact mp_o1973 c_13 | omega)) (by (first | exact mp_o772 l_3 e_34 | omega))) (by (first | exact mp_o1974 c_13 e_34 | omega)) (by (first | exact mp_o1975 hm_12 e_34 | omega)))
  exact mp_sub [0, 1, 2, 3, 4] rfl [0] rfl rfl (lp_9 _ 0 f0 (by decide) (by decide) p0 p1 (mp_cpr_0 (by decide)) (by decide) (Int.self_le_toNat _))
set_option maxHeartbeats 4000000 in
set_option maxRecDepth 100000 in
theorem bX10_copyRow_178 (E : mp_E) (a0 : Nat) (f0 : Nat → Int32) (p0 : mp_res f0 300 6 0 0 5) (p1 : mp_res f0 300 6 1 0 5) (p2 : mp_res f0 300 6 3 0 99) (p3 : mp_res f0 300 6 4 0 1) : mp_Ct E yX10_copyRow cX10_copyRow 5 none 0 0 0 0 [.ref a0, .int 60, .int 0, .int 3] [(mp_arI E a0 0 300 f0)] (fun v w' => ∃ h1 : Nat → Int32, v = none ∧ mp_res h1 300 6 0 0 5 ∧ mp_res h1 300 6 1 0 5 ∧ mp_res h1 300 6 3 0 99 ∧ mp_res h1 300 6 4 0 1 ∧ (h1 = mp_cpr f0 0 180 60) ∧ w' = [(mp_arI E a0 0 300 h1)]) := by
  refine mp_met false (by decide) (by decide) (Nat.le_of_ble_eq_true rfl) (fun X hF hQ => ?_)
  have hF : mp_F E X (RX10, cX10_copyRow, 5, (0, 0, 0, 0), none, false) := hF
  show mp_W E X 5 0 [(0, .ref a0), (1, .int 60), (2, .int 0), (3, .int 3)] [] [(mp_arI E a0 0 300 f0)] 0 0
  refine mp_run mp_k_cX10_copyRow_ok hF mp_tabX10_ok [mp_c (.iconst 0) 0, mp_i (.istore 4)] (by decide +kernel) ?_
  show mp_W E X 5 3 [(4, .int 0), (0, .ref a0), (1, .int 60), (2, .int 0), (3, .int 3)] [] [(mp_arI E a0 0 300 f0)] 0 0
  have lp_11 : ∀ (d_12 : Nat) (i_1 : Int32) (g_2 : Nat → Int32), 0 ≤ i_1.toInt → i_1.toInt ≤ 60 → mp_res g_2 300 6 0 0 5 → mp_res g_2 300 6 1 0 5 → mp_res g_2 300 6 3 0 99 → mp_res g_2 300 6 4 0 1 → (g_2 = mp_cpr f0 0 180 i_1.toInt.toNat) → (i_1.toInt ≤ 60) → -(i_1.toInt) + 60 ≤ (d_12 : Int) → mp_W E X 5 3 [(4, .int i_1), (0, .ref a0), (1, .int 60), (2, .int 0), (3, .int 3)] [] [(mp_arI E a0 0 300 g_2)] 0 0 := by
    intro d_12
    induction d_12 using Nat.strongRecOn with
    | ind d_12 ih_13 =>
      intro i_1 g_2 l_3 u_4 p_5 p_6 p_7 p_8 x_9 x_10 hm_14
      refine mp_run mp_k_cX10_copyRow_ok hF mp_tabX10_ok [mp_i (.iload 4), mp_i (.iload_n 1), mp_h (.if_icmp .ge 25) [31]] (by decide +kernel) ?_
      refine And.intro (fun c_15 => ?_) (fun c_15 => ?_)
      · have c_15 : 60 ≤ i_1.toInt := c_15
        show mp_W E X 5 31 [(4, .int i_1), (0, .ref a0), (1, .int 60), (2, .int 0), (3, .int 3)] [] [(mp_arI E a0 0 300 g_2)] 0 0
        exact mp_vret hF hQ rfl (Nat.le_of_ble_eq_true rfl) (Nat.le_of_ble_eq_true rfl) [0] (w' := [(mp_arI E a0 0 300 g_2)]) rfl rfl ⟨g_2, rfl, p_5, p_6, p_7, p_8, (by rw [show i_1.toInt.toNat = 60 by omega] at x_9; exact x_9), rfl⟩ (by first | exact mp_fd_ok mp_k_cX10_copyRow_ok (by decide +kernel) | decide +kernel)
      · have c_15 : i_1.toInt < 60 := c_15
        show mp_W E X 5 9 [(4, .int i_1), (0, .ref a0), (1, .int 60), (2, .int 0), (3, .int 3)] [] [(mp_arI E a0 0 300 g_2)] 0 0
        refine mp_run mp_k_cX10_copyRow_ok hF mp_tabX10_ok [mp_i (.aload_n 0), mp_i (.iload_n 1), mp_i (.iload_n 3), mp_i .imul, mp_i (.iload 4), mp_i .iadd, mp_i (.aload_n 0), mp_i (.iload_n 1), mp_i (.iload_n 2), mp_i .imul, mp_i (.iload 4), mp_i .iadd, mp_h .iaload [0], mp_h .iastore [0]] (by decide +kernel) ?_
        intro z_16 h_17
        obtain rfl : z_16 = 180 := h_17.trans (by decide)
        intro z_18 h_19
        have e_20 : z_18.toInt = 180 + i_1.toInt := mp_add (a := 180) (b := i_1.toInt) h_19 (by decide) rfl (by (first | exact mp_o2067 l_3 | omega)) (by (first | exact mp_o2068 c_15 | omega))
        intro z_21 h_22
        obtain rfl : z_21 = 0 := h_22.trans (by decide)
        intro z_23 h_24
        have e_25 : z_23.toInt = 0 + i_1.toInt := mp_add (a := 0) (b := i_1.toInt) h_24 (by decide) rfl (by (first | exact mp_o1319 l_3 | omega)) (by (first | exact mp_o1978 c_15 | omega))
        refine And.intro rfl (And.intro rfl (And.intro (vp_in_iff.mpr (by (first | exact mp_o1979 l_3 e_25 c_15 | omega))) ?_))
        intro z_26 h_27
        have e_28 : z_23.toInt % 6 = 0 → 0 ≤ z_26.toInt ∧ z_26.toInt ≤ 5 := mp_res_ld h_27 p_5 (by (first | exact mp_o1341 l_3 e_25 | omega)) (by (first | exact mp_o1980 c_15 e_25 | omega))
        have e_29 : z_23.toInt % 6 = 1 → 0 ≤ z_26.toInt ∧ z_26.toInt ≤ 5 := mp_res_ld h_27 p_6 (by (first | exact mp_o1341 l_3 e_25 | omega)) (by (first | exact mp_o1980 c_15 e_25 | omega))
        have e_30 : z_23.toInt % 6 = 3 → 0 ≤ z_26.toInt ∧ z_26.toInt ≤ 99 := mp_res_ld h_27 p_7 (by (first | exact mp_o1341 l_3 e_25 | omega)) (by (first | exact mp_o1980 c_15 e_25 | omega))
        have e_31 : z_23.toInt % 6 = 4 → 0 ≤ z_26.toInt ∧ z_26.toInt ≤ 1 := mp_res_ld h_27 p_8 (by (first | exact mp_o1341 l_3 e_25 | omega)) (by (first | exact mp_o1980 c_15 e_25 | omega))
        refine And.intro rfl (And.intro rfl (And.intro (vp_in_iff.mpr (by (first | exact mp_o2069 l_3 e_20 c_15 | omega))) ?_))
        intro g_32 h_33
        have p_34 : mp_res g_32 300 6 0 0 5 := mp_res_st h_33 p_5 (by (first | exact mp_o2070 l_3 e_20 | omega)) (by (first | exact mp_o2071 e_28 e_20 e_25 | omega))
        have p_35 : mp_res g_32 300 6 1 0 5 := mp_res_st h_33 p_6 (by (first | exact mp_o2070 l_3 e_20 | omega)) (by (first | exact mp_o2072 e_29 e_20 e_25 | omega))
        have p_36 : mp_res g_32 300 6 3 0 99 := mp_res_st h_33 p_7 (by (first | exact mp_o2070 l_3 e_20 | omega)) (by (first | exact mp_o2073 e_30 e_20 e_25 | omega))
        have p_37 : mp_res g_32 300 6 4 0 1 := mp_res_st h_33 p_8 (by (first | exact mp_o2070 l_3 e_20 | omega)) (by (first | exact mp_o2074 e_31 e_20 e_25 | omega))
        show mp_W E X 5 25 [(4, .int i_1), (0, .ref a0), (1, .int 60), (2, .int 0), (3, .int 3)] [] [(mp_arI E a0 0 300 g_32)] 0 0
        refine mp_run mp_k_cX10_copyRow_ok hF mp_tabX10_ok [mp_c (.iinc 4 1) 1, mp_h (.goto (-25)) [3]] (by decide +kernel) ?_
        intro z_38 h_39
        have e_40 : z_38.toInt = i_1.toInt + 1 := mp_add (a := i_1.toInt) (b := 1) h_39 rfl (by decide) (by (first | exact mp_o2 l_3 | omega)) (by (first | exact mp_o480 c_15 | omega))
        show mp_W E X 5 3 [(4, .int z_38), (0, .ref a0), (1, .int 60), (2, .int 0), (3, .int 3)] [] [(mp_arI E a0 0 300 g_32)] 0 0
        exact mp_sub [0, 1, 2, 3, 4] rfl [0] rfl rfl (ih_13 (d_12 - 1) (by (first | exact mp_o1364 hm_14 c_15 | omega)) z_38 g_32 (by (first | exact mp_o51 l_3 e_40 | omega)) (by (first | exact mp_o481 c_15 e_40 | omega)) p_34 p_35 p_36 p_37 (mp_cpr_st (m := 60) h_33 h_27 x_9 (by (first | exact mp_o2075 l_3 e_20 | omega)) (by (first | exact mp_o1328 l_3 e_25 | omega)) (by (first | exact mp_o2076 | omega)) (by (first | exact mp_o1989 c_15 | omega)) (by (first | exact mp_o772 l_3 e_40 | omega))) (by (first | exact mp_o481 c_15 e_40 | omega)) (by (first | exact mp_o1990 hm_14 e_40 | omega)))
  exact mp_sub [0, 1, 2, 3, 4] rfl [0] rfl rfl (lp_11 _ 0 f0 (by decide) (by decide) p0 p1 p2 p3 (mp_cpr_0 (by decide)) (by decide) (Int.self_le_toNat _))
set_option maxHeartbeats 4000000 in
set_option maxRecDepth 100000 in
theorem bX10_copyRow_179 (E : mp_E) (a0 : Nat) (f0 : Nat → Int32) (p0 : mp_actm f0) : mp_Ct E yX10_copyRow cX10_copyRow 5 none 0 0 0 0 [.ref a0, .int 60, .int 0, .int 3] [(mp_arI E a0 0 300 f0)] (fun v w' => ∃ h1 : Nat → Int32, v = none ∧ mp_actm h1 ∧ (h1 = mp_cpr f0 0 180 60) ∧ w' = [(mp_arI E a0 0 300 h1)]) := by
  refine mp_met false (by decide) (by decide) (Nat.le_of_ble_eq_true rfl) (fun X hF hQ => ?_)
  have hF : mp_F E X (RX10, cX10_copyRow, 5, (0, 0, 0, 0), none, false) := hF
  show mp_W E X 5 0 [(0, .ref a0), (1, .int 60), (2, .int 0), (3, .int 3)] [] [(mp_arI E a0 0 300 f0)] 0 0
  refine mp_run mp_k_cX10_copyRow_ok hF mp_tabX10_ok [mp_c (.iconst 0) 0, mp_i (.istore 4)] (by decide +kernel) ?_
  show mp_W E X 5 3 [(4, .int 0), (0, .ref a0), (1, .int 60), (2, .int 0), (3, .int 3)] [] [(mp_arI E a0 0 300 f0)] 0 0
  have lp_8 : ∀ (d_9 : Nat) (i_1 : Int32) (g_2 : Nat → Int32), 0 ≤ i_1.toInt → i_1.toInt ≤ 60 → mp_actm g_2 → (g_2 = mp_cpr f0 0 180 i_1.toInt.toNat) → (i_1.toInt ≤ 60) → -(i_1.toInt) + 60 ≤ (d_9 : Int) → mp_W E X 5 3 [(4, .int i_1), (0, .ref a0), (1, .int 60), (2, .int 0), (3, .int 3)] [] [(mp_arI E a0 0 300 g_2)] 0 0 := by
    intro d_9
    induction d_9 using Nat.strongRecOn with
    | ind d_9 ih_10 =>
      intro i_1 g_2 l_3 u_4 p_5 x_6 x_7 hm_11
      refine mp_run mp_k_cX10_copyRow_ok hF mp_tabX10_ok [mp_i (.iload 4), mp_i (.iload_n 1), mp_h (.if_icmp .ge 25) [31]] (by decide +kernel) ?_
      refine And.intro (fun c_12 => ?_) (fun c_12 => ?_)
      · have c_12 : 60 ≤ i_1.toInt := c_12
        show mp_W E X 5 31 [(4, .int i_1), (0, .ref a0), (1, .int 60), (2, .int 0), (3, .int 3)] [] [(mp_arI E a0 0 300 g_2)] 0 0
        exact mp_vret hF hQ rfl (Nat.le_of_ble_eq_true rfl) (Nat.le_of_ble_eq_true rfl) [0] (w' := [(mp_arI E a0 0 300 g_2)]) rfl rfl ⟨g_2, rfl, p_5, (by rw [show i_1.toInt.toNat = 60 by (first | exact mp_o1357 c_12 u_4 | omega)] at x_6; exact x_6), rfl⟩ (by first | exact mp_fd_ok mp_k_cX10_copyRow_ok (by decide +kernel) | decide +kernel)
      · have c_12 : i_1.toInt < 60 := c_12
        show mp_W E X 5 9 [(4, .int i_1), (0, .ref a0), (1, .int 60), (2, .int 0), (3, .int 3)] [] [(mp_arI E a0 0 300 g_2)] 0 0
        refine mp_run mp_k_cX10_copyRow_ok hF mp_tabX10_ok [mp_i (.aload_n 0), mp_i (.iload_n 1), mp_i (.iload_n 3), mp_i .imul, mp_i (.iload 4), mp_i .iadd, mp_i (.aload_n 0), mp_i (.iload_n 1), mp_i (.iload_n 2), mp_i .imul, mp_i (.iload 4), mp_i .iadd, mp_h .iaload [0], mp_h .iastore [0]] (by decide +kernel) ?_
        intro z_13 h_14
        obtain rfl : z_13 = 180 := h_14.trans (by decide)
        intro z_15 h_16
        have e_17 : z_15.toInt = 180 + i_1.toInt := mp_add (a := 180) (b := i_1.toInt) h_16 (by decide) rfl (by omega) (by omega)
        intro z_18 h_19
        obtain rfl : z_18 = 0 := h_19.trans (by decide)
        intro z_20 h_21
        have e_22 : z_20.toInt = 0 + i_1.toInt := mp_add (a := 0) (b := i_1.toInt) h_21 (by decide) rfl (by omega) (by omega)
        refine And.intro rfl (And.intro rfl (And.intro (vp_in_iff.mpr (by omega)) ?_))
        intro z_23 h_24
        have e_25 := mp_actm_ld h_24 p_5 (by omega) (by (first | exact mp_o1991 c_12 e_22 | omega))
        refine And.intro rfl (And.intro rfl (And.intro (vp_in_iff.mpr (by omega)) ?_))
        intro g_26 h_27
        have p_28 : mp_actm g_26 := mp_actm_st h_27 p_5 (by (first | exact e_25 | omega))
        show mp_W E X 5 25 [(4, .int i_1), (0, .ref a0), (1, .int 60), (2, .int 0), (3, .int 3)] [] [(mp_arI E a0 0 300 g_26)] 0 0
        refine mp_run mp_k_cX10_copyRow_ok hF mp_tabX10_ok [mp_c (.iinc 4 1) 1, mp_h (.goto (-25)) [3]] (by decide +kernel) ?_
        intro z_29 h_30
        have e_31 : z_29.toInt = i_1.toInt + 1 := mp_add (a := i_1.toInt) (b := 1) h_30 rfl (by decide) (by omega) (by omega)
        show mp_W E X 5 3 [(4, .int z_29), (0, .ref a0), (1, .int 60), (2, .int 0), (3, .int 3)] [] [(mp_arI E a0 0 300 g_26)] 0 0
        exact mp_sub [0, 1, 2, 3, 4] rfl [0] rfl rfl (ih_10 (d_9 - 1) (by omega) z_29 g_26 (by omega) (by omega) p_28 (mp_cpr_st (m := 60) h_27 h_24 x_6 (by omega) (by omega) (by omega) (by omega) (by omega)) (by omega) (by omega))
  exact mp_sub [0, 1, 2, 3, 4] rfl [0] rfl rfl (lp_8 _ 0 f0 (by decide) (by decide) p0 (mp_cpr_0 (by decide)) (by decide) (Int.self_le_toNat _))
set_option maxHeartbeats 4000000 in
set_option maxRecDepth 100000 in
theorem bX10_copyIsles_180 (E : mp_E) (a0 a1 a2 a3 a4 a5 a6 a7 a8 a9 a10 a11 a12 a13 a14 a15 a16 a17 a18 a19 a20 a21 a22 a23 a24 a25 : Nat) (f0 : Nat → Int32) (f1 : Nat → Int32) (f2 : Nat → Int32) (f3 : Nat → Int32) (f4 : Nat → Int32) (f5 : Nat → Int32) (f6 : Nat → Int32) (y0 : Int32) (y1 : Int32) (y2 : Int32) (y3 : Int32) (y4 : Int32) (y5 : Int32) (y6 : Int64) (y7 : Int32) (y8 : Int32) (y9 : Int32) (y10 : Int32) (y11 : Int32) (y12 : Int32) (y13 : Int32) (y14 : Int32) (y15 : Int32) (y16 : Int32) (y17 : Int32) (y18 : Int32) (y19 : Int32) (y20 : Int32) (y21 : Int32) (p0 : mp_res f1 25 5 0 0 6) (p1 : mp_res f1 25 5 1 0 99) (p2 : mp_res f1 25 5 2 0 6) (p3 : mp_res f1 25 5 3 0 10) (p4 : mp_res f1 25 5 4 0 60) (p5 : mp_all f2 180 0 20) (p6 : mp_all f3 3000 0 1) (p7 : mp_res f4 90 3 0 0 5) (p8 : mp_res f4 90 3 1 (-1) 99) (p9 : mp_res f5 300 6 0 0 5) (p10 : mp_res f5 300 6 1 0 5) (p11 : mp_res f5 300 6 3 0 99) (p12 : mp_res f5 300 6 4 0 1) (p13 : mp_actm f6) (l_y1 : 0 ≤ y1.toInt) (u_y1 : y1.toInt ≤ 1600) (l_y2 : 0 ≤ y2.toInt) (u_y2 : y2.toInt ≤ 1600) (l_y3 : 0 ≤ y3.toInt) (u_y3 : y3.toInt ≤ 4) (l_y4 : 0 ≤ y4.toInt) (u_y4 : y4.toInt ≤ 1600) (l_y11 : 0 ≤ y11.toInt) (u_y11 : y11.toInt ≤ 99) (l_y12 : 0 ≤ y12.toInt) (u_y12 : y12.toInt ≤ 5) (l_y13 : 0 ≤ y13.toInt) (u_y13 : y13.toInt ≤ 12) : mp_Ct E yX10_copyIsles cX10_copyIsles 4 none 1 0 0 24 [.ref a0, .int 0, .int 3] [(mp_ob10 a0 y0 a8 a9 a10 a11 a12 y1 y2 y3 y4 y5 y6 y7 y8 y9 y10 a1 a2 a3 a4 a5 a6 a7 a13 y11 a14 a15 a16 a17 y12 y13 y14 a18 a19 y15 y16 a20 a21 a22 y17 y18 y19 y20 a23 a24 a25 y21), (mp_arI E a1 0 5 f0), (mp_arI E a2 0 25 f1), (mp_arI E a3 0 180 f2), (mp_arI E a4 3 3000 f3), (mp_arI E a5 0 90 f4), (mp_arI E a6 0 300 f5), (mp_arI E a7 0 300 f6)] (fun v w' => ∃ h1 : Nat → Int32, ∃ h2 : Nat → Int32, ∃ h3 : Nat → Int32, ∃ h4 : Nat → Int32, ∃ h5 : Nat → Int32, ∃ h6 : Nat → Int32, ∃ h7 : Nat → Int32, v = none ∧ mp_res h2 25 5 0 0 6 ∧ mp_res h2 25 5 1 0 99 ∧ mp_res h2 25 5 2 0 6 ∧ mp_res h2 25 5 3 0 10 ∧ mp_res h2 25 5 4 0 60 ∧ mp_all h3 180 0 20 ∧ mp_all h4 3000 0 1 ∧ mp_res h5 90 3 0 0 5 ∧ mp_res h5 90 3 1 (-1) 99 ∧ mp_res h6 300 6 0 0 5 ∧ mp_res h6 300 6 1 0 5 ∧ mp_res h6 300 6 3 0 99 ∧ mp_res h6 300 6 4 0 1 ∧ mp_actm h7 ∧ (h1 = mp_cpr f0 0 3 1) ∧ (h2 = mp_cpr f1 0 15 5) ∧ (h3 = mp_cpr f2 0 108 36) ∧ (h5 = mp_cpr f4 0 54 18) ∧ (h6 = mp_cpr f5 0 180 60) ∧ (h7 = mp_cpr f6 0 180 60) ∧ (h4 = mp_cpr f3 0 1800 600) ∧ w' = [(mp_ob10 a0 y0 a8 a9 a10 a11 a12 y1 y2 y3 y4 y5 y6 y7 y8 y9 y10 a1 a2 a3 a4 a5 a6 a7 a13 y11 a14 a15 a16 a17 y12 y13 y14 a18 a19 y15 y16 a20 a21 a22 y17 y18 y19 y20 a23 a24 a25 y21), (mp_arI E a1 0 5 h1), (mp_arI E a2 0 25 h2), (mp_arI E a3 0 180 h3), (mp_arI E a4 3 3000 h4), (mp_arI E a5 0 90 h5), (mp_arI E a6 0 300 h6), (mp_arI E a7 0 300 h7)]) := by
  refine mp_met false (by decide) (by decide) (Nat.le_of_ble_eq_true rfl) (fun X hF hQ => ?_)
  have hF : mp_F E X (RX10, cX10_copyIsles, 4, (1, 0, 0, 24), none, false) := hF
  let w1_ : va_W := [(mp_ob10 a0 y0 a8 a9 a10 a11 a12 y1 y2 y3 y4 y5 y6 y7 y8 y9 y10 a1 a2 a3 a4 a5 a6 a7 a13 y11 a14 a15 a16 a17 y12 y13 y14 a18 a19 y15 y16 a20 a21 a22 y17 y18 y19 y20 a23 a24 a25 y21), (mp_arI E a1 0 5 f0), (mp_arI E a2 0 25 f1), (mp_arI E a3 0 180 f2), (mp_arI E a4 3 3000 f3), (mp_arI E a5 0 90 f4), (mp_arI E a6 0 300 f5), (mp_arI E a7 0 300 f6)]
  show mp_W E X 4 0 [(0, .ref a0), (1, .int 0), (2, .int 3)] [] w1_ 0 0
  refine mp_run mp_k_cX10_copyIsles_ok hF mp_tabX10_ok [mp_i (.aload_n 0), mp_h (.getfield 31) [16, 0], mp_c (.iconst 1) 1, mp_i (.iload_n 1), mp_i (.iload_n 2)] (by decide +kernel) ?_
  refine And.intro rfl (And.intro rfl ?_)
  show mp_W E X 4 7 [(0, .ref a0), (1, .int 0), (2, .int 3)] [.int 3, .int 0, .int 1, .ref a1] w1_ 0 0
  refine mp_callS hF (As := [.ref a1, .int 1, .int 0, .int 3]) (rest := []) (wr := [(mp_ob10 a0 y0 a8 a9 a10 a11 a12 y1 y2 y3 y4 y5 y6 y7 y8 y9 y10 a1 a2 a3 a4 a5 a6 a7 a13 y11 a14 a15 a16 a17 y12 y13 y14 a18 a19 y15 y16 a20 a21 a22 y17 y18 y19 y20 a23 a24 a25 y21), (mp_arI E a2 0 25 f1), (mp_arI E a3 0 180 f2), (mp_arI E a4 3 3000 f3), (mp_arI E a5 0 90 f4), (mp_arI E a6 0 300 f5), (mp_arI E a7 0 300 f6)]) (bX10_copyRow_174 E a1 f0) mp_lkX10_251 [1] [0, 2, 3, 4, 5, 6, 7] rfl rfl rfl rfl rfl ⟨(Nat.le_of_ble_eq_true rfl), (Nat.le_of_ble_eq_true rfl), (Nat.le_of_ble_eq_true rfl), (Nat.le_of_ble_eq_true rfl)⟩ (Nat.le_of_ble_eq_true rfl) (by first | exact mp_fd_ok mp_k_cX10_copyIsles_ok (by decide +kernel) | decide +kernel) (fun v_1 w_2 h_3 => ?_)
  obtain ⟨g_4, rfl, x_5, rfl⟩ := h_3
  let w2_ : va_W := [(mp_ob10 a0 y0 a8 a9 a10 a11 a12 y1 y2 y3 y4 y5 y6 y7 y8 y9 y10 a1 a2 a3 a4 a5 a6 a7 a13 y11 a14 a15 a16 a17 y12 y13 y14 a18 a19 y15 y16 a20 a21 a22 y17 y18 y19 y20 a23 a24 a25 y21), (mp_arI E a2 0 25 f1), (mp_arI E a3 0 180 f2), (mp_arI E a4 3 3000 f3), (mp_arI E a5 0 90 f4), (mp_arI E a6 0 300 f5), (mp_arI E a7 0 300 f6), (mp_arI E a1 0 5 g_4)]
  show mp_W E X 4 10 [(0, .ref a0), (1, .int 0), (2, .int 3)] [] w2_ 0 0
  refine mp_run mp_k_cX10_copyIsles_ok hF mp_tabX10_ok [mp_i (.aload_n 0), mp_h (.getfield 34) [17, 0], mp_c (.iconst 5) 5, mp_i (.iload_n 1), mp_i (.iload_n 2)] (by decide +kernel) ?_
  refine And.intro rfl (And.intro rfl ?_)
  show mp_W E X 4 17 [(0, .ref a0), (1, .int 0), (2, .int 3)] [.int 3, .int 0, .int 5, .ref a2] w2_ 0 0
  refine mp_callS hF (As := [.ref a2, .int 5, .int 0, .int 3]) (rest := []) (wr := [(mp_ob10 a0 y0 a8 a9 a10 a11 a12 y1 y2 y3 y4 y5 y6 y7 y8 y9 y10 a1 a2 a3 a4 a5 a6 a7 a13 y11 a14 a15 a16 a17 y12 y13 y14 a18 a19 y15 y16 a20 a21 a22 y17 y18 y19 y20 a23 a24 a25 y21), (mp_arI E a3 0 180 f2), (mp_arI E a4 3 3000 f3), (mp_arI E a5 0 90 f4), (mp_arI E a6 0 300 f5), (mp_arI E a7 0 300 f6), (mp_arI E a1 0 5 g_4)]) (bX10_copyRow_175 E a2 f1 p0 p1 p2 p3 p4) mp_lkX10_251 [1] [0, 2, 3, 4, 5, 6, 7] rfl rfl rfl rfl rfl ⟨(Nat.le_of_ble_eq_true rfl), (Nat.le_of_ble_eq_true rfl), (Nat.le_of_ble_eq_true rfl), (Nat.le_of_ble_eq_true rfl)⟩ (Nat.le_of_ble_eq_true rfl) (by first | exact mp_fd_ok mp_k_cX10_copyIsles_ok (by decide +kernel) | decide +kernel) (fun v_6 w_7 h_8 => ?_)
  refine h_8.elim fun g_9 q_16 => q_16.elim fun e_17 q_18 => q_18.elim fun p_10 q_19 => q_19.elim fun p_11 q_20 => q_20.elim fun p_12 q_21 => q_21.elim fun p_13 q_22 => q_22.elim fun p_14 q_23 => q_23.elim fun x_15 e_24 => ?_
  clear h_8 q_16 q_18 q_19 q_20 q_21 q_22 q_23
  subst e_17
  subst e_24
  let w3_ : va_W := [(mp_ob10 a0 y0 a8 a9 a10 a11 a12 y1 y2 y3 y4 y5 y6 y7 y8 y9 y10 a1 a2 a3 a4 a5 a6 a7 a13 y11 a14 a15 a16 a17 y12 y13 y14 a18 a19 y15 y16 a20 a21 a22 y17 y18 y19 y20 a23 a24 a25 y21), (mp_arI E a3 0 180 f2), (mp_arI E a4 3 3000 f3), (mp_arI E a5 0 90 f4), (mp_arI E a6 0 300 f5), (mp_arI E a7 0 300 f6), (mp_arI E a1 0 5 g_4), (mp_arI E a2 0 25 g_9)]
  show mp_W E X 4 20 [(0, .ref a0), (1, .int 0), (2, .int 3)] [] w3_ 0 0
  refine mp_run mp_k_cX10_copyIsles_ok hF mp_tabX10_ok [mp_i (.aload_n 0), mp_h (.getfield 37) [18, 0], mp_c (.bipush 36) 36, mp_i (.iload_n 1), mp_i (.iload_n 2)] (by decide +kernel) ?_
  refine And.intro rfl (And.intro rfl ?_)
  show mp_W E X 4 28 [(0, .ref a0), (1, .int 0), (2, .int 3)] [.int 3, .int 0, .int 36, .ref a3] w3_ 0 0
  refine mp_callS hF (As := [.ref a3, .int 36, .int 0, .int 3]) (rest := []) (wr := [(mp_ob10 a0 y0 a8 a9 a10 a11 a12 y1 y2 y3 y4 y5 y6 y7 y8 y9 y10 a1 a2 a3 a4 a5 a6 a7 a13 y11 a14 a15 a16 a17 y12 y13 y14 a18 a19 y15 y16 a20 a21 a22 y17 y18 y19 y20 a23 a24 a25 y21), (mp_arI E a4 3 3000 f3), (mp_arI E a5 0 90 f4), (mp_arI E a6 0 300 f5), (mp_arI E a7 0 300 f6), (mp_arI E a1 0 5 g_4), (mp_arI E a2 0 25 g_9)]) (bX10_copyRow_176 E a3 f2 p5) mp_lkX10_251 [1] [0, 2, 3, 4, 5, 6, 7] rfl rfl rfl rfl rfl ⟨(Nat.le_of_ble_eq_true rfl), (Nat.le_of_ble_eq_true rfl), (Nat.le_of_ble_eq_true rfl), (Nat.le_of_ble_eq_true rfl)⟩ (Nat.le_of_ble_eq_true rfl) (by first | exact mp_fd_ok mp_k_cX10_copyIsles_ok (by decide +kernel) | decide +kernel) (fun v_25 w_26 h_27 => ?_)
  obtain ⟨g_28, rfl, p_29, x_30, rfl⟩ := h_27
  let w4_ : va_W := [(mp_ob10 a0 y0 a8 a9 a10 a11 a12 y1 y2 y3 y4 y5 y6 y7 y8 y9 y10 a1 a2 a3 a4 a5 a6 a7 a13 y11 a14 a15 a16 a17 y12 y13 y14 a18 a19 y15 y16 a20 a21 a22 y17 y18 y19 y20 a23 a24 a25 y21), (mp_arI E a4 3 3000 f3), (mp_arI E a5 0 90 f4), (mp_arI E a6 0 300 f5), (mp_arI E a7 0 300 f6), (mp_arI E a1 0 5 g_4), (mp_arI E a2 0 25 g_9), (mp_arI E a3 0 180 g_28)]
  show mp_W E X 4 31 [(0, .ref a0), (1, .int 0), (2, .int 3)] [] w4_ 0 0
  refine mp_run mp_k_cX10_copyIsles_ok hF mp_tabX10_ok [mp_c (.iconst 0) 0, mp_i (.istore_n 3)] (by decide +kernel) ?_
  show mp_W E X 4 33 [(3, .int 0), (0, .ref a0), (1, .int 0), (2, .int 3)] [] w4_ 0 0
  have lp_39 : ∀ (d_40 : Nat) (i_31 : Int32) (g_32 : Nat → Int32), 0 ≤ i_31.toInt → i_31.toInt ≤ 600 → mp_all g_32 3000 0 1 → (g_32 = mp_cpr f3 0 1800 i_31.toInt.toNat) → (i_31.toInt ≤ 600) → (0 ≤ i_31.toInt) → -(i_31.toInt) + 600 ≤ (d_40 : Int) → mp_W E X 4 33 [(3, .int i_31), (0, .ref a0), (1, .int 0), (2, .int 3)] [] [(mp_ob10 a0 y0 a8 a9 a10 a11 a12 y1 y2 y3 y4 y5 y6 y7 y8 y9 y10 a1 a2 a3 a4 a5 a6 a7 a13 y11 a14 a15 a16 a17 y12 y13 y14 a18 a19 y15 y16 a20 a21 a22 y17 y18 y19 y20 a23 a24 a25 y21), (mp_arI E a4 3 3000 g_32), (mp_arI E a5 0 90 f4), (mp_arI E a6 0 300 f5), (mp_arI E a7 0 300 f6), (mp_arI E a1 0 5 g_4), (mp_arI E a2 0 25 g_9), (mp_arI E a3 0 180 g_28)] 0 0 := by
    intro d_40
    induction d_40 using Nat.strongRecOn with
    | ind d_40 ih_41 =>
      intro i_31 g_32 l_33 u_34 p_35 x_36 x_37 x_38 hm_42
      refine mp_run mp_k_cX10_copyIsles_ok hF mp_tabX10_ok [mp_i (.iload_n 3), mp_c (.sipush 600) 600, mp_h (.if_icmp .ge 33) [70]] (by decide +kernel) ?_
      refine And.intro (fun c_43 => ?_) (fun c_43 => ?_)
      · have c_43 : 600 ≤ i_31.toInt := c_43
        let w5_ : va_W := [(mp_ob10 a0 y0 a8 a9 a10 a11 a12 y1 y2 y3 y4 y5 y6 y7 y8 y9 y10 a1 a2 a3 a4 a5 a6 a7 a13 y11 a14 a15 a16 a17 y12 y13 y14 a18 a19 y15 y16 a20 a21 a22 y17 y18 y19 y20 a23 a24 a25 y21), (mp_arI E a4 3 3000 g_32), (mp_arI E a5 0 90 f4), (mp_arI E a6 0 300 f5), (mp_arI E a7 0 300 f6), (mp_arI E a1 0 5 g_4), (mp_arI E a2 0 25 g_9), (mp_arI E a3 0 180 g_28)]
        show mp_W E X 4 70 [(3, .int i_31), (0, .ref a0), (1, .int 0), (2, .int 3)] [] w5_ 0 0
        refine mp_run mp_k_cX10_copyIsles_ok hF mp_tabX10_ok [mp_i (.aload_n 0), mp_h (.getfield 44) [20, 0], mp_c (.bipush 18) 18, mp_i (.iload_n 1), mp_i (.iload_n 2)] (by decide +kernel) ?_
        refine And.intro rfl (And.intro rfl ?_)
        show mp_W E X 4 78 [(3, .int i_31), (0, .ref a0), (1, .int 0), (2, .int 3)] [.int 3, .int 0, .int 18, .ref a5] w5_ 0 0
        refine mp_callS hF (As := [.ref a5, .int 18, .int 0, .int 3]) (rest := []) (wr := [(mp_ob10 a0 y0 a8 a9 a10 a11 a12 y1 y2 y3 y4 y5 y6 y7 y8 y9 y10 a1 a2 a3 a4 a5 a6 a7 a13 y11 a14 a15 a16 a17 y12 y13 y14 a18 a19 y15 y16 a20 a21 a22 y17 y18 y19 y20 a23 a24 a25 y21), (mp_arI E a4 3 3000 g_32), (mp_arI E a6 0 300 f5), (mp_arI E a7 0 300 f6), (mp_arI E a1 0 5 g_4), (mp_arI E a2 0 25 g_9), (mp_arI E a3 0 180 g_28)]) (bX10_copyRow_177 E a5 f4 p7 p8) mp_lkX10_251 [2] [0, 1, 3, 4, 5, 6, 7] rfl rfl rfl rfl rfl ⟨(Nat.le_of_ble_eq_true rfl), (Nat.le_of_ble_eq_true rfl), (Nat.le_of_ble_eq_true rfl), (Nat.le_of_ble_eq_true rfl)⟩ (Nat.le_of_ble_eq_true rfl) (by first | exact mp_fd_ok mp_k_cX10_copyIsles_ok (by decide +kernel) | decide +kernel) (fun v_44 w_45 h_46 => ?_)
        refine h_46.elim fun g_47 q_51 => q_51.elim fun e_52 q_53 => q_53.elim fun p_48 q_54 => q_54.elim fun p_49 q_55 => q_55.elim fun x_50 e_56 => ?_
        clear h_46 q_51 q_53 q_54 q_55
        subst e_52
        subst e_56
        let w6_ : va_W := [(mp_ob10 a0 y0 a8 a9 a10 a11 a12 y1 y2 y3 y4 y5 y6 y7 y8 y9 y10 a1 a2 a3 a4 a5 a6 a7 a13 y11 a14 a15 a16 a17 y12 y13 y14 a18 a19 y15 y16 a20 a21 a22 y17 y18 y19 y20 a23 a24 a25 y21), (mp_arI E a4 3 3000 g_32), (mp_arI E a6 0 300 f5), (mp_arI E a7 0 300 f6), (mp_arI E a1 0 5 g_4), (mp_arI E a2 0 25 g_9), (mp_arI E a3 0 180 g_28), (mp_arI E a5 0 90 g_47)]
        show mp_W E X 4 81 [(3, .int i_31), (0, .ref a0), (1, .int 0), (2, .int 3)] [] w6_ 0 0
        refine mp_run mp_k_cX10_copyIsles_ok hF mp_tabX10_ok [mp_i (.aload_n 0), mp_h (.getfield 47) [21, 0], mp_c (.bipush 60) 60, mp_i (.iload_n 1), mp_i (.iload_n 2)] (by decide +kernel) ?_
        refine And.intro rfl (And.intro rfl ?_)
        show mp_W E X 4 89 [(3, .int i_31), (0, .ref a0), (1, .int 0), (2, .int 3)] [.int 3, .int 0, .int 60, .ref a6] w6_ 0 0
        refine mp_callS hF (As := [.ref a6, .int 60, .int 0, .int 3]) (rest := []) (wr := [(mp_ob10 a0 y0 a8 a9 a10 a11 a12 y1 y2 y3 y4 y5 y6 y7 y8 y9 y10 a1 a2 a3 a4 a5 a6 a7 a13 y11 a14 a15 a16 a17 y12 y13 y14 a18 a19 y15 y16 a20 a21 a22 y17 y18 y19 y20 a23 a24 a25 y21), (mp_arI E a4 3 3000 g_32), (mp_arI E a7 0 300 f6), (mp_arI E a1 0 5 g_4), (mp_arI E a2 0 25 g_9), (mp_arI E a3 0 180 g_28), (mp_arI E a5 0 90 g_47)]) (bX10_copyRow_178 E a6 f5 p9 p10 p11 p12) mp_lkX10_251 [2] [0, 1, 3, 4, 5, 6, 7] rfl rfl rfl rfl rfl ⟨(Nat.le_of_ble_eq_true rfl), (Nat.le_of_ble_eq_true rfl), (Nat.le_of_ble_eq_true rfl), (Nat.le_of_ble_eq_true rfl)⟩ (Nat.le_of_ble_eq_true rfl) (by first | exact mp_fd_ok mp_k_cX10_copyIsles_ok (by decide +kernel) | decide +kernel) (fun v_57 w_58 h_59 => ?_)
        refine h_59.elim fun g_60 q_66 => q_66.elim fun e_67 q_68 => q_68.elim fun p_61 q_69 => q_69.elim fun p_62 q_70 => q_70.elim fun p_63 q_71 => q_71.elim fun p_64 q_72 => q_72.elim fun x_65 e_73 => ?_
        clear h_59 q_66 q_68 q_69 q_70 q_71 q_72
        subst e_67
        subst e_73
        let w7_ : va_W := [(mp_ob10 a0 y0 a8 a9 a10 a11 a12 y1 y2 y3 y4 y5 y6 y7 y8 y9 y10 a1 a2 a3 a4 a5 a6 a7 a13 y11 a14 a15 a16 a17 y12 y13 y14 a18 a19 y15 y16 a20 a21 a22 y17 y18 y19 y20 a23 a24 a25 y21), (mp_arI E a4 3 3000 g_32), (mp_arI E a7 0 300 f6), (mp_arI E a1 0 5 g_4), (mp_arI E a2 0 25 g_9), (mp_arI E a3 0 180 g_28), (mp_arI E a5 0 90 g_47), (mp_arI E a6 0 300 g_60)]
        show mp_W E X 4 92 [(3, .int i_31), (0, .ref a0), (1, .int 0), (2, .int 3)] [] w7_ 0 0
        refine mp_run mp_k_cX10_copyIsles_ok hF mp_tabX10_ok [mp_i (.aload_n 0), mp_h (.getfield 50) [22, 0], mp_c (.bipush 60) 60, mp_i (.iload_n 1), mp_i (.iload_n 2)] (by decide +kernel) ?_
        refine And.intro rfl (And.intro rfl ?_)
        show mp_W E X 4 100 [(3, .int i_31), (0, .ref a0), (1, .int 0), (2, .int 3)] [.int 3, .int 0, .int 60, .ref a7] w7_ 0 0
        refine mp_callS hF (As := [.ref a7, .int 60, .int 0, .int 3]) (rest := []) (wr := [(mp_ob10 a0 y0 a8 a9 a10 a11 a12 y1 y2 y3 y4 y5 y6 y7 y8 y9 y10 a1 a2 a3 a4 a5 a6 a7 a13 y11 a14 a15 a16 a17 y12 y13 y14 a18 a19 y15 y16 a20 a21 a22 y17 y18 y19 y20 a23 a24 a25 y21), (mp_arI E a4 3 3000 g_32), (mp_arI E a1 0 5 g_4), (mp_arI E a2 0 25 g_9), (mp_arI E a3 0 180 g_28), (mp_arI E a5 0 90 g_47), (mp_arI E a6 0 300 g_60)]) (bX10_copyRow_179 E a7 f6 p13) mp_lkX10_251 [2] [0, 1, 3, 4, 5, 6, 7] rfl rfl rfl rfl rfl ⟨(Nat.le_of_ble_eq_true rfl), (Nat.le_of_ble_eq_true rfl), (Nat.le_of_ble_eq_true rfl), (Nat.le_of_ble_eq_true rfl)⟩ (Nat.le_of_ble_eq_true rfl) (by first | exact mp_fd_ok mp_k_cX10_copyIsles_ok (by decide +kernel) | decide +kernel) (fun v_74 w_75 h_76 => ?_)
        obtain ⟨g_77, rfl, p_78, x_79, rfl⟩ := h_76
        let w8_ : va_W := [(mp_ob10 a0 y0 a8 a9 a10 a11 a12 y1 y2 y3 y4 y5 y6 y7 y8 y9 y10 a1 a2 a3 a4 a5 a6 a7 a13 y11 a14 a15 a16 a17 y12 y13 y14 a18 a19 y15 y16 a20 a21 a22 y17 y18 y19 y20 a23 a24 a25 y21), (mp_arI E a4 3 3000 g_32), (mp_arI E a1 0 5 g_4), (mp_arI E a2 0 25 g_9), (mp_arI E a3 0 180 g_28), (mp_arI E a5 0 90 g_47), (mp_arI E a6 0 300 g_60), (mp_arI E a7 0 300 g_77)]
        show mp_W E X 4 103 [(3, .int i_31), (0, .ref a0), (1, .int 0), (2, .int 3)] [] w8_ 0 0
        exact mp_vret hF hQ rfl (Nat.le_of_ble_eq_true rfl) (Nat.le_of_ble_eq_true rfl) [0, 2, 3, 4, 1, 5, 6, 7] (w' := [(mp_ob10 a0 y0 a8 a9 a10 a11 a12 y1 y2 y3 y4 y5 y6 y7 y8 y9 y10 a1 a2 a3 a4 a5 a6 a7 a13 y11 a14 a15 a16 a17 y12 y13 y14 a18 a19 y15 y16 a20 a21 a22 y17 y18 y19 y20 a23 a24 a25 y21), (mp_arI E a1 0 5 g_4), (mp_arI E a2 0 25 g_9), (mp_arI E a3 0 180 g_28), (mp_arI E a4 3 3000 g_32), (mp_arI E a5 0 90 g_47), (mp_arI E a6 0 300 g_60), (mp_arI E a7 0 300 g_77)]) rfl rfl ⟨g_4, g_9, g_28, g_32, g_47, g_60, g_77, rfl, p_10, p_11, p_12, p_13, p_14, p_29, p_35, p_48, p_49, p_61, p_62, p_63, p_64, p_78, x_5, x_15, x_30, x_50, x_65, x_79, (by have k9 := x_36; rw [show i_31.toInt.toNat = 600 by (first | exact mp_o1366 c_43 u_34 | omega)] at k9; exact k9), rfl⟩ (by first | exact mp_fd_ok mp_k_cX10_copyIsles_ok (by decide +kernel) | decide +kernel)
      · have c_43 : i_31.toInt < 600 := c_43
        let w9_ : va_W := [(mp_ob10 a0 y0 a8 a9 a10 a11 a12 y1 y2 y3 y4 y5 y6 y7 y8 y9 y10 a1 a2 a3 a4 a5 a6 a7 a13 y11 a14 a15 a16 a17 y12 y13 y14 a18 a19 y15 y16 a20 a21 a22 y17 y18 y19 y20 a23 a24 a25 y21), (mp_arI E a4 3 3000 g_32), (mp_arI E a5 0 90 f4), (mp_arI E a6 0 300 f5), (mp_arI E a7 0 300 f6), (mp_arI E a1 0 5 g_4), (mp_arI E a2 0 25 g_9), (mp_arI E a3 0 180 g_28)]
        show mp_W E X 4 40 [(3, .int i_31), (0, .ref a0), (1, .int 0), (2, .int 3)] [] w9_ 0 0
        refine mp_run mp_k_cX10_copyIsles_ok hF mp_tabX10_ok [mp_i (.aload_n 0), mp_h (.getfield 40) [19, 0], mp_c (.sipush 600) 600, mp_i (.iload_n 2), mp_i .imul, mp_i (.iload_n 3), mp_i .iadd, mp_i (.aload_n 0), mp_h (.getfield 40) [19, 0], mp_c (.sipush 600) 600, mp_i (.iload_n 1), mp_i .imul, mp_i (.iload_n 3), mp_i .iadd, mp_h .baload [1, 0], mp_h .bastore [1, 0]] (by decide +kernel) ?_
        refine And.intro rfl (And.intro rfl ?_)
        intro z_80 h_81
        obtain rfl : z_80 = 1800 := h_81.trans (by decide)
        intro z_82 h_83
        have e_84 : z_82.toInt = 1800 + i_31.toInt := mp_add (a := 1800) (b := i_31.toInt) h_83 (by decide) rfl (by (first | exact mp_o2077 l_33 | omega)) (by (first | exact mp_o2078 c_43 | omega))
        refine And.intro rfl (And.intro rfl ?_)
        intro z_85 h_86
        obtain rfl : z_85 = 0 := h_86.trans (by decide)
        intro z_87 h_88
        have e_89 : z_87.toInt = 0 + i_31.toInt := mp_add (a := 0) (b := i_31.toInt) h_88 (by decide) rfl (by (first | exact mp_o1319 l_33 | omega)) (by (first | exact mp_o1367 c_43 | omega))
        refine And.intro rfl (And.intro rfl (And.intro (vp_in_iff.mpr (by (first | exact mp_o1370 l_33 e_89 c_43 | omega))) ?_))
        intro z_90 h_91
        have e_92 : 0 ≤ z_90.toInt ∧ z_90.toInt ≤ 1 := mp_all_ld h_91 p_35 (by (first | exact mp_o1341 l_33 e_89 | omega)) (by (first | exact mp_o1994 c_43 e_89 | omega))
        refine And.intro rfl (And.intro rfl (And.intro (vp_in_iff.mpr (by (first | exact mp_o2079 l_33 e_84 c_43 | omega))) ?_))
        intro g_93 h_94
        have h_95 : g_93 = upd g_32 z_82.toNatClampNeg z_90 := h_94.trans (congrArg (upd _ _) (mp_narb (by (first | exact mp_o1371 e_92 | omega)) (by (first | exact mp_o1372 e_92 | omega))))
        have p_96 : mp_all g_93 3000 0 1 := mp_all_st h_95 p_35 e_92.1 e_92.2
        let w10_ : va_W := [(mp_ob10 a0 y0 a8 a9 a10 a11 a12 y1 y2 y3 y4 y5 y6 y7 y8 y9 y10 a1 a2 a3 a4 a5 a6 a7 a13 y11 a14 a15 a16 a17 y12 y13 y14 a18 a19 y15 y16 a20 a21 a22 y17 y18 y19 y20 a23 a24 a25 y21), (mp_arI E a4 3 3000 g_93), (mp_arI E a5 0 90 f4), (mp_arI E a6 0 300 f5), (mp_arI E a7 0 300 f6), (mp_arI E a1 0 5 g_4), (mp_arI E a2 0 25 g_9), (mp_arI E a3 0 180 g_28)]
        show mp_W E X 4 64 [(3, .int i_31), (0, .ref a0), (1, .int 0), (2, .int 3)] [] w10_ 0 0
        refine mp_run mp_k_cX10_copyIsles_ok hF mp_tabX10_ok [mp_c (.iinc 3 1) 1, mp_h (.goto (-34)) [33]] (by decide +kernel) ?_
        intro z_97 h_98
        have e_99 : z_97.toInt = i_31.toInt + 1 := mp_add (a := i_31.toInt) (b := 1) h_98 rfl (by decide) (by (first | exact mp_o2 l_33 | omega)) (by (first | exact mp_o976 c_43 | omega))
        show mp_W E X 4 33 [(3, .int z_97), (0, .ref a0), (1, .int 0), (2, .int 3)] [] w10_ 0 0
        exact mp_sub [0, 1, 2, 3] rfl [0, 1, 2, 3, 4, 5, 6, 7] rfl rfl (ih_41 (d_40 - 1) (by (first | exact mp_o977 hm_42 c_43 | omega)) z_97 g_93 (by (first | exact mp_o51 l_33 e_99 | omega)) (by (first | exact mp_o978 c_43 e_99 | omega)) p_96 (mp_cpr_st (m := 600) h_95 h_91 x_36 (by (first | exact mp_o2080 l_33 e_84 | omega)) (by (first | exact mp_o1328 l_33 e_89 | omega)) (by (first | exact mp_o2081 | omega)) (by (first | exact mp_o1375 c_43 | omega)) (by (first | exact mp_o772 l_33 e_99 | omega))) (by (first | exact mp_o978 c_43 e_99 | omega)) (by (first | exact mp_o51 l_33 e_99 | omega)) (by (first | exact mp_o979 hm_42 e_99 | omega)))
  exact mp_sub [0, 1, 2, 3] rfl [0, 1, 2, 3, 4, 5, 6, 7] rfl rfl (lp_39 _ 0 f3 (by decide) (by decide) p6 (mp_cpr_0 (by decide)) (by decide) (by decide) (Int.self_le_toNat _))
set_option maxHeartbeats 4000000 in
set_option maxRecDepth 100000 in
theorem bX10_image_181 (E : mp_E) (a0 a1 a2 a3 a4 a5 a6 a7 a8 a9 a10 a11 a12 a13 a14 a15 a16 a17 a18 a19 a20 a21 a22 a23 a24 a25 : Nat) (f0 : Nat → Int32) (f1 : Nat → Int32) (f2 : Nat → Int32) (f3 : Nat → Int32) (f4 : Nat → Int32) (f5 : Nat → Int32) (f6 : Nat → Int32) (f7 : Nat → Int32) (y0 : Int32) (y1 : Int32) (y2 : Int32) (y3 : Int32) (y4 : Int32) (y5 : Int32) (y6 : Int64) (y7 : Int32) (y8 : Int32) (y9 : Int32) (y10 : Int32) (y11 : Int32) (y12 : Int32) (y13 : Int32) (y14 : Int32) (y15 : Int32) (y16 : Int32) (y17 : Int32) (y18 : Int32) (y19 : Int32) (y20 : Int32) (y21 : Int32) (x0 : Int32) (p0 : mp_res f1 25 5 0 0 6) (p1 : mp_res f1 25 5 1 0 99) (p2 : mp_res f1 25 5 2 0 6) (p3 : mp_res f1 25 5 3 0 10) (p4 : mp_res f1 25 5 4 0 60) (p5 : mp_all f2 180 0 20) (p6 : mp_all f3 3000 0 1) (p7 : mp_res f4 90 3 0 0 5) (p8 : mp_res f4 90 3 1 (-1) 99) (p9 : mp_res f5 300 6 0 0 5) (p10 : mp_res f5 300 6 1 0 5) (p11 : mp_res f5 300 6 3 0 99) (p12 : mp_res f5 300 6 4 0 1) (p13 : mp_actm f6) (l_y1 : 0 ≤ y1.toInt) (u_y1 : y1.toInt ≤ 1600) (l_y2 : 0 ≤ y2.toInt) (u_y2 : y2.toInt ≤ 1600) (l_y3 : 0 ≤ y3.toInt) (u_y3 : y3.toInt ≤ 4) (l_y4 : 0 ≤ y4.toInt) (u_y4 : y4.toInt ≤ 1600) (l_y11 : 0 ≤ y11.toInt) (u_y11 : y11.toInt ≤ 99) (l_y12 : 0 ≤ y12.toInt) (u_y12 : y12.toInt ≤ 5) (l_y13 : 0 ≤ y13.toInt) (u_y13 : y13.toInt ≤ 12) : mp_Ct E yX10_image cX10_image 2 (some FieldType.int) 2 0 0 47 [.ref a0, .int x0] [(mp_ob10 a0 y0 a9 a10 a11 a12 a13 y1 y2 y3 y4 y5 y6 y7 y8 y9 y10 a1 a2 a3 a4 a5 a6 a7 a8 y11 a14 a15 a16 a17 y12 y13 y14 a18 a19 y15 y16 a20 a21 a22 y17 y18 y19 y20 a23 a24 a25 y21), (mp_arI E a1 0 5 f0), (mp_arI E a2 0 25 f1), (mp_arI E a3 0 180 f2), (mp_arI E a4 3 3000 f3), (mp_arI E a5 0 90 f4), (mp_arI E a6 0 300 f5), (mp_arI E a7 0 300 f6), (mp_arI E a8 3 3 f7)] (fun v w' => (v = some (.int (-2)) ∧ (x0.toInt < 0 ∨ 2 < x0.toInt) ∧ w' = [(mp_ob10 a0 0 a9 a10 a11 a12 a13 y1 y2 y3 y4 y5 y6 y7 y8 y9 y10 a1 a2 a3 a4 a5 a6 a7 a8 y11 a14 a15 a16 a17 y12 y13 y14 a18 a19 y15 y16 a20 a21 a22 y17 y18 y19 y20 a23 a24 a25 y21), (mp_arI E a1 0 5 f0), (mp_arI E a2 0 25 f1), (mp_arI E a3 0 180 f2), (mp_arI E a4 3 3000 f3), (mp_arI E a5 0 90 f4), (mp_arI E a6 0 300 f5), (mp_arI E a7 0 300 f6), (mp_arI E a8 3 3 f7)]) ∨ (∃ h1 : Nat → Int32, ∃ h2 : Nat → Int32, ∃ h3 : Nat → Int32, ∃ h4 : Nat → Int32, ∃ h5 : Nat → Int32, ∃ h6 : Nat → Int32, ∃ h7 : Nat → Int32, ∃ h8 : Nat → Int32, v = some (.int 0) ∧ 0 ≤ x0.toInt ∧ x0.toInt ≤ 2 ∧ mp_res h2 25 5 0 0 6 ∧ mp_res h2 25 5 1 0 99 ∧ mp_res h2 25 5 2 0 6 ∧ mp_res h2 25 5 3 0 10 ∧ mp_res h2 25 5 4 0 60 ∧ mp_all h3 180 0 20 ∧ mp_all h4 3000 0 1 ∧ mp_res h5 90 3 0 0 5 ∧ mp_res h5 90 3 1 (-1) 99 ∧ mp_res h6 300 6 0 0 5 ∧ mp_res h6 300 6 1 0 5 ∧ mp_res h6 300 6 3 0 99 ∧ mp_res h6 300 6 4 0 1 ∧ mp_actm h7 ∧ (h2 = mp_cpr f1 0 (5 * (1 + x0.toInt.toNat)) 5) ∧ (h6 = mp_cpr f5 0 (60 * (1 + x0.toInt.toNat)) 60) ∧ (h7 = mp_cpr f6 0 (60 * (1 + x0.toInt.toNat)) 60) ∧ (mp_C7 0 (1 + x0.toInt.toNat) (f0, f1, f2, f3, f4, f5, f6) (h1, h2, h3, h4, h5, h6, h7)) ∧ (0 ≤ x0.toInt ∧ x0.toInt ≤ 2) ∧ (∀ j : Nat, j < 3 → (h8 j).toInt = if (j : Int) = x0.toInt then 1 else (f7 j).toInt) ∧ w' = [(mp_ob10 a0 0 a9 a10 a11 a12 a13 y1 y2 y3 y4 y5 y6 y7 y8 y9 y10 a1 a2 a3 a4 a5 a6 a7 a8 y11 a14 a15 a16 a17 y12 y13 y14 a18 a19 y15 y16 a20 a21 a22 y17 y18 y19 y20 a23 a24 a25 y21), (mp_arI E a1 0 5 h1), (mp_arI E a2 0 25 h2), (mp_arI E a3 0 180 h3), (mp_arI E a4 3 3000 h4), (mp_arI E a5 0 90 h5), (mp_arI E a6 0 300 h6), (mp_arI E a7 0 300 h7), (mp_arI E a8 3 3 h8)])) := by
  refine mp_met false (by decide) (by decide) (Nat.le_of_ble_eq_true rfl) (fun X hF hQ => ?_)
  have hF : mp_F E X (RX10, cX10_image, 2, (2, 0, 0, 47), (some FieldType.int), false) := hF
  let w1_ : va_W := [(mp_ob10 a0 y0 a9 a10 a11 a12 a13 y1 y2 y3 y4 y5 y6 y7 y8 y9 y10 a1 a2 a3 a4 a5 a6 a7 a8 y11 a14 a15 a16 a17 y12 y13 y14 a18 a19 y15 y16 a20 a21 a22 y17 y18 y19 y20 a23 a24 a25 y21), (mp_arI E a1 0 5 f0), (mp_arI E a2 0 25 f1), (mp_arI E a3 0 180 f2), (mp_arI E a4 3 3000 f3), (mp_arI E a5 0 90 f4), (mp_arI E a6 0 300 f5), (mp_arI E a7 0 300 f6), (mp_arI E a8 3 3 f7)]
  show mp_W E X 2 0 [(0, .ref a0), (1, .int x0)] [] w1_ 0 0
  refine mp_run mp_k_cX10_image_ok hF mp_tabX10_ok [mp_i (.aload_n 0), mp_c (.iconst 0) 0, mp_h (.putfield 92) [0, 0]] (by decide +kernel) ?_
  refine And.intro rfl (And.intro rfl (And.intro rfl (And.intro rfl (And.intro (Nat.le_of_ble_eq_true rfl) ?_))))
  let w2_ : va_W := [(mp_ob10 a0 0 a9 a10 a11 a12 a13 y1 y2 y3 y4 y5 y6 y7 y8 y9 y10 a1 a2 a3 a4 a5 a6 a7 a8 y11 a14 a15 a16 a17 y12 y13 y14 a18 a19 y15 y16 a20 a21 a22 y17 y18 y19 y20 a23 a24 a25 y21), (mp_arI E a1 0 5 f0), (mp_arI E a2 0 25 f1), (mp_arI E a3 0 180 f2), (mp_arI E a4 3 3000 f3), (mp_arI E a5 0 90 f4), (mp_arI E a6 0 300 f5), (mp_arI E a7 0 300 f6), (mp_arI E a8 3 3 f7)]
  show mp_W E X 2 5 [(0, .ref a0), (1, .int x0)] [] w2_ 0 0
  refine mp_run mp_k_cX10_image_ok hF mp_tabX10_ok [mp_i (.iload_n 1), mp_i .i2l, mp_cl (.lconst 0) 0, mp_cl (.ldc2_w 260) 2] (by decide +kernel) ?_
  intro z_1 h_2
  have e_3 : z_1.toInt = x0.toInt := mp_i2l h_2
  show mp_W E X 2 11 [(0, .ref a0), (1, .int x0)] [.long 2, .long 0, .long z_1] w2_ 0 0
  refine mp_callS hF (As := [.long z_1, .long 0, .long 2]) (rest := []) (wr := w2_) (bX10_in_0 E z_1 0 2) mp_lkX10_97 [] [0, 1, 2, 3, 4, 5, 6, 7, 8] rfl rfl rfl rfl rfl ⟨(Nat.le_of_ble_eq_true rfl), (Nat.le_of_ble_eq_true rfl), (Nat.le_of_ble_eq_true rfl), (Nat.le_of_ble_eq_true rfl)⟩ (Nat.le_of_ble_eq_true rfl) (by first | exact mp_fd_ok mp_k_cX10_image_ok (by decide +kernel) | decide +kernel) (fun v_4 w_5 h_6 => ?_)
  rcases h_6 with ⟨rfl, x_7, rfl⟩ | ⟨rfl, c_8, c_9, rfl⟩
  · skip
    have i_10 : (0 : Int64).toInt = 0 := by decide
    have i_11 : (2 : Int64).toInt = 2 := by decide
    show mp_W E X 2 14 [(0, .ref a0), (1, .int x0)] [.int 0] w2_ 0 0
    refine mp_run mp_k_cX10_image_ok hF mp_tabX10_ok [mp_h (.ifCond .ne 6) [20]] (by decide +kernel) ?_
    refine And.intro (fun c_12 => absurd c_12 (by decide)) (fun _ => ?_)
    show mp_W E X 2 17 [(0, .ref a0), (1, .int x0)] [] w2_ 0 0
    refine mp_run mp_k_cX10_image_ok hF mp_tabX10_ok [mp_c (.bipush (-2)) (-2)] (by decide +kernel) ?_
    show mp_W E X 2 19 [(0, .ref a0), (1, .int x0)] [.int (-2)] w2_ 0 0
    exact mp_iret hF hQ rfl rfl (Nat.le_of_ble_eq_true rfl) (Nat.le_of_ble_eq_true rfl) [0, 1, 2, 3, 4, 5, 6, 7, 8] (w' := w2_) rfl rfl (Or.inl ⟨rfl, (by first | (first | exact mp_o2082 i_10 i_11 e_3 x_7 | omega) | decide | (have h8 : (0 : Int64).toInt = 0 := rfl; have h9 : (2 : Int64).toInt = 2 := rfl; have h10 : (0 : Int32).toInt = 0 := rfl; have h11 : (1 : Int32).toInt = 1 := rfl; have h12 : (2 : Int32).toInt = 2 := rfl; omega)), rfl⟩) (by first | exact mp_fd_ok mp_k_cX10_image_ok (by decide +kernel) | decide +kernel)
  · skip
    have c_8 : 0 ≤ z_1.toInt := c_8
    have c_9 : z_1.toInt ≤ 2 := c_9
    have i_13 : (0 : Int64).toInt = 0 := by decide
    have i_14 : (2 : Int64).toInt = 2 := by decide
    show mp_W E X 2 14 [(0, .ref a0), (1, .int x0)] [.int 1] w2_ 0 0
    refine mp_run mp_k_cX10_image_ok hF mp_tabX10_ok [mp_h (.ifCond .ne 6) [20]] (by decide +kernel) ?_
    refine And.intro (fun _ => ?_) (fun c_15 => absurd c_15 (by decide))
    show mp_W E X 2 20 [(0, .ref a0), (1, .int x0)] [] w2_ 0 0
    rcases (show x0.toInt = 0 ∨ x0.toInt = 1 ∨ x0.toInt = 2 by (first | exact mp_o2083 c_8 e_3 c_9 | omega)) with c_16 | c_16 | c_16
    · obtain rfl : x0 = 0 := Int32.toInt_inj.mp (c_16.trans (by decide))
      show mp_W E X 2 20 [(0, .ref a0), (1, .int 0)] [] w2_ 0 0
      refine mp_run mp_k_cX10_image_ok hF mp_tabX10_ok [mp_i (.aload_n 0), mp_c (.iconst 0) 0, mp_c (.iconst 1) 1, mp_i (.iload_n 1), mp_i .iadd] (by decide +kernel) ?_
      intro z_17 h_18
      obtain rfl : z_17 = 1 := h_18.trans (by decide)
      show mp_W E X 2 25 [(0, .ref a0), (1, .int 0)] [.int 1, .int 0, .ref a0] w2_ 0 0
      refine mp_callV hF (As := [.int 0, .int 1]) (rest := []) (wr := [(mp_arI E a8 3 3 f7)]) (bX10_copyIsles_166 E a0 a1 a2 a3 a4 a5 a6 a7 a9 a10 a11 a12 a13 a8 a14 a15 a16 a17 a18 a19 a20 a21 a22 a23 a24 a25 f0 f1 f2 f3 f4 f5 f6 0 y1 y2 y3 y4 y5 y6 y7 y8 y9 y10 y11 y12 y13 y14 y15 y16 y17 y18 y19 y20 y21 p0 p1 p2 p3 p4 p5 p6 p7 p8 p9 p10 p11 p12 p13 l_y1 u_y1 l_y2 u_y2 l_y3 u_y3 l_y4 u_y4 l_y11 u_y11 l_y12 u_y12 l_y13 u_y13) mp_lkX10_247 0 rfl [0, 1, 2, 3, 4, 5, 6, 7] [8] rfl rfl rfl rfl rfl ⟨(Nat.le_of_ble_eq_true rfl), (Nat.le_of_ble_eq_true rfl), (Nat.le_of_ble_eq_true rfl), (Nat.le_of_ble_eq_true rfl)⟩ (Nat.le_of_ble_eq_true rfl) (by first | exact mp_fd_ok mp_k_cX10_image_ok (by decide +kernel) | decide +kernel) (fun v_19 w_20 h_21 => ?_)
      refine h_21.elim fun g_22 q_50 => q_50.elim fun g_23 q_51 => q_51.elim fun g_24 q_52 => q_52.elim fun g_25 q_53 => q_53.elim fun g_26 q_54 => q_54.elim fun g_27 q_55 => q_55.elim fun g_28 q_56 => q_56.elim fun e_57 q_58 => q_58.elim fun p_29 q_59 => q_59.elim fun p_30 q_60 => q_60.elim fun p_31 q_61 => q_61.elim fun p_32 q_62 => q_62.elim fun p_33 q_63 => q_63.elim fun p_34 q_64 => q_64.elim fun p_35 q_65 => q_65.elim fun p_36 q_66 => q_66.elim fun p_37 q_67 => q_67.elim fun p_38 q_68 => q_68.elim fun p_39 q_69 => q_69.elim fun p_40 q_70 => q_70.elim fun p_41 q_71 => q_71.elim fun p_42 q_72 => q_72.elim fun x_43 q_73 => q_73.elim fun x_44 q_74 => q_74.elim fun x_45 q_75 => q_75.elim fun x_46 q_76 => q_76.elim fun x_47 q_77 => q_77.elim fun x_48 q_78 => q_78.elim fun x_49 e_79 => ?_
      clear h_21 q_50 q_51 q_52 q_53 q_54 q_55 q_56 q_58 q_59 q_60 q_61 q_62 q_63 q_64 q_65 q_66 q_67 q_68 q_69 q_70 q_71 q_72 q_73 q_74 q_75 q_76 q_77 q_78
      subst e_57
      subst e_79
      let w3_ : va_W := [(mp_arI E a8 3 3 f7), (mp_ob10 a0 0 a9 a10 a11 a12 a13 y1 y2 y3 y4 y5 y6 y7 y8 y9 y10 a1 a2 a3 a4 a5 a6 a7 a8 y11 a14 a15 a16 a17 y12 y13 y14 a18 a19 y15 y16 a20 a21 a22 y17 y18 y19 y20 a23 a24 a25 y21), (mp_arI E a1 0 5 g_22), (mp_arI E a2 0 25 g_23), (mp_arI E a3 0 180 g_24), (mp_arI E a4 3 3000 g_25), (mp_arI E a5 0 90 g_26), (mp_arI E a6 0 300 g_27), (mp_arI E a7 0 300 g_28)]
      show mp_W E X 2 28 [(0, .ref a0), (1, .int 0)] [] w3_ 0 0
      refine mp_run mp_k_cX10_image_ok hF mp_tabX10_ok [mp_i (.aload_n 0), mp_h (.getfield 53) [23, 1], mp_i (.iload_n 1), mp_c (.iconst 1) 1, mp_h .bastore [0, 0]] (by decide +kernel) ?_
      refine And.intro rfl (And.intro rfl ?_)
      refine And.intro rfl (And.intro rfl (And.intro (vp_in_iff.mpr (by decide)) ?_))
      intro g_80 h_81
      have h_82 : g_80 = upd f7 (0 : Int32).toNatClampNeg 1 := h_81.trans (congrArg (upd _ _) (by decide))
      let w4_ : va_W := [(mp_arI E a8 3 3 g_80), (mp_ob10 a0 0 a9 a10 a11 a12 a13 y1 y2 y3 y4 y5 y6 y7 y8 y9 y10 a1 a2 a3 a4 a5 a6 a7 a8 y11 a14 a15 a16 a17 y12 y13 y14 a18 a19 y15 y16 a20 a21 a22 y17 y18 y19 y20 a23 a24 a25 y21), (mp_arI E a1 0 5 g_22), (mp_arI E a2 0 25 g_23), (mp_arI E a3 0 180 g_24), (mp_arI E a4 3 3000 g_25), (mp_arI E a5 0 90 g_26), (mp_arI E a6 0 300 g_27), (mp_arI E a7 0 300 g_28)]
      show mp_W E X 2 35 [(0, .ref a0), (1, .int 0)] [] w4_ 0 0
      refine mp_run mp_k_cX10_image_ok hF mp_tabX10_ok [mp_c (.iconst 0) 0] (by decide +kernel) ?_
      show mp_W E X 2 36 [(0, .ref a0), (1, .int 0)] [.int 0] w4_ 0 0
      exact mp_iret hF hQ rfl rfl (Nat.le_of_ble_eq_true rfl) (Nat.le_of_ble_eq_true rfl) [1, 2, 3, 4, 5, 6, 7, 8, 0] (w' := [(mp_ob10 a0 0 a9 a10 a11 a12 a13 y1 y2 y3 y4 y5 y6 y7 y8 y9 y10 a1 a2 a3 a4 a5 a6 a7 a8 y11 a14 a15 a16 a17 y12 y13 y14 a18 a19 y15 y16 a20 a21 a22 y17 y18 y19 y20 a23 a24 a25 y21), (mp_arI E a1 0 5 g_22), (mp_arI E a2 0 25 g_23), (mp_arI E a3 0 180 g_24), (mp_arI E a4 3 3000 g_25), (mp_arI E a5 0 90 g_26), (mp_arI E a6 0 300 g_27), (mp_arI E a7 0 300 g_28), (mp_arI E a8 3 3 g_80)]) rfl rfl (Or.inr ⟨g_22, g_23, g_24, g_25, g_26, g_27, g_28, g_80, rfl, (by first | (first | exact mp_o1376 c_16 | omega) | decide), (by first | (first | exact mp_o2084 c_16 | omega) | decide), p_29, p_30, p_31, p_32, p_33, p_34, p_35, p_36, p_37, p_38, p_39, p_40, p_41, p_42, x_44, x_47, x_48, ⟨x_43, x_44, x_45, x_49, x_46, x_47, x_48⟩, (by first | (first | exact mp_o2085 c_16 | omega) | decide | (have h8 : (0 : Int64).toInt = 0 := rfl; have h9 : (2 : Int64).toInt = 2 := rfl; have h10 : (0 : Int32).toInt = 0 := rfl; have h11 : (1 : Int32).toInt = 1 := rfl; have h12 : (2 : Int32).toInt = 2 := rfl; omega)), (mp_kept_st (v := 1) (h_82.trans (congrArg (upd _ _) (show (1 : Int32) = vp_nar .boolean 1 by decide))) (by decide)), rfl⟩) (by first | exact mp_fd_ok mp_k_cX10_image_ok (by decide +kernel) | decide +kernel)
    · obtain rfl : x0 = 1 := Int32.toInt_inj.mp (c_16.trans (by decide))
      show mp_W E X 2 20 [(0, .ref a0), (1, .int 1)] [] w2_ 0 0
      refine mp_run mp_k_cX10_image_ok hF mp_tabX10_ok [mp_i (.aload_n 0), mp_c (.iconst 0) 0, mp_c (.iconst 1) 1, mp_i (.iload_n 1), mp_i .iadd] (by decide +kernel) ?_
      intro z_83 h_84
      obtain rfl : z_83 = 2 := h_84.trans (by decide)
      show mp_W E X 2 25 [(0, .ref a0), (1, .int 1)] [.int 2, .int 0, .ref a0] w2_ 0 0
      refine mp_callV hF (As := [.int 0, .int 2]) (rest := []) (wr := [(mp_arI E a8 3 3 f7)]) (bX10_copyIsles_173 E a0 a1 a2 a3 a4 a5 a6 a7 a9 a10 a11 a12 a13 a8 a14 a15 a16 a17 a18 a19 a20 a21 a22 a23 a24 a25 f0 f1 f2 f3 f4 f5 f6 0 y1 y2 y3 y4 y5 y6 y7 y8 y9 y10 y11 y12 y13 y14 y15 y16 y17 y18 y19 y20 y21 p0 p1 p2 p3 p4 p5 p6 p7 p8 p9 p10 p11 p12 p13 l_y1 u_y1 l_y2 u_y2 l_y3 u_y3 l_y4 u_y4 l_y11 u_y11 l_y12 u_y12 l_y13 u_y13) mp_lkX10_247 0 rfl [0, 1, 2, 3, 4, 5, 6, 7] [8] rfl rfl rfl rfl rfl ⟨(Nat.le_of_ble_eq_true rfl), (Nat.le_of_ble_eq_true rfl), (Nat.le_of_ble_eq_true rfl), (Nat.le_of_ble_eq_true rfl)⟩ (Nat.le_of_ble_eq_true rfl) (by first | exact mp_fd_ok mp_k_cX10_image_ok (by decide +kernel) | decide +kernel) (fun v_85 w_86 h_87 => ?_)
      refine h_87.elim fun g_88 q_116 => q_116.elim fun g_89 q_117 => q_117.elim fun g_90 q_118 => q_118.elim fun g_91 q_119 => q_119.elim fun g_92 q_120 => q_120.elim fun g_93 q_121 => q_121.elim fun g_94 q_122 => q_122.elim fun e_123 q_124 => q_124.elim fun p_95 q_125 => q_125.elim fun p_96 q_126 => q_126.elim fun p_97 q_127 => q_127.elim fun p_98 q_128 => q_128.elim fun p_99 q_129 => q_129.elim fun p_100 q_130 => q_130.elim fun p_101 q_131 => q_131.elim fun p_102 q_132 => q_132.elim fun p_103 q_133 => q_133.elim fun p_104 q_134 => q_134.elim fun p_105 q_135 => q_135.elim fun p_106 q_136 => q_136.elim fun p_107 q_137 => q_137.elim fun p_108 q_138 => q_138.elim fun x_109 q_139 => q_139.elim fun x_110 q_140 => q_140.elim fun x_111 q_141 => q_141.elim fun x_112 q_142 => q_142.elim fun x_113 q_143 => q_143.elim fun x_114 q_144 => q_144.elim fun x_115 e_145 => ?_
      clear h_87 q_116 q_117 q_118 q_119 q_120 q_121 q_122 q_124 q_125 q_126 q_127 q_128 q_129 q_130 q_131 q_132 q_133 q_134 q_135 q_136 q_137 q_138 q_139 q_140 q_141 q_142 q_143 q_144
      subst e_123
      subst e_145
      let w5_ : va_W := [(mp_arI E a8 3 3 f7), (mp_ob10 a0 0 a9 a10 a11 a12 a13 y1 y2 y3 y4 y5 y6 y7 y8 y9 y10 a1 a2 a3 a4 a5 a6 a7 a8 y11 a14 a15 a16 a17 y12 y13 y14 a18 a19 y15 y16 a20 a21 a22 y17 y18 y19 y20 a23 a24 a25 y21), (mp_arI E a1 0 5 g_88), (mp_arI E a2 0 25 g_89), (mp_arI E a3 0 180 g_90), (mp_arI E a4 3 3000 g_91), (mp_arI E a5 0 90 g_92), (mp_arI E a6 0 300 g_93), (mp_arI E a7 0 300 g_94)]
      show mp_W E X 2 28 [(0, .ref a0), (1, .int 1)] [] w5_ 0 0
      refine mp_run mp_k_cX10_image_ok hF mp_tabX10_ok [mp_i (.aload_n 0), mp_h (.getfield 53) [23, 1], mp_i (.iload_n 1), mp_c (.iconst 1) 1, mp_h .bastore [0, 0]] (by decide +kernel) ?_
      refine And.intro rfl (And.intro rfl ?_)
      refine And.intro rfl (And.intro rfl (And.intro (vp_in_iff.mpr (by decide)) ?_))
      intro g_146 h_147
      have h_148 : g_146 = upd f7 (1 : Int32).toNatClampNeg 1 := h_147.trans (congrArg (upd _ _) (by decide))
      let w6_ : va_W := [(mp_arI E a8 3 3 g_146), (mp_ob10 a0 0 a9 a10 a11 a12 a13 y1 y2 y3 y4 y5 y6 y7 y8 y9 y10 a1 a2 a3 a4 a5 a6 a7 a8 y11 a14 a15 a16 a17 y12 y13 y14 a18 a19 y15 y16 a20 a21 a22 y17 y18 y19 y20 a23 a24 a25 y21), (mp_arI E a1 0 5 g_88), (mp_arI E a2 0 25 g_89), (mp_arI E a3 0 180 g_90), (mp_arI E a4 3 3000 g_91), (mp_arI E a5 0 90 g_92), (mp_arI E a6 0 300 g_93), (mp_arI E a7 0 300 g_94)]
      show mp_W E X 2 35 [(0, .ref a0), (1, .int 1)] [] w6_ 0 0
      refine mp_run mp_k_cX10_image_ok hF mp_tabX10_ok [mp_c (.iconst 0) 0] (by decide +kernel) ?_
      show mp_W E X 2 36 [(0, .ref a0), (1, .int 1)] [.int 0] w6_ 0 0
      exact mp_iret hF hQ rfl rfl (Nat.le_of_ble_eq_true rfl) (Nat.le_of_ble_eq_true rfl) [1, 2, 3, 4, 5, 6, 7, 8, 0] (w' := [(mp_ob10 a0 0 a9 a10 a11 a12 a13 y1 y2 y3 y4 y5 y6 y7 y8 y9 y10 a1 a2 a3 a4 a5 a6 a7 a8 y11 a14 a15 a16 a17 y12 y13 y14 a18 a19 y15 y16 a20 a21 a22 y17 y18 y19 y20 a23 a24 a25 y21), (mp_arI E a1 0 5 g_88), (mp_arI E a2 0 25 g_89), (mp_arI E a3 0 180 g_90), (mp_arI E a4 3 3000 g_91), (mp_arI E a5 0 90 g_92), (mp_arI E a6 0 300 g_93), (mp_arI E a7 0 300 g_94), (mp_arI E a8 3 3 g_146)]) rfl rfl (Or.inr ⟨g_88, g_89, g_90, g_91, g_92, g_93, g_94, g_146, rfl, (by first | (first | exact mp_o209 c_16 | omega) | decide), (by first | (first | exact mp_o2086 c_16 | omega) | decide), p_95, p_96, p_97, p_98, p_99, p_100, p_101, p_102, p_103, p_104, p_105, p_106, p_107, p_108, x_110, x_113, x_114, ⟨x_109, x_110, x_111, x_115, x_112, x_113, x_114⟩, (by first | (first | exact mp_o2087 c_16 | omega) | decide | (have h8 : (0 : Int64).toInt = 0 := rfl; have h9 : (2 : Int64).toInt = 2 := rfl; have h10 : (0 : Int32).toInt = 0 := rfl; have h11 : (1 : Int32).toInt = 1 := rfl; have h12 : (2 : Int32).toInt = 2 := rfl; omega)), (mp_kept_st (v := 1) (h_148.trans (congrArg (upd _ _) (show (1 : Int32) = vp_nar .boolean 1 by decide))) (by decide)), rfl⟩) (by first | exact mp_fd_ok mp_k_cX10_image_ok (by decide +kernel) | decide +kernel)
    · obtain rfl : x0 = 2 := Int32.toInt_inj.mp (c_16.trans (by decide))
      show mp_W E X 2 20 [(0, .ref a0), (1, .int 2)] [] w2_ 0 0
      refine mp_run mp_k_cX10_image_ok hF mp_tabX10_ok [mp_i (.aload_n 0), mp_c (.iconst 0) 0, mp_c (.iconst 1) 1, mp_i (.iload_n 1), mp_i .iadd] (by decide +kernel) ?_
      intro z_149 h_150
      obtain rfl : z_149 = 3 := h_150.trans (by decide)
      show mp_W E X 2 25 [(0, .ref a0), (1, .int 2)] [.int 3, .int 0, .ref a0] w2_ 0 0
      refine mp_callV hF (As := [.int 0, .int 3]) (rest := []) (wr := [(mp_arI E a8 3 3 f7)]) (bX10_copyIsles_180 E a0 a1 a2 a3 a4 a5 a6 a7 a9 a10 a11 a12 a13 a8 a14 a15 a16 a17 a18 a19 a20 a21 a22 a23 a24 a25 f0 f1 f2 f3 f4 f5 f6 0 y1 y2 y3 y4 y5 y6 y7 y8 y9 y10 y11 y12 y13 y14 y15 y16 y17 y18 y19 y20 y21 p0 p1 p2 p3 p4 p5 p6 p7 p8 p9 p10 p11 p12 p13 l_y1 u_y1 l_y2 u_y2 l_y3 u_y3 l_y4 u_y4 l_y11 u_y11 l_y12 u_y12 l_y13 u_y13) mp_lkX10_247 0 rfl [0, 1, 2, 3, 4, 5, 6, 7] [8] rfl rfl rfl rfl rfl ⟨(Nat.le_of_ble_eq_true rfl), (Nat.le_of_ble_eq_true rfl), (Nat.le_of_ble_eq_true rfl), (Nat.le_of_ble_eq_true rfl)⟩ (Nat.le_of_ble_eq_true rfl) (by first | exact mp_fd_ok mp_k_cX10_image_ok (by decide +kernel) | decide +kernel) (fun v_151 w_152 h_153 => ?_)
      refine h_153.elim fun g_154 q_182 => q_182.elim fun g_155 q_183 => q_183.elim fun g_156 q_184 => q_184.elim fun g_157 q_185 => q_185.elim fun g_158 q_186 => q_186.elim fun g_159 q_187 => q_187.elim fun g_160 q_188 => q_188.elim fun e_189 q_190 => q_190.elim fun p_161 q_191 => q_191.elim fun p_162 q_192 => q_192.elim fun p_163 q_193 => q_193.elim fun p_164 q_194 => q_194.elim fun p_165 q_195 => q_195.elim fun p_166 q_196 => q_196.elim fun p_167 q_197 => q_197.elim fun p_168 q_198 => q_198.elim fun p_169 q_199 => q_199.elim fun p_170 q_200 => q_200.elim fun p_171 q_201 => q_201.elim fun p_172 q_202 => q_202.elim fun p_173 q_203 => q_203.elim fun p_174 q_204 => q_204.elim fun x_175 q_205 => q_205.elim fun x_176 q_206 => q_206.elim fun x_177 q_207 => q_207.elim fun x_178 q_208 => q_208.elim fun x_179 q_209 => q_209.elim fun x_180 q_210 => q_210.elim fun x_181 e_211 => ?_
      clear h_153 q_182 q_183 q_184 q_185 q_186 q_187 q_188 q_190 q_191 q_192 q_193 q_194 q_195 q_196 q_197 q_198 q_199 q_200 q_201 q_202 q_203 q_204 q_205 q_206 q_207 q_208 q_209 q_210
      subst e_189
      subst e_211
      let w7_ : va_W := [(mp_arI E a8 3 3 f7), (mp_ob10 a0 0 a9 a10 a11 a12 a13 y1 y2 y3 y4 y5 y6 y7 y8 y9 y10 a1 a2 a3 a4 a5 a6 a7 a8 y11 a14 a15 a16 a17 y12 y13 y14 a18 a19 y15 y16 a20 a21 a22 y17 y18 y19 y20 a23 a24 a25 y21), (mp_arI E a1 0 5 g_154), (mp_arI E a2 0 25 g_155), (mp_arI E a3 0 180 g_156), (mp_arI E a4 3 3000 g_157), (mp_arI E a5 0 90 g_158), (mp_arI E a6 0 300 g_159), (mp_arI E a7 0 300 g_160)]
      show mp_W E X 2 28 [(0, .ref a0), (1, .int 2)] [] w7_ 0 0
      refine mp_run mp_k_cX10_image_ok hF mp_tabX10_ok [mp_i (.aload_n 0), mp_h (.getfield 53) [23, 1], mp_i (.iload_n 1), mp_c (.iconst 1) 1, mp_h .bastore [0, 0]] (by decide +kernel) ?_
      refine And.intro rfl (And.intro rfl ?_)
      refine And.intro rfl (And.intro rfl (And.intro (vp_in_iff.mpr (by decide)) ?_))
      intro g_212 h_213
      have h_214 : g_212 = upd f7 (2 : Int32).toNatClampNeg 1 := h_213.trans (congrArg (upd _ _) (by decide))
      let w8_ : va_W := [(mp_arI E a8 3 3 g_212), (mp_ob10 a0 0 a9 a10 a11 a12 a13 y1 y2 y3 y4 y5 y6 y7 y8 y9 y10 a1 a2 a3 a4 a5 a6 a7 a8 y11 a14 a15 a16 a17 y12 y13 y14 a18 a19 y15 y16 a20 a21 a22 y17 y18 y19 y20 a23 a24 a25 y21), (mp_arI E a1 0 5 g_154), (mp_arI E a2 0 25 g_155), (mp_arI E a3 0 180 g_156), (mp_arI E a4 3 3000 g_157), (mp_arI E a5 0 90 g_158), (mp_arI E a6 0 300 g_159), (mp_arI E a7 0 300 g_160)]
      show mp_W E X 2 35 [(0, .ref a0), (1, .int 2)] [] w8_ 0 0
      refine mp_run mp_k_cX10_image_ok hF mp_tabX10_ok [mp_c (.iconst 0) 0] (by decide +kernel) ?_
      show mp_W E X 2 36 [(0, .ref a0), (1, .int 2)] [.int 0] w8_ 0 0
      exact mp_iret hF hQ rfl rfl (Nat.le_of_ble_eq_true rfl) (Nat.le_of_ble_eq_true rfl) [1, 2, 3, 4, 5, 6, 7, 8, 0] (w' := [(mp_ob10 a0 0 a9 a10 a11 a12 a13 y1 y2 y3 y4 y5 y6 y7 y8 y9 y10 a1 a2 a3 a4 a5 a6 a7 a8 y11 a14 a15 a16 a17 y12 y13 y14 a18 a19 y15 y16 a20 a21 a22 y17 y18 y19 y20 a23 a24 a25 y21), (mp_arI E a1 0 5 g_154), (mp_arI E a2 0 25 g_155), (mp_arI E a3 0 180 g_156), (mp_arI E a4 3 3000 g_157), (mp_arI E a5 0 90 g_158), (mp_arI E a6 0 300 g_159), (mp_arI E a7 0 300 g_160), (mp_arI E a8 3 3 g_212)]) rfl rfl (Or.inr ⟨g_154, g_155, g_156, g_157, g_158, g_159, g_160, g_212, rfl, (by first | (first | exact mp_o2088 c_16 | omega) | decide), (by first | (first | exact mp_o2089 c_16 | omega) | decide), p_161, p_162, p_163, p_164, p_165, p_166, p_167, p_168, p_169, p_170, p_171, p_172, p_173, p_174, x_176, x_179, x_180, ⟨x_175, x_176, x_177, x_181, x_178, x_179, x_180⟩, (by first | (first | exact mp_o2090 c_16 | omega) | decide | (have h8 : (0 : Int64).toInt = 0 := rfl; have h9 : (2 : Int64).toInt = 2 := rfl; have h10 : (0 : Int32).toInt = 0 := rfl; have h11 : (1 : Int32).toInt = 1 := rfl; have h12 : (2 : Int32).toInt = 2 := rfl; omega)), (mp_kept_st (v := 1) (h_214.trans (congrArg (upd _ _) (show (1 : Int32) = vp_nar .boolean 1 by decide))) (by decide)), rfl⟩) (by first | exact mp_fd_ok mp_k_cX10_image_ok (by decide +kernel) | decide +kernel)
set_option maxHeartbeats 4000000 in
set_option maxRecDepth 100000 in
theorem bX10_copyRow_182 (E : mp_E) (a0 : Nat) (f0 : Nat → Int32) : mp_Ct E yX10_copyRow cX10_copyRow 5 none 0 0 0 0 [.ref a0, .int 1, .int 1, .int 0] [(mp_arI E a0 0 5 f0)] (fun v w' => ∃ h1 : Nat → Int32, v = none ∧ (h1 = mp_cpr f0 1 0 1) ∧ w' = [(mp_arI E a0 0 5 h1)]) := by
  refine mp_met false (by decide) (by decide) (Nat.le_of_ble_eq_true rfl) (fun X hF hQ => ?_)
  have hF : mp_F E X (RX10, cX10_copyRow, 5, (0, 0, 0, 0), none, false) := hF
  show mp_W E X 5 0 [(0, .ref a0), (1, .int 1), (2, .int 1), (3, .int 0)] [] [(mp_arI E a0 0 5 f0)] 0 0
  refine mp_run mp_k_cX10_copyRow_ok hF mp_tabX10_ok [mp_c (.iconst 0) 0, mp_i (.istore 4)] (by decide +kernel) ?_
  show mp_W E X 5 3 [(4, .int 0), (0, .ref a0), (1, .int 1), (2, .int 1), (3, .int 0)] [] [(mp_arI E a0 0 5 f0)] 0 0
  have lp_7 : ∀ (d_8 : Nat) (i_1 : Int32) (g_2 : Nat → Int32), 0 ≤ i_1.toInt → i_1.toInt ≤ 1 → (g_2 = mp_cpr f0 1 0 i_1.toInt.toNat) → (i_1.toInt ≤ 1) → -(i_1.toInt) + 1 ≤ (d_8 : Int) → mp_W E X 5 3 [(4, .int i_1), (0, .ref a0), (1, .int 1), (2, .int 1), (3, .int 0)] [] [(mp_arI E a0 0 5 g_2)] 0 0 := by
    intro d_8
    induction d_8 using Nat.strongRecOn with
    | ind d_8 ih_9 =>
      intro i_1 g_2 l_3 u_4 x_5 x_6 hm_10
      refine mp_run mp_k_cX10_copyRow_ok hF mp_tabX10_ok [mp_i (.iload 4), mp_i (.iload_n 1), mp_h (.if_icmp .ge 25) [31]] (by decide +kernel) ?_
      refine And.intro (fun c_11 => ?_) (fun c_11 => ?_)
      · have c_11 : 1 ≤ i_1.toInt := c_11
        show mp_W E X 5 31 [(4, .int i_1), (0, .ref a0), (1, .int 1), (2, .int 1), (3, .int 0)] [] [(mp_arI E a0 0 5 g_2)] 0 0
        exact mp_vret hF hQ rfl (Nat.le_of_ble_eq_true rfl) (Nat.le_of_ble_eq_true rfl) [0] (w' := [(mp_arI E a0 0 5 g_2)]) rfl rfl ⟨g_2, rfl, (by rw [show i_1.toInt.toNat = 1 by (first | exact mp_o1318 c_11 u_4 | omega)] at x_5; exact x_5), rfl⟩ (by first | exact mp_fd_ok mp_k_cX10_copyRow_ok (by decide +kernel) | decide +kernel)
      · have c_11 : i_1.toInt < 1 := c_11
        show mp_W E X 5 9 [(4, .int i_1), (0, .ref a0), (1, .int 1), (2, .int 1), (3, .int 0)] [] [(mp_arI E a0 0 5 g_2)] 0 0
        refine mp_run mp_k_cX10_copyRow_ok hF mp_tabX10_ok [mp_i (.aload_n 0), mp_i (.iload_n 1), mp_i (.iload_n 3), mp_i .imul, mp_i (.iload 4), mp_i .iadd, mp_i (.aload_n 0), mp_i (.iload_n 1), mp_i (.iload_n 2), mp_i .imul, mp_i (.iload 4), mp_i .iadd, mp_h .iaload [0], mp_h .iastore [0]] (by decide +kernel) ?_
        intro z_12 h_13
        obtain rfl : z_12 = 0 := h_13.trans (by decide)
        intro z_14 h_15
        have e_16 : z_14.toInt = 0 + i_1.toInt := mp_add (a := 0) (b := i_1.toInt) h_15 (by decide) rfl (by (first | exact mp_o1319 l_3 | omega)) (by (first | exact mp_o1320 c_11 | omega))
        intro z_17 h_18
        obtain rfl : z_17 = 1 := h_18.trans (by decide)
        intro z_19 h_20
        have e_21 : z_19.toInt = 1 + i_1.toInt := mp_add (a := 1) (b := i_1.toInt) h_20 (by decide) rfl (by (first | exact mp_o1932 l_3 | omega)) (by (first | exact mp_o1933 c_11 | omega))
        refine And.intro rfl (And.intro rfl (And.intro (vp_in_iff.mpr (by (first | exact mp_o1934 l_3 e_21 c_11 | omega))) ?_))
        intro z_22 h_23
        refine And.intro rfl (And.intro rfl (And.intro (vp_in_iff.mpr (by (first | exact mp_o1324 l_3 e_16 c_11 | omega))) ?_))
        intro g_24 h_25
        show mp_W E X 5 25 [(4, .int i_1), (0, .ref a0), (1, .int 1), (2, .int 1), (3, .int 0)] [] [(mp_arI E a0 0 5 g_24)] 0 0
        refine mp_run mp_k_cX10_copyRow_ok hF mp_tabX10_ok [mp_c (.iinc 4 1) 1, mp_h (.goto (-25)) [3]] (by decide +kernel) ?_
        intro z_26 h_27
        have e_28 : z_26.toInt = i_1.toInt + 1 := mp_add (a := i_1.toInt) (b := 1) h_27 rfl (by decide) (by (first | exact mp_o2 l_3 | omega)) (by (first | exact mp_o1325 c_11 | omega))
        show mp_W E X 5 3 [(4, .int z_26), (0, .ref a0), (1, .int 1), (2, .int 1), (3, .int 0)] [] [(mp_arI E a0 0 5 g_24)] 0 0
        exact mp_sub [0, 1, 2, 3, 4] rfl [0] rfl rfl (ih_9 (d_8 - 1) (by (first | exact mp_o1326 hm_10 c_11 | omega)) z_26 g_24 (by (first | exact mp_o51 l_3 e_28 | omega)) (by (first | exact mp_o1327 c_11 e_28 | omega)) (mp_cpr_st (m := 1) h_25 h_23 x_5 (by (first | exact mp_o1328 l_3 e_16 | omega)) (by (first | exact mp_o1935 l_3 e_21 | omega)) (by (first | exact mp_o2091 | omega)) (by (first | exact mp_o1331 c_11 | omega)) (by (first | exact mp_o772 l_3 e_28 | omega))) (by (first | exact mp_o1327 c_11 e_28 | omega)) (by (first | exact mp_o1332 l_3 e_28 | omega)))
  exact mp_sub [0, 1, 2, 3, 4] rfl [0] rfl rfl (lp_7 _ 0 f0 (by decide) (by decide) (mp_cpr_0 (by decide)) (by decide) (Int.self_le_toNat _))
set_option maxHeartbeats 4000000 in
set_option maxRecDepth 100000 in
theorem bX10_copyRow_183 (E : mp_E) (a0 : Nat) (f0 : Nat → Int32) (p0 : mp_res f0 25 5 0 0 6) (p1 : mp_res f0 25 5 1 0 99) (p2 : mp_res f0 25 5 2 0 6) (p3 : mp_res f0 25 5 3 0 10) (p4 : mp_res f0 25 5 4 0 60) : mp_Ct E yX10_copyRow cX10_copyRow 5 none 0 0 0 0 [.ref a0, .int 5, .int 1, .int 0] [(mp_arI E a0 0 25 f0)] (fun v w' => ∃ h1 : Nat → Int32, v = none ∧ mp_res h1 25 5 0 0 6 ∧ mp_res h1 25 5 1 0 99 ∧ mp_res h1 25 5 2 0 6 ∧ mp_res h1 25 5 3 0 10 ∧ mp_res h1 25 5 4 0 60 ∧ (h1 = mp_cpr f0 5 0 5) ∧ w' = [(mp_arI E a0 0 25 h1)]) := by
  refine mp_met false (by decide) (by decide) (Nat.le_of_ble_eq_true rfl) (fun X hF hQ => ?_)
  have hF : mp_F E X (RX10, cX10_copyRow, 5, (0, 0, 0, 0), none, false) := hF
  show mp_W E X 5 0 [(0, .ref a0), (1, .int 5), (2, .int 1), (3, .int 0)] [] [(mp_arI E a0 0 25 f0)] 0 0
  refine mp_run mp_k_cX10_copyRow_ok hF mp_tabX10_ok [mp_c (.iconst 0) 0, mp_i (.istore 4)] (by decide +kernel) ?_
  show mp_W E X 5 3 [(4, .int 0), (0, .ref a0), (1, .int 5), (2, .int 1), (3, .int 0)] [] [(mp_arI E a0 0 25 f0)] 0 0
  have lp_12 : ∀ (d_13 : Nat) (i_1 : Int32) (g_2 : Nat → Int32), 0 ≤ i_1.toInt → i_1.toInt ≤ 5 → mp_res g_2 25 5 0 0 6 → mp_res g_2 25 5 1 0 99 → mp_res g_2 25 5 2 0 6 → mp_res g_2 25 5 3 0 10 → mp_res g_2 25 5 4 0 60 → (g_2 = mp_cpr f0 5 0 i_1.toInt.toNat) → (i_1.toInt ≤ 5) → -(i_1.toInt) + 5 ≤ (d_13 : Int) → mp_W E X 5 3 [(4, .int i_1), (0, .ref a0), (1, .int 5), (2, .int 1), (3, .int 0)] [] [(mp_arI E a0 0 25 g_2)] 0 0 := by
    intro d_13
    induction d_13 using Nat.strongRecOn with
    | ind d_13 ih_14 =>
      intro i_1 g_2 l_3 u_4 p_5 p_6 p_7 p_8 p_9 x_10 x_11 hm_15
      refine mp_run mp_k_cX10_copyRow_ok hF mp_tabX10_ok [mp_i (.iload 4), mp_i (.iload_n 1), mp_h (.if_icmp .ge 25) [31]] (by decide +kernel) ?_
      refine And.intro (fun c_16 => ?_) (fun c_16 => ?_)
      · have c_16 : 5 ≤ i_1.toInt := c_16
        show mp_W E X 5 31 [(4, .int i_1), (0, .ref a0), (1, .int 5), (2, .int 1), (3, .int 0)] [] [(mp_arI E a0 0 25 g_2)] 0 0
        exact mp_vret hF hQ rfl (Nat.le_of_ble_eq_true rfl) (Nat.le_of_ble_eq_true rfl) [0] (w' := [(mp_arI E a0 0 25 g_2)]) rfl rfl ⟨g_2, rfl, p_5, p_6, p_7, p_8, p_9, (by rw [show i_1.toInt.toNat = 5 by (first | exact mp_o1333 c_16 u_4 | omega)] at x_10; exact x_10), rfl⟩ (by first | exact mp_fd_ok mp_k_cX10_copyRow_ok (by decide +kernel) | decide +kernel)
      · have c_16 : i_1.toInt < 5 := c_16
        show mp_W E X 5 9 [(4, .int i_1), (0, .ref a0), (1, .int 5), (2, .int 1), (3, .int 0)] [] [(mp_arI E a0 0 25 g_2)] 0 0
        refine mp_run mp_k_cX10_copyRow_ok hF mp_tabX10_ok [mp_i (.aload_n 0), mp_i (.iload_n 1), mp_i (.iload_n 3), mp_i .imul, mp_i (.iload 4), mp_i .iadd, mp_i (.aload_n 0), mp_i (.iload_n 1), mp_i (.iload_n 2), mp_i .imul, mp_i (.iload 4), mp_i .iadd, mp_h .iaload [0], mp_h .iastore [0]] (by decide +kernel) ?_
        intro z_17 h_18
        obtain rfl : z_17 = 0 := h_18.trans (by decide)
        intro z_19 h_20
        have e_21 : z_19.toInt = 0 + i_1.toInt := mp_add (a := 0) (b := i_1.toInt) h_20 (by decide) rfl (by (first | exact mp_o1319 l_3 | omega)) (by (first | exact mp_o1939 c_16 | omega))
        intro z_22 h_23
        obtain rfl : z_22 = 5 := h_23.trans (by decide)
        intro z_24 h_25
        have e_26 : z_24.toInt = 5 + i_1.toInt := mp_add (a := 5) (b := i_1.toInt) h_25 (by decide) rfl (by (first | exact mp_o1937 l_3 | omega)) (by (first | exact mp_o1938 c_16 | omega))
        refine And.intro rfl (And.intro rfl (And.intro (vp_in_iff.mpr (by (first | exact mp_o1942 l_3 e_26 c_16 | omega))) ?_))
        intro z_27 h_28
        have e_29 : z_24.toInt % 5 = 0 → 0 ≤ z_27.toInt ∧ z_27.toInt ≤ 6 := mp_res_ld h_28 p_5 (by (first | exact mp_o1943 l_3 e_26 | omega)) (by (first | exact mp_o2092 c_16 e_26 | omega))
        have e_30 : z_24.toInt % 5 = 1 → 0 ≤ z_27.toInt ∧ z_27.toInt ≤ 99 := mp_res_ld h_28 p_6 (by (first | exact mp_o1943 l_3 e_26 | omega)) (by (first | exact mp_o2092 c_16 e_26 | omega))
        have e_31 : z_24.toInt % 5 = 2 → 0 ≤ z_27.toInt ∧ z_27.toInt ≤ 6 := mp_res_ld h_28 p_7 (by (first | exact mp_o1943 l_3 e_26 | omega)) (by (first | exact mp_o2092 c_16 e_26 | omega))
        have e_32 : z_24.toInt % 5 = 3 → 0 ≤ z_27.toInt ∧ z_27.toInt ≤ 10 := mp_res_ld h_28 p_8 (by (first | exact mp_o1943 l_3 e_26 | omega)) (by (first | exact mp_o2092 c_16 e_26 | omega))
        have e_33 : z_24.toInt % 5 = 4 → 0 ≤ z_27.toInt ∧ z_27.toInt ≤ 60 := mp_res_ld h_28 p_9 (by (first | exact mp_o1943 l_3 e_26 | omega)) (by (first | exact mp_o2092 c_16 e_26 | omega))
        refine And.intro rfl (And.intro rfl (And.intro (vp_in_iff.mpr (by (first | exact mp_o1940 l_3 e_21 c_16 | omega))) ?_))
        intro g_34 h_35
        have p_36 : mp_res g_34 25 5 0 0 6 := mp_res_st h_35 p_5 (by (first | exact mp_o1341 l_3 e_21 | omega)) (by (first | exact mp_o2093 e_29 e_21 e_26 | omega))
        have p_37 : mp_res g_34 25 5 1 0 99 := mp_res_st h_35 p_6 (by (first | exact mp_o1341 l_3 e_21 | omega)) (by (first | exact mp_o2094 e_30 e_21 e_26 | omega))
        have p_38 : mp_res g_34 25 5 2 0 6 := mp_res_st h_35 p_7 (by (first | exact mp_o1341 l_3 e_21 | omega)) (by (first | exact mp_o2095 e_31 e_21 e_26 | omega))
        have p_39 : mp_res g_34 25 5 3 0 10 := mp_res_st h_35 p_8 (by (first | exact mp_o1341 l_3 e_21 | omega)) (by (first | exact mp_o2096 e_32 e_21 e_26 | omega))
        have p_40 : mp_res g_34 25 5 4 0 60 := mp_res_st h_35 p_9 (by (first | exact mp_o1341 l_3 e_21 | omega)) (by (first | exact mp_o2097 e_33 e_21 e_26 | omega))
        show mp_W E X 5 25 [(4, .int i_1), (0, .ref a0), (1, .int 5), (2, .int 1), (3, .int 0)] [] [(mp_arI E a0 0 25 g_34)] 0 0
        refine mp_run mp_k_cX10_copyRow_ok hF mp_tabX10_ok [mp_c (.iinc 4 1) 1, mp_h (.goto (-25)) [3]] (by decide +kernel) ?_
        intro z_41 h_42
        have e_43 : z_41.toInt = i_1.toInt + 1 := mp_add (a := i_1.toInt) (b := 1) h_42 rfl (by decide) (by (first | exact mp_o2 l_3 | omega)) (by (first | exact mp_o1949 c_16 | omega))
        show mp_W E X 5 3 [(4, .int z_41), (0, .ref a0), (1, .int 5), (2, .int 1), (3, .int 0)] [] [(mp_arI E a0 0 25 g_34)] 0 0
        exact mp_sub [0, 1, 2, 3, 4] rfl [0] rfl rfl (ih_14 (d_13 - 1) (by (first | exact mp_o1342 hm_15 c_16 | omega)) z_41 g_34 (by (first | exact mp_o51 l_3 e_43 | omega)) (by (first | exact mp_o1344 c_16 e_43 | omega)) p_36 p_37 p_38 p_39 p_40 (mp_cpr_st (m := 5) h_35 h_28 x_10 (by (first | exact mp_o1328 l_3 e_21 | omega)) (by (first | exact mp_o1950 l_3 e_26 | omega)) (by (first | exact mp_o2098 | omega)) (by (first | exact mp_o1952 c_16 | omega)) (by (first | exact mp_o772 l_3 e_43 | omega))) (by (first | exact mp_o1344 c_16 e_43 | omega)) (by (first | exact mp_o1953 hm_15 e_43 | omega)))
  exact mp_sub [0, 1, 2, 3, 4] rfl [0] rfl rfl (lp_12 _ 0 f0 (by decide) (by decide) p0 p1 p2 p3 p4 (mp_cpr_0 (by decide)) (by decide) (Int.self_le_toNat _))
set_option maxHeartbeats 4000000 in
set_option maxRecDepth 100000 in
theorem bX10_copyRow_184 (E : mp_E) (a0 : Nat) (f0 : Nat → Int32) (p0 : mp_all f0 180 0 20) : mp_Ct E yX10_copyRow cX10_copyRow 5 none 0 0 0 0 [.ref a0, .int 36, .int 1, .int 0] [(mp_arI E a0 0 180 f0)] (fun v w' => ∃ h1 : Nat → Int32, v = none ∧ mp_all h1 180 0 20 ∧ (h1 = mp_cpr f0 36 0 36) ∧ w' = [(mp_arI E a0 0 180 h1)]) := by
  refine mp_met false (by decide) (by decide) (Nat.le_of_ble_eq_true rfl) (fun X hF hQ => ?_)
  have hF : mp_F E X (RX10, cX10_copyRow, 5, (0, 0, 0, 0), none, false) := hF
  show mp_W E X 5 0 [(0, .ref a0), (1, .int 36), (2, .int 1), (3, .int 0)] [] [(mp_arI E a0 0 180 f0)] 0 0
  refine mp_run mp_k_cX10_copyRow_ok hF mp_tabX10_ok [mp_c (.iconst 0) 0, mp_i (.istore 4)] (by decide +kernel) ?_
  show mp_W E X 5 3 [(4, .int 0), (0, .ref a0), (1, .int 36), (2, .int 1), (3, .int 0)] [] [(mp_arI E a0 0 180 f0)] 0 0
  have lp_8 : ∀ (d_9 : Nat) (i_1 : Int32) (g_2 : Nat → Int32), 0 ≤ i_1.toInt → i_1.toInt ≤ 36 → mp_all g_2 180 0 20 → (g_2 = mp_cpr f0 36 0 i_1.toInt.toNat) → (i_1.toInt ≤ 36) → -(i_1.toInt) + 36 ≤ (d_9 : Int) → mp_W E X 5 3 [(4, .int i_1), (0, .ref a0), (1, .int 36), (2, .int 1), (3, .int 0)] [] [(mp_arI E a0 0 180 g_2)] 0 0 := by
    intro d_9
    induction d_9 using Nat.strongRecOn with
    | ind d_9 ih_10 =>
      intro i_1 g_2 l_3 u_4 p_5 x_6 x_7 hm_11
      refine mp_run mp_k_cX10_copyRow_ok hF mp_tabX10_ok [mp_i (.iload 4), mp_i (.iload_n 1), mp_h (.if_icmp .ge 25) [31]] (by decide +kernel) ?_
      refine And.intro (fun c_12 => ?_) (fun c_12 => ?_)
      · have c_12 : 36 ≤ i_1.toInt := c_12
        show mp_W E X 5 31 [(4, .int i_1), (0, .ref a0), (1, .int 36), (2, .int 1), (3, .int 0)] [] [(mp_arI E a0 0 180 g_2)] 0 0
        exact mp_vret hF hQ rfl (Nat.le_of_ble_eq_true rfl) (Nat.le_of_ble_eq_true rfl) [0] (w' := [(mp_arI E a0 0 180 g_2)]) rfl rfl ⟨g_2, rfl, p_5, (by rw [show i_1.toInt.toNat = 36 by (first | exact mp_o1345 c_12 u_4 | omega)] at x_6; exact x_6), rfl⟩ (by first | exact mp_fd_ok mp_k_cX10_copyRow_ok (by decide +kernel) | decide +kernel)
      · have c_12 : i_1.toInt < 36 := c_12
        show mp_W E X 5 9 [(4, .int i_1), (0, .ref a0), (1, .int 36), (2, .int 1), (3, .int 0)] [] [(mp_arI E a0 0 180 g_2)] 0 0
        refine mp_run mp_k_cX10_copyRow_ok hF mp_tabX10_ok [mp_i (.aload_n 0), mp_i (.iload_n 1), mp_i (.iload_n 3), mp_i .imul, mp_i (.iload 4), mp_i .iadd, mp_i (.aload_n 0), mp_i (.iload_n 1), mp_i (.iload_n 2), mp_i .imul, mp_i (.iload 4), mp_i .iadd, mp_h .iaload [0], mp_h .iastore [0]] (by decide +kernel) ?_
        intro z_13 h_14
        obtain rfl : z_13 = 0 := h_14.trans (by decide)
        intro z_15 h_16
        have e_17 : z_15.toInt = 0 + i_1.toInt := mp_add (a := 0) (b := i_1.toInt) h_16 (by decide) rfl (by (first | exact mp_o1319 l_3 | omega)) (by (first | exact mp_o1956 c_12 | omega))
        intro z_18 h_19
        obtain rfl : z_18 = 36 := h_19.trans (by decide)
        intro z_20 h_21
        have e_22 : z_20.toInt = 36 + i_1.toInt := mp_add (a := 36) (b := i_1.toInt) h_21 (by decide) rfl (by (first | exact mp_o1954 l_3 | omega)) (by (first | exact mp_o1955 c_12 | omega))
        refine And.intro rfl (And.intro rfl (And.intro (vp_in_iff.mpr (by (first | exact mp_o1958 l_3 e_22 c_12 | omega))) ?_))
        intro z_23 h_24
        have e_25 : 0 ≤ z_23.toInt ∧ z_23.toInt ≤ 20 := mp_all_ld h_24 p_5 (by (first | exact mp_o2019 l_3 e_22 | omega)) (by (first | exact mp_o2099 c_12 e_22 | omega))
        refine And.intro rfl (And.intro rfl (And.intro (vp_in_iff.mpr (by (first | exact mp_o1346 l_3 e_17 c_12 | omega))) ?_))
        intro g_26 h_27
        have p_28 : mp_all g_26 180 0 20 := mp_all_st h_27 p_5 e_25.1 e_25.2
        show mp_W E X 5 25 [(4, .int i_1), (0, .ref a0), (1, .int 36), (2, .int 1), (3, .int 0)] [] [(mp_arI E a0 0 180 g_26)] 0 0
        refine mp_run mp_k_cX10_copyRow_ok hF mp_tabX10_ok [mp_c (.iinc 4 1) 1, mp_h (.goto (-25)) [3]] (by decide +kernel) ?_
        intro z_29 h_30
        have e_31 : z_29.toInt = i_1.toInt + 1 := mp_add (a := i_1.toInt) (b := 1) h_30 rfl (by decide) (by (first | exact mp_o2 l_3 | omega)) (by (first | exact mp_o49 c_12 | omega))
        show mp_W E X 5 3 [(4, .int z_29), (0, .ref a0), (1, .int 36), (2, .int 1), (3, .int 0)] [] [(mp_arI E a0 0 180 g_26)] 0 0
        exact mp_sub [0, 1, 2, 3, 4] rfl [0] rfl rfl (ih_10 (d_9 - 1) (by (first | exact mp_o50 hm_11 c_12 | omega)) z_29 g_26 (by (first | exact mp_o51 l_3 e_31 | omega)) (by (first | exact mp_o52 c_12 e_31 | omega)) p_28 (mp_cpr_st (m := 36) h_27 h_24 x_6 (by (first | exact mp_o1328 l_3 e_17 | omega)) (by (first | exact mp_o1959 l_3 e_22 | omega)) (by (first | exact mp_o2100 | omega)) (by (first | exact mp_o1961 c_12 | omega)) (by (first | exact mp_o772 l_3 e_31 | omega))) (by (first | exact mp_o52 c_12 e_31 | omega)) (by (first | exact mp_o54 hm_11 e_31 | omega)))
  exact mp_sub [0, 1, 2, 3, 4] rfl [0] rfl rfl (lp_8 _ 0 f0 (by decide) (by decide) p0 (mp_cpr_0 (by decide)) (by decide) (Int.self_le_toNat _))
set_option maxHeartbeats 4000000 in
set_option maxRecDepth 100000 in
theorem bX10_copyRow_185 (E : mp_E) (a0 : Nat) (f0 : Nat → Int32) (p0 : mp_res f0 90 3 0 0 5) (p1 : mp_res f0 90 3 1 (-1) 99) : mp_Ct E yX10_copyRow cX10_copyRow 5 none 0 0 0 0 [.ref a0, .int 18, .int 1, .int 0] [(mp_arI E a0 0 90 f0)] (fun v w' => ∃ h1 : Nat → Int32, v = none ∧ mp_res h1 90 3 0 0 5 ∧ mp_res h1 90 3 1 (-1) 99 ∧ (h1 = mp_cpr f0 18 0 18) ∧ w' = [(mp_arI E a0 0 90 h1)]) := by
  refine mp_met false (by decide) (by decide) (Nat.le_of_ble_eq_true rfl) (fun X hF hQ => ?_)
  have hF : mp_F E X (RX10, cX10_copyRow, 5, (0, 0, 0, 0), none, false) := hF
  show mp_W E X 5 0 [(0, .ref a0), (1, .int 18), (2, .int 1), (3, .int 0)] [] [(mp_arI E a0 0 90 f0)] 0 0
  refine mp_run mp_k_cX10_copyRow_ok hF mp_tabX10_ok [mp_c (.iconst 0) 0, mp_i (.istore 4)] (by decide +kernel) ?_
  show mp_W E X 5 3 [(4, .int 0), (0, .ref a0), (1, .int 18), (2, .int 1), (3, .int 0)] [] [(mp_arI E a0 0 90 f0)] 0 0
  have lp_9 : ∀ (d_10 : Nat) (i_1 : Int32) (g_2 : Nat → Int32), 0 ≤ i_1.toInt → i_1.toInt ≤ 20 → mp_res g_2 90 3 0 0 5 → mp_res g_2 90 3 1 (-1) 99 → (g_2 = mp_cpr f0 18 0 i_1.toInt.toNat) → (i_1.toInt ≤ 18) → -(i_1.toInt) + 18 ≤ (d_10 : Int) → mp_W E X 5 3 [(4, .int i_1), (0, .ref a0), (1, .int 18), (2, .int 1), (3, .int 0)] [] [(mp_arI E a0 0 90 g_2)] 0 0 := by
    intro d_10
    induction d_10 using Nat.strongRecOn with
    | ind d_10 ih_11 =>
      intro i_1 g_2 l_3 u_4 p_5 p_6 x_7 x_8 hm_12
      refine mp_run mp_k_cX10_copyRow_ok hF mp_tabX10_ok [mp_i (.iload 4), mp_i (.iload_n 1), mp_h (.if_icmp .ge 25) [31]] (by decide +kernel) ?_
      refine And.intro (fun c_13 => ?_) (fun c_13 => ?_)
      · have c_13 : 18 ≤ i_1.toInt := c_13
        show mp_W E X 5 31 [(4, .int i_1), (0, .ref a0), (1, .int 18), (2, .int 1), (3, .int 0)] [] [(mp_arI E a0 0 90 g_2)] 0 0
        exact mp_vret hF hQ rfl (Nat.le_of_ble_eq_true rfl) (Nat.le_of_ble_eq_true rfl) [0] (w' := [(mp_arI E a0 0 90 g_2)]) rfl rfl ⟨g_2, rfl, p_5, p_6, (by rw [show i_1.toInt.toNat = 18 by (first | exact mp_o1348 c_13 x_8 | omega)] at x_7; exact x_7), rfl⟩ (by first | exact mp_fd_ok mp_k_cX10_copyRow_ok (by decide +kernel) | decide +kernel)
      · have c_13 : i_1.toInt < 18 := c_13
        show mp_W E X 5 9 [(4, .int i_1), (0, .ref a0), (1, .int 18), (2, .int 1), (3, .int 0)] [] [(mp_arI E a0 0 90 g_2)] 0 0
        refine mp_run mp_k_cX10_copyRow_ok hF mp_tabX10_ok [mp_i (.aload_n 0), mp_i (.iload_n 1), mp_i (.iload_n 3), mp_i .imul, mp_i (.iload 4), mp_i .iadd, mp_i (.aload_n 0), mp_i (.iload_n 1), mp_i (.iload_n 2), mp_i .imul, mp_i (.iload 4), mp_i .iadd, mp_h .iaload [0], mp_h .iastore [0]] (by decide +kernel) ?_
        intro z_14 h_15
        obtain rfl : z_14 = 0 := h_15.trans (by decide)
        intro z_16 h_17
        have e_18 : z_16.toInt = 0 + i_1.toInt := mp_add (a := 0) (b := i_1.toInt) h_17 (by decide) rfl (by (first | exact mp_o1319 l_3 | omega)) (by (first | exact mp_o1964 c_13 | omega))
        intro z_19 h_20
        obtain rfl : z_19 = 18 := h_20.trans (by decide)
        intro z_21 h_22
        have e_23 : z_21.toInt = 18 + i_1.toInt := mp_add (a := 18) (b := i_1.toInt) h_22 (by decide) rfl (by (first | exact mp_o1962 l_3 | omega)) (by (first | exact mp_o1963 c_13 | omega))
        refine And.intro rfl (And.intro rfl (And.intro (vp_in_iff.mpr (by (first | exact mp_o1966 l_3 e_23 c_13 | omega))) ?_))
        intro z_24 h_25
        have e_26 : z_21.toInt % 3 = 0 → 0 ≤ z_24.toInt ∧ z_24.toInt ≤ 5 := mp_res_ld h_25 p_5 (by (first | exact mp_o1967 l_3 e_23 | omega)) (by (first | exact mp_o2101 c_13 e_23 | omega))
        have e_27 : z_21.toInt % 3 = 1 → (-1) ≤ z_24.toInt ∧ z_24.toInt ≤ 99 := mp_res_ld h_25 p_6 (by (first | exact mp_o1967 l_3 e_23 | omega)) (by (first | exact mp_o2101 c_13 e_23 | omega))
        refine And.intro rfl (And.intro rfl (And.intro (vp_in_iff.mpr (by (first | exact mp_o1353 l_3 e_18 c_13 | omega))) ?_))
        intro g_28 h_29
        have p_30 : mp_res g_28 90 3 0 0 5 := mp_res_st h_29 p_5 (by (first | exact mp_o1341 l_3 e_18 | omega)) (by (first | exact mp_o2102 e_26 e_18 e_23 | omega))
        have p_31 : mp_res g_28 90 3 1 (-1) 99 := mp_res_st h_29 p_6 (by (first | exact mp_o1341 l_3 e_18 | omega)) (by (first | exact mp_o2103 e_27 e_18 e_23 | omega))
        show mp_W E X 5 25 [(4, .int i_1), (0, .ref a0), (1, .int 18), (2, .int 1), (3, .int 0)] [] [(mp_arI E a0 0 90 g_28)] 0 0
        refine mp_run mp_k_cX10_copyRow_ok hF mp_tabX10_ok [mp_c (.iinc 4 1) 1, mp_h (.goto (-25)) [3]] (by decide +kernel) ?_
        intro z_32 h_33
        have e_34 : z_32.toInt = i_1.toInt + 1 := mp_add (a := i_1.toInt) (b := 1) h_33 rfl (by decide) (by (first | exact mp_o2 l_3 | omega)) (by (first | exact mp_o1970 c_13 | omega))
        show mp_W E X 5 3 [(4, .int z_32), (0, .ref a0), (1, .int 18), (2, .int 1), (3, .int 0)] [] [(mp_arI E a0 0 90 g_28)] 0 0
        exact mp_sub [0, 1, 2, 3, 4] rfl [0] rfl rfl (ih_11 (d_10 - 1) (by (first | exact mp_o1354 hm_12 c_13 | omega)) z_32 g_28 (by (first | exact mp_o51 l_3 e_34 | omega)) (by (first | exact mp_o1356 c_13 e_34 | omega)) p_30 p_31 (mp_cpr_st (m := 18) h_29 h_25 x_7 (by (first | exact mp_o1328 l_3 e_18 | omega)) (by (first | exact mp_o1971 l_3 e_23 | omega)) (by (first | exact mp_o2104 | omega)) (by (first | exact mp_o1973 c_13 | omega)) (by (first | exact mp_o772 l_3 e_34 | omega))) (by (first | exact mp_o1974 c_13 e_34 | omega)) (by (first | exact mp_o1975 hm_12 e_34 | omega)))
  exact mp_sub [0, 1, 2, 3, 4] rfl [0] rfl rfl (lp_9 _ 0 f0 (by decide) (by decide) p0 p1 (mp_cpr_0 (by decide)) (by decide) (Int.self_le_toNat _))
set_option maxHeartbeats 4000000 in
set_option maxRecDepth 100000 in
theorem bX10_copyRow_186 (E : mp_E) (a0 : Nat) (f0 : Nat → Int32) (p0 : mp_res f0 300 6 0 0 5) (p1 : mp_res f0 300 6 1 0 5) (p2 : mp_res f0 300 6 3 0 99) (p3 : mp_res f0 300 6 4 0 1) : mp_Ct E yX10_copyRow cX10_copyRow 5 none 0 0 0 0 [.ref a0, .int 60, .int 1, .int 0] [(mp_arI E a0 0 300 f0)] (fun v w' => ∃ h1 : Nat → Int32, v = none ∧ mp_res h1 300 6 0 0 5 ∧ mp_res h1 300 6 1 0 5 ∧ mp_res h1 300 6 3 0 99 ∧ mp_res h1 300 6 4 0 1 ∧ (h1 = mp_cpr f0 60 0 60) ∧ w' = [(mp_arI E a0 0 300 h1)]) := by
  refine mp_met false (by decide) (by decide) (Nat.le_of_ble_eq_true rfl) (fun X hF hQ => ?_)
  have hF : mp_F E X (RX10, cX10_copyRow, 5, (0, 0, 0, 0), none, false) := hF
  show mp_W E X 5 0 [(0, .ref a0), (1, .int 60), (2, .int 1), (3, .int 0)] [] [(mp_arI E a0 0 300 f0)] 0 0
  refine mp_run mp_k_cX10_copyRow_ok hF mp_tabX10_ok [mp_c (.iconst 0) 0, mp_i (.istore 4)] (by decide +kernel) ?_
  show mp_W E X 5 3 [(4, .int 0), (0, .ref a0), (1, .int 60), (2, .int 1), (3, .int 0)] [] [(mp_arI E a0 0 300 f0)] 0 0
  have lp_11 : ∀ (d_12 : Nat) (i_1 : Int32) (g_2 : Nat → Int32), 0 ≤ i_1.toInt → i_1.toInt ≤ 60 → mp_res g_2 300 6 0 0 5 → mp_res g_2 300 6 1 0 5 → mp_res g_2 300 6 3 0 99 → mp_res g_2 300 6 4 0 1 → (g_2 = mp_cpr f0 60 0 i_1.toInt.toNat) → (i_1.toInt ≤ 60) → -(i_1.toInt) + 60 ≤ (d_12 : Int) → mp_W E X 5 3 [(4, .int i_1), (0, .ref a0), (1, .int 60), (2, .int 1), (3, .int 0)] [] [(mp_arI E a0 0 300 g_2)] 0 0 := by
    intro d_12
    induction d_12 using Nat.strongRecOn with
    | ind d_12 ih_13 =>
      intro i_1 g_2 l_3 u_4 p_5 p_6 p_7 p_8 x_9 x_10 hm_14
      refine mp_run mp_k_cX10_copyRow_ok hF mp_tabX10_ok [mp_i (.iload 4), mp_i (.iload_n 1), mp_h (.if_icmp .ge 25) [31]] (by decide +kernel) ?_
      refine And.intro (fun c_15 => ?_) (fun c_15 => ?_)
      · have c_15 : 60 ≤ i_1.toInt := c_15
        show mp_W E X 5 31 [(4, .int i_1), (0, .ref a0), (1, .int 60), (2, .int 1), (3, .int 0)] [] [(mp_arI E a0 0 300 g_2)] 0 0
        exact mp_vret hF hQ rfl (Nat.le_of_ble_eq_true rfl) (Nat.le_of_ble_eq_true rfl) [0] (w' := [(mp_arI E a0 0 300 g_2)]) rfl rfl ⟨g_2, rfl, p_5, p_6, p_7, p_8, (by rw [show i_1.toInt.toNat = 60 by omega] at x_9; exact x_9), rfl⟩ (by first | exact mp_fd_ok mp_k_cX10_copyRow_ok (by decide +kernel) | decide +kernel)
      · have c_15 : i_1.toInt < 60 := c_15
        show mp_W E X 5 9 [(4, .int i_1), (0, .ref a0), (1, .int 60), (2, .int 1), (3, .int 0)] [] [(mp_arI E a0 0 300 g_2)] 0 0
        refine mp_run mp_k_cX10_copyRow_ok hF mp_tabX10_ok [mp_i (.aload_n 0), mp_i (.iload_n 1), mp_i (.iload_n 3), mp_i .imul, mp_i (.iload 4), mp_i .iadd, mp_i (.aload_n 0), mp_i (.iload_n 1), mp_i (.iload_n 2), mp_i .imul, mp_i (.iload 4), mp_i .iadd, mp_h .iaload [0], mp_h .iastore [0]] (by decide +kernel) ?_
        intro z_16 h_17
        obtain rfl : z_16 = 0 := h_17.trans (by decide)
        intro z_18 h_19
        have e_20 : z_18.toInt = 0 + i_1.toInt := mp_add (a := 0) (b := i_1.toInt) h_19 (by decide) rfl (by (first | exact mp_o1319 l_3 | omega)) (by (first | exact mp_o1978 c_15 | omega))
        intro z_21 h_22
        obtain rfl : z_21 = 60 := h_22.trans (by decide)
        intro z_23 h_24
        have e_25 : z_23.toInt = 60 + i_1.toInt := mp_add (a := 60) (b := i_1.toInt) h_24 (by decide) rfl (by (first | exact mp_o1976 l_3 | omega)) (by (first | exact mp_o1977 c_15 | omega))
        refine And.intro rfl (And.intro rfl (And.intro (vp_in_iff.mpr (by (first | exact mp_o1981 l_3 e_25 c_15 | omega))) ?_))
        intro z_26 h_27
        have e_28 : z_23.toInt % 6 = 0 → 0 ≤ z_26.toInt ∧ z_26.toInt ≤ 5 := mp_res_ld h_27 p_5 (by (first | exact mp_o1982 l_3 e_25 | omega)) (by (first | exact mp_o2105 c_15 e_25 | omega))
        have e_29 : z_23.toInt % 6 = 1 → 0 ≤ z_26.toInt ∧ z_26.toInt ≤ 5 := mp_res_ld h_27 p_6 (by (first | exact mp_o1982 l_3 e_25 | omega)) (by (first | exact mp_o2105 c_15 e_25 | omega))
        have e_30 : z_23.toInt % 6 = 3 → 0 ≤ z_26.toInt ∧ z_26.toInt ≤ 99 := mp_res_ld h_27 p_7 (by (first | exact mp_o1982 l_3 e_25 | omega)) (by (first | exact mp_o2105 c_15 e_25 | omega))
        have e_31 : z_23.toInt % 6 = 4 → 0 ≤ z_26.toInt ∧ z_26.toInt ≤ 1 := mp_res_ld h_27 p_8 (by (first | exact mp_o1982 l_3 e_25 | omega)) (by (first | exact mp_o2105 c_15 e_25 | omega))
        refine And.intro rfl (And.intro rfl (And.intro (vp_in_iff.mpr (by (first | exact mp_o1979 l_3 e_20 c_15 | omega))) ?_))
        intro g_32 h_33
        have p_34 : mp_res g_32 300 6 0 0 5 := mp_res_st h_33 p_5 (by (first | exact mp_o1341 l_3 e_20 | omega)) (by (first | exact mp_o2106 e_28 e_20 e_25 | omega))
        have p_35 : mp_res g_32 300 6 1 0 5 := mp_res_st h_33 p_6 (by (first | exact mp_o1341 l_3 e_20 | omega)) (by (first | exact mp_o2107 e_29 e_20 e_25 | omega))
        have p_36 : mp_res g_32 300 6 3 0 99 := mp_res_st h_33 p_7 (by (first | exact mp_o1341 l_3 e_20 | omega)) (by (first | exact mp_o2108 e_30 e_20 e_25 | omega))
        have p_37 : mp_res g_32 300 6 4 0 1 := mp_res_st h_33 p_8 (by (first | exact mp_o1341 l_3 e_20 | omega)) (by (first | exact mp_o2109 e_31 e_20 e_25 | omega))
        show mp_W E X 5 25 [(4, .int i_1), (0, .ref a0), (1, .int 60), (2, .int 1), (3, .int 0)] [] [(mp_arI E a0 0 300 g_32)] 0 0
        refine mp_run mp_k_cX10_copyRow_ok hF mp_tabX10_ok [mp_c (.iinc 4 1) 1, mp_h (.goto (-25)) [3]] (by decide +kernel) ?_
        intro z_38 h_39
        have e_40 : z_38.toInt = i_1.toInt + 1 := mp_add (a := i_1.toInt) (b := 1) h_39 rfl (by decide) (by (first | exact mp_o2 l_3 | omega)) (by (first | exact mp_o480 c_15 | omega))
        show mp_W E X 5 3 [(4, .int z_38), (0, .ref a0), (1, .int 60), (2, .int 1), (3, .int 0)] [] [(mp_arI E a0 0 300 g_32)] 0 0
        exact mp_sub [0, 1, 2, 3, 4] rfl [0] rfl rfl (ih_13 (d_12 - 1) (by (first | exact mp_o1364 hm_14 c_15 | omega)) z_38 g_32 (by (first | exact mp_o51 l_3 e_40 | omega)) (by (first | exact mp_o481 c_15 e_40 | omega)) p_34 p_35 p_36 p_37 (mp_cpr_st (m := 60) h_33 h_27 x_9 (by (first | exact mp_o1328 l_3 e_20 | omega)) (by (first | exact mp_o1987 l_3 e_25 | omega)) (by (first | exact mp_o2110 | omega)) (by (first | exact mp_o1989 c_15 | omega)) (by (first | exact mp_o772 l_3 e_40 | omega))) (by (first | exact mp_o481 c_15 e_40 | omega)) (by (first | exact mp_o1990 hm_14 e_40 | omega)))
  exact mp_sub [0, 1, 2, 3, 4] rfl [0] rfl rfl (lp_11 _ 0 f0 (by decide) (by decide) p0 p1 p2 p3 (mp_cpr_0 (by decide)) (by decide) (Int.self_le_toNat _))
set_option maxHeartbeats 4000000 in
set_option maxRecDepth 100000 in
theorem bX10_copyRow_187 (E : mp_E) (a0 : Nat) (f0 : Nat → Int32) (p0 : mp_actm f0) : mp_Ct E yX10_copyRow cX10_copyRow 5 none 0 0 0 0 [.ref a0, .int 60, .int 1, .int 0] [(mp_arI E a0 0 300 f0)] (fun v w' => ∃ h1 : Nat → Int32, v = none ∧ mp_actm h1 ∧ (h1 = mp_cpr f0 60 0 60) ∧ w' = [(mp_arI E a0 0 300 h1)]) := by
  refine mp_met false (by decide) (by decide) (Nat.le_of_ble_eq_true rfl) (fun X hF hQ => ?_)
  have hF : mp_F E X (RX10, cX10_copyRow, 5, (0, 0, 0, 0), none, false) := hF
  show mp_W E X 5 0 [(0, .ref a0), (1, .int 60), (2, .int 1), (3, .int 0)] [] [(mp_arI E a0 0 300 f0)] 0 0
  refine mp_run mp_k_cX10_copyRow_ok hF mp_tabX10_ok [mp_c (.iconst 0) 0, mp_i (.istore 4)] (by decide +kernel) ?_
  show mp_W E X 5 3 [(4, .int 0), (0, .ref a0), (1, .int 60), (2, .int 1), (3, .int 0)] [] [(mp_arI E a0 0 300 f0)] 0 0
  have lp_8 : ∀ (d_9 : Nat) (i_1 : Int32) (g_2 : Nat → Int32), 0 ≤ i_1.toInt → i_1.toInt ≤ 60 → mp_actm g_2 → (g_2 = mp_cpr f0 60 0 i_1.toInt.toNat) → (i_1.toInt ≤ 60) → -(i_1.toInt) + 60 ≤ (d_9 : Int) → mp_W E X 5 3 [(4, .int i_1), (0, .ref a0), (1, .int 60), (2, .int 1), (3, .int 0)] [] [(mp_arI E a0 0 300 g_2)] 0 0 := by
    intro d_9
    induction d_9 using Nat.strongRecOn with
    | ind d_9 ih_10 =>
      intro i_1 g_2 l_3 u_4 p_5 x_6 x_7 hm_11
      refine mp_run mp_k_cX10_copyRow_ok hF mp_tabX10_ok [mp_i (.iload 4), mp_i (.iload_n 1), mp_h (.if_icmp .ge 25) [31]] (by decide +kernel) ?_
      refine And.intro (fun c_12 => ?_) (fun c_12 => ?_)
      · have c_12 : 60 ≤ i_1.toInt := c_12
        show mp_W E X 5 31 [(4, .int i_1), (0, .ref a0), (1, .int 60), (2, .int 1), (3, .int 0)] [] [(mp_arI E a0 0 300 g_2)] 0 0
        exact mp_vret hF hQ rfl (Nat.le_of_ble_eq_true rfl) (Nat.le_of_ble_eq_true rfl) [0] (w' := [(mp_arI E a0 0 300 g_2)]) rfl rfl ⟨g_2, rfl, p_5, (by rw [show i_1.toInt.toNat = 60 by (first | exact mp_o1357 c_12 u_4 | omega)] at x_6; exact x_6), rfl⟩ (by first | exact mp_fd_ok mp_k_cX10_copyRow_ok (by decide +kernel) | decide +kernel)
      · have c_12 : i_1.toInt < 60 := c_12
        show mp_W E X 5 9 [(4, .int i_1), (0, .ref a0), (1, .int 60), (2, .int 1), (3, .int 0)] [] [(mp_arI E a0 0 300 g_2)] 0 0
        refine mp_run mp_k_cX10_copyRow_ok hF mp_tabX10_ok [mp_i (.aload_n 0), mp_i (.iload_n 1), mp_i (.iload_n 3), mp_i .imul, mp_i (.iload 4), mp_i .iadd, mp_i (.aload_n 0), mp_i (.iload_n 1), mp_i (.iload_n 2), mp_i .imul, mp_i (.iload 4), mp_i .iadd, mp_h .iaload [0], mp_h .iastore [0]] (by decide +kernel) ?_
        intro z_13 h_14
        obtain rfl : z_13 = 0 := h_14.trans (by decide)
        intro z_15 h_16
        have e_17 : z_15.toInt = 0 + i_1.toInt := mp_add (a := 0) (b := i_1.toInt) h_16 (by decide) rfl (by omega) (by omega)
        intro z_18 h_19
        obtain rfl : z_18 = 60 := h_19.trans (by decide)
        intro z_20 h_21
        have e_22 : z_20.toInt = 60 + i_1.toInt := mp_add (a := 60) (b := i_1.toInt) h_21 (by decide) rfl (by omega) (by omega)
        refine And.intro rfl (And.intro rfl (And.intro (vp_in_iff.mpr (by omega)) ?_))
        intro z_23 h_24
        have e_25 := mp_actm_ld h_24 p_5 (by omega) (by (first | exact mp_o2111 c_12 e_22 | omega))
        refine And.intro rfl (And.intro rfl (And.intro (vp_in_iff.mpr (by omega)) ?_))
        intro g_26 h_27
        have p_28 : mp_actm g_26 := mp_actm_st h_27 p_5 (by (first | exact e_25 | omega))
        show mp_W E X 5 25 [(4, .int i_1), (0, .ref a0), (1, .int 60), (2, .int 1), (3, .int 0)] [] [(mp_arI E a0 0 300 g_26)] 0 0
        refine mp_run mp_k_cX10_copyRow_ok hF mp_tabX10_ok [mp_c (.iinc 4 1) 1, mp_h (.goto (-25)) [3]] (by decide +kernel) ?_
        intro z_29 h_30
        have e_31 : z_29.toInt = i_1.toInt + 1 := mp_add (a := i_1.toInt) (b := 1) h_30 rfl (by decide) (by omega) (by omega)
        show mp_W E X 5 3 [(4, .int z_29), (0, .ref a0), (1, .int 60), (2, .int 1), (3, .int 0)] [] [(mp_arI E a0 0 300 g_26)] 0 0
        exact mp_sub [0, 1, 2, 3, 4] rfl [0] rfl rfl (ih_10 (d_9 - 1) (by omega) z_29 g_26 (by omega) (by omega) p_28 (mp_cpr_st (m := 60) h_27 h_24 x_6 (by omega) (by omega) (by omega) (by omega) (by omega)) (by omega) (by omega))
  exact mp_sub [0, 1, 2, 3, 4] rfl [0] rfl rfl (lp_8 _ 0 f0 (by decide) (by decide) p0 (mp_cpr_0 (by decide)) (by decide) (Int.self_le_toNat _))
set_option maxHeartbeats 4000000 in
set_option maxRecDepth 100000 in
theorem bX10_copyIsles_188 (E : mp_E) (a0 a1 a2 a3 a4 a5 a6 a7 a8 a9 a10 a11 a12 a13 a14 a15 a16 a17 a18 a19 a20 a21 a22 a23 a24 a25 : Nat) (f0 : Nat → Int32) (f1 : Nat → Int32) (f2 : Nat → Int32) (f3 : Nat → Int32) (f4 : Nat → Int32) (f5 : Nat → Int32) (f6 : Nat → Int32) (y0 : Int32) (y1 : Int32) (y2 : Int32) (y3 : Int32) (y4 : Int32) (y5 : Int32) (y6 : Int64) (y7 : Int32) (y8 : Int32) (y9 : Int32) (y10 : Int32) (y11 : Int32) (y12 : Int32) (y13 : Int32) (y14 : Int32) (y15 : Int32) (y16 : Int32) (y17 : Int32) (y18 : Int32) (y19 : Int32) (y20 : Int32) (y21 : Int32) (p0 : mp_res f1 25 5 0 0 6) (p1 : mp_res f1 25 5 1 0 99) (p2 : mp_res f1 25 5 2 0 6) (p3 : mp_res f1 25 5 3 0 10) (p4 : mp_res f1 25 5 4 0 60) (p5 : mp_all f2 180 0 20) (p6 : mp_all f3 3000 0 1) (p7 : mp_res f4 90 3 0 0 5) (p8 : mp_res f4 90 3 1 (-1) 99) (p9 : mp_res f5 300 6 0 0 5) (p10 : mp_res f5 300 6 1 0 5) (p11 : mp_res f5 300 6 3 0 99) (p12 : mp_res f5 300 6 4 0 1) (p13 : mp_actm f6) (l_y1 : 0 ≤ y1.toInt) (u_y1 : y1.toInt ≤ 1600) (l_y2 : 0 ≤ y2.toInt) (u_y2 : y2.toInt ≤ 1600) (l_y3 : 0 ≤ y3.toInt) (u_y3 : y3.toInt ≤ 4) (l_y4 : 0 ≤ y4.toInt) (u_y4 : y4.toInt ≤ 1600) (l_y11 : 0 ≤ y11.toInt) (u_y11 : y11.toInt ≤ 99) (l_y12 : 0 ≤ y12.toInt) (u_y12 : y12.toInt ≤ 5) (l_y13 : 0 ≤ y13.toInt) (u_y13 : y13.toInt ≤ 12) : mp_Ct E yX10_copyIsles cX10_copyIsles 4 none 1 0 0 24 [.ref a0, .int 1, .int 0] [(mp_ob10 a0 y0 a8 a9 a10 a11 a12 y1 y2 y3 y4 y5 y6 y7 y8 y9 y10 a1 a2 a3 a4 a5 a6 a7 a13 y11 a14 a15 a16 a17 y12 y13 y14 a18 a19 y15 y16 a20 a21 a22 y17 y18 y19 y20 a23 a24 a25 y21), (mp_arI E a1 0 5 f0), (mp_arI E a2 0 25 f1), (mp_arI E a3 0 180 f2), (mp_arI E a4 3 3000 f3), (mp_arI E a5 0 90 f4), (mp_arI E a6 0 300 f5), (mp_arI E a7 0 300 f6)] (fun v w' => ∃ h1 : Nat → Int32, ∃ h2 : Nat → Int32, ∃ h3 : Nat → Int32, ∃ h4 : Nat → Int32, ∃ h5 : Nat → Int32, ∃ h6 : Nat → Int32, ∃ h7 : Nat → Int32, v = none ∧ mp_res h2 25 5 0 0 6 ∧ mp_res h2 25 5 1 0 99 ∧ mp_res h2 25 5 2 0 6 ∧ mp_res h2 25 5 3 0 10 ∧ mp_res h2 25 5 4 0 60 ∧ mp_all h3 180 0 20 ∧ mp_all h4 3000 0 1 ∧ mp_res h5 90 3 0 0 5 ∧ mp_res h5 90 3 1 (-1) 99 ∧ mp_res h6 300 6 0 0 5 ∧ mp_res h6 300 6 1 0 5 ∧ mp_res h6 300 6 3 0 99 ∧ mp_res h6 300 6 4 0 1 ∧ mp_actm h7 ∧ (h1 = mp_cpr f0 1 0 1) ∧ (h2 = mp_cpr f1 5 0 5) ∧ (h3 = mp_cpr f2 36 0 36) ∧ (h5 = mp_cpr f4 18 0 18) ∧ (h6 = mp_cpr f5 60 0 60) ∧ (h7 = mp_cpr f6 60 0 60) ∧ (h4 = mp_cpr f3 600 0 600) ∧ w' = [(mp_ob10 a0 y0 a8 a9 a10 a11 a12 y1 y2 y3 y4 y5 y6 y7 y8 y9 y10 a1 a2 a3 a4 a5 a6 a7 a13 y11 a14 a15 a16 a17 y12 y13 y14 a18 a19 y15 y16 a20 a21 a22 y17 y18 y19 y20 a23 a24 a25 y21), (mp_arI E a1 0 5 h1), (mp_arI E a2 0 25 h2), (mp_arI E a3 0 180 h3), (mp_arI E a4 3 3000 h4), (mp_arI E a5 0 90 h5), (mp_arI E a6 0 300 h6), (mp_arI E a7 0 300 h7)]) := by
  refine mp_met false (by decide) (by decide) (Nat.le_of_ble_eq_true rfl) (fun X hF hQ => ?_)
  have hF : mp_F E X (RX10, cX10_copyIsles, 4, (1, 0, 0, 24), none, false) := hF
  let w1_ : va_W := [(mp_ob10 a0 y0 a8 a9 a10 a11 a12 y1 y2 y3 y4 y5 y6 y7 y8 y9 y10 a1 a2 a3 a4 a5 a6 a7 a13 y11 a14 a15 a16 a17 y12 y13 y14 a18 a19 y15 y16 a20 a21 a22 y17 y18 y19 y20 a23 a24 a25 y21), (mp_arI E a1 0 5 f0), (mp_arI E a2 0 25 f1), (mp_arI E a3 0 180 f2), (mp_arI E a4 3 3000 f3), (mp_arI E a5 0 90 f4), (mp_arI E a6 0 300 f5), (mp_arI E a7 0 300 f6)]
  show mp_W E X 4 0 [(0, .ref a0), (1, .int 1), (2, .int 0)] [] w1_ 0 0
  refine mp_run mp_k_cX10_copyIsles_ok hF mp_tabX10_ok [mp_i (.aload_n 0), mp_h (.getfield 31) [16, 0], mp_c (.iconst 1) 1, mp_i (.iload_n 1), mp_i (.iload_n 2)] (by decide +kernel) ?_
  refine And.intro rfl (And.intro rfl ?_)
  show mp_W E X 4 7 [(0, .ref a0), (1, .int 1), (2, .int 0)] [.int 0, .int 1, .int 1, .ref a1] w1_ 0 0
  refine mp_callS hF (As := [.ref a1, .int 1, .int 1, .int 0]) (rest := []) (wr := [(mp_ob10 a0 y0 a8 a9 a10 a11 a12 y1 y2 y3 y4 y5 y6 y7 y8 y9 y10 a1 a2 a3 a4 a5 a6 a7 a13 y11 a14 a15 a16 a17 y12 y13 y14 a18 a19 y15 y16 a20 a21 a22 y17 y18 y19 y20 a23 a24 a25 y21), (mp_arI E a2 0 25 f1), (mp_arI E a3 0 180 f2), (mp_arI E a4 3 3000 f3), (mp_arI E a5 0 90 f4), (mp_arI E a6 0 300 f5), (mp_arI E a7 0 300 f6)]) (bX10_copyRow_182 E a1 f0) mp_lkX10_251 [1] [0, 2, 3, 4, 5, 6, 7] rfl rfl rfl rfl rfl ⟨(Nat.le_of_ble_eq_true rfl), (Nat.le_of_ble_eq_true rfl), (Nat.le_of_ble_eq_true rfl), (Nat.le_of_ble_eq_true rfl)⟩ (Nat.le_of_ble_eq_true rfl) (by first | exact mp_fd_ok mp_k_cX10_copyIsles_ok (by decide +kernel) | decide +kernel) (fun v_1 w_2 h_3 => ?_)
  obtain ⟨g_4, rfl, x_5, rfl⟩ := h_3
  let w2_ : va_W := [(mp_ob10 a0 y0 a8 a9 a10 a11 a12 y1 y2 y3 y4 y5 y6 y7 y8 y9 y10 a1 a2 a3 a4 a5 a6 a7 a13 y11 a14 a15 a16 a17 y12 y13 y14 a18 a19 y15 y16 a20 a21 a22 y17 y18 y19 y20 a23 a24 a25 y21), (mp_arI E a2 0 25 f1), (mp_arI E a3 0 180 f2), (mp_arI E a4 3 3000 f3), (mp_arI E a5 0 90 f4), (mp_arI E a6 0 300 f5), (mp_arI E a7 0 300 f6), (mp_arI E a1 0 5 g_4)]
  show mp_W E X 4 10 [(0, .ref a0), (1, .int 1), (2, .int 0)] [] w2_ 0 0
  refine mp_run mp_k_cX10_copyIsles_ok hF mp_tabX10_ok [mp_i (.aload_n 0), mp_h (.getfield 34) [17, 0], mp_c (.iconst 5) 5, mp_i (.iload_n 1), mp_i (.iload_n 2)] (by decide +kernel) ?_
  refine And.intro rfl (And.intro rfl ?_)
  show mp_W E X 4 17 [(0, .ref a0), (1, .int 1), (2, .int 0)] [.int 0, .int 1, .int 5, .ref a2] w2_ 0 0
  refine mp_callS hF (As := [.ref a2, .int 5, .int 1, .int 0]) (rest := []) (wr := [(mp_ob10 a0 y0 a8 a9 a10 a11 a12 y1 y2 y3 y4 y5 y6 y7 y8 y9 y10 a1 a2 a3 a4 a5 a6 a7 a13 y11 a14 a15 a16 a17 y12 y13 y14 a18 a19 y15 y16 a20 a21 a22 y17 y18 y19 y20 a23 a24 a25 y21), (mp_arI E a3 0 180 f2), (mp_arI E a4 3 3000 f3), (mp_arI E a5 0 90 f4), (mp_arI E a6 0 300 f5), (mp_arI E a7 0 300 f6), (mp_arI E a1 0 5 g_4)]) (bX10_copyRow_183 E a2 f1 p0 p1 p2 p3 p4) mp_lkX10_251 [1] [0, 2, 3, 4, 5, 6, 7] rfl rfl rfl rfl rfl ⟨(Nat.le_of_ble_eq_true rfl), (Nat.le_of_ble_eq_true rfl), (Nat.le_of_ble_eq_true rfl), (Nat.le_of_ble_eq_true rfl)⟩ (Nat.le_of_ble_eq_true rfl) (by first | exact mp_fd_ok mp_k_cX10_copyIsles_ok (by decide +kernel) | decide +kernel) (fun v_6 w_7 h_8 => ?_)
  refine h_8.elim fun g_9 q_16 => q_16.elim fun e_17 q_18 => q_18.elim fun p_10 q_19 => q_19.elim fun p_11 q_20 => q_20.elim fun p_12 q_21 => q_21.elim fun p_13 q_22 => q_22.elim fun p_14 q_23 => q_23.elim fun x_15 e_24 => ?_
  clear h_8 q_16 q_18 q_19 q_20 q_21 q_22 q_23
  subst e_17
  subst e_24
  let w3_ : va_W := [(mp_ob10 a0 y0 a8 a9 a10 a11 a12 y1 y2 y3 y4 y5 y6 y7 y8 y9 y10 a1 a2 a3 a4 a5 a6 a7 a13 y11 a14 a15 a16 a17 y12 y13 y14 a18 a19 y15 y16 a20 a21 a22 y17 y18 y19 y20 a23 a24 a25 y21), (mp_arI E a3 0 180 f2), (mp_arI E a4 3 3000 f3), (mp_arI E a5 0 90 f4), (mp_arI E a6 0 300 f5), (mp_arI E a7 0 300 f6), (mp_arI E a1 0 5 g_4), (mp_arI E a2 0 25 g_9)]
  show mp_W E X 4 20 [(0, .ref a0), (1, .int 1), (2, .int 0)] [] w3_ 0 0
  refine mp_run mp_k_cX10_copyIsles_ok hF mp_tabX10_ok [mp_i (.aload_n 0), mp_h (.getfield 37) [18, 0], mp_c (.bipush 36) 36, mp_i (.iload_n 1), mp_i (.iload_n 2)] (by decide +kernel) ?_
  refine And.intro rfl (And.intro rfl ?_)
  show mp_W E X 4 28 [(0, .ref a0), (1, .int 1), (2, .int 0)] [.int 0, .int 1, .int 36, .ref a3] w3_ 0 0
  refine mp_callS hF (As := [.ref a3, .int 36, .int 1, .int 0]) (rest := []) (wr := [(mp_ob10 a0 y0 a8 a9 a10 a11 a12 y1 y2 y3 y4 y5 y6 y7 y8 y9 y10 a1 a2 a3 a4 a5 a6 a7 a13 y11 a14 a15 a16 a17 y12 y13 y14 a18 a19 y15 y16 a20 a21 a22 y17 y18 y19 y20 a23 a24 a25 y21), (mp_arI E a4 3 3000 f3), (mp_arI E a5 0 90 f4), (mp_arI E a6 0 300 f5), (mp_arI E a7 0 300 f6), (mp_arI E a1 0 5 g_4), (mp_arI E a2 0 25 g_9)]) (bX10_copyRow_184 E a3 f2 p5) mp_lkX10_251 [1] [0, 2, 3, 4, 5, 6, 7] rfl rfl rfl rfl rfl ⟨(Nat.le_of_ble_eq_true rfl), (Nat.le_of_ble_eq_true rfl), (Nat.le_of_ble_eq_true rfl), (Nat.le_of_ble_eq_true rfl)⟩ (Nat.le_of_ble_eq_true rfl) (by first | exact mp_fd_ok mp_k_cX10_copyIsles_ok (by decide +kernel) | decide +kernel) (fun v_25 w_26 h_27 => ?_)
  obtain ⟨g_28, rfl, p_29, x_30, rfl⟩ := h_27
  let w4_ : va_W := [(mp_ob10 a0 y0 a8 a9 a10 a11 a12 y1 y2 y3 y4 y5 y6 y7 y8 y9 y10 a1 a2 a3 a4 a5 a6 a7 a13 y11 a14 a15 a16 a17 y12 y13 y14 a18 a19 y15 y16 a20 a21 a22 y17 y18 y19 y20 a23 a24 a25 y21), (mp_arI E a4 3 3000 f3), (mp_arI E a5 0 90 f4), (mp_arI E a6 0 300 f5), (mp_arI E a7 0 300 f6), (mp_arI E a1 0 5 g_4), (mp_arI E a2 0 25 g_9), (mp_arI E a3 0 180 g_28)]
  show mp_W E X 4 31 [(0, .ref a0), (1, .int 1), (2, .int 0)] [] w4_ 0 0
  refine mp_run mp_k_cX10_copyIsles_ok hF mp_tabX10_ok [mp_c (.iconst 0) 0, mp_i (.istore_n 3)] (by decide +kernel) ?_
  show mp_W E X 4 33 [(3, .int 0), (0, .ref a0), (1, .int 1), (2, .int 0)] [] w4_ 0 0
  have lp_39 : ∀ (d_40 : Nat) (i_31 : Int32) (g_32 : Nat → Int32), 0 ≤ i_31.toInt → i_31.toInt ≤ 600 → mp_all g_32 3000 0 1 → (g_32 = mp_cpr f3 600 0 i_31.toInt.toNat) → (i_31.toInt ≤ 600) → (0 ≤ i_31.toInt) → -(i_31.toInt) + 600 ≤ (d_40 : Int) → mp_W E X 4 33 [(3, .int i_31), (0, .ref a0), (1, .int 1), (2, .int 0)] [] [(mp_ob10 a0 y0 a8 a9 a10 a11 a12 y1 y2 y3 y4 y5 y6 y7 y8 y9 y10 a1 a2 a3 a4 a5 a6 a7 a13 y11 a14 a15 a16 a17 y12 y13 y14 a18 a19 y15 y16 a20 a21 a22 y17 y18 y19 y20 a23 a24 a25 y21), (mp_arI E a4 3 3000 g_32), (mp_arI E a5 0 90 f4), (mp_arI E a6 0 300 f5), (mp_arI E a7 0 300 f6), (mp_arI E a1 0 5 g_4), (mp_arI E a2 0 25 g_9), (mp_arI E a3 0 180 g_28)] 0 0 := by
    intro d_40
    induction d_40 using Nat.strongRecOn with
    | ind d_40 ih_41 =>
      intro i_31 g_32 l_33 u_34 p_35 x_36 x_37 x_38 hm_42
      refine mp_run mp_k_cX10_copyIsles_ok hF mp_tabX10_ok [mp_i (.iload_n 3), mp_c (.sipush 600) 600, mp_h (.if_icmp .ge 33) [70]] (by decide +kernel) ?_
      refine And.intro (fun c_43 => ?_) (fun c_43 => ?_)
      · have c_43 : 600 ≤ i_31.toInt := c_43
        let w5_ : va_W := [(mp_ob10 a0 y0 a8 a9 a10 a11 a12 y1 y2 y3 y4 y5 y6 y7 y8 y9 y10 a1 a2 a3 a4 a5 a6 a7 a13 y11 a14 a15 a16 a17 y12 y13 y14 a18 a19 y15 y16 a20 a21 a22 y17 y18 y19 y20 a23 a24 a25 y21), (mp_arI E a4 3 3000 g_32), (mp_arI E a5 0 90 f4), (mp_arI E a6 0 300 f5), (mp_arI E a7 0 300 f6), (mp_arI E a1 0 5 g_4), (mp_arI E a2 0 25 g_9), (mp_arI E a3 0 180 g_28)]
        show mp_W E X 4 70 [(3, .int i_31), (0, .ref a0), (1, .int 1), (2, .int 0)] [] w5_ 0 0
        refine mp_run mp_k_cX10_copyIsles_ok hF mp_tabX10_ok [mp_i (.aload_n 0), mp_h (.getfield 44) [20, 0], mp_c (.bipush 18) 18, mp_i (.iload_n 1), mp_i (.iload_n 2)] (by decide +kernel) ?_
        refine And.intro rfl (And.intro rfl ?_)
        show mp_W E X 4 78 [(3, .int i_31), (0, .ref a0), (1, .int 1), (2, .int 0)] [.int 0, .int 1, .int 18, .ref a5] w5_ 0 0
        refine mp_callS hF (As := [.ref a5, .int 18, .int 1, .int 0]) (rest := []) (wr := [(mp_ob10 a0 y0 a8 a9 a10 a11 a12 y1 y2 y3 y4 y5 y6 y7 y8 y9 y10 a1 a2 a3 a4 a5 a6 a7 a13 y11 a14 a15 a16 a17 y12 y13 y14 a18 a19 y15 y16 a20 a21 a22 y17 y18 y19 y20 a23 a24 a25 y21), (mp_arI E a4 3 3000 g_32), (mp_arI E a6 0 300 f5), (mp_arI E a7 0 300 f6), (mp_arI E a1 0 5 g_4), (mp_arI E a2 0 25 g_9), (mp_arI E a3 0 180 g_28)]) (bX10_copyRow_185 E a5 f4 p7 p8) mp_lkX10_251 [2] [0, 1, 3, 4, 5, 6, 7] rfl rfl rfl rfl rfl ⟨(Nat.le_of_ble_eq_true rfl), (Nat.le_of_ble_eq_true rfl), (Nat.le_of_ble_eq_true rfl), (Nat.le_of_ble_eq_true rfl)⟩ (Nat.le_of_ble_eq_true rfl) (by first | exact mp_fd_ok mp_k_cX10_copyIsles_ok (by decide +kernel) | decide +kernel) (fun v_44 w_45 h_46 => ?_)
        refine h_46.elim fun g_47 q_51 => q_51.elim fun e_52 q_53 => q_53.elim fun p_48 q_54 => q_54.elim fun p_49 q_55 => q_55.elim fun x_50 e_56 => ?_
        clear h_46 q_51 q_53 q_54 q_55
        subst e_52
        subst e_56
        let w6_ : va_W := [(mp_ob10 a0 y0 a8 a9 a10 a11 a12 y1 y2 y3 y4 y5 y6 y7 y8 y9 y10 a1 a2 a3 a4 a5 a6 a7 a13 y11 a14 a15 a16 a17 y12 y13 y14 a18 a19 y15 y16 a20 a21 a22 y17 y18 y19 y20 a23 a24 a25 y21), (mp_arI E a4 3 3000 g_32), (mp_arI E a6 0 300 f5), (mp_arI E a7 0 300 f6), (mp_arI E a1 0 5 g_4), (mp_arI E a2 0 25 g_9), (mp_arI E a3 0 180 g_28), (mp_arI E a5 0 90 g_47)]
        show mp_W E X 4 81 [(3, .int i_31), (0, .ref a0), (1, .int 1), (2, .int 0)] [] w6_ 0 0
        refine mp_run mp_k_cX10_copyIsles_ok hF mp_tabX10_ok [mp_i (.aload_n 0), mp_h (.getfield 47) [21, 0], mp_c (.bipush 60) 60, mp_i (.iload_n 1), mp_i (.iload_n 2)] (by decide +kernel) ?_
        refine And.intro rfl (And.intro rfl ?_)
        show mp_W E X 4 89 [(3, .int i_31), (0, .ref a0), (1, .int 1), (2, .int 0)] [.int 0, .int 1, .int 60, .ref a6] w6_ 0 0
        refine mp_callS hF (As := [.ref a6, .int 60, .int 1, .int 0]) (rest := []) (wr := [(mp_ob10 a0 y0 a8 a9 a10 a11 a12 y1 y2 y3 y4 y5 y6 y7 y8 y9 y10 a1 a2 a3 a4 a5 a6 a7 a13 y11 a14 a15 a16 a17 y12 y13 y14 a18 a19 y15 y16 a20 a21 a22 y17 y18 y19 y20 a23 a24 a25 y21), (mp_arI E a4 3 3000 g_32), (mp_arI E a7 0 300 f6), (mp_arI E a1 0 5 g_4), (mp_arI E a2 0 25 g_9), (mp_arI E a3 0 180 g_28), (mp_arI E a5 0 90 g_47)]) (bX10_copyRow_186 E a6 f5 p9 p10 p11 p12) mp_lkX10_251 [2] [0, 1, 3, 4, 5, 6, 7] rfl rfl rfl rfl rfl ⟨(Nat.le_of_ble_eq_true rfl), (Nat.le_of_ble_eq_true rfl), (Nat.le_of_ble_eq_true rfl), (Nat.le_of_ble_eq_true rfl)⟩ (Nat.le_of_ble_eq_true rfl) (by first | exact mp_fd_ok mp_k_cX10_copyIsles_ok (by decide +kernel) | decide +kernel) (fun v_57 w_58 h_59 => ?_)
        refine h_59.elim fun g_60 q_66 => q_66.elim fun e_67 q_68 => q_68.elim fun p_61 q_69 => q_69.elim fun p_62 q_70 => q_70.elim fun p_63 q_71 => q_71.elim fun p_64 q_72 => q_72.elim fun x_65 e_73 => ?_
        clear h_59 q_66 q_68 q_69 q_70 q_71 q_72
        subst e_67
        subst e_73
        let w7_ : va_W := [(mp_ob10 a0 y0 a8 a9 a10 a11 a12 y1 y2 y3 y4 y5 y6 y7 y8 y9 y10 a1 a2 a3 a4 a5 a6 a7 a13 y11 a14 a15 a16 a17 y12 y13 y14 a18 a19 y15 y16 a20 a21 a22 y17 y18 y19 y20 a23 a24 a25 y21), (mp_arI E a4 3 3000 g_32), (mp_arI E a7 0 300 f6), (mp_arI E a1 0 5 g_4), (mp_arI E a2 0 25 g_9), (mp_arI E a3 0 180 g_28), (mp_arI E a5 0 90 g_47), (mp_arI E a6 0 300 g_60)]
        show mp_W E X 4 92 [(3, .int i_31), (0, .ref a0), (1, .int 1), (2, .int 0)] [] w7_ 0 0
        refine mp_run mp_k_cX10_copyIsles_ok hF mp_tabX10_ok [mp_i (.aload_n 0), mp_h (.getfield 50) [22, 0], mp_c (.bipush 60) 60, mp_i (.iload_n 1), mp_i (.iload_n 2)] (by decide +kernel) ?_
        refine And.intro rfl (And.intro rfl ?_)
        show mp_W E X 4 100 [(3, .int i_31), (0, .ref a0), (1, .int 1), (2, .int 0)] [.int 0, .int 1, .int 60, .ref a7] w7_ 0 0
        refine mp_callS hF (As := [.ref a7, .int 60, .int 1, .int 0]) (rest := []) (wr := [(mp_ob10 a0 y0 a8 a9 a10 a11 a12 y1 y2 y3 y4 y5 y6 y7 y8 y9 y10 a1 a2 a3 a4 a5 a6 a7 a13 y11 a14 a15 a16 a17 y12 y13 y14 a18 a19 y15 y16 a20 a21 a22 y17 y18 y19 y20 a23 a24 a25 y21), (mp_arI E a4 3 3000 g_32), (mp_arI E a1 0 5 g_4), (mp_arI E a2 0 25 g_9), (mp_arI E a3 0 180 g_28), (mp_arI E a5 0 90 g_47), (mp_arI E a6 0 300 g_60)]) (bX10_copyRow_187 E a7 f6 p13) mp_lkX10_251 [2] [0, 1, 3, 4, 5, 6, 7] rfl rfl rfl rfl rfl ⟨(Nat.le_of_ble_eq_true rfl), (Nat.le_of_ble_eq_true rfl), (Nat.le_of_ble_eq_true rfl), (Nat.le_of_ble_eq_true rfl)⟩ (Nat.le_of_ble_eq_true rfl) (by first | exact mp_fd_ok mp_k_cX10_copyIsles_ok (by decide +kernel) | decide +kernel) (fun v_74 w_75 h_76 => ?_)
        obtain ⟨g_77, rfl, p_78, x_79, rfl⟩ := h_76
        let w8_ : va_W := [(mp_ob10 a0 y0 a8 a9 a10 a11 a12 y1 y2 y3 y4 y5 y6 y7 y8 y9 y10 a1 a2 a3 a4 a5 a6 a7 a13 y11 a14 a15 a16 a17 y12 y13 y14 a18 a19 y15 y16 a20 a21 a22 y17 y18 y19 y20 a23 a24 a25 y21), (mp_arI E a4 3 3000 g_32), (mp_arI E a1 0 5 g_4), (mp_arI E a2 0 25 g_9), (mp_arI E a3 0 180 g_28), (mp_arI E a5 0 90 g_47), (mp_arI E a6 0 300 g_60), (mp_arI E a7 0 300 g_77)]
        show mp_W E X 4 103 [(3, .int i_31), (0, .ref a0), (1, .int 1), (2, .int 0)] [] w8_ 0 0
        exact mp_vret hF hQ rfl (Nat.le_of_ble_eq_true rfl) (Nat.le_of_ble_eq_true rfl) [0, 2, 3, 4, 1, 5, 6, 7] (w' := [(mp_ob10 a0 y0 a8 a9 a10 a11 a12 y1 y2 y3 y4 y5 y6 y7 y8 y9 y10 a1 a2 a3 a4 a5 a6 a7 a13 y11 a14 a15 a16 a17 y12 y13 y14 a18 a19 y15 y16 a20 a21 a22 y17 y18 y19 y20 a23 a24 a25 y21), (mp_arI E a1 0 5 g_4), (mp_arI E a2 0 25 g_9), (mp_arI E a3 0 180 g_28), (mp_arI E a4 3 3000 g_32), (mp_arI E a5 0 90 g_47), (mp_arI E a6 0 300 g_60), (mp_arI E a7 0 300 g_77)]) rfl rfl ⟨g_4, g_9, g_28, g_32, g_47, g_60, g_77, rfl, p_10, p_11, p_12, p_13, p_14, p_29, p_35, p_48, p_49, p_61, p_62, p_63, p_64, p_78, x_5, x_15, x_30, x_50, x_65, x_79, (by have k9 := x_36; rw [show i_31.toInt.toNat = 600 by (first | exact mp_o1366 c_43 u_34 | omega)] at k9; exact k9), rfl⟩ (by first | exact mp_fd_ok mp_k_cX10_copyIsles_ok (by decide +kernel) | decide +kernel)
      · have c_43 : i_31.toInt < 600 := c_43
        let w9_ : va_W := [(mp_ob10 a0 y0 a8 a9 a10 a11 a12 y1 y2 y3 y4 y5 y6 y7 y8 y9 y10 a1 a2 a3 a4 a5 a6 a7 a13 y11 a14 a15 a16 a17 y12 y13 y14 a18 a19 y15 y16 a20 a21 a22 y17 y18 y19 y20 a23 a24 a25 y21), (mp_arI E a4 3 3000 g_32), (mp_arI E a5 0 90 f4), (mp_arI E a6 0 300 f5), (mp_arI E a7 0 300 f6), (mp_arI E a1 0 5 g_4), (mp_arI E a2 0 25 g_9), (mp_arI E a3 0 180 g_28)]
        show mp_W E X 4 40 [(3, .int i_31), (0, .ref a0), (1, .int 1), (2, .int 0)] [] w9_ 0 0
        refine mp_run mp_k_cX10_copyIsles_ok hF mp_tabX10_ok [mp_i (.aload_n 0), mp_h (.getfield 40) [19, 0], mp_c (.sipush 600) 600, mp_i (.iload_n 2), mp_i .imul, mp_i (.iload_n 3), mp_i .iadd, mp_i (.aload_n 0), mp_h (.getfield 40) [19, 0], mp_c (.sipush 600) 600, mp_i (.iload_n 1), mp_i .imul, mp_i (.iload_n 3), mp_i .iadd, mp_h .baload [1, 0], mp_h .bastore [1, 0]] (by decide +kernel) ?_
        refine And.intro rfl (And.intro rfl ?_)
        intro z_80 h_81
        obtain rfl : z_80 = 0 := h_81.trans (by decide)
        intro z_82 h_83
        have e_84 : z_82.toInt = 0 + i_31.toInt := mp_add (a := 0) (b := i_31.toInt) h_83 (by decide) rfl (by (first | exact mp_o1319 l_33 | omega)) (by (first | exact mp_o1367 c_43 | omega))
        refine And.intro rfl (And.intro rfl ?_)
        intro z_85 h_86
        obtain rfl : z_85 = 600 := h_86.trans (by decide)
        intro z_87 h_88
        have e_89 : z_87.toInt = 600 + i_31.toInt := mp_add (a := 600) (b := i_31.toInt) h_88 (by decide) rfl (by (first | exact mp_o1992 l_33 | omega)) (by (first | exact mp_o1993 c_43 | omega))
        refine And.intro rfl (And.intro rfl (And.intro (vp_in_iff.mpr (by (first | exact mp_o1995 l_33 e_89 c_43 | omega))) ?_))
        intro z_90 h_91
        have e_92 : 0 ≤ z_90.toInt ∧ z_90.toInt ≤ 1 := mp_all_ld h_91 p_35 (by (first | exact mp_o2112 l_33 e_89 | omega)) (by (first | exact mp_o2113 c_43 e_89 | omega))
        refine And.intro rfl (And.intro rfl (And.intro (vp_in_iff.mpr (by (first | exact mp_o1370 l_33 e_84 c_43 | omega))) ?_))
        intro g_93 h_94
        have h_95 : g_93 = upd g_32 z_82.toNatClampNeg z_90 := h_94.trans (congrArg (upd _ _) (mp_narb (by (first | exact mp_o1371 e_92 | omega)) (by (first | exact mp_o1372 e_92 | omega))))
        have p_96 : mp_all g_93 3000 0 1 := mp_all_st h_95 p_35 e_92.1 e_92.2
        let w10_ : va_W := [(mp_ob10 a0 y0 a8 a9 a10 a11 a12 y1 y2 y3 y4 y5 y6 y7 y8 y9 y10 a1 a2 a3 a4 a5 a6 a7 a13 y11 a14 a15 a16 a17 y12 y13 y14 a18 a19 y15 y16 a20 a21 a22 y17 y18 y19 y20 a23 a24 a25 y21), (mp_arI E a4 3 3000 g_93), (mp_arI E a5 0 90 f4), (mp_arI E a6 0 300 f5), (mp_arI E a7 0 300 f6), (mp_arI E a1 0 5 g_4), (mp_arI E a2 0 25 g_9), (mp_arI E a3 0 180 g_28)]
        show mp_W E X 4 64 [(3, .int i_31), (0, .ref a0), (1, .int 1), (2, .int 0)] [] w10_ 0 0
        refine mp_run mp_k_cX10_copyIsles_ok hF mp_tabX10_ok [mp_c (.iinc 3 1) 1, mp_h (.goto (-34)) [33]] (by decide +kernel) ?_
        intro z_97 h_98
        have e_99 : z_97.toInt = i_31.toInt + 1 := mp_add (a := i_31.toInt) (b := 1) h_98 rfl (by decide) (by (first | exact mp_o2 l_33 | omega)) (by (first | exact mp_o976 c_43 | omega))
        show mp_W E X 4 33 [(3, .int z_97), (0, .ref a0), (1, .int 1), (2, .int 0)] [] w10_ 0 0
        exact mp_sub [0, 1, 2, 3] rfl [0, 1, 2, 3, 4, 5, 6, 7] rfl rfl (ih_41 (d_40 - 1) (by (first | exact mp_o977 hm_42 c_43 | omega)) z_97 g_93 (by (first | exact mp_o51 l_33 e_99 | omega)) (by (first | exact mp_o978 c_43 e_99 | omega)) p_96 (mp_cpr_st (m := 600) h_95 h_91 x_36 (by (first | exact mp_o1328 l_33 e_84 | omega)) (by (first | exact mp_o1996 l_33 e_89 | omega)) (by (first | exact mp_o2114 | omega)) (by (first | exact mp_o1375 c_43 | omega)) (by (first | exact mp_o772 l_33 e_99 | omega))) (by (first | exact mp_o978 c_43 e_99 | omega)) (by (first | exact mp_o51 l_33 e_99 | omega)) (by (first | exact mp_o979 hm_42 e_99 | omega)))
  exact mp_sub [0, 1, 2, 3] rfl [0, 1, 2, 3, 4, 5, 6, 7] rfl rfl (lp_39 _ 0 f3 (by decide) (by decide) p6 (mp_cpr_0 (by decide)) (by decide) (by decide) (Int.self_le_toNat _))
set_option maxHeartbeats 4000000 in
set_option maxRecDepth 100000 in
theorem bX10_copyRow_189 (E : mp_E) (a0 : Nat) (f0 : Nat → Int32) : mp_Ct E yX10_copyRow cX10_copyRow 5 none 0 0 0 0 [.ref a0, .int 1, .int 2, .int 0] [(mp_arI E a0 0 5 f0)] (fun v w' => ∃ h1 : Nat → Int32, v = none ∧ (h1 = mp_cpr f0 2 0 1) ∧ w' = [(mp_arI E a0 0 5 h1)]) := by
  refine mp_met false (by decide) (by decide) (Nat.le_of_ble_eq_true rfl) (fun X hF hQ => ?_)
  have hF : mp_F E X (RX10, cX10_copyRow, 5, (0, 0, 0, 0), none, false) := hF
  show mp_W E X 5 0 [(0, .ref a0), (1, .int 1), (2, .int 2), (3, .int 0)] [] [(mp_arI E a0 0 5 f0)] 0 0
  refine mp_run mp_k_cX10_copyRow_ok hF mp_tabX10_ok [mp_c (.iconst 0) 0, mp_i (.istore 4)] (by decide +kernel) ?_
  show mp_W E X 5 3 [(4, .int 0), (0, .ref a0), (1, .int 1), (2, .int 2), (3, .int 0)] [] [(mp_arI E a0 0 5 f0)] 0 0
  have lp_7 : ∀ (d_8 : Nat) (i_1 : Int32) (g_2 : Nat → Int32), 0 ≤ i_1.toInt → i_1.toInt ≤ 1 → (g_2 = mp_cpr f0 2 0 i_1.toInt.toNat) → (i_1.toInt ≤ 1) → -(i_1.toInt) + 1 ≤ (d_8 : Int) → mp_W E X 5 3 [(4, .int i_1), (0, .ref a0), (1, .int 1), (2, .int 2), (3, .int 0)] [] [(mp_arI E a0 0 5 g_2)] 0 0 := by
    intro d_8
    induction d_8 using Nat.strongRecOn with
    | ind d_8 ih_9 =>
      intro i_1 g_2 l_3 u_4 x_5 x_6 hm_10
      refine mp_run mp_k_cX10_copyRow_ok hF mp_tabX10_ok [mp_i (.iload 4), mp_i (.iload_n 1), mp_h (.if_icmp .ge 25) [31]] (by decide +kernel) ?_
      refine And.intro (fun c_11 => ?_) (fun c_11 => ?_)
      · have c_11 : 1 ≤ i_1.toInt := c_11
        show mp_W E X 5 31 [(4, .int i_1), (0, .ref a0), (1, .int 1), (2, .int 2), (3, .int 0)] [] [(mp_arI E a0 0 5 g_2)] 0 0
        exact mp_vret hF hQ rfl (Nat.le_of_ble_eq_true rfl) (Nat.le_of_ble_eq_true rfl) [0] (w' := [(mp_arI E a0 0 5 g_2)]) rfl rfl ⟨g_2, rfl, (by rw [show i_1.toInt.toNat = 1 by (first | exact mp_o1318 c_11 u_4 | omega)] at x_5; exact x_5), rfl⟩ (by first | exact mp_fd_ok mp_k_cX10_copyRow_ok (by decide +kernel) | decide +kernel)
      · have c_11 : i_1.toInt < 1 := c_11
        show mp_W E X 5 9 [(4, .int i_1), (0, .ref a0), (1, .int 1), (2, .int 2), (3, .int 0)] [] [(mp_arI E a0 0 5 g_2)] 0 0
        refine mp_run mp_k_cX10_copyRow_ok hF mp_tabX10_ok [mp_i (.aload_n 0), mp_i (.iload_n 1), mp_i (.iload_n 3), mp_i .imul, mp_i (.iload 4), mp_i .iadd, mp_i (.aload_n 0), mp_i (.iload_n 1), mp_i (.iload_n 2), mp_i .imul, mp_i (.iload 4), mp_i .iadd, mp_h .iaload [0], mp_h .iastore [0]] (by decide +kernel) ?_
        intro z_12 h_13
        obtain rfl : z_12 = 0 := h_13.trans (by decide)
        intro z_14 h_15
        have e_16 : z_14.toInt = 0 + i_1.toInt := mp_add (a := 0) (b := i_1.toInt) h_15 (by decide) rfl (by (first | exact mp_o1319 l_3 | omega)) (by (first | exact mp_o1320 c_11 | omega))
        intro z_17 h_18
        obtain rfl : z_17 = 2 := h_18.trans (by decide)
        intro z_19 h_20
        have e_21 : z_19.toInt = 2 + i_1.toInt := mp_add (a := 2) (b := i_1.toInt) h_20 (by decide) rfl (by (first | exact mp_o1998 l_3 | omega)) (by (first | exact mp_o1999 c_11 | omega))
        refine And.intro rfl (And.intro rfl (And.intro (vp_in_iff.mpr (by (first | exact mp_o2000 l_3 e_21 c_11 | omega))) ?_))
        intro z_22 h_23
        refine And.intro rfl (And.intro rfl (And.intro (vp_in_iff.mpr (by (first | exact mp_o1324 l_3 e_16 c_11 | omega))) ?_))
        intro g_24 h_25
        show mp_W E X 5 25 [(4, .int i_1), (0, .ref a0), (1, .int 1), (2, .int 2), (3, .int 0)] [] [(mp_arI E a0 0 5 g_24)] 0 0
        refine mp_run mp_k_cX10_copyRow_ok hF mp_tabX10_ok [mp_c (.iinc 4 1) 1, mp_h (.goto (-25)) [3]] (by decide +kernel) ?_
        intro z_26 h_27
        have e_28 : z_26.toInt = i_1.toInt + 1 := mp_add (a := i_1.toInt) (b := 1) h_27 rfl (by decide) (by (first | exact mp_o2 l_3 | omega)) (by (first | exact mp_o1325 c_11 | omega))
        show mp_W E X 5 3 [(4, .int z_26), (0, .ref a0), (1, .int 1), (2, .int 2), (3, .int 0)] [] [(mp_arI E a0 0 5 g_24)] 0 0
        exact mp_sub [0, 1, 2, 3, 4] rfl [0] rfl rfl (ih_9 (d_8 - 1) (by (first | exact mp_o1326 hm_10 c_11 | omega)) z_26 g_24 (by (first | exact mp_o51 l_3 e_28 | omega)) (by (first | exact mp_o1327 c_11 e_28 | omega)) (mp_cpr_st (m := 1) h_25 h_23 x_5 (by (first | exact mp_o1328 l_3 e_16 | omega)) (by (first | exact mp_o2001 l_3 e_21 | omega)) (by (first | exact mp_o2115 | omega)) (by (first | exact mp_o1331 c_11 | omega)) (by (first | exact mp_o772 l_3 e_28 | omega))) (by (first | exact mp_o1327 c_11 e_28 | omega)) (by (first | exact mp_o1332 l_3 e_28 | omega)))
  exact mp_sub [0, 1, 2, 3, 4] rfl [0] rfl rfl (lp_7 _ 0 f0 (by decide) (by decide) (mp_cpr_0 (by decide)) (by decide) (Int.self_le_toNat _))
set_option maxHeartbeats 4000000 in
set_option maxRecDepth 100000 in
theorem bX10_copyRow_190 (E : mp_E) (a0 : Nat) (f0 : Nat → Int32) (p0 : mp_res f0 25 5 0 0 6) (p1 : mp_res f0 25 5 1 0 99) (p2 : mp_res f0 25 5 2 0 6) (p3 : mp_res f0 25 5 3 0 10) (p4 : mp_res f0 25 5 4 0 60) : mp_Ct E yX10_copyRow cX10_copyRow 5 none 0 0 0 0 [.ref a0, .int 5, .int 2, .int 0] [(mp_arI E a0 0 25 f0)] (fun v w' => ∃ h1 : Nat → Int32, v = none ∧ mp_res h1 25 5 0 0 6 ∧ mp_res h1 25 5 1 0 99 ∧ mp_res h1 25 5 2 0 6 ∧ mp_res h1 25 5 3 0 10 ∧ mp_res h1 25 5 4 0 60 ∧ (h1 = mp_cpr f0 10 0 5) ∧ w' = [(mp_arI E a0 0 25 h1)]) := by
  refine mp_met false (by decide) (by decide) (Nat.le_of_ble_eq_true rfl) (fun X hF hQ => ?_)
  have hF : mp_F E X (RX10, cX10_copyRow, 5, (0, 0, 0, 0), none, false) := hF
  show mp_W E X 5 0 [(0, .ref a0), (1, .int 5), (2, .int 2), (3, .int 0)] [] [(mp_arI E a0 0 25 f0)] 0 0
  refine mp_run mp_k_cX10_copyRow_ok hF mp_tabX10_ok [mp_c (.iconst 0) 0, mp_i (.istore 4)] (by decide +kernel) ?_
  show mp_W E X 5 3 [(4, .int 0), (0, .ref a0), (1, .int 5), (2, .int 2), (3, .int 0)] [] [(mp_arI E a0 0 25 f0)] 0 0
  have lp_12 : ∀ (d_13 : Nat) (i_1 : Int32) (g_2 : Nat → Int32), 0 ≤ i_1.toInt → i_1.toInt ≤ 5 → mp_res g_2 25 5 0 0 6 → mp_res g_2 25 5 1 0 99 → mp_res g_2 25 5 2 0 6 → mp_res g_2 25 5 3 0 10 → mp_res g_2 25 5 4 0 60 → (g_2 = mp_cpr f0 10 0 i_1.toInt.toNat) → (i_1.toInt ≤ 5) → -(i_1.toInt) + 5 ≤ (d_13 : Int) → mp_W E X 5 3 [(4, .int i_1), (0, .ref a0), (1, .int 5), (2, .int 2), (3, .int 0)] [] [(mp_arI E a0 0 25 g_2)] 0 0 := by
    intro d_13
    induction d_13 using Nat.strongRecOn with
    | ind d_13 ih_14 =>
      intro i_1 g_2 l_3 u_4 p_5 p_6 p_7 p_8 p_9 x_10 x_11 hm_15
      refine mp_run mp_k_cX10_copyRow_ok hF mp_tabX10_ok [mp_i (.iload 4), mp_i (.iload_n 1), mp_h (.if_icmp .ge 25) [31]] (by decide +kernel) ?_
      refine And.intro (fun c_16 => ?_) (fun c_16 => ?_)
      · have c_16 : 5 ≤ i_1.toInt := c_16
        show mp_W E X 5 31 [(4, .int i_1), (0, .ref a0), (1, .int 5), (2, .int 2), (3, .int 0)] [] [(mp_arI E a0 0 25 g_2)] 0 0
        exact mp_vret hF hQ rfl (Nat.le_of_ble_eq_true rfl) (Nat.le_of_ble_eq_true rfl) [0] (w' := [(mp_arI E a0 0 25 g_2)]) rfl rfl ⟨g_2, rfl, p_5, p_6, p_7, p_8, p_9, (by rw [show i_1.toInt.toNat = 5 by (first | exact mp_o1333 c_16 u_4 | omega)] at x_10; exact x_10), rfl⟩ (by first | exact mp_fd_ok mp_k_cX10_copyRow_ok (by decide +kernel) | decide +kernel)
      · have c_16 : i_1.toInt < 5 := c_16
        show mp_W E X 5 9 [(4, .int i_1), (0, .ref a0), (1, .int 5), (2, .int 2), (3, .int 0)] [] [(mp_arI E a0 0 25 g_2)] 0 0
        refine mp_run mp_k_cX10_copyRow_ok hF mp_tabX10_ok [mp_i (.aload_n 0), mp_i (.iload_n 1), mp_i (.iload_n 3), mp_i .imul, mp_i (.iload 4), mp_i .iadd, mp_i (.aload_n 0), mp_i (.iload_n 1), mp_i (.iload_n 2), mp_i .imul, mp_i (.iload 4), mp_i .iadd, mp_h .iaload [0], mp_h .iastore [0]] (by decide +kernel) ?_
        intro z_17 h_18
        obtain rfl : z_17 = 0 := h_18.trans (by decide)
        intro z_19 h_20
        have e_21 : z_19.toInt = 0 + i_1.toInt := mp_add (a := 0) (b := i_1.toInt) h_20 (by decide) rfl (by (first | exact mp_o1319 l_3 | omega)) (by (first | exact mp_o1939 c_16 | omega))
        intro z_22 h_23
        obtain rfl : z_22 = 10 := h_23.trans (by decide)
        intro z_24 h_25
        have e_26 : z_24.toInt = 10 + i_1.toInt := mp_add (a := 10) (b := i_1.toInt) h_25 (by decide) rfl (by (first | exact mp_o816 l_3 | omega)) (by (first | exact mp_o2003 c_16 | omega))
        refine And.intro rfl (And.intro rfl (And.intro (vp_in_iff.mpr (by (first | exact mp_o2004 l_3 e_26 c_16 | omega))) ?_))
        intro z_27 h_28
        have e_29 : z_24.toInt % 5 = 0 → 0 ≤ z_27.toInt ∧ z_27.toInt ≤ 6 := mp_res_ld h_28 p_5 (by (first | exact mp_o2005 l_3 e_26 | omega)) (by (first | exact mp_o2116 c_16 e_26 | omega))
        have e_30 : z_24.toInt % 5 = 1 → 0 ≤ z_27.toInt ∧ z_27.toInt ≤ 99 := mp_res_ld h_28 p_6 (by (first | exact mp_o2005 l_3 e_26 | omega)) (by (first | exact mp_o2116 c_16 e_26 | omega))
        have e_31 : z_24.toInt % 5 = 2 → 0 ≤ z_27.toInt ∧ z_27.toInt ≤ 6 := mp_res_ld h_28 p_7 (by (first | exact mp_o2005 l_3 e_26 | omega)) (by (first | exact mp_o2116 c_16 e_26 | omega))
        have e_32 : z_24.toInt % 5 = 3 → 0 ≤ z_27.toInt ∧ z_27.toInt ≤ 10 := mp_res_ld h_28 p_8 (by (first | exact mp_o2005 l_3 e_26 | omega)) (by (first | exact mp_o2116 c_16 e_26 | omega))
        have e_33 : z_24.toInt % 5 = 4 → 0 ≤ z_27.toInt ∧ z_27.toInt ≤ 60 := mp_res_ld h_28 p_9 (by (first | exact mp_o2005 l_3 e_26 | omega)) (by (first | exact mp_o2116 c_16 e_26 | omega))
        refine And.intro rfl (And.intro rfl (And.intro (vp_in_iff.mpr (by (first | exact mp_o1940 l_3 e_21 c_16 | omega))) ?_))
        intro g_34 h_35
        have p_36 : mp_res g_34 25 5 0 0 6 := mp_res_st h_35 p_5 (by (first | exact mp_o1341 l_3 e_21 | omega)) (by (first | exact mp_o2117 e_29 e_21 e_26 | omega))
        have p_37 : mp_res g_34 25 5 1 0 99 := mp_res_st h_35 p_6 (by (first | exact mp_o1341 l_3 e_21 | omega)) (by (first | exact mp_o2118 e_30 e_21 e_26 | omega))
        have p_38 : mp_res g_34 25 5 2 0 6 := mp_res_st h_35 p_7 (by (first | exact mp_o1341 l_3 e_21 | omega)) (by (first | exact mp_o2119 e_31 e_21 e_26 | omega))
        have p_39 : mp_res g_34 25 5 3 0 10 := mp_res_st h_35 p_8 (by (first | exact mp_o1341 l_3 e_21 | omega)) (by (first | exact mp_o2120 e_32 e_21 e_26 | omega))
        have p_40 : mp_res g_34 25 5 4 0 60 := mp_res_st h_35 p_9 (by (first | exact mp_o1341 l_3 e_21 | omega)) (by (first | exact mp_o2121 e_33 e_21 e_26 | omega))
        show mp_W E X 5 25 [(4, .int i_1), (0, .ref a0), (1, .int 5), (2, .int 2), (3, .int 0)] [] [(mp_arI E a0 0 25 g_34)] 0 0
        refine mp_run mp_k_cX10_copyRow_ok hF mp_tabX10_ok [mp_c (.iinc 4 1) 1, mp_h (.goto (-25)) [3]] (by decide +kernel) ?_
        intro z_41 h_42
        have e_43 : z_41.toInt = i_1.toInt + 1 := mp_add (a := i_1.toInt) (b := 1) h_42 rfl (by decide) (by (first | exact mp_o2 l_3 | omega)) (by (first | exact mp_o1949 c_16 | omega))
        show mp_W E X 5 3 [(4, .int z_41), (0, .ref a0), (1, .int 5), (2, .int 2), (3, .int 0)] [] [(mp_arI E a0 0 25 g_34)] 0 0
        exact mp_sub [0, 1, 2, 3, 4] rfl [0] rfl rfl (ih_14 (d_13 - 1) (by (first | exact mp_o1342 hm_15 c_16 | omega)) z_41 g_34 (by (first | exact mp_o51 l_3 e_43 | omega)) (by (first | exact mp_o1344 c_16 e_43 | omega)) p_36 p_37 p_38 p_39 p_40 (mp_cpr_st (m := 5) h_35 h_28 x_10 (by (first | exact mp_o1328 l_3 e_21 | omega)) (by (first | exact mp_o2011 l_3 e_26 | omega)) (by (first | exact mp_o2122 | omega)) (by (first | exact mp_o1952 c_16 | omega)) (by (first | exact mp_o772 l_3 e_43 | omega))) (by (first | exact mp_o1344 c_16 e_43 | omega)) (by (first | exact mp_o1953 hm_15 e_43 | omega)))
  exact mp_sub [0, 1, 2, 3, 4] rfl [0] rfl rfl (lp_12 _ 0 f0 (by decide) (by decide) p0 p1 p2 p3 p4 (mp_cpr_0 (by decide)) (by decide) (Int.self_le_toNat _))
set_option maxHeartbeats 4000000 in
set_option maxRecDepth 100000 in
theorem bX10_copyRow_191 (E : mp_E) (a0 : Nat) (f0 : Nat → Int32) (p0 : mp_all f0 180 0 20) : mp_Ct E yX10_copyRow cX10_copyRow 5 none 0 0 0 0 [.ref a0, .int 36, .int 2, .int 0] [(mp_arI E a0 0 180 f0)] (fun v w' => ∃ h1 : Nat → Int32, v = none ∧ mp_all h1 180 0 20 ∧ (h1 = mp_cpr f0 72 0 36) ∧ w' = [(mp_arI E a0 0 180 h1)]) := by
  refine mp_met false (by decide) (by decide) (Nat.le_of_ble_eq_true rfl) (fun X hF hQ => ?_)
  have hF : mp_F E X (RX10, cX10_copyRow, 5, (0, 0, 0, 0), none, false) := hF
  show mp_W E X 5 0 [(0, .ref a0), (1, .int 36), (2, .int 2), (3, .int 0)] [] [(mp_arI E a0 0 180 f0)] 0 0
  refine mp_run mp_k_cX10_copyRow_ok hF mp_tabX10_ok [mp_c (.iconst 0) 0, mp_i (.istore 4)] (by decide +kernel) ?_
  show mp_W E X 5 3 [(4, .int 0), (0, .ref a0), (1, .int 36), (2, .int 2), (3, .int 0)] [] [(mp_arI E a0 0 180 f0)] 0 0
  have lp_8 : ∀ (d_9 : Nat) (i_1 : Int32) (g_2 : Nat → Int32), 0 ≤ i_1.toInt → i_1.toInt ≤ 36 → mp_all g_2 180 0 20 → (g_2 = mp_cpr f0 72 0 i_1.toInt.toNat) → (i_1.toInt ≤ 36) → -(i_1.toInt) + 36 ≤ (d_9 : Int) → mp_W E X 5 3 [(4, .int i_1), (0, .ref a0), (1, .int 36), (2, .int 2), (3, .int 0)] [] [(mp_arI E a0 0 180 g_2)] 0 0 := by
    intro d_9
    induction d_9 using Nat.strongRecOn with
    | ind d_9 ih_10 =>
      intro i_1 g_2 l_3 u_4 p_5 x_6 x_7 hm_11
      refine mp_run mp_k_cX10_copyRow_ok hF mp_tabX10_ok [mp_i (.iload 4), mp_i (.iload_n 1), mp_h (.if_icmp .ge 25) [31]] (by decide +kernel) ?_
      refine And.intro (fun c_12 => ?_) (fun c_12 => ?_)
      · have c_12 : 36 ≤ i_1.toInt := c_12
        show mp_W E X 5 31 [(4, .int i_1), (0, .ref a0), (1, .int 36), (2, .int 2), (3, .int 0)] [] [(mp_arI E a0 0 180 g_2)] 0 0
        exact mp_vret hF hQ rfl (Nat.le_of_ble_eq_true rfl) (Nat.le_of_ble_eq_true rfl) [0] (w' := [(mp_arI E a0 0 180 g_2)]) rfl rfl ⟨g_2, rfl, p_5, (by rw [show i_1.toInt.toNat = 36 by (first | exact mp_o1345 c_12 u_4 | omega)] at x_6; exact x_6), rfl⟩ (by first | exact mp_fd_ok mp_k_cX10_copyRow_ok (by decide +kernel) | decide +kernel)
      · have c_12 : i_1.toInt < 36 := c_12
        show mp_W E X 5 9 [(4, .int i_1), (0, .ref a0), (1, .int 36), (2, .int 2), (3, .int 0)] [] [(mp_arI E a0 0 180 g_2)] 0 0
        refine mp_run mp_k_cX10_copyRow_ok hF mp_tabX10_ok [mp_i (.aload_n 0), mp_i (.iload_n 1), mp_i (.iload_n 3), mp_i .imul, mp_i (.iload 4), mp_i .iadd, mp_i (.aload_n 0), mp_i (.iload_n 1), mp_i (.iload_n 2), mp_i .imul, mp_i (.iload 4), mp_i .iadd, mp_h .iaload [0], mp_h .iastore [0]] (by decide +kernel) ?_
        intro z_13 h_14
        obtain rfl : z_13 = 0 := h_14.trans (by decide)
        intro z_15 h_16
        have e_17 : z_15.toInt = 0 + i_1.toInt := mp_add (a := 0) (b := i_1.toInt) h_16 (by decide) rfl (by (first | exact mp_o1319 l_3 | omega)) (by (first | exact mp_o1956 c_12 | omega))
        intro z_18 h_19
        obtain rfl : z_18 = 72 := h_19.trans (by decide)
        intro z_20 h_21
        have e_22 : z_20.toInt = 72 + i_1.toInt := mp_add (a := 72) (b := i_1.toInt) h_21 (by decide) rfl (by (first | exact mp_o1349 l_3 | omega)) (by (first | exact mp_o2013 c_12 | omega))
        refine And.intro rfl (And.intro rfl (And.intro (vp_in_iff.mpr (by (first | exact mp_o2014 l_3 e_22 c_12 | omega))) ?_))
        intro z_23 h_24
        have e_25 : 0 ≤ z_23.toInt ∧ z_23.toInt ≤ 20 := mp_all_ld h_24 p_5 (by (first | exact mp_o2123 l_3 e_22 | omega)) (by (first | exact mp_o2124 c_12 e_22 | omega))
        refine And.intro rfl (And.intro rfl (And.intro (vp_in_iff.mpr (by (first | exact mp_o1346 l_3 e_17 c_12 | omega))) ?_))
        intro g_26 h_27
        have p_28 : mp_all g_26 180 0 20 := mp_all_st h_27 p_5 e_25.1 e_25.2
        show mp_W E X 5 25 [(4, .int i_1), (0, .ref a0), (1, .int 36), (2, .int 2), (3, .int 0)] [] [(mp_arI E a0 0 180 g_26)] 0 0
        refine mp_run mp_k_cX10_copyRow_ok hF mp_tabX10_ok [mp_c (.iinc 4 1) 1, mp_h (.goto (-25)) [3]] (by decide +kernel) ?_
        intro z_29 h_30
        have e_31 : z_29.toInt = i_1.toInt + 1 := mp_add (a := i_1.toInt) (b := 1) h_30 rfl (by decide) (by (first | exact mp_o2 l_3 | omega)) (by (first | exact mp_o49 c_12 | omega))
        show mp_W E X 5 3 [(4, .int z_29), (0, .ref a0), (1, .int 36), (2, .int 2), (3, .int 0)] [] [(mp_arI E a0 0 180 g_26)] 0 0
        exact mp_sub [0, 1, 2, 3, 4] rfl [0] rfl rfl (ih_10 (d_9 - 1) (by (first | exact mp_o50 hm_11 c_12 | omega)) z_29 g_26 (by (first | exact mp_o51 l_3 e_31 | omega)) (by (first | exact mp_o52 c_12 e_31 | omega)) p_28 (mp_cpr_st (m := 36) h_27 h_24 x_6 (by (first | exact mp_o1328 l_3 e_17 | omega)) (by (first | exact mp_o2015 l_3 e_22 | omega)) (by (first | exact mp_o2125 | omega)) (by (first | exact mp_o1961 c_12 | omega)) (by (first | exact mp_o772 l_3 e_31 | omega))) (by (first | exact mp_o52 c_12 e_31 | omega)) (by (first | exact mp_o54 hm_11 e_31 | omega)))
  exact mp_sub [0, 1, 2, 3, 4] rfl [0] rfl rfl (lp_8 _ 0 f0 (by decide) (by decide) p0 (mp_cpr_0 (by decide)) (by decide) (Int.self_le_toNat _))
set_option maxHeartbeats 4000000 in
set_option maxRecDepth 100000 in
theorem bX10_copyRow_192 (E : mp_E) (a0 : Nat) (f0 : Nat → Int32) (p0 : mp_res f0 90 3 0 0 5) (p1 : mp_res f0 90 3 1 (-1) 99) : mp_Ct E yX10_copyRow cX10_copyRow 5 none 0 0 0 0 [.ref a0, .int 18, .int 2, .int 0] [(mp_arI E a0 0 90 f0)] (fun v w' => ∃ h1 : Nat → Int32, v = none ∧ mp_res h1 90 3 0 0 5 ∧ mp_res h1 90 3 1 (-1) 99 ∧ (h1 = mp_cpr f0 36 0 18) ∧ w' = [(mp_arI E a0 0 90 h1)]) := by
  refine mp_met false (by decide) (by decide) (Nat.le_of_ble_eq_true rfl) (fun X hF hQ => ?_)
  have hF : mp_F E X (RX10, cX10_copyRow, 5, (0, 0, 0, 0), none, false) := hF
  show mp_W E X 5 0 [(0, .ref a0), (1, .int 18), (2, .int 2), (3, .int 0)] [] [(mp_arI E a0 0 90 f0)] 0 0
  refine mp_run mp_k_cX10_copyRow_ok hF mp_tabX10_ok [mp_c (.iconst 0) 0, mp_i (.istore 4)] (by decide +kernel) ?_
  show mp_W E X 5 3 [(4, .int 0), (0, .ref a0), (1, .int 18), (2, .int 2), (3, .int 0)] [] [(mp_arI E a0 0 90 f0)] 0 0
  have lp_9 : ∀ (d_10 : Nat) (i_1 : Int32) (g_2 : Nat → Int32), 0 ≤ i_1.toInt → i_1.toInt ≤ 20 → mp_res g_2 90 3 0 0 5 → mp_res g_2 90 3 1 (-1) 99 → (g_2 = mp_cpr f0 36 0 i_1.toInt.toNat) → (i_1.toInt ≤ 18) → -(i_1.toInt) + 18 ≤ (d_10 : Int) → mp_W E X 5 3 [(4, .int i_1), (0, .ref a0), (1, .int 18), (2, .int 2), (3, .int 0)] [] [(mp_arI E a0 0 90 g_2)] 0 0 := by
    intro d_10
    induction d_10 using Nat.strongRecOn with
    | ind d_10 ih_11 =>
      intro i_1 g_2 l_3 u_4 p_5 p_6 x_7 x_8 hm_12
      refine mp_run mp_k_cX10_copyRow_ok hF mp_tabX10_ok [mp_i (.iload 4), mp_i (.iload_n 1), mp_h (.if_icmp .ge 25) [31]] (by decide +kernel) ?_
      refine And.intro (fun c_13 => ?_) (fun c_13 => ?_)
      · have c_13 : 18 ≤ i_1.toInt := c_13
        show mp_W E X 5 31 [(4, .int i_1), (0, .ref a0), (1, .int 18), (2, .int 2), (3, .int 0)] [] [(mp_arI E a0 0 90 g_2)] 0 0
        exact mp_vret hF hQ rfl (Nat.le_of_ble_eq_true rfl) (Nat.le_of_ble_eq_true rfl) [0] (w' := [(mp_arI E a0 0 90 g_2)]) rfl rfl ⟨g_2, rfl, p_5, p_6, (by rw [show i_1.toInt.toNat = 18 by (first | exact mp_o1348 c_13 x_8 | omega)] at x_7; exact x_7), rfl⟩ (by first | exact mp_fd_ok mp_k_cX10_copyRow_ok (by decide +kernel) | decide +kernel)
      · have c_13 : i_1.toInt < 18 := c_13
        show mp_W E X 5 9 [(4, .int i_1), (0, .ref a0), (1, .int 18), (2, .int 2), (3, .int 0)] [] [(mp_arI E a0 0 90 g_2)] 0 0
        refine mp_run mp_k_cX10_copyRow_ok hF mp_tabX10_ok [mp_i (.aload_n 0), mp_i (.iload_n 1), mp_i (.iload_n 3), mp_i .imul, mp_i (.iload 4), mp_i .iadd, mp_i (.aload_n 0), mp_i (.iload_n 1), mp_i (.iload_n 2), mp_i .imul, mp_i (.iload 4), mp_i .iadd, mp_h .iaload [0], mp_h .iastore [0]] (by decide +kernel) ?_
        intro z_14 h_15
        obtain rfl : z_14 = 0 := h_15.trans (by decide)
        intro z_16 h_17
        have e_18 : z_16.toInt = 0 + i_1.toInt := mp_add (a := 0) (b := i_1.toInt) h_17 (by decide) rfl (by (first | exact mp_o1319 l_3 | omega)) (by (first | exact mp_o1964 c_13 | omega))
        intro z_19 h_20
        obtain rfl : z_19 = 36 := h_20.trans (by decide)
        intro z_21 h_22
        have e_23 : z_21.toInt = 36 + i_1.toInt := mp_add (a := 36) (b := i_1.toInt) h_22 (by decide) rfl (by (first | exact mp_o1954 l_3 | omega)) (by (first | exact mp_o2017 c_13 | omega))
        refine And.intro rfl (And.intro rfl (And.intro (vp_in_iff.mpr (by (first | exact mp_o2018 l_3 e_23 c_13 | omega))) ?_))
        intro z_24 h_25
        have e_26 : z_21.toInt % 3 = 0 → 0 ≤ z_24.toInt ∧ z_24.toInt ≤ 5 := mp_res_ld h_25 p_5 (by (first | exact mp_o2019 l_3 e_23 | omega)) (by (first | exact mp_o2126 c_13 e_23 | omega))
        have e_27 : z_21.toInt % 3 = 1 → (-1) ≤ z_24.toInt ∧ z_24.toInt ≤ 99 := mp_res_ld h_25 p_6 (by (first | exact mp_o2019 l_3 e_23 | omega)) (by (first | exact mp_o2126 c_13 e_23 | omega))
        refine And.intro rfl (And.intro rfl (And.intro (vp_in_iff.mpr (by (first | exact mp_o1353 l_3 e_18 c_13 | omega))) ?_))
        intro g_28 h_29
        have p_30 : mp_res g_28 90 3 0 0 5 := mp_res_st h_29 p_5 (by (first | exact mp_o1341 l_3 e_18 | omega)) (by (first | exact mp_o2127 e_26 e_18 e_23 | omega))
        have p_31 : mp_res g_28 90 3 1 (-1) 99 := mp_res_st h_29 p_6 (by (first | exact mp_o1341 l_3 e_18 | omega)) (by (first | exact mp_o2128 e_27 e_18 e_23 | omega))
        show mp_W E X 5 25 [(4, .int i_1), (0, .ref a0), (1, .int 18), (2, .int 2), (3, .int 0)] [] [(mp_arI E a0 0 90 g_28)] 0 0
        refine mp_run mp_k_cX10_copyRow_ok hF mp_tabX10_ok [mp_c (.iinc 4 1) 1, mp_h (.goto (-25)) [3]] (by decide +kernel) ?_
        intro z_32 h_33
        have e_34 : z_32.toInt = i_1.toInt + 1 := mp_add (a := i_1.toInt) (b := 1) h_33 rfl (by decide) (by (first | exact mp_o2 l_3 | omega)) (by (first | exact mp_o1970 c_13 | omega))
        show mp_W E X 5 3 [(4, .int z_32), (0, .ref a0), (1, .int 18), (2, .int 2), (3, .int 0)] [] [(mp_arI E a0 0 90 g_28)] 0 0
        exact mp_sub [0, 1, 2, 3, 4] rfl [0] rfl rfl (ih_11 (d_10 - 1) (by (first | exact mp_o1354 hm_12 c_13 | omega)) z_32 g_28 (by (first | exact mp_o51 l_3 e_34 | omega)) (by (first | exact mp_o1356 c_13 e_34 | omega)) p_30 p_31 (mp_cpr_st (m := 18) h_29 h_25 x_7 (by (first | exact mp_o1328 l_3 e_18 | omega)) (by (first | exact mp_o1959 l_3 e_23 | omega)) (by (first | exact mp_o2129 | omega)) (by (first | exact mp_o1973 c_13 | omega)) (by (first | exact mp_o772 l_3 e_34 | omega))) (by (first | exact mp_o1974 c_13 e_34 | omega)) (by (first | exact mp_o1975 hm_12 e_34 | omega)))
  exact mp_sub [0, 1, 2, 3, 4] rfl [0] rfl rfl (lp_9 _ 0 f0 (by decide) (by decide) p0 p1 (mp_cpr_0 (by decide)) (by decide) (Int.self_le_toNat _))
set_option maxHeartbeats 4000000 in
set_option maxRecDepth 100000 in
theorem bX10_copyRow_193 (E : mp_E) (a0 : Nat) (f0 : Nat → Int32) (p0 : mp_res f0 300 6 0 0 5) (p1 : mp_res f0 300 6 1 0 5) (p2 : mp_res f0 300 6 3 0 99) (p3 : mp_res f0 300 6 4 0 1) : mp_Ct E yX10_copyRow cX10_copyRow 5 none 0 0 0 0 [.ref a0, .int 60, .int 2, .int 0] [(mp_arI E a0 0 300 f0)] (fun v w' => ∃ h1 : Nat → Int32, v = none ∧ mp_res h1 300 6 0 0 5 ∧ mp_res h1 300 6 1 0 5 ∧ mp_res h1 300 6 3 0 99 ∧ mp_res h1 300 6 4 0 1 ∧ (h1 = mp_cpr f0 120 0 60) ∧ w' = [(mp_arI E a0 0 300 h1)]) := by
  refine mp_met false (by decide) (by decide) (Nat.le_of_ble_eq_true rfl) (fun X hF hQ => ?_)
  have hF : mp_F E X (RX10, cX10_copyRow, 5, (0, 0, 0, 0), none, false) := hF
  show mp_W E X 5 0 [(0, .ref a0), (1, .int 60), (2, .int 2), (3, .int 0)] [] [(mp_arI E a0 0 300 f0)] 0 0
  refine mp_run mp_k_cX10_copyRow_ok hF mp_tabX10_ok [mp_c (.iconst 0) 0, mp_i (.istore 4)] (by decide +kernel) ?_
  show mp_W E X 5 3 [(4, .int 0), (0, .ref a0), (1, .int 60), (2, .int 2), (3, .int 0)] [] [(mp_arI E a0 0 300 f0)] 0 0
  have lp_11 : ∀ (d_12 : Nat) (i_1 : Int32) (g_2 : Nat → Int32), 0 ≤ i_1.toInt → i_1.toInt ≤ 60 → mp_res g_2 300 6 0 0 5 → mp_res g_2 300 6 1 0 5 → mp_res g_2 300 6 3 0 99 → mp_res g_2 300 6 4 0 1 → (g_2 = mp_cpr f0 120 0 i_1.toInt.toNat) → (i_1.toInt ≤ 60) → -(i_1.toInt) + 60 ≤ (d_12 : Int) → mp_W E X 5 3 [(4, .int i_1), (0, .ref a0), (1, .int 60), (2, .int 2), (3, .int 0)] [] [(mp_arI E a0 0 300 g_2)] 0 0 := by
    intro d_12
    induction d_12 using Nat.strongRecOn with
    | ind d_12 ih_13 =>
      intro i_1 g_2 l_3 u_4 p_5 p_6 p_7 p_8 x_9 x_10 hm_14
      refine mp_run mp_k_cX10_copyRow_ok hF mp_tabX10_ok [mp_i (.iload 4), mp_i (.iload_n 1), mp_h (.if_icmp .ge 25) [31]] (by decide +kernel) ?_
      refine And.intro (fun c_15 => ?_) (fun c_15 => ?_)
      · have c_15 : 60 ≤ i_1.toInt := c_15
        show mp_W E X 5 31 [(4, .int i_1), (0, .ref a0), (1, .int 60), (2, .int 2), (3, .int 0)] [] [(mp_arI E a0 0 300 g_2)] 0 0
        exact mp_vret hF hQ rfl (Nat.le_of_ble_eq_true rfl) (Nat.le_of_ble_eq_true rfl) [0] (w' := [(mp_arI E a0 0 300 g_2)]) rfl rfl ⟨g_2, rfl, p_5, p_6, p_7, p_8, (by rw [show i_1.toInt.toNat = 60 by (first | exact mp_o1357 c_15 u_4 | omega)] at x_9; exact x_9), rfl⟩ (by first | exact mp_fd_ok mp_k_cX10_copyRow_ok (by decide +kernel) | decide +kernel)
      · have c_15 : i_1.toInt < 60 := c_15
        show mp_W E X 5 9 [(4, .int i_1), (0, .ref a0), (1, .int 60), (2, .int 2), (3, .int 0)] [] [(mp_arI E a0 0 300 g_2)] 0 0
        refine mp_run mp_k_cX10_copyRow_ok hF mp_tabX10_ok [mp_i (.aload_n 0), mp_i (.iload_n 1), mp_i (.iload_n 3), mp_i .imul, mp_i (.iload 4), mp_i .iadd, mp_i (.aload_n 0), mp_i (.iload_n 1), mp_i (.iload_n 2), mp_i .imul, mp_i (.iload 4), mp_i .iadd, mp_h .iaload [0], mp_h .iastore [0]] (by decide +kernel) ?_
        intro z_16 h_17
        obtain rfl : z_16 = 0 := h_17.trans (by decide)
        intro z_18 h_19
        have e_20 : z_18.toInt = 0 + i_1.toInt := mp_add (a := 0) (b := i_1.toInt) h_19 (by decide) rfl (by (first | exact mp_o1319 l_3 | omega)) (by (first | exact mp_o1978 c_15 | omega))
        intro z_21 h_22
        obtain rfl : z_21 = 120 := h_22.trans (by decide)
        intro z_23 h_24
        have e_25 : z_23.toInt = 120 + i_1.toInt := mp_add (a := 120) (b := i_1.toInt) h_24 (by decide) rfl (by (first | exact mp_o2023 l_3 | omega)) (by (first | exact mp_o2024 c_15 | omega))
        refine And.intro rfl (And.intro rfl (And.intro (vp_in_iff.mpr (by (first | exact mp_o2025 l_3 e_25 c_15 | omega))) ?_))
        intro z_26 h_27
        have e_28 : z_23.toInt % 6 = 0 → 0 ≤ z_26.toInt ∧ z_26.toInt ≤ 5 := mp_res_ld h_27 p_5 (by (first | exact mp_o2026 l_3 e_25 | omega)) (by (first | exact mp_o2130 c_15 e_25 | omega))
        have e_29 : z_23.toInt % 6 = 1 → 0 ≤ z_26.toInt ∧ z_26.toInt ≤ 5 := mp_res_ld h_27 p_6 (by (first | exact mp_o2026 l_3 e_25 | omega)) (by (first | exact mp_o2130 c_15 e_25 | omega))
        have e_30 : z_23.toInt % 6 = 3 → 0 ≤ z_26.toInt ∧ z_26.toInt ≤ 99 := mp_res_ld h_27 p_7 (by (first | exact mp_o2026 l_3 e_25 | omega)) (by (first | exact mp_o2130 c_15 e_25 | omega))
        have e_31 : z_23.toInt % 6 = 4 → 0 ≤ z_26.toInt ∧ z_26.toInt ≤ 1 := mp_res_ld h_27 p_8 (by (first | exact mp_o2026 l_3 e_25 | omega)) (by (first | exact mp_o2130 c_15 e_25 | omega))
        refine And.intro rfl (And.intro rfl (And.intro (vp_in_iff.mpr (by (first | exact mp_o1979 l_3 e_20 c_15 | omega))) ?_))
        intro g_32 h_33
        have p_34 : mp_res g_32 300 6 0 0 5 := mp_res_st h_33 p_5 (by (first | exact mp_o1341 l_3 e_20 | omega)) (by (first | exact mp_o2131 e_28 e_20 e_25 | omega))
        have p_35 : mp_res g_32 300 6 1 0 5 := mp_res_st h_33 p_6 (by (first | exact mp_o1341 l_3 e_20 | omega)) (by (first | exact mp_o2132 e_29 e_20 e_25 | omega))
        have p_36 : mp_res g_32 300 6 3 0 99 := mp_res_st h_33 p_7 (by (first | exact mp_o1341 l_3 e_20 | omega)) (by (first | exact mp_o2133 e_30 e_20 e_25 | omega))
        have p_37 : mp_res g_32 300 6 4 0 1 := mp_res_st h_33 p_8 (by (first | exact mp_o1341 l_3 e_20 | omega)) (by (first | exact mp_o2134 e_31 e_20 e_25 | omega))
        show mp_W E X 5 25 [(4, .int i_1), (0, .ref a0), (1, .int 60), (2, .int 2), (3, .int 0)] [] [(mp_arI E a0 0 300 g_32)] 0 0
        refine mp_run mp_k_cX10_copyRow_ok hF mp_tabX10_ok [mp_c (.iinc 4 1) 1, mp_h (.goto (-25)) [3]] (by decide +kernel) ?_
        intro z_38 h_39
        have e_40 : z_38.toInt = i_1.toInt + 1 := mp_add (a := i_1.toInt) (b := 1) h_39 rfl (by decide) (by (first | exact mp_o2 l_3 | omega)) (by (first | exact mp_o480 c_15 | omega))
        show mp_W E X 5 3 [(4, .int z_38), (0, .ref a0), (1, .int 60), (2, .int 2), (3, .int 0)] [] [(mp_arI E a0 0 300 g_32)] 0 0
        exact mp_sub [0, 1, 2, 3, 4] rfl [0] rfl rfl (ih_13 (d_12 - 1) (by (first | exact mp_o1364 hm_14 c_15 | omega)) z_38 g_32 (by (first | exact mp_o51 l_3 e_40 | omega)) (by (first | exact mp_o481 c_15 e_40 | omega)) p_34 p_35 p_36 p_37 (mp_cpr_st (m := 60) h_33 h_27 x_9 (by (first | exact mp_o1328 l_3 e_20 | omega)) (by (first | exact mp_o2031 l_3 e_25 | omega)) (by (first | exact mp_o2135 | omega)) (by (first | exact mp_o1989 c_15 | omega)) (by (first | exact mp_o772 l_3 e_40 | omega))) (by (first | exact mp_o481 c_15 e_40 | omega)) (by (first | exact mp_o1990 hm_14 e_40 | omega)))
  exact mp_sub [0, 1, 2, 3, 4] rfl [0] rfl rfl (lp_11 _ 0 f0 (by decide) (by decide) p0 p1 p2 p3 (mp_cpr_0 (by decide)) (by decide) (Int.self_le_toNat _))
set_option maxHeartbeats 4000000 in
set_option maxRecDepth 100000 in
theorem bX10_copyRow_194 (E : mp_E) (a0 : Nat) (f0 : Nat → Int32) (p0 : mp_actm f0) : mp_Ct E yX10_copyRow cX10_copyRow 5 none 0 0 0 0 [.ref a0, .int 60, .int 2, .int 0] [(mp_arI E a0 0 300 f0)] (fun v w' => ∃ h1 : Nat → Int32, v = none ∧ mp_actm h1 ∧ (h1 = mp_cpr f0 120 0 60) ∧ w' = [(mp_arI E a0 0 300 h1)]) := by
  refine mp_met false (by decide) (by decide) (Nat.le_of_ble_eq_true rfl) (fun X hF hQ => ?_)
  have hF : mp_F E X (RX10, cX10_copyRow, 5, (0, 0, 0, 0), none, false) := hF
  show mp_W E X 5 0 [(0, .ref a0), (1, .int 60), (2, .int 2), (3, .int 0)] [] [(mp_arI E a0 0 300 f0)] 0 0
  refine mp_run mp_k_cX10_copyRow_ok hF mp_tabX10_ok [mp_c (.iconst 0) 0, mp_i (.istore 4)] (by decide +kernel) ?_
  show mp_W E X 5 3 [(4, .int 0), (0, .ref a0), (1, .int 60), (2, .int 2), (3, .int 0)] [] [(mp_arI E a0 0 300 f0)] 0 0
  have lp_8 : ∀ (d_9 : Nat) (i_1 : Int32) (g_2 : Nat → Int32), 0 ≤ i_1.toInt → i_1.toInt ≤ 60 → mp_actm g_2 → (g_2 = mp_cpr f0 120 0 i_1.toInt.toNat) → (i_1.toInt ≤ 60) → -(i_1.toInt) + 60 ≤ (d_9 : Int) → mp_W E X 5 3 [(4, .int i_1), (0, .ref a0), (1, .int 60), (2, .int 2), (3, .int 0)] [] [(mp_arI E a0 0 300 g_2)] 0 0 := by
    intro d_9
    induction d_9 using Nat.strongRecOn with
    | ind d_9 ih_10 =>
      intro i_1 g_2 l_3 u_4 p_5 x_6 x_7 hm_11
      refine mp_run mp_k_cX10_copyRow_ok hF mp_tabX10_ok [mp_i (.iload 4), mp_i (.iload_n 1), mp_h (.if_icmp .ge 25) [31]] (by decide +kernel) ?_
      refine And.intro (fun c_12 => ?_) (fun c_12 => ?_)
      · have c_12 : 60 ≤ i_1.toInt := c_12
        show mp_W E X 5 31 [(4, .int i_1), (0, .ref a0), (1, .int 60), (2, .int 2), (3, .int 0)] [] [(mp_arI E a0 0 300 g_2)] 0 0
        exact mp_vret hF hQ rfl (Nat.le_of_ble_eq_true rfl) (Nat.le_of_ble_eq_true rfl) [0] (w' := [(mp_arI E a0 0 300 g_2)]) rfl rfl ⟨g_2, rfl, p_5, (by rw [show i_1.toInt.toNat = 60 by omega] at x_6; exact x_6), rfl⟩ (by first | exact mp_fd_ok mp_k_cX10_copyRow_ok (by decide +kernel) | decide +kernel)
      · have c_12 : i_1.toInt < 60 := c_12
        show mp_W E X 5 9 [(4, .int i_1), (0, .ref a0), (1, .int 60), (2, .int 2), (3, .int 0)] [] [(mp_arI E a0 0 300 g_2)] 0 0
        refine mp_run mp_k_cX10_copyRow_ok hF mp_tabX10_ok [mp_i (.aload_n 0), mp_i (.iload_n 1), mp_i (.iload_n 3), mp_i .imul, mp_i (.iload 4), mp_i .iadd, mp_i (.aload_n 0), mp_i (.iload_n 1), mp_i (.iload_n 2), mp_i .imul, mp_i (.iload 4), mp_i .iadd, mp_h .iaload [0], mp_h .iastore [0]] (by decide +kernel) ?_
        intro z_13 h_14
        obtain rfl : z_13 = 0 := h_14.trans (by decide)
        intro z_15 h_16
        have e_17 : z_15.toInt = 0 + i_1.toInt := mp_add (a := 0) (b := i_1.toInt) h_16 (by decide) rfl (by omega) (by omega)
        intro z_18 h_19
        obtain rfl : z_18 = 120 := h_19.trans (by decide)
        intro z_20 h_21
        have e_22 : z_20.toInt = 120 + i_1.toInt := mp_add (a := 120) (b := i_1.toInt) h_21 (by decide) rfl (by omega) (by omega)
        refine And.intro rfl (And.intro rfl (And.intro (vp_in_iff.mpr (by omega)) ?_))
        intro z_23 h_24
        have e_25 := mp_actm_ld h_24 p_5 (by omega) (by (first | exact mp_o2136 c_12 e_22 | omega))
        refine And.intro rfl (And.intro rfl (And.intro (vp_in_iff.mpr (by omega)) ?_))
        intro g_26 h_27
        have p_28 : mp_actm g_26 := mp_actm_st h_27 p_5 (by (first | exact e_25 | omega))
        show mp_W E X 5 25 [(4, .int i_1), (0, .ref a0), (1, .int 60), (2, .int 2), (3, .int 0)] [] [(mp_arI E a0 0 300 g_26)] 0 0
        refine mp_run mp_k_cX10_copyRow_ok hF mp_tabX10_ok [mp_c (.iinc 4 1) 1, mp_h (.goto (-25)) [3]] (by decide +kernel) ?_
        intro z_29 h_30
        have e_31 : z_29.toInt = i_1.toInt + 1 := mp_add (a := i_1.toInt) (b := 1) h_30 rfl (by decide) (by omega) (by omega)
        show mp_W E X 5 3 [(4, .int z_29), (0, .ref a0), (1, .int 60), (2, .int 2), (3, .int 0)] [] [(mp_arI E a0 0 300 g_26)] 0 0
        exact mp_sub [0, 1, 2, 3, 4] rfl [0] rfl rfl (ih_10 (d_9 - 1) (by omega) z_29 g_26 (by omega) (by omega) p_28 (mp_cpr_st (m := 60) h_27 h_24 x_6 (by omega) (by omega) (by omega) (by omega) (by omega)) (by omega) (by omega))
  exact mp_sub [0, 1, 2, 3, 4] rfl [0] rfl rfl (lp_8 _ 0 f0 (by decide) (by decide) p0 (mp_cpr_0 (by decide)) (by decide) (Int.self_le_toNat _))
set_option maxHeartbeats 4000000 in
set_option maxRecDepth 100000 in
theorem bX10_copyIsles_195 (E : mp_E) (a0 a1 a2 a3 a4 a5 a6 a7 a8 a9 a10 a11 a12 a13 a14 a15 a16 a17 a18 a19 a20 a21 a22 a23 a24 a25 : Nat) (f0 : Nat → Int32) (f1 : Nat → Int32) (f2 : Nat → Int32) (f3 : Nat → Int32) (f4 : Nat → Int32) (f5 : Nat → Int32) (f6 : Nat → Int32) (y0 : Int32) (y1 : Int32) (y2 : Int32) (y3 : Int32) (y4 : Int32) (y5 : Int32) (y6 : Int64) (y7 : Int32) (y8 : Int32) (y9 : Int32) (y10 : Int32) (y11 : Int32) (y12 : Int32) (y13 : Int32) (y14 : Int32) (y15 : Int32) (y16 : Int32) (y17 : Int32) (y18 : Int32) (y19 : Int32) (y20 : Int32) (y21 : Int32) (p0 : mp_res f1 25 5 0 0 6) (p1 : mp_res f1 25 5 1 0 99) (p2 : mp_res f1 25 5 2 0 6) (p3 : mp_res f1 25 5 3 0 10) (p4 : mp_res f1 25 5 4 0 60) (p5 : mp_all f2 180 0 20) (p6 : mp_all f3 3000 0 1) (p7 : mp_res f4 90 3 0 0 5) (p8 : mp_res f4 90 3 1 (-1) 99) (p9 : mp_res f5 300 6 0 0 5) (p10 : mp_res f5 300 6 1 0 5) (p11 : mp_res f5 300 6 3 0 99) (p12 : mp_res f5 300 6 4 0 1) (p13 : mp_actm f6) (l_y1 : 0 ≤ y1.toInt) (u_y1 : y1.toInt ≤ 1600) (l_y2 : 0 ≤ y2.toInt) (u_y2 : y2.toInt ≤ 1600) (l_y3 : 0 ≤ y3.toInt) (u_y3 : y3.toInt ≤ 4) (l_y4 : 0 ≤ y4.toInt) (u_y4 : y4.toInt ≤ 1600) (l_y11 : 0 ≤ y11.toInt) (u_y11 : y11.toInt ≤ 99) (l_y12 : 0 ≤ y12.toInt) (u_y12 : y12.toInt ≤ 5) (l_y13 : 0 ≤ y13.toInt) (u_y13 : y13.toInt ≤ 12) : mp_Ct E yX10_copyIsles cX10_copyIsles 4 none 1 0 0 24 [.ref a0, .int 2, .int 0] [(mp_ob10 a0 y0 a8 a9 a10 a11 a12 y1 y2 y3 y4 y5 y6 y7 y8 y9 y10 a1 a2 a3 a4 a5 a6 a7 a13 y11 a14 a15 a16 a17 y12 y13 y14 a18 a19 y15 y16 a20 a21 a22 y17 y18 y19 y20 a23 a24 a25 y21), (mp_arI E a1 0 5 f0), (mp_arI E a2 0 25 f1), (mp_arI E a3 0 180 f2), (mp_arI E a4 3 3000 f3), (mp_arI E a5 0 90 f4), (mp_arI E a6 0 300 f5), (mp_arI E a7 0 300 f6)] (fun v w' => ∃ h1 : Nat → Int32, ∃ h2 : Nat → Int32, ∃ h3 : Nat → Int32, ∃ h4 : Nat → Int32, ∃ h5 : Nat → Int32, ∃ h6 : Nat → Int32, ∃ h7 : Nat → Int32, v = none ∧ mp_res h2 25 5 0 0 6 ∧ mp_res h2 25 5 1 0 99 ∧ mp_res h2 25 5 2 0 6 ∧ mp_res h2 25 5 3 0 10 ∧ mp_res h2 25 5 4 0 60 ∧ mp_all h3 180 0 20 ∧ mp_all h4 3000 0 1 ∧ mp_res h5 90 3 0 0 5 ∧ mp_res h5 90 3 1 (-1) 99 ∧ mp_res h6 300 6 0 0 5 ∧ mp_res h6 300 6 1 0 5 ∧ mp_res h6 300 6 3 0 99 ∧ mp_res h6 300 6 4 0 1 ∧ mp_actm h7 ∧ (h1 = mp_cpr f0 2 0 1) ∧ (h2 = mp_cpr f1 10 0 5) ∧ (h3 = mp_cpr f2 72 0 36) ∧ (h5 = mp_cpr f4 36 0 18) ∧ (h6 = mp_cpr f5 120 0 60) ∧ (h7 = mp_cpr f6 120 0 60) ∧ (h4 = mp_cpr f3 1200 0 600) ∧ w' = [(mp_ob10 a0 y0 a8 a9 a10 a11 a12 y1 y2 y3 y4 y5 y6 y7 y8 y9 y10 a1 a2 a3 a4 a5 a6 a7 a13 y11 a14 a15 a16 a17 y12 y13 y14 a18 a19 y15 y16 a20 a21 a22 y17 y18 y19 y20 a23 a24 a25 y21), (mp_arI E a1 0 5 h1), (mp_arI E a2 0 25 h2), (mp_arI E a3 0 180 h3), (mp_arI E a4 3 3000 h4), (mp_arI E a5 0 90 h5), (mp_arI E a6 0 300 h6), (mp_arI E a7 0 300 h7)]) := by
  refine mp_met false (by decide) (by decide) (Nat.le_of_ble_eq_true rfl) (fun X hF hQ => ?_)
  have hF : mp_F E X (RX10, cX10_copyIsles, 4, (1, 0, 0, 24), none, false) := hF
  let w1_ : va_W := [(mp_ob10 a0 y0 a8 a9 a10 a11 a12 y1 y2 y3 y4 y5 y6 y7 y8 y9 y10 a1 a2 a3 a4 a5 a6 a7 a13 y11 a14 a15 a16 a17 y12 y13 y14 a18 a19 y15 y16 a20 a21 a22 y17 y18 y19 y20 a23 a24 a25 y21), (mp_arI E a1 0 5 f0), (mp_arI E a2 0 25 f1), (mp_arI E a3 0 180 f2), (mp_arI E a4 3 3000 f3), (mp_arI E a5 0 90 f4), (mp_arI E a6 0 300 f5), (mp_arI E a7 0 300 f6)]
  show mp_W E X 4 0 [(0, .ref a0), (1, .int 2), (2, .int 0)] [] w1_ 0 0
  refine mp_run mp_k_cX10_copyIsles_ok hF mp_tabX10_ok [mp_i (.aload_n 0), mp_h (.getfield 31) [16, 0], mp_c (.iconst 1) 1, mp_i (.iload_n 1), mp_i (.iload_n 2)] (by decide +kernel) ?_
  refine And.intro rfl (And.intro rfl ?_)
  show mp_W E X 4 7 [(0, .ref a0), (1, .int 2), (2, .int 0)] [.int 0, .int 2, .int 1, .ref a1] w1_ 0 0
  refine mp_callS hF (As := [.ref a1, .int 1, .int 2, .int 0]) (rest := []) (wr := [(mp_ob10 a0 y0 a8 a9 a10 a11 a12 y1 y2 y3 y4 y5 y6 y7 y8 y9 y10 a1 a2 a3 a4 a5 a6 a7 a13 y11 a14 a15 a16 a17 y12 y13 y14 a18 a19 y15 y16 a20 a21 a22 y17 y18 y19 y20 a23 a24 a25 y21), (mp_arI E a2 0 25 f1), (mp_arI E a3 0 180 f2), (mp_arI E a4 3 3000 f3), (mp_arI E a5 0 90 f4), (mp_arI E a6 0 300 f5), (mp_arI E a7 0 300 f6)]) (bX10_copyRow_189 E a1 f0) mp_lkX10_251 [1] [0, 2, 3, 4, 5, 6, 7] rfl rfl rfl rfl rfl ⟨(Nat.le_of_ble_eq_true rfl), (Nat.le_of_ble_eq_true rfl), (Nat.le_of_ble_eq_true rfl), (Nat.le_of_ble_eq_true rfl)⟩ (Nat.le_of_ble_eq_true rfl) (by first | exact mp_fd_ok mp_k_cX10_copyIsles_ok (by decide +kernel) | decide +kernel) (fun v_1 w_2 h_3 => ?_)
  obtain ⟨g_4, rfl, x_5, rfl⟩ := h_3
  let w2_ : va_W := [(mp_ob10 a0 y0 a8 a9 a10 a11 a12 y1 y2 y3 y4 y5 y6 y7 y8 y9 y10 a1 a2 a3 a4 a5 a6 a7 a13 y11 a14 a15 a16 a17 y12 y13 y14 a18 a19 y15 y16 a20 a21 a22 y17 y18 y19 y20 a23 a24 a25 y21), (mp_arI E a2 0 25 f1), (mp_arI E a3 0 180 f2), (mp_arI E a4 3 3000 f3), (mp_arI E a5 0 90 f4), (mp_arI E a6 0 300 f5), (mp_arI E a7 0 300 f6), (mp_arI E a1 0 5 g_4)]
  show mp_W E X 4 10 [(0, .ref a0), (1, .int 2), (2, .int 0)] [] w2_ 0 0
  refine mp_run mp_k_cX10_copyIsles_ok hF mp_tabX10_ok [mp_i (.aload_n 0), mp_h (.getfield 34) [17, 0], mp_c (.iconst 5) 5, mp_i (.iload_n 1), mp_i (.iload_n 2)] (by decide +kernel) ?_
  refine And.intro rfl (And.intro rfl ?_)
  show mp_W E X 4 17 [(0, .ref a0), (1, .int 2), (2, .int 0)] [.int 0, .int 2, .int 5, .ref a2] w2_ 0 0
  refine mp_callS hF (As := [.ref a2, .int 5, .int 2, .int 0]) (rest := []) (wr := [(mp_ob10 a0 y0 a8 a9 a10 a11 a12 y1 y2 y3 y4 y5 y6 y7 y8 y9 y10 a1 a2 a3 a4 a5 a6 a7 a13 y11 a14 a15 a16 a17 y12 y13 y14 a18 a19 y15 y16 a20 a21 a22 y17 y18 y19 y20 a23 a24 a25 y21), (mp_arI E a3 0 180 f2), (mp_arI E a4 3 3000 f3), (mp_arI E a5 0 90 f4), (mp_arI E a6 0 300 f5), (mp_arI E a7 0 300 f6), (mp_arI E a1 0 5 g_4)]) (bX10_copyRow_190 E a2 f1 p0 p1 p2 p3 p4) mp_lkX10_251 [1] [0, 2, 3, 4, 5, 6, 7] rfl rfl rfl rfl rfl ⟨(Nat.le_of_ble_eq_true rfl), (Nat.le_of_ble_eq_true rfl), (Nat.le_of_ble_eq_true rfl), (Nat.le_of_ble_eq_true rfl)⟩ (Nat.le_of_ble_eq_true rfl) (by first | exact mp_fd_ok mp_k_cX10_copyIsles_ok (by decide +kernel) | decide +kernel) (fun v_6 w_7 h_8 => ?_)
  refine h_8.elim fun g_9 q_16 => q_16.elim fun e_17 q_18 => q_18.elim fun p_10 q_19 => q_19.elim fun p_11 q_20 => q_20.elim fun p_12 q_21 => q_21.elim fun p_13 q_22 => q_22.elim fun p_14 q_23 => q_23.elim fun x_15 e_24 => ?_
  clear h_8 q_16 q_18 q_19 q_20 q_21 q_22 q_23
  subst e_17
  subst e_24
  let w3_ : va_W := [(mp_ob10 a0 y0 a8 a9 a10 a11 a12 y1 y2 y3 y4 y5 y6 y7 y8 y9 y10 a1 a2 a3 a4 a5 a6 a7 a13 y11 a14 a15 a16 a17 y12 y13 y14 a18 a19 y15 y16 a20 a21 a22 y17 y18 y19 y20 a23 a24 a25 y21), (mp_arI E a3 0 180 f2), (mp_arI E a4 3 3000 f3), (mp_arI E a5 0 90 f4), (mp_arI E a6 0 300 f5), (mp_arI E a7 0 300 f6), (mp_arI E a1 0 5 g_4), (mp_arI E a2 0 25 g_9)]
  show mp_W E X 4 20 [(0, .ref a0), (1, .int 2), (2, .int 0)] [] w3_ 0 0
  refine mp_run mp_k_cX10_copyIsles_ok hF mp_tabX10_ok [mp_i (.aload_n 0), mp_h (.getfield 37) [18, 0], mp_c (.bipush 36) 36, mp_i (.iload_n 1), mp_i (.iload_n 2)] (by decide +kernel) ?_
  refine And.intro rfl (And.intro rfl ?_)
  show mp_W E X 4 28 [(0, .ref a0), (1, .int 2), (2, .int 0)] [.int 0, .int 2, .int 36, .ref a3] w3_ 0 0
  refine mp_callS hF (As := [.ref a3, .int 36, .int 2, .int 0]) (rest := []) (wr := [(mp_ob10 a0 y0 a8 a9 a10 a11 a12 y1 y2 y3 y4 y5 y6 y7 y8 y9 y10 a1 a2 a3 a4 a5 a6 a7 a13 y11 a14 a15 a16 a17 y12 y13 y14 a18 a19 y15 y16 a20 a21 a22 y17 y18 y19 y20 a23 a24 a25 y21), (mp_arI E a4 3 3000 f3), (mp_arI E a5 0 90 f4), (mp_arI E a6 0 300 f5), (mp_arI E a7 0 300 f6), (mp_arI E a1 0 5 g_4), (mp_arI E a2 0 25 g_9)]) (bX10_copyRow_191 E a3 f2 p5) mp_lkX10_251 [1] [0, 2, 3, 4, 5, 6, 7] rfl rfl rfl rfl rfl ⟨(Nat.le_of_ble_eq_true rfl), (Nat.le_of_ble_eq_true rfl), (Nat.le_of_ble_eq_true rfl), (Nat.le_of_ble_eq_true rfl)⟩ (Nat.le_of_ble_eq_true rfl) (by first | exact mp_fd_ok mp_k_cX10_copyIsles_ok (by decide +kernel) | decide +kernel) (fun v_25 w_26 h_27 => ?_)
  obtain ⟨g_28, rfl, p_29, x_30, rfl⟩ := h_27
  let w4_ : va_W := [(mp_ob10 a0 y0 a8 a9 a10 a11 a12 y1 y2 y3 y4 y5 y6 y7 y8 y9 y10 a1 a2 a3 a4 a5 a6 a7 a13 y11 a14 a15 a16 a17 y12 y13 y14 a18 a19 y15 y16 a20 a21 a22 y17 y18 y19 y20 a23 a24 a25 y21), (mp_arI E a4 3 3000 f3), (mp_arI E a5 0 90 f4), (mp_arI E a6 0 300 f5), (mp_arI E a7 0 300 f6), (mp_arI E a1 0 5 g_4), (mp_arI E a2 0 25 g_9), (mp_arI E a3 0 180 g_28)]
  show mp_W E X 4 31 [(0, .ref a0), (1, .int 2), (2, .int 0)] [] w4_ 0 0
  refine mp_run mp_k_cX10_copyIsles_ok hF mp_tabX10_ok [mp_c (.iconst 0) 0, mp_i (.istore_n 3)] (by decide +kernel) ?_
  show mp_W E X 4 33 [(3, .int 0), (0, .ref a0), (1, .int 2), (2, .int 0)] [] w4_ 0 0
  have lp_39 : ∀ (d_40 : Nat) (i_31 : Int32) (g_32 : Nat → Int32), 0 ≤ i_31.toInt → i_31.toInt ≤ 600 → mp_all g_32 3000 0 1 → (g_32 = mp_cpr f3 1200 0 i_31.toInt.toNat) → (i_31.toInt ≤ 600) → (0 ≤ i_31.toInt) → -(i_31.toInt) + 600 ≤ (d_40 : Int) → mp_W E X 4 33 [(3, .int i_31), (0, .ref a0), (1, .int 2), (2, .int 0)] [] [(mp_ob10 a0 y0 a8 a9 a10 a11 a12 y1 y2 y3 y4 y5 y6 y7 y8 y9 y10 a1 a2 a3 a4 a5 a6 a7 a13 y11 a14 a15 a16 a17 y12 y13 y14 a18 a19 y15 y16 a20 a21 a22 y17 y18 y19 y20 a23 a24 a25 y21), (mp_arI E a4 3 3000 g_32), (mp_arI E a5 0 90 f4), (mp_arI E a6 0 300 f5), (mp_arI E a7 0 300 f6), (mp_arI E a1 0 5 g_4), (mp_arI E a2 0 25 g_9), (mp_arI E a3 0 180 g_28)] 0 0 := by
    intro d_40
    induction d_40 using Nat.strongRecOn with
    | ind d_40 ih_41 =>
      intro i_31 g_32 l_33 u_34 p_35 x_36 x_37 x_38 hm_42
      refine mp_run mp_k_cX10_copyIsles_ok hF mp_tabX10_ok [mp_i (.iload_n 3), mp_c (.sipush 600) 600, mp_h (.if_icmp .ge 33) [70]] (by decide +kernel) ?_
      refine And.intro (fun c_43 => ?_) (fun c_43 => ?_)
      · have c_43 : 600 ≤ i_31.toInt := c_43
        let w5_ : va_W := [(mp_ob10 a0 y0 a8 a9 a10 a11 a12 y1 y2 y3 y4 y5 y6 y7 y8 y9 y10 a1 a2 a3 a4 a5 a6 a7 a13 y11 a14 a15 a16 a17 y12 y13 y14 a18 a19 y15 y16 a20 a21 a22 y17 y18 y19 y20 a23 a24 a25 y21), (mp_arI E a4 3 3000 g_32), (mp_arI E a5 0 90 f4), (mp_arI E a6 0 300 f5), (mp_arI E a7 0 300 f6), (mp_arI E a1 0 5 g_4), (mp_arI E a2 0 25 g_9), (mp_arI E a3 0 180 g_28)]
        show mp_W E X 4 70 [(3, .int i_31), (0, .ref a0), (1, .int 2), (2, .int 0)] [] w5_ 0 0
        refine mp_run mp_k_cX10_copyIsles_ok hF mp_tabX10_ok [mp_i (.aload_n 0), mp_h (.getfield 44) [20, 0], mp_c (.bipush 18) 18, mp_i (.iload_n 1), mp_i (.iload_n 2)] (by decide +kernel) ?_
        refine And.intro rfl (And.intro rfl ?_)
        show mp_W E X 4 78 [(3, .int i_31), (0, .ref a0), (1, .int 2), (2, .int 0)] [.int 0, .int 2, .int 18, .ref a5] w5_ 0 0
        refine mp_callS hF (As := [.ref a5, .int 18, .int 2, .int 0]) (rest := []) (wr := [(mp_ob10 a0 y0 a8 a9 a10 a11 a12 y1 y2 y3 y4 y5 y6 y7 y8 y9 y10 a1 a2 a3 a4 a5 a6 a7 a13 y11 a14 a15 a16 a17 y12 y13 y14 a18 a19 y15 y16 a20 a21 a22 y17 y18 y19 y20 a23 a24 a25 y21), (mp_arI E a4 3 3000 g_32), (mp_arI E a6 0 300 f5), (mp_arI E a7 0 300 f6), (mp_arI E a1 0 5 g_4), (mp_arI E a2 0 25 g_9), (mp_arI E a3 0 180 g_28)]) (bX10_copyRow_192 E a5 f4 p7 p8) mp_lkX10_251 [2] [0, 1, 3, 4, 5, 6, 7] rfl rfl rfl rfl rfl ⟨(Nat.le_of_ble_eq_true rfl), (Nat.le_of_ble_eq_true rfl), (Nat.le_of_ble_eq_true rfl), (Nat.le_of_ble_eq_true rfl)⟩ (Nat.le_of_ble_eq_true rfl) (by first | exact mp_fd_ok mp_k_cX10_copyIsles_ok (by decide +kernel) | decide +kernel) (fun v_44 w_45 h_46 => ?_)
        refine h_46.elim fun g_47 q_51 => q_51.elim fun e_52 q_53 => q_53.elim fun p_48 q_54 => q_54.elim fun p_49 q_55 => q_55.elim fun x_50 e_56 => ?_
        clear h_46 q_51 q_53 q_54 q_55
        subst e_52
        subst e_56
        let w6_ : va_W := [(mp_ob10 a0 y0 a8 a9 a10 a11 a12 y1 y2 y3 y4 y5 y6 y7 y8 y9 y10 a1 a2 a3 a4 a5 a6 a7 a13 y11 a14 a15 a16 a17 y12 y13 y14 a18 a19 y15 y16 a20 a21 a22 y17 y18 y19 y20 a23 a24 a25 y21), (mp_arI E a4 3 3000 g_32), (mp_arI E a6 0 300 f5), (mp_arI E a7 0 300 f6), (mp_arI E a1 0 5 g_4), (mp_arI E a2 0 25 g_9), (mp_arI E a3 0 180 g_28), (mp_arI E a5 0 90 g_47)]
        show mp_W E X 4 81 [(3, .int i_31), (0, .ref a0), (1, .int 2), (2, .int 0)] [] w6_ 0 0
        refine mp_run mp_k_cX10_copyIsles_ok hF mp_tabX10_ok [mp_i (.aload_n 0), mp_h (.getfield 47) [21, 0], mp_c (.bipush 60) 60, mp_i (.iload_n 1), mp_i (.iload_n 2)] (by decide +kernel) ?_
        refine And.intro rfl (And.intro rfl ?_)
        show mp_W E X 4 89 [(3, .int i_31), (0, .ref a0), (1, .int 2), (2, .int 0)] [.int 0, .int 2, .int 60, .ref a6] w6_ 0 0
        refine mp_callS hF (As := [.ref a6, .int 60, .int 2, .int 0]) (rest := []) (wr := [(mp_ob10 a0 y0 a8 a9 a10 a11 a12 y1 y2 y3 y4 y5 y6 y7 y8 y9 y10 a1 a2 a3 a4 a5 a6 a7 a13 y11 a14 a15 a16 a17 y12 y13 y14 a18 a19 y15 y16 a20 a21 a22 y17 y18 y19 y20 a23 a24 a25 y21), (mp_arI E a4 3 3000 g_32), (mp_arI E a7 0 300 f6), (mp_arI E a1 0 5 g_4), (mp_arI E a2 0 25 g_9), (mp_arI E a3 0 180 g_28), (mp_arI E a5 0 90 g_47)]) (bX10_copyRow_193 E a6 f5 p9 p10 p11 p12) mp_lkX10_251 [2] [0, 1, 3, 4, 5, 6, 7] rfl rfl rfl rfl rfl ⟨(Nat.le_of_ble_eq_true rfl), (Nat.le_of_ble_eq_true rfl), (Nat.le_of_ble_eq_true rfl), (Nat.le_of_ble_eq_true rfl)⟩ (Nat.le_of_ble_eq_true rfl) (by first | exact mp_fd_ok mp_k_cX10_copyIsles_ok (by decide +kernel) | decide +kernel) (fun v_57 w_58 h_59 => ?_)
        refine h_59.elim fun g_60 q_66 => q_66.elim fun e_67 q_68 => q_68.elim fun p_61 q_69 => q_69.elim fun p_62 q_70 => q_70.elim fun p_63 q_71 => q_71.elim fun p_64 q_72 => q_72.elim fun x_65 e_73 => ?_
        clear h_59 q_66 q_68 q_69 q_70 q_71 q_72
        subst e_67
        subst e_73
        let w7_ : va_W := [(mp_ob10 a0 y0 a8 a9 a10 a11 a12 y1 y2 y3 y4 y5 y6 y7 y8 y9 y10 a1 a2 a3 a4 a5 a6 a7 a13 y11 a14 a15 a16 a17 y12 y13 y14 a18 a19 y15 y16 a20 a21 a22 y17 y18 y19 y20 a23 a24 a25 y21), (mp_arI E a4 3 3000 g_32), (mp_arI E a7 0 300 f6), (mp_arI E a1 0 5 g_4), (mp_arI E a2 0 25 g_9), (mp_arI E a3 0 180 g_28), (mp_arI E a5 0 90 g_47), (mp_arI E a6 0 300 g_60)]
        show mp_W E X 4 92 [(3, .int i_31), (0, .ref a0), (1, .int 2), (2, .int 0)] [] w7_ 0 0
        refine mp_run mp_k_cX10_copyIsles_ok hF mp_tabX10_ok [mp_i (.aload_n 0), mp_h (.getfield 50) [22, 0], mp_c (.bipush 60) 60, mp_i (.iload_n 1), mp_i (.iload_n 2)] (by decide +kernel) ?_
        refine And.intro rfl (And.intro rfl ?_)
        show mp_W E X 4 100 [(3, .int i_31), (0, .ref a0), (1, .int 2), (2, .int 0)] [.int 0, .int 2, .int 60, .ref a7] w7_ 0 0
        refine mp_callS hF (As := [.ref a7, .int 60, .int 2, .int 0]) (rest := []) (wr := [(mp_ob10 a0 y0 a8 a9 a10 a11 a12 y1 y2 y3 y4 y5 y6 y7 y8 y9 y10 a1 a2 a3 a4 a5 a6 a7 a13 y11 a14 a15 a16 a17 y12 y13 y14 a18 a19 y15 y16 a20 a21 a22 y17 y18 y19 y20 a23 a24 a25 y21), (mp_arI E a4 3 3000 g_32), (mp_arI E a1 0 5 g_4), (mp_arI E a2 0 25 g_9), (mp_arI E a3 0 180 g_28), (mp_arI E a5 0 90 g_47), (mp_arI E a6 0 300 g_60)]) (bX10_copyRow_194 E a7 f6 p13) mp_lkX10_251 [2] [0, 1, 3, 4, 5, 6, 7] rfl rfl rfl rfl rfl ⟨(Nat.le_of_ble_eq_true rfl), (Nat.le_of_ble_eq_true rfl), (Nat.le_of_ble_eq_true rfl), (Nat.le_of_ble_eq_true rfl)⟩ (Nat.le_of_ble_eq_true rfl) (by first | exact mp_fd_ok mp_k_cX10_copyIsles_ok (by decide +kernel) | decide +kernel) (fun v_74 w_75 h_76 => ?_)
        obtain ⟨g_77, rfl, p_78, x_79, rfl⟩ := h_76
        let w8_ : va_W := [(mp_ob10 a0 y0 a8 a9 a10 a11 a12 y1 y2 y3 y4 y5 y6 y7 y8 y9 y10 a1 a2 a3 a4 a5 a6 a7 a13 y11 a14 a15 a16 a17 y12 y13 y14 a18 a19 y15 y16 a20 a21 a22 y17 y18 y19 y20 a23 a24 a25 y21), (mp_arI E a4 3 3000 g_32), (mp_arI E a1 0 5 g_4), (mp_arI E a2 0 25 g_9), (mp_arI E a3 0 180 g_28), (mp_arI E a5 0 90 g_47), (mp_arI E a6 0 300 g_60), (mp_arI E a7 0 300 g_77)]
        show mp_W E X 4 103 [(3, .int i_31), (0, .ref a0), (1, .int 2), (2, .int 0)] [] w8_ 0 0
        exact mp_vret hF hQ rfl (Nat.le_of_ble_eq_true rfl) (Nat.le_of_ble_eq_true rfl) [0, 2, 3, 4, 1, 5, 6, 7] (w' := [(mp_ob10 a0 y0 a8 a9 a10 a11 a12 y1 y2 y3 y4 y5 y6 y7 y8 y9 y10 a1 a2 a3 a4 a5 a6 a7 a13 y11 a14 a15 a16 a17 y12 y13 y14 a18 a19 y15 y16 a20 a21 a22 y17 y18 y19 y20 a23 a24 a25 y21), (mp_arI E a1 0 5 g_4), (mp_arI E a2 0 25 g_9), (mp_arI E a3 0 180 g_28), (mp_arI E a4 3 3000 g_32), (mp_arI E a5 0 90 g_47), (mp_arI E a6 0 300 g_60), (mp_arI E a7 0 300 g_77)]) rfl rfl ⟨g_4, g_9, g_28, g_32, g_47, g_60, g_77, rfl, p_10, p_11, p_12, p_13, p_14, p_29, p_35, p_48, p_49, p_61, p_62, p_63, p_64, p_78, x_5, x_15, x_30, x_50, x_65, x_79, (by have k9 := x_36; rw [show i_31.toInt.toNat = 600 by (first | exact mp_o1366 c_43 u_34 | omega)] at k9; exact k9), rfl⟩ (by first | exact mp_fd_ok mp_k_cX10_copyIsles_ok (by decide +kernel) | decide +kernel)
      · have c_43 : i_31.toInt < 600 := c_43
        let w9_ : va_W := [(mp_ob10 a0 y0 a8 a9 a10 a11 a12 y1 y2 y3 y4 y5 y6 y7 y8 y9 y10 a1 a2 a3 a4 a5 a6 a7 a13 y11 a14 a15 a16 a17 y12 y13 y14 a18 a19 y15 y16 a20 a21 a22 y17 y18 y19 y20 a23 a24 a25 y21), (mp_arI E a4 3 3000 g_32), (mp_arI E a5 0 90 f4), (mp_arI E a6 0 300 f5), (mp_arI E a7 0 300 f6), (mp_arI E a1 0 5 g_4), (mp_arI E a2 0 25 g_9), (mp_arI E a3 0 180 g_28)]
        show mp_W E X 4 40 [(3, .int i_31), (0, .ref a0), (1, .int 2), (2, .int 0)] [] w9_ 0 0
        refine mp_run mp_k_cX10_copyIsles_ok hF mp_tabX10_ok [mp_i (.aload_n 0), mp_h (.getfield 40) [19, 0], mp_c (.sipush 600) 600, mp_i (.iload_n 2), mp_i .imul, mp_i (.iload_n 3), mp_i .iadd, mp_i (.aload_n 0), mp_h (.getfield 40) [19, 0], mp_c (.sipush 600) 600, mp_i (.iload_n 1), mp_i .imul, mp_i (.iload_n 3), mp_i .iadd, mp_h .baload [1, 0], mp_h .bastore [1, 0]] (by decide +kernel) ?_
        refine And.intro rfl (And.intro rfl ?_)
        intro z_80 h_81
        obtain rfl : z_80 = 0 := h_81.trans (by decide)
        intro z_82 h_83
        have e_84 : z_82.toInt = 0 + i_31.toInt := mp_add (a := 0) (b := i_31.toInt) h_83 (by decide) rfl (by (first | exact mp_o1319 l_33 | omega)) (by (first | exact mp_o1367 c_43 | omega))
        refine And.intro rfl (And.intro rfl ?_)
        intro z_85 h_86
        obtain rfl : z_85 = 1200 := h_86.trans (by decide)
        intro z_87 h_88
        have e_89 : z_87.toInt = 1200 + i_31.toInt := mp_add (a := 1200) (b := i_31.toInt) h_88 (by decide) rfl (by (first | exact mp_o2033 l_33 | omega)) (by (first | exact mp_o2034 c_43 | omega))
        refine And.intro rfl (And.intro rfl (And.intro (vp_in_iff.mpr (by (first | exact mp_o2035 l_33 e_89 c_43 | omega))) ?_))
        intro z_90 h_91
        have e_92 : 0 ≤ z_90.toInt ∧ z_90.toInt ≤ 1 := mp_all_ld h_91 p_35 (by (first | exact mp_o2137 l_33 e_89 | omega)) (by (first | exact mp_o2138 c_43 e_89 | omega))
        refine And.intro rfl (And.intro rfl (And.intro (vp_in_iff.mpr (by (first | exact mp_o1370 l_33 e_84 c_43 | omega))) ?_))
        intro g_93 h_94
        have h_95 : g_93 = upd g_32 z_82.toNatClampNeg z_90 := h_94.trans (congrArg (upd _ _) (mp_narb (by (first | exact mp_o1371 e_92 | omega)) (by (first | exact mp_o1372 e_92 | omega))))
        have p_96 : mp_all g_93 3000 0 1 := mp_all_st h_95 p_35 e_92.1 e_92.2
        let w10_ : va_W := [(mp_ob10 a0 y0 a8 a9 a10 a11 a12 y1 y2 y3 y4 y5 y6 y7 y8 y9 y10 a1 a2 a3 a4 a5 a6 a7 a13 y11 a14 a15 a16 a17 y12 y13 y14 a18 a19 y15 y16 a20 a21 a22 y17 y18 y19 y20 a23 a24 a25 y21), (mp_arI E a4 3 3000 g_93), (mp_arI E a5 0 90 f4), (mp_arI E a6 0 300 f5), (mp_arI E a7 0 300 f6), (mp_arI E a1 0 5 g_4), (mp_arI E a2 0 25 g_9), (mp_arI E a3 0 180 g_28)]
        show mp_W E X 4 64 [(3, .int i_31), (0, .ref a0), (1, .int 2), (2, .int 0)] [] w10_ 0 0
        refine mp_run mp_k_cX10_copyIsles_ok hF mp_tabX10_ok [mp_c (.iinc 3 1) 1, mp_h (.goto (-34)) [33]] (by decide +kernel) ?_
        intro z_97 h_98
        have e_99 : z_97.toInt = i_31.toInt + 1 := mp_add (a := i_31.toInt) (b := 1) h_98 rfl (by decide) (by (first | exact mp_o2 l_33 | omega)) (by (first | exact mp_o976 c_43 | omega))
        show mp_W E X 4 33 [(3, .int z_97), (0, .ref a0), (1, .int 2), (2, .int 0)] [] w10_ 0 0
        exact mp_sub [0, 1, 2, 3] rfl [0, 1, 2, 3, 4, 5, 6, 7] rfl rfl (ih_41 (d_40 - 1) (by (first | exact mp_o977 hm_42 c_43 | omega)) z_97 g_93 (by (first | exact mp_o51 l_33 e_99 | omega)) (by (first | exact mp_o978 c_43 e_99 | omega)) p_96 (mp_cpr_st (m := 600) h_95 h_91 x_36 (by (first | exact mp_o1328 l_33 e_84 | omega)) (by (first | exact mp_o2036 l_33 e_89 | omega)) (by (first | exact mp_o2139 | omega)) (by (first | exact mp_o1375 c_43 | omega)) (by (first | exact mp_o772 l_33 e_99 | omega))) (by (first | exact mp_o978 c_43 e_99 | omega)) (by (first | exact mp_o51 l_33 e_99 | omega)) (by (first | exact mp_o979 hm_42 e_99 | omega)))
  exact mp_sub [0, 1, 2, 3] rfl [0, 1, 2, 3, 4, 5, 6, 7] rfl rfl (lp_39 _ 0 f3 (by decide) (by decide) p6 (mp_cpr_0 (by decide)) (by decide) (by decide) (Int.self_le_toNat _))
