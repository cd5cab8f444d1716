def mp_loffs : Array Int := #[255, 318, 341, 354, 377, 410, 443, 476, 509, 542, 575, 608, 651, 694, 717, 740, 763, 786, 799, 822, 845, 878, 901, 914, 927, 940, 963, 976, 999, 1032, 1075, 1108, 1141, 1174, 1217, 1260, 1293, 1306, 1329, 1362, 1415, 1448, 1491, 1524, 1557, 1590, 1633, 1656, 1679, 1722, 1765, 1818, 1861, 1904, 1937, 1960, 1983, 2006, 2049, 2122]
set_option maxHeartbeats 4000000 in
set_option maxRecDepth 100000 in
theorem mp_loop {E : mp_E} {X : mp_X} {b L : Nat} {xs : Nat → Int32} (hL : mp_Lw E X b L xs) (h3 : L ≤ 3072) {q1 q2 : Nat} : ∀ (d : Nat) (i : Int32) (len : Int) (sw sl mw mm : Nat → Int32) (kp : Nat → Bool) (tp : Nat → Int32) (ft fp : Int) (td : mp_TD) (it : Nat → mp_TD) (A B : va_W) (k n : Nat), 0 ≤ i.toInt → i.toInt ≤ 4000 → (L : Int) - i.toInt ≤ d → k + 3 * d ≤ 599960 → n + 40 * d ≤ 7301850 → mp_SL sw sl mw mm → mp_WF td → (∀ j : Nat, mp_WF (it j)) → mp_IC E q1 len sw sl kp tp ft fp td it A → mp_IM E q2 len mw mm kp tp ft fp td it B → mp_W E X 4 18 [(3, .int i), (2, .ref q2), (1, .ref q1), (0, .ref b)] [] (A ++ B) k n := by
  intro d
  induction d using Nat.strongRecOn with
  | ind d ih =>
    intro i len sw sl mw mm kp tp ft fp td it A B k n hi0 hi4 hd hk hn hSL hW hWI hA hB
    have hF : mp_F E X mp_ML := hL.1
    show mp_W E X 4 18 [(3, .int i), (2, .ref q2), (1, .ref q1), (0, .ref b)] [] (A ++ B) k n
    refine mp_run mp_k_code_ok hF mp_tabL_ok [mp_i (.iload_n 3), mp_i (.aload_n 0)] (by decide +kernel) ?_
    show mp_W E X 4 20 [(3, .int i), (2, .ref q2), (1, .ref q1), (0, .ref b)] [.ref b, .int i] (A ++ B) k n
    refine mp_lslen hL h3 (by first | exact mp_fd_ok mp_k_code_ok (by decide +kernel) | decide +kernel) (fun v_1 h_2 => ?_)
    show mp_W E X 4 21 [(3, .int i), (2, .ref q2), (1, .ref q1), (0, .ref b)] [.int v_1, .int i] (A ++ B) k n
    refine mp_run mp_k_code_ok hF mp_tabL_ok [mp_c (.bipush 6) 6, mp_i .isub, mp_h (.if_icmp .gt 2200) [2224]] (by decide +kernel) ?_
    intro z_3 h_4
    have e_5 : z_3.toInt = v_1.toInt - 6 := mp_subi (a := v_1.toInt) (b := 6) h_4 rfl (by decide) (by omega) (by omega)
    refine And.intro (fun c_6 => ?_) (fun c_6 => ?_)
    · have c_6 : z_3.toInt < i.toInt := c_6
      show mp_W E X 4 2224 [(3, .int i), (2, .ref q2), (1, .ref q1), (0, .ref b)] [] (A ++ B) k n
      refine mp_run mp_k_code_ok hF mp_tabL_ok [mp_c (.iconst 1) 1] (by decide +kernel) ?_
      show mp_W E X 4 2225 [(3, .int i), (2, .ref q2), (1, .ref q1), (0, .ref b)] [.int 1] (A ++ B) k n
      exact hL.2.2.2.2 _ _ _ _ _ (by omega) (by omega) (by first | exact mp_fd_ok mp_k_code_ok (by decide +kernel) | decide +kernel)
    · have c_6 : i.toInt ≤ z_3.toInt := c_6
      show mp_W E X 4 27 [(3, .int i), (2, .ref q2), (1, .ref q1), (0, .ref b)] [] (A ++ B) k n
      have KK : ∀ (len2 : Int) (sw2 sl2 mw2 mm2 : Nat → Int32) (kp2 : Nat → Bool) (tp2 : Nat → Int32) (ft2 fp2 : Int) (td2 : mp_TD) (it2 : Nat → mp_TD) (A2 B2 : va_W) (k2 n2 : Nat), mp_SL sw2 sl2 mw2 mm2 → mp_WF td2 → (∀ j : Nat, mp_WF (it2 j)) → mp_IC E q1 len2 sw2 sl2 kp2 tp2 ft2 fp2 td2 it2 A2 → mp_IM E q2 len2 mw2 mm2 kp2 tp2 ft2 fp2 td2 it2 B2 → k2 ≤ k + 13 → n2 ≤ n + 204 → mp_W E X 4 2218 [(3, .int i), (2, .ref q2), (1, .ref q1), (0, .ref b)] [] (A2 ++ B2) k2 n2 := by
        intro len2 sw2 sl2 mw2 mm2 kp2 tp2 ft2 fp2 td2 it2 A2 B2 k2 n2 hS2 hW2 hWI2 hA2 hB2 hk2 hn2
        show mp_W E X 4 2218 [(3, .int i), (2, .ref q2), (1, .ref q1), (0, .ref b)] [] (A2 ++ B2) k2 n2
        refine mp_run mp_k_code_ok hF mp_tabL_ok [mp_c (.iinc 3 6) 6, mp_h (.goto (-2203)) [18]] (by decide +kernel) ?_
        intro z_7 h_8
        have e_9 : z_7.toInt = i.toInt + 6 := mp_add (a := i.toInt) (b := 6) h_8 rfl (by decide) (by omega) (by omega)
        show mp_W E X 4 18 [(3, .int z_7), (2, .ref q2), (1, .ref q1), (0, .ref b)] [] (A2 ++ B2) k2 n2
        exact ih (d - 6) (by omega) _ _ _ _ _ _ _ _ _ _ _ _ _ _ _ _ (by omega) (by omega) (by omega) (by omega) (by omega) hS2 hW2 hWI2 hA2 hB2
      refine mp_run mp_k_code_ok hF mp_tabL_ok [mp_i (.aload_n 0), mp_i (.iload_n 3)] (by decide +kernel) ?_
      show mp_W E X 4 29 [(3, .int i), (2, .ref q2), (1, .ref q1), (0, .ref b)] [.int i, .ref b] (A ++ B) k n
      refine mp_lsld hL (by omega) (by omega) (by first | exact mp_fd_ok mp_k_code_ok (by decide +kernel) | decide +kernel) (fun v_10 hv_11 => ?_)
      show mp_W E X 4 30 [(3, .int i), (2, .ref q2), (1, .ref q1), (0, .ref b)] [.int v_10] (A ++ B) k n
      refine mp_run mp_k_code_ok hF mp_tabL_ok [mp_c (.bipush 63) 63, mp_i .iand] (by decide +kernel) ?_
      intro z_12 h_13
      show mp_W E X 4 33 [(3, .int i), (2, .ref q2), (1, .ref q1), (0, .ref b)] [.int z_12] (A ++ B) k n
      have hq6 : i.toInt + 6 ≤ L := by omega
      have hqk : k + 13 ≤ 600000 := by omega
      have hqn : n + 204 ≤ 7302250 := by omega
      by_cases c_15 : z_12.toInt < 0
      · refine mp_tabOut hF (dflt := 2185) (lo := 0) (hi := 59) (offs := mp_loffs) (len := 255) (by first | exact mp_fd_ok mp_k_code_ok (by decide +kernel) | decide +kernel) (Or.inl c_15) (tgt := 2218) (by decide) ?_
        show mp_W E X 4 2218 [(3, .int i), (2, .ref q2), (1, .ref q1), (0, .ref b)] [] (A ++ B) k n
        exact KK _ _ _ _ _ _ _ _ _ _ _ _ _ _ _ hSL hW hWI hA hB (by omega) (by omega)
      by_cases c_16 : 59 < z_12.toInt
      · refine mp_tabOut hF (dflt := 2185) (lo := 0) (hi := 59) (offs := mp_loffs) (len := 255) (by first | exact mp_fd_ok mp_k_code_ok (by decide +kernel) | decide +kernel) (Or.inr c_16) (tgt := 2218) (by decide) ?_
        show mp_W E X 4 2218 [(3, .int i), (2, .ref q2), (1, .ref q1), (0, .ref b)] [] (A ++ B) k n
        exact KK _ _ _ _ _ _ _ _ _ _ _ _ _ _ _ hSL hW hWI hA hB (by omega) (by omega)
      by_cases c_17 : z_12.toInt ≤ 29
      · skip
        by_cases c_18 : z_12.toInt ≤ 14
        · skip
          by_cases c_19 : z_12.toInt ≤ 7
          · skip
            by_cases c_20 : z_12.toInt ≤ 3
            · skip
              by_cases c_21 : z_12.toInt ≤ 1
              · skip
                by_cases c_22 : z_12.toInt ≤ 0
                · skip
                  have c_23 : z_12.toInt = 0 := by omega
                  refine mp_tabIn hF (dflt := 2185) (lo := 0) (hi := 59) (offs := mp_loffs) (len := 255) (off := 255) (tgt := 288) (by first | exact mp_fd_ok mp_k_code_ok (by decide +kernel) | decide +kernel) (by omega) (by omega) (by rw [c_23]; rfl) (by decide) ?_
                  exact mp_case_0 hL h3 hi0 hq6 hSL hW hWI hA hB hqk hqn KK
                · skip
                  have c_24 : z_12.toInt = 1 := by omega
                  refine mp_tabIn hF (dflt := 2185) (lo := 0) (hi := 59) (offs := mp_loffs) (len := 255) (off := 318) (tgt := 351) (by first | exact mp_fd_ok mp_k_code_ok (by decide +kernel) | decide +kernel) (by omega) (by omega) (by rw [c_24]; rfl) (by decide) ?_
                  exact mp_case_1 hL h3 hi0 hq6 hSL hW hWI hA hB hqk hqn KK
              · skip
                by_cases c_25 : z_12.toInt ≤ 2
                · skip
                  have c_26 : z_12.toInt = 2 := by omega
                  refine mp_tabIn hF (dflt := 2185) (lo := 0) (hi := 59) (offs := mp_loffs) (len := 255) (off := 341) (tgt := 374) (by first | exact mp_fd_ok mp_k_code_ok (by decide +kernel) | decide +kernel) (by omega) (by omega) (by rw [c_26]; rfl) (by decide) ?_
                  exact mp_case_2 hL h3 hi0 hq6 hSL hW hWI hA hB hqk hqn KK
                · skip
                  have c_27 : z_12.toInt = 3 := by omega
                  refine mp_tabIn hF (dflt := 2185) (lo := 0) (hi := 59) (offs := mp_loffs) (len := 255) (off := 354) (tgt := 387) (by first | exact mp_fd_ok mp_k_code_ok (by decide +kernel) | decide +kernel) (by omega) (by omega) (by rw [c_27]; rfl) (by decide) ?_
                  exact mp_case_3 hL h3 hi0 hq6 hSL hW hWI hA hB hqk hqn KK
            · skip
              by_cases c_28 : z_12.toInt ≤ 5
              · skip
                by_cases c_29 : z_12.toInt ≤ 4
                · skip
                  have c_30 : z_12.toInt = 4 := by omega
                  refine mp_tabIn hF (dflt := 2185) (lo := 0) (hi := 59) (offs := mp_loffs) (len := 255) (off := 377) (tgt := 410) (by first | exact mp_fd_ok mp_k_code_ok (by decide +kernel) | decide +kernel) (by omega) (by omega) (by rw [c_30]; rfl) (by decide) ?_
                  exact mp_case_4 hL h3 hi0 hq6 hSL hW hWI hA hB hqk hqn KK
                · skip
                  have c_31 : z_12.toInt = 5 := by omega
                  refine mp_tabIn hF (dflt := 2185) (lo := 0) (hi := 59) (offs := mp_loffs) (len := 255) (off := 410) (tgt := 443) (by first | exact mp_fd_ok mp_k_code_ok (by decide +kernel) | decide +kernel) (by omega) (by omega) (by rw [c_31]; rfl) (by decide) ?_
                  exact mp_case_5 hL h3 hi0 hq6 hSL hW hWI hA hB hqk hqn KK
              · skip
                by_cases c_32 : z_12.toInt ≤ 6
                · skip
                  have c_33 : z_12.toInt = 6 := by omega
                  refine mp_tabIn hF (dflt := 2185) (lo := 0) (hi := 59) (offs := mp_loffs) (len := 255) (off := 443) (tgt := 476) (by first | exact mp_fd_ok mp_k_code_ok (by decide +kernel) | decide +kernel) (by omega) (by omega) (by rw [c_33]; rfl) (by decide) ?_
                  exact mp_case_6 hL h3 hi0 hq6 hSL hW hWI hA hB hqk hqn KK
                · skip
                  have c_34 : z_12.toInt = 7 := by omega
                  refine mp_tabIn hF (dflt := 2185) (lo := 0) (hi := 59) (offs := mp_loffs) (len := 255) (off := 476) (tgt := 509) (by first | exact mp_fd_ok mp_k_code_ok (by decide +kernel) | decide +kernel) (by omega) (by omega) (by rw [c_34]; rfl) (by decide) ?_
                  exact mp_case_7 hL h3 hi0 hq6 hSL hW hWI hA hB hqk hqn KK
          · skip
            by_cases c_35 : z_12.toInt ≤ 11
            · skip
              by_cases c_36 : z_12.toInt ≤ 9
              · skip
                by_cases c_37 : z_12.toInt ≤ 8
                · skip
                  have c_38 : z_12.toInt = 8 := by omega
                  refine mp_tabIn hF (dflt := 2185) (lo := 0) (hi := 59) (offs := mp_loffs) (len := 255) (off := 509) (tgt := 542) (by first | exact mp_fd_ok mp_k_code_ok (by decide +kernel) | decide +kernel) (by omega) (by omega) (by rw [c_38]; rfl) (by decide) ?_
                  exact mp_case_8 hL h3 hi0 hq6 hSL hW hWI hA hB hqk hqn KK
                · skip
                  have c_39 : z_12.toInt = 9 := by omega
                  refine mp_tabIn hF (dflt := 2185) (lo := 0) (hi := 59) (offs := mp_loffs) (len := 255) (off := 542) (tgt := 575) (by first | exact mp_fd_ok mp_k_code_ok (by decide +kernel) | decide +kernel) (by omega) (by omega) (by rw [c_39]; rfl) (by decide) ?_
                  exact mp_case_9 hL h3 hi0 hq6 hSL hW hWI hA hB hqk hqn KK
              · skip
                by_cases c_40 : z_12.toInt ≤ 10
                · skip
                  have c_41 : z_12.toInt = 10 := by omega
                  refine mp_tabIn hF (dflt := 2185) (lo := 0) (hi := 59) (offs := mp_loffs) (len := 255) (off := 575) (tgt := 608) (by first | exact mp_fd_ok mp_k_code_ok (by decide +kernel) | decide +kernel) (by omega) (by omega) (by rw [c_41]; rfl) (by decide) ?_
                  exact mp_case_10 hL h3 hi0 hq6 hSL hW hWI hA hB hqk hqn KK
                · skip
                  have c_42 : z_12.toInt = 11 := by omega
                  refine mp_tabIn hF (dflt := 2185) (lo := 0) (hi := 59) (offs := mp_loffs) (len := 255) (off := 608) (tgt := 641) (by first | exact mp_fd_ok mp_k_code_ok (by decide +kernel) | decide +kernel) (by omega) (by omega) (by rw [c_42]; rfl) (by decide) ?_
                  exact mp_case_11 hL h3 hi0 hq6 hSL hW hWI hA hB hqk hqn KK
            · skip
              by_cases c_43 : z_12.toInt ≤ 13
              · skip
                by_cases c_44 : z_12.toInt ≤ 12
                · skip
                  have c_45 : z_12.toInt = 12 := by omega
                  refine mp_tabIn hF (dflt := 2185) (lo := 0) (hi := 59) (offs := mp_loffs) (len := 255) (off := 651) (tgt := 684) (by first | exact mp_fd_ok mp_k_code_ok (by decide +kernel) | decide +kernel) (by omega) (by omega) (by rw [c_45]; rfl) (by decide) ?_
                  exact mp_case_12 hL h3 hi0 hq6 hSL hW hWI hA hB hqk hqn KK
                · skip
                  have c_46 : z_12.toInt = 13 := by omega
                  refine mp_tabIn hF (dflt := 2185) (lo := 0) (hi := 59) (offs := mp_loffs) (len := 255) (off := 694) (tgt := 727) (by first | exact mp_fd_ok mp_k_code_ok (by decide +kernel) | decide +kernel) (by omega) (by omega) (by rw [c_46]; rfl) (by decide) ?_
                  exact mp_case_13 hL h3 hi0 hq6 hSL hW hWI hA hB hqk hqn KK
              · skip
                have c_47 : z_12.toInt = 14 := by omega
                refine mp_tabIn hF (dflt := 2185) (lo := 0) (hi := 59) (offs := mp_loffs) (len := 255) (off := 717) (tgt := 750) (by first | exact mp_fd_ok mp_k_code_ok (by decide +kernel) | decide +kernel) (by omega) (by omega) (by rw [c_47]; rfl) (by decide) ?_
                exact mp_case_14 hL h3 hi0 hq6 hSL hW hWI hA hB hqk hqn KK
        · skip
          by_cases c_48 : z_12.toInt ≤ 22
          · skip
            by_cases c_49 : z_12.toInt ≤ 18
            · skip
              by_cases c_50 : z_12.toInt ≤ 16
              · skip
                by_cases c_51 : z_12.toInt ≤ 15
                · skip
                  have c_52 : z_12.toInt = 15 := by omega
                  refine mp_tabIn hF (dflt := 2185) (lo := 0) (hi := 59) (offs := mp_loffs) (len := 255) (off := 740) (tgt := 773) (by first | exact mp_fd_ok mp_k_code_ok (by decide +kernel) | decide +kernel) (by omega) (by omega) (by rw [c_52]; rfl) (by decide) ?_
                  exact mp_case_15 hL h3 hi0 hq6 hSL hW hWI hA hB hqk hqn KK
                · skip
                  have c_53 : z_12.toInt = 16 := by omega
                  refine mp_tabIn hF (dflt := 2185) (lo := 0) (hi := 59) (offs := mp_loffs) (len := 255) (off := 763) (tgt := 796) (by first | exact mp_fd_ok mp_k_code_ok (by decide +kernel) | decide +kernel) (by omega) (by omega) (by rw [c_53]; rfl) (by decide) ?_
                  exact mp_case_16 hL h3 hi0 hq6 hSL hW hWI hA hB hqk hqn KK
              · skip
                by_cases c_54 : z_12.toInt ≤ 17
                · skip
                  have c_55 : z_12.toInt = 17 := by omega
                  refine mp_tabIn hF (dflt := 2185) (lo := 0) (hi := 59) (offs := mp_loffs) (len := 255) (off := 786) (tgt := 819) (by first | exact mp_fd_ok mp_k_code_ok (by decide +kernel) | decide +kernel) (by omega) (by omega) (by rw [c_55]; rfl) (by decide) ?_
                  exact mp_case_17 hL h3 hi0 hq6 hSL hW hWI hA hB hqk hqn KK
                · skip
                  have c_56 : z_12.toInt = 18 := by omega
                  refine mp_tabIn hF (dflt := 2185) (lo := 0) (hi := 59) (offs := mp_loffs) (len := 255) (off := 799) (tgt := 832) (by first | exact mp_fd_ok mp_k_code_ok (by decide +kernel) | decide +kernel) (by omega) (by omega) (by rw [c_56]; rfl) (by decide) ?_
                  exact mp_case_18 hL h3 hi0 hq6 hSL hW hWI hA hB hqk hqn KK
            · skip
              by_cases c_57 : z_12.toInt ≤ 20
              · skip
                by_cases c_58 : z_12.toInt ≤ 19
                · skip
                  have c_59 : z_12.toInt = 19 := by omega
                  refine mp_tabIn hF (dflt := 2185) (lo := 0) (hi := 59) (offs := mp_loffs) (len := 255) (off := 822) (tgt := 855) (by first | exact mp_fd_ok mp_k_code_ok (by decide +kernel) | decide +kernel) (by omega) (by omega) (by rw [c_59]; rfl) (by decide) ?_
                  exact mp_case_19 hL h3 hi0 hq6 hSL hW hWI hA hB hqk hqn KK
                · skip
                  have c_60 : z_12.toInt = 20 := by omega
                  refine mp_tabIn hF (dflt := 2185) (lo := 0) (hi := 59) (offs := mp_loffs) (len := 255) (off := 845) (tgt := 878) (by first | exact mp_fd_ok mp_k_code_ok (by decide +kernel) | decide +kernel) (by omega) (by omega) (by rw [c_60]; rfl) (by decide) ?_
                  exact mp_case_20 hL h3 hi0 hq6 hSL hW hWI hA hB hqk hqn KK
              · skip
                by_cases c_61 : z_12.toInt ≤ 21
                · skip
                  have c_62 : z_12.toInt = 21 := by omega
                  refine mp_tabIn hF (dflt := 2185) (lo := 0) (hi := 59) (offs := mp_loffs) (len := 255) (off := 878) (tgt := 911) (by first | exact mp_fd_ok mp_k_code_ok (by decide +kernel) | decide +kernel) (by omega) (by omega) (by rw [c_62]; rfl) (by decide) ?_
                  exact mp_case_21 hL h3 hi0 hq6 hSL hW hWI hA hB hqk hqn KK
                · skip
                  have c_63 : z_12.toInt = 22 := by omega
                  refine mp_tabIn hF (dflt := 2185) (lo := 0) (hi := 59) (offs := mp_loffs) (len := 255) (off := 901) (tgt := 934) (by first | exact mp_fd_ok mp_k_code_ok (by decide +kernel) | decide +kernel) (by omega) (by omega) (by rw [c_63]; rfl) (by decide) ?_
                  exact mp_case_22 hL h3 hi0 hq6 hSL hW hWI hA hB hqk hqn KK
          · skip
            by_cases c_64 : z_12.toInt ≤ 26
            · skip
              by_cases c_65 : z_12.toInt ≤ 24
              · skip
                by_cases c_66 : z_12.toInt ≤ 23
                · skip
                  have c_67 : z_12.toInt = 23 := by omega
                  refine mp_tabIn hF (dflt := 2185) (lo := 0) (hi := 59) (offs := mp_loffs) (len := 255) (off := 914) (tgt := 947) (by first | exact mp_fd_ok mp_k_code_ok (by decide +kernel) | decide +kernel) (by omega) (by omega) (by rw [c_67]; rfl) (by decide) ?_
                  exact mp_case_23 hL h3 hi0 hq6 hSL hW hWI hA hB hqk hqn KK
                · skip
                  have c_68 : z_12.toInt = 24 := by omega
                  refine mp_tabIn hF (dflt := 2185) (lo := 0) (hi := 59) (offs := mp_loffs) (len := 255) (off := 927) (tgt := 960) (by first | exact mp_fd_ok mp_k_code_ok (by decide +kernel) | decide +kernel) (by omega) (by omega) (by rw [c_68]; rfl) (by decide) ?_
                  exact mp_case_24 hL h3 hi0 hq6 hSL hW hWI hA hB hqk hqn KK
              · skip
                by_cases c_69 : z_12.toInt ≤ 25
                · skip
                  have c_70 : z_12.toInt = 25 := by omega
                  refine mp_tabIn hF (dflt := 2185) (lo := 0) (hi := 59) (offs := mp_loffs) (len := 255) (off := 940) (tgt := 973) (by first | exact mp_fd_ok mp_k_code_ok (by decide +kernel) | decide +kernel) (by omega) (by omega) (by rw [c_70]; rfl) (by decide) ?_
                  exact mp_case_25 hL h3 hi0 hq6 hSL hW hWI hA hB hqk hqn KK
                · skip
                  have c_71 : z_12.toInt = 26 := by omega
                  refine mp_tabIn hF (dflt := 2185) (lo := 0) (hi := 59) (offs := mp_loffs) (len := 255) (off := 963) (tgt := 996) (by first | exact mp_fd_ok mp_k_code_ok (by decide +kernel) | decide +kernel) (by omega) (by omega) (by rw [c_71]; rfl) (by decide) ?_
                  exact mp_case_26 hL h3 hi0 hq6 hSL hW hWI hA hB hqk hqn KK
            · skip
              by_cases c_72 : z_12.toInt ≤ 28
              · skip
                by_cases c_73 : z_12.toInt ≤ 27
                · skip
                  have c_74 : z_12.toInt = 27 := by omega
                  refine mp_tabIn hF (dflt := 2185) (lo := 0) (hi := 59) (offs := mp_loffs) (len := 255) (off := 976) (tgt := 1009) (by first | exact mp_fd_ok mp_k_code_ok (by decide +kernel) | decide +kernel) (by omega) (by omega) (by rw [c_74]; rfl) (by decide) ?_
                  exact mp_case_27 hL h3 hi0 hq6 hSL hW hWI hA hB hqk hqn KK
                · skip
                  have c_75 : z_12.toInt = 28 := by omega
                  refine mp_tabIn hF (dflt := 2185) (lo := 0) (hi := 59) (offs := mp_loffs) (len := 255) (off := 999) (tgt := 1032) (by first | exact mp_fd_ok mp_k_code_ok (by decide +kernel) | decide +kernel) (by omega) (by omega) (by rw [c_75]; rfl) (by decide) ?_
                  exact mp_case_28 hL h3 hi0 hq6 hSL hW hWI hA hB hqk hqn KK
              · skip
                have c_76 : z_12.toInt = 29 := by omega
                refine mp_tabIn hF (dflt := 2185) (lo := 0) (hi := 59) (offs := mp_loffs) (len := 255) (off := 1032) (tgt := 1065) (by first | exact mp_fd_ok mp_k_code_ok (by decide +kernel) | decide +kernel) (by omega) (by omega) (by rw [c_76]; rfl) (by decide) ?_
                exact mp_case_29 hL h3 hi0 hq6 hSL hW hWI hA hB hqk hqn KK
      · skip
        by_cases c_77 : z_12.toInt ≤ 44
        · skip
          by_cases c_78 : z_12.toInt ≤ 37
          · skip
            by_cases c_79 : z_12.toInt ≤ 33
            · skip
              by_cases c_80 : z_12.toInt ≤ 31
              · skip
                by_cases c_81 : z_12.toInt ≤ 30
                · skip
                  have c_82 : z_12.toInt = 30 := by omega
                  refine mp_tabIn hF (dflt := 2185) (lo := 0) (hi := 59) (offs := mp_loffs) (len := 255) (off := 1075) (tgt := 1108) (by first | exact mp_fd_ok mp_k_code_ok (by decide +kernel) | decide +kernel) (by omega) (by omega) (by rw [c_82]; rfl) (by decide) ?_
                  exact mp_case_30 hL h3 hi0 hq6 hSL hW hWI hA hB hqk hqn KK
                · skip
                  have c_83 : z_12.toInt = 31 := by omega
                  refine mp_tabIn hF (dflt := 2185) (lo := 0) (hi := 59) (offs := mp_loffs) (len := 255) (off := 1108) (tgt := 1141) (by first | exact mp_fd_ok mp_k_code_ok (by decide +kernel) | decide +kernel) (by omega) (by omega) (by rw [c_83]; rfl) (by decide) ?_
                  exact mp_case_31 hL h3 hi0 hq6 hSL hW hWI hA hB hqk hqn KK
              · skip
                by_cases c_84 : z_12.toInt ≤ 32
                · skip
                  have c_85 : z_12.toInt = 32 := by omega
                  refine mp_tabIn hF (dflt := 2185) (lo := 0) (hi := 59) (offs := mp_loffs) (len := 255) (off := 1141) (tgt := 1174) (by first | exact mp_fd_ok mp_k_code_ok (by decide +kernel) | decide +kernel) (by omega) (by omega) (by rw [c_85]; rfl) (by decide) ?_
                  exact mp_case_32 hL h3 hi0 hq6 hSL hW hWI hA hB hqk hqn KK
                · skip
                  have c_86 : z_12.toInt = 33 := by omega
                  refine mp_tabIn hF (dflt := 2185) (lo := 0) (hi := 59) (offs := mp_loffs) (len := 255) (off := 1174) (tgt := 1207) (by first | exact mp_fd_ok mp_k_code_ok (by decide +kernel) | decide +kernel) (by omega) (by omega) (by rw [c_86]; rfl) (by decide) ?_
                  exact mp_case_33 hL h3 hi0 hq6 hSL hW hWI hA hB hqk hqn KK
            · skip
              by_cases c_87 : z_12.toInt ≤ 35
              · skip
                by_cases c_88 : z_12.toInt ≤ 34
                · skip
                  have c_89 : z_12.toInt = 34 := by omega
                  refine mp_tabIn hF (dflt := 2185) (lo := 0) (hi := 59) (offs := mp_loffs) (len := 255) (off := 1217) (tgt := 1250) (by first | exact mp_fd_ok mp_k_code_ok (by decide +kernel) | decide +kernel) (by omega) (by omega) (by rw [c_89]; rfl) (by decide) ?_
                  exact mp_case_34 hL h3 hi0 hq6 hSL hW hWI hA hB hqk hqn KK
                · skip
                  have c_90 : z_12.toInt = 35 := by omega
                  refine mp_tabIn hF (dflt := 2185) (lo := 0) (hi := 59) (offs := mp_loffs) (len := 255) (off := 1260) (tgt := 1293) (by first | exact mp_fd_ok mp_k_code_ok (by decide +kernel) | decide +kernel) (by omega) (by omega) (by rw [c_90]; rfl) (by decide) ?_
                  exact mp_case_35 hL h3 hi0 hq6 hSL hW hWI hA hB hqk hqn KK
              · skip
                by_cases c_91 : z_12.toInt ≤ 36
                · skip
                  have c_92 : z_12.toInt = 36 := by omega
                  refine mp_tabIn hF (dflt := 2185) (lo := 0) (hi := 59) (offs := mp_loffs) (len := 255) (off := 1293) (tgt := 1326) (by first | exact mp_fd_ok mp_k_code_ok (by decide +kernel) | decide +kernel) (by omega) (by omega) (by rw [c_92]; rfl) (by decide) ?_
                  exact mp_case_36 hL h3 hi0 hq6 hSL hW hWI hA hB hqk hqn KK
                · skip
                  have c_93 : z_12.toInt = 37 := by omega
                  refine mp_tabIn hF (dflt := 2185) (lo := 0) (hi := 59) (offs := mp_loffs) (len := 255) (off := 1306) (tgt := 1339) (by first | exact mp_fd_ok mp_k_code_ok (by decide +kernel) | decide +kernel) (by omega) (by omega) (by rw [c_93]; rfl) (by decide) ?_
                  exact mp_case_37 hL h3 hi0 hq6 hSL hW hWI hA hB hqk hqn KK
          · skip
            by_cases c_94 : z_12.toInt ≤ 41
            · skip
              by_cases c_95 : z_12.toInt ≤ 39
              · skip
                by_cases c_96 : z_12.toInt ≤ 38
                · skip
                  have c_97 : z_12.toInt = 38 := by omega
                  refine mp_tabIn hF (dflt := 2185) (lo := 0) (hi := 59) (offs := mp_loffs) (len := 255) (off := 1329) (tgt := 1362) (by first | exact mp_fd_ok mp_k_code_ok (by decide +kernel) | decide +kernel) (by omega) (by omega) (by rw [c_97]; rfl) (by decide) ?_
                  exact mp_case_38 hL h3 hi0 hq6 hSL hW hWI hA hB hqk hqn KK
                · skip
                  have c_98 : z_12.toInt = 39 := by omega
                  refine mp_tabIn hF (dflt := 2185) (lo := 0) (hi := 59) (offs := mp_loffs) (len := 255) (off := 1362) (tgt := 1395) (by first | exact mp_fd_ok mp_k_code_ok (by decide +kernel) | decide +kernel) (by omega) (by omega) (by rw [c_98]; rfl) (by decide) ?_
                  exact mp_case_39 hL h3 hi0 hq6 hSL hW hWI hA hB hqk hqn KK
              · skip
                by_cases c_99 : z_12.toInt ≤ 40
                · skip
                  have c_100 : z_12.toInt = 40 := by omega
                  refine mp_tabIn hF (dflt := 2185) (lo := 0) (hi := 59) (offs := mp_loffs) (len := 255) (off := 1415) (tgt := 1448) (by first | exact mp_fd_ok mp_k_code_ok (by decide +kernel) | decide +kernel) (by omega) (by omega) (by rw [c_100]; rfl) (by decide) ?_
                  exact mp_case_40 hL h3 hi0 hq6 hSL hW hWI hA hB hqk hqn KK
                · skip
                  have c_101 : z_12.toInt = 41 := by omega
                  refine mp_tabIn hF (dflt := 2185) (lo := 0) (hi := 59) (offs := mp_loffs) (len := 255) (off := 1448) (tgt := 1481) (by first | exact mp_fd_ok mp_k_code_ok (by decide +kernel) | decide +kernel) (by omega) (by omega) (by rw [c_101]; rfl) (by decide) ?_
                  exact mp_case_41 hL h3 hi0 hq6 hSL hW hWI hA hB hqk hqn KK
            · skip
              by_cases c_102 : z_12.toInt ≤ 43
              · skip
                by_cases c_103 : z_12.toInt ≤ 42
                · skip
                  have c_104 : z_12.toInt = 42 := by omega
                  refine mp_tabIn hF (dflt := 2185) (lo := 0) (hi := 59) (offs := mp_loffs) (len := 255) (off := 1491) (tgt := 1524) (by first | exact mp_fd_ok mp_k_code_ok (by decide +kernel) | decide +kernel) (by omega) (by omega) (by rw [c_104]; rfl) (by decide) ?_
                  exact mp_case_42 hL h3 hi0 hq6 hSL hW hWI hA hB hqk hqn KK
                · skip
                  have c_105 : z_12.toInt = 43 := by omega
                  refine mp_tabIn hF (dflt := 2185) (lo := 0) (hi := 59) (offs := mp_loffs) (len := 255) (off := 1524) (tgt := 1557) (by first | exact mp_fd_ok mp_k_code_ok (by decide +kernel) | decide +kernel) (by omega) (by omega) (by rw [c_105]; rfl) (by decide) ?_
                  exact mp_case_43 hL h3 hi0 hq6 hSL hW hWI hA hB hqk hqn KK
              · skip
                have c_106 : z_12.toInt = 44 := by omega
                refine mp_tabIn hF (dflt := 2185) (lo := 0) (hi := 59) (offs := mp_loffs) (len := 255) (off := 1557) (tgt := 1590) (by first | exact mp_fd_ok mp_k_code_ok (by decide +kernel) | decide +kernel) (by omega) (by omega) (by rw [c_106]; rfl) (by decide) ?_
                exact mp_case_44 hL h3 hi0 hq6 hSL hW hWI hA hB hqk hqn KK
        · skip
          by_cases c_107 : z_12.toInt ≤ 52
          · skip
            by_cases c_108 : z_12.toInt ≤ 48
            · skip
              by_cases c_109 : z_12.toInt ≤ 46
              · skip
                by_cases c_110 : z_12.toInt ≤ 45
                · skip
                  have c_111 : z_12.toInt = 45 := by omega
                  refine mp_tabIn hF (dflt := 2185) (lo := 0) (hi := 59) (offs := mp_loffs) (len := 255) (off := 1590) (tgt := 1623) (by first | exact mp_fd_ok mp_k_code_ok (by decide +kernel) | decide +kernel) (by omega) (by omega) (by rw [c_111]; rfl) (by decide) ?_
                  exact mp_case_45 hL h3 hi0 hq6 hSL hW hWI hA hB hqk hqn KK
                · skip
                  have c_112 : z_12.toInt = 46 := by omega
                  refine mp_tabIn hF (dflt := 2185) (lo := 0) (hi := 59) (offs := mp_loffs) (len := 255) (off := 1633) (tgt := 1666) (by first | exact mp_fd_ok mp_k_code_ok (by decide +kernel) | decide +kernel) (by omega) (by omega) (by rw [c_112]; rfl) (by decide) ?_
                  exact mp_case_46 hL h3 hi0 hq6 hSL hW hWI hA hB hqk hqn KK
              · skip
                by_cases c_113 : z_12.toInt ≤ 47
                · skip
                  have c_114 : z_12.toInt = 47 := by omega
                  refine mp_tabIn hF (dflt := 2185) (lo := 0) (hi := 59) (offs := mp_loffs) (len := 255) (off := 1656) (tgt := 1689) (by first | exact mp_fd_ok mp_k_code_ok (by decide +kernel) | decide +kernel) (by omega) (by omega) (by rw [c_114]; rfl) (by decide) ?_
                  exact mp_case_47 hL h3 hi0 hq6 hSL hW hWI hA hB hqk hqn KK
                · skip
                  have c_115 : z_12.toInt = 48 := by omega
                  refine mp_tabIn hF (dflt := 2185) (lo := 0) (hi := 59) (offs := mp_loffs) (len := 255) (off := 1679) (tgt := 1712) (by first | exact mp_fd_ok mp_k_code_ok (by decide +kernel) | decide +kernel) (by omega) (by omega) (by rw [c_115]; rfl) (by decide) ?_
                  exact mp_case_48 hL h3 hi0 hq6 hSL hW hWI hA hB hqk hqn KK
            · skip
              by_cases c_116 : z_12.toInt ≤ 50
              · skip
                by_cases c_117 : z_12.toInt ≤ 49
                · skip
                  have c_118 : z_12.toInt = 49 := by omega
                  refine mp_tabIn hF (dflt := 2185) (lo := 0) (hi := 59) (offs := mp_loffs) (len := 255) (off := 1722) (tgt := 1755) (by first | exact mp_fd_ok mp_k_code_ok (by decide +kernel) | decide +kernel) (by omega) (by omega) (by rw [c_118]; rfl) (by decide) ?_
                  exact mp_case_49 hL h3 hi0 hq6 hSL hW hWI hA hB hqk hqn KK
                · skip
                  have c_119 : z_12.toInt = 50 := by omega
                  refine mp_tabIn hF (dflt := 2185) (lo := 0) (hi := 59) (offs := mp_loffs) (len := 255) (off := 1765) (tgt := 1798) (by first | exact mp_fd_ok mp_k_code_ok (by decide +kernel) | decide +kernel) (by omega) (by omega) (by rw [c_119]; rfl) (by decide) ?_
                  exact mp_case_50 hL h3 hi0 hq6 hSL hW hWI hA hB hqk hqn KK
              · skip
                by_cases c_120 : z_12.toInt ≤ 51
                · skip
                  have c_121 : z_12.toInt = 51 := by omega
                  refine mp_tabIn hF (dflt := 2185) (lo := 0) (hi := 59) (offs := mp_loffs) (len := 255) (off := 1818) (tgt := 1851) (by first | exact mp_fd_ok mp_k_code_ok (by decide +kernel) | decide +kernel) (by omega) (by omega) (by rw [c_121]; rfl) (by decide) ?_
                  exact mp_case_51 hL h3 hi0 hq6 hSL hW hWI hA hB hqk hqn KK
                · skip
                  have c_122 : z_12.toInt = 52 := by omega
                  refine mp_tabIn hF (dflt := 2185) (lo := 0) (hi := 59) (offs := mp_loffs) (len := 255) (off := 1861) (tgt := 1894) (by first | exact mp_fd_ok mp_k_code_ok (by decide +kernel) | decide +kernel) (by omega) (by omega) (by rw [c_122]; rfl) (by decide) ?_
                  exact mp_case_52 hL h3 hi0 hq6 hSL hW hWI hA hB hqk hqn KK
          · skip
            by_cases c_123 : z_12.toInt ≤ 56
            · skip
              by_cases c_124 : z_12.toInt ≤ 54
              · skip
                by_cases c_125 : z_12.toInt ≤ 53
                · skip
                  have c_126 : z_12.toInt = 53 := by omega
                  refine mp_tabIn hF (dflt := 2185) (lo := 0) (hi := 59) (offs := mp_loffs) (len := 255) (off := 1904) (tgt := 1937) (by first | exact mp_fd_ok mp_k_code_ok (by decide +kernel) | decide +kernel) (by omega) (by omega) (by rw [c_126]; rfl) (by decide) ?_
                  exact mp_case_53 hL h3 hi0 hq6 hSL hW hWI hA hB hqk hqn KK
                · skip
                  have c_127 : z_12.toInt = 54 := by omega
                  refine mp_tabIn hF (dflt := 2185) (lo := 0) (hi := 59) (offs := mp_loffs) (len := 255) (off := 1937) (tgt := 1970) (by first | exact mp_fd_ok mp_k_code_ok (by decide +kernel) | decide +kernel) (by omega) (by omega) (by rw [c_127]; rfl) (by decide) ?_
                  exact mp_case_54 hL h3 hi0 hq6 hSL hW hWI hA hB hqk hqn KK
              · skip
                by_cases c_128 : z_12.toInt ≤ 55
                · skip
                  have c_129 : z_12.toInt = 55 := by omega
                  refine mp_tabIn hF (dflt := 2185) (lo := 0) (hi := 59) (offs := mp_loffs) (len := 255) (off := 1960) (tgt := 1993) (by first | exact mp_fd_ok mp_k_code_ok (by decide +kernel) | decide +kernel) (by omega) (by omega) (by rw [c_129]; rfl) (by decide) ?_
                  exact mp_case_55 hL h3 hi0 hq6 hSL hW hWI hA hB hqk hqn KK
                · skip
                  have c_130 : z_12.toInt = 56 := by omega
                  refine mp_tabIn hF (dflt := 2185) (lo := 0) (hi := 59) (offs := mp_loffs) (len := 255) (off := 1983) (tgt := 2016) (by first | exact mp_fd_ok mp_k_code_ok (by decide +kernel) | decide +kernel) (by omega) (by omega) (by rw [c_130]; rfl) (by decide) ?_
                  exact mp_case_56 hL h3 hi0 hq6 hSL hW hWI hA hB hqk hqn KK
            · skip
              by_cases c_131 : z_12.toInt ≤ 58
              · skip
                by_cases c_132 : z_12.toInt ≤ 57
                · skip
                  have c_133 : z_12.toInt = 57 := by omega
                  refine mp_tabIn hF (dflt := 2185) (lo := 0) (hi := 59) (offs := mp_loffs) (len := 255) (off := 2006) (tgt := 2039) (by first | exact mp_fd_ok mp_k_code_ok (by decide +kernel) | decide +kernel) (by omega) (by omega) (by rw [c_133]; rfl) (by decide) ?_
                  exact mp_case_57 hL h3 hi0 hq6 hSL hW hWI hA hB hqk hqn KK
                · skip
                  have c_134 : z_12.toInt = 58 := by omega
                  refine mp_tabIn hF (dflt := 2185) (lo := 0) (hi := 59) (offs := mp_loffs) (len := 255) (off := 2049) (tgt := 2082) (by first | exact mp_fd_ok mp_k_code_ok (by decide +kernel) | decide +kernel) (by omega) (by omega) (by rw [c_134]; rfl) (by decide) ?_
                  exact mp_case_58 hL h3 hi0 hq6 hSL hW hWI hA hB hqk hqn KK
              · skip
                have c_135 : z_12.toInt = 59 := by omega
                refine mp_tabIn hF (dflt := 2185) (lo := 0) (hi := 59) (offs := mp_loffs) (len := 255) (off := 2122) (tgt := 2155) (by first | exact mp_fd_ok mp_k_code_ok (by decide +kernel) | decide +kernel) (by omega) (by omega) (by rw [c_135]; rfl) (by decide) ?_
                exact mp_case_59 hL h3 hi0 hq6 hSL hW hWI hA hB hqk hqn KK
